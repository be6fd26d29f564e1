-- deps: 30 31 32 33 34 35 36 37 38 39 40 41 42 43 46 70 71 72 73 74 75 76 77 78 79 80 81 82 83 84 85 86 87 88 89 90 91 92 93 94 95.a 95.b 95.c 95.d 95.e 95.f
/-! what the Grower's calls may take for granted -/
def gOK (wl : Nat) (y : KS) : Prop := ∃ (x : KS) (src Ah P B : List Int), mcX x ∧ grI x y src Ah P B ∧ knR y wl ∧ idX y P
/-- what is simple of it -/
def gSg (wl : Nat) (y : KS) : Prop := maR y ∧ (1 ≤ y.1 1 2 ∧ y.1 1 2 ≤ 4) ∧ grW y ∧ (0 ≤ y.1 87 13 ∧ y.1 87 13 ≤ 61) ∧ (0 ≤ y.1 87 12 ∧ y.1 87 12 ≤ y.1 88 1) ∧ 0 ≤ y.1 88 1 ∧ 0 ≤ y.1 90 1 ∧ y.1 88 1 + y.1 90 1 ≤ 60 ∧ knR y wl
theorem gS_of {wl : Nat} {x y : KS} {src Ah P B : List Int} (m : mcX x) (g : grL x y src Ah P B) (kn : knR y wl) : gSg wl y := by
  obtain ⟨sm, w88, w90, fr, ok1, ok2, h60, lv, st, low, ki, gw⟩ := g
  have my := mcX_sM sm m
  have hl : (Ah ++ P).length = Ah.length + P.length := List.length_append
  exact ⟨my.2.2.2.2.1, my.1.1.1, gw, lv, by rw [fr, w88.1, hl]; omega, by rw [w88.1]; omega, by rw [w90.1]; omega, by rw [w88.1, w90.1, hl]; omega, kn⟩
theorem gOK_S {wl : Nat} {y : KS} (h : gOK wl y) : gSg wl y ∧ y.2 98 (lvl y) ≤ y.1 88 1 := by
  obtain ⟨x, src, Ah, P, B, m, g, kn, id⟩ := h
  refine ⟨gS_of m g.1 kn, ?_⟩
  have := id.2
  have w := g.1.2.1.1
  rw [List.length_append] at w
  omega
/-- a LETTER waits: there is one -/
theorem gOK_w {wl : Nat} {y : KS} (h : gOK wl y) (w1 : 0 < y.2 97 (lvl y)) : (y.2 99 (lvl y) = 0 → 1 ≤ y.1 90 1) ∧ (y.2 99 (lvl y) = 1 → 1 ≤ y.1 87 12) := by
  obtain ⟨x, src, Ah, P, B, m, g, kn, id⟩ := h
  obtain ⟨sm, w88, w90, fr, ok1, ok2, h60, lv, st, low, ki, gw⟩ := g.1
  refine ⟨fun a0 => ?_, fun a0 => ?_⟩
  · have := List.length_pos_iff.mpr (stk_ne a0 w1 st)
    rw [List.length_reverse] at this
    rw [w90.1]
    omega
  · have := List.length_pos_iff.mpr (stk_neA a0 w1 st)
    rw [fr]
    omega
theorem gOK_back {wl : Nat} {y : KS} (h : gOK wl y) (w1 : 0 < y.2 97 (lvl y)) (r0 : (F_g_grow (gTk y)).1 = 0) : gOK wl (F_g_grow (gTk y)).2 ∧ (F_g_grow (gTk y)).2.1 87 12 + (F_g_grow (gTk y)).2.1 90 1 + (F_g_grow (gTk y)).2.1 87 13 + 1 = y.1 87 12 + y.1 90 1 + y.1 87 13 := by
  obtain ⟨x, src, Ah, P, B, m, g, kn, id⟩ := h
  obtain ⟨sm, w88, w90, fr, ok1, ok2, h60, lv, st, low, ki, gw⟩ := g.1
  have h2 : y.2 98 (lvl y) < 1000 := by have := id.2; omega
  have knT : knR (F_g_grow (gTk y)).2 wl := knR_of (F_g_grow_fr (gTk y)) (by decide) (by decide) (by decide) (by decide) (by decide) (knR_of (gTk_fr y) (by decide) (by decide) (by decide) (by decide) (by decide) kn)
  have e13 : (F_g_grow (gTk y)).2.1 87 13 = y.1 87 13 := by rw [(F_g_grow_fr (gTk y)).1 87 13 (by decide), (gTk_fr y).1 87 13 (by decide)]
  rcases gw.2.2.2.2.2.2.2.2.1 (lvl y) with a0 | a0
  · obtain ⟨Bt, l, eB⟩ := snoc_of B (fun e => stk_ne a0 w1 st (by rw [e]; rfl))
    subst eB
    rcases F_g_grow_B m g a0 w1 h2 with ⟨_, k2, _⟩ | ⟨k1, _⟩
    · refine ⟨⟨x, src, Ah, P ++ [l], Bt, m, k2, knT, idX_back id (by simp)⟩, ?_⟩
      rw [e13, k2.1.2.2.1.1, k2.1.2.2.2.1, fr, w90.1, List.length_append, List.length_singleton]
      push_cast
      omega
    · rw [r0] at k1; exact absurd k1 (by decide)
  · obtain ⟨At, l, eA⟩ := snoc_of Ah (stk_neA a0 w1 st)
    subst eA
    rcases F_g_grow_A m g a0 w1 h2 with ⟨_, k2, _⟩ | ⟨k1, _⟩
    · refine ⟨⟨x, src, At, l :: P, B, m, k2, knT, idX_back id (by simp)⟩, ?_⟩
      rw [e13, k2.1.2.2.1.1, k2.1.2.2.2.1, fr, w90.1, List.length_append, List.length_singleton]
      push_cast
      omega
    · rw [r0] at k1; exact absurd k1 (by decide)
theorem gOK_cl {wl : Nat} {y z : KS} (h : gOK wl y) (l1 : 0 < y.1 87 13) (w0 : y.2 97 (lvl y) ≤ 0) (e : z = gCl y) : gOK wl z ∧ z.1 87 12 + z.1 90 1 + z.1 87 13 + 1 = y.1 87 12 + y.1 90 1 + y.1 87 13 := by
  subst e
  obtain ⟨x, src, Ah, P, B, m, g, kn, id⟩ := h
  obtain ⟨q1, q2, q3⟩ := gCl_x m g kn l1 w0
  have fz := gCl_fr y
  refine ⟨⟨x, src, Ah, P, B, m, q1, q3, fun j hj => ?_, ?_⟩, ?_⟩
  · rw [fz.2 98 (by decide)]; exact id.1 j (by omega)
  · rw [fz.2 98 (by decide), id.1 _ (by omega)]; omega
  · rw [fz.1 87 12 (by decide), fz.1 90 1 (by decide), show (gCl y).1 87 13 = y.1 87 13 - 1 from kS_s]
    omega
/-- the state that is read when a LETTER comes from behind -/
theorem gBq_s {x : KS} (ma : maR x) (l2 : 1 ≤ x.1 1 2 ∧ x.1 1 2 ≤ 4) (gw : grW x) (v1 : 1 ≤ x.1 90 1) (v2 : x.1 90 1 ≤ 60) (u0 : 0 ≤ x.1 88 1) (u1 : x.1 88 1 < 60) : F_w_dropLast x 90 = (x.2 91 (x.1 90 1 - 1).toNat, kS x 90 1 (x.1 90 1 - 1)) ∧ (F_w_push (F_w_dropLast x 90).2 88 (F_w_dropLast x 90).1).2 = kA (kS (kS x 90 1 (x.1 90 1 - 1)) 88 1 (x.1 88 1 + 1)) 89 (x.1 88 1).toNat (x.2 91 (x.1 90 1 - 1).toNat) := by
  have d := F_w_dropLast_90 v1 v2
  refine ⟨d, ?_⟩
  rw [d]
  have e : (kS x 90 1 (x.1 90 1 - 1)).1 88 1 = x.1 88 1 := by rw [kS_c (by decide)]
  have p := F_w_push_88 (x := kS x 90 1 (x.1 90 1 - 1)) (v := x.2 91 (x.1 90 1 - 1).toNat) (by omega) (by omega)
  rw [p, e]
theorem gBq_t {x q : KS} (ma : maR x) (l2 : 1 ≤ x.1 1 2 ∧ x.1 1 2 ≤ 4) (gw : grW x) (u0 : 0 ≤ x.1 88 1) (u1 : x.1 88 1 < 60) (e : q = kA (kS (kS x 90 1 (x.1 90 1 - 1)) 88 1 (x.1 88 1 + 1)) 89 (x.1 88 1).toNat (x.2 91 (x.1 90 1 - 1).toNat)) : maR q ∧ (1 ≤ q.1 1 2 ∧ q.1 1 2 ≤ 4) ∧ 0 ≤ q.1 88 1 ∧ q.1 88 1 ≤ 60 ∧ (∀ j : Nat, -1 ≤ q.2 89 j ∧ q.2 89 j ≤ 3) ∧ (∀ j : Nat, -1000 ≤ q.2 94 j ∧ q.2 94 j < 320) := by
  subst e
  have f : ksame [(90, 1), (88, 1)] [89] x (kA (kS (kS x 90 1 (x.1 90 1 - 1)) 88 1 (x.1 88 1 + 1)) 89 (x.1 88 1).toNat (x.2 91 (x.1 90 1 - 1).toNat)) := km_a (by decide) (km_s (by decide) (km_s (by decide) (km_rf _ _ _)))
  refine ⟨maR_of f (by decide) (by decide) (by decide) ma, by rw [f.1 1 2 (by decide)]; exact l2, ?_, ?_, ?_, ?_⟩
  · rw [kA_1, kS_s]; omega
  · rw [kA_1, kS_s]; omega
  · rw [kA_s, kS_2, kS_2]
    have := gw.2.1 (x.1 90 1 - 1).toNat
    exact iU_all (P := fun z => -1 ≤ z ∧ z ≤ 3) ⟨by omega, by omega⟩ (fun j => by have := gw.1 j; omega)
  · rw [f.2 94 (by decide)]; exact gw.2.2.2.1
