-- deps: 30 31 32 33 34 35 36 37 38 39 40 41 42 43 46 70 71 72 73 74 75 76 77 78 79 80 81 82 83 84 85 86 87 88 89 90 91 92 93 94.a 94.b 94.c 94.d 94.e
/-! growOn: till all LETTERS are back, or a LEFT side is in -/
def idX (y : KS) (P : List Int) : Prop := (∀ j, j < lvl y → y.2 98 j = 0) ∧ y.2 98 (lvl y) ≤ (P.length : Int)
theorem gTk_fr (y : KS) : ksame [] [97, 98] y (gTk y) := km_a (by decide) (km_a (by decide) (km_rf _ _ _))
theorem idX_back {y : KS} {P P' : List Int} (id : idX y P) (h : P'.length = P.length + 1) : idX (F_g_grow (gTk y)).2 P' := by
  have fr := F_g_grow_fr (gTk y)
  have e98 : (F_g_grow (gTk y)).2.2 98 = iU (y.2 98) (lvl y) (y.2 98 (lvl y) + 1) := by rw [fr.2 98 (by decide)]; exact (gTk_T y).2.2.2.1
  have el : lvl (F_g_grow (gTk y)).2 = lvl y := by rw [lvl_fr fr (by decide), lvl_fr (gTk_fr y) (by decide)]
  refine ⟨fun j hj => ?_, ?_⟩
  · rw [el] at hj
    rw [e98, iU_n (by omega)]
    exact id.1 j hj
  · rw [el, e98, iU_s, h]
    have := id.2
    push_cast
    omega
/-- how it ends -/
def goE (x : KS) (wl : Nat) (src S : List Int) (R : Int × KS) : Prop := (R.1 = 0 ∧ ∃ P, grI x R.2 src [] P [] ∧ P = S ∧ knR R.2 wl ∧ idX R.2 P) ∨ (R.1 = 1 ∧ ∃ Ah P B, Ah ++ (P ++ B.reverse) = S ∧ knR R.2 wl ∧ (grB x R.2 src Ah P B ∨ grA x R.2 src Ah P B) ∧ idX R.2 P)
theorem F_g_growOn_s_x {x : KS} (mx : mcX x) {wl : Nat} {src : List Int} : ∀ (n : Nat) (y : KS) (i : Int) (Ah P B : List Int), grI x y src Ah P B → knR y wl → idX y P → 0 ≤ i → i + Ah.length + B.length + lvl y ≤ 230 → Ah.length + B.length + lvl y < n → goE x wl src (Ah ++ (P ++ B.reverse)) (F_g_growOn_s n 0 y i) := by
  intro n
  induction n with
  | zero => intro y i Ah P B _ _ _ _ _ h; exfalso; omega
  | succ n ih =>
    intro y i Ah P B g kn id i0 h230 hn
    rw [growOn_e, if_neg (by omega)]
    have gl := g.1
    obtain ⟨sm, w88, w90, fr, ok1, ok2, h60, lv, st, low, ki, gw⟩ := gl
    by_cases c2 : y.2 97 (lvl y) ≤ 0
    · rw [if_pos c2]
      by_cases c3 : y.1 87 13 ≤ 0
      · rw [if_pos c3]
        have l0 : lvl y = 0 := by unfold lvl; omega
        rw [l0] at st c2
        obtain ⟨s1, s2, s3, s4⟩ := st
        have eB : B = [] := by
          have : B.reverse.length = 0 := by omega
          rw [List.length_reverse] at this
          exact List.length_eq_zero_iff.mp this
        subst s1; subst eB
        exact Or.inl ⟨rfl, P, g, by simp, kn, id⟩
      · rw [if_neg c3]
        obtain ⟨q1, q2, q3⟩ := gCl_x mx g kn (by omega) c2
        have fz := gCl_fr y
        refine ih (gCl y) (i + 1) Ah P B q1 q3 ⟨fun j hj => ?_, ?_⟩ (by omega) (by omega) (by omega)
        · rw [fz.2 98 (by decide)]; exact id.1 j (by omega)
        · rw [fz.2 98 (by decide), id.1 _ (by omega)]; omega
    · rw [if_neg c2]
      have h2 : y.2 98 (lvl y) < 1000 := by have := id.2; omega
      have knT : knR (F_g_grow (gTk y)).2 wl := knR_of (F_g_grow_fr (gTk y)) (by decide) (by decide) (by decide) (by decide) (by decide) (knR_of (gTk_fr y) (by decide) (by decide) (by decide) (by decide) (by decide) kn)
      rcases gw.2.2.2.2.2.2.2.2.1 (lvl y) with a0 | a0
      · have hne := stk_ne a0 (by omega) st
        obtain ⟨Bt, l, eB⟩ := snoc_of B (fun e => hne (by rw [e]; rfl))
        subst eB
        have es : Ah ++ (P ++ (Bt ++ [l]).reverse) = Ah ++ ((P ++ [l]) ++ Bt.reverse) := by simp
        have ib := idX_back (P' := P ++ [l]) id (by simp)
        rw [List.length_append, List.length_singleton] at h230 hn h60
        rcases F_g_grow_B mx g a0 (by omega) h2 with ⟨k1, k2, k3⟩ | ⟨k1, k2, k3⟩
        · rw [if_pos k1, es]
          exact ih _ (i + 1) Ah (P ++ [l]) Bt k2 knT ib (by omega) (by omega) (by omega)
        · rw [if_neg (by rw [k1]; decide)]
          have el : ((F_g_grow (gTk y)).2.1 87 13).toNat = lvl y := k2
          rw [el]
          refine Or.inr ⟨rfl, Ah, P ++ [l], Bt, es.symm, knR_of (S := []) (A := [98]) (km_a (by decide) (km_rf _ _ _)) (by decide) (by decide) (by decide) (by decide) (by decide) knT, Or.inl k3, fun j hj => ?_, ?_⟩
          · have hj' : j < lvl (F_g_grow (gTk y)).2 := hj
            show (kA (F_g_grow (gTk y)).2 98 (lvl y) 0).2 98 j = 0
            rw [kA_s, iU_n (by omega)]
            exact ib.1 j hj'
          · rw [k3.2.1]; omega
      · have hne := stk_neA a0 (by omega) st
        obtain ⟨At, l, eA⟩ := snoc_of Ah hne
        subst eA
        have es : (At ++ [l]) ++ (P ++ B.reverse) = At ++ ((l :: P) ++ B.reverse) := by simp
        have ib := idX_back (P' := l :: P) id (by simp)
        rw [List.length_append, List.length_singleton] at h230 hn h60
        rcases F_g_grow_A mx g a0 (by omega) h2 with ⟨k1, k2, k3⟩ | ⟨k1, k2, k3⟩
        · rw [if_pos k1, es]
          exact ih _ (i + 1) At (l :: P) B k2 knT ib (by omega) (by omega) (by omega)
        · rw [if_neg (by rw [k1]; decide)]
          have el : ((F_g_grow (gTk y)).2.1 87 13).toNat = lvl y := k2
          rw [el]
          refine Or.inr ⟨rfl, At, l :: P, B, es.symm, knR_of (S := []) (A := [98]) (km_a (by decide) (km_rf _ _ _)) (by decide) (by decide) (by decide) (by decide) (by decide) knT, Or.inr k3, fun j hj => ?_, ?_⟩
          · have hj' : j < lvl (F_g_grow (gTk y)).2 := hj
            show (kA (F_g_grow (gTk y)).2 98 (lvl y) 0).2 98 j = 0
            rw [kA_s, iU_n (by omega)]
            exact ib.1 j hj'
          · rw [k3.2.1]; omega
theorem lvl_61 {y : KS} (h : 0 ≤ y.1 87 13 ∧ y.1 87 13 ≤ 61) : lvl y ≤ 61 := by unfold lvl; omega
theorem F_g_growOn_x {x y : KS} (mx : mcX x) {wl : Nat} {src Ah P B : List Int} (g : grI x y src Ah P B) (kn : knR y wl) (id : idX y P) : goE x wl src (Ah ++ (P ++ B.reverse)) (F_g_growOn y) := by
  have h60 := g.1.2.2.2.2.2.2.1
  have hl := lvl_61 g.1.2.2.2.2.2.2.2.1
  exact F_g_growOn_s_x mx 300 y 0 Ah P B g kn id (by omega) (by omega) (by omega)
