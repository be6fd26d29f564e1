-- deps: B3.h
/-! makes answers alike and keeps the relation -/
theorem mkC_st {Y : MS} {v1 v2 : List Int} {t : Nat} {ws2 : List (List Int)} (h : mkC Y v1 v2 (t + 1) ws2) : ∃ ws w d, mkC Y v1 v2 t ws ∧ ws[t / 2]? = some w ∧ w.length + (mkV v1 v2 t).length ≤ 60 ∧ nfP Y (w ++ mkV v1 v2 t) d ∧ ((d ∈ ws ∧ ws2 = ws) ∨ (d ∉ ws ∧ ws.length ≠ 300 ∧ ws2 = ws ++ [d])) := h
theorem mkC_one {Y : MS} (cf : cfl Y) {v1 v2 : List Int} : ∀ (t : Nat) (us ws : List (List Int)), mkC Y v1 v2 t us → mkC Y v1 v2 t ws → us = ws := by
  intro t
  induction t with
  | zero => intro u w h1 h2; exact h1.trans h2.symm
  | succ t ih =>
    intro u w h1 h2
    obtain ⟨as, a, d, a1, a2, a3, a4, a5⟩ := mkC_st h1
    obtain ⟨bs, b, e, b1, b2, b3, b4, b5⟩ := mkC_st h2
    have e1 := ih as bs a1 b1
    rw [e1] at a2 a5
    have e2 : a = b := by rw [a2] at b2; exact Option.some.inj b2
    rw [e2] at a4
    have e3 : d = e := nf_one cf.1 (noL_irr a4.1) (noL_irr b4.1) a4.2 b4.2
    rw [e3] at a5
    rcases a5 with ⟨p1, p2⟩ | ⟨p1, _, p2⟩ <;> rcases b5 with ⟨q1, q2⟩ | ⟨q1, _, q2⟩
    · rw [p2, q2]
    · exact absurd p1 q1
    · exact absurd q1 p1
    · rw [p2, q2]
theorem mkC_dn {Y : MS} {v1 v2 : List Int} : ∀ (k : Nat) (us : List (List Int)), mkC Y v1 v2 k us → ∀ t, t < k → ∃ ws w d, mkC Y v1 v2 t ws ∧ ws[t / 2]? = some w ∧ w.length + (mkV v1 v2 t).length ≤ 60 ∧ nfP Y (w ++ mkV v1 v2 t) d ∧ (d ∈ ws ∨ ws.length ≠ 300) := by
  intro k
  induction k with
  | zero => intro u _ i hi; exfalso; omega
  | succ k ih =>
    intro u h i hi
    obtain ⟨as, a, d, a1, a2, a3, a4, a5⟩ := mkC_st h
    by_cases e : i = k
    · rw [e]
      refine ⟨as, a, d, a1, a2, a3, a4, ?_⟩
      rcases a5 with ⟨p1, _⟩ | ⟨_, p2, _⟩
      · exact Or.inl p1
      · exact Or.inr p2
    · exact ih as a1 i (by omega)
/-- what makes comes to -/
def mkG (Y : MS) (v1 v2 : List Int) : Prop := ∃ t ws w, mkC Y v1 v2 t ws ∧ ws[t / 2]? = some w ∧ (60 < w.length + (mkV v1 v2 t).length ∨ ∃ d, w.length + (mkV v1 v2 t).length ≤ 60 ∧ nfP Y (w ++ mkV v1 v2 t) d ∧ d ∉ ws ∧ ws.length = 300)
def mkR (Y : MS) (v1 v2 : List Int) (q : Int) : Prop := (q = -4 ∧ mkG Y v1 v2) ∨ ∃ ws, mkC Y v1 v2 (2 * ws.length) ws ∧ q = (ws.length : Int)
theorem mk_top {Y : MS} (cf : cfl Y) {v1 v2 : List Int} {ws us : List (List Int)} {t : Nat} (a : mkC Y v1 v2 (2 * ws.length) ws) (b : mkC Y v1 v2 t us) : t ≤ 2 * ws.length := by
  rcases Nat.lt_or_ge (2 * ws.length) t with c | c
  · exfalso
    obtain ⟨xs, w, _, x1, x2, _⟩ := mkC_dn t us b (2 * ws.length) c
    rw [mkC_one cf _ xs ws x1 a, show 2 * ws.length / 2 = ws.length by omega, List.getElem?_eq_none (Nat.le_refl _)] at x2
    exact absurd x2 (by intro h9; cases h9)
  · exact c
theorem mk_AB {Y : MS} (cf : cfl Y) {v1 v2 : List Int} (h : mkG Y v1 v2) {ws : List (List Int)} (a : mkC Y v1 v2 (2 * ws.length) ws) : False := by
  obtain ⟨t, us, w, b, b2, b3⟩ := h
  have l := mk_top cf a b
  rcases Nat.lt_or_eq_of_le l with c | c
  · obtain ⟨xs, x, d, x1, x2, x3, x4, x5⟩ := mkC_dn _ ws a t c
    rw [mkC_one cf _ xs us x1 b] at x2 x5
    have e : x = w := by rw [x2] at b2; exact Option.some.inj b2
    rw [e] at x3 x4
    rcases b3 with b3 | ⟨d2, _, y1, y2, y3⟩
    · omega
    · have e3 : d = d2 := nf_one cf.1 (noL_irr x4.1) (noL_irr y1.1) x4.2 y1.2
      rw [e3] at x5
      rcases x5 with z | z
      · exact y2 z
      · exact z y3
  · rw [c] at b b2
    rw [mkC_one cf _ us ws b a, show 2 * ws.length / 2 = ws.length by omega, List.getElem?_eq_none (Nat.le_refl _)] at b2
    exact absurd b2 (by intro h9; cases h9)
theorem mkR_one {Y : MS} (cf : cfl Y) {v1 v2 : List Int} {p q : Int} (h : mkR Y v1 v2 p) (g : mkR Y v1 v2 q) : p = q := by
  rcases h with ⟨h0, h1⟩ | ⟨ws, h1, h2⟩ <;> rcases g with ⟨g0, g1⟩ | ⟨us, g1, g2⟩
  · rw [h0, g0]
  · exact (mk_AB cf h1 g1).elim
  · exact (mk_AB cf g1 h1).elim
  · have a := mk_top cf h1 g1
    have b := mk_top cf g1 h1
    rw [h2, g2]
    omega
theorem mf_step {Q : KS} {Y : MS} (h : Rel Q Y) (m1 : (F_m_isMachine Y).1 = 1) {w1 : Nat} (h1 : w1 = 73 ∨ w1 = 75) {v : List Int} (wv : wL Q w1 v) (gv : wG Q w1) {Ls : List (List Int)} (ml : mdL Q Ls) {i : Nat} {V0 : List Int} (hV : Ls[i]? = some V0) : Rel (F_t_makeFrom Q w1 (i : Int)).2 Y ∧ (∀ w x, w = 73 ∨ w = 75 → wL Q w x → wG Q w → wL (F_t_makeFrom Q w1 (i : Int)).2 w x ∧ wG (F_t_makeFrom Q w1 (i : Int)).2 w) ∧ ((60 < V0.length + v.length ∧ (F_t_makeFrom Q w1 (i : Int)).1 = 0) ∨ (V0.length + v.length ≤ 60 ∧ ∃ d, nfP Y (V0 ++ v) d ∧ ((d ∈ Ls ∧ (F_t_makeFrom Q w1 (i : Int)).1 = 1 ∧ mdL (F_t_makeFrom Q w1 (i : Int)).2 Ls) ∨ (d ∉ Ls ∧ Ls.length ≠ 300 ∧ (F_t_makeFrom Q w1 (i : Int)).1 = 1 ∧ mdL (F_t_makeFrom Q w1 (i : Int)).2 (Ls ++ [d])) ∨ (d ∉ Ls ∧ Ls.length = 300 ∧ (F_t_makeFrom Q w1 (i : Int)).1 = 0)))) := by
  obtain ⟨ki, mv, sw, wd, sn⟩ := id h
  obtain ⟨mc, p1, p16⟩ := mc_of h m1
  have ok := ki.2.2.2.2.1.2.2.2 p16
  have hw : kW w1 = true := by rcases h1 with e | e <;> rw [e] <;> rfl
  have kj := ki.2.2.2.2.2.2.1
  have kd := ki.2.2.2.1
  have hi : i < Ls.length := by
    rcases Nat.lt_or_ge i Ls.length with c | c
    · exact c
    · rw [List.getElem?_eq_none c] at hV; exact absurd hV (by intro h9; cases h9)
  have l1 := ml.1
  have l3 := ml.2.1
  obtain ⟨X1, X2, X3, X4, X5⟩ := makeFrom_x ok kd.2.2 hw (by omega) (by omega) gv kj.1 ml (i0 := (i : Int)) (by omega) (by omega) (V0 := V0) (by rw [Int.toNat_natCast]; exact hV)
  have f := F_t_makeFrom_fr Q w1 (i : Int)
  rw [wL_S wv] at X5
  have R : Rel (F_t_makeFrom Q w1 (i : Int)).2 Y := by
    refine Rel_gen h f (by unfold okS; decide) (by unfold okA; decide) ?_ (fun _ _ h9 => ?_) (fun _ _ => X1) (KB_ok X1) ⟨?_, ?_, X2⟩ (KH_g f (by decide) (by decide) ki.2.2.2.2.2.1) ⟨X3, ?_, ?_, ?_, ?_⟩ (sm_rf [] [] Y) nil_a nil_a (fun q => q) (fun _ _ _ _ => rfl) (fun q => q) mv (wdE_g f (by decide) (by decide) wd)
    · unfold jnR
      rw [f.1 56 1 (by decide) (by decide), f.2 57 (by decide) (by decide)]
      exact ki.1.2.1
    · rw [f.2 57 (by decide) (by decide)]; exact ⟨h9, fun _ _ _ => rfl⟩
    · rw [f.2 74 (by decide) (by decide)]; exact kd.1
    · rw [f.2 76 (by decide) (by decide)]; exact kd.2.1
    · unfold waR; rw [f.1 82 1 (by decide) (by decide), f.2 83 (by decide) (by decide), f.2 81 (by decide) (by decide)]; exact kj.2.1
    · unfold dz; rw [f.1 64 4 (by decide) (by decide), f.1 64 5 (by decide) (by decide)]; exact kj.2.2.1
    · rw [f.2 69 (by decide) (by decide)]; exact kj.2.2.2.1
    · rw [f.1 64 9 (by decide) (by decide)]; exact kj.2.2.2.2
  refine ⟨R, fun w x hw9 wl g => ?_, ?_⟩
  · rcases hw9 with e | e <;> rw [e] at wl g ⊢
    · exact ⟨⟨by rw [f.1 73 1 (by decide) (by decide)]; exact wl.1, by rw [f.2 74 (by decide) (by decide)]; exact wl.2⟩, X4 73 rfl (by decide) (by decide) g⟩
    · exact ⟨⟨by rw [f.1 75 1 (by decide) (by decide)]; exact wl.1, by rw [f.2 76 (by decide) (by decide)]; exact wl.2⟩, X4 75 rfl (by decide) (by decide) g⟩
  · rcases X5 with ⟨c1, c2, _⟩ | ⟨c1, V, _, _, c4, c5, c6⟩
    · exact Or.inl ⟨c1, c2⟩
    · obtain ⟨e1, e2⟩ := mc.2.2.2.2.2.2.2
      refine Or.inr ⟨c1, V, ⟨by rw [← e1]; exact noL_c (fun r hr => (e2 r hr).1) c5, by rw [← e1]; exact rch_c e2 c4⟩, ?_⟩
      rcases c6 with ⟨z1, z2, z3⟩ | ⟨z1, z2, z3, z4⟩ | ⟨z1, z2, z3, _⟩
      · exact Or.inl ⟨z1, z2, z3⟩
      · exact Or.inr (Or.inl ⟨z1, by omega, z3, z4⟩)
      · exact Or.inr (Or.inr ⟨z1, by omega, z3⟩)
def mkS (Q : KS) (Y : MS) (v1 v2 : List Int) (ws : List (List Int)) : Prop := Rel Q Y ∧ (wL Q 73 v1 ∧ wG Q 73) ∧ (wL Q 75 v2 ∧ wG Q 75) ∧ mdL Q ws
/-- one making of two -/
theorem mk_1 {Y : MS} (m1 : (F_m_isMachine Y).1 = 1) {v1 v2 : List Int} {Q : KS} {ws : List (List Int)} (s : mkS Q Y v1 v2 ws) {i t : Nat} (hi : i < ws.length) (ht : t / 2 = i) (pc : mkC Y v1 v2 t ws) {w1 : Nat} (hw : (t % 2 = 0 ∧ w1 = 73) ∨ (t % 2 = 1 ∧ w1 = 75)) : Rel (F_t_makeFrom Q w1 (i : Int)).2 Y ∧ (((F_t_makeFrom Q w1 (i : Int)).1 = 0 ∧ mkG Y v1 v2) ∨ ((F_t_makeFrom Q w1 (i : Int)).1 = 1 ∧ ∃ ws2, ws.length ≤ ws2.length ∧ mkC Y v1 v2 (t + 1) ws2 ∧ mkS (F_t_makeFrom Q w1 (i : Int)).2 Y v1 v2 ws2)) := by
  obtain ⟨s1, s2, s3, s4⟩ := s
  have hV : ws[i]? = some ws[i] := List.getElem?_eq_getElem hi
  have key : ∀ v, v = mkV v1 v2 t → wL Q w1 v → wG Q w1 → Rel (F_t_makeFrom Q w1 (i : Int)).2 Y ∧ (((F_t_makeFrom Q w1 (i : Int)).1 = 0 ∧ mkG Y v1 v2) ∨ ((F_t_makeFrom Q w1 (i : Int)).1 = 1 ∧ ∃ ws2, ws.length ≤ ws2.length ∧ mkC Y v1 v2 (t + 1) ws2 ∧ mkS (F_t_makeFrom Q w1 (i : Int)).2 Y v1 v2 ws2)) := fun v ev wv gv => by
    obtain ⟨R, k, X⟩ := mf_step s1 m1 (w1 := w1) (by omega) wv gv s4 hV
    refine ⟨R, ?_⟩
    have k73 := k 73 v1 (Or.inl rfl) s2.1 s2.2
    have k75 := k 75 v2 (Or.inr rfl) s3.1 s3.2
    rw [ev] at X
    have hV2 : ws[t / 2]? = some ws[i] := by rw [ht]; exact hV
    rcases X with ⟨c1, c2⟩ | ⟨c1, d, c2, X⟩
    · exact Or.inl ⟨c2, t, ws, ws[i], pc, hV2, Or.inl c1⟩
    · rcases X with ⟨z1, z2, z3⟩ | ⟨z1, z2, z3, z4⟩ | ⟨z1, z2, z3⟩
      · exact Or.inr ⟨z2, ws, Nat.le_refl _, ⟨ws, ws[i], d, pc, hV2, c1, c2, Or.inl ⟨z1, rfl⟩⟩, R, k73, k75, z3⟩
      · exact Or.inr ⟨z3, ws ++ [d], by rw [List.length_append]; omega, ⟨ws, ws[i], d, pc, hV2, c1, c2, Or.inr ⟨z1, z2, rfl⟩⟩, R, k73, k75, z4⟩
      · exact Or.inl ⟨z3, t, ws, ws[i], pc, hV2, Or.inr ⟨d, c1, c2, z1, z2⟩⟩
  rcases hw with ⟨e1, e2⟩ | ⟨e1, e2⟩
  · rw [e2] at key ⊢
    exact key v1 (by unfold mkV; rw [if_pos e1]) s2.1 s2.2
  · rw [e2] at key ⊢
    exact key v2 (by unfold mkV; rw [if_neg (by omega)]) s3.1 s3.2
theorem makes_s {Y : MS} (m1 : (F_m_isMachine Y).1 = 1) {v1 v2 : List Int} {a b : Int} : ∀ (n i : Nat) (Q : KS) (ws : List (List Int)), mkS Q Y v1 v2 ws → mkC Y v1 v2 (2 * i) ws → i ≤ ws.length → 300 - i < n → mkR Y v1 v2 (F_t_makes_s n 0 Q a b (i : Int)).1 ∧ Rel (F_t_makes_s n 0 Q a b (i : Int)).2 Y := by
  intro n
  induction n with
  | zero => intro i Q ws _ _ _ h; exfalso; omega
  | succ n ih =>
    intro i Q ws s pc hi fu
    rw [F_t_makes_e0]
    have ml := s.2.2.2
    have l1 := ml.1
    have l3 := ml.2.1
    have fin : i = ws.length → mkR Y v1 v2 (Q.1 84 2) := fun e => by
      rw [e] at pc
      exact Or.inr ⟨ws, pc, l1⟩
    by_cases c : (300 : Int) ≤ (i : Int)
    · rw [if_pos c]; exact ⟨fin (by omega), s.1⟩
    · rw [if_neg c]
      by_cases c2 : Q.1 84 2 ≤ (i : Int)
      · rw [if_pos c2]; exact ⟨fin (by omega), s.1⟩
      · rw [if_neg c2]
        obtain ⟨R1, X1⟩ := mk_1 m1 s (i := i) (t := 2 * i) (by omega) (by omega) pc (w1 := 73) (Or.inl ⟨by omega, rfl⟩)
        rcases X1 with ⟨x1, x2⟩ | ⟨x1, ws2, x2, x3, x4⟩
        · rw [if_pos x1]; exact ⟨Or.inl ⟨rfl, x2⟩, R1⟩
        · rw [if_neg (show ¬ (F_t_makeFrom Q 73 (i : Int)).1 = 0 by omega)]
          obtain ⟨R2, X2⟩ := mk_1 m1 x4 (i := i) (t := 2 * i + 1) (by omega) (by omega) x3 (w1 := 75) (Or.inr ⟨by omega, rfl⟩)
          rcases X2 with ⟨y1, y2⟩ | ⟨y1, ws3, y2, y3, y4⟩
          · rw [if_pos y1]; exact ⟨Or.inl ⟨rfl, y2⟩, R2⟩
          · rw [if_neg (show ¬ (F_t_makeFrom (F_t_makeFrom Q 73 (i : Int)).2 75 (i : Int)).1 = 0 by omega)]
            have := ih (i + 1) _ ws3 y4 (by rw [show 2 * (i + 1) = 2 * i + 1 + 1 by omega]; exact y3) (by omega) (by omega)
            exact this
