-- deps: 30 31 32 33 34 35 36 37 70 71 72 73 74 75 76
/-! the RULES stand in ORDER of their LEFT sides -/
def soI (y : KS) (c : Int) : Prop := 0 ≤ y.1 58 6 ∧ (∀ i j : Nat, i < j → (j : Int) < y.1 58 6 → y.2 59 i < y.2 59 j) ∧ (∀ i : Nat, (i : Int) < y.1 58 6 → y.2 59 i < c)
theorem soI_mono {y : KS} {c d : Int} (h : c ≤ d) (s : soI y c) : soI y d := ⟨s.1, s.2.1, fun i hi => by have := s.2.2 i hi; omega⟩
theorem soI_keep {y : KS} {a b c : Int} (h : soI y c) (hc : c ≤ a) : soI (F_u_keep y a b).2 (a + 1) := by
  obtain ⟨h0, h1, h2⟩ := h
  by_cases h40 : y.1 58 6 < 40
  · obtain ⟨k6, k59, _⟩ := F_u_keep_v (a := a) (b := b) h40
    refine ⟨by rw [k6]; omega, fun i j hij hj => ?_, fun i hi => ?_⟩
    · rw [k6] at hj
      rw [k59]
      by_cases cj : j = (y.1 58 6).toNat
      · rw [iU_n (show i ≠ (y.1 58 6).toNat by omega), cj, iU_s]
        have := h2 i (by omega)
        omega
      · rw [iU_n (show i ≠ (y.1 58 6).toNat by omega), iU_n cj]
        exact h1 i j hij (by omega)
    · rw [k6] at hi
      rw [k59]
      by_cases ci : i = (y.1 58 6).toNat
      · rw [ci, iU_s]; omega
      · rw [iU_n ci]
        have := h2 i (by omega)
        omega
  · have e : F_u_keep y a b = (0, y) := by unfold F_u_keep; rw [if_neg h40]
    rw [e]
    exact soI_mono (show c ≤ a + 1 by omega) ⟨h0, h1, h2⟩
theorem soI_of {S : List (Nat × Nat)} {A : List Nat} {x y : KS} {c : Int} (h : ksame S A x y) (h1 : (58, 6) ∉ S) (h2 : 59 ∉ A) (s : soI x c) : soI y c := by
  unfold soI
  rw [h.1 58 6 h1, h.2 59 h2]
  exact s
theorem F_u_gather_s_so {x : KS} (sx : scX x) {m0 : Int} (m2 : m0 ≤ x.1 1 3) : ∀ n : Nat, (∀ (y : KS) (g : Int), y.1 1 = x.1 1 → y.2 2 = x.2 2 → y.2 3 = x.2 3 → 1 ≤ g → g ≤ m0 + 1 → soI y (x.2 3 g.toNat) → ∃ c, soI (F_u_gather_s n 0 y m0 g 0 0 0).2 c) ∧ (∀ (y : KS) (g v : Int), y.1 1 = x.1 1 → y.2 2 = x.2 2 → y.2 3 = x.2 3 → 1 ≤ g → g ≤ m0 → 0 ≤ v → v ≤ x.2 2 g.toNat → soI y (x.2 3 g.toNat + v) → ∃ c, soI (F_u_gather_s n 1 y m0 g (x.2 3 g.toNat) (x.2 2 g.toNat) v).2 c) := by
  have l3 := sx.1.2.1
  intro n
  induction n with
  | zero => exact ⟨fun y g _ _ _ _ _ h => ⟨_, h⟩, fun y g v _ _ _ _ _ _ _ h => ⟨_, h⟩⟩
  | succ n ih =>
    refine ⟨fun y g e1 e2 e3 g1 g2 h => ?_, fun y g v e1 e2 e3 g1 g2 v0 v1 h => ?_⟩
    · rw [F_u_gather_e0]
      by_cases c1 : m0 < g
      · rw [if_pos c1]; exact ⟨_, h⟩
      · rw [if_neg c1, F_s_firstOf_v (by omega) (by rw [e1]; omega), F_s_powerOf_v (by omega) (by rw [e1]; omega), e2, e3]
        have p0 := sx.1.2.2.1 g.toNat (by omega)
        exact ih.2 y g 0 e1 e2 e3 g1 (by omega) (by omega) p0.1 (by rw [Int.add_zero]; exact h)
    · rw [F_u_gather_e1]
      by_cases c1 : x.2 2 g.toNat ≤ v
      · rw [if_pos c1]
        refine ih.1 y (g + 1) e1 e2 e3 (by omega) (by omega) ?_
        have st := sx.2.2.2.1 g.toNat (by omega)
        rw [show (g + 1).toNat = g.toNat + 1 by omega, st]
        exact soI_mono (by omega) h
      · rw [if_neg c1]
        have go := ih.2 y g (v + 1) e1 e2 e3 g1 g2 (by omega) (by omega) (soI_mono (by omega) h)
        by_cases c2 : (F_j_isLeast y (x.2 3 g.toNat + v)).1 = 0
        · rw [if_pos c2]
          by_cases c3 : (F_u_arePartsLeast y g v).1 = 0
          · rw [if_pos c3]; exact go
          · rw [if_neg c3]
            have fl := F_j_leastOf_fr y (x.2 3 g.toNat + v)
            have fk := F_u_keep_fr (F_j_leastOf y (x.2 3 g.toNat + v)).2 (x.2 3 g.toNat + v) (F_j_leastOf y (x.2 3 g.toNat + v)).1
            have s1 := soI_of fl (by decide) (by decide) h
            have s2 := soI_keep (a := x.2 3 g.toNat + v) (b := (F_j_leastOf y (x.2 3 g.toNat + v)).1) s1 (Int.le_refl _)
            by_cases c4 : (F_u_keep (F_j_leastOf y (x.2 3 g.toNat + v)).2 (x.2 3 g.toNat + v) (F_j_leastOf y (x.2 3 g.toNat + v)).1).1 = 0
            · rw [if_pos c4]; exact ⟨_, s2⟩
            · rw [if_neg c4]
              have q1 : (F_u_keep (F_j_leastOf y (x.2 3 g.toNat + v)).2 (x.2 3 g.toNat + v) (F_j_leastOf y (x.2 3 g.toNat + v)).1).2.1 1 = y.1 1 := funext fun k => (fk.1 1 k (by simp)).trans (fl.1 1 k (by simp))
              exact ih.2 _ g (v + 1) (q1.trans e1) (((fk.2 2 (by decide)).trans (fl.2 2 (by decide))).trans e2) (((fk.2 3 (by decide)).trans (fl.2 3 (by decide))).trans e3) g1 g2 (by omega) (by omega) (soI_mono (by omega) s2)
        · rw [if_neg c2]; exact go
theorem F_u_gather_so {x : KS} (sx : scX x) {m0 : Int} (m1 : 1 ≤ m0) (m2 : m0 ≤ x.1 1 3) : ∃ c, soI (F_u_gather x m0).2 c := by
  unfold F_u_gather
  refine (F_u_gather_s_so sx m2 _).1 _ 1 rfl rfl rfl (by omega) (by omega) ⟨by show (0 : Int) ≤ 0; decide, fun i j _ hj => ?_, fun i hi => ?_⟩
  · exact absurd hj (by show ¬ (j : Int) < 0; omega)
  · exact absurd hi (by show ¬ (i : Int) < 0; omega)
