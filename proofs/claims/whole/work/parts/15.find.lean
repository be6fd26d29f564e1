/-- the firsts are the sums of powers, up to M + 1 -/
def feOK (x : MS) : Prop := (x.1 0 = 1 ∧ x.1 7 ≤ 24) ∨ (x.1 0 ≠ 1 ∧ fR x ∧ ∃ M : Nat, M ≤ 20 ∧ (∀ k : Nat, k ≤ M + 1 → x.2 8 k = gS (x.1 0) k) ∧ x.1 7 = gS (x.1 0) (M + 1))
theorem feOK_same {S A : List Nat} {x y : MS} (h : feOK x) (g : same S A x y) (h0 : 0 ∉ S) (h7 : 7 ∉ S) (h8 : 8 ∉ A) : feOK y := by
  have e0 := g.1 0 h0
  have e7 := g.1 7 h7
  have e8 := g.2 8 h8
  unfold feOK fR at *
  rw [e0, e7, e8]
  exact h
theorem feOK_ly {x : MS} {w : Int} (h : feOK x) (hw : w < x.1 7) : lyOK x w := by
  rcases h with ⟨h1, h2⟩ | ⟨h1, h2, M, m1, m2, m3⟩
  · exact Or.inl ⟨h1, by omega⟩
  · exact Or.inr ⟨h1, h2, M + 1, by omega, by omega, by rw [m2 (M + 1) (Nat.le_refl _), ← m3]; exact hw⟩
/-- the word w is laid: its length is h + 1 -/
def wdOK (x : MS) (w : Int) : Prop := x.1 0 = 1 ∨ (x.1 0 ≠ 1 ∧ ∃ h : Nat, x.1 10 = h + 1 ∧ h ≤ 20 ∧ x.2 8 h = gS (x.1 0) h ∧ x.2 8 (h + 1) = gS (x.1 0) (h + 1) ∧ gS (x.1 0) (h + 1) ≤ w ∧ w < gS (x.1 0) (h + 2))
theorem wd_of {x : MS} {w : Int} (h : feOK x) (w1 : 1 ≤ w) (hw : w < x.1 7) : wdOK (F_m_layAny x w).2 w := by
  have fr := F_m_layAny_fr x w
  have e0 := fr.1 0 (by decide)
  have e8 := fr.2 8 (by decide)
  rcases h with ⟨h1, h2⟩ | ⟨h1, h2, M, m1, m2, m3⟩
  · exact Or.inl (by rw [e0]; exact h1)
  · refine Or.inr ⟨by rw [e0]; exact h1, ?_⟩
    have e : (F_m_layAny x w).2 = (F_m_lay x w).2 := by unfold F_m_layAny; rw [if_neg h1]
    have hK : w < x.2 8 (M + 1) := by rw [m2 (M + 1) (Nat.le_refl _), ← m3]; exact hw
    obtain ⟨v0, v1, v2, v3⟩ := F_m_lay_v (K := M + 1) (by omega) (by omega) hK (by rw [h2.1]; omega)
    rw [← e] at v0 v1 v2 v3
    have hne : (F_m_layAny x w).2.1 10 ≠ 0 := by
      intro hz
      rw [hz] at v3
      have : x.2 8 ((0 : Int) + 1).toNat = 1 := by rw [m2 _ (by show 1 ≤ M + 1; omega)]; rfl
      omega
    refine ⟨((F_m_layAny x w).2.1 10 - 1).toNat, by omega, by omega, ?_, ?_, ?_, ?_⟩
    · rw [e8, e0]; exact m2 _ (by omega)
    · rw [e8, e0]; exact m2 _ (by omega)
    · rw [e0, ← m2 _ (by omega)]
      have q : ((F_m_layAny x w).2.1 10 - 1).toNat + 1 = ((F_m_layAny x w).2.1 10).toNat := by omega
      rw [q]; exact v2
    · rw [e0, ← m2 _ (by omega)]
      have q : ((F_m_layAny x w).2.1 10 - 1).toNat + 2 = ((F_m_layAny x w).2.1 10 + 1).toNat := by omega
      rw [q]; exact v3
theorem gP_le_gS {L : Int} (h : 1 ≤ L) (k : Nat) : gP L k ≤ gS L (k + 1) := by
  show gP L k ≤ gS L k + gP L k
  have := gS_nn h k
  omega
theorem wd_first {x : MS} {w : Int} (hl : 1 ≤ x.1 0) (h : wdOK x w) (w2 : w ≤ 10000) : x.1 0 = 1 ∨ (1 ≤ x.1 10 ∧ x.1 10 ≤ 60 ∧ x.2 8 (x.1 10).toNat ≤ w ∧ 0 < (F_m_powerOf x (x.1 10 - 1)).1 ∧ iR (F_m_powerOf x (x.1 10 - 1)).1) := by
  rcases h with h | ⟨h1, k, k1, k2, k3, k4, k5, k6⟩
  · exact Or.inl h
  · have e1 : (x.1 10).toNat = k + 1 := by omega
    have e2 : (x.1 10 - 1).toNat = k := by omega
    have p := gP_pos hl k
    have q := gP_le_gS hl k
    refine Or.inr ⟨by omega, by omega, by rw [e1, k4]; exact k5, ?_, ?_⟩
    · rw [F_m_powerOf_v x (by omega) (by omega), e2]; omega
    · rw [F_m_powerOf_v x (by omega) (by omega), e2]; unfold iR; omega
theorem wd_first_v {x : MS} {w : Int} (hl : 1 ≤ x.1 0) (h : wdOK x w) (w1 : 1 ≤ w) (w2 : w ≤ 10000) : 0 ≤ (F_m_withoutFirst x w).1 ∧ (F_m_withoutFirst x w).1 < 10001 := by
  unfold F_m_withoutFirst
  rcases h with h | ⟨h1, k, k1, k2, k3, k4, k5, k6⟩
  · rw [if_pos h]; exact ⟨by show 0 ≤ w - 1; omega, by show w - 1 < 10001; omega⟩
  · rw [if_neg h1]
    have e1 : (x.1 10).toNat = k + 1 := by omega
    have e2 : (x.1 10 - 1).toNat = k := by omega
    have p := gP_pos hl k
    have a := gS_nn hl k
    have b : gS (x.1 0) (k + 1) = gS (x.1 0) k + gP (x.1 0) k := rfl
    show 0 ≤ (x.2 8) (x.1 10 - 1).toNat + (w - (x.2 8) (x.1 10).toNat) % (F_m_powerOf x (x.1 10 - 1)).1 ∧ (x.2 8) (x.1 10 - 1).toNat + (w - (x.2 8) (x.1 10).toNat) % (F_m_powerOf x (x.1 10 - 1)).1 < 10001
    rw [F_m_powerOf_v x (by omega) (by omega), e1, e2, k3, k4]
    have r1 := Int.emod_nonneg (w - gS (x.1 0) (k + 1)) (show gP (x.1 0) k ≠ 0 by omega)
    have r2 := Int.emod_lt_of_pos (w - gS (x.1 0) (k + 1)) (show 0 < gP (x.1 0) k by omega)
    omega
theorem wd_last {x : MS} {w : Int} (h : wdOK x w) : x.1 0 = 1 ∨ (1 ≤ x.1 10 ∧ x.1 10 ≤ 60 ∧ x.2 8 (x.1 10).toNat ≤ w) := by
  rcases h with h | ⟨h1, k, k1, k2, k3, k4, k5, k6⟩
  · exact Or.inl h
  · have e1 : (x.1 10).toNat = k + 1 := by omega
    exact Or.inr ⟨by omega, by omega, by rw [e1, k4]; exact k5⟩
theorem wd_last_v {x : MS} {w : Int} (hl : 1 ≤ x.1 0) (h : wdOK x w) (w1 : 1 ≤ w) (w2 : w ≤ 10000) : 0 ≤ (F_m_withoutLast x w).1 ∧ (F_m_withoutLast x w).1 < 10001 := by
  unfold F_m_withoutLast
  rcases h with h | ⟨h1, k, k1, k2, k3, k4, k5, k6⟩
  · rw [if_pos h]; exact ⟨by show 0 ≤ w - 1; omega, by show w - 1 < 10001; omega⟩
  · rw [if_neg h1]
    have e1 : (x.1 10).toNat = k + 1 := by omega
    have e2 : (x.1 10 - 1).toNat = k := by omega
    have a := gS_nn hl k
    have b : gS (x.1 0) (k + 1) = gS (x.1 0) k + gP (x.1 0) k := rfl
    have b2 : gS (x.1 0) (k + 2) = gS (x.1 0) (k + 1) + gP (x.1 0) k * x.1 0 := rfl
    show 0 ≤ (x.2 8) (x.1 10 - 1).toNat + (w - (x.2 8) (x.1 10).toNat) / x.1 0 ∧ (x.2 8) (x.1 10 - 1).toNat + (w - (x.2 8) (x.1 10).toNat) / x.1 0 < 10001
    rw [e1, e2, k3, k4]
    have r1 := Int.ediv_nonneg (show 0 ≤ w - gS (x.1 0) (k + 1) by omega) (show 0 ≤ x.1 0 by omega)
    have r2 : (w - gS (x.1 0) (k + 1)) / x.1 0 < gP (x.1 0) k := Int.ediv_lt_of_lt_mul (by omega) (by omega)
    omega
theorem F_m_keepRule_s1_v : ∀ (n : Nat) (y : MS) (w i : Int), same [12] [15, 16] y (F_m_keepRule_s n 1 y w i).2 ∧ ((F_m_keepRule_s n 1 y w i).2.1 12 = y.1 12 ∨ (F_m_keepRule_s n 1 y w i).2.1 12 = y.1 12 + 1) := by
  intro n
  induction n with
  | zero => intro y w i; exact ⟨sm_rf _ _ _, Or.inl rfl⟩
  | succ n ih =>
    intro y w i
    rw [F_m_keepRule_e1]
    by_cases hc : y.1 10 ≤ i
    · rw [if_pos hc]; exact ⟨sm_s (by decide) (sm_rf _ _ _), Or.inr rfl⟩
    · rw [if_neg hc]
      obtain ⟨g1, g2⟩ := ih (aU y 16 ((24 * y.1 12) + i).toNat ((y.2 11) i.toNat)) w (i + 1)
      exact ⟨sm_tr (sm_a (by decide) (sm_rf _ _ _)) g1, g2⟩
