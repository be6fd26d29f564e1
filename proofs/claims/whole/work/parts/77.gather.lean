-- deps: 30 31 32 33 34 35 36 37 70 71 72 73 74 75 76
/-! all RULES that gather lays have their two sides -/
theorem ruE_of {S : List (Nat × Nat)} {A : List Nat} {x y : KS} (h : ksame S A x y) (h1 : (1, 2) ∉ S) (h2 : (1, 3) ∉ S) (h3 : (58, 6) ∉ S) (a3 : 3 ∉ A) (a59 : 59 ∉ A) (a60 : 60 ∉ A) (a61 : 61 ∉ A) (a62 : 62 ∉ A) (a63 : 63 ∉ A) (re : ruE x) : ruE y := by
  have en : nL y = nL x := by unfold nL; rw [h.1 1 2 h1]
  unfold ruE
  rw [h.1 58 6 h3, h.1 1 3 h2, h.2 3 a3, h.2 59 a59, h.2 60 a60, h.2 61 a61, h.2 62 a62, h.2 63 a63, en]
  exact re
/-- what holds while the RULES are gathered -/
def gaI (x y : KS) : Prop := scX y ∧ jnR y ∧ ruR y ∧ ruE y ∧ y.1 1 = x.1 1 ∧ y.2 2 = x.2 2 ∧ y.2 3 = x.2 3 ∧ y.1 56 1 = x.1 56 1
theorem gaI_keep {x y : KS} {a : Int} (h : gaI x y) (h0 : 0 ≤ a) (ha : a < y.1 56 1) (hf : a < y.2 3 (y.1 1 3 + 1).toNat) (h20 : a ≤ 20000) (hl : (F_j_isLeast y a).1 = 0) : gaI x (F_u_keep (F_j_leastOf y a).2 a (F_j_leastOf y a).1).2 := by
  obtain ⟨sx, jr, ru, re, e1, e2, e3, e56⟩ := h
  have hne : y.2 57 a.toNat ≠ a := by
    intro e
    unfold F_j_isLeast at hl
    rw [if_neg (by omega), if_neg (by omega), if_pos e] at hl
    exact absurd hl (by show ¬ (1 : Int) = 0; decide)
  have lt := F_j_leastOf_lt jr h0 ha hne
  have ol := F_j_leastOf_ok (v := a) jr
  have fl := F_j_leastOf_fr y a
  have sx2 : scX (F_j_leastOf y a).2 := scX_of fl (by decide) (by decide) (by decide) sx
  have ru2 : ruR (F_j_leastOf y a).2 := ruR_of fl (by decide) (by decide) (by decide) (by decide) (by decide) (by decide) ru
  have re2 : ruE (F_j_leastOf y a).2 := ruE_of fl (by decide) (by decide) (by decide) (by decide) (by decide) (by decide) (by decide) (by decide) (by decide) re
  have g1 : (F_j_leastOf y a).2.1 1 = y.1 1 := funext fun k => fl.1 1 k (by simp)
  have g3 : (F_j_leastOf y a).2.2 3 = y.2 3 := fl.2 3 (by decide)
  have g2 : (F_j_leastOf y a).2.2 2 = y.2 2 := fl.2 2 (by decide)
  have fk := F_u_keep_fr (F_j_leastOf y a).2 a (F_j_leastOf y a).1
  refine ⟨scX_of fk (by decide) (by decide) (by decide) sx2, jnR_of fk (by decide) (by decide) ol.1, F_u_keep_ok sx2.1 ru2 h0 h20 ol.2.1, F_u_keep_E sx2 ru2.1.1 re2 ol.2.1 lt (by rw [g1, g3]; exact hf), ?_, ?_, ?_, ?_⟩
  · exact (funext fun k => fk.1 1 k (by simp) : (F_u_keep (F_j_leastOf y a).2 a (F_j_leastOf y a).1).2.1 1 = (F_j_leastOf y a).2.1 1).trans (g1.trans e1)
  · exact (fk.2 2 (by decide)).trans (g2.trans e2)
  · exact (fk.2 3 (by decide)).trans (g3.trans e3)
  · exact (fk.1 56 1 (by decide)).trans ((fl.1 56 1 (by decide)).trans e56)
theorem F_u_gather_s_E {x : KS} (sx : scX x) {m0 : Int} (m1 : 1 ≤ m0) (m2 : m0 ≤ x.1 1 3) (hall : x.1 56 1 = x.2 3 (m0 + 1).toNat) : ∀ n : Nat, (∀ (y : KS) (g : Int), gaI x y → 1 ≤ g → ruE (F_u_gather_s n 0 y m0 g 0 0 0).2) ∧ (∀ (y : KS) (g v : Int), gaI x y → 1 ≤ g → g ≤ m0 → 0 ≤ v → ruE (F_u_gather_s n 1 y m0 g (x.2 3 g.toNat) (x.2 2 g.toNat) v).2) := by
  have l3 := sx.1.2.1
  intro n
  induction n with
  | zero => exact ⟨fun y g h _ => h.2.2.2.1, fun y g v h _ _ _ => h.2.2.2.1⟩
  | succ n ih =>
    refine ⟨fun y g h g1 => ?_, fun y g v h g1 g2 v0 => ?_⟩
    · obtain ⟨sy, jy, ry, re, e1, e2, e3, e56⟩ := id h
      rw [F_u_gather_e0]
      by_cases c1 : m0 < g
      · rw [if_pos c1]; exact re
      · rw [if_neg c1, F_s_firstOf_v (by omega) (by rw [e1]; omega), F_s_powerOf_v (by omega) (by rw [e1]; omega), e2, e3]
        exact ih.2 y g 0 h g1 (by omega) (by omega)
    · obtain ⟨sy, jy, ry, re, e1, e2, e3, e56⟩ := id h
      rw [F_u_gather_e1]
      by_cases c1 : x.2 2 g.toNat ≤ v
      · rw [if_pos c1]; exact ih.1 y (g + 1) h (by omega)
      · rw [if_neg c1]
        have go := ih.2 y g (v + 1) h g1 g2 (by omega)
        by_cases c2 : (F_j_isLeast y (x.2 3 g.toNat + v)).1 = 0
        · rw [if_pos c2]
          by_cases c3 : (F_u_arePartsLeast y g v).1 = 0
          · rw [if_pos c3]; exact go
          · rw [if_neg c3]
            have f0 := sx.1.2.2.2.1 g.toNat (by omega)
            have p0 := sx.1.2.2.1 g.toNat (by omega)
            have st := sx.2.2.2.1 g.toNat (by omega)
            have mo := sc_first_mono sx (g.toNat + 1) ((m0 + 1).toNat - (g.toNat + 1)) (by omega)
            rw [show g.toNat + 1 + ((m0 + 1).toNat - (g.toNat + 1)) = (m0 + 1).toNat by omega] at mo
            have mo2 := sc_first_mono sx (m0 + 1).toNat ((x.1 1 3 + 1).toNat - (m0 + 1).toNat) (by omega)
            rw [show (m0 + 1).toNat + ((x.1 1 3 + 1).toNat - (m0 + 1).toNat) = (x.1 1 3 + 1).toNat by omega] at mo2
            have gk := gaI_keep (a := x.2 3 g.toNat + v) h (by omega) (by rw [e56, hall]; omega) (by rw [e1, e3]; omega) (by omega) c2
            by_cases c4 : (F_u_keep (F_j_leastOf y (x.2 3 g.toNat + v)).2 (x.2 3 g.toNat + v) (F_j_leastOf y (x.2 3 g.toNat + v)).1).1 = 0
            · rw [if_pos c4]; exact gk.2.2.2.1
            · rw [if_neg c4]; exact ih.2 _ g (v + 1) gk g1 g2 (by omega)
        · rw [if_neg c2]; exact go
theorem F_u_gather_E {x : KS} (sx : scX x) (jr : jnR x) (ru : ruR x) {m0 : Int} (m1 : 1 ≤ m0) (m2 : m0 ≤ x.1 1 3) (hall : x.1 56 1 = x.2 3 (m0 + 1).toNat) : ruE (F_u_gather x m0).2 := by
  unfold F_u_gather
  refine (F_u_gather_s_E sx m1 m2 hall _).1 _ _ ⟨scX_of (S := [(58, 6)]) (A := []) (km_s (List.Mem.head _) (km_rf _ _ _)) (by decide) (by decide) (by decide) sx, jr, ⟨by show (0 : Int) ≤ 0 ∧ (0 : Int) ≤ 40; decide, ru.2⟩, ?_, rfl, rfl, rfl, rfl⟩ (by decide)
  intro r hr
  exact absurd hr (by show ¬ (r : Int) < 0; omega)
