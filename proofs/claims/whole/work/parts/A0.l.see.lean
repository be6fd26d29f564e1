-- deps: A0.k
/-! the reference: see -/
theorem wordsTo_s {x : MS} (l0 : 1 ≤ x.1 0) {m0 : Int} (m1 : 0 ≤ m0) : ∀ (n k : Nat), (k : Int) ≤ m0 + 1 → m0 + 1 - (k : Int) < n → (F_m_wordsTo_s n 0 x m0 (gS (x.1 0) k) (gP (x.1 0) k) (k : Int)).1 = if gS (x.1 0) (m0.toNat + 1) ≤ 10000 then gS (x.1 0) (m0.toNat + 1) else 10001 := by
  intro n
  induction n with
  | zero => intro k h1 h2; exfalso; omega
  | succ n ih =>
    intro k h1 h2
    rw [F_m_wordsTo_e0]
    have mo := gS_mono l0 (show k ≤ m0.toNat + 1 by omega)
    have ic := iC_gt (a := gS (x.1 0) k) (b := (10000 : Int))
    by_cases c1 : m0 < (k : Int)
    · rw [if_pos c1]
      have ek : k = m0.toNat + 1 := by omega
      rw [← ek]
      by_cases c2 : iC (gS (x.1 0) k) ((10000 : Int)) ≤ 0
      · rw [if_pos c2, if_pos (by omega)]
      · rw [if_neg c2, if_neg (by have := ic.mp (by omega); omega)]
    · rw [if_neg c1]
      by_cases c2 : 0 < iC (gS (x.1 0) k) ((10000 : Int))
      · have := ic.mp c2
        rw [if_pos c2, if_neg (by omega), if_neg (by omega)]
      · rw [if_neg c2]
        exact ih (k + 1) (by omega) (by omega)
theorem wordsTo_x {x : MS} (l0 : 1 ≤ x.1 0) {m0 : Int} (m1 : 0 ≤ m0) (m2 : m0 ≤ 20) : (F_m_wordsTo x m0).1 = if gS (x.1 0) (m0.toNat + 1) ≤ 10000 then gS (x.1 0) (m0.toNat + 1) else 10001 := wordsTo_s l0 m1 110 0 (by omega) (by omega)
theorem wordsTo_R {x : MS} (l0 : 1 ≤ x.1 0) {m0 : Int} (m1 : 0 ≤ m0) (m2 : m0 ≤ 20) : iR (F_m_wordsTo x m0).1 := by
  rw [wordsTo_x l0 m1 m2]
  have h := gS_nn l0 (m0.toNat + 1)
  by_cases c : gS (x.1 0) (m0.toNat + 1) ≤ 10000
  · rw [if_pos c]; unfold iR; omega
  · rw [if_neg c]; exact ⟨by decide, by decide⟩
/-- what see starts from -/
def seH (x : MS) : Prop := (1 ≤ x.1 0 ∧ x.1 0 ≤ 4) ∧ lwH x ∧ lzR x ∧ lwR x ∧ fR x ∧ hdR x ∧ jOK x ∧ lfR x ∧ rtR x ∧ rwR x ∧ wyR x
def sX2 (x : MS) (m0 : Int) : MS := sU (sU x 6 ((-9 : Int))) 7 ((F_m_wordsTo (sU x 6 ((-9 : Int))) m0).1)
def sY1 (x : MS) (m0 : Int) : MS := (F_m_joinAll (sX2 x m0) m0).2
def sY2 (x : MS) (m0 : Int) : MS := (F_m_findRules (sY1 x m0)).2
def sY3 (x : MS) (m0 : Int) : MS := (F_m_plant (sY2 x m0)).2
def sY4 (x : MS) (m0 : Int) : MS := sU (sY3 x m0) 6 m0
def sY5 (x : MS) (m0 : Int) : MS := (F_m_closes (sY4 x m0)).2
def sY6 (x : MS) (m0 : Int) : MS := sU (sY5 x m0) 27 ((F_m_closes (sY4 x m0)).1)
theorem see_g {x : MS} {m0 : Int} (H : seH x) (m1 : 1 ≤ m0) (m2 : m0 ≤ 20) (h9 : (F_m_wordsTo x m0).1 ≤ 10000) : (F_m_wordsTo (sU x 6 ((-9 : Int))) m0).1 = gS (x.1 0) (m0.toNat + 1) ∧ gS (x.1 0) (m0.toNat + 1) ≤ 10000 := by
  have w1 := wordsTo_x (x := x) H.1.1 (m0 := m0) (by omega) m2
  have w2 := wordsTo_x (x := sU x 6 ((-9 : Int))) (m0 := m0) (by rw [yS_n (by decide)]; exact H.1.1) (by omega) m2
  rw [yS_n (by decide)] at w2
  by_cases c : gS (x.1 0) (m0.toNat + 1) ≤ 10000
  · rw [if_pos c] at w2; exact ⟨w2, c⟩
  · rw [if_neg c] at w1; exfalso; omega
theorem see_J {x : MS} {m0 : Int} (H : seH x) (m1 : 1 ≤ m0) (m2 : m0 ≤ 20) (h9 : (F_m_wordsTo x m0).1 ≤ 10000) : (1 ≤ (sX2 x m0).1 0 ∧ (sX2 x m0).1 0 ≤ 4) ∧ 0 ≤ (sX2 x m0).1 3 ∧ (sX2 x m0).1 3 ≤ 8 ∧ lzR (sX2 x m0) ∧ lwR (sX2 x m0) ∧ (∀ l i : Int, 0 ≤ l → l < (sX2 x m0).1 3 → 0 ≤ i → i < ((sX2 x m0).2 4) (2 * l + 1).toNat → ((sX2 x m0).2 5) (24 * l + 12 + i).toNat < (sX2 x m0).1 0) ∧ (sX2 x m0).1 7 = gS ((sX2 x m0).1 0) (m0.toNat + 1) ∧ (sX2 x m0).1 7 ≤ 10000 ∧ fR (sX2 x m0) ∧ hdR (sX2 x m0) ∧ jOK (sX2 x m0) ∧ lwH (sX2 x m0) := by
  obtain ⟨g1, g2⟩ := see_g H m1 m2 h9
  obtain ⟨lt, lh, lz, lw, fr, hd, jx, lf, rt, rw9, wy⟩ := H
  have e0 : (sX2 x m0).1 0 = x.1 0 := by unfold sX2; rw [yS_n (by decide), yS_n (by decide)]
  have e3 : (sX2 x m0).1 3 = x.1 3 := by unfold sX2; rw [yS_n (by decide), yS_n (by decide)]
  have e7 : (sX2 x m0).1 7 = gS (x.1 0) (m0.toNat + 1) := by unfold sX2; rw [yS_s]; exact g1
  have e2 : (sX2 x m0).2 = x.2 := rfl
  have lh2 : lwH (sX2 x m0) := by unfold lwH sgM; rw [e0, e3, e2]; exact lh
  refine ⟨by rw [e0]; exact lt, by rw [e3]; exact lh.1.1, by rw [e3]; exact lh.1.2, lz, lw, fun l i l1 l2 i1 i2 => ?_, by rw [e7, e0], by rw [e7]; exact g2, fr, hd, jx, lh2⟩
  rw [e2] at i2 ⊢
  rw [e0]
  have h := lh.2 l.toNat (by rw [e3] at l2; omega)
  have o := h.2.2.2
  rw [show (2 * l + 1).toNat = 2 * l.toNat + 1 by omega] at i2
  have hi : i.toNat < (sgM x 5 (24 * l.toNat + 12) (x.2 4 (2 * l.toNat + 1)).toNat).length := by rw [sgM_len]; omega
  have o2 := o _ (List.getElem_mem hi)
  rw [sgM_get hi] at o2
  rw [show (24 * l + 12 + i).toNat = 24 * l.toNat + 12 + i.toNat by omega]
  omega
theorem sX_s (x : MS) (m0 : Int) : same [6, 7] [] x (sX2 x m0) := sm_s (by decide) (sm_s (by decide) (sm_rf _ _ _))
theorem see_1 {x : MS} {m0 : Int} (H : seH x) (m1 : 1 ≤ m0) (m2 : m0 ≤ 20) (h9 : (F_m_wordsTo x m0).1 ≤ 10000) : jaQ (sX2 x m0) m0.toNat (F_m_joinAll (sX2 x m0) m0) := by
  obtain ⟨a1, a2, a3, a4, a5, a6, a7, a8, a9, a10, a11, a12⟩ := see_J H m1 m2 h9
  exact F_m_joinAll_p (sX2 x m0) m0 m1 m2 a1 a2 a3 a4 a5 a6 a7 a8 a9 a10 a11 a12
theorem mP_e {x y : MS} {m : Nat} (h0 : y.1 0 = x.1 0) (h3 : y.1 3 = x.1 3) (h4 : y.2 4 = x.2 4) (h5 : y.2 5 = x.2 5) : mP y m = mP x m := by
  unfold mP
  rw [h0, h3, show lwA2 y = lwA2 x from funext fun l => (lw_e h4 h5 l).1, show lwB2 y = lwB2 x from funext fun l => (lw_e h4 h5 l).2]
/-- behind joinAll -/
theorem see_2 {x : MS} {m0 : Int} (H : seH x) (m1 : 1 ≤ m0) (m2 : m0 ≤ 20) (h9 : (F_m_wordsTo x m0).1 ≤ 10000) : same [6, 7, 10] [8, 9, 11] x (sY1 x m0) ∧ (sY1 x m0).1 7 = gS (x.1 0) (m0.toNat + 1) ∧ (sY1 x m0).1 7 ≤ 10000 ∧ (sY1 x m0).1 6 = -9 ∧ jOK (sY1 x m0) ∧ ufR ((sY1 x m0).2 9) (gS (x.1 0) (m0.toNat + 1)) (eqG (mP x m0.toNat)) ∧ (x.1 0 ≠ 1 → ∀ k : Nat, k ≤ m0.toNat + 1 → (sY1 x m0).2 8 k = gS (x.1 0) k) ∧ fR (sY1 x m0) ∧ hdR (sY1 x m0) ∧ feOK (sY1 x m0) := by
  obtain ⟨g1, g2⟩ := see_g H m1 m2 h9
  obtain ⟨j1, j2, j3, j4, j5⟩ := see_1 H m1 m2 h9
  have f1 := F_m_joinAll_fr (sX2 x m0) m0
  have sx := sX_s x m0
  have e0 : (sX2 x m0).1 0 = x.1 0 := sx.1 0 (by decide)
  have e7 : (sX2 x m0).1 7 = gS (x.1 0) (m0.toNat + 1) := by unfold sX2; rw [yS_s]; exact g1
  have e6 : (sX2 x m0).1 6 = -9 := by unfold sX2; rw [yS_n (by decide), yS_s]
  have y7 : (sY1 x m0).1 7 = gS (x.1 0) (m0.toNat + 1) := (f1.1 7 (by decide)).trans e7
  have y0 : (sY1 x m0).1 0 = x.1 0 := (f1.1 0 (by decide)).trans e0
  rw [e7, mP_e e0 (sx.1 3 (by decide)) (sx.2 4 List.not_mem_nil) (sx.2 5 List.not_mem_nil)] at j2
  rw [e0] at j3
  refine ⟨sm_tr (sm_mono (by decide) (by decide) sx) (sm_mono (by decide) (by decide) f1), y7, by rw [y7]; exact g2, (f1.1 6 (by decide)).trans e6, j1, j2, j3, j4, j5, ?_⟩
  unfold feOK
  rw [y0, y7]
  by_cases c : x.1 0 = 1
  · exact Or.inl ⟨c, by rw [c, gS_1]; omega⟩
  · exact Or.inr ⟨c, j4, m0.toNat, by omega, j3 c, rfl⟩
/-- the RULES of z are those that f says -/
def ruM (z : MS) (m : Nat) (f : Int → Int) : Prop := (∀ r : Nat, (r : Int) < z.1 12 → (okL (z.1 0).toNat (lM z r) ∧ rulN (z.1 0).toNat m f (num (z.1 0).toNat (lM z r))) ∧ okL (z.1 0).toNat (rM z r) ∧ num (z.1 0).toNat (rM z r) = f (num (z.1 0).toNat (lM z r))) ∧ (∀ i j : Nat, i < j → (j : Int) < z.1 12 → num (z.1 0).toNat (lM z i) < num (z.1 0).toNat (lM z j)) ∧ ∀ w : Int, rulN (z.1 0).toNat m f w → ∃ r : Nat, (r : Int) < z.1 12 ∧ num (z.1 0).toNat (lM z r) = w
theorem ruM_e {y z : MS} {m : Nat} {f : Int → Int} (eL : lM z = lM y) (eR : rM z = rM y) (e12 : z.1 12 = y.1 12) (e0 : z.1 0 = y.1 0) (h : ruM y m f) : ruM z m f := by
  unfold ruM at h ⊢
  rw [eL, eR, e12, e0]
  exact h
theorem see_3 {x : MS} {m0 : Int} (H : seH x) (m1 : 1 ≤ m0) (m2 : m0 ≤ 20) (h9 : (F_m_wordsTo x m0).1 ≤ 10000) : frR (sY1 x m0) m0.toNat (rp ((sY1 x m0).2 9)) (F_m_findRules (sY1 x m0)) := by
  obtain ⟨s, y7, y8, y6, j, u, fx, fr, hd, fe⟩ := see_2 H m1 m2 h9
  obtain ⟨lt, lh, lz, lw, _, _, _, lf, rt, rw9, wy⟩ := H
  have y0 : (sY1 x m0).1 0 = x.1 0 := s.1 0 (by decide)
  exact find_x (m := m0.toNat) (by rw [y0]; exact lt.1) (by rw [y0]; exact lt.2) (by omega) (by rw [y7, y0]) y8 (by rw [y0]; exact fx) j hd (by unfold lfR; rw [s.2 14 (by decide)]; exact lf) (by unfold rtR; rw [s.2 16 (by decide)]; exact rt)
/-- behind findRules, where there are no more than 40 -/
theorem see_4 {x : MS} {m0 : Int} (H : seH x) (m1 : 1 ≤ m0) (m2 : m0 ≤ 20) (h9 : (F_m_wordsTo x m0).1 ≤ 10000) (h : ¬ (F_m_findRules (sY1 x m0)).1 = 0) : plR (sY2 x m0) ∧ rlR (sY2 x m0) ∧ ruM (sY2 x m0) m0.toNat (rp ((sY1 x m0).2 9)) := by
  obtain ⟨s, y7, y8, y6, j, u, fx, fr, hd, fe⟩ := see_2 H m1 m2 h9
  obtain ⟨s2, j2, rf2, hd2, lf2, rt2, ⟨_, fi⟩ | ⟨e, _⟩⟩ := see_3 H m1 m2 h9
  · have lt := H.1
    have y0 : (sY1 x m0).1 0 = x.1 0 := s.1 0 (by decide)
    have z0 : (sY2 x m0).1 0 = x.1 0 := (s2.1 0 (by decide)).trans y0
    obtain ⟨_, h2, h3, h4, h5⟩ := fi
    rw [y0] at h3 h4 h5
    have n1 : 1 ≤ (x.1 0).toNat := by omega
    have n4 : (x.1 0).toNat ≤ 4 := by omega
    have len : ∀ r : Nat, (r : Int) < (F_m_findRules (sY1 x m0)).2.1 12 → 1 ≤ (lM (F_m_findRules (sY1 x m0)).2 r).length := fun r hr => by
      have b := rulN_b n1 (h3 r hr).1.2.1
      rcases Nat.eq_zero_or_pos (lM (F_m_findRules (sY1 x m0)).2 r).length with e | e
      · rw [List.eq_nil_of_length_eq_zero e, num_nil] at b; exfalso; omega
      · exact e
    refine ⟨⟨h2, by rw [z0]; exact lt, fun r hr => ?_, fun r q hr hq e => ?_⟩, fun r hr => ?_, ?_⟩
    · obtain ⟨⟨a1, a2, a3⟩, _, b1, b2, b3, b4⟩ := h3 r hr
      have := len r hr
      refine ⟨⟨by show 1 ≤ (F_m_findRules (sY1 x m0)).2.2 13 r; omega, b3⟩, fun i hi => ?_⟩
      have hi2 : i < (lM (F_m_findRules (sY1 x m0)).2 r).length := by
        have h8 : (i : Int) < (F_m_findRules (sY1 x m0)).2.2 13 r := hi
        omega
      have o := a1 _ (List.getElem_mem hi2)
      have g : (lM (F_m_findRules (sY1 x m0)).2 r)[i] = (F_m_findRules (sY1 x m0)).2.2 14 (24 * r + i) := sgM_get (y := (F_m_findRules (sY1 x m0)).2) (A := 14) (b := 24 * r) (g := ((F_m_findRules (sY1 x m0)).2.2 13 r).toNat) hi2
      rw [g] at o
      rw [z0]
      exact ⟨o.1, by have := o.2; show (F_m_findRules (sY1 x m0)).2.2 14 (24 * r + i) < _; omega⟩
    · have e2 : lM (F_m_findRules (sY1 x m0)).2 r = lM (F_m_findRules (sY1 x m0)).2 q := e
      rcases Nat.lt_trichotomy r q with c | c | c
      · have := h4 r q c hq; rw [e2] at this; exfalso; omega
      · exact c
      · have := h4 q r c hr; rw [e2] at this; exfalso; omega
    · obtain ⟨⟨a1, a2, a3⟩, ⟨c1, c2⟩, b1, b2, b3, b4⟩ := h3 r hr
      refine ⟨⟨by show 0 ≤ (F_m_findRules (sY1 x m0)).2.2 15 r; omega, b4⟩, by rw [z0]; exact c1, num_ahd n1 n4 c1 a1 ?_⟩
      have b := rulN_b n1 a2
      rw [show (((x.1 0).toNat : Nat) : Int) = x.1 0 by omega, ← y7] at b
      have h0 : ldn ((sY1 x m0).2 9) 10001 := fun q hq => j q (by omega)
      have kb := rp_ok h0 _ _ (show 0 ≤ num (x.1 0).toNat (lM (F_m_findRules (sY1 x m0)).2 r) by omega) (by omega) (Nat.le_refl _)
      have ne : rp ((sY1 x m0).2 9) (num (x.1 0).toNat (lM (F_m_findRules (sY1 x m0)).2 r)) ≠ num (x.1 0).toNat (lM (F_m_findRules (sY1 x m0)).2 r) := by
        obtain ⟨k, v, _, _, _, g, _⟩ := a2
        exact g
      show num (x.1 0).toNat (rM (F_m_findRules (sY1 x m0)).2 r) < num (x.1 0).toNat (lM (F_m_findRules (sY1 x m0)).2 r)
      rw [c2]
      omega
    · unfold ruM
      rw [z0]
      refine ⟨fun r hr => ?_, h4, fun w hw => ?_⟩
      · obtain ⟨⟨a1, a2, a3⟩, c, _⟩ := h3 r hr
        exact ⟨⟨a1, a2⟩, c⟩
      · have b := rulN_b n1 hw
        rw [show (((x.1 0).toNat : Nat) : Int) = x.1 0 by omega] at b
        exact h5 w hw b.2
  · exact absurd e h
/-- the whole of what see leaves: slots and rows -/
def seS (x z : MS) : Prop := same [6, 7, 10, 12, 17, 24, 27] [1, 2, 8, 9, 11, 13, 14, 15, 16, 18, 19, 20, 21, 22, 23, 25, 26, 28] x z ∧ rwR z ∧ (∀ j, j < 9 → z.2 1 j = x.2 1 j) ∧ (∀ i, i < 1152 → z.2 2 i = x.2 2 i) ∧ jOK z ∧ fR z ∧ hdR z ∧ lfR z ∧ rtR z ∧ wyR z
theorem see_5 {x : MS} {m0 : Int} (H : seH x) (m1 : 1 ≤ m0) (m2 : m0 ≤ 20) (h9 : (F_m_wordsTo x m0).1 ≤ 10000) : seS x (sY2 x m0) ∧ (sY2 x m0).1 6 = -9 := by
  obtain ⟨s, y7, y8, y6, j, u, fx, fr, hd, fe⟩ := see_2 H m1 m2 h9
  obtain ⟨s2, j2, rf2, hd2, lf2, rt2, _⟩ := see_3 H m1 m2 h9
  obtain ⟨lt, lh, lz, lw, _, _, _, lf, rt, rw9, wy⟩ := H
  have t : same [6, 7, 10, 12, 17, 24, 27] [1, 2, 8, 9, 11, 13, 14, 15, 16, 18, 19, 20, 21, 22, 23, 25, 26, 28] x (sY2 x m0) := sm_tr (sm_mono (by decide) (by decide) s) (sm_mono (by decide) (by decide) s2)
  have e1 : (sY2 x m0).2 1 = x.2 1 := (s2.2 1 (by decide)).trans (s.2 1 (by decide))
  have e2 : (sY2 x m0).2 2 = x.2 2 := (s2.2 2 (by decide)).trans (s.2 2 (by decide))
  have e28 : (sY2 x m0).2 28 = x.2 28 := (s2.2 28 (by decide)).trans (s.2 28 (by decide))
  have e8 : (sY2 x m0).2 8 = (sY1 x m0).2 8 := s2.2 8 (by decide)
  exact ⟨⟨t, by unfold rwR; rw [e2]; exact rw9, fun j _ => by rw [e1], fun i _ => by rw [e2], j2, by unfold fR; rw [e8]; exact fr, hd2, lf2, rt2, by unfold wyR; rw [e28]; exact wy⟩, (s2.1 6 (by decide)).trans y6⟩
theorem see_6 {x : MS} {m0 : Int} (H : seH x) (m1 : 1 ≤ m0) (m2 : m0 ≤ 20) (h9 : (F_m_wordsTo x m0).1 ≤ 10000) (h : ¬ (F_m_findRules (sY1 x m0)).1 = 0) : clH (sY4 x m0) ∧ rwR (sY4 x m0) ∧ lwH (sY4 x m0) ∧ mzH (sY4 x m0) ∧ ruM (sY4 x m0) m0.toNat (rp ((sY1 x m0).2 9)) ∧ seS x (sY4 x m0) ∧ (sY4 x m0).1 6 = m0 ∧ (∀ w : Int, 0 ≤ w → w < 10001 → rp ((sY4 x m0).2 9) w = rp ((sY1 x m0).2 9) w) ∧ (sY4 x m0).1 7 = gS (x.1 0) (m0.toNat + 1) ∧ (x.1 0 ≠ 1 → ∀ k : Nat, k ≤ m0.toNat + 1 → (sY4 x m0).2 8 k = gS (x.1 0) k) := by
  obtain ⟨s, y7, y8, y6, j, u, fx, fr, hd, fe⟩ := see_2 H m1 m2 h9
  obtain ⟨s2, j2, rf2, hd2, lf2, rt2, _⟩ := see_3 H m1 m2 h9
  obtain ⟨p, rl, rm⟩ := see_4 H m1 m2 h9 h
  obtain ⟨⟨t, rw9, z1, z2, z3, z4, z5, z6, z7, z8⟩, z9⟩ := see_5 H m1 m2 h9
  have fp := F_m_plant_fr (sY2 x m0)
  have px := F_m_plant_x p
  have f4 : same [6, 17, 24] [18, 19, 20, 21, 22, 23, 25] (sY2 x m0) (sY4 x m0) := sm_s (by decide) (sm_mono (by decide) (by decide) fp)
  have a : ∀ k, k ∉ [18, 19, 20, 21, 22, 23, 25] → (sY4 x m0).2 k = (sY2 x m0).2 k := f4.2
  have t4 : same [6, 7, 10, 12, 17, 24, 27] [1, 2, 8, 9, 11, 13, 14, 15, 16, 18, 19, 20, 21, 22, 23, 25, 26, 28] x (sY4 x m0) := sm_tr t (sm_mono (by decide) (by decide) f4)
  have eL : lM (sY4 x m0) = lM (sY2 x m0) := lM_eq (a 13 (by decide)) (a 14 (by decide))
  have eR : rM (sY4 x m0) = rM (sY2 x m0) := rM_eq (a 15 (by decide)) (a 16 (by decide))
  have e12 : (sY4 x m0).1 12 = (sY2 x m0).1 12 := f4.1 12 (by decide)
  have e0 : (sY4 x m0).1 0 = (sY2 x m0).1 0 := f4.1 0 (by decide)
  have plx : plX (sY4 x m0) := plX_g (x := sY3 x m0) (yS_n (by decide)) (yS_n (by decide)) (yS_n (by decide)) (yS_n (by decide)) rfl rfl rfl rfl rfl rfl px
  have rl4 : rlR (sY4 x m0) := rlR_g e0 e12 (a 13 (by decide)) (a 14 (by decide)) (a 15 (by decide)) (a 16 (by decide)) rl
  have rt4 : rtR (sY4 x m0) := by unfold rtR; rw [a 16 (by decide)]; exact z7
  have lf4 : lfR (sY4 x m0) := by unfold lfR; rw [a 14 (by decide)]; exact z6
  have rw4 : rwR (sY4 x m0) := by unfold rwR; rw [a 2 (by decide)]; exact rw9
  refine ⟨⟨plx, rl4, rt4, lf4⟩, rw4, ?_, ⟨plx, rl4, rt4⟩, ruM_e eL eR e12 e0 rm, ⟨t4, rw4, fun j hj => by rw [a 1 (by decide)]; exact z1 j hj, fun i hi => by rw [a 2 (by decide)]; exact z2 i hi, fun j hj => by rw [a 9 (by decide)]; exact z3 j hj, by unfold fR; rw [a 8 (by decide)]; exact z4, by unfold hdR; rw [a 11 (by decide)]; exact z5, lf4, rt4, by unfold wyR; rw [a 28 (by decide)]; exact z8⟩, yS_s, fun w w0 w1 => by rw [a 9 (by decide)]; exact rf2 w w0 w1, ?_, fun c k hk => ?_⟩
  · unfold lwH sgM
    rw [t4.1 0 (by decide), t4.1 3 (by decide), t4.2 4 (by decide), t4.2 5 (by decide)]
    exact H.2.1
  · exact (f4.1 7 (by decide)).trans ((s2.1 7 (by decide)).trans y7)
  · rw [a 8 (by decide), show (sY2 x m0).2 8 = (sY1 x m0).2 8 from s2.2 8 (by decide)]
    exact fx c k hk
theorem cfl_g {x y : MS} (eL : lM y = lM x) (eR : rM y = rM x) (e12 : y.1 12 = x.1 12) (e3 : y.1 3 = x.1 3) (e4 : y.2 4 = x.2 4) (e5 : y.2 5 = x.2 5) : cfl y ↔ cfl x := by
  unfold cfl sgM
  rw [eL, eR, e12, e3, e4, e5]
/-- 27 holds 1 where all ways end alike; from a state that closes leaves -/
theorem see_7 {x : MS} {m0 : Int} (H : seH x) (m1 : 1 ≤ m0) (m2 : m0 ≤ 20) (h9 : (F_m_wordsTo x m0).1 ≤ 10000) (h : ¬ (F_m_findRules (sY1 x m0)).1 = 0) : seS x (sY6 x m0) ∧ mzH (sY6 x m0) ∧ ruM (sY6 x m0) m0.toNat (rp ((sY1 x m0).2 9)) ∧ snH (sY6 x m0) ∧ (sY6 x m0).1 6 = m0 ∧ (∀ w : Int, 0 ≤ w → w < 10001 → rp ((sY6 x m0).2 9) w = rp ((sY1 x m0).2 9) w) ∧ (((sY6 x m0).1 27 = 1 ∧ cfl (sY6 x m0)) ∨ ((sY6 x m0).1 27 = 0 ∧ ¬ cfl (sY6 x m0))) ∧ ((F_m_closes (sY4 x m0)).1 = 0 ∨ (F_m_closes (sY4 x m0)).1 = 1) := by
  obtain ⟨cl, rw4, lh4, mz4, ru4, ⟨t4, _, z1, z2, z3, z4, z5, z6, z7, z8⟩, e6, rf, e7, fx⟩ := see_6 H m1 m2 h9 h
  obtain ⟨ci, cc⟩ := closes_x cl rw4 lh4
  have ci : clI (sY4 x m0) (sY5 x m0) := ci
  have g : same [27] [1, 2, 26] (sY4 x m0) (sY6 x m0) := sm_s (by decide) (sm_mono (by decide) (by decide) ci.1)
  have a := g.2
  have eL : lM (sY6 x m0) = lM (sY4 x m0) := lM_eq (a 13 (by decide)) (a 14 (by decide))
  have eR : rM (sY6 x m0) = rM (sY4 x m0) := rM_eq (a 15 (by decide)) (a 16 (by decide))
  have e12 : (sY6 x m0).1 12 = (sY4 x m0).1 12 := g.1 12 (by decide)
  have e0 : (sY6 x m0).1 0 = (sY4 x m0).1 0 := g.1 0 (by decide)
  have f0 : (sY6 x m0).1 0 = x.1 0 := e0.trans (t4.1 0 (by decide))
  have j6 : jOK (sY6 x m0) := fun j hj => by rw [a 9 (by decide)]; exact z3 j hj
  have fr6 : fR (sY6 x m0) := by unfold fR; rw [a 8 (by decide)]; exact z4
  have hd6 : hdR (sY6 x m0) := by unfold hdR; rw [a 11 (by decide)]; exact z5
  have rt6 : rtR (sY6 x m0) := by unfold rtR; rw [a 16 (by decide)]; exact z7
  have f6 : (sY6 x m0).1 6 = m0 := (g.1 6 (by decide)).trans e6
  have f7 : (sY6 x m0).1 7 = gS (x.1 0) (m0.toNat + 1) := (g.1 7 (by decide)).trans e7
  obtain ⟨g1, g2⟩ := see_g H m1 m2 h9
  have cg := cfl_g eL eR e12 (g.1 3 (by decide)) (a 4 (by decide)) (a 5 (by decide))
  refine ⟨⟨sm_tr t4 (sm_mono (by decide) (by decide) g), ci.2.1, fun j hj => (ci.2.2.1 j (by omega) (by omega)).trans (z1 j hj), fun i hi => (ci.2.2.2 i (by omega)).trans (z2 i hi), j6, fr6, hd6, by unfold lfR; rw [a 14 (by decide)]; exact z6, rt6, by unfold wyR; rw [a 28 (by decide)]; exact z8⟩, ⟨plX_g e0 e12 (g.1 17 (by decide)) (g.1 24 (by decide)) (a 13 (by decide)) (a 14 (by decide)) (a 19 (by decide)) (a 21 (by decide)) (a 23 (by decide)) (a 25 (by decide)) mz4.1, rlR_g e0 e12 (a 13 (by decide)) (a 14 (by decide)) (a 15 (by decide)) (a 16 (by decide)) mz4.2.1, rt6⟩, ruM_e eL eR e12 e0 ru4, ⟨m0.toNat, by rw [f6]; omega, by omega, by omega, by rw [f7, f0], by rw [f7]; exact g2, by rw [f0, a 8 (by decide)]; exact fx, j6, fr6, hd6⟩, f6, fun w w0 w1 => by rw [a 9 (by decide)]; exact rf w w0 w1, ?_, ?_⟩
  · have s27 : (sY6 x m0).1 27 = (F_m_closes (sY4 x m0)).1 := yS_s
    rw [s27, cg]
    exact cc
  · rcases cc with ⟨c, _⟩ | ⟨c, _⟩
    · exact Or.inr c
    · exact Or.inl c
def seQ (x : MS) (m0 : Int) (q : Int × MS) : Prop := (¬ (1 ≤ m0 ∧ m0 ≤ 20 ∧ gS (x.1 0) (m0.toNat + 1) ≤ 10000) ∧ q = (-2, x)) ∨ ((1 ≤ m0 ∧ m0 ≤ 20 ∧ gS (x.1 0) (m0.toNat + 1) ≤ 10000) ∧ seS x q.2 ∧ ∃ g : Nat → Int, ufR g (gS (x.1 0) (m0.toNat + 1)) (eqG (mP x m0.toNat)) ∧ ((q.1 = -4 ∧ q.2.1 6 = -9 ∧ ∃ h : Nat → Int, (∀ i j : Nat, i < j → j < 41 → h i < h j) ∧ ∀ i : Nat, i < 41 → rulN (x.1 0).toNat m0.toNat (rp g) (h i)) ∨ (q.1 = q.2.1 12 ∧ snH q.2 ∧ q.2.1 6 = m0 ∧ (∀ w : Int, 0 ≤ w → w < 10001 → rp (q.2.2 9) w = rp g w) ∧ ruM q.2 m0.toNat (rp g) ∧ mzH q.2 ∧ ((q.2.1 27 = 1 ∧ cfl q.2 ∧ cyI q.2 q.2 31) ∨ (q.2.1 27 = 0 ∧ ¬ cfl q.2)))))
theorem se_2 {x : MS} {m0 : Int} (l0 : 1 ≤ x.1 0) (h : ¬ (1 ≤ m0 ∧ m0 ≤ 20) ∨ (0 ≤ m0 ∧ m0 ≤ 20 ∧ ¬ (F_m_wordsTo x m0).1 ≤ 10000)) : seQ x m0 (-2, x) := by
  refine Or.inl ⟨fun e => ?_, rfl⟩
  rcases h with h | ⟨h1, h2, h3⟩
  · exact h ⟨e.1, e.2.1⟩
  · rw [wordsTo_x l0 h1 h2, if_pos e.2.2] at h3
    exact h3 e.2.2
theorem se_4 {x : MS} {m0 : Int} (H : seH x) (m1 : 1 ≤ m0) (m2 : m0 ≤ 20) (h9 : (F_m_wordsTo x m0).1 ≤ 10000) (h : (F_m_findRules (sY1 x m0)).1 = 0) : seQ x m0 (-4, sY2 x m0) := by
  obtain ⟨g1, g2⟩ := see_g H m1 m2 h9
  obtain ⟨s, y7, y8, y6, j, u, fx, fr, hd, fe⟩ := see_2 H m1 m2 h9
  obtain ⟨s5, s6⟩ := see_5 H m1 m2 h9
  have y0 : (sY1 x m0).1 0 = x.1 0 := s.1 0 (by decide)
  obtain ⟨_, _, _, _, _, _, ⟨e, _⟩ | ⟨_, k⟩⟩ := see_3 H m1 m2 h9
  · exfalso; omega
  · rw [y0] at k
    exact Or.inr ⟨⟨m1, m2, g2⟩, s5, (sY1 x m0).2 9, u, Or.inl ⟨rfl, s6, k⟩⟩
theorem se_0k {x : MS} {m0 : Int} (H : seH x) (m1 : 1 ≤ m0) (m2 : m0 ≤ 20) (h9 : (F_m_wordsTo x m0).1 ≤ 10000) (h : ¬ (F_m_findRules (sY1 x m0)).1 = 0) (c : (sY6 x m0).1 27 = 0) : seQ x m0 ((sY6 x m0).1 12, sY6 x m0) := by
  obtain ⟨g1, g2⟩ := see_g H m1 m2 h9
  obtain ⟨s, y7, y8, y6, j, u, fx, fr, hd, fe⟩ := see_2 H m1 m2 h9
  obtain ⟨a1, a2, a3, a4, a5, a6, a7, _⟩ := see_7 H m1 m2 h9 h
  refine Or.inr ⟨⟨m1, m2, g2⟩, a1, (sY1 x m0).2 9, u, Or.inr ⟨rfl, a4, a5, a6, a3, a2, ?_⟩⟩
  rcases a7 with ⟨e, _⟩ | e
  · exfalso; omega
  · exact Or.inr e
theorem se_1k {x : MS} {m0 : Int} (H : seH x) (m1 : 1 ≤ m0) (m2 : m0 ≤ 20) (h9 : (F_m_wordsTo x m0).1 ≤ 10000) (h : ¬ (F_m_findRules (sY1 x m0)).1 = 0) (c : ¬ (sY6 x m0).1 27 = 0) : auOK (sY6 x m0) ∧ seQ x m0 ((F_m_countAll (sY6 x m0)).2.1 12, (F_m_countAll (sY6 x m0)).2) := by
  obtain ⟨g1, g2⟩ := see_g H m1 m2 h9
  obtain ⟨s, y7, y8, y6, j, u, fx, fr, hd, fe⟩ := see_2 H m1 m2 h9
  obtain ⟨⟨t, b1, b2, b3, b4, b5, b6, b7, b8, b9⟩, a2, a3, a4, a5, a6, a7, _⟩ := see_7 H m1 m2 h9 h
  have au := plX_auOK a2.1
  obtain ⟨k1, k2, k3⟩ := F_m_countAll_p (sY6 x m0) au b9
  refine ⟨au, ?_⟩
  generalize (F_m_countAll (sY6 x m0)).2 = z at k1 k2 k3
  have a := k1.2
  have q := k1.1
  have eL : lM z = lM (sY6 x m0) := lM_eq (a 13 (by decide)) (a 14 (by decide))
  have eR : rM z = rM (sY6 x m0) := rM_eq (a 15 (by decide)) (a 16 (by decide))
  have e12 : z.1 12 = (sY6 x m0).1 12 := q 12 (by decide)
  have e0 : z.1 0 = (sY6 x m0).1 0 := q 0 (by decide)
  have j6 : jOK z := fun j hj => by rw [a 9 (by decide)]; exact b4 j hj
  have fr6 : fR z := by unfold fR; rw [a 8 (by decide)]; exact b5
  have hd6 : hdR z := by unfold hdR; rw [a 11 (by decide)]; exact b6
  have rt6 : rtR z := by unfold rtR; rw [a 16 (by decide)]; exact b8
  have nx : ∀ p c : Int, (F_m_next z p c).1 = (F_m_next (sY6 x m0) p c).1 := fun p c => cy_nx k1 p c
  refine Or.inr ⟨⟨m1, m2, g2⟩, ⟨sm_tr t (sm_mono (by decide) (by decide) k1), by unfold rwR; rw [a 2 (by decide)]; exact b1, by rw [a 1 (by decide)]; exact b2, by rw [a 2 (by decide)]; exact b3, j6, fr6, hd6, by unfold lfR; rw [a 14 (by decide)]; exact b7, rt6, k2⟩, (sY1 x m0).2 9, u, Or.inr ⟨rfl, ?_, by rw [q 6 (by decide)]; exact a5, by rw [a 9 (by decide)]; exact a6, ruM_e eL eR e12 e0 a3, ⟨plX_g e0 e12 (q 17 (by decide)) (q 24 (by decide)) (a 13 (by decide)) (a 14 (by decide)) (a 19 (by decide)) (a 21 (by decide)) (a 23 (by decide)) (a 25 (by decide)) a2.1, rlR_g e0 e12 (a 13 (by decide)) (a 14 (by decide)) (a 15 (by decide)) (a 16 (by decide)) a2.2.1, rt6⟩, Or.inl ⟨?_, ?_, fun jj g h1 h2 => ?_⟩⟩⟩
  · obtain ⟨m, c1, c2, c3, c4, c5, c6, c7, c8, c9⟩ := a4
    exact ⟨m, by rw [q 6 (by decide)]; exact c1, c2, c3, by rw [q 7 (by decide), e0]; exact c4, by rw [q 7 (by decide)]; exact c5, by rw [e0, a 8 (by decide)]; exact c6, j6, fr6, hd6⟩
  · rw [q 27 (by decide)]
    rcases a7 with ⟨e, _⟩ | ⟨e, _⟩
    · exact e
    · exact absurd e c
  · rw [cfl_g eL eR e12 (q 3 (by decide)) (a 4 (by decide)) (a 5 (by decide))]
    rcases a7 with ⟨_, e⟩ | ⟨e, _⟩
    · exact e
    · exact absurd e c
  · rw [wN_e nx e0]
    exact k3 jj g h1 (by rw [← q 24 (by decide)]; exact h2)
