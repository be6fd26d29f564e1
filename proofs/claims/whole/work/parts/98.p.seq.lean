-- deps: 98.o
/-! The states of see, one behind another -/
def seP (x : KS) : Prop := scX x ∧ jnR x ∧ ruR x ∧ maR x ∧ stV x ∧ p72 x ∧ r03 (x.2 71) ∧ (0 ≤ x.1 0 14 ∧ x.1 0 14 ≤ 8) ∧ (∀ j : Nat, (j : Int) < 2 * x.1 0 14 → wG x (24 + 2 * j) ∧ x.1 (24 + 2 * j) 1 ≤ 12) ∧ r03 (x.2 74) ∧ r03 (x.2 76) ∧ (∀ j : Nat, iRL (x.2 67 j)) ∧ (∀ j : Nat, iRL (x.2 68 j)) ∧ (¬ x.1 70 5 = 0 → grW x ∧ knR x (kWl x)) ∧ keI x
def seJ (x : KS) (m : Int) (y : KS) : Prop := ksame [(0, 15), (0, 16), (56, 1)] [57] x y ∧ jnR y ∧ y.1 56 1 = x.2 3 (m + 1).toNat ∧ y.1 0 15 = 0 ∧ y.1 0 16 = 0
theorem se_cnt {x : KS} (p : seP x) {m : Int} (m1 : 1 ≤ m) (m2 : m ≤ x.1 1 3) : (F_s_countTo (F_t_forget x).2 m).1 = x.2 3 (m + 1).toNat ∧ 0 ≤ x.2 3 (m + 1).toNat ∧ x.2 3 (m + 1).toNat ≤ 10000 := by
  have h3 := p.1.1.2.1
  have f := p.1.1.2.2.2.1 (m + 1).toNat (by omega)
  refine ⟨?_, f.1, f.2⟩
  unfold F_s_countTo
  rw [if_neg (by omega), if_neg (by show ¬ x.1 1 3 < m; omega)]
  rfl
theorem se_0 {x : KS} (p : seP x) {m : Int} (m1 : 1 ≤ m) (m2 : m ≤ x.1 1 3) : seJ x m (F_j_begin (F_t_forget x).2 (F_s_countTo (F_t_forget x).2 m).1).2 := by
  obtain ⟨e, c0, c1⟩ := se_cnt p m1 m2
  rw [e]
  have ff : ksame [(0, 15), (0, 16)] [] x (F_t_forget x).2 := km_s (by decide) (km_s (by decide) (km_rf _ _ _))
  have fb := F_j_begin_fr (F_t_forget x).2 (x.2 3 (m + 1).toNat)
  have bo := F_j_begin_ok (x := (F_t_forget x).2) c0 (jnR_of ff (by decide) (by decide) p.2.1)
  have e15 : (F_t_forget x).2.1 0 15 = 0 := by show (kS (kS x 0 15 0) 0 16 0).1 0 15 = 0; rw [kS_k (by decide), kS_s]
  have e16 : (F_t_forget x).2.1 0 16 = 0 := kS_s
  exact ⟨km_tr (km_mono (by decide) (by decide) ff) (km_mono (by decide) (by decide) fb), bo.1, by rw [bo.2]; omega, by rw [fb.1 0 15 (by decide)]; exact e15, by rw [fb.1 0 16 (by decide)]; exact e16⟩
theorem se_law {x y : KS} {m : Int} (j : seJ x m y) (w1 w2 : Nat) : seJ x m (F_j_joinByLaw y w1 w2 m).2 := by
  obtain ⟨f, jr, e, e15, e16⟩ := j
  have fl := F_j_joinByLaw_fr y w1 w2 m
  exact ⟨km_tr f (km_mono (by decide) (by decide) fl), F_j_joinByLaw_ok jr, by rw [fl.1 56 1 (by decide)]; exact e, by rw [fl.1 0 15 (by decide)]; exact e15, by rw [fl.1 0 16 (by decide)]; exact e16⟩
theorem se_side {x y : KS} {m : Int} (p : seP x) (j : seJ x m y) {k : Nat} (hk : (k : Int) < 2 * x.1 0 14) : wG y (24 + 2 * k) ∧ y.1 (24 + 2 * k) 1 ≤ 12 ∧ kL (24 + 2 * k) = 12 ∧ scX y ∧ wLt y (24 + 2 * k) ∧ y.1 0 14 = x.1 0 14 := by
  have f := j.1
  have l8 := p.2.2.2.2.2.2.2.1
  obtain ⟨g, l⟩ := p.2.2.2.2.2.2.2.2.1 k hk
  have sy : scX y := scX_of f (by decide) (by decide) (by decide) p.1
  have e1 : y.1 (24 + 2 * k) 1 = x.1 (24 + 2 * k) 1 := f.1 _ 1 (by intro h9; simp only [List.mem_cons, List.not_mem_nil, or_false, Prod.mk.injEq] at h9; omega)
  have g2 := wG_eq e1 (f.2 _ (by intro h9; simp only [List.mem_cons, List.not_mem_nil, or_false] at h9; omega)) (f.1 1 2 (by decide)) g
  have kl := kL_law (i := (k : Int)) (by omega) (by omega)
  rw [Int.toNat_natCast] at kl
  exact ⟨g2, by rw [e1]; exact l, kl, sy, wLt_G sy g2, f.1 0 14 (by decide)⟩
def seG (x : KS) (m : Int) (z : KS) : Prop := ksame [(0, 15), (0, 16), (56, 1), (56, 2), (58, 6)] [57, 59, 60, 61, 62, 63] x z ∧ gaQ m z ∧ ruE z ∧ (∃ q, soI z q) ∧ z.1 0 15 = 0 ∧ z.1 0 16 = 0
theorem se_set {x y : KS} {m : Int} (p : seP x) (m1 : 1 ≤ m) (m2 : m ≤ x.1 1 3) (j : seJ x m y) : scX (F_j_settle y).2 ∧ jnR (F_j_settle y).2 ∧ ruR (F_j_settle y).2 ∧ stV (F_j_settle y).2 ∧ m ≤ (F_j_settle y).2.1 1 3 ∧ (F_j_settle y).2.1 56 1 = (F_j_settle y).2.2 3 (m + 1).toNat ∧ ksame [(0, 15), (0, 16), (56, 1), (56, 2)] [57] x (F_j_settle y).2 := by
  obtain ⟨f, jr, e, e15, e16⟩ := j
  have fs := F_j_settle_fr y
  have f2 : ksame [(0, 15), (0, 16), (56, 1), (56, 2)] [57] x (F_j_settle y).2 := km_tr (km_mono (by decide) (by decide) f) (km_mono (by decide) (by decide) fs)
  refine ⟨scX_of f2 (by decide) (by decide) (by decide) p.1, F_j_settle_ok jr, ruR_of f2 (by decide) (by decide) (by decide) (by decide) (by decide) (by decide) p.2.2.1, ?_, by rw [f2.1 1 3 (by decide)]; exact m2, ?_, f2⟩
  · unfold stV
    rw [f2.2 60 (by decide), f2.2 66 (by decide)]
    exact p.2.2.2.2.1
  · rw [fs.1 56 1 (by decide), f2.2 3 (by decide)]
    exact e
theorem se_G {x y : KS} {m : Int} (p : seP x) (m1 : 1 ≤ m) (m2 : m ≤ x.1 1 3) (j : seJ x m y) : seG x m (F_u_gather (F_j_settle y).2 m).2 := by
  obtain ⟨a1, a2, a3, a4, a5, a6, a7⟩ := se_set p m1 m2 j
  have fg := F_u_gather_fr (F_j_settle y).2 m
  have fs := F_j_settle_fr y
  refine ⟨km_tr (km_mono (by decide) (by decide) a7) (km_mono (by decide) (by decide) fg), F_u_gather_ok a1 a2 a3 a4 m1 a5, F_u_gather_E a1 a2 a3 m1 a5 a6, F_u_gather_so a1 m1 a5, ?_, ?_⟩
  · rw [fg.1 0 15 (by decide), fs.1 0 15 (by decide)]; exact j.2.2.2.1
  · rw [fg.1 0 16 (by decide), fs.1 0 16 (by decide)]; exact j.2.2.2.2
def seSF : List (Nat × Nat) := [(0, 15), (0, 16), (56, 1), (56, 2), (58, 6), (64, 7), (101, 4)]
def seAF : List Nat := [57, 59, 60, 61, 62, 63, 65, 66, 102]
theorem se_B {x z : KS} {m : Int} (p : seP x) (g : seG x m z) : mcX (F_a_build z).2 ∧ stV (F_a_build z).2 ∧ ksame [(0, 15), (0, 16), (56, 1), (56, 2), (58, 6), (64, 7)] [57, 59, 60, 61, 62, 63, 65, 66] x (F_a_build z).2 ∧ ruV z ∧ maR z ∧ jnR (F_a_build z).2 := by
  obtain ⟨f, ⟨sx, jr, ru, sv, l1, lm⟩, re, ⟨q, so⟩, e15, e16⟩ := g
  have ma : maR z := maR_of f (by decide) (by decide) (by decide) p.2.2.2.1
  have rv := ruE_V sx re
  have fb := F_a_build_fr z
  have bo := F_a_build_ok sx ru rv so ma sv
  refine ⟨⟨scX_of fb (by decide) (by decide) (by decide) sx, ruR_of fb (by decide) (by decide) (by decide) (by decide) (by decide) (by decide) ru, ruE_of fb (by decide) (by decide) (by decide) (by decide) (by decide) (by decide) (by decide) (by decide) (by decide) re, ⟨q, soI_of fb (by decide) (by decide) so⟩, bo.1, F_a_build_L sx ru re so⟩, bo.2, km_tr (km_mono (by decide) (by decide) f) (km_mono (by decide) (by decide) fb), rv, ma, jnR_of fb (by decide) (by decide) jr⟩
theorem F_k_wipe_s_R : ∀ (n : Nat) (y : KS) (i : Int), (∀ j : Nat, iRL (y.2 102 j)) → ∀ j : Nat, iRL ((F_k_wipe_s n 0 y i).2.2 102 j) := by
  intro n
  induction n with
  | zero => intro y i h; exact h
  | succ n ih =>
    intro y i h
    rw [F_k_wipe_e0]
    repeat' split
    all_goals first | exact h | (refine ih _ _ ?_; rw [kA_s]; exact iU_all (P := iRL) ⟨by decide, by decide⟩ h)
theorem F_k_wipe_s_4 : ∀ (n : Nat) (y : KS) (i : Int), (F_k_wipe_s n 0 y i).2.1 101 4 = y.1 101 4 ∨ (F_k_wipe_s n 0 y i).2.1 101 4 = 1 := by
  intro n
  induction n with
  | zero => intro y i; exact Or.inl rfl
  | succ n ih =>
    intro y i
    rw [F_k_wipe_e0]
    repeat' split
    all_goals first | exact Or.inr kS_s | exact ih _ _
theorem se_F {x b : KS} (p : seP x) (mb : mcX b) (sv : stV b) (f : ksame [(0, 15), (0, 16), (56, 1), (56, 2), (58, 6), (64, 7)] [57, 59, 60, 61, 62, 63, 65, 66] x b) : rOK (F_r_forget b).2 ∧ ksame seSF seAF x (F_r_forget b).2 ∧ keI (F_r_forget b).2 := by
  have fr := F_r_forget_fr b
  have ff : ksame seSF seAF x (F_r_forget b).2 := km_tr (km_mono (by unfold seSF; decide) (by unfold seAF; decide) f) (km_mono (by unfold seSF; decide) (by unfold seAF; decide) fr)
  have sm : sM b (F_r_forget b).2 := sM_of fr (by unfold sMs; decide) (by unfold sMa; decide)
  have eg : b.1 70 5 = x.1 70 5 := f.1 70 5 (by decide)
  have gk := p.2.2.2.2.2.2.2.2.2.2.2.2.2.1
  have ke : keI b := keI_fr f (by decide) (by decide) (by decide) p.2.2.2.2.2.2.2.2.2.2.2.2.2.2
  have key : keI (F_r_forget b).2 ∧ (¬ (F_r_forget b).2.1 70 5 = 0 → gR0 (F_r_forget b).2 (F_r_forget b).2) := by
    by_cases c : b.1 70 5 = 0
    · have e : F_r_forget b = (0, b) := if_pos c
      rw [e]
      exact ⟨ke, fun h => absurd c h⟩
    · have e : F_r_forget b = (0, (F_k_wipe b).2) := if_neg c
      have n5 : ¬ x.1 70 5 = 0 := by rw [← eg]; exact c
      obtain ⟨gw, kn⟩ := gk n5
      have knb : knR b (kWl b) := by
        have ew : kWl b = kWl x := kWl_fr f (by decide)
        rw [ew]
        exact knR_of f (by decide) (by decide) (by decide) (by decide) (by decide) kn
      have wz := F_k_wipe_x knb ke
      have fw := F_k_wipe_fr b
      have w9 : (F_k_wipe b).2.1 101 9 = b.1 101 9 := fw.1 101 9 (by decide)
      have ew : kWl (F_k_wipe b).2 = kWl b := kWl_fr fw (by decide)
      have sm2 : sM (F_k_wipe b).2 (F_k_wipe b).2 := sM_rf _
      rw [e]
      show keI (F_k_wipe b).2 ∧ (¬ (F_k_wipe b).2.1 70 5 = 0 → gR0 (F_k_wipe b).2 (F_k_wipe b).2)
      refine ⟨⟨?_, fun _ i hi => wz i (by rw [← w9]; exact hi)⟩, fun _ => ⟨sm2, ?_, ?_, ?_⟩⟩
      · rcases F_k_wipe_s_4 262200 b 0 with h | h
        · have h : (F_k_wipe b).2.1 101 4 = b.1 101 4 := h
          rw [h]; exact ke.1
        · exact Or.inr h
      · exact grW_of fw (fun a ha hb => by revert ha hb; revert a; decide) (grW_of f (fun a ha hb => by revert ha hb; revert a; decide) gw)
      · intro i hi hn
        exact absurd (wz i (by rw [← w9]; exact hi)) hn
      · rw [ew]
        refine ⟨by rw [w9]; exact knb.1, knb.2.1, F_k_wipe_s_R 262200 b 0 knb.2.2.1, ?_, ?_, ?_⟩
        · rw [fw.2 103 (by decide)]; exact knb.2.2.2.1
        · rw [fw.2 104 (by decide)]; exact knb.2.2.2.2.1
        · rw [fw.2 105 (by decide)]; exact knb.2.2.2.2.2
  refine ⟨⟨mcX_sM sm mb, stV_M sm sv, ?_, ?_, fun h => ⟨key.2 h, key.1⟩⟩, ff, key.1⟩
  · unfold p72
    rw [ff.2 72 (by unfold seAF; decide)]
    exact p.2.2.2.2.2.1
  · rw [ff.2 71 (by unfold seAF; decide)]
    exact p.2.2.2.2.2.2.1
/-- what holds needs, there -/
theorem se_H {x f : KS} (p : seP x) (ff : ksame seSF seAF x f) : (0 ≤ f.1 0 14 ∧ f.1 0 14 ≤ 8) ∧ (∀ j : Nat, (j : Int) < 2 * f.1 0 14 → wG f (24 + 2 * j) ∧ f.1 (24 + 2 * j) 1 ≤ 12) ∧ r03 (f.2 74) ∧ r03 (f.2 76) ∧ (∀ j : Nat, iRL (f.2 67 j)) ∧ (∀ j : Nat, iRL (f.2 68 j)) := by
  obtain ⟨sx, jr, ru, ma, sv, pp, r71, l8, lw, r3, r6, w7, w8, gk, ke⟩ := p
  have e14 : f.1 0 14 = x.1 0 14 := ff.1 0 14 (by unfold seSF; decide)
  rw [e14, ff.2 74 (by unfold seAF; decide), ff.2 76 (by unfold seAF; decide), ff.2 67 (by unfold seAF; decide), ff.2 68 (by unfold seAF; decide)]
  refine ⟨l8, fun j hj => ?_, r3, r6, w7, w8⟩
  obtain ⟨g, l⟩ := lw j hj
  have e1 : f.1 (24 + 2 * j) 1 = x.1 (24 + 2 * j) 1 := ff.1 _ 1 (by unfold seSF; intro h9; simp only [List.mem_cons, List.not_mem_nil, or_false, Prod.mk.injEq] at h9; omega)
  exact ⟨wG_eq e1 (ff.2 _ (by unfold seAF; intro h9; simp only [List.mem_cons, List.not_mem_nil, or_false] at h9; omega)) (ff.1 1 2 (by unfold seSF; decide)) g, by rw [e1]; exact l⟩
