-- deps: 98.n
/-! What the steps of see keep -/
theorem F_j_begin_s_ok (v : Int) : ∀ (n : Nat) (y : KS) (i : Int), 0 ≤ i → jnR y → jnR (F_j_begin_s n 0 y v i).2 := by
  intro n
  induction n with
  | zero => intro y i _ h; exact h
  | succ n ih =>
    intro y i h0 h
    rw [F_j_begin_e0]
    split
    · exact h
    · exact ih _ _ (by omega) (jnR_up h h0 (by omega))
theorem F_j_begin_ok {x : KS} {v : Int} (v0 : 0 ≤ v) (jr : jnR x) : jnR (F_j_begin x v).2 ∧ (F_j_begin x v).2.1 56 1 = min v 10000 := by
  refine ⟨F_j_begin_s_ok v 10010 _ 0 (by omega) ⟨by show 0 ≤ (kS x 56 1 (min v 10000)).1 56 1 ∧ (kS x 56 1 (min v 10000)).1 56 1 ≤ 10000; rw [kS_s]; omega, jr.2⟩, ?_⟩
  have f : ∀ (n : Nat) (y : KS) (i : Int), (F_j_begin_s n 0 y v i).2.1 56 1 = y.1 56 1 := by
    intro n
    induction n with
    | zero => intro y i; rfl
    | succ n ih =>
      intro y i
      rw [F_j_begin_e0]
      split
      · rfl
      · exact ih _ _
  exact (f 10010 (kS x 56 1 (min v 10000)) 0).trans kS_s
theorem F_j_settle_s_ok : ∀ (n : Nat) (y : KS) (i : Int), 0 ≤ i → jnR y → jnR (F_j_settle_s n 0 y i).2 := by
  intro n
  induction n with
  | zero => intro y i _ h; exact h
  | succ n ih =>
    intro y i h0 h
    rw [F_j_settle_e0]
    split
    · exact h
    · rename_i c1
      have b1 := h.1
      have a1 := h.2 i.toNat (by omega)
      have a2 := h.2 (y.2 57 i.toNat).toNat (by omega)
      have key : ∀ z : KS, z.1 56 1 = y.1 56 1 → z.2 57 = y.2 57 → jnR (kA z 57 i.toNat (y.2 57 (y.2 57 i.toNat).toNat)) := fun z e1 e2 => jnR_up (r := i.toNat) (y := z) ⟨by rw [e1]; exact b1, by rw [e2]; exact h.2⟩ a2.1 (by omega)
      split
      · exact ih _ _ (by omega) (key _ (kS_k (by decide)) rfl)
      · exact ih _ _ (by omega) (key _ rfl rfl)
theorem F_j_settle_ok {x : KS} (jr : jnR x) : jnR (F_j_settle x).2 := F_j_settle_s_ok 10010 _ 0 (by omega) ⟨by show 0 ≤ (kS x 56 2 0).1 56 1 ∧ (kS x 56 2 0).1 56 1 ≤ 10000; rw [kS_k (by decide)]; exact jr.1, jr.2⟩
theorem F_s_spanOf_s_1 {x : KS} (v : Int) : ∀ (n : Nat) (g : Int), 1 ≤ g → g ≤ x.1 1 3 → x.1 1 3 - g < n → 1 ≤ (F_s_spanOf_s n 0 x v g).1 := by
  intro n
  induction n with
  | zero => intro g _ _ h; exfalso; omega
  | succ n ih =>
    intro g h1 h2 h3
    rw [F_s_spanOf_e0]
    split
    · exact h1
    · split
      · exact h1
      · exact ih _ (by omega) (by omega) (by omega)
theorem sc_first1 {x : KS} (sx : scX x) : x.2 3 1 = 1 := by
  have h := sx.2.2.2.1 0 (by have := sx.1.2.1; omega)
  rw [sx.1.2.2.2.2, sx.2.1] at h
  exact h
theorem F_s_spanOf_1 {x : KS} (sx : scX x) (h1 : 1 ≤ x.1 1 3) {v : Int} (hv : 1 ≤ v) : 1 ≤ (F_s_spanOf x v).1 := by
  have f1 := sc_first1 sx
  have h20 := sx.1.2.1
  show 1 ≤ (F_s_spanOf_s (29 + 1) 0 x v 0).1
  rw [F_s_spanOf_e0, if_neg (by omega), if_neg (by show ¬ v < x.2 3 1; omega)]
  exact F_s_spanOf_s_1 v 29 _ (by omega) (by omega) (by omega)
def gaQ (m0 : Int) (y : KS) : Prop := scX y ∧ jnR y ∧ ruR y ∧ stV y ∧ 1 ≤ y.1 1 3 ∧ m0 ≤ y.1 1 3
theorem F_u_keep_stV {y : KS} (sx : scX y) (h1 : 1 ≤ y.1 1 3) (sv : stV y) {a b : Int} (ha : 1 ≤ a) : stV (F_u_keep y a b).2 := by
  by_cases c : y.1 58 6 < 40
  · obtain ⟨_, _, e60, _⟩ := F_u_keep_v (a := a) (b := b) c
    have e66 : (F_u_keep y a b).2.2 66 = y.2 66 := (F_u_keep_fr y a b).2 66 (by decide)
    unfold stV
    rw [e60, e66]
    intro j hj
    have o := sv j hj
    refine ⟨o.1, ?_⟩
    rw [iU_if]
    split
    · exact F_s_spanOf_1 sx h1 ha
    · exact o.2
  · unfold F_u_keep
    rw [if_neg c]
    exact sv
theorem gaQ_keep {m0 : Int} {y : KS} (q : gaQ m0 y) {a : Int} (h0 : 1 ≤ a) (h1 : a ≤ 20000) : gaQ m0 (F_u_keep (F_j_leastOf y a).2 a (F_j_leastOf y a).1).2 := by
  obtain ⟨sx, jr, ru, sv, l1, lm⟩ := q
  have fl := F_j_leastOf_fr y a
  have ol := F_j_leastOf_ok (v := a) jr
  have sx2 : scX (F_j_leastOf y a).2 := scX_of fl (by decide) (by decide) (by decide) sx
  have ru2 : ruR (F_j_leastOf y a).2 := ruR_of fl (by decide) (by decide) (by decide) (by decide) (by decide) (by decide) ru
  have sv2 : stV (F_j_leastOf y a).2 := by unfold stV; rw [fl.2 60 (by decide), fl.2 66 (by decide)]; exact sv
  have l2 : (F_j_leastOf y a).2.1 1 3 = y.1 1 3 := fl.1 1 3 (by decide)
  have fk := F_u_keep_fr (F_j_leastOf y a).2 a (F_j_leastOf y a).1
  have l3 : (F_u_keep (F_j_leastOf y a).2 a (F_j_leastOf y a).1).2.1 1 3 = y.1 1 3 := (fk.1 1 3 (by decide)).trans l2
  exact ⟨scX_of fk (by decide) (by decide) (by decide) sx2, jnR_of fk (by decide) (by decide) ol.1, F_u_keep_ok sx2.1 ru2 (by omega) h1 ol.2.1, F_u_keep_stV sx2 (by rw [l2]; exact l1) sv2 h0, by rw [l3]; exact l1, by rw [l3]; exact lm⟩
theorem F_u_gather_s_ok {m0 : Int} : ∀ n : Nat, (∀ (y : KS) (g a b c : Int), gaQ m0 y → 1 ≤ g → gaQ m0 (F_u_gather_s n 0 y m0 g a b c).2) ∧ (∀ (y : KS) (g s9 p9 v : Int), gaQ m0 y → 1 ≤ g → 1 ≤ s9 → s9 ≤ 10000 → p9 ≤ 10000 → 0 ≤ v → gaQ m0 (F_u_gather_s n 1 y m0 g s9 p9 v).2) := by
  intro n
  induction n with
  | zero => exact ⟨fun y _ _ _ _ q _ => q, fun y _ _ _ _ q _ _ _ _ _ => q⟩
  | succ n ih =>
    refine ⟨fun y g a b c q hg => ?_, fun y g s9 p9 v q hg h1 h2 h3 h4 => ?_⟩
    · rw [F_u_gather_e0]
      split
      · exact q
      · rename_i c1
        obtain ⟨sx, jr, ru, sv, l1, lm⟩ := id q
        have fb := F_s_firstOf_b sx.1 g
        have pb := F_s_powerOf_b sx.1 g
        have fv := F_s_firstOf_v (x := y) (k := g) (by omega) (by omega)
        have mo := sc_first_mono sx 1 (g.toNat - 1) (by omega)
        rw [sc_first1 sx, show 1 + (g.toNat - 1) = g.toNat by omega] at mo
        exact ih.2 _ _ _ _ _ q hg (by omega) fb.2 pb.2 (by omega)
    · rw [F_u_gather_e1]
      have k := gaQ_keep q (a := s9 + v)
      by_cases cv : p9 ≤ v
      · rw [if_pos cv]; exact ih.1 _ _ _ _ _ q (by omega)
      · rw [if_neg cv]
        have k := k (by omega) (by omega)
        repeat' split
        all_goals first | exact ih.2 _ _ _ _ _ q hg h1 h2 h3 (by omega) | exact k | exact ih.2 _ _ _ _ _ k hg h1 h2 h3 (by omega)
theorem F_u_gather_ok {x : KS} (sx : scX x) (jr : jnR x) (ru : ruR x) (sv : stV x) {m0 : Int} (m1 : 1 ≤ m0) (m2 : m0 ≤ x.1 1 3) : gaQ m0 (F_u_gather x m0).2 := by
  refine (F_u_gather_s_ok 300000).1 _ 1 0 0 0 ⟨scX_same (kS_c (by decide)) rfl rfl sx, jr, ⟨by show 0 ≤ (kS x 58 6 0).1 58 6 ∧ (kS x 58 6 0).1 58 6 ≤ 40; rw [kS_s]; omega, ru.2⟩, sv, ?_, ?_⟩ (by omega)
  · show 1 ≤ x.1 1 3; omega
  · exact m2
theorem F_u_gather_01 : ∀ n : Nat, (∀ (y : KS) (m0 g a b c : Int), (F_u_gather_s n 0 y m0 g a b c).1 = 0 ∨ (F_u_gather_s n 0 y m0 g a b c).1 = 1) ∧ (∀ (y : KS) (m0 g a b c : Int), (F_u_gather_s n 1 y m0 g a b c).1 = 0 ∨ (F_u_gather_s n 1 y m0 g a b c).1 = 1) := by
  intro n
  induction n with
  | zero => exact ⟨fun _ _ _ _ _ _ => Or.inl rfl, fun _ _ _ _ _ _ => Or.inl rfl⟩
  | succ n ih =>
    refine ⟨fun y m0 g a b c => ?_, fun y m0 g a b c => ?_⟩
    · rw [F_u_gather_e0]
      split
      · exact Or.inr rfl
      · exact ih.2 _ _ _ _ _ _
    · rw [F_u_gather_e1]
      repeat' split
      all_goals first | exact Or.inl rfl | exact ih.1 _ _ _ _ _ _ | exact ih.2 _ _ _ _ _ _
/-- a step below 0 names a RULE -/
theorem F_a_endOf_s_n {x : KS} (ru : ruR x) (rv : ruV x) {q : Int} (so : soI x q) : ∀ n : Nat, (∀ g v k : Int, (F_a_endOf_s n 0 x g v k).1 < 0 → -40 ≤ (F_a_endOf_s n 0 x g v k).1 ∧ 1 ≤ x.2 60 (-1 - (F_a_endOf_s n 0 x g v k).1).toNat) ∧ (∀ g v k : Int, ¬ (F_a_endOf_s n 1 x g v k).1 < 0) := by
  have r40 := ru.1
  intro n
  induction n with
  | zero => exact ⟨fun g v k h => absurd h (by show ¬ (0 : Int) < 0; decide), fun g v k => by show ¬ (0 : Int) < 0; decide⟩
  | succ n ih =>
    refine ⟨fun g v k => ?_, fun g v k => ?_⟩
    · rw [F_a_endOf_e0]
      split
      · intro h; exact absurd h (ih.2 _ _ _)
      · split
        · exact ih.1 _ _ _
        · rename_i c1 c2
          intro _
          have p := (F_t_placeOf_x (x := x) (a1 := 59) (e1 := x.1 58 6) (v := (F_s_firstOf x k).1 + v % (F_s_powerOf x k).1) r40.1 (by omega) (by show x.1 58 6 ≤ ((40 : Nat) : Int); omega) so.2.1).1
          have e : (F_u_withLeft x ((F_s_firstOf x k).1 + v % (F_s_powerOf x k).1)).1 = (F_t_placeOf x 59 (x.1 58 6) ((F_s_firstOf x k).1 + v % (F_s_powerOf x k).1)).1 := rfl
          rw [e] at c2 ⊢
          have p := p (by omega)
          show -40 ≤ -1 - (F_t_placeOf x 59 (x.1 58 6) ((F_s_firstOf x k).1 + v % (F_s_powerOf x k).1)).1 ∧ 1 ≤ x.2 60 (-1 - (-1 - (F_t_placeOf x 59 (x.1 58 6) ((F_s_firstOf x k).1 + v % (F_s_powerOf x k).1)).1)).toNat
          have r := rv (F_t_placeOf x 59 (x.1 58 6) ((F_s_firstOf x k).1 + v % (F_s_powerOf x k).1)).1.toNat (by omega)
          rw [show -1 - (-1 - (F_t_placeOf x 59 (x.1 58 6) ((F_s_firstOf x k).1 + v % (F_s_powerOf x k).1)).1) = (F_t_placeOf x 59 (x.1 58 6) ((F_s_firstOf x k).1 + v % (F_s_powerOf x k).1)).1 by omega]
          exact ⟨by omega, r.1⟩
    · rw [F_a_endOf_e1]
      split
      · show ¬ (0 : Int) < 0; decide
      · split
        · exact ih.2 _ _ _
        · assumption
def bI (x y : KS) : Prop := ksame [(64, 7)] [65, 66] x y ∧ maR y ∧ stV y ∧ y.1 64 7 * y.1 1 2 ≤ 640
theorem F_a_build_s_ok {x : KS} (sx : scX x) (ru : ruR x) (rv : ruV x) {q : Int} (so : soI x q) : ∀ n : Nat, (∀ (y : KS) (d a b c : Int), bI x y → 0 ≤ d → maR (F_a_build_s n 0 y d a b c).2 ∧ stV (F_a_build_s n 0 y d a b c).2) ∧ (∀ (y : KS) (d g k c : Int), bI x y → 0 ≤ d → d < x.1 58 6 → maR (F_a_build_s n 1 y d g k c).2 ∧ stV (F_a_build_s n 1 y d g k c).2) ∧ (∀ (y : KS) (i a b c : Int), bI x y → maR (F_a_build_s n 2 y i a b c).2 ∧ stV (F_a_build_s n 2 y i a b c).2) ∧ (∀ (y : KS) (i g b z : Int), bI x y → maR (F_a_build_s n 3 y i g b z).2 ∧ stV (F_a_build_s n 3 y i g b z).2) := by
  intro n
  induction n with
  | zero => exact ⟨fun y _ _ _ _ h _ => ⟨h.2.1, h.2.2.1⟩, fun y _ _ _ _ h _ _ => ⟨h.2.1, h.2.2.1⟩, fun y _ _ _ _ h => ⟨h.2.1, h.2.2.1⟩, fun y _ _ _ _ h => ⟨h.2.1, h.2.2.1⟩⟩
  | succ n ih =>
    refine ⟨fun y d a b c h hd => ?_, fun y d g k c h hd hd2 => ?_, fun y i a b c h => ?_, fun y i g b z h => ?_⟩
    · rw [F_a_build_e0]
      have e58 : y.1 58 6 = x.1 58 6 := h.1.1 58 6 (by decide)
      split
      · exact ih.2.2.1 _ _ _ _ _ h
      · exact ih.2.1 _ _ _ _ _ h hd (by omega)
    · rw [F_a_build_e1]
      obtain ⟨f, ma, sv, hN⟩ := id h
      have sxy := scX_of f (by decide) (by decide) (by decide) sx
      have ruy := ruR_of f (by decide) (by decide) (by decide) (by decide) (by decide) (by decide) ru
      have rvy := ruV_of f (by decide) (by decide) (by decide) (by decide) (by decide) rv
      have nb := F_u_numberOfBeginning_b (k := k) sxy ruy rvy hd (by rw [f.1 58 6 (by decide)]; exact hd2)
      have ko := F_a_keep_ok ma nb.1 nb.2 hN
      have fk := F_a_keep_fr y (F_u_numberOfBeginning y d k).1
      split
      · exact ih.1 _ _ _ _ _ h (by omega)
      · exact ih.2.1 _ _ _ _ _ ⟨km_tr f (km_mono (by decide) (by decide) fk), ko.1, by unfold stV; rw [fk.2 60 (by decide), fk.2 66 (by decide)]; exact sv, ko.2⟩ hd hd2
    · rw [F_a_build_e2]
      split
      · exact ⟨h.2.1, h.2.2.1⟩
      · exact ih.2.2.2 _ _ _ _ _ h
    · rw [F_a_build_e3]
      obtain ⟨f, ma, sv, hN⟩ := id h
      have ruy := ruR_of f (by decide) (by decide) (by decide) (by decide) (by decide) (by decide) ru
      have rvy := ruV_of f (by decide) (by decide) (by decide) (by decide) (by decide) rv
      have soy := soI_of f (by decide) (by decide) so
      have eb := F_a_endOf_b ruy ma (g + 1) (b + z)
      have m1 := ma.1
      split
      · exact ih.2.2.1 _ _ _ _ _ h
      · refine ih.2.2.2 _ _ _ _ _ ⟨km_tr f (km_a (by decide) (km_rf _ _ _)), ⟨ma.1, ma.2.1, ?_⟩, ?_, hN⟩
        · rw [kA_s]
          exact iU_all (P := fun z => -1000 ≤ z ∧ z < 320) ⟨by omega, by
            by_cases c3 : y.1 64 7 = 320
            · have := (F_a_endOf_b ruy ma (g + 1) (b + z)).2
              omega
            · omega⟩ ma.2.2
        · have en := (F_a_endOf_s_n ruy rvy soy 100).1 (g + 1) (b + z) (g + 1)
          intro j
          rw [kA_s, kA_c (by decide), iU_if]
          split
          · exact en
          · exact sv j
theorem F_a_build_ok {x : KS} (sx : scX x) (ru : ruR x) (rv : ruV x) {q : Int} (so : soI x q) (ma : maR x) (sv : stV x) : maR (F_a_build x).2 ∧ stV (F_a_build x).2 := by
  have ma0 : maR (kS x 64 7 0) := ⟨by show 0 ≤ (kS x 64 7 0).1 64 7 ∧ (kS x 64 7 0).1 64 7 ≤ 320; rw [kS_s]; omega, ma.2⟩
  have k0 := F_a_keep_ok (x := kS x 64 7 0) (v := 0) ma0 (by decide) (by decide) (by rw [kS_s, Int.zero_mul]; decide)
  have fk := F_a_keep_fr (kS x 64 7 0) 0
  refine (F_a_build_s_ok sx ru rv so 13000).1 _ 0 0 0 0 ⟨km_tr (km_s (by decide) (km_rf _ _ _)) (km_mono (by decide) (by decide) fk), k0.1, ?_, k0.2⟩ (by omega)
  unfold stV
  rw [fk.2 60 (by decide), fk.2 66 (by decide)]
  exact sv
