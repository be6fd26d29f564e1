-- deps: 98.m
/-! holds -/
def hI (x y : KS) : Prop := rOK y ∧ gfr [(70, 4), (70, 5), (64, 8), (73, 1), (75, 1)] [71, 72, 74, 76] x y ∧ r03 (y.2 74) ∧ r03 (y.2 76)
theorem hI_M {x y : KS} (h : hI x y) : sM x y := gm_M h.2.1 (by unfold sMs; decide) (by unfold sMa; decide)
theorem hI_lw {x y : KS} (h : hI x y) {n0 : Int} (n8 : n0 ≤ 8) (lw : ∀ j : Nat, (j : Int) < 2 * n0 → wG x (24 + 2 * j) ∧ x.1 (24 + 2 * j) 1 ≤ 12) {j : Nat} (hj : (j : Int) < 2 * n0) : wG y (24 + 2 * j) ∧ y.1 (24 + 2 * j) 1 ≤ 12 ∧ kL (24 + 2 * j) = 12 ∧ wS y (24 + 2 * j) = wS x (24 + 2 * j) := by
  obtain ⟨g, l⟩ := lw j hj
  have e1 : y.1 (24 + 2 * j) 1 = x.1 (24 + 2 * j) 1 := h.2.1.1 _ 1 (by omega) (by intro h9; simp only [List.mem_cons, List.not_mem_nil, or_false, Prod.mk.injEq] at h9; omega)
  have e2 : y.2 (24 + 2 * j + 1) = x.2 (24 + 2 * j + 1) := h.2.1.2 _ (by omega) (by intro h9; simp only [List.mem_cons, List.not_mem_nil, or_false] at h9; omega)
  have kl := kL_law (i := (j : Int)) (by omega) (by omega)
  rw [Int.toNat_natCast] at kl
  refine ⟨wG_eq e1 e2 (h.2.1.1 1 2 (by decide) (by decide)) g, by rw [e1]; exact l, kl, ?_⟩
  unfold wS
  rw [e1, e2]
theorem hI_take3 {x y : KS} (h : hI x y) {c : Nat} (hc : kW c = true) (ne : c ≠ 73) (g : wG y c) : hI x (F_w_take y 73 c).2 ∧ wG (F_w_take y 73 c).2 73 ∧ wL (F_w_take y 73 c).2 73 (wS y c) := by
  have f := F_w_take_fr y 73 c
  have t := take_G (x := y) (w := 73) (q := c) rfl hc (Ne.symm ne) g h.2.2.1 (by show _ ≤ ((60 : Nat) : Int); exact g.1.2)
  exact ⟨⟨rOK_w (w := 73) rfl (by decide) f h.1, gm_tr h.2.1 (gm_mono (by decide) (by decide) (gm_of f)), F_w_take_r h.2.2.1 g.2.1, by rw [f.2 76 (by decide)]; exact h.2.2.2⟩, t.1, t.2⟩
theorem hI_take5 {x y : KS} (h : hI x y) {c : Nat} (hc : kW c = true) (ne : c ≠ 75) (g : wG y c) : hI x (F_w_take y 75 c).2 ∧ wG (F_w_take y 75 c).2 75 ∧ wL (F_w_take y 75 c).2 75 (wS y c) ∧ (wG y 73 → wG (F_w_take y 75 c).2 73) ∧ wS (F_w_take y 75 c).2 73 = wS y 73 := by
  have f := F_w_take_fr y 75 c
  have t := take_G (x := y) (w := 75) (q := c) rfl hc (Ne.symm ne) g h.2.2.2 (by show _ ≤ ((60 : Nat) : Int); exact g.1.2)
  refine ⟨⟨rOK_w (w := 75) rfl (by decide) f h.1, gm_tr h.2.1 (gm_mono (by decide) (by decide) (gm_of f)), by rw [f.2 74 (by decide)]; exact h.2.2.1, F_w_take_r h.2.2.2 g.2.1⟩, t.1, t.2, fun g3 => wG_fr f (by decide) (by decide) (by decide) g3, ?_⟩
  unfold wS
  rw [f.1 73 1 (by decide), f.2 74 (by decide)]
theorem hI_agree {x y : KS} (h : hI x y) (g3 : wG y 73) (g5 : wG y 75) : hI x (F_p_agree y).2 ∧ ((F_p_agree y).1 = 0 ∨ (F_p_agree y).1 = 1) := by
  obtain ⟨k1, k2, k3, U, V, _, _, _, _, e⟩ := agree_x h.1 g3 g5
  refine ⟨⟨k1, gm_tr h.2.1 (gm_mono (by decide) (by decide) (F_p_agree_fr y)), k2.2.1, k3.2.1⟩, ?_⟩
  rw [e]
  split
  · exact Or.inr rfl
  · exact Or.inl rfl
theorem hI_st2 {x y z : KS} (h : hI x y) (f : ksame [(73, 1), (75, 1)] [74, 76] y z) {A B : List Int} (t : st2 y z A B) (lA : A.length ≤ 60) (lB : B.length ≤ 60) (oA : okL (nL y) A) (oB : okL (nL y) B) : hI x z ∧ wG z 73 ∧ wG z 75 := by
  obtain ⟨sm, a, b, r3, r6⟩ := t
  refine ⟨⟨rOK_fr f ?_ ?_ h.1, gm_tr h.2.1 (gm_mono (by decide) (by decide) (gm_of f)), r3, r6⟩, wG_of a lA r3 (by rw [sM_nL sm]; exact oA), wG_of b lB r6 (by rw [sM_nL sm]; exact oB)⟩
  · intro p hp
    simp only [List.mem_cons, List.not_mem_nil, or_false] at hp
    rcases hp with e | e <;> subst e
    · exact rSs_w (w := 73) rfl
    · exact rSs_w (w := 75) rfl
  · intro p hp
    simp only [List.mem_cons, List.not_mem_nil, or_false] at hp
    rcases hp with e | e <;> subst e
    · exact rAs_w (w := 73) rfl (by decide)
    · exact rAs_w (w := 75) rfl (by decide)
theorem hI_meets {x y : KS} (h : hI x y) {d k v : Int} (d0 : 0 ≤ d) (d1 : d < y.1 58 6) (k0 : 0 ≤ k) (k1 : k < y.1 58 6) (v0 : 0 ≤ v) (v1 : v ≤ ((lS y d.toNat).length : Int)) (v2 : v ≤ ((lS y k.toNat).length : Int)) : hI x (F_p_meets y d k v).2 ∧ ((F_p_meets y d k v).1 = 0 ∨ (F_p_meets y d k v).1 = 1) ∧ (¬ (F_p_meets y d k v).1 = 0 → wG (F_p_meets y d k v).2 73 ∧ wG (F_p_meets y d k v).2 75) := by
  have m := h.1.1
  have hr : d.toNat < nR y := by unfold nR; omega
  have hq : k.toNat < nR y := by unfold nR; omega
  have X := F_p_meets_x m hr hq (v := v.toNat) (by omega) (by omega) h.2.2.1 h.2.2.2
  rw [Int.toNat_of_nonneg d0, Int.toNat_of_nonneg k0, Int.toNat_of_nonneg v0] at X
  obtain ⟨_, _, _, _, lr20, rr⟩ := mc_code m hr
  obtain ⟨_, _, _, _, lq20, rq⟩ := mc_code m hq
  have ar := (mc_ahd m hr).2.2
  have aq := (mc_ahd m hq).2.2
  rcases X with ⟨_, e⟩ | ⟨_, e1, t⟩
  · rw [e]
    exact ⟨h, Or.inl rfl, fun h9 => absurd rfl h9⟩
  · have G := hI_st2 h (F_p_meets_fr y d k v) t (by rw [List.length_append, List.length_drop]; omega) (by rw [List.length_append, List.length_take]; omega) (okL_app.mpr ⟨ar.2, okL_drop aq.1 _⟩) (okL_app.mpr ⟨okL_take ar.1 _, aq.2⟩)
    exact ⟨G.1, Or.inr e1, fun _ => G.2⟩
theorem hI_encloses {x y : KS} (h : hI x y) {d k v : Int} (d0 : 0 ≤ d) (d1 : d < y.1 58 6) (k0 : 0 ≤ k) (k1 : k < y.1 58 6) (v0 : 0 ≤ v) (v1 : v + ((lS y k.toNat).length : Int) ≤ ((lS y d.toNat).length : Int)) : hI x (F_p_encloses y d k v).2 ∧ ((F_p_encloses y d k v).1 = 0 ∨ (F_p_encloses y d k v).1 = 1) ∧ (¬ (F_p_encloses y d k v).1 = 0 → wG (F_p_encloses y d k v).2 73 ∧ wG (F_p_encloses y d k v).2 75) := by
  have m := h.1.1
  have hr : d.toNat < nR y := by unfold nR; omega
  have hq : k.toNat < nR y := by unfold nR; omega
  have X := F_p_encloses_x m hr hq (v := v.toNat) (by omega) h.2.2.1 h.2.2.2
  rw [Int.toNat_of_nonneg d0, Int.toNat_of_nonneg k0, Int.toNat_of_nonneg v0] at X
  obtain ⟨_, _, _, _, lr20, rr⟩ := mc_code m hr
  obtain ⟨_, _, _, _, lq20, rq⟩ := mc_code m hq
  have ar := (mc_ahd m hr).2.2
  have aq := (mc_ahd m hq).2.2
  rcases X with ⟨_, e⟩ | ⟨_, e1, t⟩
  · rw [e]
    exact ⟨h, Or.inl rfl, fun h9 => absurd rfl h9⟩
  · have G := hI_st2 h (F_p_encloses_fr y d k v) t (by omega) (by rw [List.length_append, List.length_append, List.length_take, List.length_drop]; omega) ar.2 (okL_app.mpr ⟨okL_app.mpr ⟨okL_take ar.1 _, aq.2⟩, okL_drop ar.1 _⟩)
    exact ⟨G.1, Or.inr e1, fun _ => G.2⟩
/-- how long a LEFT side is -/
theorem hI_span {x y : KS} (h : hI x y) {d : Int} (d0 : 0 ≤ d) (d1 : d < y.1 58 6) : (F_u_spanOf y d 1).1 = ((lS x d.toNat).length : Int) ∧ (lS x d.toNat).length ≤ 20 ∧ lS y = lS x := by
  have m := h.1.1
  have hr : d.toNat < nR y := by unfold nR; omega
  have e := spanOf_x m (sM_rf y) hr (b := 1) (Or.inr rfl)
  rw [Int.toNat_of_nonneg d0, sd_1, sM_lS (hI_M h)] at e
  have l := (mc_code m hr).2.2.2.2.1
  rw [sM_lS (hI_M h)] at l
  exact ⟨e, l, sM_lS (hI_M h)⟩
