-- deps: B3.c
/-! like of the reference once more: its two STRINGS are of LETTERS -/
def lkQ2 (x : MS) (a b : Int) (q : Int × MS) : Prop := (¬ ((0 ≤ a ∧ a ≤ 7) ∧ (0 ≤ b ∧ b ≤ 7)) ∧ q = (-1, x)) ∨ (((0 ≤ a ∧ a ≤ 7) ∧ (0 ≤ b ∧ b ≤ 7)) ∧ rdN x q.2 ∧ (((stM x a.toNat ∨ stM x b.toNat) ∧ q.1 = -3) ∨ (¬ stM x a.toNat ∧ ¬ stM x b.toNat ∧ ∃ u v, (resM x a.toNat u ∧ okL (x.1 0).toNat u) ∧ (resM x b.toNat v ∧ okL (x.1 0).toNat v) ∧ q.1 = if u = v then 1 else 0)))
theorem lk2_3 {x : MS} {a b : Int} (hrw : rwR x) (ha : 0 ≤ a ∧ a ≤ 7) (hb : 0 ≤ b ∧ b ≤ 7) (p : rcQ x a.toNat ((9 : Int)).toNat (F_m_reduced x a ((9 : Int)))) (h : (F_m_reduced x a ((9 : Int))).1 < 0) : lkQ2 x a b ((F_m_reduced x a ((9 : Int))).1, (F_m_reduced x a ((9 : Int))).2) := by
  rcases p with ⟨e, s⟩ | ⟨e, _⟩
  · have e1 : (F_m_reduced x a ((9 : Int))).1 = -3 := congrArg Prod.fst e
    have e2 : (F_m_reduced x a ((9 : Int))).2 = x := congrArg Prod.snd e
    refine Or.inr ⟨⟨ha, hb⟩, ?_, Or.inl ⟨Or.inl s, e1⟩⟩
    show rdN x (F_m_reduced x a ((9 : Int))).2
    rw [e2]; exact rdN_0 hrw
  · exfalso; omega
theorem lk2_4 {x y : MS} {a b : Int} (l0 : 1 ≤ x.1 0) (hs : slH x b.toNat) (sh : ¬ x.1 6 = -9 → snH x) (ha : 0 ≤ a ∧ a ≤ 7) (hb : 0 ≤ b ∧ b ≤ 7) (s0 : ¬ stM x a.toNat) (s1 : rcS x y 9) (p : rcQ y b.toNat ((10 : Int)).toNat (F_m_reduced y b ((10 : Int)))) (h : (F_m_reduced y b ((10 : Int))).1 < 0) : lkQ2 x a b ((F_m_reduced y b ((10 : Int))).1, (F_m_reduced y b ((10 : Int))).2) := by
  have ns : ¬ x.1 6 = -9 := fun e => s0 (Or.inl e)
  rcases p with ⟨e, s⟩ | ⟨e, _⟩
  · have e1 : (F_m_reduced y b ((10 : Int))).1 = -3 := congrArg Prod.fst e
    have e2 : (F_m_reduced y b ((10 : Int))).2 = y := congrArg Prod.snd e
    refine Or.inr ⟨⟨ha, hb⟩, ?_, Or.inl ⟨Or.inr ((rc_res (u := []) s1 (by omega) l0 hs sh ns).2.mp s), e1⟩⟩
    show rdN x (F_m_reduced y b ((10 : Int))).2
    rw [e2]; exact rcS_N (Or.inl rfl) s1
  · exfalso; omega
theorem lk2_5 {x y z : MS} {a b w : Int} {u v : List Int} (l0 : 1 ≤ x.1 0) (hs : slH x b.toNat) (sh : ¬ x.1 6 = -9 → snH x) (ha : 0 ≤ a ∧ a ≤ 7) (hb : 0 ≤ b ∧ b ≤ 7) (s0 : ¬ stM x a.toNat) (s1 : rcS x y 9) (rs : resM x a.toNat u) (s2 : ¬ stM y b.toNat) (s3 : rcS y z 10) (rs2 : resM y b.toNat v) (k9 : slK x z 9 u) (k10 : slK y z 10 v) (hw : (w = 1 ∧ slM z 9 = slM z 10) ∨ (w = 0 ∧ slM z 9 ≠ slM z 10)) : lkQ2 x a b (w, z) := by
  have ns : ¬ x.1 6 = -9 := fun e => s0 (Or.inl e)
  have R := rc_res (u := v) s1 (show b.toNat < 8 by omega) l0 hs sh ns
  refine Or.inr ⟨⟨ha, hb⟩, rdN_t (rcS_N (Or.inl rfl) s1) (rcS_N (Or.inr rfl) s3), Or.inr ⟨s0, fun e => s2 (R.2.mpr e), u, v, ⟨rs, k9.2.2.1⟩, ⟨R.1 rs2, by rw [← (rc_LR s1).2.2.2.1]; exact k10.2.2.1⟩, ?_⟩⟩
  rw [k9.2.1, k10.2.1] at hw
  show w = _
  rcases hw with ⟨h1, h2⟩ | ⟨h1, h2⟩
  · rw [if_pos h2, h1]
  · rw [if_neg h2, h1]
set_option maxHeartbeats 4000000 in
theorem F_m_like_p2 (x : MS) (a : Int) (b : Int) (ra : iR a) (rb : iR b) (lt : 1 ≤ x.1 0 ∧ x.1 0 ≤ 4) (sn : iR (x.1 6)) (ic : x.1 27 = 0 ∨ x.1 27 = 1) (hrw : rwR x) (hs : ∀ k : Nat, k < 9 → slH x k) (mz : ¬ x.1 6 = -9 → ¬ x.1 27 = 0 → mzH x) (sh : ¬ x.1 6 = -9 → snH x) : lkQ2 x a b (F_m_like (x) (a) (b)) := by
  unfold F_m_like
  by_cases c_4 : ((F_m_isSlot (x) (a)).1) = (0)
  · rw [if_pos c_4]
    exact Or.inl ⟨by first | (have h9 := F_in_00 (by rw [← F_m_isSlot_1 x b]; exact c_11); omega) | (have h9 := F_in_00 (by rw [← F_m_isSlot_1 x a]; exact c_4); omega), rfl⟩
  · rw [if_neg c_4]
    by_cases c_11 : ((F_m_isSlot (x) (b)).1) = (0)
    · rw [if_pos c_11]
      exact Or.inl ⟨by first | (have h9 := F_in_00 (by rw [← F_m_isSlot_1 x b]; exact c_11); omega) | (have h9 := F_in_00 (by rw [← F_m_isSlot_1 x a]; exact c_4); omega), rfl⟩
    · rw [if_neg c_11]
      obtain ⟨a0, a1⟩ := F_in_1 (by rw [← F_m_isSlot_1 x a]; exact c_4)
      obtain ⟨b0, b1⟩ := F_in_1 (by rw [← F_m_isSlot_1 x b]; exact c_11)
      have p1 := F_m_reduced_p x a 9 (by omega) (by omega) (Or.inl rfl) lt sn ic hrw (hs a.toNat (by omega)) mz sh
      have q9 : (F_m_reduced x a ((9 : Int))).1 = -3 ∨ (F_m_reduced x a ((9 : Int))).1 = 0 := by
        rcases p1 with ⟨e, _⟩ | ⟨e, _⟩
        · exact Or.inl (congrArg Prod.fst e)
        · exact Or.inr e
      by_cases c_25 : (0) ≤ ((F_m_reduced (x) (a) ((9 : Int))).1)
      · rw [if_pos c_25]
        obtain ⟨e0, s0, s1, u0, k9, rs⟩ := p1.resolve_left (fun h9 => by have h8 := congrArg Prod.fst h9.1; have h7 : (F_m_reduced x a ((9 : Int))).1 = -3 := h8; omega)
        have y0 : (F_m_reduced x a ((9 : Int))).2.1 0 = x.1 0 := (rc_LR s1).2.2.2.1
        have y6 : (F_m_reduced x a ((9 : Int))).2.1 6 = x.1 6 := (rc_LR s1).2.2.2.2.1
        have y27 : (F_m_reduced x a ((9 : Int))).2.1 27 = x.1 27 := (rc_LR s1).2.2.2.2.2
        have lty : 1 ≤ (F_m_reduced x a ((9 : Int))).2.1 0 ∧ (F_m_reduced x a ((9 : Int))).2.1 0 ≤ 4 := by rw [y0]; exact lt
        have sny : iR ((F_m_reduced x a ((9 : Int))).2.1 6) := by rw [y6]; exact sn
        have icy : (F_m_reduced x a ((9 : Int))).2.1 27 = 0 ∨ (F_m_reduced x a ((9 : Int))).2.1 27 = 1 := by rw [y27]; exact ic
        have hsy : slH (F_m_reduced x a ((9 : Int))).2 b.toNat := rc_slH s1 (by omega) (hs b.toNat (by omega))
        have mzy : ¬ (F_m_reduced x a ((9 : Int))).2.1 6 = -9 → ¬ (F_m_reduced x a ((9 : Int))).2.1 27 = 0 → mzH (F_m_reduced x a ((9 : Int))).2 := by rw [y6, y27]; exact fun h1 h2 => rc_mz s1 (mz h1 h2)
        have shy : ¬ (F_m_reduced x a ((9 : Int))).2.1 6 = -9 → snH (F_m_reduced x a ((9 : Int))).2 := by rw [y6]; exact fun h1 => rc_sn s1 (sh h1)
        have p2 := F_m_reduced_p (F_m_reduced x a ((9 : Int))).2 b 10 (by omega) (by omega) (Or.inr rfl) lty sny icy s1.2.1 hsy mzy shy
        have q8 : (F_m_reduced (F_m_reduced x a ((9 : Int))).2 b ((10 : Int))).1 = -3 ∨ (F_m_reduced (F_m_reduced x a ((9 : Int))).2 b ((10 : Int))).1 = 0 := by
          rcases p2 with ⟨e, _⟩ | ⟨e, _⟩
          · exact Or.inl (congrArg Prod.fst e)
          · exact Or.inr e
        by_cases c_41 : (0) ≤ ((F_m_reduced ((F_m_reduced (x) (a) ((9 : Int))).2) (b) ((10 : Int))).1)
        · rw [if_pos c_41]
          obtain ⟨e2, s2, s3, v0, k10, rs2⟩ := p2.resolve_left (fun h9 => by have h8 := congrArg Prod.fst h9.1; have h7 : (F_m_reduced (F_m_reduced x a ((9 : Int))).2 b ((10 : Int))).1 = -3 := h8; omega)
          have k99 := rc_keep9 s3 k9
          have z9 : (F_m_reduced (F_m_reduced x a ((9 : Int))).2 b ((10 : Int))).2.2 1 ((9 : Int)).toNat = (u0.length : Int) := k99.1
          have z10 : (F_m_reduced (F_m_reduced x a ((9 : Int))).2 b ((10 : Int))).2.2 1 ((10 : Int)).toNat = (v0.length : Int) := k10.1
          have zl9 := k99.2.2.2
          have zl10 := k10.2.2.2
          have is := isSame_x (x := (F_m_reduced (F_m_reduced x a ((9 : Int))).2 b ((10 : Int))).2) (a := 9) (b := 10) (by rw [k99.1]; omega) (by rw [k99.1]; omega) (by rw [show (F_m_reduced (F_m_reduced x a ((9 : Int))).2 b ((10 : Int))).2.2 1 10 = (v0.length : Int) from k10.1]; omega)
          have is01 : (F_m_isSame (F_m_reduced (F_m_reduced x a ((9 : Int))).2 b ((10 : Int))).2 ((9 : Int)) ((10 : Int))).1 = 1 ∨ (F_m_isSame (F_m_reduced (F_m_reduced x a ((9 : Int))).2 b ((10 : Int))).2 ((9 : Int)) ((10 : Int))).1 = 0 := by rcases is with ⟨h9, _⟩ | ⟨h9, _⟩; exact Or.inl h9; exact Or.inr h9
          by_cases c_56 : ((F_m_isSame ((F_m_reduced ((F_m_reduced (x) (a) ((9 : Int))).2) (b) ((10 : Int))).2) ((9 : Int)) ((10 : Int))).1) = (0)
          · rw [if_pos c_56]
            exact lk2_5 lt.1 (hs b.toNat (by omega)) sh (by omega) (by omega) s0 s1 rs s2 s3 rs2 k99 k10 (by first | exact Or.inl ⟨rfl, (is.resolve_right (fun h9 => by have h8 : (F_m_isSame (F_m_reduced (F_m_reduced x a ((9 : Int))).2 b ((10 : Int))).2 ((9 : Int)) ((10 : Int))).1 = 0 := h9.1; omega)).2⟩ | exact Or.inr ⟨rfl, (is.resolve_left (fun h9 => by have h8 : (F_m_isSame (F_m_reduced (F_m_reduced x a ((9 : Int))).2 b ((10 : Int))).2 ((9 : Int)) ((10 : Int))).1 = 1 := h9.1; omega)).2⟩)
          · rw [if_neg c_56]
            exact lk2_5 lt.1 (hs b.toNat (by omega)) sh (by omega) (by omega) s0 s1 rs s2 s3 rs2 k99 k10 (by first | exact Or.inl ⟨rfl, (is.resolve_right (fun h9 => by have h8 : (F_m_isSame (F_m_reduced (F_m_reduced x a ((9 : Int))).2 b ((10 : Int))).2 ((9 : Int)) ((10 : Int))).1 = 0 := h9.1; omega)).2⟩ | exact Or.inr ⟨rfl, (is.resolve_left (fun h9 => by have h8 : (F_m_isSame (F_m_reduced (F_m_reduced x a ((9 : Int))).2 b ((10 : Int))).2 ((9 : Int)) ((10 : Int))).1 = 1 := h9.1; omega)).2⟩)
        · rw [if_neg c_41]
          exact lk2_4 lt.1 (hs b.toNat (by omega)) sh (by omega) (by omega) s0 s1 p2 (by omega)
      · rw [if_neg c_25]
        skip
        by_cases c_41 : (0) ≤ ((F_m_reduced (x) (a) ((9 : Int))).1)
        · rw [if_pos c_41]
          exfalso; omega
        · rw [if_neg c_41]
          exact lk2_3 hrw (by omega) (by omega) p1 (by omega)
