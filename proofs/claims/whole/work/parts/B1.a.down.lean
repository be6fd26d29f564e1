-- deps: B0.c
/-! what a STRING is brought down to, on both sides -/
theorem resM_one {Y : MS} (l0 : 1 ≤ Y.1 0) {a : Nat} {u v : List Int} (cf : Y.1 27 = 1 → cfl Y) (hu : resM Y a u) (hv : resM Y a v) (ou : okL (Y.1 0).toNat u) (ov : okL (Y.1 0).toNat v) : u = v := by
  rcases hu with ⟨a1, a2⟩ | ⟨a1, _, a3⟩
  · rcases hv with ⟨_, b2⟩ | ⟨b1, _⟩
    · exact nf_one (cf a1).1 (noL_irr a2.1) (noL_irr b2.1) a2.2 b2.2
    · omega
  · rcases hv with ⟨b1, _⟩ | ⟨_, _, b3⟩
    · omega
    · exact num_one (by omega) ou ov (a3.trans b3.symm)
def bdQ (X : KS) (Y : MS) (a w2 : Nat) (q : Int × KS) : Prop := (stM Y a ∧ q = (-3, X)) ∨ (¬ stM Y a ∧ ∃ u, resM Y a u ∧ okL (Y.1 0).toNat u ∧ u.length ≤ 60 ∧ wL q.2 w2 u ∧ q.1 = (u.length : Int) ∧ wG q.2 w2)
theorem snE_pv {X : KS} {Y : MS} {m : Nat} (h : snE X Y m) : (Y.1 27 = 1 → cfl Y) := by
  intro h1
  rcases h.2.2.2.2 with c | c
  · omega
  · exact c.2.1
theorem down_both {X : KS} {Y : MS} (bp : bdP X) (sn : snR X Y) (e0 : X.1 1 2 = Y.1 0) {a w2 : Nat} (ha : a < 8) (sl : wS X (7 + 2 * a) = slM Y a) (g : wG X (7 + 2 * a)) (sh : slH Y a) (hw2 : kW w2 = true) (l2 : w2 + 1 < 87) (hL2 : kL w2 = 60) (n2 : 23 < w2) (r2 : r03 (X.2 (w2 + 1))) : bdQ X Y a w2 (F_t_bringDown X (7 + 2 * a) w2) := by
  have k1 := kW_slot (i := (a : Int)) (by omega) (by omega)
  have k2 := kL_slot (i := (a : Int)) (by omega) (by omega)
  rw [Int.toNat_natCast] at k1 k2
  obtain ⟨_, _, b3, b4, b5, b6⟩ := bringDown_x bp k1 hw2 l2 k2 hL2 (by omega) g r2
  have sx := bp.2.2.1
  have nb := nL_b sx
  have eN : nL X = (Y.1 0).toNat := by unfold nL; rw [e0]
  have ei : ((nL X : Nat) : Int) = Y.1 0 := by rw [nL_i sx]; exact e0
  have el : X.1 (7 + 2 * a) 1 = Y.2 1 a := by
    have h1 := congrArg List.length sl
    rw [wS_len, slM_len] at h1
    have := g.1
    have := sh.1
    omega
  rcases sn with ⟨c1, c2⟩ | ⟨m, hs⟩
  · exact Or.inl ⟨Or.inl c2, b3 c1⟩
  · obtain ⟨⟨m1, m2, m3⟩, ⟨s1, s2, s3⟩, ⟨t1, t2, t3, t4⟩, ⟨r1, r2', r3⟩, pv⟩ := hs
    have B9 : gS (Y.1 0) (m + 1) ≤ 10000 ∧ m ≤ 20 := by
      obtain ⟨m', a1, a2, a3, a4, a5, _⟩ := s1
      have : m' = m := by omega
      rw [this] at a4 a3
      rw [← a4]
      exact ⟨a5, a3⟩
    rcases pv with ⟨p1, p2⟩ | ⟨⟨p1, p2⟩, cf, _⟩
    · by_cases c : X.1 0 15 < X.1 (7 + 2 * a) 1
      · exact Or.inl ⟨Or.inr ⟨p2, by omega⟩, b4 p1 c⟩
      · obtain ⟨G, B, q1, q2, q3, q4, q5, q6⟩ := b5 (by omega) p1 (by omega)
        obtain ⟨v1, v2⟩ := numberOf_v sx g (by have := bp.2.2.2.2.2; omega)
        have ll : (wS X (7 + 2 * a)).length ≤ m := by rw [wS_len]; omega
        have l3 := bp.2.2.2.2.2
        have en : (F_s_numberOf X (7 + 2 * a)).1 = num (Y.1 0).toNat (slM Y a) := by
          rw [v1, scX_gS sx _ (by omega), ← sl, ← eN]
          rfl
        have ok1 : okL (nL X) (wS X (7 + 2 * a)) := g.2.2
        have nb0 := num_0 nb.1 ok1
        have nb1 := num_lt nb.1 ok1 ll
        rw [ei] at nb1
        rw [sl, eN] at nb0 nb1
        have L := leastOf_x (x := X) (v := (F_s_numberOf X (7 + 2 * a)).1) (by rw [t1]; exact t2) (by rw [t1]; exact B9.1) (by rw [en]; exact nb0) (by rw [en, t1]; exact nb1)
        rw [L.1, en, t3 _ nb0 nb1, scX_gS sx _ (by omega)] at q1
        refine Or.inr ⟨?_, dl (nL X) G B, Or.inr ⟨p2, by omega, ?_⟩, ?_, by rw [dl_len]; have := sx.1.2.1; omega, q4, by rw [dl_len]; exact q5, q6⟩
        · intro h9
          rcases h9 with h9 | h9
          · omega
          · omega
        · rw [← eN, num_dl nb.1 q3, ← q1, eN]
        · rw [← eN]; exact dl_ok nb.1 _ _
    · obtain ⟨V, q1, q2, q3, q4, q5⟩ := b6 (by omega) p1
      rw [sl] at q1
      refine Or.inr ⟨?_, V, Or.inl ⟨p2, ?_, ?_⟩, ?_, ?_, q3, q4, q5⟩
      · intro h9
        rcases h9 with h9 | h9
        · omega
        · omega
      · rw [← r2']; exact noL_c (fun r hr => (r3 r hr).1) q2
      · rw [← r2']; exact rch_c r3 q1
      · have := q5.2.2
        rw [wL_S q3] at this
        have e12 : nL (F_t_bringDown X (7 + 2 * a) w2).2 = nL X := by
          unfold nL
          rw [(F_t_bringDown_fr X (7 + 2 * a) w2).1 1 2 (by decide) (by intro h9; simp at h9)]
        rw [← eN, ← e12]
        exact this
      · have := q5.1
        have := q3.1
        omega
theorem isSlot_v (x : KS) (k : Int) : ((F_t_isSlot x k).1 = 0 ∧ ¬ (0 ≤ k ∧ k ≤ 7)) ∨ ((F_t_isSlot x k).1 = 1 ∧ (0 ≤ k ∧ k ≤ 7)) := by
  unfold F_t_isSlot
  repeat' split
  all_goals first | exact Or.inl ⟨rfl, by omega⟩ | exact Or.inr ⟨rfl, by omega⟩
/-- reduce answers alike -/
theorem reduce_1 {X : KS} {Y : MS} (bp : bdP X) (sn : snR X Y) (e0 : X.1 1 2 = Y.1 0) {a k : Int} (sl : ∀ j : Nat, j < 8 → wS X (7 + 2 * j) = slM Y j ∧ wG X (7 + 2 * j)) (sh : ∀ j : Nat, j < 9 → slH Y j) (r3 : r03 (X.2 74)) {q : Int × MS} (P : rdQ Y a k q) : (F_t_reduce X a k).1 = q.1 := by
  have cf : Y.1 27 = 1 → Y.1 6 ≠ -9 → cfl Y := fun h1 h2 => by
    rcases sn with h | ⟨m, h⟩
    · exact absurd h.2 h2
    · exact snE_pv h h1
  unfold F_t_reduce
  rcases P with ⟨c, e⟩ | ⟨⟨c1, c2⟩, P⟩
  · rw [e]
    rcases isSlot_v X a with ⟨h1, h2⟩ | ⟨h1, h2⟩
    · rw [if_pos h1]
    · rw [if_neg (by omega)]
      rcases isSlot_v X k with ⟨h3, h4⟩ | ⟨h3, h4⟩
      · rw [if_pos h3]
      · exact absurd ⟨h2, h4⟩ c
  · have i1 := isSlot_v X a
    have i2 := isSlot_v X k
    rw [if_neg (by omega), if_neg (by omega)]
    have D := down_both bp sn e0 (a := a.toNat) (w2 := 73) (by omega) (sl _ (by omega)).1 (sl _ (by omega)).2 (sh _ (by omega)) (by decide) (by decide) (by decide) (by decide) r3
    rcases D with ⟨d1, d2⟩ | ⟨d1, u, d2, d3, d4, d5, d6, d7⟩
    · rw [d2, if_pos (by show (-3 : Int) < 0; decide)]
      rcases P with ⟨_, e⟩ | ⟨p1, _⟩
      · rw [e]
      · exact absurd d1 p1
    · rw [if_neg (by omega)]
      rcases P with ⟨p1, _⟩ | ⟨_, v, p2, p3, p4⟩
      · exact absurd p1 d1
      · have l0 : 1 ≤ Y.1 0 := by rw [← e0]; exact bp.2.2.1.1.1.1
        have e : u = v := resM_one l0 (fun h => cf h (fun h9 => d1 (Or.inl h9))) d2 p2 d3 p4.2.2.2.2.1.2.2.1
        rw [d6, p3, e]
