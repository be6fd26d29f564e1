-- deps: 99.p
set_option maxHeartbeats 4000000 in
theorem F_m_lapsHold_p (x : MS) (a : Int) (b : Int) (a0 : 0 ≤ a) (a1 : a < x.1 12) (b0 : 0 ≤ b) (b1 : b < x.1 12) (hH : clH x) (hw : rwR x) : laQ x a.toNat b.toNat (F_m_lapsHold (x) (a) (b)) := by
  have ba := clB hH a0 a1
  have bb := clB hH b0 b1
  have L : ∀ n : Nat, (∀ (y : MS) (n9 : Int), (clI x y) → (laA x a.toNat b.toNat n9) → (1 ≤ n9) → (n9 ≤ 24) → (30 - n9 < n) → laQ x a.toNat b.toNat (F_m_lapsHold_s n 0 y a b n9)) := by
    intro n
    induction n with
    | zero =>
      skip
      · intro y n9 ci ac n1 n2 fu
        exact absurd fu (by omega)
    | succ n ih =>
      skip
      · intro y n9 ci ac n1 n2 fu
        rw [F_m_lapsHold_e0]
        have vy := clI_v ci
        have vy_0 : (y).2 13 a.toNat = x.2 13 a.toNat := congrFun vy.2.2.1 _
        have vy_1 : (y).2 13 b.toNat = x.2 13 b.toNat := congrFun vy.2.2.1 _
        have vy_2 : (y).2 15 a.toNat = x.2 15 a.toNat := congrFun vy.2.2.2.2.1 _
        by_cases c_9 : (((y).2 13) (a).toNat) ≤ (n9)
        · rw [if_pos c_9]
          exact laQ_1 ci ac (by omega)
        · rw [if_neg c_9]
          by_cases c_19 : (((y).2 13) (b).toNat) ≤ (n9)
          · rw [if_pos c_19]
            exact laQ_1 ci ac (by omega)
          · rw [if_neg c_19]
            have lp := laps_I ci a0 b0 (n9 := n9) (by omega) (by omega) (by omega) (by omega)
            have lp01 : (F_m_laps y a b n9).1 = 0 ∨ (F_m_laps y a b n9).1 = 1 := by rcases lp with h9 | h9; exact Or.inr h9.1; exact Or.inl h9.1
            by_cases c_29 : ((F_m_laps (y) (a) (b) (n9)).1) = (0)
            · rw [if_pos c_29]
              exact ih (y) ((n9) + (1 : Int)) (ci) (laA_not ac (by omega) (by rcases lp with h9 | h9; (exfalso; omega); exact h9.2)) (by omega) (by omega) (by omega)
            · rw [if_neg c_29]
              have p1 : pz9 x (aU (y) 1 ((9 : Int)).toNat ((0 : Int))) _ _ := pz9_0 ci
              have p2 : pz9 x ((F_m_put16 (aU (y) 1 ((9 : Int)).toNat ((0 : Int))) ((9 : Int)) (((24 : Int)) * (a)) (((y).2 15) (a).toNat)).2) _ _ := pz9_16 bb.2.2.2 p1 (by omega) (by omega) (by omega) (okS16 hH a0 a1 (by omega))
              have v2 := clI_v p2.1
              have v2_0 : ((F_m_put16 (aU (y) 1 ((9 : Int)).toNat ((0 : Int))) ((9 : Int)) (((24 : Int)) * (a)) (((y).2 15) (a).toNat)).2).2 13 b.toNat = x.2 13 b.toNat := congrFun v2.2.2.1 _
              have p3 : pz9 x ((F_m_put14 ((F_m_put16 (aU (y) 1 ((9 : Int)).toNat ((0 : Int))) ((9 : Int)) (((24 : Int)) * (a)) (((y).2 15) (a).toNat)).2) ((9 : Int)) ((((24 : Int)) * (b)) + (n9)) (((((F_m_put16 (aU (y) 1 ((9 : Int)).toNat ((0 : Int))) ((9 : Int)) (((24 : Int)) * (a)) (((y).2 15) (a).toNat)).2).2 13) (b).toNat) - (n9))).2) _ _ := pz9_14 bb.2.2.2 p2 (by omega) (by omega) (by omega) (okS14 hH b0 b1 (by omega) (by omega) (by omega))
              have v3 := clI_v p3.1
              have v3_0 : ((F_m_put14 ((F_m_put16 (aU (y) 1 ((9 : Int)).toNat ((0 : Int))) ((9 : Int)) (((24 : Int)) * (a)) (((y).2 15) (a).toNat)).2) ((9 : Int)) ((((24 : Int)) * (b)) + (n9)) (((((F_m_put16 (aU (y) 1 ((9 : Int)).toNat ((0 : Int))) ((9 : Int)) (((24 : Int)) * (a)) (((y).2 15) (a).toNat)).2).2 13) (b).toNat) - (n9))).2).2 13 a.toNat = x.2 13 a.toNat := congrFun v3.2.2.1 _
              have p4 : pz x (aU ((F_m_put14 ((F_m_put16 (aU (y) 1 ((9 : Int)).toNat ((0 : Int))) ((9 : Int)) (((24 : Int)) * (a)) (((y).2 15) (a).toNat)).2) ((9 : Int)) ((((24 : Int)) * (b)) + (n9)) (((((F_m_put16 (aU (y) 1 ((9 : Int)).toNat ((0 : Int))) ((9 : Int)) (((24 : Int)) * (a)) (((y).2 15) (a).toNat)).2).2 13) (b).toNat) - (n9))).2) 1 ((10 : Int)).toNat ((0 : Int))) _ _ _ _ := pz_0 p3
              have p5 : pz x ((F_m_put14 (aU ((F_m_put14 ((F_m_put16 (aU (y) 1 ((9 : Int)).toNat ((0 : Int))) ((9 : Int)) (((24 : Int)) * (a)) (((y).2 15) (a).toNat)).2) ((9 : Int)) ((((24 : Int)) * (b)) + (n9)) (((((F_m_put16 (aU (y) 1 ((9 : Int)).toNat ((0 : Int))) ((9 : Int)) (((24 : Int)) * (a)) (((y).2 15) (a).toNat)).2).2 13) (b).toNat) - (n9))).2) 1 ((10 : Int)).toNat ((0 : Int))) ((10 : Int)) (((24 : Int)) * (a)) (((((F_m_put14 ((F_m_put16 (aU (y) 1 ((9 : Int)).toNat ((0 : Int))) ((9 : Int)) (((24 : Int)) * (a)) (((y).2 15) (a).toNat)).2) ((9 : Int)) ((((24 : Int)) * (b)) + (n9)) (((((F_m_put16 (aU (y) 1 ((9 : Int)).toNat ((0 : Int))) ((9 : Int)) (((24 : Int)) * (a)) (((y).2 15) (a).toNat)).2).2 13) (b).toNat) - (n9))).2).2 13) (a).toNat) - (n9))).2) _ _ _ _ := pz_14 bb.2.2.2 p4 (by omega) (by omega) (by omega) (by omega) (okS14b hH a0 a1 (by omega) (by omega))
              have v5 := clI_v p5.1.1
              have v5_0 : ((F_m_put14 (aU ((F_m_put14 ((F_m_put16 (aU (y) 1 ((9 : Int)).toNat ((0 : Int))) ((9 : Int)) (((24 : Int)) * (a)) (((y).2 15) (a).toNat)).2) ((9 : Int)) ((((24 : Int)) * (b)) + (n9)) (((((F_m_put16 (aU (y) 1 ((9 : Int)).toNat ((0 : Int))) ((9 : Int)) (((24 : Int)) * (a)) (((y).2 15) (a).toNat)).2).2 13) (b).toNat) - (n9))).2) 1 ((10 : Int)).toNat ((0 : Int))) ((10 : Int)) (((24 : Int)) * (a)) (((((F_m_put14 ((F_m_put16 (aU (y) 1 ((9 : Int)).toNat ((0 : Int))) ((9 : Int)) (((24 : Int)) * (a)) (((y).2 15) (a).toNat)).2) ((9 : Int)) ((((24 : Int)) * (b)) + (n9)) (((((F_m_put16 (aU (y) 1 ((9 : Int)).toNat ((0 : Int))) ((9 : Int)) (((24 : Int)) * (a)) (((y).2 15) (a).toNat)).2).2 13) (b).toNat) - (n9))).2).2 13) (a).toNat) - (n9))).2).2 15 b.toNat = x.2 15 b.toNat := congrFun v5.2.2.2.2.1 _
              have p6 : pz x ((F_m_put16 ((F_m_put14 (aU ((F_m_put14 ((F_m_put16 (aU (y) 1 ((9 : Int)).toNat ((0 : Int))) ((9 : Int)) (((24 : Int)) * (a)) (((y).2 15) (a).toNat)).2) ((9 : Int)) ((((24 : Int)) * (b)) + (n9)) (((((F_m_put16 (aU (y) 1 ((9 : Int)).toNat ((0 : Int))) ((9 : Int)) (((24 : Int)) * (a)) (((y).2 15) (a).toNat)).2).2 13) (b).toNat) - (n9))).2) 1 ((10 : Int)).toNat ((0 : Int))) ((10 : Int)) (((24 : Int)) * (a)) (((((F_m_put14 ((F_m_put16 (aU (y) 1 ((9 : Int)).toNat ((0 : Int))) ((9 : Int)) (((24 : Int)) * (a)) (((y).2 15) (a).toNat)).2) ((9 : Int)) ((((24 : Int)) * (b)) + (n9)) (((((F_m_put16 (aU (y) 1 ((9 : Int)).toNat ((0 : Int))) ((9 : Int)) (((24 : Int)) * (a)) (((y).2 15) (a).toNat)).2).2 13) (b).toNat) - (n9))).2).2 13) (a).toNat) - (n9))).2) ((10 : Int)) (((24 : Int)) * (b)) ((((F_m_put14 (aU ((F_m_put14 ((F_m_put16 (aU (y) 1 ((9 : Int)).toNat ((0 : Int))) ((9 : Int)) (((24 : Int)) * (a)) (((y).2 15) (a).toNat)).2) ((9 : Int)) ((((24 : Int)) * (b)) + (n9)) (((((F_m_put16 (aU (y) 1 ((9 : Int)).toNat ((0 : Int))) ((9 : Int)) (((24 : Int)) * (a)) (((y).2 15) (a).toNat)).2).2 13) (b).toNat) - (n9))).2) 1 ((10 : Int)).toNat ((0 : Int))) ((10 : Int)) (((24 : Int)) * (a)) (((((F_m_put14 ((F_m_put16 (aU (y) 1 ((9 : Int)).toNat ((0 : Int))) ((9 : Int)) (((24 : Int)) * (a)) (((y).2 15) (a).toNat)).2) ((9 : Int)) ((((24 : Int)) * (b)) + (n9)) (((((F_m_put16 (aU (y) 1 ((9 : Int)).toNat ((0 : Int))) ((9 : Int)) (((24 : Int)) * (a)) (((y).2 15) (a).toNat)).2).2 13) (b).toNat) - (n9))).2).2 13) (a).toNat) - (n9))).2).2 15) (b).toNat)).2) _ _ _ _ := pz_16 bb.2.2.2 p5 (by omega) (by omega) (by omega) (by omega) (okS16 hH b0 b1 (by omega))
              have mh := pz_h hH p6 (by omega) (by omega)
              have mm := pz_m hH p6 (by omega) (by omega)
              have m01 := mtQ_01 mm.2
              have mq := mm.2
              rw [la_u (n9 := n9) a0 b0 (by omega) (by omega) (by omega), la_v (n9 := n9) a0 b0 (by omega) (by omega) (by omega)] at mq
              by_cases c_142 : ((F_m_meets ((F_m_put16 ((F_m_put14 (aU ((F_m_put14 ((F_m_put16 (aU (y) 1 ((9 : Int)).toNat ((0 : Int))) ((9 : Int)) (((24 : Int)) * (a)) (((y).2 15) (a).toNat)).2) ((9 : Int)) ((((24 : Int)) * (b)) + (n9)) (((((F_m_put16 (aU (y) 1 ((9 : Int)).toNat ((0 : Int))) ((9 : Int)) (((24 : Int)) * (a)) (((y).2 15) (a).toNat)).2).2 13) (b).toNat) - (n9))).2) 1 ((10 : Int)).toNat ((0 : Int))) ((10 : Int)) (((24 : Int)) * (a)) (((((F_m_put14 ((F_m_put16 (aU (y) 1 ((9 : Int)).toNat ((0 : Int))) ((9 : Int)) (((24 : Int)) * (a)) (((y).2 15) (a).toNat)).2) ((9 : Int)) ((((24 : Int)) * (b)) + (n9)) (((((F_m_put16 (aU (y) 1 ((9 : Int)).toNat ((0 : Int))) ((9 : Int)) (((24 : Int)) * (a)) (((y).2 15) (a).toNat)).2).2 13) (b).toNat) - (n9))).2).2 13) (a).toNat) - (n9))).2) ((10 : Int)) (((24 : Int)) * (b)) ((((F_m_put14 (aU ((F_m_put14 ((F_m_put16 (aU (y) 1 ((9 : Int)).toNat ((0 : Int))) ((9 : Int)) (((24 : Int)) * (a)) (((y).2 15) (a).toNat)).2) ((9 : Int)) ((((24 : Int)) * (b)) + (n9)) (((((F_m_put16 (aU (y) 1 ((9 : Int)).toNat ((0 : Int))) ((9 : Int)) (((24 : Int)) * (a)) (((y).2 15) (a).toNat)).2).2 13) (b).toNat) - (n9))).2) 1 ((10 : Int)).toNat ((0 : Int))) ((10 : Int)) (((24 : Int)) * (a)) (((((F_m_put14 ((F_m_put16 (aU (y) 1 ((9 : Int)).toNat ((0 : Int))) ((9 : Int)) (((24 : Int)) * (a)) (((y).2 15) (a).toNat)).2) ((9 : Int)) ((((24 : Int)) * (b)) + (n9)) (((((F_m_put16 (aU (y) 1 ((9 : Int)).toNat ((0 : Int))) ((9 : Int)) (((24 : Int)) * (a)) (((y).2 15) (a).toNat)).2).2 13) (b).toNat) - (n9))).2).2 13) (a).toNat) - (n9))).2).2 15) (b).toNat)).2) ((9 : Int)) ((10 : Int))).1) = (0)
              · rw [if_pos c_142]
                exact ⟨mm.1, Or.inr ⟨rfl, mtQ_0 mq (by omega) (laW_c (by omega) (by omega) (by omega) (by omega) (by rcases lp with h9 | h9; exact h9.2; (exfalso; omega)))⟩⟩
              · rw [if_neg c_142]
                exact ih ((F_m_meets ((F_m_put16 ((F_m_put14 (aU ((F_m_put14 ((F_m_put16 (aU (y) 1 ((9 : Int)).toNat ((0 : Int))) ((9 : Int)) (((24 : Int)) * (a)) (((y).2 15) (a).toNat)).2) ((9 : Int)) ((((24 : Int)) * (b)) + (n9)) (((((F_m_put16 (aU (y) 1 ((9 : Int)).toNat ((0 : Int))) ((9 : Int)) (((24 : Int)) * (a)) (((y).2 15) (a).toNat)).2).2 13) (b).toNat) - (n9))).2) 1 ((10 : Int)).toNat ((0 : Int))) ((10 : Int)) (((24 : Int)) * (a)) (((((F_m_put14 ((F_m_put16 (aU (y) 1 ((9 : Int)).toNat ((0 : Int))) ((9 : Int)) (((24 : Int)) * (a)) (((y).2 15) (a).toNat)).2) ((9 : Int)) ((((24 : Int)) * (b)) + (n9)) (((((F_m_put16 (aU (y) 1 ((9 : Int)).toNat ((0 : Int))) ((9 : Int)) (((24 : Int)) * (a)) (((y).2 15) (a).toNat)).2).2 13) (b).toNat) - (n9))).2).2 13) (a).toNat) - (n9))).2) ((10 : Int)) (((24 : Int)) * (b)) ((((F_m_put14 (aU ((F_m_put14 ((F_m_put16 (aU (y) 1 ((9 : Int)).toNat ((0 : Int))) ((9 : Int)) (((24 : Int)) * (a)) (((y).2 15) (a).toNat)).2) ((9 : Int)) ((((24 : Int)) * (b)) + (n9)) (((((F_m_put16 (aU (y) 1 ((9 : Int)).toNat ((0 : Int))) ((9 : Int)) (((24 : Int)) * (a)) (((y).2 15) (a).toNat)).2).2 13) (b).toNat) - (n9))).2) 1 ((10 : Int)).toNat ((0 : Int))) ((10 : Int)) (((24 : Int)) * (a)) (((((F_m_put14 ((F_m_put16 (aU (y) 1 ((9 : Int)).toNat ((0 : Int))) ((9 : Int)) (((24 : Int)) * (a)) (((y).2 15) (a).toNat)).2) ((9 : Int)) ((((24 : Int)) * (b)) + (n9)) (((((F_m_put16 (aU (y) 1 ((9 : Int)).toNat ((0 : Int))) ((9 : Int)) (((24 : Int)) * (a)) (((y).2 15) (a).toNat)).2).2 13) (b).toNat) - (n9))).2).2 13) (a).toNat) - (n9))).2).2 15) (b).toNat)).2) ((9 : Int)) ((10 : Int))).2) ((n9) + (1 : Int)) (mm.1) (laA_yes ac (by omega) (mtQ_1 mq c_142)) (by omega) (by omega) (by omega)
  unfold F_m_lapsHold
  exact (L (100)) (x) ((1 : Int)) (clI_0 hw) (laA_0 x _ _) (by omega) (by omega) (by omega)
