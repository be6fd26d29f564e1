-- deps: B3.j2
/-! inverse of the reference once more: its STRINGS are of LETTERS -/
def nlO (x : MS) (w : List Int) : Prop := noL (lM x) (x.1 12).toNat w ∧ okL (x.1 0).toNat w
def ivC2 (x : MS) (v : List Int) (i : Int) : Prop := ∀ j : Nat, (j : Int) < i → ∃ w d, nlO x w ∧ w.length ≤ 30 ∧ rkV x w = (j : Int) ∧ v.length + w.length ≤ 60 ∧ nfP x (v ++ w) d ∧ d ≠ []
def ivE2 (x y : MS) (a : Nat) (i : Int) : Prop := ∃ v, slK x y 10 v ∧ nfP x (slM x a) v ∧ ivC2 x v i
theorem ivE2_s {x y : MS} {a : Nat} {i9 : Int} {v w d : List Int} (i0 : 0 ≤ i9) (kv : slK x y 10 v) (kd : slK x y 12 d) (nv : nfP x (slM x a) v) (iv : ivC2 x v i9) (h1 : nlO x w) (h2 : w.length ≤ 30) (h3 : rkV x w = i9) (h4 : v.length + w.length ≤ 60) (h5 : nfP x (v ++ w) d) (h6 : ¬ y.2 1 ((12 : Int)).toNat = 0) : ivE2 x y a (i9 + (1 : Int)) := by
  refine ⟨v, kv, nv, fun j hj => ?_⟩
  by_cases e : (j : Int) = i9
  · refine ⟨w, d, h1, h2, by rw [h3, e], h4, h5, fun e9 => h6 ?_⟩
    have k1 : y.2 1 ((12 : Int)).toNat = (d.length : Int) := kd.1
    rw [k1, e9]; rfl
  · exact iv j (by omega)
def ivQ2 (x : MS) (a c0 : Int) (q : Int × MS) : Prop := (¬ ((0 ≤ a ∧ a ≤ 7) ∧ (0 ≤ c0 ∧ c0 ≤ 7)) ∧ q = (-1, x)) ∨ (((0 ≤ a ∧ a ≤ 7) ∧ (0 ≤ c0 ∧ c0 ≤ 7)) ∧ (((F_m_isMachine x).1 = 0 ∧ q = (-3, x)) ∨ (¬ (F_m_isMachine x).1 = 0 ∧ ∃ v, nfP x (slM x a.toNat) v ∧ ∃ i : Int, 0 ≤ i ∧ i ≤ 2000 ∧ ivC2 x v i ∧ ((q.1 = -9 ∧ slF x q.2 ∧ (i = 2000 ∨ rk1 x 31 ≤ i)) ∨ (i < 2000 ∧ ∃ w, nlO x w ∧ w.length ≤ 30 ∧ rkV x w = i ∧ ((q.1 = -4 ∧ slF x q.2 ∧ 60 < v.length + w.length) ∨ (v.length + w.length ≤ 60 ∧ nfP x (v ++ w) [] ∧ q.1 = (w.length : Int) ∧ slC x q.2 c0.toNat w)))))))
theorem iv2_9 {x y z : MS} {a c0 i9 : Int} (hab : (0 ≤ a ∧ a ≤ 7) ∧ (0 ≤ c0 ∧ c0 ≤ 7)) (hm : ¬ (F_m_isMachine x).1 = 0) (f : slF x y) (ex : ivE2 x y a.toNat i9) (i0 : 0 ≤ i9) (i1 : i9 ≤ 2000) (h : i9 = 2000 ∨ rk1 x 31 ≤ i9) (ez : z = y) : ivQ2 x a c0 (-9, z) := by
  obtain ⟨v, kv, nv, iv⟩ := ex
  rw [ez]
  exact Or.inr ⟨hab, Or.inr ⟨hm, v, nv, i9, i0, i1, iv, Or.inl ⟨rfl, f, h⟩⟩⟩
theorem iv2_4 {x y : MS} {a c0 i9 : Int} {v w : List Int} (hab : (0 ≤ a ∧ a ≤ 7) ∧ (0 ≤ c0 ∧ c0 ≤ 7)) (hm : ¬ (F_m_isMachine x).1 = 0) (f : slF x y) (nv : nfP x (slM x a.toNat) v) (iv : ivC2 x v i9) (i0 : 0 ≤ i9) (i1 : i9 < 2000) (h1 : nlO x w) (h2 : w.length ≤ 30) (h3 : rkV x w = i9) (h4 : 60 < v.length + w.length) : ivQ2 x a c0 (-4, y) := Or.inr ⟨hab, Or.inr ⟨hm, v, nv, i9, i0, by omega, iv, Or.inr ⟨i1, w, h1, h2, h3, Or.inl ⟨rfl, f, h4⟩⟩⟩⟩
theorem iv2_5 {x y : MS} {a c0 i9 : Int} {v w d : List Int} (hab : (0 ≤ a ∧ a ≤ 7) ∧ (0 ≤ c0 ∧ c0 ≤ 7)) (hm : ¬ (F_m_isMachine x).1 = 0) (f : slF x y) (k9 : slK x y 9 w) (kd : slK x y 12 d) (nv : nfP x (slM x a.toNat) v) (iv : ivC2 x v i9) (i0 : 0 ≤ i9) (i1 : i9 < 2000) (h1 : nlO x w) (h2 : w.length ≤ 30) (h3 : rkV x w = i9) (h4 : v.length + w.length ≤ 60) (h5 : nfP x (v ++ w) d) (h6 : y.2 1 ((12 : Int)).toNat = 0) : ivQ2 x a c0 ((F_m_copy y ((9 : Int)) c0).2.2 1 c0.toNat, (F_m_copy y ((9 : Int)) c0).2) := by
  have C := slC_c (c := c0.toNat) f k9 (by omega)
  rw [show (c0.toNat : Int) = c0 by omega] at C
  have k1 : y.2 1 ((12 : Int)).toNat = (d.length : Int) := kd.1
  have e : d = [] := List.eq_nil_of_length_eq_zero (by omega)
  rw [e] at h5
  exact Or.inr ⟨hab, Or.inr ⟨hm, v, nv, i9, i0, by omega, iv, Or.inr ⟨i1, w, h1, h2, h3, Or.inr ⟨h4, h5, C.2.2.2.2.1, C⟩⟩⟩⟩
set_option maxHeartbeats 4000000 in
theorem F_m_inverse_p2 (x : MS) (a : Int) (c0 : Int) (ra : iR a) (rc : iR c0) (sn : iR (x.1 6)) (ic : x.1 27 = 0 ∨ x.1 27 = 1) (mz : ¬ (F_m_isMachine x).1 = 0 → mzH x) (hrw : rwR x) (hs : ∀ k : Nat, k < 9 → slH x k) (cy : ¬ (F_m_isMachine x).1 = 0 → cyI x x 31) (hwy : wyR x) : ivQ2 x a c0 (F_m_inverse (x) (a) (c0)) := by
  have L : ∀ n : Nat, (∀ (y : MS) (i9 : Int), (slF x y) → (ivE2 x y a.toNat i9) → (mzH x) → (¬ (F_m_isMachine x).1 = 0) → ((0 ≤ a ∧ a ≤ 7) ∧ (0 ≤ c0 ∧ c0 ≤ 7)) → (0 ≤ i9) → (i9 ≤ 2000) → (2001 - i9 < n) → ivQ2 x a c0 (F_m_inverse_s n 0 y a c0 i9)) := by
    intro n
    induction n with
    | zero =>
      skip
      · intro y i9 fy ex mz0 hm1 hab i0 i1 fu
        exact absurd fu (by omega)
    | succ n ih =>
      skip
      · intro y i9 fy ex mz0 hm1 hab i0 i1 fu
        rw [F_m_inverse_e0]
        by_cases c_45 : ((2000 : Int)) ≤ (i9)
        · rw [if_pos c_45]
          exact iv2_9 hab hm1 fy ex i0 i1 (by omega) rfl
        · rw [if_neg c_45]
          obtain ⟨v0, kv, nv, iv⟩ := id ex
          have pd := pick_D fy mz0 (cy hm1) hwy i0 (show i9 < 2000 by omega)
          have p01 := F_m_pick_01 y i9 ((9 : Int))
          by_cases c_56 : ((F_m_pick (y) (i9) ((9 : Int))).1) = (0)
          · rw [if_pos c_56]
            exact (by rcases pd.2 with h9 | h9; exact iv2_9 hab hm1 fy ex i0 i1 (Or.inr h9.2.2) h9.2.1; (exfalso; have h8 := h9.1; omega))
          · rw [if_neg c_56]
            obtain ⟨_, d4, w0, k4, wl, wn, wr⟩ := pd.2.resolve_left (fun h9 => c_56 h9.1)
            have f4 : slF x ((F_m_pick (y) (i9) ((9 : Int))).2) := slD_F fy d4 (by decide)
            have kv4 : slK x ((F_m_pick (y) (i9) ((9 : Int))).2) 10 v0 := slD_K d4 (by decide) (by decide) kv
            have k49 : slK x ((F_m_pick (y) (i9) ((9 : Int))).2) 9 w0 := k4
            have vl := kv4.2.2.2
            have z49 : ((F_m_pick (y) (i9) ((9 : Int))).2).2 1 ((9 : Int)).toNat = (w0.length : Int) := k49.1
            have z410 : ((F_m_pick (y) (i9) ((9 : Int))).2).2 1 ((10 : Int)).toNat = (v0.length : Int) := kv4.1
            by_cases c_83 : (((((F_m_pick (y) (i9) ((9 : Int))).2).2 1) ((10 : Int)).toNat) + ((((F_m_pick (y) (i9) ((9 : Int))).2).2 1) ((9 : Int)).toNat)) ≤ ((60 : Int))
            · rw [if_pos c_83]
              have d5 : slD ((F_m_pick (y) (i9) ((9 : Int))).2) ((F_m_copy ((F_m_pick (y) (i9) ((9 : Int))).2) ((10 : Int)) ((12 : Int))).2) 12 ∧ slK x ((F_m_copy ((F_m_pick (y) (i9) ((9 : Int))).2) ((10 : Int)) ((12 : Int))).2) 12 v0 := copy_D (x := x) (a := 10) (b := 12) f4.2.1 kv4 (by decide) (by decide)
              have f5 := slD_F f4 d5.1 (by decide)
              have k5 := slD_K d5.1 (by decide) (by decide) k49
              have kv5 := slD_K d5.1 (by decide) (by decide) kv4
              have z59 : ((F_m_copy ((F_m_pick (y) (i9) ((9 : Int))).2) ((10 : Int)) ((12 : Int))).2).2 1 ((9 : Int)).toNat = (w0.length : Int) := k5.1
              have z512 : ((F_m_copy ((F_m_pick (y) (i9) ((9 : Int))).2) ((10 : Int)) ((12 : Int))).2).2 1 ((12 : Int)).toNat = (v0.length : Int) := d5.2.1
              have d6 : slD ((F_m_copy ((F_m_pick (y) (i9) ((9 : Int))).2) ((10 : Int)) ((12 : Int))).2) ((F_m_append ((F_m_copy ((F_m_pick (y) (i9) ((9 : Int))).2) ((10 : Int)) ((12 : Int))).2) ((12 : Int)) ((9 : Int))).2) 12 ∧ slK x ((F_m_append ((F_m_copy ((F_m_pick (y) (i9) ((9 : Int))).2) ((10 : Int)) ((12 : Int))).2) ((12 : Int)) ((9 : Int))).2) 12 (v0 ++ w0) := app_D (x := x) (a := 12) (b := 9) f5.2.1 d5.2 k5 (by decide) (by decide) (by decide) (by omega)
              have f6 := slD_F f5 d6.1 (by decide)
              have k6 := slD_K d6.1 (by decide) (by decide) k5
              have kv6 := slD_K d6.1 (by decide) (by decide) kv5
              have r6 := slH_r f6 mz0 d6.2 (by decide) (by decide)
              obtain ⟨d7, dd, k7, n7⟩ := red_D f6 mz0 d6.2 (by decide) (by decide)
              have f7 : slF x ((F_m_reduceAt ((F_m_append ((F_m_copy ((F_m_pick (y) (i9) ((9 : Int))).2) ((10 : Int)) ((12 : Int))).2) ((12 : Int)) ((9 : Int))).2) ((12 : Int))).2) := slD_F f6 d7 (by decide)
              have k712 : slK x ((F_m_reduceAt ((F_m_append ((F_m_copy ((F_m_pick (y) (i9) ((9 : Int))).2) ((10 : Int)) ((12 : Int))).2) ((12 : Int)) ((9 : Int))).2) ((12 : Int))).2) 12 dd := k7
              have k79 : slK x ((F_m_reduceAt ((F_m_append ((F_m_copy ((F_m_pick (y) (i9) ((9 : Int))).2) ((10 : Int)) ((12 : Int))).2) ((12 : Int)) ((9 : Int))).2) ((12 : Int))).2) 9 w0 := slD_K d7 (by decide) (by decide) k6
              have kv7 : slK x ((F_m_reduceAt ((F_m_append ((F_m_copy ((F_m_pick (y) (i9) ((9 : Int))).2) ((10 : Int)) ((12 : Int))).2) ((12 : Int)) ((9 : Int))).2) ((12 : Int))).2) 10 v0 := slD_K d7 (by decide) (by decide) kv6
              have dl7 := k712.2.2.2
              have z79 : ((F_m_reduceAt ((F_m_append ((F_m_copy ((F_m_pick (y) (i9) ((9 : Int))).2) ((10 : Int)) ((12 : Int))).2) ((12 : Int)) ((9 : Int))).2) ((12 : Int))).2).2 1 ((9 : Int)).toNat = (w0.length : Int) := k79.1
              have z712 : ((F_m_reduceAt ((F_m_append ((F_m_copy ((F_m_pick (y) (i9) ((9 : Int))).2) ((10 : Int)) ((12 : Int))).2) ((12 : Int)) ((9 : Int))).2) ((12 : Int))).2).2 1 ((12 : Int)).toNat = (dd.length : Int) := k712.1
              by_cases c_118 : ((((F_m_reduceAt ((F_m_append ((F_m_copy ((F_m_pick (y) (i9) ((9 : Int))).2) ((10 : Int)) ((12 : Int))).2) ((12 : Int)) ((9 : Int))).2) ((12 : Int))).2).2 1) ((12 : Int)).toNat) = (0)
              · rw [if_pos c_118]
                exact iv2_5 hab hm1 f7 k79 k712 nv iv i0 (by omega) ⟨wn, k4.2.2.1⟩ wl wr (by omega) n7 c_118
              · rw [if_neg c_118]
                exact ih ((F_m_reduceAt ((F_m_append ((F_m_copy ((F_m_pick (y) (i9) ((9 : Int))).2) ((10 : Int)) ((12 : Int))).2) ((12 : Int)) ((9 : Int))).2) ((12 : Int))).2) ((i9) + (1 : Int)) (f7) (ivE2_s i0 kv7 k712 nv iv ⟨wn, k4.2.2.1⟩ wl wr (by omega) n7 c_118) (mz0) (hm1) (hab) (by omega) (by omega) (by omega)
            · rw [if_neg c_83]
              exact iv2_4 hab hm1 f4 nv iv i0 (by omega) ⟨wn, k4.2.2.1⟩ wl wr (by omega)
  unfold F_m_inverse
  by_cases c_4 : ((F_m_isSlot (x) (a)).1) = (0)
  · rw [if_pos c_4]
    exact Or.inl ⟨by first | (have h9 := F_in_00 (by rw [← F_m_isSlot_1 x c0]; exact c_11); omega) | (have h9 := F_in_00 (by rw [← F_m_isSlot_1 x a]; exact c_4); omega), rfl⟩
  · rw [if_neg c_4]
    by_cases c_11 : ((F_m_isSlot (x) (c0)).1) = (0)
    · rw [if_pos c_11]
      exact Or.inl ⟨by first | (have h9 := F_in_00 (by rw [← F_m_isSlot_1 x c0]; exact c_11); omega) | (have h9 := F_in_00 (by rw [← F_m_isSlot_1 x a]; exact c_4); omega), rfl⟩
    · rw [if_neg c_11]
      obtain ⟨a0, a1⟩ := F_in_1 (by rw [← F_m_isSlot_1 x a]; exact c_4)
      obtain ⟨c00, c01⟩ := F_in_1 (by rw [← F_m_isSlot_1 x c0]; exact c_11)
      by_cases c_20 : ((F_m_isMachine (x)).1) = (0)
      · rw [if_pos c_20]
        exact Or.inr ⟨by omega, Or.inl ⟨c_20, rfl⟩⟩
      · rw [if_neg c_20]
        have mz0 := mz c_20
        have zb := (hs a.toNat (by omega)).1
        have f0 := slF_0 hrw
        have d1 : slD (x) ((F_m_copy (x) (a) ((10 : Int))).2) 10 ∧ slK x ((F_m_copy (x) (a) ((10 : Int))).2) 10 (slM x a.toNat) := by
          have h9 := copy_D (x := x) (a := a.toNat) (b := 10) f0.2.1 (slF_H f0 (by omega) (hs a.toNat (by omega))) (by omega) (by omega)
          rw [show (a.toNat : Int) = a by omega] at h9
          exact h9
        have f1 := slD_F f0 d1.1 (by decide)
        have r1 := slH_r f1 mz0 d1.2 (by omega) (by omega)
        obtain ⟨e1, w1, kv1, nv1⟩ := red_D f1 mz0 d1.2 (by omega) (by omega)
        have g1 : slF x ((F_m_reduceAt ((F_m_copy (x) (a) ((10 : Int))).2) ((10 : Int))).2) := slD_F f1 e1 (by decide)
        exact (L (3000)) ((F_m_reduceAt ((F_m_copy (x) (a) ((10 : Int))).2) ((10 : Int))).2) ((0 : Int)) (g1) (⟨w1, kv1, nv1, fun j hj => by omega⟩) (mz0) (c_20) (by omega) (by omega) (by omega) (by omega)
