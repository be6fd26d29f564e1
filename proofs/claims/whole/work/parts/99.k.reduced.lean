-- deps: 99.j
set_option maxHeartbeats 4000000 in
theorem F_m_reduceAt_p (x : MS) (k : Int) (k0 : 0 ≤ k) (k1 : k < 13) (k2 : k ≠ 11) (z0 : 0 ≤ x.2 1 k.toNat) (z1 : x.2 1 k.toNat ≤ 127) (pw : plX x) (rl : rlR x) (ok : okL (x.1 0).toNat (ltM x k.toNat (x.2 1 k.toNat).toNat)) : rdP x k (F_m_reduceAt (x) (k)) := by
  obtain ⟨pr, str, Nn, Ss, hN⟩ := id pw
  obtain ⟨r40, l4, _⟩ := id pr
  have L : ∀ n : Nat, (∀ (y : MS) (t9 : Int) (i9 : Int), (rdC x y k.toNat (x.2 1 k.toNat).toNat t9.toNat) → (t9 + i9 + 1 = x.2 1 k.toNat) → (0 ≤ t9) → (-1 ≤ i9) → (400 * fuR + (i9 + 1).toNat + 1 < n) → rdP x k (F_m_reduceAt_s n 0 y k t9 i9 0 0)) ∧ (∀ (y : MS) (t9 : Int) (d : Int), (rdJ str Nn x y k.toNat (x.2 1 k.toNat).toNat d.toNat t9.toNat []) → (0 ≤ t9) → (0 ≤ d) → (400 * knm (ltM y k.toNat d.toNat ++ ([] ++ rsM y t9.toNat)) + t9.toNat < n) → rdP x k (F_m_reduceAt_s n 1 y k t9 d 0 0)) ∧ (∀ (y : MS) (t9 : Int) (d : Int) (r6 : Int) (i7 : Int), (rdJ str Nn x y k.toNat (x.2 1 k.toNat).toNat d.toNat t9.toNat ((rM x r6.toNat).take (i7 + 1).toNat)) → (0 ≤ t9) → (0 ≤ d) → (0 ≤ r6) → (r6 < 40) → (-1 ≤ i7) → (i7 < 20) → (i7 < x.2 15 r6.toNat) → (400 * knm (ltM y k.toNat d.toNat ++ (((rM x r6.toNat).take (i7 + 1).toNat) ++ rsM y t9.toNat)) + t9.toNat + 2 * (i7 + 1).toNat + 1 < n) → rdP x k (F_m_reduceAt_s n 2 y k t9 d r6 i7)) := by
    intro n
    induction n with
    | zero =>
      refine ⟨?_, ?_, ?_⟩
      · intro y t9 i9 rc ti t0 i0 fu
        exact absurd fu (by omega)
      · intro y t9 d ij t0 d0 fu
        exact absurd fu (by omega)
      · intro y t9 d r6 i7 ij t0 d0 r0 r1 i0 i1 i2 fu
        exact absurd fu (by omega)
    | succ n ih =>
      refine ⟨?_, ?_, ?_⟩
      · intro y t9 i9 rc ti t0 i0 fu
        rw [F_m_reduceAt_e0]
        by_cases c_12 : (i9) < (0)
        · rw [if_pos c_12]
          exact ih.2.1 (aU (y) 26 ((0 : Int)).toNat ((0 : Int))) (t9) ((0 : Int)) (rdC_eI pr hN rc ti c_12 i0 ok z1) (by omega) (by omega) (by have h9 := rdJ_fu (rdC_eI pr hN rc ti c_12 i0 ok z1) (by omega); omega)
        · rw [if_neg c_12]
          exact ih.1 (aU (y) 2 (((1408 : Int)) + (t9)).toNat (((y).2 2) ((((128 : Int)) * (k)) + (i9)).toNat)) ((t9) + (1 : Int)) ((i9) + (-1 : Int)) (rdC_sI rc ti t0 (by omega) k0 k1 k2 z1) (by omega) (by omega) (by omega) (by omega)
      · intro y t9 d ij t0 d0 fu
        rw [F_m_reduceAt_e1]
        have ln := rdJ_len ij
        rw [List.length_nil] at ln
        by_cases c_56 : (t9) ≤ (0)
        · rw [if_pos c_56]
          exact rdP_end ij c_56 d0
        · rw [if_neg c_56]
          have sp := rd_stepI pr rl hN ij k0 k1 k2 (by omega) d0 c_56 rfl rfl rfl rfl
          obtain ⟨sl, sq1, sq2, _⟩ := id sp
          have sr : y.2 21 (y.2 19 ((4 : Int) * y.2 26 d.toNat + y.2 2 ((1408 : Int) + (t9 + (-1 : Int))).toNat).toNat).toNat = -9 ∨ (0 ≤ y.2 21 (y.2 19 ((4 : Int) * y.2 26 d.toNat + y.2 2 ((1408 : Int) + (t9 + (-1 : Int))).toNat).toNat).toNat ∧ y.2 21 (y.2 19 ((4 : Int) * y.2 26 d.toNat + y.2 2 ((1408 : Int) + (t9 + (-1 : Int))).toNat).toNat).toNat < 40) := by
            by_cases h9 : y.2 21 (y.2 19 ((4 : Int) * y.2 26 d.toNat + y.2 2 ((1408 : Int) + (t9 + (-1 : Int))).toNat).toNat).toNat = -9
            · exact Or.inl h9
            · exact Or.inr (sp.2.2.2.2 h9).1
          by_cases c_130 : (((y).2 21) (((y).2 19) ((((4 : Int)) * (((y).2 26) (d).toNat)) + (((y).2 2) (((1408 : Int)) + ((t9) + (-1 : Int))).toNat)).toNat).toNat) = ((-9 : Int))
          · rw [if_pos c_130]
            exact ih.2.1 (aU (aU (y) 2 ((((128 : Int)) * (k)) + (d)).toNat (((y).2 2) (((1408 : Int)) + ((t9) + (-1 : Int))).toNat)) 26 ((d) + (1 : Int)).toNat (((y).2 19) ((((4 : Int)) * (((y).2 26) (d).toNat)) + (((y).2 2) (((1408 : Int)) + ((t9) + (-1 : Int))).toNat)).toNat)) ((t9) + (-1 : Int)) ((d) + (1 : Int)) ((sp.2.2.2.1 c_130).1) (by omega) (by omega) (by rw [(sp.2.2.2.1 c_130).2]; omega)
          · rw [if_neg c_130]
            have sk := sp.2.2.2.2 c_130
            obtain ⟨sk1, sk2, sk3, _⟩ := id sk
            exact ih.2.2 (aU (aU (y) 2 ((((128 : Int)) * (k)) + (d)).toNat (((y).2 2) (((1408 : Int)) + ((t9) + (-1 : Int))).toNat)) 26 ((d) + (1 : Int)).toNat (((y).2 19) ((((4 : Int)) * (((y).2 26) (d).toNat)) + (((y).2 2) (((1408 : Int)) + ((t9) + (-1 : Int))).toNat)).toNat)) ((t9) + (-1 : Int)) (((d) + (1 : Int)) - (((y).2 13) (((y).2 21) (((y).2 19) ((((4 : Int)) * (((y).2 26) (d).toNat)) + (((y).2 2) (((1408 : Int)) + ((t9) + (-1 : Int))).toNat)).toNat).toNat).toNat)) (((y).2 21) (((y).2 19) ((((4 : Int)) * (((y).2 26) (d).toNat)) + (((y).2 2) (((1408 : Int)) + ((t9) + (-1 : Int))).toNat)).toNat).toNat) ((((y).2 15) (((y).2 21) (((y).2 19) ((((4 : Int)) * (((y).2 26) (d).toNat)) + (((y).2 2) (((1408 : Int)) + ((t9) + (-1 : Int))).toNat)).toNat).toNat).toNat) - ((1 : Int))) ((sp.2.2.2.2 c_130).2.2.2.2.1) (by omega) (by have h9 := (sp.2.2.2.2 c_130).2.1; omega) (by have h9 := (sp.2.2.2.2 c_130).1; omega) (by have h9 := (sp.2.2.2.2 c_130).1; omega) (by have h9 := (sp.2.2.2.2 c_130).2.2.1; omega) (by have h9 := (sp.2.2.2.2 c_130).2.2.1; omega) (by have h9 := (sp.2.2.2.2 c_130).2.2.2.1; omega) (by have h9 := (sp.2.2.2.2 c_130).2.2.2.2.2; have h8 := (sp.2.2.2.2 c_130).2.2.1; omega)
      · intro y t9 d r6 i7 ij t0 d0 r0 r1 i0 i1 i2 fu
        rw [F_m_reduceAt_e2]
        have ln := rdJ_len ij
        have ln2 : ((rM x r6.toNat).take (i7 + 1).toNat).length = (i7 + 1).toNat := by rw [List.length_take, rM_len]; omega
        by_cases c_156 : (i7) < (0)
        · rw [if_pos c_156]
          exact ih.2.1 (y) (t9) (d) (by rw [rd_zero c_156] at ij; exact ij) (by omega) (by omega) (by rw [rd_zero c_156] at fu; omega)
        · rw [if_neg c_156]
          exact ih.2.2 (aU (y) 2 (((1408 : Int)) + (t9)).toNat (((y).2 16) ((((24 : Int)) * (r6)) + (i7)).toNat)) ((t9) + (1 : Int)) (d) (r6) ((i7) + (-1 : Int)) ((rd_pushI ij k0 k1 k2 (by omega) t0 r0 c_156 i2).1) (by omega) (by omega) (by omega) (by omega) (by omega) (by omega) (by omega) (by rw [(rd_pushI ij k0 k1 k2 (by omega) t0 r0 c_156 i2).2]; omega)
  unfold F_m_reduceAt
  exact (L ((400 * fuR + 400))).1 (x) ((0 : Int)) ((((x).2 1) (k).toNat) - ((1 : Int))) (rdC_0 x _ _) (by omega) (by omega) (by omega) (by omega)
