-- deps: 99.l
theorem rwR_up {y : MS} {i : Nat} {v : Int} (h : rwR y) (hv : 0 ≤ v ∧ v ≤ 3) : rwR (aU y 2 i v) := by
  intro k hk
  rw [yU_s, yU_if]
  by_cases e : k = i
  · rw [if_pos e]; exact hv
  · rw [if_neg e]; exact h k hk
theorem rwR_n {y : MS} {q i : Nat} {v : Int} (hq : 2 ≠ q) (h : rwR y) : rwR (aU y q i v) := by
  intro k hk
  rw [yU_n hq]; exact h k hk
set_option maxHeartbeats 4000000 in
theorem F_m_reduceAt_w (x : MS) (k : Int) (k0 : 0 ≤ k) (k1 : k < 13) (k2 : k ≠ 11) (z0 : 0 ≤ x.2 1 k.toNat) (z1 : x.2 1 k.toNat ≤ 127) (pw : plX x) (rl : rlR x) (ok : okL (x.1 0).toNat (ltM x k.toNat (x.2 1 k.toNat).toNat)) (hw : rwR x) (hrt : rtR x) : rwR (F_m_reduceAt (x) (k)).2 := by
  obtain ⟨pr, str, Nn, Ss, hN⟩ := id pw
  obtain ⟨r40, l4, _⟩ := id pr
  have L : ∀ n : Nat, (∀ (y : MS) (t9 : Int) (i9 : Int), (rwR y) → (rdC x y k.toNat (x.2 1 k.toNat).toNat t9.toNat) → (t9 + i9 + 1 = x.2 1 k.toNat) → (0 ≤ t9) → (-1 ≤ i9) → (400 * fuR + (i9 + 1).toNat + 1 < n) → rwR (F_m_reduceAt_s n 0 y k t9 i9 0 0).2) ∧ (∀ (y : MS) (t9 : Int) (d : Int), (rwR y) → (rdJ str Nn x y k.toNat (x.2 1 k.toNat).toNat d.toNat t9.toNat []) → (0 ≤ t9) → (0 ≤ d) → (400 * knm (ltM y k.toNat d.toNat ++ ([] ++ rsM y t9.toNat)) + t9.toNat < n) → rwR (F_m_reduceAt_s n 1 y k t9 d 0 0).2) ∧ (∀ (y : MS) (t9 : Int) (d : Int) (r6 : Int) (i7 : Int), (rwR y) → (rdJ str Nn x y k.toNat (x.2 1 k.toNat).toNat d.toNat t9.toNat ((rM x r6.toNat).take (i7 + 1).toNat)) → (0 ≤ t9) → (0 ≤ d) → (0 ≤ r6) → (r6 < 40) → (-1 ≤ i7) → (i7 < 20) → (i7 < x.2 15 r6.toNat) → (400 * knm (ltM y k.toNat d.toNat ++ (((rM x r6.toNat).take (i7 + 1).toNat) ++ rsM y t9.toNat)) + t9.toNat + 2 * (i7 + 1).toNat + 1 < n) → rwR (F_m_reduceAt_s n 2 y k t9 d r6 i7).2) := by
    intro n
    induction n with
    | zero =>
      refine ⟨?_, ?_, ?_⟩
      · intro y t9 i9 rw rc ti t0 i0 fu
        exact absurd fu (by omega)
      · intro y t9 d rw ij t0 d0 fu
        exact absurd fu (by omega)
      · intro y t9 d r6 i7 rw ij t0 d0 r0 r1 i0 i1 i2 fu
        exact absurd fu (by omega)
    | succ n ih =>
      refine ⟨?_, ?_, ?_⟩
      · intro y t9 i9 rw rc ti t0 i0 fu
        rw [F_m_reduceAt_e0]
        by_cases c_12 : (i9) < (0)
        · rw [if_pos c_12]
          exact ih.2.1 (aU (y) 26 ((0 : Int)).toNat ((0 : Int))) (t9) ((0 : Int)) (rwR_n (by decide) rw) (rdC_eI pr hN rc ti c_12 i0 ok z1) (by omega) (by omega) (by have h9 := rdJ_fu (rdC_eI pr hN rc ti c_12 i0 ok z1) (by omega); omega)
        · rw [if_neg c_12]
          exact ih.1 (aU (y) 2 (((1408 : Int)) + (t9)).toNat (((y).2 2) ((((128 : Int)) * (k)) + (i9)).toNat)) ((t9) + (1 : Int)) ((i9) + (-1 : Int)) (rwR_up rw (rw _ (by omega))) (rdC_sI rc ti t0 (by omega) k0 k1 k2 z1) (by omega) (by omega) (by omega) (by omega)
      · intro y t9 d rw ij t0 d0 fu
        rw [F_m_reduceAt_e1]
        have ln := rdJ_len ij
        rw [List.length_nil] at ln
        by_cases c_56 : (t9) ≤ (0)
        · rw [if_pos c_56]
          exact rwR_n (by decide) rw
        · rw [if_neg c_56]
          have sp := rd_stepI pr rl hN ij k0 k1 k2 (by omega) d0 c_56 rfl rfl rfl rfl
          obtain ⟨sl, sq1, sq2, _⟩ := id sp
          have sr : y.2 21 (y.2 19 ((4 : Int) * y.2 26 d.toNat + y.2 2 ((1408 : Int) + (t9 + (-1 : Int))).toNat).toNat).toNat = -9 ∨ (0 ≤ y.2 21 (y.2 19 ((4 : Int) * y.2 26 d.toNat + y.2 2 ((1408 : Int) + (t9 + (-1 : Int))).toNat).toNat).toNat ∧ y.2 21 (y.2 19 ((4 : Int) * y.2 26 d.toNat + y.2 2 ((1408 : Int) + (t9 + (-1 : Int))).toNat).toNat).toNat < 40) := by
            by_cases h9 : y.2 21 (y.2 19 ((4 : Int) * y.2 26 d.toNat + y.2 2 ((1408 : Int) + (t9 + (-1 : Int))).toNat).toNat).toNat = -9
            · exact Or.inl h9
            · exact Or.inr (sp.2.2.2.2 h9).1
          by_cases c_130 : (((y).2 21) (((y).2 19) ((((4 : Int)) * (((y).2 26) (d).toNat)) + (((y).2 2) (((1408 : Int)) + ((t9) + (-1 : Int))).toNat)).toNat).toNat) = ((-9 : Int))
          · rw [if_pos c_130]
            exact ih.2.1 (aU (aU (y) 2 ((((128 : Int)) * (k)) + (d)).toNat (((y).2 2) (((1408 : Int)) + ((t9) + (-1 : Int))).toNat)) 26 ((d) + (1 : Int)).toNat (((y).2 19) ((((4 : Int)) * (((y).2 26) (d).toNat)) + (((y).2 2) (((1408 : Int)) + ((t9) + (-1 : Int))).toNat)).toNat)) ((t9) + (-1 : Int)) ((d) + (1 : Int)) (rwR_n (by decide) (rwR_up rw (rw _ (by omega)))) ((sp.2.2.2.1 c_130).1) (by omega) (by omega) (by rw [(sp.2.2.2.1 c_130).2]; omega)
          · rw [if_neg c_130]
            have sk := sp.2.2.2.2 c_130
            obtain ⟨sk1, sk2, sk3, _⟩ := id sk
            exact ih.2.2 (aU (aU (y) 2 ((((128 : Int)) * (k)) + (d)).toNat (((y).2 2) (((1408 : Int)) + ((t9) + (-1 : Int))).toNat)) 26 ((d) + (1 : Int)).toNat (((y).2 19) ((((4 : Int)) * (((y).2 26) (d).toNat)) + (((y).2 2) (((1408 : Int)) + ((t9) + (-1 : Int))).toNat)).toNat)) ((t9) + (-1 : Int)) (((d) + (1 : Int)) - (((y).2 13) (((y).2 21) (((y).2 19) ((((4 : Int)) * (((y).2 26) (d).toNat)) + (((y).2 2) (((1408 : Int)) + ((t9) + (-1 : Int))).toNat)).toNat).toNat).toNat)) (((y).2 21) (((y).2 19) ((((4 : Int)) * (((y).2 26) (d).toNat)) + (((y).2 2) (((1408 : Int)) + ((t9) + (-1 : Int))).toNat)).toNat).toNat) ((((y).2 15) (((y).2 21) (((y).2 19) ((((4 : Int)) * (((y).2 26) (d).toNat)) + (((y).2 2) (((1408 : Int)) + ((t9) + (-1 : Int))).toNat)).toNat).toNat).toNat) - ((1 : Int))) (rwR_n (by decide) (rwR_up rw (rw _ (by omega)))) ((sp.2.2.2.2 c_130).2.2.2.2.1) (by omega) (by have h9 := (sp.2.2.2.2 c_130).2.1; omega) (by have h9 := (sp.2.2.2.2 c_130).1; omega) (by have h9 := (sp.2.2.2.2 c_130).1; omega) (by have h9 := (sp.2.2.2.2 c_130).2.2.1; omega) (by have h9 := (sp.2.2.2.2 c_130).2.2.1; omega) (by have h9 := (sp.2.2.2.2 c_130).2.2.2.1; omega) (by have h9 := (sp.2.2.2.2 c_130).2.2.2.2.2; have h8 := (sp.2.2.2.2 c_130).2.2.1; omega)
      · intro y t9 d r6 i7 rw ij t0 d0 r0 r1 i0 i1 i2 fu
        rw [F_m_reduceAt_e2]
        have ln := rdJ_len ij
        have ln2 : ((rM x r6.toNat).take (i7 + 1).toNat).length = (i7 + 1).toNat := by rw [List.length_take, rM_len]; omega
        by_cases c_156 : (i7) < (0)
        · rw [if_pos c_156]
          exact ih.2.1 (y) (t9) (d) (rw) (by rw [rd_zero c_156] at ij; exact ij) (by omega) (by omega) (by rw [rd_zero c_156] at fu; omega)
        · rw [if_neg c_156]
          exact ih.2.2 (aU (y) 2 (((1408 : Int)) + (t9)).toNat (((y).2 16) ((((24 : Int)) * (r6)) + (i7)).toNat)) ((t9) + (1 : Int)) (d) (r6) ((i7) + (-1 : Int)) (rwR_up rw (by rw [ij.1.2 16 (by decide)]; exact hrt _ (by omega))) ((rd_pushI ij k0 k1 k2 (by omega) t0 r0 c_156 i2).1) (by omega) (by omega) (by omega) (by omega) (by omega) (by omega) (by omega) (by rw [(rd_pushI ij k0 k1 k2 (by omega) t0 r0 c_156 i2).2]; omega)
  unfold F_m_reduceAt
  exact (L ((400 * fuR + 400))).1 (x) ((0 : Int)) ((((x).2 1) (k).toNat) - ((1 : Int))) (hw) (rdC_0 x _ _) (by omega) (by omega) (by omega) (by omega)
/-- what does not change when only slots do -/
theorem plX_eq {x y : MS} {A : List Nat} (f : same [] A x y) (h0 : A = [1, 2] ∨ A = [1, 2, 26]) (h : plX x) : plX y := by
  have g : ∀ k, k ≠ 1 → k ≠ 2 → k ≠ 26 → y.2 k = x.2 k := fun k k1 k2 k3 => f.2 k (by rcases h0 with h0 | h0 <;> rw [h0] <;> simp [k1, k2, k3])
  have g1 : ∀ k, y.1 k = x.1 k := fun k => f.1 k List.not_mem_nil
  obtain ⟨pr, str, N, S, hN⟩ := h
  have e13 := g 13 (by decide) (by decide) (by decide)
  have e14 := g 14 (by decide) (by decide) (by decide)
  refine ⟨plR_eq pr (g1 0) (g1 12) e13 e14, str, N, S, ?_⟩
  unfold plN at hN ⊢
  rw [lM_eq e13 e14, g1 0, g1 12, g1 17, g1 24, g 19 (by decide) (by decide) (by decide), g 21 (by decide) (by decide) (by decide), g 23 (by decide) (by decide) (by decide), g 25 (by decide) (by decide) (by decide)]
  exact hN
theorem rM_eq {x y : MS} (h3 : y.2 15 = x.2 15) (h4 : y.2 16 = x.2 16) : rM y = rM x := by unfold rM; rw [h3, h4]
theorem rlR_eq {x y : MS} {A : List Nat} (f : same [] A x y) (h0 : A = [1, 2] ∨ A = [1, 2, 26]) (h : rlR x) : rlR y ∧ lM y = lM x ∧ rM y = rM x ∧ y.1 0 = x.1 0 ∧ y.1 12 = x.1 12 ∧ (rtR x → rtR y) := by
  have g : ∀ k, k ≠ 1 → k ≠ 2 → k ≠ 26 → y.2 k = x.2 k := fun k k1 k2 k3 => f.2 k (by rcases h0 with h0 | h0 <;> rw [h0] <;> simp [k1, k2, k3])
  have g1 : ∀ k, y.1 k = x.1 k := fun k => f.1 k List.not_mem_nil
  have e13 := g 13 (by decide) (by decide) (by decide)
  have e14 := g 14 (by decide) (by decide) (by decide)
  have e15 := g 15 (by decide) (by decide) (by decide)
  have e16 := g 16 (by decide) (by decide) (by decide)
  refine ⟨?_, lM_eq e13 e14, rM_eq e15 e16, g1 0, g1 12, fun h => ?_⟩
  · unfold rlR at h ⊢
    rw [lM_eq e13 e14, rM_eq e15 e16, g1 0, g1 12, e15]; exact h
  · unfold rtR at h ⊢; rw [e16]; exact h
def rdH (x : MS) (k : Nat) : Prop := (k < 13 ∧ k ≠ 11) ∧ (0 ≤ x.2 1 k ∧ x.2 1 k ≤ 127) ∧ plX x ∧ rlR x ∧ okL (x.1 0).toNat (slM x k)
theorem reduceAt_f {x : MS} {k : Nat} (h : rdH x k) (hw : rwR x) (hrt : rtR x) : same [] [1, 2, 26] x (F_m_reduceAt x (k : Int)).2 ∧ rwR (F_m_reduceAt x (k : Int)).2 ∧ (0 ≤ (F_m_reduceAt x (k : Int)).2.2 1 k ∧ (F_m_reduceAt x (k : Int)).2.2 1 k ≤ x.2 1 k) ∧ (∀ j, j ≠ k → (F_m_reduceAt x (k : Int)).2.2 1 j = x.2 1 j) ∧ (∀ i, i < 128 * k ∨ 128 * k + 128 ≤ i → i < 1408 ∨ 1536 ≤ i → (F_m_reduceAt x (k : Int)).2.2 2 i = x.2 2 i) ∧ okL (x.1 0).toNat (slM (F_m_reduceAt x (k : Int)).2 k) ∧ noL (lM x) (x.1 12).toNat (slM (F_m_reduceAt x (k : Int)).2 k) ∧ rch (lM x) (rM x) (x.1 12).toNat (slM x k) (slM (F_m_reduceAt x (k : Int)).2 k) := by
  obtain ⟨⟨k1, k2⟩, ⟨z0, z1⟩, pw, rl, ok⟩ := h
  have ek : (k : Int).toNat = k := Int.toNat_natCast k
  have P := F_m_reduceAt_p x (k : Int) (by omega) (by omega) (by omega) (by rw [ek]; exact z0) (by rw [ek]; exact z1) pw rl (by rw [ek]; exact ok)
  have Q := F_m_reduceAt_w x (k : Int) (by omega) (by omega) (by omega) (by rw [ek]; exact z0) (by rw [ek]; exact z1) pw rl (by rw [ek]; exact ok) hw hrt
  have fr := F_m_reduceAt_fr x (k : Int)
  unfold rdP at P
  rw [ek] at P
  generalize F_m_reduceAt x (k : Int) = q at P Q fr ⊢
  obtain ⟨d, d1, e1, fo, a1, a2, a3⟩ := P
  have ed : q.2.2 1 k = (d : Int) := by rw [e1]; exact iU_s
  have es : slM q.2 k = ltM q.2 k d := by unfold slM; rw [ed, Int.toNat_natCast]
  rw [es]
  exact ⟨fr, Q, by omega, fun j hj => by rw [e1, iU_n hj], fo, a1, a2, a3⟩
theorem slM_o {x y : MS} {j : Nat} (h1 : y.2 1 j = x.2 1 j) (h2 : ∀ i, i < (x.2 1 j).toNat → y.2 2 (128 * j + i) = x.2 2 (128 * j + i)) : slM y j = slM x j := by unfold slM; rw [h1]; exact ltM_eq h2
theorem rdH_o {x : MS} {k j : Nat} (h : rdH x k) (hw : rwR x) (hrt : rtR x) (g : rdH x j) (hj : j ≠ k) : rdH (F_m_reduceAt x (k : Int)).2 j ∧ rtR (F_m_reduceAt x (k : Int)).2 ∧ slM (F_m_reduceAt x (k : Int)).2 j = slM x j := by
  obtain ⟨fr, Q, z, so, ro, a1, a2, a3⟩ := reduceAt_f h hw hrt
  obtain ⟨⟨j1, j2⟩, ⟨z0, z1⟩, pw, rl, ok⟩ := g
  obtain ⟨⟨k1, k2⟩, _⟩ := h
  obtain ⟨R, eL, eR, e0, e12, rt⟩ := rlR_eq fr (Or.inr rfl) rl
  have es : slM (F_m_reduceAt x (k : Int)).2 j = slM x j := slM_o (so j hj) (fun i hi => ro _ (by omega) (by omega))
  exact ⟨⟨⟨j1, j2⟩, by rw [so j hj]; exact ⟨z0, z1⟩, plX_eq fr (Or.inr rfl) pw, R, by rw [e0, es]; exact ok⟩, rt hrt, es⟩
