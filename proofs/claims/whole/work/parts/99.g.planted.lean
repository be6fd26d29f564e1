-- deps: 99.f
def pZ (x : MS) (q : Int × MS) : Prop := pS x q.2 (q.2.1 17).toNat
theorem pS_end {x y : MS} {k v : Int} (ps : pS x y k.toNat) (k0 : 0 ≤ k) (kN : k ≤ y.1 17) (c : y.1 17 ≤ k) : pZ x (v, y) := by
  have e9 : (y.1 17).toNat = k.toNat := by omega
  show pS x y (y.1 17).toNat
  rw [e9]; exact ps
set_option maxHeartbeats 4000000 in
theorem F_m_plant_p (x : MS)  (pr : plR x) : pZ x (F_m_plant (x)) := by
  obtain ⟨r40, l4, _⟩ := id pr
  have L : ∀ n : Nat, (∀ (y : MS) (d : Int), (pA x y d.toNat) → (0 ≤ d) → (d ≤ x.1 12) → (d ≤ 40) → (30000 + (40 - d) * 40 + 30 < n) → pZ x (F_m_plant_s n 0 y d 0 0 0)) ∧ (∀ (y : MS) (d : Int) (g : Int) (i : Int), (pB x y d.toNat g.toNat i.toNat) → (0 ≤ d) → (d < x.1 12) → (d < 40) → (0 ≤ g) → (0 ≤ i) → (i ≤ 24) → (30000 + (40 - d) * 40 + 25 - i < n) → pZ x (F_m_plant_s n 1 y d g i 0)) ∧ (∀ (y : MS) (t9 : Int) (k : Int), (pC x y k.toNat (0 : Int).toNat t9.toNat) → (0 ≤ k) → (k ≤ t9) → (1 ≤ t9) → (k ≤ 801) → (10000 + (801 - k) * 6 + 6 < n) → pZ x (F_m_plant_s n 2 y t9 k 0 0)) ∧ (∀ (y : MS) (t9 : Int) (k : Int) (g : Int) (z : Int), (pC x y k.toNat z.toNat t9.toNat) → (g = y.2 22 k.toNat) → (0 ≤ k) → (k < t9) → (1 ≤ t9) → (0 ≤ z) → (z ≤ 4) → (k ≤ 800) → (10000 + (801 - k) * 6 + 5 - z < n) → pZ x (F_m_plant_s n 3 y t9 k g z)) ∧ (∀ (y : MS) (k : Int), (pS x y k.toNat) → (0 ≤ k) → (k ≤ y.1 17) → (k ≤ 801) → ((801 - k) * 6 + 6 < n) → pZ x (F_m_plant_s n 4 y k 0 0 0)) ∧ (∀ (y : MS) (k : Int) (g : Int) (b : Int) (z : Int), (pS x y k.toNat) → (0 ≤ k) → (k < y.1 17) → (g = y.2 22 k.toNat) → (bgb y g b z) → (0 ≤ z) → (z ≤ x.1 0) → (k ≤ 800) → ((801 - k) * 6 + 5 - z < n) → pZ x (F_m_plant_s n 5 y k g b z)) := by
    intro n
    induction n with
    | zero =>
      refine ⟨?_, ?_, ?_, ?_, ?_, ?_⟩
      · intro y d pa d0 d1 d4 fu
        exact absurd fu (by omega)
      · intro y d g i pb d0 d1 d9 g0 i0 i4 fu
        exact absurd fu (by omega)
      · intro y t9 k pc k0 k1 t0 k8 fu
        exact absurd fu (by omega)
      · intro y t9 k g z pc hg k0 k1 t0 z0 z1 k8 fu
        exact absurd fu (by omega)
      · intro y k ps k0 kN k8 fu
        exact absurd fu (by omega)
      · intro y k g b z ps k0 k1 hg hbz z0 z1 k8 fu
        exact absurd fu (by omega)
    | succ n ih =>
      refine ⟨?_, ?_, ?_, ?_, ?_, ?_⟩
      · intro y d pa d0 d1 d4 fu
        rw [F_m_plant_e0]
        have e12 : y.1 12 = x.1 12 := pa.1.1 12 (by decide)
        by_cases c_17 : ((y).1 12) ≤ (d)
        · rw [if_pos c_17]
          exact ih.2.2.1 (aU (aU (y) 22 ((0 : Int)).toNat ((0 : Int))) 20 ((0 : Int)).toNat ((0 : Int))) ((1 : Int)) ((0 : Int)) (pC_0 pr pa d0 (by omega) (by omega) (by omega)) (by omega) (by omega) (by omega) (by omega) (by omega)
        · rw [if_neg c_17]
          exact ih.2.1 (y) (d) ((0 : Int)) ((0 : Int)) (pB_0 pa) (d0) (by omega) (by omega) (by omega) (by omega) (by omega) (by omega)
      · intro y d g i pb d0 d1 d9 g0 i0 i4 fu
        rw [F_m_plant_e1]
        obtain ⟨⟨N9, n17, nb9, gN⟩, e13, e14, e12, il⟩ := pB_b pb
        have pd := (pr.2.2.1 d.toNat (by omega)).1
        rw [lM_len] at il
        have z13 : y.2 13 d.toNat = x.2 13 d.toNat := congrFun e13 _
        have z14 : y.2 14 ((24 : Int) * d + i).toNat = x.2 14 (24 * d + i).toNat := congrFun e14 _
        have pd := (pr.2.2.1 d.toNat (by omega)).1
        by_cases c_33 : (((y).2 13) (d).toNat) ≤ (i)
        · rw [if_pos c_33]
          exact ih.1 (aU (y) 21 (g).toNat (d)) ((d) + (1 : Int)) (pB_endI pr pb d0 d1 i0 (by omega)) (by omega) (by omega) (by omega) (by omega)
        · rw [if_neg c_33]
          have pt := pl_let pr d0 d1 i0 (by omega)
          have cr : y.2 18 (4 * g + y.2 14 (24 * d + i).toNat).toNat = -9 ∨ (0 ≤ y.2 18 (4 * g + y.2 14 (24 * d + i).toNat).toNat ∧ y.2 18 (4 * g + y.2 14 (24 * d + i).toNat).toNat < 900) := by
            by_cases hc9 : y.2 18 (4 * g + y.2 14 (24 * d + i).toNat).toNat = -9
            · exact Or.inl hc9
            · have ob := pB_oldI pr pb d0 d1 g0 i0 (by omega) hc9
              obtain ⟨⟨N8, _, b8, h8⟩, _, _, _, il8⟩ := pB_b ob.1
              rw [lM_len] at il8
              exact Or.inr ⟨ob.2, by omega⟩
          by_cases c_63 : (((y).2 18) ((((4 : Int)) * (g)) + (((y).2 14) ((((24 : Int)) * (d)) + (i)).toNat)).toNat) = ((-9 : Int))
          · rw [if_pos c_63]
            have nb := pB_newI pr pb d0 d1 g0 i0 (by omega) c_63
            exact ih.2.1 (aU ((F_m_newNode (y)).2) 18 ((((4 : Int)) * (g)) + (((y).2 14) ((((24 : Int)) * (d)) + (i)).toNat)).toNat ((F_m_newNode (y)).1)) (d) ((iU (((F_m_newNode (y)).2).2 18) ((((4 : Int)) * (g)) + (((y).2 14) ((((24 : Int)) * (d)) + (i)).toNat)).toNat ((F_m_newNode (y)).1)) ((((4 : Int)) * (g)) + (((y).2 14) ((((24 : Int)) * (d)) + (i)).toNat)).toNat) ((i) + (1 : Int)) (nb.1) (d0) (d1) (d9) (nb.2) (by omega) (by omega) (by omega)
          · rw [if_neg c_63]
            have ob := pB_oldI pr pb d0 d1 g0 i0 (by omega) c_63
            exact ih.2.1 (y) (d) (((y).2 18) ((((4 : Int)) * (g)) + (((y).2 14) ((((24 : Int)) * (d)) + (i)).toNat)).toNat) ((i) + (1 : Int)) (ob.1) (d0) (d1) (d9) (ob.2) (by omega) (by omega) (by omega)
      · intro y t9 k pc k0 k1 t0 k8 fu
        rw [F_m_plant_e2]
        obtain ⟨⟨N9, n17, n80, tN, oN⟩, el, e12⟩ := pC_b pr pc
        by_cases c_132 : (t9) ≤ (k)
        · rw [if_pos c_132]
          exact ih.2.2.2.2.1 (sU (y) 24 ((0 : Int))) ((0 : Int)) (pS_0 pc k0 (by omega) (by omega)) (by omega) (by show 0 ≤ y.1 17; omega) (by omega) (by omega)
        · rw [if_neg c_132]
          exact ih.2.2.2.1 (y) (t9) (k) (((y).2 22) (k).toNat) ((0 : Int)) (pc) (by first | exact hg | rfl | (rw [yU_s, iU_n (by omega)]; exact hg) | (show _ = y.2 22 k.toNat; exact hg) | (show _ = iU (y.2 22) t9.toNat _ k.toNat; rw [iU_n (by omega)]; exact hg) | (exfalso; omega)) (by omega) (by omega) (by omega) (by omega) (by omega) (by omega) (by first | omega | (exfalso; omega))
      · intro y t9 k g z pc hg k0 k1 t0 z0 z1 k8 fu
        rw [F_m_plant_e3]
        obtain ⟨⟨N9, n17, n80, tN, oN⟩, el, e12⟩ := pC_b pr pc
        have ok9 := oN k.toNat (by omega)
        by_cases c_152 : ((y).1 0) ≤ (z)
        · rw [if_pos c_152]
          exact ih.2.2.1 (y) (t9) ((k) + (1 : Int)) (pC_on pr pc k0 k1 z0 (by omega)) (by omega) (by omega) (by omega) (by omega) (by omega)
        · rw [if_neg c_152]
          have cr := pC_r pr pc hg k0 k1 z0 (by omega)
          by_cases c_171 : (g) = (0)
          · rw [if_pos c_171]
            by_cases c_212 : (((y).2 18) ((((4 : Int)) * (g)) + (z)).toNat) = ((-9 : Int))
            · rw [if_pos c_212]
              by_cases c_227 : (((y).2 18) ((((4 : Int)) * (g)) + (z)).toNat) = ((-9 : Int))
              · rw [if_pos c_227]
                exact ih.2.2.2.1 (aU (y) 19 ((((4 : Int)) * (g)) + (z)).toNat ((0 : Int))) (t9) (k) (g) ((z) + (1 : Int)) (by first | (exfalso; omega) | exact pC_none pr pc hg k0 k1 z0 (by omega) (by omega) (by first | (rw [if_pos (by omega)]; done) | (rw [if_neg (by omega)]; done))) (by first | exact hg | rfl | (rw [yU_s, iU_n (by omega)]; exact hg) | (show _ = y.2 22 k.toNat; exact hg) | (show _ = iU (y.2 22) t9.toNat _ k.toNat; rw [iU_n (by omega)]; exact hg) | (exfalso; omega)) (by omega) (by omega) (by omega) (by omega) (by omega) (by omega) (by first | omega | (exfalso; omega))
              · rw [if_neg c_227]
                by_cases c_238 : (g) = (0)
                · rw [if_pos c_238]
                  have ce := pC_e pr pc hg k0 k1 z0 (by omega) (by assumption)
                  by_cases c_263 : (((y).2 21) (((y).2 18) ((((4 : Int)) * (g)) + (z)).toNat).toNat) = ((-9 : Int))
                  · rw [if_pos c_263]
                    exact ih.2.2.2.1 (aU (aU (aU (aU (y) 19 ((((4 : Int)) * (g)) + (z)).toNat ((0 : Int))) 20 (((y).2 18) ((((4 : Int)) * (g)) + (z)).toNat).toNat ((0 : Int))) 21 (((y).2 18) ((((4 : Int)) * (g)) + (z)).toNat).toNat (((y).2 21) ((iU ((y).2 20) (((y).2 18) ((((4 : Int)) * (g)) + (z)).toNat).toNat ((0 : Int))) (((y).2 18) ((((4 : Int)) * (g)) + (z)).toNat).toNat).toNat)) 22 (t9).toNat (((y).2 18) ((((4 : Int)) * (g)) + (z)).toNat)) ((t9) + (1 : Int)) (k) (g) ((z) + (1 : Int)) (by first | (exfalso; omega) | exact pC_push pr pc hg k0 k1 z0 (by omega) rfl (by omega) (by first | (rw [if_pos (by omega)]; done) | (rw [if_neg (by omega)]; done)) (by first | (rw [iU_s, if_pos (by assumption)]; done) | (rw [if_neg (by assumption)]; done))) (by first | exact hg | rfl | (rw [yU_s, iU_n (by omega)]; exact hg) | (show _ = y.2 22 k.toNat; exact hg) | (show _ = iU (y.2 22) t9.toNat _ k.toNat; rw [iU_n (by omega)]; exact hg) | (exfalso; omega)) (by omega) (by omega) (by omega) (by omega) (by omega) (by omega) (by first | omega | (exfalso; omega))
                  · rw [if_neg c_263]
                    exact ih.2.2.2.1 (aU (aU (aU (aU (y) 19 ((((4 : Int)) * (g)) + (z)).toNat ((0 : Int))) 20 (((y).2 18) ((((4 : Int)) * (g)) + (z)).toNat).toNat ((0 : Int))) 21 (((y).2 18) ((((4 : Int)) * (g)) + (z)).toNat).toNat (((y).2 21) (((y).2 18) ((((4 : Int)) * (g)) + (z)).toNat).toNat)) 22 (t9).toNat (((y).2 18) ((((4 : Int)) * (g)) + (z)).toNat)) ((t9) + (1 : Int)) (k) (g) ((z) + (1 : Int)) (by first | (exfalso; omega) | exact pC_push pr pc hg k0 k1 z0 (by omega) rfl (by omega) (by first | (rw [if_pos (by omega)]; done) | (rw [if_neg (by omega)]; done)) (by first | (rw [iU_s, if_pos (by assumption)]; done) | (rw [if_neg (by assumption)]; done))) (by first | exact hg | rfl | (rw [yU_s, iU_n (by omega)]; exact hg) | (show _ = y.2 22 k.toNat; exact hg) | (show _ = iU (y.2 22) t9.toNat _ k.toNat; rw [iU_n (by omega)]; exact hg) | (exfalso; omega)) (by omega) (by omega) (by omega) (by omega) (by omega) (by omega) (by first | omega | (exfalso; omega))
                · rw [if_neg c_238]
                  have ce := pC_e pr pc hg k0 k1 z0 (by omega) (by assumption)
                  by_cases c_263 : (((y).2 21) (((y).2 18) ((((4 : Int)) * (g)) + (z)).toNat).toNat) = ((-9 : Int))
                  · rw [if_pos c_263]
                    exact ih.2.2.2.1 (aU (aU (aU (aU (y) 19 ((((4 : Int)) * (g)) + (z)).toNat ((0 : Int))) 20 (((y).2 18) ((((4 : Int)) * (g)) + (z)).toNat).toNat ((0 : Int))) 21 (((y).2 18) ((((4 : Int)) * (g)) + (z)).toNat).toNat (((y).2 21) ((iU ((y).2 20) (((y).2 18) ((((4 : Int)) * (g)) + (z)).toNat).toNat ((0 : Int))) (((y).2 18) ((((4 : Int)) * (g)) + (z)).toNat).toNat).toNat)) 22 (t9).toNat (((y).2 18) ((((4 : Int)) * (g)) + (z)).toNat)) ((t9) + (1 : Int)) (k) (g) ((z) + (1 : Int)) (by first | (exfalso; omega) | exact pC_push pr pc hg k0 k1 z0 (by omega) rfl (by omega) (by first | (rw [if_pos (by omega)]; done) | (rw [if_neg (by omega)]; done)) (by first | (rw [iU_s, if_pos (by assumption)]; done) | (rw [if_neg (by assumption)]; done))) (by first | exact hg | rfl | (rw [yU_s, iU_n (by omega)]; exact hg) | (show _ = y.2 22 k.toNat; exact hg) | (show _ = iU (y.2 22) t9.toNat _ k.toNat; rw [iU_n (by omega)]; exact hg) | (exfalso; omega)) (by omega) (by omega) (by omega) (by omega) (by omega) (by omega) (by first | omega | (exfalso; omega))
                  · rw [if_neg c_263]
                    exact ih.2.2.2.1 (aU (aU (aU (aU (y) 19 ((((4 : Int)) * (g)) + (z)).toNat ((0 : Int))) 20 (((y).2 18) ((((4 : Int)) * (g)) + (z)).toNat).toNat ((0 : Int))) 21 (((y).2 18) ((((4 : Int)) * (g)) + (z)).toNat).toNat (((y).2 21) (((y).2 18) ((((4 : Int)) * (g)) + (z)).toNat).toNat)) 22 (t9).toNat (((y).2 18) ((((4 : Int)) * (g)) + (z)).toNat)) ((t9) + (1 : Int)) (k) (g) ((z) + (1 : Int)) (by first | (exfalso; omega) | exact pC_push pr pc hg k0 k1 z0 (by omega) rfl (by omega) (by first | (rw [if_pos (by omega)]; done) | (rw [if_neg (by omega)]; done)) (by first | (rw [iU_s, if_pos (by assumption)]; done) | (rw [if_neg (by assumption)]; done))) (by first | exact hg | rfl | (rw [yU_s, iU_n (by omega)]; exact hg) | (show _ = y.2 22 k.toNat; exact hg) | (show _ = iU (y.2 22) t9.toNat _ k.toNat; rw [iU_n (by omega)]; exact hg) | (exfalso; omega)) (by omega) (by omega) (by omega) (by omega) (by omega) (by omega) (by first | omega | (exfalso; omega))
            · rw [if_neg c_212]
              by_cases c_227 : (((y).2 18) ((((4 : Int)) * (g)) + (z)).toNat) = ((-9 : Int))
              · rw [if_pos c_227]
                exact ih.2.2.2.1 (aU (y) 19 ((((4 : Int)) * (g)) + (z)).toNat (((y).2 18) ((((4 : Int)) * (g)) + (z)).toNat)) (t9) (k) (g) ((z) + (1 : Int)) (by first | (exfalso; omega) | exact pC_none pr pc hg k0 k1 z0 (by omega) (by omega) (by first | (rw [if_pos (by omega)]; done) | (rw [if_neg (by omega)]; done))) (by first | exact hg | rfl | (rw [yU_s, iU_n (by omega)]; exact hg) | (show _ = y.2 22 k.toNat; exact hg) | (show _ = iU (y.2 22) t9.toNat _ k.toNat; rw [iU_n (by omega)]; exact hg) | (exfalso; omega)) (by omega) (by omega) (by omega) (by omega) (by omega) (by omega) (by first | omega | (exfalso; omega))
              · rw [if_neg c_227]
                by_cases c_238 : (g) = (0)
                · rw [if_pos c_238]
                  have ce := pC_e pr pc hg k0 k1 z0 (by omega) (by assumption)
                  by_cases c_263 : (((y).2 21) (((y).2 18) ((((4 : Int)) * (g)) + (z)).toNat).toNat) = ((-9 : Int))
                  · rw [if_pos c_263]
                    exact ih.2.2.2.1 (aU (aU (aU (aU (y) 19 ((((4 : Int)) * (g)) + (z)).toNat (((y).2 18) ((((4 : Int)) * (g)) + (z)).toNat)) 20 (((y).2 18) ((((4 : Int)) * (g)) + (z)).toNat).toNat ((0 : Int))) 21 (((y).2 18) ((((4 : Int)) * (g)) + (z)).toNat).toNat (((y).2 21) ((iU ((y).2 20) (((y).2 18) ((((4 : Int)) * (g)) + (z)).toNat).toNat ((0 : Int))) (((y).2 18) ((((4 : Int)) * (g)) + (z)).toNat).toNat).toNat)) 22 (t9).toNat (((y).2 18) ((((4 : Int)) * (g)) + (z)).toNat)) ((t9) + (1 : Int)) (k) (g) ((z) + (1 : Int)) (by first | (exfalso; omega) | exact pC_push pr pc hg k0 k1 z0 (by omega) rfl (by omega) (by first | (rw [if_pos (by omega)]; done) | (rw [if_neg (by omega)]; done)) (by first | (rw [iU_s, if_pos (by assumption)]; done) | (rw [if_neg (by assumption)]; done))) (by first | exact hg | rfl | (rw [yU_s, iU_n (by omega)]; exact hg) | (show _ = y.2 22 k.toNat; exact hg) | (show _ = iU (y.2 22) t9.toNat _ k.toNat; rw [iU_n (by omega)]; exact hg) | (exfalso; omega)) (by omega) (by omega) (by omega) (by omega) (by omega) (by omega) (by first | omega | (exfalso; omega))
                  · rw [if_neg c_263]
                    exact ih.2.2.2.1 (aU (aU (aU (aU (y) 19 ((((4 : Int)) * (g)) + (z)).toNat (((y).2 18) ((((4 : Int)) * (g)) + (z)).toNat)) 20 (((y).2 18) ((((4 : Int)) * (g)) + (z)).toNat).toNat ((0 : Int))) 21 (((y).2 18) ((((4 : Int)) * (g)) + (z)).toNat).toNat (((y).2 21) (((y).2 18) ((((4 : Int)) * (g)) + (z)).toNat).toNat)) 22 (t9).toNat (((y).2 18) ((((4 : Int)) * (g)) + (z)).toNat)) ((t9) + (1 : Int)) (k) (g) ((z) + (1 : Int)) (by first | (exfalso; omega) | exact pC_push pr pc hg k0 k1 z0 (by omega) rfl (by omega) (by first | (rw [if_pos (by omega)]; done) | (rw [if_neg (by omega)]; done)) (by first | (rw [iU_s, if_pos (by assumption)]; done) | (rw [if_neg (by assumption)]; done))) (by first | exact hg | rfl | (rw [yU_s, iU_n (by omega)]; exact hg) | (show _ = y.2 22 k.toNat; exact hg) | (show _ = iU (y.2 22) t9.toNat _ k.toNat; rw [iU_n (by omega)]; exact hg) | (exfalso; omega)) (by omega) (by omega) (by omega) (by omega) (by omega) (by omega) (by first | omega | (exfalso; omega))
                · rw [if_neg c_238]
                  have ce := pC_e pr pc hg k0 k1 z0 (by omega) (by assumption)
                  by_cases c_263 : (((y).2 21) (((y).2 18) ((((4 : Int)) * (g)) + (z)).toNat).toNat) = ((-9 : Int))
                  · rw [if_pos c_263]
                    exact ih.2.2.2.1 (aU (aU (aU (aU (y) 19 ((((4 : Int)) * (g)) + (z)).toNat (((y).2 18) ((((4 : Int)) * (g)) + (z)).toNat)) 20 (((y).2 18) ((((4 : Int)) * (g)) + (z)).toNat).toNat ((0 : Int))) 21 (((y).2 18) ((((4 : Int)) * (g)) + (z)).toNat).toNat (((y).2 21) ((iU ((y).2 20) (((y).2 18) ((((4 : Int)) * (g)) + (z)).toNat).toNat ((0 : Int))) (((y).2 18) ((((4 : Int)) * (g)) + (z)).toNat).toNat).toNat)) 22 (t9).toNat (((y).2 18) ((((4 : Int)) * (g)) + (z)).toNat)) ((t9) + (1 : Int)) (k) (g) ((z) + (1 : Int)) (by first | (exfalso; omega) | exact pC_push pr pc hg k0 k1 z0 (by omega) rfl (by omega) (by first | (rw [if_pos (by omega)]; done) | (rw [if_neg (by omega)]; done)) (by first | (rw [iU_s, if_pos (by assumption)]; done) | (rw [if_neg (by assumption)]; done))) (by first | exact hg | rfl | (rw [yU_s, iU_n (by omega)]; exact hg) | (show _ = y.2 22 k.toNat; exact hg) | (show _ = iU (y.2 22) t9.toNat _ k.toNat; rw [iU_n (by omega)]; exact hg) | (exfalso; omega)) (by omega) (by omega) (by omega) (by omega) (by omega) (by omega) (by first | omega | (exfalso; omega))
                  · rw [if_neg c_263]
                    exact ih.2.2.2.1 (aU (aU (aU (aU (y) 19 ((((4 : Int)) * (g)) + (z)).toNat (((y).2 18) ((((4 : Int)) * (g)) + (z)).toNat)) 20 (((y).2 18) ((((4 : Int)) * (g)) + (z)).toNat).toNat ((0 : Int))) 21 (((y).2 18) ((((4 : Int)) * (g)) + (z)).toNat).toNat (((y).2 21) (((y).2 18) ((((4 : Int)) * (g)) + (z)).toNat).toNat)) 22 (t9).toNat (((y).2 18) ((((4 : Int)) * (g)) + (z)).toNat)) ((t9) + (1 : Int)) (k) (g) ((z) + (1 : Int)) (by first | (exfalso; omega) | exact pC_push pr pc hg k0 k1 z0 (by omega) rfl (by omega) (by first | (rw [if_pos (by omega)]; done) | (rw [if_neg (by omega)]; done)) (by first | (rw [iU_s, if_pos (by assumption)]; done) | (rw [if_neg (by assumption)]; done))) (by first | exact hg | rfl | (rw [yU_s, iU_n (by omega)]; exact hg) | (show _ = y.2 22 k.toNat; exact hg) | (show _ = iU (y.2 22) t9.toNat _ k.toNat; rw [iU_n (by omega)]; exact hg) | (exfalso; omega)) (by omega) (by omega) (by omega) (by omega) (by omega) (by omega) (by first | omega | (exfalso; omega))
          · rw [if_neg c_171]
            by_cases c_212 : (((y).2 18) ((((4 : Int)) * (g)) + (z)).toNat) = ((-9 : Int))
            · rw [if_pos c_212]
              by_cases c_227 : (((y).2 18) ((((4 : Int)) * (g)) + (z)).toNat) = ((-9 : Int))
              · rw [if_pos c_227]
                exact ih.2.2.2.1 (aU (y) 19 ((((4 : Int)) * (g)) + (z)).toNat (((y).2 19) ((((4 : Int)) * (((y).2 20) (g).toNat)) + (z)).toNat)) (t9) (k) (g) ((z) + (1 : Int)) (by first | (exfalso; omega) | exact pC_none pr pc hg k0 k1 z0 (by omega) (by omega) (by first | (rw [if_pos (by omega)]; done) | (rw [if_neg (by omega)]; done))) (by first | exact hg | rfl | (rw [yU_s, iU_n (by omega)]; exact hg) | (show _ = y.2 22 k.toNat; exact hg) | (show _ = iU (y.2 22) t9.toNat _ k.toNat; rw [iU_n (by omega)]; exact hg) | (exfalso; omega)) (by omega) (by omega) (by omega) (by omega) (by omega) (by omega) (by first | omega | (exfalso; omega))
              · rw [if_neg c_227]
                by_cases c_238 : (g) = (0)
                · rw [if_pos c_238]
                  have ce := pC_e pr pc hg k0 k1 z0 (by omega) (by assumption)
                  by_cases c_263 : (((y).2 21) (((y).2 18) ((((4 : Int)) * (g)) + (z)).toNat).toNat) = ((-9 : Int))
                  · rw [if_pos c_263]
                    exact ih.2.2.2.1 (aU (aU (aU (aU (y) 19 ((((4 : Int)) * (g)) + (z)).toNat (((y).2 19) ((((4 : Int)) * (((y).2 20) (g).toNat)) + (z)).toNat)) 20 (((y).2 18) ((((4 : Int)) * (g)) + (z)).toNat).toNat ((0 : Int))) 21 (((y).2 18) ((((4 : Int)) * (g)) + (z)).toNat).toNat (((y).2 21) ((iU ((y).2 20) (((y).2 18) ((((4 : Int)) * (g)) + (z)).toNat).toNat ((0 : Int))) (((y).2 18) ((((4 : Int)) * (g)) + (z)).toNat).toNat).toNat)) 22 (t9).toNat (((y).2 18) ((((4 : Int)) * (g)) + (z)).toNat)) ((t9) + (1 : Int)) (k) (g) ((z) + (1 : Int)) (by first | (exfalso; omega) | exact pC_push pr pc hg k0 k1 z0 (by omega) rfl (by omega) (by first | (rw [if_pos (by omega)]; done) | (rw [if_neg (by omega)]; done)) (by first | (rw [iU_s, if_pos (by assumption)]; done) | (rw [if_neg (by assumption)]; done))) (by first | exact hg | rfl | (rw [yU_s, iU_n (by omega)]; exact hg) | (show _ = y.2 22 k.toNat; exact hg) | (show _ = iU (y.2 22) t9.toNat _ k.toNat; rw [iU_n (by omega)]; exact hg) | (exfalso; omega)) (by omega) (by omega) (by omega) (by omega) (by omega) (by omega) (by first | omega | (exfalso; omega))
                  · rw [if_neg c_263]
                    exact ih.2.2.2.1 (aU (aU (aU (aU (y) 19 ((((4 : Int)) * (g)) + (z)).toNat (((y).2 19) ((((4 : Int)) * (((y).2 20) (g).toNat)) + (z)).toNat)) 20 (((y).2 18) ((((4 : Int)) * (g)) + (z)).toNat).toNat ((0 : Int))) 21 (((y).2 18) ((((4 : Int)) * (g)) + (z)).toNat).toNat (((y).2 21) (((y).2 18) ((((4 : Int)) * (g)) + (z)).toNat).toNat)) 22 (t9).toNat (((y).2 18) ((((4 : Int)) * (g)) + (z)).toNat)) ((t9) + (1 : Int)) (k) (g) ((z) + (1 : Int)) (by first | (exfalso; omega) | exact pC_push pr pc hg k0 k1 z0 (by omega) rfl (by omega) (by first | (rw [if_pos (by omega)]; done) | (rw [if_neg (by omega)]; done)) (by first | (rw [iU_s, if_pos (by assumption)]; done) | (rw [if_neg (by assumption)]; done))) (by first | exact hg | rfl | (rw [yU_s, iU_n (by omega)]; exact hg) | (show _ = y.2 22 k.toNat; exact hg) | (show _ = iU (y.2 22) t9.toNat _ k.toNat; rw [iU_n (by omega)]; exact hg) | (exfalso; omega)) (by omega) (by omega) (by omega) (by omega) (by omega) (by omega) (by first | omega | (exfalso; omega))
                · rw [if_neg c_238]
                  have ce := pC_e pr pc hg k0 k1 z0 (by omega) (by assumption)
                  by_cases c_263 : (((y).2 21) (((y).2 18) ((((4 : Int)) * (g)) + (z)).toNat).toNat) = ((-9 : Int))
                  · rw [if_pos c_263]
                    exact ih.2.2.2.1 (aU (aU (aU (aU (y) 19 ((((4 : Int)) * (g)) + (z)).toNat (((y).2 19) ((((4 : Int)) * (((y).2 20) (g).toNat)) + (z)).toNat)) 20 (((y).2 18) ((((4 : Int)) * (g)) + (z)).toNat).toNat (((y).2 19) ((((4 : Int)) * (((y).2 20) (g).toNat)) + (z)).toNat)) 21 (((y).2 18) ((((4 : Int)) * (g)) + (z)).toNat).toNat (((y).2 21) ((iU ((y).2 20) (((y).2 18) ((((4 : Int)) * (g)) + (z)).toNat).toNat (((y).2 19) ((((4 : Int)) * (((y).2 20) (g).toNat)) + (z)).toNat)) (((y).2 18) ((((4 : Int)) * (g)) + (z)).toNat).toNat).toNat)) 22 (t9).toNat (((y).2 18) ((((4 : Int)) * (g)) + (z)).toNat)) ((t9) + (1 : Int)) (k) (g) ((z) + (1 : Int)) (by first | (exfalso; omega) | exact pC_push pr pc hg k0 k1 z0 (by omega) rfl (by omega) (by first | (rw [if_pos (by omega)]; done) | (rw [if_neg (by omega)]; done)) (by first | (rw [iU_s, if_pos (by assumption)]; done) | (rw [if_neg (by assumption)]; done))) (by first | exact hg | rfl | (rw [yU_s, iU_n (by omega)]; exact hg) | (show _ = y.2 22 k.toNat; exact hg) | (show _ = iU (y.2 22) t9.toNat _ k.toNat; rw [iU_n (by omega)]; exact hg) | (exfalso; omega)) (by omega) (by omega) (by omega) (by omega) (by omega) (by omega) (by first | omega | (exfalso; omega))
                  · rw [if_neg c_263]
                    exact ih.2.2.2.1 (aU (aU (aU (aU (y) 19 ((((4 : Int)) * (g)) + (z)).toNat (((y).2 19) ((((4 : Int)) * (((y).2 20) (g).toNat)) + (z)).toNat)) 20 (((y).2 18) ((((4 : Int)) * (g)) + (z)).toNat).toNat (((y).2 19) ((((4 : Int)) * (((y).2 20) (g).toNat)) + (z)).toNat)) 21 (((y).2 18) ((((4 : Int)) * (g)) + (z)).toNat).toNat (((y).2 21) (((y).2 18) ((((4 : Int)) * (g)) + (z)).toNat).toNat)) 22 (t9).toNat (((y).2 18) ((((4 : Int)) * (g)) + (z)).toNat)) ((t9) + (1 : Int)) (k) (g) ((z) + (1 : Int)) (by first | (exfalso; omega) | exact pC_push pr pc hg k0 k1 z0 (by omega) rfl (by omega) (by first | (rw [if_pos (by omega)]; done) | (rw [if_neg (by omega)]; done)) (by first | (rw [iU_s, if_pos (by assumption)]; done) | (rw [if_neg (by assumption)]; done))) (by first | exact hg | rfl | (rw [yU_s, iU_n (by omega)]; exact hg) | (show _ = y.2 22 k.toNat; exact hg) | (show _ = iU (y.2 22) t9.toNat _ k.toNat; rw [iU_n (by omega)]; exact hg) | (exfalso; omega)) (by omega) (by omega) (by omega) (by omega) (by omega) (by omega) (by first | omega | (exfalso; omega))
            · rw [if_neg c_212]
              by_cases c_227 : (((y).2 18) ((((4 : Int)) * (g)) + (z)).toNat) = ((-9 : Int))
              · rw [if_pos c_227]
                exact ih.2.2.2.1 (aU (y) 19 ((((4 : Int)) * (g)) + (z)).toNat (((y).2 18) ((((4 : Int)) * (g)) + (z)).toNat)) (t9) (k) (g) ((z) + (1 : Int)) (by first | (exfalso; omega) | exact pC_none pr pc hg k0 k1 z0 (by omega) (by omega) (by first | (rw [if_pos (by omega)]; done) | (rw [if_neg (by omega)]; done))) (by first | exact hg | rfl | (rw [yU_s, iU_n (by omega)]; exact hg) | (show _ = y.2 22 k.toNat; exact hg) | (show _ = iU (y.2 22) t9.toNat _ k.toNat; rw [iU_n (by omega)]; exact hg) | (exfalso; omega)) (by omega) (by omega) (by omega) (by omega) (by omega) (by omega) (by first | omega | (exfalso; omega))
              · rw [if_neg c_227]
                by_cases c_238 : (g) = (0)
                · rw [if_pos c_238]
                  have ce := pC_e pr pc hg k0 k1 z0 (by omega) (by assumption)
                  by_cases c_263 : (((y).2 21) (((y).2 18) ((((4 : Int)) * (g)) + (z)).toNat).toNat) = ((-9 : Int))
                  · rw [if_pos c_263]
                    exact ih.2.2.2.1 (aU (aU (aU (aU (y) 19 ((((4 : Int)) * (g)) + (z)).toNat (((y).2 18) ((((4 : Int)) * (g)) + (z)).toNat)) 20 (((y).2 18) ((((4 : Int)) * (g)) + (z)).toNat).toNat ((0 : Int))) 21 (((y).2 18) ((((4 : Int)) * (g)) + (z)).toNat).toNat (((y).2 21) ((iU ((y).2 20) (((y).2 18) ((((4 : Int)) * (g)) + (z)).toNat).toNat ((0 : Int))) (((y).2 18) ((((4 : Int)) * (g)) + (z)).toNat).toNat).toNat)) 22 (t9).toNat (((y).2 18) ((((4 : Int)) * (g)) + (z)).toNat)) ((t9) + (1 : Int)) (k) (g) ((z) + (1 : Int)) (by first | (exfalso; omega) | exact pC_push pr pc hg k0 k1 z0 (by omega) rfl (by omega) (by first | (rw [if_pos (by omega)]; done) | (rw [if_neg (by omega)]; done)) (by first | (rw [iU_s, if_pos (by assumption)]; done) | (rw [if_neg (by assumption)]; done))) (by first | exact hg | rfl | (rw [yU_s, iU_n (by omega)]; exact hg) | (show _ = y.2 22 k.toNat; exact hg) | (show _ = iU (y.2 22) t9.toNat _ k.toNat; rw [iU_n (by omega)]; exact hg) | (exfalso; omega)) (by omega) (by omega) (by omega) (by omega) (by omega) (by omega) (by first | omega | (exfalso; omega))
                  · rw [if_neg c_263]
                    exact ih.2.2.2.1 (aU (aU (aU (aU (y) 19 ((((4 : Int)) * (g)) + (z)).toNat (((y).2 18) ((((4 : Int)) * (g)) + (z)).toNat)) 20 (((y).2 18) ((((4 : Int)) * (g)) + (z)).toNat).toNat ((0 : Int))) 21 (((y).2 18) ((((4 : Int)) * (g)) + (z)).toNat).toNat (((y).2 21) (((y).2 18) ((((4 : Int)) * (g)) + (z)).toNat).toNat)) 22 (t9).toNat (((y).2 18) ((((4 : Int)) * (g)) + (z)).toNat)) ((t9) + (1 : Int)) (k) (g) ((z) + (1 : Int)) (by first | (exfalso; omega) | exact pC_push pr pc hg k0 k1 z0 (by omega) rfl (by omega) (by first | (rw [if_pos (by omega)]; done) | (rw [if_neg (by omega)]; done)) (by first | (rw [iU_s, if_pos (by assumption)]; done) | (rw [if_neg (by assumption)]; done))) (by first | exact hg | rfl | (rw [yU_s, iU_n (by omega)]; exact hg) | (show _ = y.2 22 k.toNat; exact hg) | (show _ = iU (y.2 22) t9.toNat _ k.toNat; rw [iU_n (by omega)]; exact hg) | (exfalso; omega)) (by omega) (by omega) (by omega) (by omega) (by omega) (by omega) (by first | omega | (exfalso; omega))
                · rw [if_neg c_238]
                  have ce := pC_e pr pc hg k0 k1 z0 (by omega) (by assumption)
                  by_cases c_263 : (((y).2 21) (((y).2 18) ((((4 : Int)) * (g)) + (z)).toNat).toNat) = ((-9 : Int))
                  · rw [if_pos c_263]
                    exact ih.2.2.2.1 (aU (aU (aU (aU (y) 19 ((((4 : Int)) * (g)) + (z)).toNat (((y).2 18) ((((4 : Int)) * (g)) + (z)).toNat)) 20 (((y).2 18) ((((4 : Int)) * (g)) + (z)).toNat).toNat (((y).2 19) ((((4 : Int)) * (((y).2 20) (g).toNat)) + (z)).toNat)) 21 (((y).2 18) ((((4 : Int)) * (g)) + (z)).toNat).toNat (((y).2 21) ((iU ((y).2 20) (((y).2 18) ((((4 : Int)) * (g)) + (z)).toNat).toNat (((y).2 19) ((((4 : Int)) * (((y).2 20) (g).toNat)) + (z)).toNat)) (((y).2 18) ((((4 : Int)) * (g)) + (z)).toNat).toNat).toNat)) 22 (t9).toNat (((y).2 18) ((((4 : Int)) * (g)) + (z)).toNat)) ((t9) + (1 : Int)) (k) (g) ((z) + (1 : Int)) (by first | (exfalso; omega) | exact pC_push pr pc hg k0 k1 z0 (by omega) rfl (by omega) (by first | (rw [if_pos (by omega)]; done) | (rw [if_neg (by omega)]; done)) (by first | (rw [iU_s, if_pos (by assumption)]; done) | (rw [if_neg (by assumption)]; done))) (by first | exact hg | rfl | (rw [yU_s, iU_n (by omega)]; exact hg) | (show _ = y.2 22 k.toNat; exact hg) | (show _ = iU (y.2 22) t9.toNat _ k.toNat; rw [iU_n (by omega)]; exact hg) | (exfalso; omega)) (by omega) (by omega) (by omega) (by omega) (by omega) (by omega) (by first | omega | (exfalso; omega))
                  · rw [if_neg c_263]
                    exact ih.2.2.2.1 (aU (aU (aU (aU (y) 19 ((((4 : Int)) * (g)) + (z)).toNat (((y).2 18) ((((4 : Int)) * (g)) + (z)).toNat)) 20 (((y).2 18) ((((4 : Int)) * (g)) + (z)).toNat).toNat (((y).2 19) ((((4 : Int)) * (((y).2 20) (g).toNat)) + (z)).toNat)) 21 (((y).2 18) ((((4 : Int)) * (g)) + (z)).toNat).toNat (((y).2 21) (((y).2 18) ((((4 : Int)) * (g)) + (z)).toNat).toNat)) 22 (t9).toNat (((y).2 18) ((((4 : Int)) * (g)) + (z)).toNat)) ((t9) + (1 : Int)) (k) (g) ((z) + (1 : Int)) (by first | (exfalso; omega) | exact pC_push pr pc hg k0 k1 z0 (by omega) rfl (by omega) (by first | (rw [if_pos (by omega)]; done) | (rw [if_neg (by omega)]; done)) (by first | (rw [iU_s, if_pos (by assumption)]; done) | (rw [if_neg (by assumption)]; done))) (by first | exact hg | rfl | (rw [yU_s, iU_n (by omega)]; exact hg) | (show _ = y.2 22 k.toNat; exact hg) | (show _ = iU (y.2 22) t9.toNat _ k.toNat; rw [iU_n (by omega)]; exact hg) | (exfalso; omega)) (by omega) (by omega) (by omega) (by omega) (by omega) (by omega) (by first | omega | (exfalso; omega))
      · intro y k ps k0 kN k8 fu
        rw [F_m_plant_e4]
        obtain ⟨⟨N9, S9, n17, n80, kN9, e24, sK, oN⟩, el⟩ := pS_b ps
        by_cases c_324 : ((y).1 17) ≤ (k)
        · rw [if_pos c_324]
          exact pS_end ps k0 kN c_324
        · rw [if_neg c_324]
          have ok9 := oN k.toNat (by omega)
          by_cases c_337 : (((y).2 22) (k).toNat) = (0)
          · rw [if_pos c_337]
            exact ih.2.2.2.2.2 (y) (k) (((y).2 22) (k).toNat) ((1 : Int)) ((0 : Int)) (ps) (by omega) (by omega) (by first | exact hg | rfl) (by first | exact (bgb_s (by omega) z0 hbz).1 (by assumption) | exact (bgb_s (by omega) z0 hbz).2.1 (by omega) (by assumption) | exact (bgb_s (by omega) z0 hbz).2.2 (by omega) (by assumption) | exact (bgb_0 (by omega)).1 (by assumption) | exact (bgb_0 (by omega)).2 (by assumption)) (by omega) (by omega) (by omega) (by omega)
          · rw [if_neg c_337]
            exact ih.2.2.2.2.2 (y) (k) (((y).2 22) (k).toNat) ((0 : Int)) ((0 : Int)) (ps) (by omega) (by omega) (by first | exact hg | rfl) (by first | exact (bgb_s (by omega) z0 hbz).1 (by assumption) | exact (bgb_s (by omega) z0 hbz).2.1 (by omega) (by assumption) | exact (bgb_s (by omega) z0 hbz).2.2 (by omega) (by assumption) | exact (bgb_0 (by omega)).1 (by assumption) | exact (bgb_0 (by omega)).2 (by assumption)) (by omega) (by omega) (by omega) (by omega)
      · intro y k g b z ps k0 k1 hg hbz z0 z1 k8 fu
        rw [F_m_plant_e5]
        obtain ⟨⟨N9, S9, n17, n80, kN9, e24, sK, oN⟩, el⟩ := pS_b ps
        have ok9 := oN k.toNat (by omega)
        have b01 : b = 0 ∨ b = 1 := by rcases hbz with h9 | h9; exact Or.inr h9.1; exact Or.inl h9.1
        by_cases c_356 : ((y).1 0) ≤ (z)
        · rw [if_pos c_356]
          by_cases c_405 : (b) = (0)
          · rw [if_pos c_405]
            exact ih.2.2.2.2.1 (aU (y) 23 (g).toNat ((-9 : Int))) ((k) + (1 : Int)) (pS_not ps k0 k1 hg (by rcases hbz with h9 | h9; (exfalso; omega); (have ez : z.toNat = (x.1 0).toNat := by omega); rw [← ez]; exact h9.2)) (by omega) (by show _ ≤ y.1 17; omega) (by omega) (by omega)
          · rw [if_neg c_405]
            exact ih.2.2.2.2.1 (sU (aU (aU (aU (y) 23 (g).toNat ((-9 : Int))) 23 (g).toNat ((y).1 24)) 25 ((y).1 24).toNat (g)) 24 (((y).1 24) + ((1 : Int)))) ((k) + (1 : Int)) (pS_yes ps k0 k1 hg (by rcases hbz with h9 | h9; (have ez : z.toNat = (x.1 0).toNat := by omega); (rw [← ez]; exact h9.2); (exfalso; omega))) (by omega) (by show _ ≤ y.1 17; omega) (by omega) (by omega)
        · rw [if_neg c_356]
          by_cases c_361 : (b) = (0)
          · rw [if_pos c_361]
            have sc := pS_c pr ps k0 k1 hg z0 (by omega)
            by_cases c_378 : (((y).2 18) ((((4 : Int)) * (g)) + (z)).toNat) = ((-9 : Int))
            · rw [if_pos c_378]
              exact ih.2.2.2.2.2 (y) (k) (g) ((0 : Int)) ((z) + (1 : Int)) (ps) (by omega) (by omega) (by first | exact hg | rfl) (by first | exact (bgb_s (by omega) z0 hbz).1 (by assumption) | exact (bgb_s (by omega) z0 hbz).2.1 (by omega) (by assumption) | exact (bgb_s (by omega) z0 hbz).2.2 (by omega) (by assumption) | exact (bgb_0 (by omega)).1 (by assumption) | exact (bgb_0 (by omega)).2 (by assumption)) (by omega) (by omega) (by omega) (by omega)
            · rw [if_neg c_378]
              exact ih.2.2.2.2.2 (y) (k) (g) ((1 : Int)) ((z) + (1 : Int)) (ps) (by omega) (by omega) (by first | exact hg | rfl) (by first | exact (bgb_s (by omega) z0 hbz).1 (by assumption) | exact (bgb_s (by omega) z0 hbz).2.1 (by omega) (by assumption) | exact (bgb_s (by omega) z0 hbz).2.2 (by omega) (by assumption) | exact (bgb_0 (by omega)).1 (by assumption) | exact (bgb_0 (by omega)).2 (by assumption)) (by omega) (by omega) (by omega) (by omega)
          · rw [if_neg c_361]
            exact ih.2.2.2.2.2 (y) (k) (g) ((1 : Int)) ((z) + (1 : Int)) (ps) (by omega) (by omega) (by first | exact hg | rfl) (by first | exact (bgb_s (by omega) z0 hbz).1 (by assumption) | exact (bgb_s (by omega) z0 hbz).2.1 (by omega) (by assumption) | exact (bgb_s (by omega) z0 hbz).2.2 (by omega) (by assumption) | exact (bgb_0 (by omega)).1 (by assumption) | exact (bgb_0 (by omega)).2 (by assumption)) (by omega) (by omega) (by omega) (by omega)
  unfold F_m_plant
  exact (L (100000)).1 ((F_m_newNode (sU (x) 17 ((0 : Int)))).2) ((0 : Int)) (pA_0 x) (by omega) (by omega) (by omega) (by omega)
