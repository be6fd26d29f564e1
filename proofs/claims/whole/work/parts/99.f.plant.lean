-- deps: 99.e
/-- an end noted at a node names a RULE -/
theorem pC_e {x y : MS} (pr : plR x) {k z t9 g : Int} (h : pC x y k.toNat z.toNat t9.toNat) (hg : g = y.2 22 k.toNat) (k0 : 0 ≤ k) (k1 : k < t9) (z0 : 0 ≤ z) (z1 : z < x.1 0) (hC : ¬ y.2 18 (4 * g + z).toNat = -9) : y.2 21 (y.2 18 (4 * g + z).toNat).toNat = -9 ∨ (0 ≤ y.2 21 (y.2 18 (4 * g + z).toNat).toNat ∧ y.2 21 (y.2 18 (4 * g + z).toNat).toNat < 40) := by
  obtain ⟨f, str, N, e, b, K, q, gg, bb, ff⟩ := h
  have hk : k.toNat < t9.toNat := by omega
  have og := q.2.2.1 k.toNat hk
  have r40 := pr.1.2
  have l4 := pr.2.1.2
  have en : (4 * g + z).toNat = 4 * g.toNat + z.toNat := by omega
  rw [en] at hC ⊢
  obtain hc | ⟨c, c0, c1, ec, _⟩ := K.1.2.2.1 g.toNat z.toNat (by omega) (by omega)
  · exact absurd hc hC
  · rw [ec, Int.toNat_natCast]
    by_cases hj : ∃ j, j < t9.toNat ∧ y.2 22 j = (c : Int)
    · obtain ⟨j, j1, ej⟩ := hj
      have h9 := ff.1 j j1
      rw [ej, Int.toNat_natCast] at h9
      rcases h9 with ⟨h1, _⟩ | ⟨r, h1, h2, _⟩
      · exact Or.inl h1
      · exact Or.inr (by omega)
    · have h9 := ff.2 c c1 (fun j j1 ej => hj ⟨j, j1, ej⟩)
      rcases h9 with ⟨h1, _⟩ | ⟨r, h1, h2, _⟩
      · exact Or.inl h1
      · exact Or.inr (by omega)
theorem pS_c {x y : MS} (pr : plR x) {k z g : Int} (h : pS x y k.toNat) (k0 : 0 ≤ k) (k1 : k < y.1 17) (hg : g = y.2 22 k.toNat) (z0 : 0 ≤ z) (z1 : z < x.1 0) : y.2 18 (4 * g + z).toNat = -9 ∨ (0 < y.2 18 (4 * g + z).toNat ∧ y.2 18 (4 * g + z).toNat < 801) := by
  obtain ⟨f, str, N, ⟨e, b, K, q, _⟩, kN, _⟩ := h
  have og := q.2.2.1 k.toNat (by omega)
  have l4 := pr.2.1.2
  have en : (4 * g + z).toNat = 4 * g.toNat + z.toNat := by omega
  rw [en]
  obtain hc | ⟨c, c0, c1, ec, _⟩ := K.1.2.2.1 g.toNat z.toNat (by omega) (by omega)
  · exact Or.inl hc
  · rw [ec]; exact Or.inr (by omega)
def F_m_plant_s : Nat → Nat → MS → Int → Int → Int → Int → Int × MS
  | 0, _, x, _, _, _, _ => (0, x)
  | n + 1, t, x, p0, p1, p2, p3 => match t with
    | 0 => (fun (d : Int) => (if ((x).1 12) ≤ (d) then F_m_plant_s n 2 (aU (aU (x) 22 ((0 : Int)).toNat ((0 : Int))) 20 ((0 : Int)).toNat ((0 : Int))) ((1 : Int)) ((0 : Int)) (0) (0) else F_m_plant_s n 1 (x) (d) ((0 : Int)) ((0 : Int)) (0))) p0
    | 1 => (fun (d : Int) (g : Int) (i : Int) => (if (((x).2 13) (d).toNat) ≤ (i) then F_m_plant_s n 0 (aU (x) 21 (g).toNat (d)) ((d) + (1 : Int)) (0) (0) (0) else (if (((x).2 18) ((((4 : Int)) * (g)) + (((x).2 14) ((((24 : Int)) * (d)) + (i)).toNat)).toNat) = ((-9 : Int)) then F_m_plant_s n 1 (aU ((F_m_newNode (x)).2) 18 ((((4 : Int)) * (g)) + (((x).2 14) ((((24 : Int)) * (d)) + (i)).toNat)).toNat ((F_m_newNode (x)).1)) (d) ((iU (((F_m_newNode (x)).2).2 18) ((((4 : Int)) * (g)) + (((x).2 14) ((((24 : Int)) * (d)) + (i)).toNat)).toNat ((F_m_newNode (x)).1)) ((((4 : Int)) * (g)) + (((x).2 14) ((((24 : Int)) * (d)) + (i)).toNat)).toNat) ((i) + (1 : Int)) (0) else F_m_plant_s n 1 (x) (d) (((x).2 18) ((((4 : Int)) * (g)) + (((x).2 14) ((((24 : Int)) * (d)) + (i)).toNat)).toNat) ((i) + (1 : Int)) (0)))) p0 p1 p2
    | 2 => (fun (t9 : Int) (k : Int) => (if (t9) ≤ (k) then F_m_plant_s n 4 (sU (x) 24 ((0 : Int))) ((0 : Int)) (0) (0) (0) else F_m_plant_s n 3 (x) (t9) (k) (((x).2 22) (k).toNat) ((0 : Int)))) p0 p1
    | 3 => (fun (t9 : Int) (k : Int) (g : Int) (z : Int) => (if ((x).1 0) ≤ (z) then F_m_plant_s n 2 (x) (t9) ((k) + (1 : Int)) (0) (0) else (if (g) = (0) then (if (((x).2 18) ((((4 : Int)) * (g)) + (z)).toNat) = ((-9 : Int)) then (if (((x).2 18) ((((4 : Int)) * (g)) + (z)).toNat) = ((-9 : Int)) then F_m_plant_s n 3 (aU (x) 19 ((((4 : Int)) * (g)) + (z)).toNat ((0 : Int))) (t9) (k) (g) ((z) + (1 : Int)) else (if (g) = (0) then (if (((x).2 21) (((x).2 18) ((((4 : Int)) * (g)) + (z)).toNat).toNat) = ((-9 : Int)) then F_m_plant_s n 3 (aU (aU (aU (aU (x) 19 ((((4 : Int)) * (g)) + (z)).toNat ((0 : Int))) 20 (((x).2 18) ((((4 : Int)) * (g)) + (z)).toNat).toNat ((0 : Int))) 21 (((x).2 18) ((((4 : Int)) * (g)) + (z)).toNat).toNat (((x).2 21) ((iU ((x).2 20) (((x).2 18) ((((4 : Int)) * (g)) + (z)).toNat).toNat ((0 : Int))) (((x).2 18) ((((4 : Int)) * (g)) + (z)).toNat).toNat).toNat)) 22 (t9).toNat (((x).2 18) ((((4 : Int)) * (g)) + (z)).toNat)) ((t9) + (1 : Int)) (k) (g) ((z) + (1 : Int)) else F_m_plant_s n 3 (aU (aU (aU (aU (x) 19 ((((4 : Int)) * (g)) + (z)).toNat ((0 : Int))) 20 (((x).2 18) ((((4 : Int)) * (g)) + (z)).toNat).toNat ((0 : Int))) 21 (((x).2 18) ((((4 : Int)) * (g)) + (z)).toNat).toNat (((x).2 21) (((x).2 18) ((((4 : Int)) * (g)) + (z)).toNat).toNat)) 22 (t9).toNat (((x).2 18) ((((4 : Int)) * (g)) + (z)).toNat)) ((t9) + (1 : Int)) (k) (g) ((z) + (1 : Int))) else (if (((x).2 21) (((x).2 18) ((((4 : Int)) * (g)) + (z)).toNat).toNat) = ((-9 : Int)) then F_m_plant_s n 3 (aU (aU (aU (aU (x) 19 ((((4 : Int)) * (g)) + (z)).toNat ((0 : Int))) 20 (((x).2 18) ((((4 : Int)) * (g)) + (z)).toNat).toNat ((0 : Int))) 21 (((x).2 18) ((((4 : Int)) * (g)) + (z)).toNat).toNat (((x).2 21) ((iU ((x).2 20) (((x).2 18) ((((4 : Int)) * (g)) + (z)).toNat).toNat ((0 : Int))) (((x).2 18) ((((4 : Int)) * (g)) + (z)).toNat).toNat).toNat)) 22 (t9).toNat (((x).2 18) ((((4 : Int)) * (g)) + (z)).toNat)) ((t9) + (1 : Int)) (k) (g) ((z) + (1 : Int)) else F_m_plant_s n 3 (aU (aU (aU (aU (x) 19 ((((4 : Int)) * (g)) + (z)).toNat ((0 : Int))) 20 (((x).2 18) ((((4 : Int)) * (g)) + (z)).toNat).toNat ((0 : Int))) 21 (((x).2 18) ((((4 : Int)) * (g)) + (z)).toNat).toNat (((x).2 21) (((x).2 18) ((((4 : Int)) * (g)) + (z)).toNat).toNat)) 22 (t9).toNat (((x).2 18) ((((4 : Int)) * (g)) + (z)).toNat)) ((t9) + (1 : Int)) (k) (g) ((z) + (1 : Int))))) else (if (((x).2 18) ((((4 : Int)) * (g)) + (z)).toNat) = ((-9 : Int)) then F_m_plant_s n 3 (aU (x) 19 ((((4 : Int)) * (g)) + (z)).toNat (((x).2 18) ((((4 : Int)) * (g)) + (z)).toNat)) (t9) (k) (g) ((z) + (1 : Int)) else (if (g) = (0) then (if (((x).2 21) (((x).2 18) ((((4 : Int)) * (g)) + (z)).toNat).toNat) = ((-9 : Int)) then F_m_plant_s n 3 (aU (aU (aU (aU (x) 19 ((((4 : Int)) * (g)) + (z)).toNat (((x).2 18) ((((4 : Int)) * (g)) + (z)).toNat)) 20 (((x).2 18) ((((4 : Int)) * (g)) + (z)).toNat).toNat ((0 : Int))) 21 (((x).2 18) ((((4 : Int)) * (g)) + (z)).toNat).toNat (((x).2 21) ((iU ((x).2 20) (((x).2 18) ((((4 : Int)) * (g)) + (z)).toNat).toNat ((0 : Int))) (((x).2 18) ((((4 : Int)) * (g)) + (z)).toNat).toNat).toNat)) 22 (t9).toNat (((x).2 18) ((((4 : Int)) * (g)) + (z)).toNat)) ((t9) + (1 : Int)) (k) (g) ((z) + (1 : Int)) else F_m_plant_s n 3 (aU (aU (aU (aU (x) 19 ((((4 : Int)) * (g)) + (z)).toNat (((x).2 18) ((((4 : Int)) * (g)) + (z)).toNat)) 20 (((x).2 18) ((((4 : Int)) * (g)) + (z)).toNat).toNat ((0 : Int))) 21 (((x).2 18) ((((4 : Int)) * (g)) + (z)).toNat).toNat (((x).2 21) (((x).2 18) ((((4 : Int)) * (g)) + (z)).toNat).toNat)) 22 (t9).toNat (((x).2 18) ((((4 : Int)) * (g)) + (z)).toNat)) ((t9) + (1 : Int)) (k) (g) ((z) + (1 : Int))) else (if (((x).2 21) (((x).2 18) ((((4 : Int)) * (g)) + (z)).toNat).toNat) = ((-9 : Int)) then F_m_plant_s n 3 (aU (aU (aU (aU (x) 19 ((((4 : Int)) * (g)) + (z)).toNat (((x).2 18) ((((4 : Int)) * (g)) + (z)).toNat)) 20 (((x).2 18) ((((4 : Int)) * (g)) + (z)).toNat).toNat ((0 : Int))) 21 (((x).2 18) ((((4 : Int)) * (g)) + (z)).toNat).toNat (((x).2 21) ((iU ((x).2 20) (((x).2 18) ((((4 : Int)) * (g)) + (z)).toNat).toNat ((0 : Int))) (((x).2 18) ((((4 : Int)) * (g)) + (z)).toNat).toNat).toNat)) 22 (t9).toNat (((x).2 18) ((((4 : Int)) * (g)) + (z)).toNat)) ((t9) + (1 : Int)) (k) (g) ((z) + (1 : Int)) else F_m_plant_s n 3 (aU (aU (aU (aU (x) 19 ((((4 : Int)) * (g)) + (z)).toNat (((x).2 18) ((((4 : Int)) * (g)) + (z)).toNat)) 20 (((x).2 18) ((((4 : Int)) * (g)) + (z)).toNat).toNat ((0 : Int))) 21 (((x).2 18) ((((4 : Int)) * (g)) + (z)).toNat).toNat (((x).2 21) (((x).2 18) ((((4 : Int)) * (g)) + (z)).toNat).toNat)) 22 (t9).toNat (((x).2 18) ((((4 : Int)) * (g)) + (z)).toNat)) ((t9) + (1 : Int)) (k) (g) ((z) + (1 : Int)))))) else (if (((x).2 18) ((((4 : Int)) * (g)) + (z)).toNat) = ((-9 : Int)) then (if (((x).2 18) ((((4 : Int)) * (g)) + (z)).toNat) = ((-9 : Int)) then F_m_plant_s n 3 (aU (x) 19 ((((4 : Int)) * (g)) + (z)).toNat (((x).2 19) ((((4 : Int)) * (((x).2 20) (g).toNat)) + (z)).toNat)) (t9) (k) (g) ((z) + (1 : Int)) else (if (g) = (0) then (if (((x).2 21) (((x).2 18) ((((4 : Int)) * (g)) + (z)).toNat).toNat) = ((-9 : Int)) then F_m_plant_s n 3 (aU (aU (aU (aU (x) 19 ((((4 : Int)) * (g)) + (z)).toNat (((x).2 19) ((((4 : Int)) * (((x).2 20) (g).toNat)) + (z)).toNat)) 20 (((x).2 18) ((((4 : Int)) * (g)) + (z)).toNat).toNat ((0 : Int))) 21 (((x).2 18) ((((4 : Int)) * (g)) + (z)).toNat).toNat (((x).2 21) ((iU ((x).2 20) (((x).2 18) ((((4 : Int)) * (g)) + (z)).toNat).toNat ((0 : Int))) (((x).2 18) ((((4 : Int)) * (g)) + (z)).toNat).toNat).toNat)) 22 (t9).toNat (((x).2 18) ((((4 : Int)) * (g)) + (z)).toNat)) ((t9) + (1 : Int)) (k) (g) ((z) + (1 : Int)) else F_m_plant_s n 3 (aU (aU (aU (aU (x) 19 ((((4 : Int)) * (g)) + (z)).toNat (((x).2 19) ((((4 : Int)) * (((x).2 20) (g).toNat)) + (z)).toNat)) 20 (((x).2 18) ((((4 : Int)) * (g)) + (z)).toNat).toNat ((0 : Int))) 21 (((x).2 18) ((((4 : Int)) * (g)) + (z)).toNat).toNat (((x).2 21) (((x).2 18) ((((4 : Int)) * (g)) + (z)).toNat).toNat)) 22 (t9).toNat (((x).2 18) ((((4 : Int)) * (g)) + (z)).toNat)) ((t9) + (1 : Int)) (k) (g) ((z) + (1 : Int))) else (if (((x).2 21) (((x).2 18) ((((4 : Int)) * (g)) + (z)).toNat).toNat) = ((-9 : Int)) then F_m_plant_s n 3 (aU (aU (aU (aU (x) 19 ((((4 : Int)) * (g)) + (z)).toNat (((x).2 19) ((((4 : Int)) * (((x).2 20) (g).toNat)) + (z)).toNat)) 20 (((x).2 18) ((((4 : Int)) * (g)) + (z)).toNat).toNat (((x).2 19) ((((4 : Int)) * (((x).2 20) (g).toNat)) + (z)).toNat)) 21 (((x).2 18) ((((4 : Int)) * (g)) + (z)).toNat).toNat (((x).2 21) ((iU ((x).2 20) (((x).2 18) ((((4 : Int)) * (g)) + (z)).toNat).toNat (((x).2 19) ((((4 : Int)) * (((x).2 20) (g).toNat)) + (z)).toNat)) (((x).2 18) ((((4 : Int)) * (g)) + (z)).toNat).toNat).toNat)) 22 (t9).toNat (((x).2 18) ((((4 : Int)) * (g)) + (z)).toNat)) ((t9) + (1 : Int)) (k) (g) ((z) + (1 : Int)) else F_m_plant_s n 3 (aU (aU (aU (aU (x) 19 ((((4 : Int)) * (g)) + (z)).toNat (((x).2 19) ((((4 : Int)) * (((x).2 20) (g).toNat)) + (z)).toNat)) 20 (((x).2 18) ((((4 : Int)) * (g)) + (z)).toNat).toNat (((x).2 19) ((((4 : Int)) * (((x).2 20) (g).toNat)) + (z)).toNat)) 21 (((x).2 18) ((((4 : Int)) * (g)) + (z)).toNat).toNat (((x).2 21) (((x).2 18) ((((4 : Int)) * (g)) + (z)).toNat).toNat)) 22 (t9).toNat (((x).2 18) ((((4 : Int)) * (g)) + (z)).toNat)) ((t9) + (1 : Int)) (k) (g) ((z) + (1 : Int))))) else (if (((x).2 18) ((((4 : Int)) * (g)) + (z)).toNat) = ((-9 : Int)) then F_m_plant_s n 3 (aU (x) 19 ((((4 : Int)) * (g)) + (z)).toNat (((x).2 18) ((((4 : Int)) * (g)) + (z)).toNat)) (t9) (k) (g) ((z) + (1 : Int)) else (if (g) = (0) then (if (((x).2 21) (((x).2 18) ((((4 : Int)) * (g)) + (z)).toNat).toNat) = ((-9 : Int)) then F_m_plant_s n 3 (aU (aU (aU (aU (x) 19 ((((4 : Int)) * (g)) + (z)).toNat (((x).2 18) ((((4 : Int)) * (g)) + (z)).toNat)) 20 (((x).2 18) ((((4 : Int)) * (g)) + (z)).toNat).toNat ((0 : Int))) 21 (((x).2 18) ((((4 : Int)) * (g)) + (z)).toNat).toNat (((x).2 21) ((iU ((x).2 20) (((x).2 18) ((((4 : Int)) * (g)) + (z)).toNat).toNat ((0 : Int))) (((x).2 18) ((((4 : Int)) * (g)) + (z)).toNat).toNat).toNat)) 22 (t9).toNat (((x).2 18) ((((4 : Int)) * (g)) + (z)).toNat)) ((t9) + (1 : Int)) (k) (g) ((z) + (1 : Int)) else F_m_plant_s n 3 (aU (aU (aU (aU (x) 19 ((((4 : Int)) * (g)) + (z)).toNat (((x).2 18) ((((4 : Int)) * (g)) + (z)).toNat)) 20 (((x).2 18) ((((4 : Int)) * (g)) + (z)).toNat).toNat ((0 : Int))) 21 (((x).2 18) ((((4 : Int)) * (g)) + (z)).toNat).toNat (((x).2 21) (((x).2 18) ((((4 : Int)) * (g)) + (z)).toNat).toNat)) 22 (t9).toNat (((x).2 18) ((((4 : Int)) * (g)) + (z)).toNat)) ((t9) + (1 : Int)) (k) (g) ((z) + (1 : Int))) else (if (((x).2 21) (((x).2 18) ((((4 : Int)) * (g)) + (z)).toNat).toNat) = ((-9 : Int)) then F_m_plant_s n 3 (aU (aU (aU (aU (x) 19 ((((4 : Int)) * (g)) + (z)).toNat (((x).2 18) ((((4 : Int)) * (g)) + (z)).toNat)) 20 (((x).2 18) ((((4 : Int)) * (g)) + (z)).toNat).toNat (((x).2 19) ((((4 : Int)) * (((x).2 20) (g).toNat)) + (z)).toNat)) 21 (((x).2 18) ((((4 : Int)) * (g)) + (z)).toNat).toNat (((x).2 21) ((iU ((x).2 20) (((x).2 18) ((((4 : Int)) * (g)) + (z)).toNat).toNat (((x).2 19) ((((4 : Int)) * (((x).2 20) (g).toNat)) + (z)).toNat)) (((x).2 18) ((((4 : Int)) * (g)) + (z)).toNat).toNat).toNat)) 22 (t9).toNat (((x).2 18) ((((4 : Int)) * (g)) + (z)).toNat)) ((t9) + (1 : Int)) (k) (g) ((z) + (1 : Int)) else F_m_plant_s n 3 (aU (aU (aU (aU (x) 19 ((((4 : Int)) * (g)) + (z)).toNat (((x).2 18) ((((4 : Int)) * (g)) + (z)).toNat)) 20 (((x).2 18) ((((4 : Int)) * (g)) + (z)).toNat).toNat (((x).2 19) ((((4 : Int)) * (((x).2 20) (g).toNat)) + (z)).toNat)) 21 (((x).2 18) ((((4 : Int)) * (g)) + (z)).toNat).toNat (((x).2 21) (((x).2 18) ((((4 : Int)) * (g)) + (z)).toNat).toNat)) 22 (t9).toNat (((x).2 18) ((((4 : Int)) * (g)) + (z)).toNat)) ((t9) + (1 : Int)) (k) (g) ((z) + (1 : Int))))))))) p0 p1 p2 p3
    | 4 => (fun (k : Int) => (if ((x).1 17) ≤ (k) then (0, x) else (if (((x).2 22) (k).toNat) = (0) then F_m_plant_s n 5 (x) (k) (((x).2 22) (k).toNat) ((1 : Int)) ((0 : Int)) else F_m_plant_s n 5 (x) (k) (((x).2 22) (k).toNat) ((0 : Int)) ((0 : Int))))) p0
    | 5 => (fun (k : Int) (g : Int) (b : Int) (z : Int) => (if ((x).1 0) ≤ (z) then (if (b) = (0) then F_m_plant_s n 4 (aU (x) 23 (g).toNat ((-9 : Int))) ((k) + (1 : Int)) (0) (0) (0) else F_m_plant_s n 4 (sU (aU (aU (aU (x) 23 (g).toNat ((-9 : Int))) 23 (g).toNat ((x).1 24)) 25 ((x).1 24).toNat (g)) 24 (((x).1 24) + ((1 : Int)))) ((k) + (1 : Int)) (0) (0) (0)) else (if (b) = (0) then (if (((x).2 18) ((((4 : Int)) * (g)) + (z)).toNat) = ((-9 : Int)) then F_m_plant_s n 5 (x) (k) (g) ((0 : Int)) ((z) + (1 : Int)) else F_m_plant_s n 5 (x) (k) (g) ((1 : Int)) ((z) + (1 : Int))) else F_m_plant_s n 5 (x) (k) (g) ((1 : Int)) ((z) + (1 : Int))))) p0 p1 p2 p3
    | _ => (0, x)
theorem F_m_plant_e0 (n : Nat) (x : MS) (d : Int) (q0 : Int) (q1 : Int) (q2 : Int) : F_m_plant_s (n + 1) 0 x d q0 q1 q2 = (if ((x).1 12) ≤ (d) then F_m_plant_s n 2 (aU (aU (x) 22 ((0 : Int)).toNat ((0 : Int))) 20 ((0 : Int)).toNat ((0 : Int))) ((1 : Int)) ((0 : Int)) (0) (0) else F_m_plant_s n 1 (x) (d) ((0 : Int)) ((0 : Int)) (0)) := rfl
theorem F_m_plant_e1 (n : Nat) (x : MS) (d : Int) (g : Int) (i : Int) (q0 : Int) : F_m_plant_s (n + 1) 1 x d g i q0 = (if (((x).2 13) (d).toNat) ≤ (i) then F_m_plant_s n 0 (aU (x) 21 (g).toNat (d)) ((d) + (1 : Int)) (0) (0) (0) else (if (((x).2 18) ((((4 : Int)) * (g)) + (((x).2 14) ((((24 : Int)) * (d)) + (i)).toNat)).toNat) = ((-9 : Int)) then F_m_plant_s n 1 (aU ((F_m_newNode (x)).2) 18 ((((4 : Int)) * (g)) + (((x).2 14) ((((24 : Int)) * (d)) + (i)).toNat)).toNat ((F_m_newNode (x)).1)) (d) ((iU (((F_m_newNode (x)).2).2 18) ((((4 : Int)) * (g)) + (((x).2 14) ((((24 : Int)) * (d)) + (i)).toNat)).toNat ((F_m_newNode (x)).1)) ((((4 : Int)) * (g)) + (((x).2 14) ((((24 : Int)) * (d)) + (i)).toNat)).toNat) ((i) + (1 : Int)) (0) else F_m_plant_s n 1 (x) (d) (((x).2 18) ((((4 : Int)) * (g)) + (((x).2 14) ((((24 : Int)) * (d)) + (i)).toNat)).toNat) ((i) + (1 : Int)) (0))) := rfl
theorem F_m_plant_e2 (n : Nat) (x : MS) (t9 : Int) (k : Int) (q0 : Int) (q1 : Int) : F_m_plant_s (n + 1) 2 x t9 k q0 q1 = (if (t9) ≤ (k) then F_m_plant_s n 4 (sU (x) 24 ((0 : Int))) ((0 : Int)) (0) (0) (0) else F_m_plant_s n 3 (x) (t9) (k) (((x).2 22) (k).toNat) ((0 : Int))) := rfl
theorem F_m_plant_e3 (n : Nat) (x : MS) (t9 : Int) (k : Int) (g : Int) (z : Int) : F_m_plant_s (n + 1) 3 x t9 k g z = (if ((x).1 0) ≤ (z) then F_m_plant_s n 2 (x) (t9) ((k) + (1 : Int)) (0) (0) else (if (g) = (0) then (if (((x).2 18) ((((4 : Int)) * (g)) + (z)).toNat) = ((-9 : Int)) then (if (((x).2 18) ((((4 : Int)) * (g)) + (z)).toNat) = ((-9 : Int)) then F_m_plant_s n 3 (aU (x) 19 ((((4 : Int)) * (g)) + (z)).toNat ((0 : Int))) (t9) (k) (g) ((z) + (1 : Int)) else (if (g) = (0) then (if (((x).2 21) (((x).2 18) ((((4 : Int)) * (g)) + (z)).toNat).toNat) = ((-9 : Int)) then F_m_plant_s n 3 (aU (aU (aU (aU (x) 19 ((((4 : Int)) * (g)) + (z)).toNat ((0 : Int))) 20 (((x).2 18) ((((4 : Int)) * (g)) + (z)).toNat).toNat ((0 : Int))) 21 (((x).2 18) ((((4 : Int)) * (g)) + (z)).toNat).toNat (((x).2 21) ((iU ((x).2 20) (((x).2 18) ((((4 : Int)) * (g)) + (z)).toNat).toNat ((0 : Int))) (((x).2 18) ((((4 : Int)) * (g)) + (z)).toNat).toNat).toNat)) 22 (t9).toNat (((x).2 18) ((((4 : Int)) * (g)) + (z)).toNat)) ((t9) + (1 : Int)) (k) (g) ((z) + (1 : Int)) else F_m_plant_s n 3 (aU (aU (aU (aU (x) 19 ((((4 : Int)) * (g)) + (z)).toNat ((0 : Int))) 20 (((x).2 18) ((((4 : Int)) * (g)) + (z)).toNat).toNat ((0 : Int))) 21 (((x).2 18) ((((4 : Int)) * (g)) + (z)).toNat).toNat (((x).2 21) (((x).2 18) ((((4 : Int)) * (g)) + (z)).toNat).toNat)) 22 (t9).toNat (((x).2 18) ((((4 : Int)) * (g)) + (z)).toNat)) ((t9) + (1 : Int)) (k) (g) ((z) + (1 : Int))) else (if (((x).2 21) (((x).2 18) ((((4 : Int)) * (g)) + (z)).toNat).toNat) = ((-9 : Int)) then F_m_plant_s n 3 (aU (aU (aU (aU (x) 19 ((((4 : Int)) * (g)) + (z)).toNat ((0 : Int))) 20 (((x).2 18) ((((4 : Int)) * (g)) + (z)).toNat).toNat ((0 : Int))) 21 (((x).2 18) ((((4 : Int)) * (g)) + (z)).toNat).toNat (((x).2 21) ((iU ((x).2 20) (((x).2 18) ((((4 : Int)) * (g)) + (z)).toNat).toNat ((0 : Int))) (((x).2 18) ((((4 : Int)) * (g)) + (z)).toNat).toNat).toNat)) 22 (t9).toNat (((x).2 18) ((((4 : Int)) * (g)) + (z)).toNat)) ((t9) + (1 : Int)) (k) (g) ((z) + (1 : Int)) else F_m_plant_s n 3 (aU (aU (aU (aU (x) 19 ((((4 : Int)) * (g)) + (z)).toNat ((0 : Int))) 20 (((x).2 18) ((((4 : Int)) * (g)) + (z)).toNat).toNat ((0 : Int))) 21 (((x).2 18) ((((4 : Int)) * (g)) + (z)).toNat).toNat (((x).2 21) (((x).2 18) ((((4 : Int)) * (g)) + (z)).toNat).toNat)) 22 (t9).toNat (((x).2 18) ((((4 : Int)) * (g)) + (z)).toNat)) ((t9) + (1 : Int)) (k) (g) ((z) + (1 : Int))))) else (if (((x).2 18) ((((4 : Int)) * (g)) + (z)).toNat) = ((-9 : Int)) then F_m_plant_s n 3 (aU (x) 19 ((((4 : Int)) * (g)) + (z)).toNat (((x).2 18) ((((4 : Int)) * (g)) + (z)).toNat)) (t9) (k) (g) ((z) + (1 : Int)) else (if (g) = (0) then (if (((x).2 21) (((x).2 18) ((((4 : Int)) * (g)) + (z)).toNat).toNat) = ((-9 : Int)) then F_m_plant_s n 3 (aU (aU (aU (aU (x) 19 ((((4 : Int)) * (g)) + (z)).toNat (((x).2 18) ((((4 : Int)) * (g)) + (z)).toNat)) 20 (((x).2 18) ((((4 : Int)) * (g)) + (z)).toNat).toNat ((0 : Int))) 21 (((x).2 18) ((((4 : Int)) * (g)) + (z)).toNat).toNat (((x).2 21) ((iU ((x).2 20) (((x).2 18) ((((4 : Int)) * (g)) + (z)).toNat).toNat ((0 : Int))) (((x).2 18) ((((4 : Int)) * (g)) + (z)).toNat).toNat).toNat)) 22 (t9).toNat (((x).2 18) ((((4 : Int)) * (g)) + (z)).toNat)) ((t9) + (1 : Int)) (k) (g) ((z) + (1 : Int)) else F_m_plant_s n 3 (aU (aU (aU (aU (x) 19 ((((4 : Int)) * (g)) + (z)).toNat (((x).2 18) ((((4 : Int)) * (g)) + (z)).toNat)) 20 (((x).2 18) ((((4 : Int)) * (g)) + (z)).toNat).toNat ((0 : Int))) 21 (((x).2 18) ((((4 : Int)) * (g)) + (z)).toNat).toNat (((x).2 21) (((x).2 18) ((((4 : Int)) * (g)) + (z)).toNat).toNat)) 22 (t9).toNat (((x).2 18) ((((4 : Int)) * (g)) + (z)).toNat)) ((t9) + (1 : Int)) (k) (g) ((z) + (1 : Int))) else (if (((x).2 21) (((x).2 18) ((((4 : Int)) * (g)) + (z)).toNat).toNat) = ((-9 : Int)) then F_m_plant_s n 3 (aU (aU (aU (aU (x) 19 ((((4 : Int)) * (g)) + (z)).toNat (((x).2 18) ((((4 : Int)) * (g)) + (z)).toNat)) 20 (((x).2 18) ((((4 : Int)) * (g)) + (z)).toNat).toNat ((0 : Int))) 21 (((x).2 18) ((((4 : Int)) * (g)) + (z)).toNat).toNat (((x).2 21) ((iU ((x).2 20) (((x).2 18) ((((4 : Int)) * (g)) + (z)).toNat).toNat ((0 : Int))) (((x).2 18) ((((4 : Int)) * (g)) + (z)).toNat).toNat).toNat)) 22 (t9).toNat (((x).2 18) ((((4 : Int)) * (g)) + (z)).toNat)) ((t9) + (1 : Int)) (k) (g) ((z) + (1 : Int)) else F_m_plant_s n 3 (aU (aU (aU (aU (x) 19 ((((4 : Int)) * (g)) + (z)).toNat (((x).2 18) ((((4 : Int)) * (g)) + (z)).toNat)) 20 (((x).2 18) ((((4 : Int)) * (g)) + (z)).toNat).toNat ((0 : Int))) 21 (((x).2 18) ((((4 : Int)) * (g)) + (z)).toNat).toNat (((x).2 21) (((x).2 18) ((((4 : Int)) * (g)) + (z)).toNat).toNat)) 22 (t9).toNat (((x).2 18) ((((4 : Int)) * (g)) + (z)).toNat)) ((t9) + (1 : Int)) (k) (g) ((z) + (1 : Int)))))) else (if (((x).2 18) ((((4 : Int)) * (g)) + (z)).toNat) = ((-9 : Int)) then (if (((x).2 18) ((((4 : Int)) * (g)) + (z)).toNat) = ((-9 : Int)) then F_m_plant_s n 3 (aU (x) 19 ((((4 : Int)) * (g)) + (z)).toNat (((x).2 19) ((((4 : Int)) * (((x).2 20) (g).toNat)) + (z)).toNat)) (t9) (k) (g) ((z) + (1 : Int)) else (if (g) = (0) then (if (((x).2 21) (((x).2 18) ((((4 : Int)) * (g)) + (z)).toNat).toNat) = ((-9 : Int)) then F_m_plant_s n 3 (aU (aU (aU (aU (x) 19 ((((4 : Int)) * (g)) + (z)).toNat (((x).2 19) ((((4 : Int)) * (((x).2 20) (g).toNat)) + (z)).toNat)) 20 (((x).2 18) ((((4 : Int)) * (g)) + (z)).toNat).toNat ((0 : Int))) 21 (((x).2 18) ((((4 : Int)) * (g)) + (z)).toNat).toNat (((x).2 21) ((iU ((x).2 20) (((x).2 18) ((((4 : Int)) * (g)) + (z)).toNat).toNat ((0 : Int))) (((x).2 18) ((((4 : Int)) * (g)) + (z)).toNat).toNat).toNat)) 22 (t9).toNat (((x).2 18) ((((4 : Int)) * (g)) + (z)).toNat)) ((t9) + (1 : Int)) (k) (g) ((z) + (1 : Int)) else F_m_plant_s n 3 (aU (aU (aU (aU (x) 19 ((((4 : Int)) * (g)) + (z)).toNat (((x).2 19) ((((4 : Int)) * (((x).2 20) (g).toNat)) + (z)).toNat)) 20 (((x).2 18) ((((4 : Int)) * (g)) + (z)).toNat).toNat ((0 : Int))) 21 (((x).2 18) ((((4 : Int)) * (g)) + (z)).toNat).toNat (((x).2 21) (((x).2 18) ((((4 : Int)) * (g)) + (z)).toNat).toNat)) 22 (t9).toNat (((x).2 18) ((((4 : Int)) * (g)) + (z)).toNat)) ((t9) + (1 : Int)) (k) (g) ((z) + (1 : Int))) else (if (((x).2 21) (((x).2 18) ((((4 : Int)) * (g)) + (z)).toNat).toNat) = ((-9 : Int)) then F_m_plant_s n 3 (aU (aU (aU (aU (x) 19 ((((4 : Int)) * (g)) + (z)).toNat (((x).2 19) ((((4 : Int)) * (((x).2 20) (g).toNat)) + (z)).toNat)) 20 (((x).2 18) ((((4 : Int)) * (g)) + (z)).toNat).toNat (((x).2 19) ((((4 : Int)) * (((x).2 20) (g).toNat)) + (z)).toNat)) 21 (((x).2 18) ((((4 : Int)) * (g)) + (z)).toNat).toNat (((x).2 21) ((iU ((x).2 20) (((x).2 18) ((((4 : Int)) * (g)) + (z)).toNat).toNat (((x).2 19) ((((4 : Int)) * (((x).2 20) (g).toNat)) + (z)).toNat)) (((x).2 18) ((((4 : Int)) * (g)) + (z)).toNat).toNat).toNat)) 22 (t9).toNat (((x).2 18) ((((4 : Int)) * (g)) + (z)).toNat)) ((t9) + (1 : Int)) (k) (g) ((z) + (1 : Int)) else F_m_plant_s n 3 (aU (aU (aU (aU (x) 19 ((((4 : Int)) * (g)) + (z)).toNat (((x).2 19) ((((4 : Int)) * (((x).2 20) (g).toNat)) + (z)).toNat)) 20 (((x).2 18) ((((4 : Int)) * (g)) + (z)).toNat).toNat (((x).2 19) ((((4 : Int)) * (((x).2 20) (g).toNat)) + (z)).toNat)) 21 (((x).2 18) ((((4 : Int)) * (g)) + (z)).toNat).toNat (((x).2 21) (((x).2 18) ((((4 : Int)) * (g)) + (z)).toNat).toNat)) 22 (t9).toNat (((x).2 18) ((((4 : Int)) * (g)) + (z)).toNat)) ((t9) + (1 : Int)) (k) (g) ((z) + (1 : Int))))) else (if (((x).2 18) ((((4 : Int)) * (g)) + (z)).toNat) = ((-9 : Int)) then F_m_plant_s n 3 (aU (x) 19 ((((4 : Int)) * (g)) + (z)).toNat (((x).2 18) ((((4 : Int)) * (g)) + (z)).toNat)) (t9) (k) (g) ((z) + (1 : Int)) else (if (g) = (0) then (if (((x).2 21) (((x).2 18) ((((4 : Int)) * (g)) + (z)).toNat).toNat) = ((-9 : Int)) then F_m_plant_s n 3 (aU (aU (aU (aU (x) 19 ((((4 : Int)) * (g)) + (z)).toNat (((x).2 18) ((((4 : Int)) * (g)) + (z)).toNat)) 20 (((x).2 18) ((((4 : Int)) * (g)) + (z)).toNat).toNat ((0 : Int))) 21 (((x).2 18) ((((4 : Int)) * (g)) + (z)).toNat).toNat (((x).2 21) ((iU ((x).2 20) (((x).2 18) ((((4 : Int)) * (g)) + (z)).toNat).toNat ((0 : Int))) (((x).2 18) ((((4 : Int)) * (g)) + (z)).toNat).toNat).toNat)) 22 (t9).toNat (((x).2 18) ((((4 : Int)) * (g)) + (z)).toNat)) ((t9) + (1 : Int)) (k) (g) ((z) + (1 : Int)) else F_m_plant_s n 3 (aU (aU (aU (aU (x) 19 ((((4 : Int)) * (g)) + (z)).toNat (((x).2 18) ((((4 : Int)) * (g)) + (z)).toNat)) 20 (((x).2 18) ((((4 : Int)) * (g)) + (z)).toNat).toNat ((0 : Int))) 21 (((x).2 18) ((((4 : Int)) * (g)) + (z)).toNat).toNat (((x).2 21) (((x).2 18) ((((4 : Int)) * (g)) + (z)).toNat).toNat)) 22 (t9).toNat (((x).2 18) ((((4 : Int)) * (g)) + (z)).toNat)) ((t9) + (1 : Int)) (k) (g) ((z) + (1 : Int))) else (if (((x).2 21) (((x).2 18) ((((4 : Int)) * (g)) + (z)).toNat).toNat) = ((-9 : Int)) then F_m_plant_s n 3 (aU (aU (aU (aU (x) 19 ((((4 : Int)) * (g)) + (z)).toNat (((x).2 18) ((((4 : Int)) * (g)) + (z)).toNat)) 20 (((x).2 18) ((((4 : Int)) * (g)) + (z)).toNat).toNat (((x).2 19) ((((4 : Int)) * (((x).2 20) (g).toNat)) + (z)).toNat)) 21 (((x).2 18) ((((4 : Int)) * (g)) + (z)).toNat).toNat (((x).2 21) ((iU ((x).2 20) (((x).2 18) ((((4 : Int)) * (g)) + (z)).toNat).toNat (((x).2 19) ((((4 : Int)) * (((x).2 20) (g).toNat)) + (z)).toNat)) (((x).2 18) ((((4 : Int)) * (g)) + (z)).toNat).toNat).toNat)) 22 (t9).toNat (((x).2 18) ((((4 : Int)) * (g)) + (z)).toNat)) ((t9) + (1 : Int)) (k) (g) ((z) + (1 : Int)) else F_m_plant_s n 3 (aU (aU (aU (aU (x) 19 ((((4 : Int)) * (g)) + (z)).toNat (((x).2 18) ((((4 : Int)) * (g)) + (z)).toNat)) 20 (((x).2 18) ((((4 : Int)) * (g)) + (z)).toNat).toNat (((x).2 19) ((((4 : Int)) * (((x).2 20) (g).toNat)) + (z)).toNat)) 21 (((x).2 18) ((((4 : Int)) * (g)) + (z)).toNat).toNat (((x).2 21) (((x).2 18) ((((4 : Int)) * (g)) + (z)).toNat).toNat)) 22 (t9).toNat (((x).2 18) ((((4 : Int)) * (g)) + (z)).toNat)) ((t9) + (1 : Int)) (k) (g) ((z) + (1 : Int)))))))) := rfl
theorem F_m_plant_e4 (n : Nat) (x : MS) (k : Int) (q0 : Int) (q1 : Int) (q2 : Int) : F_m_plant_s (n + 1) 4 x k q0 q1 q2 = (if ((x).1 17) ≤ (k) then (0, x) else (if (((x).2 22) (k).toNat) = (0) then F_m_plant_s n 5 (x) (k) (((x).2 22) (k).toNat) ((1 : Int)) ((0 : Int)) else F_m_plant_s n 5 (x) (k) (((x).2 22) (k).toNat) ((0 : Int)) ((0 : Int)))) := rfl
theorem F_m_plant_e5 (n : Nat) (x : MS) (k : Int) (g : Int) (b : Int) (z : Int) : F_m_plant_s (n + 1) 5 x k g b z = (if ((x).1 0) ≤ (z) then (if (b) = (0) then F_m_plant_s n 4 (aU (x) 23 (g).toNat ((-9 : Int))) ((k) + (1 : Int)) (0) (0) (0) else F_m_plant_s n 4 (sU (aU (aU (aU (x) 23 (g).toNat ((-9 : Int))) 23 (g).toNat ((x).1 24)) 25 ((x).1 24).toNat (g)) 24 (((x).1 24) + ((1 : Int)))) ((k) + (1 : Int)) (0) (0) (0)) else (if (b) = (0) then (if (((x).2 18) ((((4 : Int)) * (g)) + (z)).toNat) = ((-9 : Int)) then F_m_plant_s n 5 (x) (k) (g) ((0 : Int)) ((z) + (1 : Int)) else F_m_plant_s n 5 (x) (k) (g) ((1 : Int)) ((z) + (1 : Int))) else F_m_plant_s n 5 (x) (k) (g) ((1 : Int)) ((z) + (1 : Int)))) := rfl
def F_m_plant (x : MS)  : Int × MS := F_m_plant_s 100000 0 ((F_m_newNode (sU (x) 17 ((0 : Int)))).2) ((0 : Int)) (0) (0) (0)
set_option maxHeartbeats 4000000 in
set_option maxRecDepth 100000 in
/-- plant -/
theorem c_m_plant (l : Launch) (dC : Nat → ClassId) (dI : Nat → Nat → Nat) (h : Nat) (ad : Nat → Nat) (cI cJ cZ : ClassId) (sz : Nat) (x : MS)  (pr : plR x) : Met l yX12_plant wsX12_plant ({ frames := 1, cells := 0, slots := 0, locals := 22 }) (mPc dC dI h ad cI cJ cZ sz x [.ref h]) (va_Qv (fun u : MS => u = (F_m_plant (x)).2) (mAt dC dI h ad cI cJ cZ (va_A (mW h ad cI cJ cZ (x)) sz)) (va_A (mW h ad cI cJ cZ (x)) sz)) 0 0 (va_A (mW h ad cI cJ cZ (x)) sz) := by
  refine Met.ofW (cc := cX12_plant) (maxL := 8) (ret := none) (by decide) rfl ?_
  intro p e s m args below meth c s₁ B hml hv
  obtain ⟨rfl, hsz, hP, hK, hD0⟩ := hv
  have hx := B.exec
  have hb := B.bytes
  have hr := B.returns
  have hts := atoms_spec (ws := wsX12_plant) B.pre
  have hown : s.vm.findClass RX12 = some m.cls := findClass_of_methodNamed B.named
  have hlocks := B.notSynchronized
  have hin : ∀ w ∈ u_ws RX12 TX12 34, w ∈ wsX12_plant := by decide +kernel
  subst hsz
  have hD := hD0.self (sz := s.heap.size)
  generalize hAe : va_A (mW h ad cI cJ cZ (x)) s.heap.size = A at hD ⊢
  have hA : ∀ q : Nat, s.heap.size ≤ q → A q := fun q h => by rw [← hAe]; exact Or.inr h
  have hS : va_S A s.heap s.heap [] := va_S.rf
  have hl := lv_entry ([.ref h]) (n := 8) (Nat.le_of_ble_eq_true rfl)
  rw [lg_entry_eq]
  generalize (lg_sl ([.ref h]) ++ List.replicate (8 - (lg_sl ([.ref h])).length) Slot.unset).toArray = ls at hl ⊢
  have hl : lv_has ls 8 [(0, .ref (h))] := hl
  obtain ⟨r40, l4, _⟩ := id pr
  have L : ∀ n : Nat, (∀ (y : MS) (d : Int), (pA x y d.toNat) → (0 ≤ d) → (d ≤ x.1 12) → (d ≤ 40) → (30000 + (40 - d) * 40 + 30 < n) → F_m_plant_s n 0 y d 0 0 0 = F_m_plant (x) → ∀ (H : Heap) (locs : List Loc) (ls : Array Slot), va_P (dC, dI) vwCl (mW h ad cI cJ cZ (y)) H → va_D A (mW h ad cI cJ cZ (y)) → va_S A s.heap H locs → lv_has ls 8 [(0, .ref (h)), (2, .int (iI (d)))] → W p l e (headSpec wsX12_plant ({ frames := 1, cells := 0, slots := 0, locals := 22 })).room s m ([.ref h] : List Value).toArray below meth c H locs 0 0 (MQ below (va_Qv (fun u : MS => u = (F_m_plant (x)).2) (mAt dC dI h ad cI cJ cZ A) A) ([.ref h] : List Value).toArray s 0 0 A) (F0 m 12 ls [])) ∧ (∀ (y : MS) (d : Int) (g : Int) (i : Int), (pB x y d.toNat g.toNat i.toNat) → (0 ≤ d) → (d < x.1 12) → (d < 40) → (0 ≤ g) → (0 ≤ i) → (i ≤ 24) → (30000 + (40 - d) * 40 + 25 - i < n) → F_m_plant_s n 1 y d g i 0 = F_m_plant (x) → ∀ (H : Heap) (locs : List Loc) (ls : Array Slot), va_P (dC, dI) vwCl (mW h ad cI cJ cZ (y)) H → va_D A (mW h ad cI cJ cZ (y)) → va_S A s.heap H locs → lv_has ls 8 [(0, .ref (h)), (2, .int (iI (d))), (3, .int (iI (g))), (4, .int (iI (i)))] → W p l e (headSpec wsX12_plant ({ frames := 1, cells := 0, slots := 0, locals := 22 })).room s m ([.ref h] : List Value).toArray below meth c H locs 0 0 (MQ below (va_Qv (fun u : MS => u = (F_m_plant (x)).2) (mAt dC dI h ad cI cJ cZ A) A) ([.ref h] : List Value).toArray s 0 0 A) (F0 m 25 ls [])) ∧ (∀ (y : MS) (t9 : Int) (k : Int), (pC x y k.toNat (0 : Int).toNat t9.toNat) → (0 ≤ k) → (k ≤ t9) → (1 ≤ t9) → (k ≤ 801) → (10000 + (801 - k) * 6 + 6 < n) → F_m_plant_s n 2 y t9 k 0 0 = F_m_plant (x) → ∀ (H : Heap) (locs : List Loc) (ls : Array Slot), va_P (dC, dI) vwCl (mW h ad cI cJ cZ (y)) H → va_D A (mW h ad cI cJ cZ (y)) → va_S A s.heap H locs → lv_has ls 8 [(0, .ref (h)), (2, .int (iI (t9))), (3, .int (iI (k)))] → W p l e (headSpec wsX12_plant ({ frames := 1, cells := 0, slots := 0, locals := 22 })).room s m ([.ref h] : List Value).toArray below meth c H locs 0 0 (MQ below (va_Qv (fun u : MS => u = (F_m_plant (x)).2) (mAt dC dI h ad cI cJ cZ A) A) ([.ref h] : List Value).toArray s 0 0 A) (F0 m 130 ls [])) ∧ (∀ (y : MS) (t9 : Int) (k : Int) (g : Int) (z : Int), (pC x y k.toNat z.toNat t9.toNat) → (g = y.2 22 k.toNat) → (0 ≤ k) → (k < t9) → (1 ≤ t9) → (0 ≤ z) → (z ≤ 4) → (k ≤ 800) → (10000 + (801 - k) * 6 + 5 - z < n) → F_m_plant_s n 3 y t9 k g z = F_m_plant (x) → ∀ (H : Heap) (locs : List Loc) (ls : Array Slot), va_P (dC, dI) vwCl (mW h ad cI cJ cZ (y)) H → va_D A (mW h ad cI cJ cZ (y)) → va_S A s.heap H locs → lv_has ls 8 [(0, .ref (h)), (2, .int (iI (t9))), (3, .int (iI (k))), (4, .int (iI (g))), (5, .int (iI (z)))] → W p l e (headSpec wsX12_plant ({ frames := 1, cells := 0, slots := 0, locals := 22 })).room s m ([.ref h] : List Value).toArray below meth c H locs 0 0 (MQ below (va_Qv (fun u : MS => u = (F_m_plant (x)).2) (mAt dC dI h ad cI cJ cZ A) A) ([.ref h] : List Value).toArray s 0 0 A) (F0 m 146 ls [])) ∧ (∀ (y : MS) (k : Int), (pS x y k.toNat) → (0 ≤ k) → (k ≤ y.1 17) → (k ≤ 801) → ((801 - k) * 6 + 6 < n) → F_m_plant_s n 4 y k 0 0 0 = F_m_plant (x) → ∀ (H : Heap) (locs : List Loc) (ls : Array Slot), va_P (dC, dI) vwCl (mW h ad cI cJ cZ (y)) H → va_D A (mW h ad cI cJ cZ (y)) → va_S A s.heap H locs → lv_has ls 8 [(0, .ref (h)), (3, .int (iI (k)))] → W p l e (headSpec wsX12_plant ({ frames := 1, cells := 0, slots := 0, locals := 22 })).room s m ([.ref h] : List Value).toArray below meth c H locs 0 0 (MQ below (va_Qv (fun u : MS => u = (F_m_plant (x)).2) (mAt dC dI h ad cI cJ cZ A) A) ([.ref h] : List Value).toArray s 0 0 A) (F0 m 319 ls [])) ∧ (∀ (y : MS) (k : Int) (g : Int) (b : Int) (z : Int), (pS x y k.toNat) → (0 ≤ k) → (k < y.1 17) → (g = y.2 22 k.toNat) → (bgb y g b z) → (0 ≤ z) → (z ≤ x.1 0) → (k ≤ 800) → ((801 - k) * 6 + 5 - z < n) → F_m_plant_s n 5 y k g b z = F_m_plant (x) → ∀ (H : Heap) (locs : List Loc) (ls : Array Slot), va_P (dC, dI) vwCl (mW h ad cI cJ cZ (y)) H → va_D A (mW h ad cI cJ cZ (y)) → va_S A s.heap H locs → lv_has ls 8 [(0, .ref (h)), (3, .int (iI (k))), (4, .int (iI (g))), (5, .int (iI (b))), (6, .int (iI (z)))] → W p l e (headSpec wsX12_plant ({ frames := 1, cells := 0, slots := 0, locals := 22 })).room s m ([.ref h] : List Value).toArray below meth c H locs 0 0 (MQ below (va_Qv (fun u : MS => u = (F_m_plant (x)).2) (mAt dC dI h ad cI cJ cZ A) A) ([.ref h] : List Value).toArray s 0 0 A) (F0 m 350 ls [])) := by
    intro n
    induction n with
    | zero =>
      refine ⟨?_, ?_, ?_, ?_, ?_, ?_⟩
      · intro y d pa d0 d1 d4 fu hres
        exact absurd fu (by omega)
      · intro y d g i pb d0 d1 d9 g0 i0 i4 fu hres
        exact absurd fu (by omega)
      · intro y t9 k pc k0 k1 t0 k8 fu hres
        exact absurd fu (by omega)
      · intro y t9 k g z pc hg k0 k1 t0 z0 z1 k8 fu hres
        exact absurd fu (by omega)
      · intro y k ps k0 kN k8 fu hres
        exact absurd fu (by omega)
      · intro y k g b z ps k0 k1 hg hbz z0 z1 k8 fu hres
        exact absurd fu (by omega)
    | succ n ih =>
      refine ⟨?_, ?_, ?_, ?_, ?_, ?_⟩
      · intro y d pa d0 d1 d4 fu hres H locs ls hP hD hS hl
        rw [F_m_plant_e0] at hres
        have e12 : y.1 12 = x.1 12 := pa.1.1 12 (by decide)
        refine lv_iload_n hx hb dX12_plant_12 rfl (lv_at hl 1 rfl) ?_
        refine lv_aload_n hx hb dX12_plant_13 rfl (lv_at hl 0 rfl) ?_
        refine va_get (D := (dC, dI)) (ci := 12) (v := .int (iI ((y).1 12))) (C := RX12) (T := TX12) (N := 34) hx hb hts hin hown hK hP 0 rfl rfl 12 (by decide) (hts (.fieldLink RX12 139 "LikeWordsModel" "rules" "I") (by decide +kernel)) (fun _ h9 => h9) rfl dX12_plant_14 ?_
        refine wi_icmp_ge (tgt := 112) hx hb (by first | assumption | (unfold iR; omega) | exact F_R01 (by assumption)) (by first | assumption | (unfold iR; omega) | exact F_R01 (by assumption)) dX12_plant_17 (by decide) (fun c_17 => ?_) (fun c_17 => ?_)
        · skip
          rw [if_pos c_17] at hres
          refine lv_aload_n hx hb dX12_plant_112 rfl (lv_at hl 0 rfl) ?_
          refine va_get (D := (dC, dI)) (ci := 12) (v := .ref (ad 22)) (C := RX12) (T := TX12) (N := 34) hx hb hts hin hown hK hP 0 rfl rfl 22 (by decide) (hts (.fieldLink RX12 62 "LikeWordsModel" "order" "[I") (by decide +kernel)) (fun _ h9 => h9) rfl dX12_plant_113 ?_
          refine lv_iconst (v := iI (0 : Int)) hx hb dX12_plant_116 (by decide) ?_
          refine lv_iconst (v := iI (0 : Int)) hx hb dX12_plant_117 (by decide) ?_
          refine wi_iast (f := (y).2 22) hx hb hK hP hD hS 16 0 rfl rfl (i := (0 : Int)) (x := (0 : Int)) (by omega) (by omega) (by decide) dX12_plant_118 (fun H locs hP hD hS => ?_)
          rw [mW_a22] at hP hD
          refine lv_aload_n hx hb dX12_plant_119 rfl (lv_at hl 0 rfl) ?_
          refine va_get (D := (dC, dI)) (ci := 12) (v := .ref (ad 20)) (C := RX12) (T := TX12) (N := 34) hx hb hts hin hown hK hP 0 rfl rfl 20 (by decide) (hts (.fieldLink RX12 56 "LikeWordsModel" "back" "[I") (by decide +kernel)) (fun _ h9 => h9) rfl dX12_plant_120 ?_
          refine lv_iconst (v := iI (0 : Int)) hx hb dX12_plant_123 (by decide) ?_
          refine lv_iconst (v := iI (0 : Int)) hx hb dX12_plant_124 (by decide) ?_
          refine wi_iast (f := (aU (y) 22 ((0 : Int)).toNat ((0 : Int))).2 20) hx hb hK hP hD hS 14 0 rfl rfl (i := (0 : Int)) (x := (0 : Int)) (by omega) (by omega) (by decide) dX12_plant_125 (fun H locs hP hD hS => ?_)
          rw [mW_a20] at hP hD
          refine lv_iconst (v := iI (1 : Int)) hx hb dX12_plant_126 (by decide) ?_
          refine lv_istore_n (lv' := [(2, .int (iI ((1 : Int)))), (0, .ref (h))]) hx hb dX12_plant_127 rfl hl (by decide) rfl (fun ls hl => ?_)
          refine lv_iconst (v := iI (0 : Int)) hx hb dX12_plant_128 (by decide) ?_
          refine lv_istore_n (lv' := [(3, .int (iI ((0 : Int)))), (2, .int (iI ((1 : Int)))), (0, .ref (h))]) hx hb dX12_plant_129 rfl hl (by decide) rfl (fun ls hl => ?_)
          exact ih.2.2.1 (aU (aU (y) 22 ((0 : Int)).toNat ((0 : Int))) 20 ((0 : Int)).toNat ((0 : Int))) ((1 : Int)) ((0 : Int)) (pC_0 pr pa d0 (by omega) (by omega) (by omega)) (by omega) (by omega) (by omega) (by omega) (by omega) hres _ _ ls hP hD hS (lv_sub hl [2, 1, 0] rfl)
        · skip
          rw [if_neg c_17] at hres
          refine lv_iconst (v := iI (0 : Int)) hx hb dX12_plant_20 (by decide) ?_
          refine lv_istore_n (lv' := [(3, .int (iI ((0 : Int)))), (0, .ref (h)), (2, .int (iI (d)))]) hx hb dX12_plant_21 rfl hl (by decide) rfl (fun ls hl => ?_)
          refine lv_iconst (v := iI (0 : Int)) hx hb dX12_plant_22 (by decide) ?_
          refine lv_istore (lv' := [(4, .int (iI ((0 : Int)))), (3, .int (iI ((0 : Int)))), (0, .ref (h)), (2, .int (iI (d)))]) hx hb dX12_plant_23 hl (by decide) rfl (fun ls hl => ?_)
          exact ih.2.1 (y) (d) ((0 : Int)) ((0 : Int)) (pB_0 pa) (d0) (by omega) (by omega) (by omega) (by omega) (by omega) (by omega) hres _ _ ls hP hD hS (lv_sub hl [2, 3, 1, 0] rfl)
      · intro y d g i pb d0 d1 d9 g0 i0 i4 fu hres H locs ls hP hD hS hl
        rw [F_m_plant_e1] at hres
        obtain ⟨⟨N9, n17, nb9, gN⟩, e13, e14, e12, il⟩ := pB_b pb
        have pd := (pr.2.2.1 d.toNat (by omega)).1
        rw [lM_len] at il
        have z13 : y.2 13 d.toNat = x.2 13 d.toNat := congrFun e13 _
        have z14 : y.2 14 ((24 : Int) * d + i).toNat = x.2 14 (24 * d + i).toNat := congrFun e14 _
        refine lv_iload hx hb dX12_plant_25 (lv_at hl 3 rfl) ?_
        refine lv_aload_n hx hb dX12_plant_27 rfl (lv_at hl 0 rfl) ?_
        refine va_get (D := (dC, dI)) (ci := 12) (v := .ref (ad 13)) (C := RX12) (T := TX12) (N := 34) hx hb hts hin hown hK hP 0 rfl rfl 13 (by decide) (hts (.fieldLink RX12 38 "LikeWordsModel" "leftSize" "[I") (by decide +kernel)) (fun _ h9 => h9) rfl dX12_plant_28 ?_
        refine lv_iload_n hx hb dX12_plant_31 rfl (lv_at hl 1 rfl) ?_
        refine wi_iald (f := (y).2 13) hx hb hK hP 8 0 rfl rfl (i := d) (by omega) (by omega) (by decide) dX12_plant_32 ?_
        have pd := (pr.2.2.1 d.toNat (by omega)).1
        refine wi_icmp_ge (tgt := 99) hx hb (by unfold iR; omega) (by unfold iR; omega) dX12_plant_33 (by decide) (fun c_33 => ?_) (fun c_33 => ?_)
        · skip
          rw [if_pos c_33] at hres
          refine lv_aload_n hx hb dX12_plant_99 rfl (lv_at hl 0 rfl) ?_
          refine va_get (D := (dC, dI)) (ci := 12) (v := .ref (ad 21)) (C := RX12) (T := TX12) (N := 34) hx hb hts hin hown hK hP 0 rfl rfl 21 (by decide) (hts (.fieldLink RX12 59 "LikeWordsModel" "ends" "[I") (by decide +kernel)) (fun _ h9 => h9) rfl dX12_plant_100 ?_
          refine lv_iload_n hx hb dX12_plant_103 rfl (lv_at hl 2 rfl) ?_
          refine lv_iload_n hx hb dX12_plant_104 rfl (lv_at hl 1 rfl) ?_
          refine wi_iast (f := (y).2 21) hx hb hK hP hD hS 15 0 rfl rfl (i := g) (x := d) (by omega) (by omega) (by decide) dX12_plant_105 (fun H locs hP hD hS => ?_)
          rw [mW_a21] at hP hD
          refine lv_iinc (v := iI ((d) + (1 : Int))) (lv' := [(2, .int (iI ((d) + (1 : Int)))), (0, .ref (h)), (3, .int (iI (g))), (4, .int (iI (i)))]) hx hb dX12_plant_106 hl (k := 1) rfl (iI_add _ _) (by decide) rfl (fun ls hl => ?_)
          refine lv_goto (tgt := 12) hx hb dX12_plant_109 (by decide) ?_
          exact ih.1 (aU (y) 21 (g).toNat (d)) ((d) + (1 : Int)) (pB_endI pr pb d0 d1 i0 (by omega)) (by omega) (by omega) (by omega) (by omega) hres _ _ ls hP hD hS (lv_sub hl [1, 0] rfl)
        · skip
          rw [if_neg c_33] at hres
          have pt := pl_let pr d0 d1 i0 (by omega)
          refine lv_aload_n hx hb dX12_plant_36 rfl (lv_at hl 0 rfl) ?_
          refine va_get (D := (dC, dI)) (ci := 12) (v := .ref (ad 14)) (C := RX12) (T := TX12) (N := 34) hx hb hts hin hown hK hP 0 rfl rfl 14 (by decide) (hts (.fieldLink RX12 41 "LikeWordsModel" "left" "[I") (by decide +kernel)) (fun _ h9 => h9) rfl dX12_plant_37 ?_
          refine lv_bipush (v := iI (24 : Int)) hx hb dX12_plant_40 (by decide) ?_
          refine lv_iload_n hx hb dX12_plant_42 rfl (lv_at hl 1 rfl) ?_
          refine wi_imul hx hb dX12_plant_43 ?_
          refine lv_iload hx hb dX12_plant_44 (lv_at hl 3 rfl) ?_
          refine wi_iadd hx hb dX12_plant_46 ?_
          refine wi_iald (f := (y).2 14) hx hb hK hP 9 0 rfl rfl (i := (((24 : Int)) * (d)) + (i)) (by omega) (by omega) (by decide) dX12_plant_47 ?_
          refine lv_istore (lv' := [(5, .int (iI (((y).2 14) ((((24 : Int)) * (d)) + (i)).toNat))), (0, .ref (h)), (2, .int (iI (d))), (3, .int (iI (g))), (4, .int (iI (i)))]) hx hb dX12_plant_48 hl (by decide) rfl (fun ls hl => ?_)
          refine lv_aload_n hx hb dX12_plant_50 rfl (lv_at hl 1 rfl) ?_
          refine va_get (D := (dC, dI)) (ci := 12) (v := .ref (ad 18)) (C := RX12) (T := TX12) (N := 34) hx hb hts hin hown hK hP 0 rfl rfl 18 (by decide) (hts (.fieldLink RX12 50 "LikeWordsModel" "child" "[I") (by decide +kernel)) (fun _ h9 => h9) rfl dX12_plant_51 ?_
          refine lv_iconst (v := iI (4 : Int)) hx hb dX12_plant_54 (by decide) ?_
          refine lv_iload_n hx hb dX12_plant_55 rfl (lv_at hl 3 rfl) ?_
          refine wi_imul hx hb dX12_plant_56 ?_
          refine lv_iload hx hb dX12_plant_57 (lv_at hl 0 rfl) ?_
          refine wi_iadd hx hb dX12_plant_59 ?_
          refine wi_iald (f := (y).2 18) hx hb hK hP 12 0 rfl rfl (i := (((4 : Int)) * (g)) + (((y).2 14) ((((24 : Int)) * (d)) + (i)).toNat)) (by omega) (by omega) (by decide) dX12_plant_60 ?_
          refine lv_bipush (v := iI (-9 : Int)) hx hb dX12_plant_61 (by decide) ?_
          have cr : y.2 18 (4 * g + y.2 14 (24 * d + i).toNat).toNat = -9 ∨ (0 ≤ y.2 18 (4 * g + y.2 14 (24 * d + i).toNat).toNat ∧ y.2 18 (4 * g + y.2 14 (24 * d + i).toNat).toNat < 900) := by
            by_cases hc9 : y.2 18 (4 * g + y.2 14 (24 * d + i).toNat).toNat = -9
            · exact Or.inl hc9
            · have ob := pB_oldI pr pb d0 d1 g0 i0 (by omega) hc9
              obtain ⟨⟨N8, _, b8, h8⟩, _, _, _, il8⟩ := pB_b ob.1
              rw [lM_len] at il8
              exact Or.inr ⟨ob.2, by omega⟩
          refine wi_icmp_ne (tgt := 81) hx hb (by unfold iR; omega) (by unfold iR; omega) dX12_plant_63 (by decide) (fun c_63 => ?_) (fun c_63 => ?_)
          · skip
            rw [if_neg c_63] at hres
            refine lv_aload_n hx hb dX12_plant_81 rfl (lv_at hl 1 rfl) ?_
            refine va_get (D := (dC, dI)) (ci := 12) (v := .ref (ad 18)) (C := RX12) (T := TX12) (N := 34) hx hb hts hin hown hK hP 0 rfl rfl 18 (by decide) (hts (.fieldLink RX12 50 "LikeWordsModel" "child" "[I") (by decide +kernel)) (fun _ h9 => h9) rfl dX12_plant_82 ?_
            refine lv_iconst (v := iI (4 : Int)) hx hb dX12_plant_85 (by decide) ?_
            refine lv_iload_n hx hb dX12_plant_86 rfl (lv_at hl 3 rfl) ?_
            refine wi_imul hx hb dX12_plant_87 ?_
            refine lv_iload hx hb dX12_plant_88 (lv_at hl 0 rfl) ?_
            refine wi_iadd hx hb dX12_plant_90 ?_
            refine wi_iald (f := (y).2 18) hx hb hK hP 12 0 rfl rfl (i := (((4 : Int)) * (g)) + (((y).2 14) ((((24 : Int)) * (d)) + (i)).toNat)) (by omega) (by omega) (by decide) dX12_plant_91 ?_
            refine lv_istore_n (lv' := [(3, .int (iI (((y).2 18) ((((4 : Int)) * (g)) + (((y).2 14) ((((24 : Int)) * (d)) + (i)).toNat)).toNat))), (5, .int (iI (((y).2 14) ((((24 : Int)) * (d)) + (i)).toNat))), (0, .ref (h)), (2, .int (iI (d))), (4, .int (iI (i)))]) hx hb dX12_plant_92 rfl hl (by decide) rfl (fun ls hl => ?_)
            have ob := pB_oldI pr pb d0 d1 g0 i0 (by omega) c_63
            refine lv_iinc (v := iI ((i) + (1 : Int))) (lv' := [(4, .int (iI ((i) + (1 : Int)))), (3, .int (iI (((y).2 18) ((((4 : Int)) * (g)) + (((y).2 14) ((((24 : Int)) * (d)) + (i)).toNat)).toNat))), (5, .int (iI (((y).2 14) ((((24 : Int)) * (d)) + (i)).toNat))), (0, .ref (h)), (2, .int (iI (d)))]) hx hb dX12_plant_93 hl (k := 4) rfl (iI_add _ _) (by decide) rfl (fun ls hl => ?_)
            refine lv_goto (tgt := 25) hx hb dX12_plant_96 (by decide) ?_
            exact ih.2.1 (y) (d) (((y).2 18) ((((4 : Int)) * (g)) + (((y).2 14) ((((24 : Int)) * (d)) + (i)).toNat)).toNat) ((i) + (1 : Int)) (ob.1) (d0) (d1) (d9) (ob.2) (by omega) (by omega) (by omega) hres _ _ ls hP hD hS (lv_sub hl [3, 4, 1, 0] rfl)
          · skip
            rw [if_pos c_63] at hres
            refine lv_aload_n hx hb dX12_plant_66 rfl (lv_at hl 1 rfl) ?_
            refine va_get (D := (dC, dI)) (ci := 12) (v := .ref (ad 18)) (C := RX12) (T := TX12) (N := 34) hx hb hts hin hown hK hP 0 rfl rfl 18 (by decide) (hts (.fieldLink RX12 50 "LikeWordsModel" "child" "[I") (by decide +kernel)) (fun _ h9 => h9) rfl dX12_plant_67 ?_
            refine lv_iconst (v := iI (4 : Int)) hx hb dX12_plant_70 (by decide) ?_
            refine lv_iload_n hx hb dX12_plant_71 rfl (lv_at hl 3 rfl) ?_
            refine wi_imul hx hb dX12_plant_72 ?_
            refine lv_iload hx hb dX12_plant_73 (lv_at hl 0 rfl) ?_
            refine wi_iadd hx hb dX12_plant_75 ?_
            refine lv_aload_n hx hb dX12_plant_76 rfl (lv_at hl 1 rfl) ?_
            have hFc : ∀ q, va_A (mW h ad cI cJ cZ (y)) H.size q → A q := fun q hq => Or.elim hq (fun ⟨k, e, hk⟩ => hD.2 k (q, e) hk) (fun hk => hA q (Nat.le_trans hS.1 hk))
            refine va_calli (va_runV (As := []) (rest := [.int (iI ((((4 : Int)) * (g)) + (((y).2 14) ((((24 : Int)) * (d)) + (i)).toNat))), .ref (ad 18)]) ⟨hx, hb, hml, hown, hts⟩ (c_m_newNode l dC dI h ad cI cJ cZ H.size (y)  (by omega) (by omega)) (cwV 0 hts gX12_plant_X12_newNode rfl rfl rfl (by decide +kernel) ⟨Nat.le_of_ble_eq_true rfl, Nat.le_of_ble_eq_true rfl⟩) ⟨fun a U g mk q => by obtain ⟨q0, q1, qP, qK, qD⟩ := q; exact ⟨q0, q1, qP, va_K.moved (u := U) (U := U.calling g mk a) (Vm.Alike.refl U.vm) qK, qD⟩, va_recv hK hP (ci := 12) (q0 := 0) rfl rfl, fun U hU hW => ⟨rfl, by rw [hU], by rw [hU]; exact hP, va_K.moved hW.alike hK, hD.weaken (fun _ _ _ _ => trivial)⟩⟩ rfl rfl hl.1 rfl (lv_room (Nat.le_of_ble_eq_true rfl)) dX12_plant_77 ⟨Nat.le_of_ble_eq_true rfl, Nat.le_of_ble_eq_true rfl⟩) hS (fun q _ h => hFc q h) hFc (fun r9 u9 t H1 locs ht hvm hw hB hz1 hk1 hS => ?_)
            obtain ⟨hP1, hK1, hD1⟩ := hB
            rw [ht] at hP1
            obtain ⟨hw1, hw2⟩ := hw
            rw [hw2] at hP1 hD1
            rw [hw1]
            have hD2 := hD1.weaken (B := A) (fun _ q _ h => hFc q.1 h)
            have hP := hP1
            have hD := hD2
            generalize H1 = H at hP hS ⊢
            refine wi_iast (f := ((F_m_newNode (y)).2).2 18) hx hb hK hP hD hS 12 0 rfl rfl (i := (((4 : Int)) * (g)) + (((y).2 14) ((((24 : Int)) * (d)) + (i)).toNat)) (x := (F_m_newNode (y)).1) (by omega) (by omega) (by decide) dX12_plant_80 (fun H locs hP hD hS => ?_)
            rw [mW_a18] at hP hD
            refine lv_aload_n hx hb dX12_plant_81 rfl (lv_at hl 1 rfl) ?_
            refine va_get (D := (dC, dI)) (ci := 12) (v := .ref (ad 18)) (C := RX12) (T := TX12) (N := 34) hx hb hts hin hown hK hP 0 rfl rfl 18 (by decide) (hts (.fieldLink RX12 50 "LikeWordsModel" "child" "[I") (by decide +kernel)) (fun _ h9 => h9) rfl dX12_plant_82 ?_
            refine lv_iconst (v := iI (4 : Int)) hx hb dX12_plant_85 (by decide) ?_
            refine lv_iload_n hx hb dX12_plant_86 rfl (lv_at hl 3 rfl) ?_
            refine wi_imul hx hb dX12_plant_87 ?_
            refine lv_iload hx hb dX12_plant_88 (lv_at hl 0 rfl) ?_
            refine wi_iadd hx hb dX12_plant_90 ?_
            refine wi_iald (f := iU (((F_m_newNode (y)).2).2 18) ((((4 : Int)) * (g)) + (((y).2 14) ((((24 : Int)) * (d)) + (i)).toNat)).toNat ((F_m_newNode (y)).1)) hx hb hK hP 12 0 rfl rfl (i := (((4 : Int)) * (g)) + (((y).2 14) ((((24 : Int)) * (d)) + (i)).toNat)) (by omega) (by omega) (by decide) dX12_plant_91 ?_
            refine lv_istore_n (lv' := [(3, .int (iI ((iU (((F_m_newNode (y)).2).2 18) ((((4 : Int)) * (g)) + (((y).2 14) ((((24 : Int)) * (d)) + (i)).toNat)).toNat ((F_m_newNode (y)).1)) ((((4 : Int)) * (g)) + (((y).2 14) ((((24 : Int)) * (d)) + (i)).toNat)).toNat))), (5, .int (iI (((y).2 14) ((((24 : Int)) * (d)) + (i)).toNat))), (0, .ref (h)), (2, .int (iI (d))), (4, .int (iI (i)))]) hx hb dX12_plant_92 rfl hl (by decide) rfl (fun ls hl => ?_)
            have nb := pB_newI pr pb d0 d1 g0 i0 (by omega) c_63
            refine lv_iinc (v := iI ((i) + (1 : Int))) (lv' := [(4, .int (iI ((i) + (1 : Int)))), (3, .int (iI ((iU (((F_m_newNode (y)).2).2 18) ((((4 : Int)) * (g)) + (((y).2 14) ((((24 : Int)) * (d)) + (i)).toNat)).toNat ((F_m_newNode (y)).1)) ((((4 : Int)) * (g)) + (((y).2 14) ((((24 : Int)) * (d)) + (i)).toNat)).toNat))), (5, .int (iI (((y).2 14) ((((24 : Int)) * (d)) + (i)).toNat))), (0, .ref (h)), (2, .int (iI (d)))]) hx hb dX12_plant_93 hl (k := 4) rfl (iI_add _ _) (by decide) rfl (fun ls hl => ?_)
            refine lv_goto (tgt := 25) hx hb dX12_plant_96 (by decide) ?_
            exact ih.2.1 (aU ((F_m_newNode (y)).2) 18 ((((4 : Int)) * (g)) + (((y).2 14) ((((24 : Int)) * (d)) + (i)).toNat)).toNat ((F_m_newNode (y)).1)) (d) ((iU (((F_m_newNode (y)).2).2 18) ((((4 : Int)) * (g)) + (((y).2 14) ((((24 : Int)) * (d)) + (i)).toNat)).toNat ((F_m_newNode (y)).1)) ((((4 : Int)) * (g)) + (((y).2 14) ((((24 : Int)) * (d)) + (i)).toNat)).toNat) ((i) + (1 : Int)) (nb.1) (d0) (d1) (d9) (nb.2) (by omega) (by omega) (by omega) hres _ _ ls hP hD hS (lv_sub hl [3, 4, 1, 0] rfl)
      · intro y t9 k pc k0 k1 t0 k8 fu hres H locs ls hP hD hS hl
        rw [F_m_plant_e2] at hres
        obtain ⟨⟨N9, n17, n80, tN, oN⟩, el, e12⟩ := pC_b pr pc
        refine lv_iload_n hx hb dX12_plant_130 rfl (lv_at hl 2 rfl) ?_
        refine lv_iload_n hx hb dX12_plant_131 rfl (lv_at hl 1 rfl) ?_
        refine wi_icmp_ge (tgt := 312) hx hb (by first | assumption | (unfold iR; omega) | exact F_R01 (by assumption)) (by first | assumption | (unfold iR; omega) | exact F_R01 (by assumption)) dX12_plant_132 (by decide) (fun c_132 => ?_) (fun c_132 => ?_)
        · skip
          rw [if_pos c_132] at hres
          refine lv_aload_n hx hb dX12_plant_312 rfl (lv_at hl 0 rfl) ?_
          refine lv_iconst (v := iI (0 : Int)) hx hb dX12_plant_313 (by decide) ?_
          refine va_put (D := (dC, dI)) (ci := 12) (v := .int (iI ((0 : Int)))) (ty := .int) (C := RX12) (T := TX12) (N := 34) hx hb hts hin tyX12 tyX12_ok nmX12 hown hK hP hD hS 0 rfl rfl 24 (by decide) (hts (.fieldLink RX12 164 "LikeWordsModel" "states" "I") (by decide +kernel)) (fun _ h9 => h9) rfl (by decide +kernel) rfl rfl (Nat.le_of_ble_eq_true rfl) dX12_plant_314 (fun H locs hP hD hS => ?_)
          rw [mW_s24] at hP hD
          refine lv_iconst (v := iI (0 : Int)) hx hb dX12_plant_317 (by decide) ?_
          refine lv_istore_n (lv' := [(3, .int (iI ((0 : Int)))), (0, .ref (h)), (2, .int (iI (t9)))]) hx hb dX12_plant_318 rfl hl (by decide) rfl (fun ls hl => ?_)
          exact ih.2.2.2.2.1 (sU (y) 24 ((0 : Int))) ((0 : Int)) (pS_0 pc k0 (by omega) (by omega)) (by omega) (by show 0 ≤ y.1 17; omega) (by omega) (by omega) hres _ _ ls hP hD hS (lv_sub hl [1, 0] rfl)
        · skip
          rw [if_neg c_132] at hres
          refine lv_aload_n hx hb dX12_plant_135 rfl (lv_at hl 0 rfl) ?_
          refine va_get (D := (dC, dI)) (ci := 12) (v := .ref (ad 22)) (C := RX12) (T := TX12) (N := 34) hx hb hts hin hown hK hP 0 rfl rfl 22 (by decide) (hts (.fieldLink RX12 62 "LikeWordsModel" "order" "[I") (by decide +kernel)) (fun _ h9 => h9) rfl dX12_plant_136 ?_
          refine lv_iload_n hx hb dX12_plant_139 rfl (lv_at hl 2 rfl) ?_
          refine wi_iald (f := (y).2 22) hx hb hK hP 16 0 rfl rfl (i := k) (by omega) (by omega) (by decide) dX12_plant_140 ?_
          refine lv_istore (lv' := [(4, .int (iI (((y).2 22) (k).toNat))), (0, .ref (h)), (2, .int (iI (t9))), (3, .int (iI (k)))]) hx hb dX12_plant_141 hl (by decide) rfl (fun ls hl => ?_)
          refine lv_iconst (v := iI (0 : Int)) hx hb dX12_plant_143 (by decide) ?_
          refine lv_istore (lv' := [(5, .int (iI ((0 : Int)))), (4, .int (iI (((y).2 22) (k).toNat))), (0, .ref (h)), (2, .int (iI (t9))), (3, .int (iI (k)))]) hx hb dX12_plant_144 hl (by decide) rfl (fun ls hl => ?_)
          exact ih.2.2.2.1 (y) (t9) (k) (((y).2 22) (k).toNat) ((0 : Int)) (pc) (by first | exact hg | rfl | (rw [yU_s, iU_n (by omega)]; exact hg) | (show _ = y.2 22 k.toNat; exact hg) | (show _ = iU (y.2 22) t9.toNat _ k.toNat; rw [iU_n (by omega)]; exact hg) | (exfalso; omega)) (by omega) (by omega) (by omega) (by omega) (by omega) (by omega) (by first | omega | (exfalso; omega)) hres _ _ ls hP hD hS (lv_sub hl [2, 3, 4, 1, 0] rfl)
      · intro y t9 k g z pc hg k0 k1 t0 z0 z1 k8 fu hres H locs ls hP hD hS hl
        rw [F_m_plant_e3] at hres
        obtain ⟨⟨N9, n17, n80, tN, oN⟩, el, e12⟩ := pC_b pr pc
        have ok9 := oN k.toNat (by omega)
        refine lv_iload hx hb dX12_plant_146 (lv_at hl 4 rfl) ?_
        refine lv_aload_n hx hb dX12_plant_148 rfl (lv_at hl 0 rfl) ?_
        refine va_get (D := (dC, dI)) (ci := 12) (v := .int (iI ((y).1 0))) (C := RX12) (T := TX12) (N := 34) hx hb hts hin hown hK hP 0 rfl rfl 0 (by decide) (hts (.fieldLink RX12 7 "LikeWordsModel" "letters" "I") (by decide +kernel)) (fun _ h9 => h9) rfl dX12_plant_149 ?_
        refine wi_icmp_ge (tgt := 306) hx hb (by first | assumption | (unfold iR; omega) | exact F_R01 (by assumption)) (by first | assumption | (unfold iR; omega) | exact F_R01 (by assumption)) dX12_plant_152 (by decide) (fun c_152 => ?_) (fun c_152 => ?_)
        · skip
          rw [if_pos c_152] at hres
          refine lv_iinc (v := iI ((k) + (1 : Int))) (lv' := [(3, .int (iI ((k) + (1 : Int)))), (0, .ref (h)), (2, .int (iI (t9))), (4, .int (iI (g))), (5, .int (iI (z)))]) hx hb dX12_plant_306 hl (k := 2) rfl (iI_add _ _) (by decide) rfl (fun ls hl => ?_)
          refine lv_goto (tgt := 130) hx hb dX12_plant_309 (by decide) ?_
          exact ih.2.2.1 (y) (t9) ((k) + (1 : Int)) (pC_on pr pc k0 k1 z0 (by omega)) (by omega) (by omega) (by omega) (by omega) (by omega) hres _ _ ls hP hD hS (lv_sub hl [1, 2, 0] rfl)
        · skip
          rw [if_neg c_152] at hres
          have cr := pC_r pr pc hg k0 k1 z0 (by omega)
          refine lv_aload_n hx hb dX12_plant_155 rfl (lv_at hl 0 rfl) ?_
          refine va_get (D := (dC, dI)) (ci := 12) (v := .ref (ad 18)) (C := RX12) (T := TX12) (N := 34) hx hb hts hin hown hK hP 0 rfl rfl 18 (by decide) (hts (.fieldLink RX12 50 "LikeWordsModel" "child" "[I") (by decide +kernel)) (fun _ h9 => h9) rfl dX12_plant_156 ?_
          refine lv_iconst (v := iI (4 : Int)) hx hb dX12_plant_159 (by decide) ?_
          refine lv_iload hx hb dX12_plant_160 (lv_at hl 3 rfl) ?_
          refine wi_imul hx hb dX12_plant_162 ?_
          refine lv_iload hx hb dX12_plant_163 (lv_at hl 4 rfl) ?_
          refine wi_iadd hx hb dX12_plant_165 ?_
          refine wi_iald (f := (y).2 18) hx hb hK hP 12 0 rfl rfl (i := (((4 : Int)) * (g)) + (z)) (by omega) (by omega) (by decide) dX12_plant_166 ?_
          refine lv_istore (lv' := [(6, .int (iI (((y).2 18) ((((4 : Int)) * (g)) + (z)).toNat))), (0, .ref (h)), (2, .int (iI (t9))), (3, .int (iI (k))), (4, .int (iI (g))), (5, .int (iI (z)))]) hx hb dX12_plant_167 hl (by decide) rfl (fun ls hl => ?_)
          refine lv_iload hx hb dX12_plant_169 (lv_at hl 4 rfl) ?_
          refine wi_if_ne (tgt := 178) hx hb (by first | assumption | (unfold iR; omega) | exact F_R01 (by assumption)) dX12_plant_171 (by decide) (fun c_171 => ?_) (fun c_171 => ?_)
          · skip
            rw [if_neg c_171] at hres
            refine lv_aload_n hx hb dX12_plant_178 rfl (lv_at hl 1 rfl) ?_
            refine va_get (D := (dC, dI)) (ci := 12) (v := .ref (ad 19)) (C := RX12) (T := TX12) (N := 34) hx hb hts hin hown hK hP 0 rfl rfl 19 (by decide) (hts (.fieldLink RX12 53 "LikeWordsModel" "go" "[I") (by decide +kernel)) (fun _ h9 => h9) rfl dX12_plant_179 ?_
            refine lv_iconst (v := iI (4 : Int)) hx hb dX12_plant_182 (by decide) ?_
            refine lv_aload_n hx hb dX12_plant_183 rfl (lv_at hl 1 rfl) ?_
            refine va_get (D := (dC, dI)) (ci := 12) (v := .ref (ad 20)) (C := RX12) (T := TX12) (N := 34) hx hb hts hin hown hK hP 0 rfl rfl 20 (by decide) (hts (.fieldLink RX12 56 "LikeWordsModel" "back" "[I") (by decide +kernel)) (fun _ h9 => h9) rfl dX12_plant_184 ?_
            refine lv_iload hx hb dX12_plant_187 (lv_at hl 4 rfl) ?_
            refine wi_iald (f := (y).2 20) hx hb hK hP 14 0 rfl rfl (i := g) (by omega) (by omega) (by decide) dX12_plant_189 ?_
            refine wi_imul hx hb dX12_plant_190 ?_
            refine lv_iload hx hb dX12_plant_191 (lv_at hl 5 rfl) ?_
            refine wi_iadd hx hb dX12_plant_193 ?_
            refine wi_iald (f := (y).2 19) hx hb hK hP 13 0 rfl rfl (i := (((4 : Int)) * (((y).2 20) (g).toNat)) + (z)) (by omega) (by omega) (by decide) dX12_plant_194 ?_
            refine lv_istore (lv' := [(7, .int (iI (((y).2 19) ((((4 : Int)) * (((y).2 20) (g).toNat)) + (z)).toNat))), (6, .int (iI (((y).2 18) ((((4 : Int)) * (g)) + (z)).toNat))), (0, .ref (h)), (2, .int (iI (t9))), (3, .int (iI (k))), (4, .int (iI (g))), (5, .int (iI (z)))]) hx hb dX12_plant_195 hl (by decide) rfl (fun ls hl => ?_)
            refine lv_aload_n hx hb dX12_plant_197 rfl (lv_at hl 2 rfl) ?_
            refine va_get (D := (dC, dI)) (ci := 12) (v := .ref (ad 19)) (C := RX12) (T := TX12) (N := 34) hx hb hts hin hown hK hP 0 rfl rfl 19 (by decide) (hts (.fieldLink RX12 53 "LikeWordsModel" "go" "[I") (by decide +kernel)) (fun _ h9 => h9) rfl dX12_plant_198 ?_
            refine lv_iconst (v := iI (4 : Int)) hx hb dX12_plant_201 (by decide) ?_
            refine lv_iload hx hb dX12_plant_202 (lv_at hl 5 rfl) ?_
            refine wi_imul hx hb dX12_plant_204 ?_
            refine lv_iload hx hb dX12_plant_205 (lv_at hl 6 rfl) ?_
            refine wi_iadd hx hb dX12_plant_207 ?_
            refine lv_iload hx hb dX12_plant_208 (lv_at hl 1 rfl) ?_
            refine lv_bipush (v := iI (-9 : Int)) hx hb dX12_plant_210 (by decide) ?_
            refine wi_icmp_ne (tgt := 220) hx hb (by first | assumption | (unfold iR; omega) | exact F_R01 (by assumption)) ⟨by decide, by decide⟩ dX12_plant_212 (by decide) (fun c_212 => ?_) (fun c_212 => ?_)
            · skip
              rw [if_neg c_212] at hres
              refine lv_iload hx hb dX12_plant_220 (lv_at hl 1 rfl) ?_
              refine wi_iast (f := (y).2 19) hx hb hK hP hD hS 13 0 rfl rfl (i := (((4 : Int)) * (g)) + (z)) (x := ((y).2 18) ((((4 : Int)) * (g)) + (z)).toNat) (by omega) (by omega) (by decide) dX12_plant_222 (fun H locs hP hD hS => ?_)
              rw [mW_a19] at hP hD
              refine lv_iload hx hb dX12_plant_223 (lv_at hl 1 rfl) ?_
              refine lv_bipush (v := iI (-9 : Int)) hx hb dX12_plant_225 (by decide) ?_
              refine wi_icmp_eq (tgt := 300) hx hb (by first | assumption | (unfold iR; omega) | exact F_R01 (by assumption)) ⟨by decide, by decide⟩ dX12_plant_227 (by decide) (fun c_227 => ?_) (fun c_227 => ?_)
              · skip
                rw [if_pos c_227] at hres
                refine lv_iinc (v := iI ((z) + (1 : Int))) (lv' := [(5, .int (iI ((z) + (1 : Int)))), (7, .int (iI (((y).2 19) ((((4 : Int)) * (((y).2 20) (g).toNat)) + (z)).toNat))), (6, .int (iI (((y).2 18) ((((4 : Int)) * (g)) + (z)).toNat))), (0, .ref (h)), (2, .int (iI (t9))), (3, .int (iI (k))), (4, .int (iI (g)))]) hx hb dX12_plant_300 hl (k := 6) rfl (iI_add _ _) (by decide) rfl (fun ls hl => ?_)
                refine lv_goto (tgt := 146) hx hb dX12_plant_303 (by decide) ?_
                exact ih.2.2.2.1 (aU (y) 19 ((((4 : Int)) * (g)) + (z)).toNat (((y).2 18) ((((4 : Int)) * (g)) + (z)).toNat)) (t9) (k) (g) ((z) + (1 : Int)) (by first | (exfalso; omega) | exact pC_none pr pc hg k0 k1 z0 (by omega) (by omega) (by first | (rw [if_pos (by omega)]; done) | (rw [if_neg (by omega)]; done))) (by first | exact hg | rfl | (rw [yU_s, iU_n (by omega)]; exact hg) | (show _ = y.2 22 k.toNat; exact hg) | (show _ = iU (y.2 22) t9.toNat _ k.toNat; rw [iU_n (by omega)]; exact hg) | (exfalso; omega)) (by omega) (by omega) (by omega) (by omega) (by omega) (by omega) (by first | omega | (exfalso; omega)) hres _ _ ls hP hD hS (lv_sub hl [3, 4, 5, 6, 0] rfl)
              · skip
                rw [if_neg c_227] at hres
                refine lv_aload_n hx hb dX12_plant_230 rfl (lv_at hl 2 rfl) ?_
                refine va_get (D := (dC, dI)) (ci := 12) (v := .ref (ad 20)) (C := RX12) (T := TX12) (N := 34) hx hb hts hin hown hK hP 0 rfl rfl 20 (by decide) (hts (.fieldLink RX12 56 "LikeWordsModel" "back" "[I") (by decide +kernel)) (fun _ h9 => h9) rfl dX12_plant_231 ?_
                refine lv_iload hx hb dX12_plant_234 (lv_at hl 1 rfl) ?_
                refine lv_iload hx hb dX12_plant_236 (lv_at hl 5 rfl) ?_
                refine wi_if_ne (tgt := 245) hx hb (by first | assumption | (unfold iR; omega) | exact F_R01 (by assumption)) dX12_plant_238 (by decide) (fun c_238 => ?_) (fun c_238 => ?_)
                · skip
                  rw [if_neg c_238] at hres
                  refine lv_iload hx hb dX12_plant_245 (lv_at hl 0 rfl) ?_
                  refine wi_iast (f := (aU (y) 19 ((((4 : Int)) * (g)) + (z)).toNat (((y).2 18) ((((4 : Int)) * (g)) + (z)).toNat)).2 20) hx hb hK hP hD hS 14 0 rfl rfl (i := ((y).2 18) ((((4 : Int)) * (g)) + (z)).toNat) (x := ((y).2 19) ((((4 : Int)) * (((y).2 20) (g).toNat)) + (z)).toNat) (by omega) (by omega) (by decide) dX12_plant_247 (fun H locs hP hD hS => ?_)
                  rw [mW_a20] at hP hD
                  refine lv_aload_n hx hb dX12_plant_248 rfl (lv_at hl 2 rfl) ?_
                  refine va_get (D := (dC, dI)) (ci := 12) (v := .ref (ad 21)) (C := RX12) (T := TX12) (N := 34) hx hb hts hin hown hK hP 0 rfl rfl 21 (by decide) (hts (.fieldLink RX12 59 "LikeWordsModel" "ends" "[I") (by decide +kernel)) (fun _ h9 => h9) rfl dX12_plant_249 ?_
                  refine lv_iload hx hb dX12_plant_252 (lv_at hl 1 rfl) ?_
                  refine lv_aload_n hx hb dX12_plant_254 rfl (lv_at hl 2 rfl) ?_
                  refine va_get (D := (dC, dI)) (ci := 12) (v := .ref (ad 21)) (C := RX12) (T := TX12) (N := 34) hx hb hts hin hown hK hP 0 rfl rfl 21 (by decide) (hts (.fieldLink RX12 59 "LikeWordsModel" "ends" "[I") (by decide +kernel)) (fun _ h9 => h9) rfl dX12_plant_255 ?_
                  refine lv_iload hx hb dX12_plant_258 (lv_at hl 1 rfl) ?_
                  refine wi_iald (f := (y).2 21) hx hb hK hP 15 0 rfl rfl (i := ((y).2 18) ((((4 : Int)) * (g)) + (z)).toNat) (by omega) (by omega) (by decide) dX12_plant_260 ?_
                  refine lv_bipush (v := iI (-9 : Int)) hx hb dX12_plant_261 (by decide) ?_
                  have ce := pC_e pr pc hg k0 k1 z0 (by omega) (by assumption)
                  refine wi_icmp_ne (tgt := 281) hx hb (by unfold iR; omega) (by unfold iR; omega) dX12_plant_263 (by decide) (fun c_263 => ?_) (fun c_263 => ?_)
                  · skip
                    rw [if_neg c_263] at hres
                    refine lv_aload_n hx hb dX12_plant_281 rfl (lv_at hl 2 rfl) ?_
                    refine va_get (D := (dC, dI)) (ci := 12) (v := .ref (ad 21)) (C := RX12) (T := TX12) (N := 34) hx hb hts hin hown hK hP 0 rfl rfl 21 (by decide) (hts (.fieldLink RX12 59 "LikeWordsModel" "ends" "[I") (by decide +kernel)) (fun _ h9 => h9) rfl dX12_plant_282 ?_
                    refine lv_iload hx hb dX12_plant_285 (lv_at hl 1 rfl) ?_
                    refine wi_iald (f := (y).2 21) hx hb hK hP 15 0 rfl rfl (i := ((y).2 18) ((((4 : Int)) * (g)) + (z)).toNat) (by omega) (by omega) (by decide) dX12_plant_287 ?_
                    refine wi_iast (f := (aU (aU (y) 19 ((((4 : Int)) * (g)) + (z)).toNat (((y).2 18) ((((4 : Int)) * (g)) + (z)).toNat)) 20 (((y).2 18) ((((4 : Int)) * (g)) + (z)).toNat).toNat (((y).2 19) ((((4 : Int)) * (((y).2 20) (g).toNat)) + (z)).toNat)).2 21) hx hb hK hP hD hS 15 0 rfl rfl (i := ((y).2 18) ((((4 : Int)) * (g)) + (z)).toNat) (x := ((y).2 21) (((y).2 18) ((((4 : Int)) * (g)) + (z)).toNat).toNat) (by omega) (by omega) (by decide) dX12_plant_288 (fun H locs hP hD hS => ?_)
                    rw [mW_a21] at hP hD
                    refine lv_aload_n hx hb dX12_plant_289 rfl (lv_at hl 2 rfl) ?_
                    refine va_get (D := (dC, dI)) (ci := 12) (v := .ref (ad 22)) (C := RX12) (T := TX12) (N := 34) hx hb hts hin hown hK hP 0 rfl rfl 22 (by decide) (hts (.fieldLink RX12 62 "LikeWordsModel" "order" "[I") (by decide +kernel)) (fun _ h9 => h9) rfl dX12_plant_290 ?_
                    refine lv_iload_n hx hb dX12_plant_293 rfl (lv_at hl 3 rfl) ?_
                    refine lv_iload hx hb dX12_plant_294 (lv_at hl 1 rfl) ?_
                    refine wi_iast (f := (aU (aU (aU (y) 19 ((((4 : Int)) * (g)) + (z)).toNat (((y).2 18) ((((4 : Int)) * (g)) + (z)).toNat)) 20 (((y).2 18) ((((4 : Int)) * (g)) + (z)).toNat).toNat (((y).2 19) ((((4 : Int)) * (((y).2 20) (g).toNat)) + (z)).toNat)) 21 (((y).2 18) ((((4 : Int)) * (g)) + (z)).toNat).toNat (((y).2 21) (((y).2 18) ((((4 : Int)) * (g)) + (z)).toNat).toNat)).2 22) hx hb hK hP hD hS 16 0 rfl rfl (i := t9) (x := ((y).2 18) ((((4 : Int)) * (g)) + (z)).toNat) (by omega) (by omega) (by decide) dX12_plant_296 (fun H locs hP hD hS => ?_)
                    rw [mW_a22] at hP hD
                    refine lv_iinc (v := iI ((t9) + (1 : Int))) (lv' := [(2, .int (iI ((t9) + (1 : Int)))), (7, .int (iI (((y).2 19) ((((4 : Int)) * (((y).2 20) (g).toNat)) + (z)).toNat))), (6, .int (iI (((y).2 18) ((((4 : Int)) * (g)) + (z)).toNat))), (0, .ref (h)), (3, .int (iI (k))), (4, .int (iI (g))), (5, .int (iI (z)))]) hx hb dX12_plant_297 hl (k := 3) rfl (iI_add _ _) (by decide) rfl (fun ls hl => ?_)
                    refine lv_iinc (v := iI ((z) + (1 : Int))) (lv' := [(5, .int (iI ((z) + (1 : Int)))), (2, .int (iI ((t9) + (1 : Int)))), (7, .int (iI (((y).2 19) ((((4 : Int)) * (((y).2 20) (g).toNat)) + (z)).toNat))), (6, .int (iI (((y).2 18) ((((4 : Int)) * (g)) + (z)).toNat))), (0, .ref (h)), (3, .int (iI (k))), (4, .int (iI (g)))]) hx hb dX12_plant_300 hl (k := 6) rfl (iI_add _ _) (by decide) rfl (fun ls hl => ?_)
                    refine lv_goto (tgt := 146) hx hb dX12_plant_303 (by decide) ?_
                    exact ih.2.2.2.1 (aU (aU (aU (aU (y) 19 ((((4 : Int)) * (g)) + (z)).toNat (((y).2 18) ((((4 : Int)) * (g)) + (z)).toNat)) 20 (((y).2 18) ((((4 : Int)) * (g)) + (z)).toNat).toNat (((y).2 19) ((((4 : Int)) * (((y).2 20) (g).toNat)) + (z)).toNat)) 21 (((y).2 18) ((((4 : Int)) * (g)) + (z)).toNat).toNat (((y).2 21) (((y).2 18) ((((4 : Int)) * (g)) + (z)).toNat).toNat)) 22 (t9).toNat (((y).2 18) ((((4 : Int)) * (g)) + (z)).toNat)) ((t9) + (1 : Int)) (k) (g) ((z) + (1 : Int)) (by first | (exfalso; omega) | exact pC_push pr pc hg k0 k1 z0 (by omega) rfl (by omega) (by first | (rw [if_pos (by omega)]; done) | (rw [if_neg (by omega)]; done)) (by first | (rw [iU_s, if_pos (by assumption)]; done) | (rw [if_neg (by assumption)]; done))) (by first | exact hg | rfl | (rw [yU_s, iU_n (by omega)]; exact hg) | (show _ = y.2 22 k.toNat; exact hg) | (show _ = iU (y.2 22) t9.toNat _ k.toNat; rw [iU_n (by omega)]; exact hg) | (exfalso; omega)) (by omega) (by omega) (by omega) (by omega) (by omega) (by omega) (by first | omega | (exfalso; omega)) hres _ _ ls hP hD hS (lv_sub hl [4, 1, 5, 6, 0] rfl)
                  · skip
                    rw [if_pos c_263] at hres
                    refine lv_aload_n hx hb dX12_plant_266 rfl (lv_at hl 2 rfl) ?_
                    refine va_get (D := (dC, dI)) (ci := 12) (v := .ref (ad 21)) (C := RX12) (T := TX12) (N := 34) hx hb hts hin hown hK hP 0 rfl rfl 21 (by decide) (hts (.fieldLink RX12 59 "LikeWordsModel" "ends" "[I") (by decide +kernel)) (fun _ h9 => h9) rfl dX12_plant_267 ?_
                    refine lv_aload_n hx hb dX12_plant_270 rfl (lv_at hl 2 rfl) ?_
                    refine va_get (D := (dC, dI)) (ci := 12) (v := .ref (ad 20)) (C := RX12) (T := TX12) (N := 34) hx hb hts hin hown hK hP 0 rfl rfl 20 (by decide) (hts (.fieldLink RX12 56 "LikeWordsModel" "back" "[I") (by decide +kernel)) (fun _ h9 => h9) rfl dX12_plant_271 ?_
                    refine lv_iload hx hb dX12_plant_274 (lv_at hl 1 rfl) ?_
                    refine wi_iald (f := iU ((y).2 20) (((y).2 18) ((((4 : Int)) * (g)) + (z)).toNat).toNat (((y).2 19) ((((4 : Int)) * (((y).2 20) (g).toNat)) + (z)).toNat)) hx hb hK hP 14 0 rfl rfl (i := ((y).2 18) ((((4 : Int)) * (g)) + (z)).toNat) (by omega) (by omega) (by decide) dX12_plant_276 ?_
                    refine wi_iald (f := (y).2 21) hx hb hK hP 15 0 rfl rfl (i := (iU ((y).2 20) (((y).2 18) ((((4 : Int)) * (g)) + (z)).toNat).toNat (((y).2 19) ((((4 : Int)) * (((y).2 20) (g).toNat)) + (z)).toNat)) (((y).2 18) ((((4 : Int)) * (g)) + (z)).toNat).toNat) (by rw [iU_s]; omega) (by rw [iU_s]; omega) (by decide) dX12_plant_277 ?_
                    refine lv_goto (tgt := 288) hx hb dX12_plant_278 (by decide) ?_
                    refine wi_iast (f := (aU (aU (y) 19 ((((4 : Int)) * (g)) + (z)).toNat (((y).2 18) ((((4 : Int)) * (g)) + (z)).toNat)) 20 (((y).2 18) ((((4 : Int)) * (g)) + (z)).toNat).toNat (((y).2 19) ((((4 : Int)) * (((y).2 20) (g).toNat)) + (z)).toNat)).2 21) hx hb hK hP hD hS 15 0 rfl rfl (i := ((y).2 18) ((((4 : Int)) * (g)) + (z)).toNat) (x := ((y).2 21) ((iU ((y).2 20) (((y).2 18) ((((4 : Int)) * (g)) + (z)).toNat).toNat (((y).2 19) ((((4 : Int)) * (((y).2 20) (g).toNat)) + (z)).toNat)) (((y).2 18) ((((4 : Int)) * (g)) + (z)).toNat).toNat).toNat) (by omega) (by omega) (by decide) dX12_plant_288 (fun H locs hP hD hS => ?_)
                    rw [mW_a21] at hP hD
                    refine lv_aload_n hx hb dX12_plant_289 rfl (lv_at hl 2 rfl) ?_
                    refine va_get (D := (dC, dI)) (ci := 12) (v := .ref (ad 22)) (C := RX12) (T := TX12) (N := 34) hx hb hts hin hown hK hP 0 rfl rfl 22 (by decide) (hts (.fieldLink RX12 62 "LikeWordsModel" "order" "[I") (by decide +kernel)) (fun _ h9 => h9) rfl dX12_plant_290 ?_
                    refine lv_iload_n hx hb dX12_plant_293 rfl (lv_at hl 3 rfl) ?_
                    refine lv_iload hx hb dX12_plant_294 (lv_at hl 1 rfl) ?_
                    refine wi_iast (f := (aU (aU (aU (y) 19 ((((4 : Int)) * (g)) + (z)).toNat (((y).2 18) ((((4 : Int)) * (g)) + (z)).toNat)) 20 (((y).2 18) ((((4 : Int)) * (g)) + (z)).toNat).toNat (((y).2 19) ((((4 : Int)) * (((y).2 20) (g).toNat)) + (z)).toNat)) 21 (((y).2 18) ((((4 : Int)) * (g)) + (z)).toNat).toNat (((y).2 21) ((iU ((y).2 20) (((y).2 18) ((((4 : Int)) * (g)) + (z)).toNat).toNat (((y).2 19) ((((4 : Int)) * (((y).2 20) (g).toNat)) + (z)).toNat)) (((y).2 18) ((((4 : Int)) * (g)) + (z)).toNat).toNat).toNat)).2 22) hx hb hK hP hD hS 16 0 rfl rfl (i := t9) (x := ((y).2 18) ((((4 : Int)) * (g)) + (z)).toNat) (by omega) (by omega) (by decide) dX12_plant_296 (fun H locs hP hD hS => ?_)
                    rw [mW_a22] at hP hD
                    refine lv_iinc (v := iI ((t9) + (1 : Int))) (lv' := [(2, .int (iI ((t9) + (1 : Int)))), (7, .int (iI (((y).2 19) ((((4 : Int)) * (((y).2 20) (g).toNat)) + (z)).toNat))), (6, .int (iI (((y).2 18) ((((4 : Int)) * (g)) + (z)).toNat))), (0, .ref (h)), (3, .int (iI (k))), (4, .int (iI (g))), (5, .int (iI (z)))]) hx hb dX12_plant_297 hl (k := 3) rfl (iI_add _ _) (by decide) rfl (fun ls hl => ?_)
                    refine lv_iinc (v := iI ((z) + (1 : Int))) (lv' := [(5, .int (iI ((z) + (1 : Int)))), (2, .int (iI ((t9) + (1 : Int)))), (7, .int (iI (((y).2 19) ((((4 : Int)) * (((y).2 20) (g).toNat)) + (z)).toNat))), (6, .int (iI (((y).2 18) ((((4 : Int)) * (g)) + (z)).toNat))), (0, .ref (h)), (3, .int (iI (k))), (4, .int (iI (g)))]) hx hb dX12_plant_300 hl (k := 6) rfl (iI_add _ _) (by decide) rfl (fun ls hl => ?_)
                    refine lv_goto (tgt := 146) hx hb dX12_plant_303 (by decide) ?_
                    exact ih.2.2.2.1 (aU (aU (aU (aU (y) 19 ((((4 : Int)) * (g)) + (z)).toNat (((y).2 18) ((((4 : Int)) * (g)) + (z)).toNat)) 20 (((y).2 18) ((((4 : Int)) * (g)) + (z)).toNat).toNat (((y).2 19) ((((4 : Int)) * (((y).2 20) (g).toNat)) + (z)).toNat)) 21 (((y).2 18) ((((4 : Int)) * (g)) + (z)).toNat).toNat (((y).2 21) ((iU ((y).2 20) (((y).2 18) ((((4 : Int)) * (g)) + (z)).toNat).toNat (((y).2 19) ((((4 : Int)) * (((y).2 20) (g).toNat)) + (z)).toNat)) (((y).2 18) ((((4 : Int)) * (g)) + (z)).toNat).toNat).toNat)) 22 (t9).toNat (((y).2 18) ((((4 : Int)) * (g)) + (z)).toNat)) ((t9) + (1 : Int)) (k) (g) ((z) + (1 : Int)) (by first | (exfalso; omega) | exact pC_push pr pc hg k0 k1 z0 (by omega) rfl (by omega) (by first | (rw [if_pos (by omega)]; done) | (rw [if_neg (by omega)]; done)) (by first | (rw [iU_s, if_pos (by assumption)]; done) | (rw [if_neg (by assumption)]; done))) (by first | exact hg | rfl | (rw [yU_s, iU_n (by omega)]; exact hg) | (show _ = y.2 22 k.toNat; exact hg) | (show _ = iU (y.2 22) t9.toNat _ k.toNat; rw [iU_n (by omega)]; exact hg) | (exfalso; omega)) (by omega) (by omega) (by omega) (by omega) (by omega) (by omega) (by first | omega | (exfalso; omega)) hres _ _ ls hP hD hS (lv_sub hl [4, 1, 5, 6, 0] rfl)
                · skip
                  rw [if_pos c_238] at hres
                  refine lv_iconst (v := iI (0 : Int)) hx hb dX12_plant_241 (by decide) ?_
                  refine lv_goto (tgt := 247) hx hb dX12_plant_242 (by decide) ?_
                  refine wi_iast (f := (aU (y) 19 ((((4 : Int)) * (g)) + (z)).toNat (((y).2 18) ((((4 : Int)) * (g)) + (z)).toNat)).2 20) hx hb hK hP hD hS 14 0 rfl rfl (i := ((y).2 18) ((((4 : Int)) * (g)) + (z)).toNat) (x := (0 : Int)) (by omega) (by omega) (by decide) dX12_plant_247 (fun H locs hP hD hS => ?_)
                  rw [mW_a20] at hP hD
                  refine lv_aload_n hx hb dX12_plant_248 rfl (lv_at hl 2 rfl) ?_
                  refine va_get (D := (dC, dI)) (ci := 12) (v := .ref (ad 21)) (C := RX12) (T := TX12) (N := 34) hx hb hts hin hown hK hP 0 rfl rfl 21 (by decide) (hts (.fieldLink RX12 59 "LikeWordsModel" "ends" "[I") (by decide +kernel)) (fun _ h9 => h9) rfl dX12_plant_249 ?_
                  refine lv_iload hx hb dX12_plant_252 (lv_at hl 1 rfl) ?_
                  refine lv_aload_n hx hb dX12_plant_254 rfl (lv_at hl 2 rfl) ?_
                  refine va_get (D := (dC, dI)) (ci := 12) (v := .ref (ad 21)) (C := RX12) (T := TX12) (N := 34) hx hb hts hin hown hK hP 0 rfl rfl 21 (by decide) (hts (.fieldLink RX12 59 "LikeWordsModel" "ends" "[I") (by decide +kernel)) (fun _ h9 => h9) rfl dX12_plant_255 ?_
                  refine lv_iload hx hb dX12_plant_258 (lv_at hl 1 rfl) ?_
                  refine wi_iald (f := (y).2 21) hx hb hK hP 15 0 rfl rfl (i := ((y).2 18) ((((4 : Int)) * (g)) + (z)).toNat) (by omega) (by omega) (by decide) dX12_plant_260 ?_
                  refine lv_bipush (v := iI (-9 : Int)) hx hb dX12_plant_261 (by decide) ?_
                  have ce := pC_e pr pc hg k0 k1 z0 (by omega) (by assumption)
                  refine wi_icmp_ne (tgt := 281) hx hb (by unfold iR; omega) (by unfold iR; omega) dX12_plant_263 (by decide) (fun c_263 => ?_) (fun c_263 => ?_)
                  · skip
                    rw [if_neg c_263] at hres
                    refine lv_aload_n hx hb dX12_plant_281 rfl (lv_at hl 2 rfl) ?_
                    refine va_get (D := (dC, dI)) (ci := 12) (v := .ref (ad 21)) (C := RX12) (T := TX12) (N := 34) hx hb hts hin hown hK hP 0 rfl rfl 21 (by decide) (hts (.fieldLink RX12 59 "LikeWordsModel" "ends" "[I") (by decide +kernel)) (fun _ h9 => h9) rfl dX12_plant_282 ?_
                    refine lv_iload hx hb dX12_plant_285 (lv_at hl 1 rfl) ?_
                    refine wi_iald (f := (y).2 21) hx hb hK hP 15 0 rfl rfl (i := ((y).2 18) ((((4 : Int)) * (g)) + (z)).toNat) (by omega) (by omega) (by decide) dX12_plant_287 ?_
                    refine wi_iast (f := (aU (aU (y) 19 ((((4 : Int)) * (g)) + (z)).toNat (((y).2 18) ((((4 : Int)) * (g)) + (z)).toNat)) 20 (((y).2 18) ((((4 : Int)) * (g)) + (z)).toNat).toNat ((0 : Int))).2 21) hx hb hK hP hD hS 15 0 rfl rfl (i := ((y).2 18) ((((4 : Int)) * (g)) + (z)).toNat) (x := ((y).2 21) (((y).2 18) ((((4 : Int)) * (g)) + (z)).toNat).toNat) (by omega) (by omega) (by decide) dX12_plant_288 (fun H locs hP hD hS => ?_)
                    rw [mW_a21] at hP hD
                    refine lv_aload_n hx hb dX12_plant_289 rfl (lv_at hl 2 rfl) ?_
                    refine va_get (D := (dC, dI)) (ci := 12) (v := .ref (ad 22)) (C := RX12) (T := TX12) (N := 34) hx hb hts hin hown hK hP 0 rfl rfl 22 (by decide) (hts (.fieldLink RX12 62 "LikeWordsModel" "order" "[I") (by decide +kernel)) (fun _ h9 => h9) rfl dX12_plant_290 ?_
                    refine lv_iload_n hx hb dX12_plant_293 rfl (lv_at hl 3 rfl) ?_
                    refine lv_iload hx hb dX12_plant_294 (lv_at hl 1 rfl) ?_
                    refine wi_iast (f := (aU (aU (aU (y) 19 ((((4 : Int)) * (g)) + (z)).toNat (((y).2 18) ((((4 : Int)) * (g)) + (z)).toNat)) 20 (((y).2 18) ((((4 : Int)) * (g)) + (z)).toNat).toNat ((0 : Int))) 21 (((y).2 18) ((((4 : Int)) * (g)) + (z)).toNat).toNat (((y).2 21) (((y).2 18) ((((4 : Int)) * (g)) + (z)).toNat).toNat)).2 22) hx hb hK hP hD hS 16 0 rfl rfl (i := t9) (x := ((y).2 18) ((((4 : Int)) * (g)) + (z)).toNat) (by omega) (by omega) (by decide) dX12_plant_296 (fun H locs hP hD hS => ?_)
                    rw [mW_a22] at hP hD
                    refine lv_iinc (v := iI ((t9) + (1 : Int))) (lv' := [(2, .int (iI ((t9) + (1 : Int)))), (7, .int (iI (((y).2 19) ((((4 : Int)) * (((y).2 20) (g).toNat)) + (z)).toNat))), (6, .int (iI (((y).2 18) ((((4 : Int)) * (g)) + (z)).toNat))), (0, .ref (h)), (3, .int (iI (k))), (4, .int (iI (g))), (5, .int (iI (z)))]) hx hb dX12_plant_297 hl (k := 3) rfl (iI_add _ _) (by decide) rfl (fun ls hl => ?_)
                    refine lv_iinc (v := iI ((z) + (1 : Int))) (lv' := [(5, .int (iI ((z) + (1 : Int)))), (2, .int (iI ((t9) + (1 : Int)))), (7, .int (iI (((y).2 19) ((((4 : Int)) * (((y).2 20) (g).toNat)) + (z)).toNat))), (6, .int (iI (((y).2 18) ((((4 : Int)) * (g)) + (z)).toNat))), (0, .ref (h)), (3, .int (iI (k))), (4, .int (iI (g)))]) hx hb dX12_plant_300 hl (k := 6) rfl (iI_add _ _) (by decide) rfl (fun ls hl => ?_)
                    refine lv_goto (tgt := 146) hx hb dX12_plant_303 (by decide) ?_
                    exact ih.2.2.2.1 (aU (aU (aU (aU (y) 19 ((((4 : Int)) * (g)) + (z)).toNat (((y).2 18) ((((4 : Int)) * (g)) + (z)).toNat)) 20 (((y).2 18) ((((4 : Int)) * (g)) + (z)).toNat).toNat ((0 : Int))) 21 (((y).2 18) ((((4 : Int)) * (g)) + (z)).toNat).toNat (((y).2 21) (((y).2 18) ((((4 : Int)) * (g)) + (z)).toNat).toNat)) 22 (t9).toNat (((y).2 18) ((((4 : Int)) * (g)) + (z)).toNat)) ((t9) + (1 : Int)) (k) (g) ((z) + (1 : Int)) (by first | (exfalso; omega) | exact pC_push pr pc hg k0 k1 z0 (by omega) rfl (by omega) (by first | (rw [if_pos (by omega)]; done) | (rw [if_neg (by omega)]; done)) (by first | (rw [iU_s, if_pos (by assumption)]; done) | (rw [if_neg (by assumption)]; done))) (by first | exact hg | rfl | (rw [yU_s, iU_n (by omega)]; exact hg) | (show _ = y.2 22 k.toNat; exact hg) | (show _ = iU (y.2 22) t9.toNat _ k.toNat; rw [iU_n (by omega)]; exact hg) | (exfalso; omega)) (by omega) (by omega) (by omega) (by omega) (by omega) (by omega) (by first | omega | (exfalso; omega)) hres _ _ ls hP hD hS (lv_sub hl [4, 1, 5, 6, 0] rfl)
                  · skip
                    rw [if_pos c_263] at hres
                    refine lv_aload_n hx hb dX12_plant_266 rfl (lv_at hl 2 rfl) ?_
                    refine va_get (D := (dC, dI)) (ci := 12) (v := .ref (ad 21)) (C := RX12) (T := TX12) (N := 34) hx hb hts hin hown hK hP 0 rfl rfl 21 (by decide) (hts (.fieldLink RX12 59 "LikeWordsModel" "ends" "[I") (by decide +kernel)) (fun _ h9 => h9) rfl dX12_plant_267 ?_
                    refine lv_aload_n hx hb dX12_plant_270 rfl (lv_at hl 2 rfl) ?_
                    refine va_get (D := (dC, dI)) (ci := 12) (v := .ref (ad 20)) (C := RX12) (T := TX12) (N := 34) hx hb hts hin hown hK hP 0 rfl rfl 20 (by decide) (hts (.fieldLink RX12 56 "LikeWordsModel" "back" "[I") (by decide +kernel)) (fun _ h9 => h9) rfl dX12_plant_271 ?_
                    refine lv_iload hx hb dX12_plant_274 (lv_at hl 1 rfl) ?_
                    refine wi_iald (f := iU ((y).2 20) (((y).2 18) ((((4 : Int)) * (g)) + (z)).toNat).toNat ((0 : Int))) hx hb hK hP 14 0 rfl rfl (i := ((y).2 18) ((((4 : Int)) * (g)) + (z)).toNat) (by omega) (by omega) (by decide) dX12_plant_276 ?_
                    refine wi_iald (f := (y).2 21) hx hb hK hP 15 0 rfl rfl (i := (iU ((y).2 20) (((y).2 18) ((((4 : Int)) * (g)) + (z)).toNat).toNat ((0 : Int))) (((y).2 18) ((((4 : Int)) * (g)) + (z)).toNat).toNat) (by rw [iU_s]; omega) (by rw [iU_s]; omega) (by decide) dX12_plant_277 ?_
                    refine lv_goto (tgt := 288) hx hb dX12_plant_278 (by decide) ?_
                    refine wi_iast (f := (aU (aU (y) 19 ((((4 : Int)) * (g)) + (z)).toNat (((y).2 18) ((((4 : Int)) * (g)) + (z)).toNat)) 20 (((y).2 18) ((((4 : Int)) * (g)) + (z)).toNat).toNat ((0 : Int))).2 21) hx hb hK hP hD hS 15 0 rfl rfl (i := ((y).2 18) ((((4 : Int)) * (g)) + (z)).toNat) (x := ((y).2 21) ((iU ((y).2 20) (((y).2 18) ((((4 : Int)) * (g)) + (z)).toNat).toNat ((0 : Int))) (((y).2 18) ((((4 : Int)) * (g)) + (z)).toNat).toNat).toNat) (by omega) (by omega) (by decide) dX12_plant_288 (fun H locs hP hD hS => ?_)
                    rw [mW_a21] at hP hD
                    refine lv_aload_n hx hb dX12_plant_289 rfl (lv_at hl 2 rfl) ?_
                    refine va_get (D := (dC, dI)) (ci := 12) (v := .ref (ad 22)) (C := RX12) (T := TX12) (N := 34) hx hb hts hin hown hK hP 0 rfl rfl 22 (by decide) (hts (.fieldLink RX12 62 "LikeWordsModel" "order" "[I") (by decide +kernel)) (fun _ h9 => h9) rfl dX12_plant_290 ?_
                    refine lv_iload_n hx hb dX12_plant_293 rfl (lv_at hl 3 rfl) ?_
                    refine lv_iload hx hb dX12_plant_294 (lv_at hl 1 rfl) ?_
                    refine wi_iast (f := (aU (aU (aU (y) 19 ((((4 : Int)) * (g)) + (z)).toNat (((y).2 18) ((((4 : Int)) * (g)) + (z)).toNat)) 20 (((y).2 18) ((((4 : Int)) * (g)) + (z)).toNat).toNat ((0 : Int))) 21 (((y).2 18) ((((4 : Int)) * (g)) + (z)).toNat).toNat (((y).2 21) ((iU ((y).2 20) (((y).2 18) ((((4 : Int)) * (g)) + (z)).toNat).toNat ((0 : Int))) (((y).2 18) ((((4 : Int)) * (g)) + (z)).toNat).toNat).toNat)).2 22) hx hb hK hP hD hS 16 0 rfl rfl (i := t9) (x := ((y).2 18) ((((4 : Int)) * (g)) + (z)).toNat) (by omega) (by omega) (by decide) dX12_plant_296 (fun H locs hP hD hS => ?_)
                    rw [mW_a22] at hP hD
                    refine lv_iinc (v := iI ((t9) + (1 : Int))) (lv' := [(2, .int (iI ((t9) + (1 : Int)))), (7, .int (iI (((y).2 19) ((((4 : Int)) * (((y).2 20) (g).toNat)) + (z)).toNat))), (6, .int (iI (((y).2 18) ((((4 : Int)) * (g)) + (z)).toNat))), (0, .ref (h)), (3, .int (iI (k))), (4, .int (iI (g))), (5, .int (iI (z)))]) hx hb dX12_plant_297 hl (k := 3) rfl (iI_add _ _) (by decide) rfl (fun ls hl => ?_)
                    refine lv_iinc (v := iI ((z) + (1 : Int))) (lv' := [(5, .int (iI ((z) + (1 : Int)))), (2, .int (iI ((t9) + (1 : Int)))), (7, .int (iI (((y).2 19) ((((4 : Int)) * (((y).2 20) (g).toNat)) + (z)).toNat))), (6, .int (iI (((y).2 18) ((((4 : Int)) * (g)) + (z)).toNat))), (0, .ref (h)), (3, .int (iI (k))), (4, .int (iI (g)))]) hx hb dX12_plant_300 hl (k := 6) rfl (iI_add _ _) (by decide) rfl (fun ls hl => ?_)
                    refine lv_goto (tgt := 146) hx hb dX12_plant_303 (by decide) ?_
                    exact ih.2.2.2.1 (aU (aU (aU (aU (y) 19 ((((4 : Int)) * (g)) + (z)).toNat (((y).2 18) ((((4 : Int)) * (g)) + (z)).toNat)) 20 (((y).2 18) ((((4 : Int)) * (g)) + (z)).toNat).toNat ((0 : Int))) 21 (((y).2 18) ((((4 : Int)) * (g)) + (z)).toNat).toNat (((y).2 21) ((iU ((y).2 20) (((y).2 18) ((((4 : Int)) * (g)) + (z)).toNat).toNat ((0 : Int))) (((y).2 18) ((((4 : Int)) * (g)) + (z)).toNat).toNat).toNat)) 22 (t9).toNat (((y).2 18) ((((4 : Int)) * (g)) + (z)).toNat)) ((t9) + (1 : Int)) (k) (g) ((z) + (1 : Int)) (by first | (exfalso; omega) | exact pC_push pr pc hg k0 k1 z0 (by omega) rfl (by omega) (by first | (rw [if_pos (by omega)]; done) | (rw [if_neg (by omega)]; done)) (by first | (rw [iU_s, if_pos (by assumption)]; done) | (rw [if_neg (by assumption)]; done))) (by first | exact hg | rfl | (rw [yU_s, iU_n (by omega)]; exact hg) | (show _ = y.2 22 k.toNat; exact hg) | (show _ = iU (y.2 22) t9.toNat _ k.toNat; rw [iU_n (by omega)]; exact hg) | (exfalso; omega)) (by omega) (by omega) (by omega) (by omega) (by omega) (by omega) (by first | omega | (exfalso; omega)) hres _ _ ls hP hD hS (lv_sub hl [4, 1, 5, 6, 0] rfl)
            · skip
              rw [if_pos c_212] at hres
              refine lv_iload hx hb dX12_plant_215 (lv_at hl 0 rfl) ?_
              refine lv_goto (tgt := 222) hx hb dX12_plant_217 (by decide) ?_
              refine wi_iast (f := (y).2 19) hx hb hK hP hD hS 13 0 rfl rfl (i := (((4 : Int)) * (g)) + (z)) (x := ((y).2 19) ((((4 : Int)) * (((y).2 20) (g).toNat)) + (z)).toNat) (by omega) (by omega) (by decide) dX12_plant_222 (fun H locs hP hD hS => ?_)
              rw [mW_a19] at hP hD
              refine lv_iload hx hb dX12_plant_223 (lv_at hl 1 rfl) ?_
              refine lv_bipush (v := iI (-9 : Int)) hx hb dX12_plant_225 (by decide) ?_
              refine wi_icmp_eq (tgt := 300) hx hb (by first | assumption | (unfold iR; omega) | exact F_R01 (by assumption)) ⟨by decide, by decide⟩ dX12_plant_227 (by decide) (fun c_227 => ?_) (fun c_227 => ?_)
              · skip
                rw [if_pos c_227] at hres
                refine lv_iinc (v := iI ((z) + (1 : Int))) (lv' := [(5, .int (iI ((z) + (1 : Int)))), (7, .int (iI (((y).2 19) ((((4 : Int)) * (((y).2 20) (g).toNat)) + (z)).toNat))), (6, .int (iI (((y).2 18) ((((4 : Int)) * (g)) + (z)).toNat))), (0, .ref (h)), (2, .int (iI (t9))), (3, .int (iI (k))), (4, .int (iI (g)))]) hx hb dX12_plant_300 hl (k := 6) rfl (iI_add _ _) (by decide) rfl (fun ls hl => ?_)
                refine lv_goto (tgt := 146) hx hb dX12_plant_303 (by decide) ?_
                exact ih.2.2.2.1 (aU (y) 19 ((((4 : Int)) * (g)) + (z)).toNat (((y).2 19) ((((4 : Int)) * (((y).2 20) (g).toNat)) + (z)).toNat)) (t9) (k) (g) ((z) + (1 : Int)) (by first | (exfalso; omega) | exact pC_none pr pc hg k0 k1 z0 (by omega) (by omega) (by first | (rw [if_pos (by omega)]; done) | (rw [if_neg (by omega)]; done))) (by first | exact hg | rfl | (rw [yU_s, iU_n (by omega)]; exact hg) | (show _ = y.2 22 k.toNat; exact hg) | (show _ = iU (y.2 22) t9.toNat _ k.toNat; rw [iU_n (by omega)]; exact hg) | (exfalso; omega)) (by omega) (by omega) (by omega) (by omega) (by omega) (by omega) (by first | omega | (exfalso; omega)) hres _ _ ls hP hD hS (lv_sub hl [3, 4, 5, 6, 0] rfl)
              · skip
                rw [if_neg c_227] at hres
                refine lv_aload_n hx hb dX12_plant_230 rfl (lv_at hl 2 rfl) ?_
                refine va_get (D := (dC, dI)) (ci := 12) (v := .ref (ad 20)) (C := RX12) (T := TX12) (N := 34) hx hb hts hin hown hK hP 0 rfl rfl 20 (by decide) (hts (.fieldLink RX12 56 "LikeWordsModel" "back" "[I") (by decide +kernel)) (fun _ h9 => h9) rfl dX12_plant_231 ?_
                refine lv_iload hx hb dX12_plant_234 (lv_at hl 1 rfl) ?_
                refine lv_iload hx hb dX12_plant_236 (lv_at hl 5 rfl) ?_
                refine wi_if_ne (tgt := 245) hx hb (by first | assumption | (unfold iR; omega) | exact F_R01 (by assumption)) dX12_plant_238 (by decide) (fun c_238 => ?_) (fun c_238 => ?_)
                · skip
                  rw [if_neg c_238] at hres
                  refine lv_iload hx hb dX12_plant_245 (lv_at hl 0 rfl) ?_
                  refine wi_iast (f := (aU (y) 19 ((((4 : Int)) * (g)) + (z)).toNat (((y).2 19) ((((4 : Int)) * (((y).2 20) (g).toNat)) + (z)).toNat)).2 20) hx hb hK hP hD hS 14 0 rfl rfl (i := ((y).2 18) ((((4 : Int)) * (g)) + (z)).toNat) (x := ((y).2 19) ((((4 : Int)) * (((y).2 20) (g).toNat)) + (z)).toNat) (by omega) (by omega) (by decide) dX12_plant_247 (fun H locs hP hD hS => ?_)
                  rw [mW_a20] at hP hD
                  refine lv_aload_n hx hb dX12_plant_248 rfl (lv_at hl 2 rfl) ?_
                  refine va_get (D := (dC, dI)) (ci := 12) (v := .ref (ad 21)) (C := RX12) (T := TX12) (N := 34) hx hb hts hin hown hK hP 0 rfl rfl 21 (by decide) (hts (.fieldLink RX12 59 "LikeWordsModel" "ends" "[I") (by decide +kernel)) (fun _ h9 => h9) rfl dX12_plant_249 ?_
                  refine lv_iload hx hb dX12_plant_252 (lv_at hl 1 rfl) ?_
                  refine lv_aload_n hx hb dX12_plant_254 rfl (lv_at hl 2 rfl) ?_
                  refine va_get (D := (dC, dI)) (ci := 12) (v := .ref (ad 21)) (C := RX12) (T := TX12) (N := 34) hx hb hts hin hown hK hP 0 rfl rfl 21 (by decide) (hts (.fieldLink RX12 59 "LikeWordsModel" "ends" "[I") (by decide +kernel)) (fun _ h9 => h9) rfl dX12_plant_255 ?_
                  refine lv_iload hx hb dX12_plant_258 (lv_at hl 1 rfl) ?_
                  refine wi_iald (f := (y).2 21) hx hb hK hP 15 0 rfl rfl (i := ((y).2 18) ((((4 : Int)) * (g)) + (z)).toNat) (by omega) (by omega) (by decide) dX12_plant_260 ?_
                  refine lv_bipush (v := iI (-9 : Int)) hx hb dX12_plant_261 (by decide) ?_
                  have ce := pC_e pr pc hg k0 k1 z0 (by omega) (by assumption)
                  refine wi_icmp_ne (tgt := 281) hx hb (by unfold iR; omega) (by unfold iR; omega) dX12_plant_263 (by decide) (fun c_263 => ?_) (fun c_263 => ?_)
                  · skip
                    rw [if_neg c_263] at hres
                    refine lv_aload_n hx hb dX12_plant_281 rfl (lv_at hl 2 rfl) ?_
                    refine va_get (D := (dC, dI)) (ci := 12) (v := .ref (ad 21)) (C := RX12) (T := TX12) (N := 34) hx hb hts hin hown hK hP 0 rfl rfl 21 (by decide) (hts (.fieldLink RX12 59 "LikeWordsModel" "ends" "[I") (by decide +kernel)) (fun _ h9 => h9) rfl dX12_plant_282 ?_
                    refine lv_iload hx hb dX12_plant_285 (lv_at hl 1 rfl) ?_
                    refine wi_iald (f := (y).2 21) hx hb hK hP 15 0 rfl rfl (i := ((y).2 18) ((((4 : Int)) * (g)) + (z)).toNat) (by omega) (by omega) (by decide) dX12_plant_287 ?_
                    refine wi_iast (f := (aU (aU (y) 19 ((((4 : Int)) * (g)) + (z)).toNat (((y).2 19) ((((4 : Int)) * (((y).2 20) (g).toNat)) + (z)).toNat)) 20 (((y).2 18) ((((4 : Int)) * (g)) + (z)).toNat).toNat (((y).2 19) ((((4 : Int)) * (((y).2 20) (g).toNat)) + (z)).toNat)).2 21) hx hb hK hP hD hS 15 0 rfl rfl (i := ((y).2 18) ((((4 : Int)) * (g)) + (z)).toNat) (x := ((y).2 21) (((y).2 18) ((((4 : Int)) * (g)) + (z)).toNat).toNat) (by omega) (by omega) (by decide) dX12_plant_288 (fun H locs hP hD hS => ?_)
                    rw [mW_a21] at hP hD
                    refine lv_aload_n hx hb dX12_plant_289 rfl (lv_at hl 2 rfl) ?_
                    refine va_get (D := (dC, dI)) (ci := 12) (v := .ref (ad 22)) (C := RX12) (T := TX12) (N := 34) hx hb hts hin hown hK hP 0 rfl rfl 22 (by decide) (hts (.fieldLink RX12 62 "LikeWordsModel" "order" "[I") (by decide +kernel)) (fun _ h9 => h9) rfl dX12_plant_290 ?_
                    refine lv_iload_n hx hb dX12_plant_293 rfl (lv_at hl 3 rfl) ?_
                    refine lv_iload hx hb dX12_plant_294 (lv_at hl 1 rfl) ?_
                    refine wi_iast (f := (aU (aU (aU (y) 19 ((((4 : Int)) * (g)) + (z)).toNat (((y).2 19) ((((4 : Int)) * (((y).2 20) (g).toNat)) + (z)).toNat)) 20 (((y).2 18) ((((4 : Int)) * (g)) + (z)).toNat).toNat (((y).2 19) ((((4 : Int)) * (((y).2 20) (g).toNat)) + (z)).toNat)) 21 (((y).2 18) ((((4 : Int)) * (g)) + (z)).toNat).toNat (((y).2 21) (((y).2 18) ((((4 : Int)) * (g)) + (z)).toNat).toNat)).2 22) hx hb hK hP hD hS 16 0 rfl rfl (i := t9) (x := ((y).2 18) ((((4 : Int)) * (g)) + (z)).toNat) (by omega) (by omega) (by decide) dX12_plant_296 (fun H locs hP hD hS => ?_)
                    rw [mW_a22] at hP hD
                    refine lv_iinc (v := iI ((t9) + (1 : Int))) (lv' := [(2, .int (iI ((t9) + (1 : Int)))), (7, .int (iI (((y).2 19) ((((4 : Int)) * (((y).2 20) (g).toNat)) + (z)).toNat))), (6, .int (iI (((y).2 18) ((((4 : Int)) * (g)) + (z)).toNat))), (0, .ref (h)), (3, .int (iI (k))), (4, .int (iI (g))), (5, .int (iI (z)))]) hx hb dX12_plant_297 hl (k := 3) rfl (iI_add _ _) (by decide) rfl (fun ls hl => ?_)
                    refine lv_iinc (v := iI ((z) + (1 : Int))) (lv' := [(5, .int (iI ((z) + (1 : Int)))), (2, .int (iI ((t9) + (1 : Int)))), (7, .int (iI (((y).2 19) ((((4 : Int)) * (((y).2 20) (g).toNat)) + (z)).toNat))), (6, .int (iI (((y).2 18) ((((4 : Int)) * (g)) + (z)).toNat))), (0, .ref (h)), (3, .int (iI (k))), (4, .int (iI (g)))]) hx hb dX12_plant_300 hl (k := 6) rfl (iI_add _ _) (by decide) rfl (fun ls hl => ?_)
                    refine lv_goto (tgt := 146) hx hb dX12_plant_303 (by decide) ?_
                    exact ih.2.2.2.1 (aU (aU (aU (aU (y) 19 ((((4 : Int)) * (g)) + (z)).toNat (((y).2 19) ((((4 : Int)) * (((y).2 20) (g).toNat)) + (z)).toNat)) 20 (((y).2 18) ((((4 : Int)) * (g)) + (z)).toNat).toNat (((y).2 19) ((((4 : Int)) * (((y).2 20) (g).toNat)) + (z)).toNat)) 21 (((y).2 18) ((((4 : Int)) * (g)) + (z)).toNat).toNat (((y).2 21) (((y).2 18) ((((4 : Int)) * (g)) + (z)).toNat).toNat)) 22 (t9).toNat (((y).2 18) ((((4 : Int)) * (g)) + (z)).toNat)) ((t9) + (1 : Int)) (k) (g) ((z) + (1 : Int)) (by first | (exfalso; omega) | exact pC_push pr pc hg k0 k1 z0 (by omega) rfl (by omega) (by first | (rw [if_pos (by omega)]; done) | (rw [if_neg (by omega)]; done)) (by first | (rw [iU_s, if_pos (by assumption)]; done) | (rw [if_neg (by assumption)]; done))) (by first | exact hg | rfl | (rw [yU_s, iU_n (by omega)]; exact hg) | (show _ = y.2 22 k.toNat; exact hg) | (show _ = iU (y.2 22) t9.toNat _ k.toNat; rw [iU_n (by omega)]; exact hg) | (exfalso; omega)) (by omega) (by omega) (by omega) (by omega) (by omega) (by omega) (by first | omega | (exfalso; omega)) hres _ _ ls hP hD hS (lv_sub hl [4, 1, 5, 6, 0] rfl)
                  · skip
                    rw [if_pos c_263] at hres
                    refine lv_aload_n hx hb dX12_plant_266 rfl (lv_at hl 2 rfl) ?_
                    refine va_get (D := (dC, dI)) (ci := 12) (v := .ref (ad 21)) (C := RX12) (T := TX12) (N := 34) hx hb hts hin hown hK hP 0 rfl rfl 21 (by decide) (hts (.fieldLink RX12 59 "LikeWordsModel" "ends" "[I") (by decide +kernel)) (fun _ h9 => h9) rfl dX12_plant_267 ?_
                    refine lv_aload_n hx hb dX12_plant_270 rfl (lv_at hl 2 rfl) ?_
                    refine va_get (D := (dC, dI)) (ci := 12) (v := .ref (ad 20)) (C := RX12) (T := TX12) (N := 34) hx hb hts hin hown hK hP 0 rfl rfl 20 (by decide) (hts (.fieldLink RX12 56 "LikeWordsModel" "back" "[I") (by decide +kernel)) (fun _ h9 => h9) rfl dX12_plant_271 ?_
                    refine lv_iload hx hb dX12_plant_274 (lv_at hl 1 rfl) ?_
                    refine wi_iald (f := iU ((y).2 20) (((y).2 18) ((((4 : Int)) * (g)) + (z)).toNat).toNat (((y).2 19) ((((4 : Int)) * (((y).2 20) (g).toNat)) + (z)).toNat)) hx hb hK hP 14 0 rfl rfl (i := ((y).2 18) ((((4 : Int)) * (g)) + (z)).toNat) (by omega) (by omega) (by decide) dX12_plant_276 ?_
                    refine wi_iald (f := (y).2 21) hx hb hK hP 15 0 rfl rfl (i := (iU ((y).2 20) (((y).2 18) ((((4 : Int)) * (g)) + (z)).toNat).toNat (((y).2 19) ((((4 : Int)) * (((y).2 20) (g).toNat)) + (z)).toNat)) (((y).2 18) ((((4 : Int)) * (g)) + (z)).toNat).toNat) (by rw [iU_s]; omega) (by rw [iU_s]; omega) (by decide) dX12_plant_277 ?_
                    refine lv_goto (tgt := 288) hx hb dX12_plant_278 (by decide) ?_
                    refine wi_iast (f := (aU (aU (y) 19 ((((4 : Int)) * (g)) + (z)).toNat (((y).2 19) ((((4 : Int)) * (((y).2 20) (g).toNat)) + (z)).toNat)) 20 (((y).2 18) ((((4 : Int)) * (g)) + (z)).toNat).toNat (((y).2 19) ((((4 : Int)) * (((y).2 20) (g).toNat)) + (z)).toNat)).2 21) hx hb hK hP hD hS 15 0 rfl rfl (i := ((y).2 18) ((((4 : Int)) * (g)) + (z)).toNat) (x := ((y).2 21) ((iU ((y).2 20) (((y).2 18) ((((4 : Int)) * (g)) + (z)).toNat).toNat (((y).2 19) ((((4 : Int)) * (((y).2 20) (g).toNat)) + (z)).toNat)) (((y).2 18) ((((4 : Int)) * (g)) + (z)).toNat).toNat).toNat) (by omega) (by omega) (by decide) dX12_plant_288 (fun H locs hP hD hS => ?_)
                    rw [mW_a21] at hP hD
                    refine lv_aload_n hx hb dX12_plant_289 rfl (lv_at hl 2 rfl) ?_
                    refine va_get (D := (dC, dI)) (ci := 12) (v := .ref (ad 22)) (C := RX12) (T := TX12) (N := 34) hx hb hts hin hown hK hP 0 rfl rfl 22 (by decide) (hts (.fieldLink RX12 62 "LikeWordsModel" "order" "[I") (by decide +kernel)) (fun _ h9 => h9) rfl dX12_plant_290 ?_
                    refine lv_iload_n hx hb dX12_plant_293 rfl (lv_at hl 3 rfl) ?_
                    refine lv_iload hx hb dX12_plant_294 (lv_at hl 1 rfl) ?_
                    refine wi_iast (f := (aU (aU (aU (y) 19 ((((4 : Int)) * (g)) + (z)).toNat (((y).2 19) ((((4 : Int)) * (((y).2 20) (g).toNat)) + (z)).toNat)) 20 (((y).2 18) ((((4 : Int)) * (g)) + (z)).toNat).toNat (((y).2 19) ((((4 : Int)) * (((y).2 20) (g).toNat)) + (z)).toNat)) 21 (((y).2 18) ((((4 : Int)) * (g)) + (z)).toNat).toNat (((y).2 21) ((iU ((y).2 20) (((y).2 18) ((((4 : Int)) * (g)) + (z)).toNat).toNat (((y).2 19) ((((4 : Int)) * (((y).2 20) (g).toNat)) + (z)).toNat)) (((y).2 18) ((((4 : Int)) * (g)) + (z)).toNat).toNat).toNat)).2 22) hx hb hK hP hD hS 16 0 rfl rfl (i := t9) (x := ((y).2 18) ((((4 : Int)) * (g)) + (z)).toNat) (by omega) (by omega) (by decide) dX12_plant_296 (fun H locs hP hD hS => ?_)
                    rw [mW_a22] at hP hD
                    refine lv_iinc (v := iI ((t9) + (1 : Int))) (lv' := [(2, .int (iI ((t9) + (1 : Int)))), (7, .int (iI (((y).2 19) ((((4 : Int)) * (((y).2 20) (g).toNat)) + (z)).toNat))), (6, .int (iI (((y).2 18) ((((4 : Int)) * (g)) + (z)).toNat))), (0, .ref (h)), (3, .int (iI (k))), (4, .int (iI (g))), (5, .int (iI (z)))]) hx hb dX12_plant_297 hl (k := 3) rfl (iI_add _ _) (by decide) rfl (fun ls hl => ?_)
                    refine lv_iinc (v := iI ((z) + (1 : Int))) (lv' := [(5, .int (iI ((z) + (1 : Int)))), (2, .int (iI ((t9) + (1 : Int)))), (7, .int (iI (((y).2 19) ((((4 : Int)) * (((y).2 20) (g).toNat)) + (z)).toNat))), (6, .int (iI (((y).2 18) ((((4 : Int)) * (g)) + (z)).toNat))), (0, .ref (h)), (3, .int (iI (k))), (4, .int (iI (g)))]) hx hb dX12_plant_300 hl (k := 6) rfl (iI_add _ _) (by decide) rfl (fun ls hl => ?_)
                    refine lv_goto (tgt := 146) hx hb dX12_plant_303 (by decide) ?_
                    exact ih.2.2.2.1 (aU (aU (aU (aU (y) 19 ((((4 : Int)) * (g)) + (z)).toNat (((y).2 19) ((((4 : Int)) * (((y).2 20) (g).toNat)) + (z)).toNat)) 20 (((y).2 18) ((((4 : Int)) * (g)) + (z)).toNat).toNat (((y).2 19) ((((4 : Int)) * (((y).2 20) (g).toNat)) + (z)).toNat)) 21 (((y).2 18) ((((4 : Int)) * (g)) + (z)).toNat).toNat (((y).2 21) ((iU ((y).2 20) (((y).2 18) ((((4 : Int)) * (g)) + (z)).toNat).toNat (((y).2 19) ((((4 : Int)) * (((y).2 20) (g).toNat)) + (z)).toNat)) (((y).2 18) ((((4 : Int)) * (g)) + (z)).toNat).toNat).toNat)) 22 (t9).toNat (((y).2 18) ((((4 : Int)) * (g)) + (z)).toNat)) ((t9) + (1 : Int)) (k) (g) ((z) + (1 : Int)) (by first | (exfalso; omega) | exact pC_push pr pc hg k0 k1 z0 (by omega) rfl (by omega) (by first | (rw [if_pos (by omega)]; done) | (rw [if_neg (by omega)]; done)) (by first | (rw [iU_s, if_pos (by assumption)]; done) | (rw [if_neg (by assumption)]; done))) (by first | exact hg | rfl | (rw [yU_s, iU_n (by omega)]; exact hg) | (show _ = y.2 22 k.toNat; exact hg) | (show _ = iU (y.2 22) t9.toNat _ k.toNat; rw [iU_n (by omega)]; exact hg) | (exfalso; omega)) (by omega) (by omega) (by omega) (by omega) (by omega) (by omega) (by first | omega | (exfalso; omega)) hres _ _ ls hP hD hS (lv_sub hl [4, 1, 5, 6, 0] rfl)
                · skip
                  rw [if_pos c_238] at hres
                  refine lv_iconst (v := iI (0 : Int)) hx hb dX12_plant_241 (by decide) ?_
                  refine lv_goto (tgt := 247) hx hb dX12_plant_242 (by decide) ?_
                  refine wi_iast (f := (aU (y) 19 ((((4 : Int)) * (g)) + (z)).toNat (((y).2 19) ((((4 : Int)) * (((y).2 20) (g).toNat)) + (z)).toNat)).2 20) hx hb hK hP hD hS 14 0 rfl rfl (i := ((y).2 18) ((((4 : Int)) * (g)) + (z)).toNat) (x := (0 : Int)) (by omega) (by omega) (by decide) dX12_plant_247 (fun H locs hP hD hS => ?_)
                  rw [mW_a20] at hP hD
                  refine lv_aload_n hx hb dX12_plant_248 rfl (lv_at hl 2 rfl) ?_
                  refine va_get (D := (dC, dI)) (ci := 12) (v := .ref (ad 21)) (C := RX12) (T := TX12) (N := 34) hx hb hts hin hown hK hP 0 rfl rfl 21 (by decide) (hts (.fieldLink RX12 59 "LikeWordsModel" "ends" "[I") (by decide +kernel)) (fun _ h9 => h9) rfl dX12_plant_249 ?_
                  refine lv_iload hx hb dX12_plant_252 (lv_at hl 1 rfl) ?_
                  refine lv_aload_n hx hb dX12_plant_254 rfl (lv_at hl 2 rfl) ?_
                  refine va_get (D := (dC, dI)) (ci := 12) (v := .ref (ad 21)) (C := RX12) (T := TX12) (N := 34) hx hb hts hin hown hK hP 0 rfl rfl 21 (by decide) (hts (.fieldLink RX12 59 "LikeWordsModel" "ends" "[I") (by decide +kernel)) (fun _ h9 => h9) rfl dX12_plant_255 ?_
                  refine lv_iload hx hb dX12_plant_258 (lv_at hl 1 rfl) ?_
                  refine wi_iald (f := (y).2 21) hx hb hK hP 15 0 rfl rfl (i := ((y).2 18) ((((4 : Int)) * (g)) + (z)).toNat) (by omega) (by omega) (by decide) dX12_plant_260 ?_
                  refine lv_bipush (v := iI (-9 : Int)) hx hb dX12_plant_261 (by decide) ?_
                  have ce := pC_e pr pc hg k0 k1 z0 (by omega) (by assumption)
                  refine wi_icmp_ne (tgt := 281) hx hb (by unfold iR; omega) (by unfold iR; omega) dX12_plant_263 (by decide) (fun c_263 => ?_) (fun c_263 => ?_)
                  · skip
                    rw [if_neg c_263] at hres
                    refine lv_aload_n hx hb dX12_plant_281 rfl (lv_at hl 2 rfl) ?_
                    refine va_get (D := (dC, dI)) (ci := 12) (v := .ref (ad 21)) (C := RX12) (T := TX12) (N := 34) hx hb hts hin hown hK hP 0 rfl rfl 21 (by decide) (hts (.fieldLink RX12 59 "LikeWordsModel" "ends" "[I") (by decide +kernel)) (fun _ h9 => h9) rfl dX12_plant_282 ?_
                    refine lv_iload hx hb dX12_plant_285 (lv_at hl 1 rfl) ?_
                    refine wi_iald (f := (y).2 21) hx hb hK hP 15 0 rfl rfl (i := ((y).2 18) ((((4 : Int)) * (g)) + (z)).toNat) (by omega) (by omega) (by decide) dX12_plant_287 ?_
                    refine wi_iast (f := (aU (aU (y) 19 ((((4 : Int)) * (g)) + (z)).toNat (((y).2 19) ((((4 : Int)) * (((y).2 20) (g).toNat)) + (z)).toNat)) 20 (((y).2 18) ((((4 : Int)) * (g)) + (z)).toNat).toNat ((0 : Int))).2 21) hx hb hK hP hD hS 15 0 rfl rfl (i := ((y).2 18) ((((4 : Int)) * (g)) + (z)).toNat) (x := ((y).2 21) (((y).2 18) ((((4 : Int)) * (g)) + (z)).toNat).toNat) (by omega) (by omega) (by decide) dX12_plant_288 (fun H locs hP hD hS => ?_)
                    rw [mW_a21] at hP hD
                    refine lv_aload_n hx hb dX12_plant_289 rfl (lv_at hl 2 rfl) ?_
                    refine va_get (D := (dC, dI)) (ci := 12) (v := .ref (ad 22)) (C := RX12) (T := TX12) (N := 34) hx hb hts hin hown hK hP 0 rfl rfl 22 (by decide) (hts (.fieldLink RX12 62 "LikeWordsModel" "order" "[I") (by decide +kernel)) (fun _ h9 => h9) rfl dX12_plant_290 ?_
                    refine lv_iload_n hx hb dX12_plant_293 rfl (lv_at hl 3 rfl) ?_
                    refine lv_iload hx hb dX12_plant_294 (lv_at hl 1 rfl) ?_
                    refine wi_iast (f := (aU (aU (aU (y) 19 ((((4 : Int)) * (g)) + (z)).toNat (((y).2 19) ((((4 : Int)) * (((y).2 20) (g).toNat)) + (z)).toNat)) 20 (((y).2 18) ((((4 : Int)) * (g)) + (z)).toNat).toNat ((0 : Int))) 21 (((y).2 18) ((((4 : Int)) * (g)) + (z)).toNat).toNat (((y).2 21) (((y).2 18) ((((4 : Int)) * (g)) + (z)).toNat).toNat)).2 22) hx hb hK hP hD hS 16 0 rfl rfl (i := t9) (x := ((y).2 18) ((((4 : Int)) * (g)) + (z)).toNat) (by omega) (by omega) (by decide) dX12_plant_296 (fun H locs hP hD hS => ?_)
                    rw [mW_a22] at hP hD
                    refine lv_iinc (v := iI ((t9) + (1 : Int))) (lv' := [(2, .int (iI ((t9) + (1 : Int)))), (7, .int (iI (((y).2 19) ((((4 : Int)) * (((y).2 20) (g).toNat)) + (z)).toNat))), (6, .int (iI (((y).2 18) ((((4 : Int)) * (g)) + (z)).toNat))), (0, .ref (h)), (3, .int (iI (k))), (4, .int (iI (g))), (5, .int (iI (z)))]) hx hb dX12_plant_297 hl (k := 3) rfl (iI_add _ _) (by decide) rfl (fun ls hl => ?_)
                    refine lv_iinc (v := iI ((z) + (1 : Int))) (lv' := [(5, .int (iI ((z) + (1 : Int)))), (2, .int (iI ((t9) + (1 : Int)))), (7, .int (iI (((y).2 19) ((((4 : Int)) * (((y).2 20) (g).toNat)) + (z)).toNat))), (6, .int (iI (((y).2 18) ((((4 : Int)) * (g)) + (z)).toNat))), (0, .ref (h)), (3, .int (iI (k))), (4, .int (iI (g)))]) hx hb dX12_plant_300 hl (k := 6) rfl (iI_add _ _) (by decide) rfl (fun ls hl => ?_)
                    refine lv_goto (tgt := 146) hx hb dX12_plant_303 (by decide) ?_
                    exact ih.2.2.2.1 (aU (aU (aU (aU (y) 19 ((((4 : Int)) * (g)) + (z)).toNat (((y).2 19) ((((4 : Int)) * (((y).2 20) (g).toNat)) + (z)).toNat)) 20 (((y).2 18) ((((4 : Int)) * (g)) + (z)).toNat).toNat ((0 : Int))) 21 (((y).2 18) ((((4 : Int)) * (g)) + (z)).toNat).toNat (((y).2 21) (((y).2 18) ((((4 : Int)) * (g)) + (z)).toNat).toNat)) 22 (t9).toNat (((y).2 18) ((((4 : Int)) * (g)) + (z)).toNat)) ((t9) + (1 : Int)) (k) (g) ((z) + (1 : Int)) (by first | (exfalso; omega) | exact pC_push pr pc hg k0 k1 z0 (by omega) rfl (by omega) (by first | (rw [if_pos (by omega)]; done) | (rw [if_neg (by omega)]; done)) (by first | (rw [iU_s, if_pos (by assumption)]; done) | (rw [if_neg (by assumption)]; done))) (by first | exact hg | rfl | (rw [yU_s, iU_n (by omega)]; exact hg) | (show _ = y.2 22 k.toNat; exact hg) | (show _ = iU (y.2 22) t9.toNat _ k.toNat; rw [iU_n (by omega)]; exact hg) | (exfalso; omega)) (by omega) (by omega) (by omega) (by omega) (by omega) (by omega) (by first | omega | (exfalso; omega)) hres _ _ ls hP hD hS (lv_sub hl [4, 1, 5, 6, 0] rfl)
                  · skip
                    rw [if_pos c_263] at hres
                    refine lv_aload_n hx hb dX12_plant_266 rfl (lv_at hl 2 rfl) ?_
                    refine va_get (D := (dC, dI)) (ci := 12) (v := .ref (ad 21)) (C := RX12) (T := TX12) (N := 34) hx hb hts hin hown hK hP 0 rfl rfl 21 (by decide) (hts (.fieldLink RX12 59 "LikeWordsModel" "ends" "[I") (by decide +kernel)) (fun _ h9 => h9) rfl dX12_plant_267 ?_
                    refine lv_aload_n hx hb dX12_plant_270 rfl (lv_at hl 2 rfl) ?_
                    refine va_get (D := (dC, dI)) (ci := 12) (v := .ref (ad 20)) (C := RX12) (T := TX12) (N := 34) hx hb hts hin hown hK hP 0 rfl rfl 20 (by decide) (hts (.fieldLink RX12 56 "LikeWordsModel" "back" "[I") (by decide +kernel)) (fun _ h9 => h9) rfl dX12_plant_271 ?_
                    refine lv_iload hx hb dX12_plant_274 (lv_at hl 1 rfl) ?_
                    refine wi_iald (f := iU ((y).2 20) (((y).2 18) ((((4 : Int)) * (g)) + (z)).toNat).toNat ((0 : Int))) hx hb hK hP 14 0 rfl rfl (i := ((y).2 18) ((((4 : Int)) * (g)) + (z)).toNat) (by omega) (by omega) (by decide) dX12_plant_276 ?_
                    refine wi_iald (f := (y).2 21) hx hb hK hP 15 0 rfl rfl (i := (iU ((y).2 20) (((y).2 18) ((((4 : Int)) * (g)) + (z)).toNat).toNat ((0 : Int))) (((y).2 18) ((((4 : Int)) * (g)) + (z)).toNat).toNat) (by rw [iU_s]; omega) (by rw [iU_s]; omega) (by decide) dX12_plant_277 ?_
                    refine lv_goto (tgt := 288) hx hb dX12_plant_278 (by decide) ?_
                    refine wi_iast (f := (aU (aU (y) 19 ((((4 : Int)) * (g)) + (z)).toNat (((y).2 19) ((((4 : Int)) * (((y).2 20) (g).toNat)) + (z)).toNat)) 20 (((y).2 18) ((((4 : Int)) * (g)) + (z)).toNat).toNat ((0 : Int))).2 21) hx hb hK hP hD hS 15 0 rfl rfl (i := ((y).2 18) ((((4 : Int)) * (g)) + (z)).toNat) (x := ((y).2 21) ((iU ((y).2 20) (((y).2 18) ((((4 : Int)) * (g)) + (z)).toNat).toNat ((0 : Int))) (((y).2 18) ((((4 : Int)) * (g)) + (z)).toNat).toNat).toNat) (by omega) (by omega) (by decide) dX12_plant_288 (fun H locs hP hD hS => ?_)
                    rw [mW_a21] at hP hD
                    refine lv_aload_n hx hb dX12_plant_289 rfl (lv_at hl 2 rfl) ?_
                    refine va_get (D := (dC, dI)) (ci := 12) (v := .ref (ad 22)) (C := RX12) (T := TX12) (N := 34) hx hb hts hin hown hK hP 0 rfl rfl 22 (by decide) (hts (.fieldLink RX12 62 "LikeWordsModel" "order" "[I") (by decide +kernel)) (fun _ h9 => h9) rfl dX12_plant_290 ?_
                    refine lv_iload_n hx hb dX12_plant_293 rfl (lv_at hl 3 rfl) ?_
                    refine lv_iload hx hb dX12_plant_294 (lv_at hl 1 rfl) ?_
                    refine wi_iast (f := (aU (aU (aU (y) 19 ((((4 : Int)) * (g)) + (z)).toNat (((y).2 19) ((((4 : Int)) * (((y).2 20) (g).toNat)) + (z)).toNat)) 20 (((y).2 18) ((((4 : Int)) * (g)) + (z)).toNat).toNat ((0 : Int))) 21 (((y).2 18) ((((4 : Int)) * (g)) + (z)).toNat).toNat (((y).2 21) ((iU ((y).2 20) (((y).2 18) ((((4 : Int)) * (g)) + (z)).toNat).toNat ((0 : Int))) (((y).2 18) ((((4 : Int)) * (g)) + (z)).toNat).toNat).toNat)).2 22) hx hb hK hP hD hS 16 0 rfl rfl (i := t9) (x := ((y).2 18) ((((4 : Int)) * (g)) + (z)).toNat) (by omega) (by omega) (by decide) dX12_plant_296 (fun H locs hP hD hS => ?_)
                    rw [mW_a22] at hP hD
                    refine lv_iinc (v := iI ((t9) + (1 : Int))) (lv' := [(2, .int (iI ((t9) + (1 : Int)))), (7, .int (iI (((y).2 19) ((((4 : Int)) * (((y).2 20) (g).toNat)) + (z)).toNat))), (6, .int (iI (((y).2 18) ((((4 : Int)) * (g)) + (z)).toNat))), (0, .ref (h)), (3, .int (iI (k))), (4, .int (iI (g))), (5, .int (iI (z)))]) hx hb dX12_plant_297 hl (k := 3) rfl (iI_add _ _) (by decide) rfl (fun ls hl => ?_)
                    refine lv_iinc (v := iI ((z) + (1 : Int))) (lv' := [(5, .int (iI ((z) + (1 : Int)))), (2, .int (iI ((t9) + (1 : Int)))), (7, .int (iI (((y).2 19) ((((4 : Int)) * (((y).2 20) (g).toNat)) + (z)).toNat))), (6, .int (iI (((y).2 18) ((((4 : Int)) * (g)) + (z)).toNat))), (0, .ref (h)), (3, .int (iI (k))), (4, .int (iI (g)))]) hx hb dX12_plant_300 hl (k := 6) rfl (iI_add _ _) (by decide) rfl (fun ls hl => ?_)
                    refine lv_goto (tgt := 146) hx hb dX12_plant_303 (by decide) ?_
                    exact ih.2.2.2.1 (aU (aU (aU (aU (y) 19 ((((4 : Int)) * (g)) + (z)).toNat (((y).2 19) ((((4 : Int)) * (((y).2 20) (g).toNat)) + (z)).toNat)) 20 (((y).2 18) ((((4 : Int)) * (g)) + (z)).toNat).toNat ((0 : Int))) 21 (((y).2 18) ((((4 : Int)) * (g)) + (z)).toNat).toNat (((y).2 21) ((iU ((y).2 20) (((y).2 18) ((((4 : Int)) * (g)) + (z)).toNat).toNat ((0 : Int))) (((y).2 18) ((((4 : Int)) * (g)) + (z)).toNat).toNat).toNat)) 22 (t9).toNat (((y).2 18) ((((4 : Int)) * (g)) + (z)).toNat)) ((t9) + (1 : Int)) (k) (g) ((z) + (1 : Int)) (by first | (exfalso; omega) | exact pC_push pr pc hg k0 k1 z0 (by omega) rfl (by omega) (by first | (rw [if_pos (by omega)]; done) | (rw [if_neg (by omega)]; done)) (by first | (rw [iU_s, if_pos (by assumption)]; done) | (rw [if_neg (by assumption)]; done))) (by first | exact hg | rfl | (rw [yU_s, iU_n (by omega)]; exact hg) | (show _ = y.2 22 k.toNat; exact hg) | (show _ = iU (y.2 22) t9.toNat _ k.toNat; rw [iU_n (by omega)]; exact hg) | (exfalso; omega)) (by omega) (by omega) (by omega) (by omega) (by omega) (by omega) (by first | omega | (exfalso; omega)) hres _ _ ls hP hD hS (lv_sub hl [4, 1, 5, 6, 0] rfl)
          · skip
            rw [if_pos c_171] at hres
            refine lv_iconst (v := iI (0 : Int)) hx hb dX12_plant_174 (by decide) ?_
            refine lv_goto (tgt := 195) hx hb dX12_plant_175 (by decide) ?_
            refine lv_istore (lv' := [(7, .int (iI ((0 : Int)))), (6, .int (iI (((y).2 18) ((((4 : Int)) * (g)) + (z)).toNat))), (0, .ref (h)), (2, .int (iI (t9))), (3, .int (iI (k))), (4, .int (iI (g))), (5, .int (iI (z)))]) hx hb dX12_plant_195 hl (by decide) rfl (fun ls hl => ?_)
            refine lv_aload_n hx hb dX12_plant_197 rfl (lv_at hl 2 rfl) ?_
            refine va_get (D := (dC, dI)) (ci := 12) (v := .ref (ad 19)) (C := RX12) (T := TX12) (N := 34) hx hb hts hin hown hK hP 0 rfl rfl 19 (by decide) (hts (.fieldLink RX12 53 "LikeWordsModel" "go" "[I") (by decide +kernel)) (fun _ h9 => h9) rfl dX12_plant_198 ?_
            refine lv_iconst (v := iI (4 : Int)) hx hb dX12_plant_201 (by decide) ?_
            refine lv_iload hx hb dX12_plant_202 (lv_at hl 5 rfl) ?_
            refine wi_imul hx hb dX12_plant_204 ?_
            refine lv_iload hx hb dX12_plant_205 (lv_at hl 6 rfl) ?_
            refine wi_iadd hx hb dX12_plant_207 ?_
            refine lv_iload hx hb dX12_plant_208 (lv_at hl 1 rfl) ?_
            refine lv_bipush (v := iI (-9 : Int)) hx hb dX12_plant_210 (by decide) ?_
            refine wi_icmp_ne (tgt := 220) hx hb (by first | assumption | (unfold iR; omega) | exact F_R01 (by assumption)) ⟨by decide, by decide⟩ dX12_plant_212 (by decide) (fun c_212 => ?_) (fun c_212 => ?_)
            · skip
              rw [if_neg c_212] at hres
              refine lv_iload hx hb dX12_plant_220 (lv_at hl 1 rfl) ?_
              refine wi_iast (f := (y).2 19) hx hb hK hP hD hS 13 0 rfl rfl (i := (((4 : Int)) * (g)) + (z)) (x := ((y).2 18) ((((4 : Int)) * (g)) + (z)).toNat) (by omega) (by omega) (by decide) dX12_plant_222 (fun H locs hP hD hS => ?_)
              rw [mW_a19] at hP hD
              refine lv_iload hx hb dX12_plant_223 (lv_at hl 1 rfl) ?_
              refine lv_bipush (v := iI (-9 : Int)) hx hb dX12_plant_225 (by decide) ?_
              refine wi_icmp_eq (tgt := 300) hx hb (by first | assumption | (unfold iR; omega) | exact F_R01 (by assumption)) ⟨by decide, by decide⟩ dX12_plant_227 (by decide) (fun c_227 => ?_) (fun c_227 => ?_)
              · skip
                rw [if_pos c_227] at hres
                refine lv_iinc (v := iI ((z) + (1 : Int))) (lv' := [(5, .int (iI ((z) + (1 : Int)))), (7, .int (iI ((0 : Int)))), (6, .int (iI (((y).2 18) ((((4 : Int)) * (g)) + (z)).toNat))), (0, .ref (h)), (2, .int (iI (t9))), (3, .int (iI (k))), (4, .int (iI (g)))]) hx hb dX12_plant_300 hl (k := 6) rfl (iI_add _ _) (by decide) rfl (fun ls hl => ?_)
                refine lv_goto (tgt := 146) hx hb dX12_plant_303 (by decide) ?_
                exact ih.2.2.2.1 (aU (y) 19 ((((4 : Int)) * (g)) + (z)).toNat (((y).2 18) ((((4 : Int)) * (g)) + (z)).toNat)) (t9) (k) (g) ((z) + (1 : Int)) (by first | (exfalso; omega) | exact pC_none pr pc hg k0 k1 z0 (by omega) (by omega) (by first | (rw [if_pos (by omega)]; done) | (rw [if_neg (by omega)]; done))) (by first | exact hg | rfl | (rw [yU_s, iU_n (by omega)]; exact hg) | (show _ = y.2 22 k.toNat; exact hg) | (show _ = iU (y.2 22) t9.toNat _ k.toNat; rw [iU_n (by omega)]; exact hg) | (exfalso; omega)) (by omega) (by omega) (by omega) (by omega) (by omega) (by omega) (by first | omega | (exfalso; omega)) hres _ _ ls hP hD hS (lv_sub hl [3, 4, 5, 6, 0] rfl)
              · skip
                rw [if_neg c_227] at hres
                refine lv_aload_n hx hb dX12_plant_230 rfl (lv_at hl 2 rfl) ?_
                refine va_get (D := (dC, dI)) (ci := 12) (v := .ref (ad 20)) (C := RX12) (T := TX12) (N := 34) hx hb hts hin hown hK hP 0 rfl rfl 20 (by decide) (hts (.fieldLink RX12 56 "LikeWordsModel" "back" "[I") (by decide +kernel)) (fun _ h9 => h9) rfl dX12_plant_231 ?_
                refine lv_iload hx hb dX12_plant_234 (lv_at hl 1 rfl) ?_
                refine lv_iload hx hb dX12_plant_236 (lv_at hl 5 rfl) ?_
                refine wi_if_ne (tgt := 245) hx hb (by first | assumption | (unfold iR; omega) | exact F_R01 (by assumption)) dX12_plant_238 (by decide) (fun c_238 => ?_) (fun c_238 => ?_)
                · skip
                  rw [if_neg c_238] at hres
                  refine lv_iload hx hb dX12_plant_245 (lv_at hl 0 rfl) ?_
                  refine wi_iast (f := (aU (y) 19 ((((4 : Int)) * (g)) + (z)).toNat (((y).2 18) ((((4 : Int)) * (g)) + (z)).toNat)).2 20) hx hb hK hP hD hS 14 0 rfl rfl (i := ((y).2 18) ((((4 : Int)) * (g)) + (z)).toNat) (x := (0 : Int)) (by omega) (by omega) (by decide) dX12_plant_247 (fun H locs hP hD hS => ?_)
                  rw [mW_a20] at hP hD
                  refine lv_aload_n hx hb dX12_plant_248 rfl (lv_at hl 2 rfl) ?_
                  refine va_get (D := (dC, dI)) (ci := 12) (v := .ref (ad 21)) (C := RX12) (T := TX12) (N := 34) hx hb hts hin hown hK hP 0 rfl rfl 21 (by decide) (hts (.fieldLink RX12 59 "LikeWordsModel" "ends" "[I") (by decide +kernel)) (fun _ h9 => h9) rfl dX12_plant_249 ?_
                  refine lv_iload hx hb dX12_plant_252 (lv_at hl 1 rfl) ?_
                  refine lv_aload_n hx hb dX12_plant_254 rfl (lv_at hl 2 rfl) ?_
                  refine va_get (D := (dC, dI)) (ci := 12) (v := .ref (ad 21)) (C := RX12) (T := TX12) (N := 34) hx hb hts hin hown hK hP 0 rfl rfl 21 (by decide) (hts (.fieldLink RX12 59 "LikeWordsModel" "ends" "[I") (by decide +kernel)) (fun _ h9 => h9) rfl dX12_plant_255 ?_
                  refine lv_iload hx hb dX12_plant_258 (lv_at hl 1 rfl) ?_
                  refine wi_iald (f := (y).2 21) hx hb hK hP 15 0 rfl rfl (i := ((y).2 18) ((((4 : Int)) * (g)) + (z)).toNat) (by omega) (by omega) (by decide) dX12_plant_260 ?_
                  refine lv_bipush (v := iI (-9 : Int)) hx hb dX12_plant_261 (by decide) ?_
                  have ce := pC_e pr pc hg k0 k1 z0 (by omega) (by assumption)
                  refine wi_icmp_ne (tgt := 281) hx hb (by unfold iR; omega) (by unfold iR; omega) dX12_plant_263 (by decide) (fun c_263 => ?_) (fun c_263 => ?_)
                  · skip
                    rw [if_neg c_263] at hres
                    refine lv_aload_n hx hb dX12_plant_281 rfl (lv_at hl 2 rfl) ?_
                    refine va_get (D := (dC, dI)) (ci := 12) (v := .ref (ad 21)) (C := RX12) (T := TX12) (N := 34) hx hb hts hin hown hK hP 0 rfl rfl 21 (by decide) (hts (.fieldLink RX12 59 "LikeWordsModel" "ends" "[I") (by decide +kernel)) (fun _ h9 => h9) rfl dX12_plant_282 ?_
                    refine lv_iload hx hb dX12_plant_285 (lv_at hl 1 rfl) ?_
                    refine wi_iald (f := (y).2 21) hx hb hK hP 15 0 rfl rfl (i := ((y).2 18) ((((4 : Int)) * (g)) + (z)).toNat) (by omega) (by omega) (by decide) dX12_plant_287 ?_
                    refine wi_iast (f := (aU (aU (y) 19 ((((4 : Int)) * (g)) + (z)).toNat (((y).2 18) ((((4 : Int)) * (g)) + (z)).toNat)) 20 (((y).2 18) ((((4 : Int)) * (g)) + (z)).toNat).toNat ((0 : Int))).2 21) hx hb hK hP hD hS 15 0 rfl rfl (i := ((y).2 18) ((((4 : Int)) * (g)) + (z)).toNat) (x := ((y).2 21) (((y).2 18) ((((4 : Int)) * (g)) + (z)).toNat).toNat) (by omega) (by omega) (by decide) dX12_plant_288 (fun H locs hP hD hS => ?_)
                    rw [mW_a21] at hP hD
                    refine lv_aload_n hx hb dX12_plant_289 rfl (lv_at hl 2 rfl) ?_
                    refine va_get (D := (dC, dI)) (ci := 12) (v := .ref (ad 22)) (C := RX12) (T := TX12) (N := 34) hx hb hts hin hown hK hP 0 rfl rfl 22 (by decide) (hts (.fieldLink RX12 62 "LikeWordsModel" "order" "[I") (by decide +kernel)) (fun _ h9 => h9) rfl dX12_plant_290 ?_
                    refine lv_iload_n hx hb dX12_plant_293 rfl (lv_at hl 3 rfl) ?_
                    refine lv_iload hx hb dX12_plant_294 (lv_at hl 1 rfl) ?_
                    refine wi_iast (f := (aU (aU (aU (y) 19 ((((4 : Int)) * (g)) + (z)).toNat (((y).2 18) ((((4 : Int)) * (g)) + (z)).toNat)) 20 (((y).2 18) ((((4 : Int)) * (g)) + (z)).toNat).toNat ((0 : Int))) 21 (((y).2 18) ((((4 : Int)) * (g)) + (z)).toNat).toNat (((y).2 21) (((y).2 18) ((((4 : Int)) * (g)) + (z)).toNat).toNat)).2 22) hx hb hK hP hD hS 16 0 rfl rfl (i := t9) (x := ((y).2 18) ((((4 : Int)) * (g)) + (z)).toNat) (by omega) (by omega) (by decide) dX12_plant_296 (fun H locs hP hD hS => ?_)
                    rw [mW_a22] at hP hD
                    refine lv_iinc (v := iI ((t9) + (1 : Int))) (lv' := [(2, .int (iI ((t9) + (1 : Int)))), (7, .int (iI ((0 : Int)))), (6, .int (iI (((y).2 18) ((((4 : Int)) * (g)) + (z)).toNat))), (0, .ref (h)), (3, .int (iI (k))), (4, .int (iI (g))), (5, .int (iI (z)))]) hx hb dX12_plant_297 hl (k := 3) rfl (iI_add _ _) (by decide) rfl (fun ls hl => ?_)
                    refine lv_iinc (v := iI ((z) + (1 : Int))) (lv' := [(5, .int (iI ((z) + (1 : Int)))), (2, .int (iI ((t9) + (1 : Int)))), (7, .int (iI ((0 : Int)))), (6, .int (iI (((y).2 18) ((((4 : Int)) * (g)) + (z)).toNat))), (0, .ref (h)), (3, .int (iI (k))), (4, .int (iI (g)))]) hx hb dX12_plant_300 hl (k := 6) rfl (iI_add _ _) (by decide) rfl (fun ls hl => ?_)
                    refine lv_goto (tgt := 146) hx hb dX12_plant_303 (by decide) ?_
                    exact ih.2.2.2.1 (aU (aU (aU (aU (y) 19 ((((4 : Int)) * (g)) + (z)).toNat (((y).2 18) ((((4 : Int)) * (g)) + (z)).toNat)) 20 (((y).2 18) ((((4 : Int)) * (g)) + (z)).toNat).toNat ((0 : Int))) 21 (((y).2 18) ((((4 : Int)) * (g)) + (z)).toNat).toNat (((y).2 21) (((y).2 18) ((((4 : Int)) * (g)) + (z)).toNat).toNat)) 22 (t9).toNat (((y).2 18) ((((4 : Int)) * (g)) + (z)).toNat)) ((t9) + (1 : Int)) (k) (g) ((z) + (1 : Int)) (by first | (exfalso; omega) | exact pC_push pr pc hg k0 k1 z0 (by omega) rfl (by omega) (by first | (rw [if_pos (by omega)]; done) | (rw [if_neg (by omega)]; done)) (by first | (rw [iU_s, if_pos (by assumption)]; done) | (rw [if_neg (by assumption)]; done))) (by first | exact hg | rfl | (rw [yU_s, iU_n (by omega)]; exact hg) | (show _ = y.2 22 k.toNat; exact hg) | (show _ = iU (y.2 22) t9.toNat _ k.toNat; rw [iU_n (by omega)]; exact hg) | (exfalso; omega)) (by omega) (by omega) (by omega) (by omega) (by omega) (by omega) (by first | omega | (exfalso; omega)) hres _ _ ls hP hD hS (lv_sub hl [4, 1, 5, 6, 0] rfl)
                  · skip
                    rw [if_pos c_263] at hres
                    refine lv_aload_n hx hb dX12_plant_266 rfl (lv_at hl 2 rfl) ?_
                    refine va_get (D := (dC, dI)) (ci := 12) (v := .ref (ad 21)) (C := RX12) (T := TX12) (N := 34) hx hb hts hin hown hK hP 0 rfl rfl 21 (by decide) (hts (.fieldLink RX12 59 "LikeWordsModel" "ends" "[I") (by decide +kernel)) (fun _ h9 => h9) rfl dX12_plant_267 ?_
                    refine lv_aload_n hx hb dX12_plant_270 rfl (lv_at hl 2 rfl) ?_
                    refine va_get (D := (dC, dI)) (ci := 12) (v := .ref (ad 20)) (C := RX12) (T := TX12) (N := 34) hx hb hts hin hown hK hP 0 rfl rfl 20 (by decide) (hts (.fieldLink RX12 56 "LikeWordsModel" "back" "[I") (by decide +kernel)) (fun _ h9 => h9) rfl dX12_plant_271 ?_
                    refine lv_iload hx hb dX12_plant_274 (lv_at hl 1 rfl) ?_
                    refine wi_iald (f := iU ((y).2 20) (((y).2 18) ((((4 : Int)) * (g)) + (z)).toNat).toNat ((0 : Int))) hx hb hK hP 14 0 rfl rfl (i := ((y).2 18) ((((4 : Int)) * (g)) + (z)).toNat) (by omega) (by omega) (by decide) dX12_plant_276 ?_
                    refine wi_iald (f := (y).2 21) hx hb hK hP 15 0 rfl rfl (i := (iU ((y).2 20) (((y).2 18) ((((4 : Int)) * (g)) + (z)).toNat).toNat ((0 : Int))) (((y).2 18) ((((4 : Int)) * (g)) + (z)).toNat).toNat) (by rw [iU_s]; omega) (by rw [iU_s]; omega) (by decide) dX12_plant_277 ?_
                    refine lv_goto (tgt := 288) hx hb dX12_plant_278 (by decide) ?_
                    refine wi_iast (f := (aU (aU (y) 19 ((((4 : Int)) * (g)) + (z)).toNat (((y).2 18) ((((4 : Int)) * (g)) + (z)).toNat)) 20 (((y).2 18) ((((4 : Int)) * (g)) + (z)).toNat).toNat ((0 : Int))).2 21) hx hb hK hP hD hS 15 0 rfl rfl (i := ((y).2 18) ((((4 : Int)) * (g)) + (z)).toNat) (x := ((y).2 21) ((iU ((y).2 20) (((y).2 18) ((((4 : Int)) * (g)) + (z)).toNat).toNat ((0 : Int))) (((y).2 18) ((((4 : Int)) * (g)) + (z)).toNat).toNat).toNat) (by omega) (by omega) (by decide) dX12_plant_288 (fun H locs hP hD hS => ?_)
                    rw [mW_a21] at hP hD
                    refine lv_aload_n hx hb dX12_plant_289 rfl (lv_at hl 2 rfl) ?_
                    refine va_get (D := (dC, dI)) (ci := 12) (v := .ref (ad 22)) (C := RX12) (T := TX12) (N := 34) hx hb hts hin hown hK hP 0 rfl rfl 22 (by decide) (hts (.fieldLink RX12 62 "LikeWordsModel" "order" "[I") (by decide +kernel)) (fun _ h9 => h9) rfl dX12_plant_290 ?_
                    refine lv_iload_n hx hb dX12_plant_293 rfl (lv_at hl 3 rfl) ?_
                    refine lv_iload hx hb dX12_plant_294 (lv_at hl 1 rfl) ?_
                    refine wi_iast (f := (aU (aU (aU (y) 19 ((((4 : Int)) * (g)) + (z)).toNat (((y).2 18) ((((4 : Int)) * (g)) + (z)).toNat)) 20 (((y).2 18) ((((4 : Int)) * (g)) + (z)).toNat).toNat ((0 : Int))) 21 (((y).2 18) ((((4 : Int)) * (g)) + (z)).toNat).toNat (((y).2 21) ((iU ((y).2 20) (((y).2 18) ((((4 : Int)) * (g)) + (z)).toNat).toNat ((0 : Int))) (((y).2 18) ((((4 : Int)) * (g)) + (z)).toNat).toNat).toNat)).2 22) hx hb hK hP hD hS 16 0 rfl rfl (i := t9) (x := ((y).2 18) ((((4 : Int)) * (g)) + (z)).toNat) (by omega) (by omega) (by decide) dX12_plant_296 (fun H locs hP hD hS => ?_)
                    rw [mW_a22] at hP hD
                    refine lv_iinc (v := iI ((t9) + (1 : Int))) (lv' := [(2, .int (iI ((t9) + (1 : Int)))), (7, .int (iI ((0 : Int)))), (6, .int (iI (((y).2 18) ((((4 : Int)) * (g)) + (z)).toNat))), (0, .ref (h)), (3, .int (iI (k))), (4, .int (iI (g))), (5, .int (iI (z)))]) hx hb dX12_plant_297 hl (k := 3) rfl (iI_add _ _) (by decide) rfl (fun ls hl => ?_)
                    refine lv_iinc (v := iI ((z) + (1 : Int))) (lv' := [(5, .int (iI ((z) + (1 : Int)))), (2, .int (iI ((t9) + (1 : Int)))), (7, .int (iI ((0 : Int)))), (6, .int (iI (((y).2 18) ((((4 : Int)) * (g)) + (z)).toNat))), (0, .ref (h)), (3, .int (iI (k))), (4, .int (iI (g)))]) hx hb dX12_plant_300 hl (k := 6) rfl (iI_add _ _) (by decide) rfl (fun ls hl => ?_)
                    refine lv_goto (tgt := 146) hx hb dX12_plant_303 (by decide) ?_
                    exact ih.2.2.2.1 (aU (aU (aU (aU (y) 19 ((((4 : Int)) * (g)) + (z)).toNat (((y).2 18) ((((4 : Int)) * (g)) + (z)).toNat)) 20 (((y).2 18) ((((4 : Int)) * (g)) + (z)).toNat).toNat ((0 : Int))) 21 (((y).2 18) ((((4 : Int)) * (g)) + (z)).toNat).toNat (((y).2 21) ((iU ((y).2 20) (((y).2 18) ((((4 : Int)) * (g)) + (z)).toNat).toNat ((0 : Int))) (((y).2 18) ((((4 : Int)) * (g)) + (z)).toNat).toNat).toNat)) 22 (t9).toNat (((y).2 18) ((((4 : Int)) * (g)) + (z)).toNat)) ((t9) + (1 : Int)) (k) (g) ((z) + (1 : Int)) (by first | (exfalso; omega) | exact pC_push pr pc hg k0 k1 z0 (by omega) rfl (by omega) (by first | (rw [if_pos (by omega)]; done) | (rw [if_neg (by omega)]; done)) (by first | (rw [iU_s, if_pos (by assumption)]; done) | (rw [if_neg (by assumption)]; done))) (by first | exact hg | rfl | (rw [yU_s, iU_n (by omega)]; exact hg) | (show _ = y.2 22 k.toNat; exact hg) | (show _ = iU (y.2 22) t9.toNat _ k.toNat; rw [iU_n (by omega)]; exact hg) | (exfalso; omega)) (by omega) (by omega) (by omega) (by omega) (by omega) (by omega) (by first | omega | (exfalso; omega)) hres _ _ ls hP hD hS (lv_sub hl [4, 1, 5, 6, 0] rfl)
                · skip
                  rw [if_pos c_238] at hres
                  refine lv_iconst (v := iI (0 : Int)) hx hb dX12_plant_241 (by decide) ?_
                  refine lv_goto (tgt := 247) hx hb dX12_plant_242 (by decide) ?_
                  refine wi_iast (f := (aU (y) 19 ((((4 : Int)) * (g)) + (z)).toNat (((y).2 18) ((((4 : Int)) * (g)) + (z)).toNat)).2 20) hx hb hK hP hD hS 14 0 rfl rfl (i := ((y).2 18) ((((4 : Int)) * (g)) + (z)).toNat) (x := (0 : Int)) (by omega) (by omega) (by decide) dX12_plant_247 (fun H locs hP hD hS => ?_)
                  rw [mW_a20] at hP hD
                  refine lv_aload_n hx hb dX12_plant_248 rfl (lv_at hl 2 rfl) ?_
                  refine va_get (D := (dC, dI)) (ci := 12) (v := .ref (ad 21)) (C := RX12) (T := TX12) (N := 34) hx hb hts hin hown hK hP 0 rfl rfl 21 (by decide) (hts (.fieldLink RX12 59 "LikeWordsModel" "ends" "[I") (by decide +kernel)) (fun _ h9 => h9) rfl dX12_plant_249 ?_
                  refine lv_iload hx hb dX12_plant_252 (lv_at hl 1 rfl) ?_
                  refine lv_aload_n hx hb dX12_plant_254 rfl (lv_at hl 2 rfl) ?_
                  refine va_get (D := (dC, dI)) (ci := 12) (v := .ref (ad 21)) (C := RX12) (T := TX12) (N := 34) hx hb hts hin hown hK hP 0 rfl rfl 21 (by decide) (hts (.fieldLink RX12 59 "LikeWordsModel" "ends" "[I") (by decide +kernel)) (fun _ h9 => h9) rfl dX12_plant_255 ?_
                  refine lv_iload hx hb dX12_plant_258 (lv_at hl 1 rfl) ?_
                  refine wi_iald (f := (y).2 21) hx hb hK hP 15 0 rfl rfl (i := ((y).2 18) ((((4 : Int)) * (g)) + (z)).toNat) (by omega) (by omega) (by decide) dX12_plant_260 ?_
                  refine lv_bipush (v := iI (-9 : Int)) hx hb dX12_plant_261 (by decide) ?_
                  have ce := pC_e pr pc hg k0 k1 z0 (by omega) (by assumption)
                  refine wi_icmp_ne (tgt := 281) hx hb (by unfold iR; omega) (by unfold iR; omega) dX12_plant_263 (by decide) (fun c_263 => ?_) (fun c_263 => ?_)
                  · skip
                    rw [if_neg c_263] at hres
                    refine lv_aload_n hx hb dX12_plant_281 rfl (lv_at hl 2 rfl) ?_
                    refine va_get (D := (dC, dI)) (ci := 12) (v := .ref (ad 21)) (C := RX12) (T := TX12) (N := 34) hx hb hts hin hown hK hP 0 rfl rfl 21 (by decide) (hts (.fieldLink RX12 59 "LikeWordsModel" "ends" "[I") (by decide +kernel)) (fun _ h9 => h9) rfl dX12_plant_282 ?_
                    refine lv_iload hx hb dX12_plant_285 (lv_at hl 1 rfl) ?_
                    refine wi_iald (f := (y).2 21) hx hb hK hP 15 0 rfl rfl (i := ((y).2 18) ((((4 : Int)) * (g)) + (z)).toNat) (by omega) (by omega) (by decide) dX12_plant_287 ?_
                    refine wi_iast (f := (aU (aU (y) 19 ((((4 : Int)) * (g)) + (z)).toNat (((y).2 18) ((((4 : Int)) * (g)) + (z)).toNat)) 20 (((y).2 18) ((((4 : Int)) * (g)) + (z)).toNat).toNat ((0 : Int))).2 21) hx hb hK hP hD hS 15 0 rfl rfl (i := ((y).2 18) ((((4 : Int)) * (g)) + (z)).toNat) (x := ((y).2 21) (((y).2 18) ((((4 : Int)) * (g)) + (z)).toNat).toNat) (by omega) (by omega) (by decide) dX12_plant_288 (fun H locs hP hD hS => ?_)
                    rw [mW_a21] at hP hD
                    refine lv_aload_n hx hb dX12_plant_289 rfl (lv_at hl 2 rfl) ?_
                    refine va_get (D := (dC, dI)) (ci := 12) (v := .ref (ad 22)) (C := RX12) (T := TX12) (N := 34) hx hb hts hin hown hK hP 0 rfl rfl 22 (by decide) (hts (.fieldLink RX12 62 "LikeWordsModel" "order" "[I") (by decide +kernel)) (fun _ h9 => h9) rfl dX12_plant_290 ?_
                    refine lv_iload_n hx hb dX12_plant_293 rfl (lv_at hl 3 rfl) ?_
                    refine lv_iload hx hb dX12_plant_294 (lv_at hl 1 rfl) ?_
                    refine wi_iast (f := (aU (aU (aU (y) 19 ((((4 : Int)) * (g)) + (z)).toNat (((y).2 18) ((((4 : Int)) * (g)) + (z)).toNat)) 20 (((y).2 18) ((((4 : Int)) * (g)) + (z)).toNat).toNat ((0 : Int))) 21 (((y).2 18) ((((4 : Int)) * (g)) + (z)).toNat).toNat (((y).2 21) (((y).2 18) ((((4 : Int)) * (g)) + (z)).toNat).toNat)).2 22) hx hb hK hP hD hS 16 0 rfl rfl (i := t9) (x := ((y).2 18) ((((4 : Int)) * (g)) + (z)).toNat) (by omega) (by omega) (by decide) dX12_plant_296 (fun H locs hP hD hS => ?_)
                    rw [mW_a22] at hP hD
                    refine lv_iinc (v := iI ((t9) + (1 : Int))) (lv' := [(2, .int (iI ((t9) + (1 : Int)))), (7, .int (iI ((0 : Int)))), (6, .int (iI (((y).2 18) ((((4 : Int)) * (g)) + (z)).toNat))), (0, .ref (h)), (3, .int (iI (k))), (4, .int (iI (g))), (5, .int (iI (z)))]) hx hb dX12_plant_297 hl (k := 3) rfl (iI_add _ _) (by decide) rfl (fun ls hl => ?_)
                    refine lv_iinc (v := iI ((z) + (1 : Int))) (lv' := [(5, .int (iI ((z) + (1 : Int)))), (2, .int (iI ((t9) + (1 : Int)))), (7, .int (iI ((0 : Int)))), (6, .int (iI (((y).2 18) ((((4 : Int)) * (g)) + (z)).toNat))), (0, .ref (h)), (3, .int (iI (k))), (4, .int (iI (g)))]) hx hb dX12_plant_300 hl (k := 6) rfl (iI_add _ _) (by decide) rfl (fun ls hl => ?_)
                    refine lv_goto (tgt := 146) hx hb dX12_plant_303 (by decide) ?_
                    exact ih.2.2.2.1 (aU (aU (aU (aU (y) 19 ((((4 : Int)) * (g)) + (z)).toNat (((y).2 18) ((((4 : Int)) * (g)) + (z)).toNat)) 20 (((y).2 18) ((((4 : Int)) * (g)) + (z)).toNat).toNat ((0 : Int))) 21 (((y).2 18) ((((4 : Int)) * (g)) + (z)).toNat).toNat (((y).2 21) (((y).2 18) ((((4 : Int)) * (g)) + (z)).toNat).toNat)) 22 (t9).toNat (((y).2 18) ((((4 : Int)) * (g)) + (z)).toNat)) ((t9) + (1 : Int)) (k) (g) ((z) + (1 : Int)) (by first | (exfalso; omega) | exact pC_push pr pc hg k0 k1 z0 (by omega) rfl (by omega) (by first | (rw [if_pos (by omega)]; done) | (rw [if_neg (by omega)]; done)) (by first | (rw [iU_s, if_pos (by assumption)]; done) | (rw [if_neg (by assumption)]; done))) (by first | exact hg | rfl | (rw [yU_s, iU_n (by omega)]; exact hg) | (show _ = y.2 22 k.toNat; exact hg) | (show _ = iU (y.2 22) t9.toNat _ k.toNat; rw [iU_n (by omega)]; exact hg) | (exfalso; omega)) (by omega) (by omega) (by omega) (by omega) (by omega) (by omega) (by first | omega | (exfalso; omega)) hres _ _ ls hP hD hS (lv_sub hl [4, 1, 5, 6, 0] rfl)
                  · skip
                    rw [if_pos c_263] at hres
                    refine lv_aload_n hx hb dX12_plant_266 rfl (lv_at hl 2 rfl) ?_
                    refine va_get (D := (dC, dI)) (ci := 12) (v := .ref (ad 21)) (C := RX12) (T := TX12) (N := 34) hx hb hts hin hown hK hP 0 rfl rfl 21 (by decide) (hts (.fieldLink RX12 59 "LikeWordsModel" "ends" "[I") (by decide +kernel)) (fun _ h9 => h9) rfl dX12_plant_267 ?_
                    refine lv_aload_n hx hb dX12_plant_270 rfl (lv_at hl 2 rfl) ?_
                    refine va_get (D := (dC, dI)) (ci := 12) (v := .ref (ad 20)) (C := RX12) (T := TX12) (N := 34) hx hb hts hin hown hK hP 0 rfl rfl 20 (by decide) (hts (.fieldLink RX12 56 "LikeWordsModel" "back" "[I") (by decide +kernel)) (fun _ h9 => h9) rfl dX12_plant_271 ?_
                    refine lv_iload hx hb dX12_plant_274 (lv_at hl 1 rfl) ?_
                    refine wi_iald (f := iU ((y).2 20) (((y).2 18) ((((4 : Int)) * (g)) + (z)).toNat).toNat ((0 : Int))) hx hb hK hP 14 0 rfl rfl (i := ((y).2 18) ((((4 : Int)) * (g)) + (z)).toNat) (by omega) (by omega) (by decide) dX12_plant_276 ?_
                    refine wi_iald (f := (y).2 21) hx hb hK hP 15 0 rfl rfl (i := (iU ((y).2 20) (((y).2 18) ((((4 : Int)) * (g)) + (z)).toNat).toNat ((0 : Int))) (((y).2 18) ((((4 : Int)) * (g)) + (z)).toNat).toNat) (by rw [iU_s]; omega) (by rw [iU_s]; omega) (by decide) dX12_plant_277 ?_
                    refine lv_goto (tgt := 288) hx hb dX12_plant_278 (by decide) ?_
                    refine wi_iast (f := (aU (aU (y) 19 ((((4 : Int)) * (g)) + (z)).toNat (((y).2 18) ((((4 : Int)) * (g)) + (z)).toNat)) 20 (((y).2 18) ((((4 : Int)) * (g)) + (z)).toNat).toNat ((0 : Int))).2 21) hx hb hK hP hD hS 15 0 rfl rfl (i := ((y).2 18) ((((4 : Int)) * (g)) + (z)).toNat) (x := ((y).2 21) ((iU ((y).2 20) (((y).2 18) ((((4 : Int)) * (g)) + (z)).toNat).toNat ((0 : Int))) (((y).2 18) ((((4 : Int)) * (g)) + (z)).toNat).toNat).toNat) (by omega) (by omega) (by decide) dX12_plant_288 (fun H locs hP hD hS => ?_)
                    rw [mW_a21] at hP hD
                    refine lv_aload_n hx hb dX12_plant_289 rfl (lv_at hl 2 rfl) ?_
                    refine va_get (D := (dC, dI)) (ci := 12) (v := .ref (ad 22)) (C := RX12) (T := TX12) (N := 34) hx hb hts hin hown hK hP 0 rfl rfl 22 (by decide) (hts (.fieldLink RX12 62 "LikeWordsModel" "order" "[I") (by decide +kernel)) (fun _ h9 => h9) rfl dX12_plant_290 ?_
                    refine lv_iload_n hx hb dX12_plant_293 rfl (lv_at hl 3 rfl) ?_
                    refine lv_iload hx hb dX12_plant_294 (lv_at hl 1 rfl) ?_
                    refine wi_iast (f := (aU (aU (aU (y) 19 ((((4 : Int)) * (g)) + (z)).toNat (((y).2 18) ((((4 : Int)) * (g)) + (z)).toNat)) 20 (((y).2 18) ((((4 : Int)) * (g)) + (z)).toNat).toNat ((0 : Int))) 21 (((y).2 18) ((((4 : Int)) * (g)) + (z)).toNat).toNat (((y).2 21) ((iU ((y).2 20) (((y).2 18) ((((4 : Int)) * (g)) + (z)).toNat).toNat ((0 : Int))) (((y).2 18) ((((4 : Int)) * (g)) + (z)).toNat).toNat).toNat)).2 22) hx hb hK hP hD hS 16 0 rfl rfl (i := t9) (x := ((y).2 18) ((((4 : Int)) * (g)) + (z)).toNat) (by omega) (by omega) (by decide) dX12_plant_296 (fun H locs hP hD hS => ?_)
                    rw [mW_a22] at hP hD
                    refine lv_iinc (v := iI ((t9) + (1 : Int))) (lv' := [(2, .int (iI ((t9) + (1 : Int)))), (7, .int (iI ((0 : Int)))), (6, .int (iI (((y).2 18) ((((4 : Int)) * (g)) + (z)).toNat))), (0, .ref (h)), (3, .int (iI (k))), (4, .int (iI (g))), (5, .int (iI (z)))]) hx hb dX12_plant_297 hl (k := 3) rfl (iI_add _ _) (by decide) rfl (fun ls hl => ?_)
                    refine lv_iinc (v := iI ((z) + (1 : Int))) (lv' := [(5, .int (iI ((z) + (1 : Int)))), (2, .int (iI ((t9) + (1 : Int)))), (7, .int (iI ((0 : Int)))), (6, .int (iI (((y).2 18) ((((4 : Int)) * (g)) + (z)).toNat))), (0, .ref (h)), (3, .int (iI (k))), (4, .int (iI (g)))]) hx hb dX12_plant_300 hl (k := 6) rfl (iI_add _ _) (by decide) rfl (fun ls hl => ?_)
                    refine lv_goto (tgt := 146) hx hb dX12_plant_303 (by decide) ?_
                    exact ih.2.2.2.1 (aU (aU (aU (aU (y) 19 ((((4 : Int)) * (g)) + (z)).toNat (((y).2 18) ((((4 : Int)) * (g)) + (z)).toNat)) 20 (((y).2 18) ((((4 : Int)) * (g)) + (z)).toNat).toNat ((0 : Int))) 21 (((y).2 18) ((((4 : Int)) * (g)) + (z)).toNat).toNat (((y).2 21) ((iU ((y).2 20) (((y).2 18) ((((4 : Int)) * (g)) + (z)).toNat).toNat ((0 : Int))) (((y).2 18) ((((4 : Int)) * (g)) + (z)).toNat).toNat).toNat)) 22 (t9).toNat (((y).2 18) ((((4 : Int)) * (g)) + (z)).toNat)) ((t9) + (1 : Int)) (k) (g) ((z) + (1 : Int)) (by first | (exfalso; omega) | exact pC_push pr pc hg k0 k1 z0 (by omega) rfl (by omega) (by first | (rw [if_pos (by omega)]; done) | (rw [if_neg (by omega)]; done)) (by first | (rw [iU_s, if_pos (by assumption)]; done) | (rw [if_neg (by assumption)]; done))) (by first | exact hg | rfl | (rw [yU_s, iU_n (by omega)]; exact hg) | (show _ = y.2 22 k.toNat; exact hg) | (show _ = iU (y.2 22) t9.toNat _ k.toNat; rw [iU_n (by omega)]; exact hg) | (exfalso; omega)) (by omega) (by omega) (by omega) (by omega) (by omega) (by omega) (by first | omega | (exfalso; omega)) hres _ _ ls hP hD hS (lv_sub hl [4, 1, 5, 6, 0] rfl)
            · skip
              rw [if_pos c_212] at hres
              refine lv_iload hx hb dX12_plant_215 (lv_at hl 0 rfl) ?_
              refine lv_goto (tgt := 222) hx hb dX12_plant_217 (by decide) ?_
              refine wi_iast (f := (y).2 19) hx hb hK hP hD hS 13 0 rfl rfl (i := (((4 : Int)) * (g)) + (z)) (x := (0 : Int)) (by omega) (by omega) (by decide) dX12_plant_222 (fun H locs hP hD hS => ?_)
              rw [mW_a19] at hP hD
              refine lv_iload hx hb dX12_plant_223 (lv_at hl 1 rfl) ?_
              refine lv_bipush (v := iI (-9 : Int)) hx hb dX12_plant_225 (by decide) ?_
              refine wi_icmp_eq (tgt := 300) hx hb (by first | assumption | (unfold iR; omega) | exact F_R01 (by assumption)) ⟨by decide, by decide⟩ dX12_plant_227 (by decide) (fun c_227 => ?_) (fun c_227 => ?_)
              · skip
                rw [if_pos c_227] at hres
                refine lv_iinc (v := iI ((z) + (1 : Int))) (lv' := [(5, .int (iI ((z) + (1 : Int)))), (7, .int (iI ((0 : Int)))), (6, .int (iI (((y).2 18) ((((4 : Int)) * (g)) + (z)).toNat))), (0, .ref (h)), (2, .int (iI (t9))), (3, .int (iI (k))), (4, .int (iI (g)))]) hx hb dX12_plant_300 hl (k := 6) rfl (iI_add _ _) (by decide) rfl (fun ls hl => ?_)
                refine lv_goto (tgt := 146) hx hb dX12_plant_303 (by decide) ?_
                exact ih.2.2.2.1 (aU (y) 19 ((((4 : Int)) * (g)) + (z)).toNat ((0 : Int))) (t9) (k) (g) ((z) + (1 : Int)) (by first | (exfalso; omega) | exact pC_none pr pc hg k0 k1 z0 (by omega) (by omega) (by first | (rw [if_pos (by omega)]; done) | (rw [if_neg (by omega)]; done))) (by first | exact hg | rfl | (rw [yU_s, iU_n (by omega)]; exact hg) | (show _ = y.2 22 k.toNat; exact hg) | (show _ = iU (y.2 22) t9.toNat _ k.toNat; rw [iU_n (by omega)]; exact hg) | (exfalso; omega)) (by omega) (by omega) (by omega) (by omega) (by omega) (by omega) (by first | omega | (exfalso; omega)) hres _ _ ls hP hD hS (lv_sub hl [3, 4, 5, 6, 0] rfl)
              · skip
                rw [if_neg c_227] at hres
                refine lv_aload_n hx hb dX12_plant_230 rfl (lv_at hl 2 rfl) ?_
                refine va_get (D := (dC, dI)) (ci := 12) (v := .ref (ad 20)) (C := RX12) (T := TX12) (N := 34) hx hb hts hin hown hK hP 0 rfl rfl 20 (by decide) (hts (.fieldLink RX12 56 "LikeWordsModel" "back" "[I") (by decide +kernel)) (fun _ h9 => h9) rfl dX12_plant_231 ?_
                refine lv_iload hx hb dX12_plant_234 (lv_at hl 1 rfl) ?_
                refine lv_iload hx hb dX12_plant_236 (lv_at hl 5 rfl) ?_
                refine wi_if_ne (tgt := 245) hx hb (by first | assumption | (unfold iR; omega) | exact F_R01 (by assumption)) dX12_plant_238 (by decide) (fun c_238 => ?_) (fun c_238 => ?_)
                · skip
                  rw [if_neg c_238] at hres
                  refine lv_iload hx hb dX12_plant_245 (lv_at hl 0 rfl) ?_
                  refine wi_iast (f := (aU (y) 19 ((((4 : Int)) * (g)) + (z)).toNat ((0 : Int))).2 20) hx hb hK hP hD hS 14 0 rfl rfl (i := ((y).2 18) ((((4 : Int)) * (g)) + (z)).toNat) (x := (0 : Int)) (by omega) (by omega) (by decide) dX12_plant_247 (fun H locs hP hD hS => ?_)
                  rw [mW_a20] at hP hD
                  refine lv_aload_n hx hb dX12_plant_248 rfl (lv_at hl 2 rfl) ?_
                  refine va_get (D := (dC, dI)) (ci := 12) (v := .ref (ad 21)) (C := RX12) (T := TX12) (N := 34) hx hb hts hin hown hK hP 0 rfl rfl 21 (by decide) (hts (.fieldLink RX12 59 "LikeWordsModel" "ends" "[I") (by decide +kernel)) (fun _ h9 => h9) rfl dX12_plant_249 ?_
                  refine lv_iload hx hb dX12_plant_252 (lv_at hl 1 rfl) ?_
                  refine lv_aload_n hx hb dX12_plant_254 rfl (lv_at hl 2 rfl) ?_
                  refine va_get (D := (dC, dI)) (ci := 12) (v := .ref (ad 21)) (C := RX12) (T := TX12) (N := 34) hx hb hts hin hown hK hP 0 rfl rfl 21 (by decide) (hts (.fieldLink RX12 59 "LikeWordsModel" "ends" "[I") (by decide +kernel)) (fun _ h9 => h9) rfl dX12_plant_255 ?_
                  refine lv_iload hx hb dX12_plant_258 (lv_at hl 1 rfl) ?_
                  refine wi_iald (f := (y).2 21) hx hb hK hP 15 0 rfl rfl (i := ((y).2 18) ((((4 : Int)) * (g)) + (z)).toNat) (by omega) (by omega) (by decide) dX12_plant_260 ?_
                  refine lv_bipush (v := iI (-9 : Int)) hx hb dX12_plant_261 (by decide) ?_
                  have ce := pC_e pr pc hg k0 k1 z0 (by omega) (by assumption)
                  refine wi_icmp_ne (tgt := 281) hx hb (by unfold iR; omega) (by unfold iR; omega) dX12_plant_263 (by decide) (fun c_263 => ?_) (fun c_263 => ?_)
                  · skip
                    rw [if_neg c_263] at hres
                    refine lv_aload_n hx hb dX12_plant_281 rfl (lv_at hl 2 rfl) ?_
                    refine va_get (D := (dC, dI)) (ci := 12) (v := .ref (ad 21)) (C := RX12) (T := TX12) (N := 34) hx hb hts hin hown hK hP 0 rfl rfl 21 (by decide) (hts (.fieldLink RX12 59 "LikeWordsModel" "ends" "[I") (by decide +kernel)) (fun _ h9 => h9) rfl dX12_plant_282 ?_
                    refine lv_iload hx hb dX12_plant_285 (lv_at hl 1 rfl) ?_
                    refine wi_iald (f := (y).2 21) hx hb hK hP 15 0 rfl rfl (i := ((y).2 18) ((((4 : Int)) * (g)) + (z)).toNat) (by omega) (by omega) (by decide) dX12_plant_287 ?_
                    refine wi_iast (f := (aU (aU (y) 19 ((((4 : Int)) * (g)) + (z)).toNat ((0 : Int))) 20 (((y).2 18) ((((4 : Int)) * (g)) + (z)).toNat).toNat ((0 : Int))).2 21) hx hb hK hP hD hS 15 0 rfl rfl (i := ((y).2 18) ((((4 : Int)) * (g)) + (z)).toNat) (x := ((y).2 21) (((y).2 18) ((((4 : Int)) * (g)) + (z)).toNat).toNat) (by omega) (by omega) (by decide) dX12_plant_288 (fun H locs hP hD hS => ?_)
                    rw [mW_a21] at hP hD
                    refine lv_aload_n hx hb dX12_plant_289 rfl (lv_at hl 2 rfl) ?_
                    refine va_get (D := (dC, dI)) (ci := 12) (v := .ref (ad 22)) (C := RX12) (T := TX12) (N := 34) hx hb hts hin hown hK hP 0 rfl rfl 22 (by decide) (hts (.fieldLink RX12 62 "LikeWordsModel" "order" "[I") (by decide +kernel)) (fun _ h9 => h9) rfl dX12_plant_290 ?_
                    refine lv_iload_n hx hb dX12_plant_293 rfl (lv_at hl 3 rfl) ?_
                    refine lv_iload hx hb dX12_plant_294 (lv_at hl 1 rfl) ?_
                    refine wi_iast (f := (aU (aU (aU (y) 19 ((((4 : Int)) * (g)) + (z)).toNat ((0 : Int))) 20 (((y).2 18) ((((4 : Int)) * (g)) + (z)).toNat).toNat ((0 : Int))) 21 (((y).2 18) ((((4 : Int)) * (g)) + (z)).toNat).toNat (((y).2 21) (((y).2 18) ((((4 : Int)) * (g)) + (z)).toNat).toNat)).2 22) hx hb hK hP hD hS 16 0 rfl rfl (i := t9) (x := ((y).2 18) ((((4 : Int)) * (g)) + (z)).toNat) (by omega) (by omega) (by decide) dX12_plant_296 (fun H locs hP hD hS => ?_)
                    rw [mW_a22] at hP hD
                    refine lv_iinc (v := iI ((t9) + (1 : Int))) (lv' := [(2, .int (iI ((t9) + (1 : Int)))), (7, .int (iI ((0 : Int)))), (6, .int (iI (((y).2 18) ((((4 : Int)) * (g)) + (z)).toNat))), (0, .ref (h)), (3, .int (iI (k))), (4, .int (iI (g))), (5, .int (iI (z)))]) hx hb dX12_plant_297 hl (k := 3) rfl (iI_add _ _) (by decide) rfl (fun ls hl => ?_)
                    refine lv_iinc (v := iI ((z) + (1 : Int))) (lv' := [(5, .int (iI ((z) + (1 : Int)))), (2, .int (iI ((t9) + (1 : Int)))), (7, .int (iI ((0 : Int)))), (6, .int (iI (((y).2 18) ((((4 : Int)) * (g)) + (z)).toNat))), (0, .ref (h)), (3, .int (iI (k))), (4, .int (iI (g)))]) hx hb dX12_plant_300 hl (k := 6) rfl (iI_add _ _) (by decide) rfl (fun ls hl => ?_)
                    refine lv_goto (tgt := 146) hx hb dX12_plant_303 (by decide) ?_
                    exact ih.2.2.2.1 (aU (aU (aU (aU (y) 19 ((((4 : Int)) * (g)) + (z)).toNat ((0 : Int))) 20 (((y).2 18) ((((4 : Int)) * (g)) + (z)).toNat).toNat ((0 : Int))) 21 (((y).2 18) ((((4 : Int)) * (g)) + (z)).toNat).toNat (((y).2 21) (((y).2 18) ((((4 : Int)) * (g)) + (z)).toNat).toNat)) 22 (t9).toNat (((y).2 18) ((((4 : Int)) * (g)) + (z)).toNat)) ((t9) + (1 : Int)) (k) (g) ((z) + (1 : Int)) (by first | (exfalso; omega) | exact pC_push pr pc hg k0 k1 z0 (by omega) rfl (by omega) (by first | (rw [if_pos (by omega)]; done) | (rw [if_neg (by omega)]; done)) (by first | (rw [iU_s, if_pos (by assumption)]; done) | (rw [if_neg (by assumption)]; done))) (by first | exact hg | rfl | (rw [yU_s, iU_n (by omega)]; exact hg) | (show _ = y.2 22 k.toNat; exact hg) | (show _ = iU (y.2 22) t9.toNat _ k.toNat; rw [iU_n (by omega)]; exact hg) | (exfalso; omega)) (by omega) (by omega) (by omega) (by omega) (by omega) (by omega) (by first | omega | (exfalso; omega)) hres _ _ ls hP hD hS (lv_sub hl [4, 1, 5, 6, 0] rfl)
                  · skip
                    rw [if_pos c_263] at hres
                    refine lv_aload_n hx hb dX12_plant_266 rfl (lv_at hl 2 rfl) ?_
                    refine va_get (D := (dC, dI)) (ci := 12) (v := .ref (ad 21)) (C := RX12) (T := TX12) (N := 34) hx hb hts hin hown hK hP 0 rfl rfl 21 (by decide) (hts (.fieldLink RX12 59 "LikeWordsModel" "ends" "[I") (by decide +kernel)) (fun _ h9 => h9) rfl dX12_plant_267 ?_
                    refine lv_aload_n hx hb dX12_plant_270 rfl (lv_at hl 2 rfl) ?_
                    refine va_get (D := (dC, dI)) (ci := 12) (v := .ref (ad 20)) (C := RX12) (T := TX12) (N := 34) hx hb hts hin hown hK hP 0 rfl rfl 20 (by decide) (hts (.fieldLink RX12 56 "LikeWordsModel" "back" "[I") (by decide +kernel)) (fun _ h9 => h9) rfl dX12_plant_271 ?_
                    refine lv_iload hx hb dX12_plant_274 (lv_at hl 1 rfl) ?_
                    refine wi_iald (f := iU ((y).2 20) (((y).2 18) ((((4 : Int)) * (g)) + (z)).toNat).toNat ((0 : Int))) hx hb hK hP 14 0 rfl rfl (i := ((y).2 18) ((((4 : Int)) * (g)) + (z)).toNat) (by omega) (by omega) (by decide) dX12_plant_276 ?_
                    refine wi_iald (f := (y).2 21) hx hb hK hP 15 0 rfl rfl (i := (iU ((y).2 20) (((y).2 18) ((((4 : Int)) * (g)) + (z)).toNat).toNat ((0 : Int))) (((y).2 18) ((((4 : Int)) * (g)) + (z)).toNat).toNat) (by rw [iU_s]; omega) (by rw [iU_s]; omega) (by decide) dX12_plant_277 ?_
                    refine lv_goto (tgt := 288) hx hb dX12_plant_278 (by decide) ?_
                    refine wi_iast (f := (aU (aU (y) 19 ((((4 : Int)) * (g)) + (z)).toNat ((0 : Int))) 20 (((y).2 18) ((((4 : Int)) * (g)) + (z)).toNat).toNat ((0 : Int))).2 21) hx hb hK hP hD hS 15 0 rfl rfl (i := ((y).2 18) ((((4 : Int)) * (g)) + (z)).toNat) (x := ((y).2 21) ((iU ((y).2 20) (((y).2 18) ((((4 : Int)) * (g)) + (z)).toNat).toNat ((0 : Int))) (((y).2 18) ((((4 : Int)) * (g)) + (z)).toNat).toNat).toNat) (by omega) (by omega) (by decide) dX12_plant_288 (fun H locs hP hD hS => ?_)
                    rw [mW_a21] at hP hD
                    refine lv_aload_n hx hb dX12_plant_289 rfl (lv_at hl 2 rfl) ?_
                    refine va_get (D := (dC, dI)) (ci := 12) (v := .ref (ad 22)) (C := RX12) (T := TX12) (N := 34) hx hb hts hin hown hK hP 0 rfl rfl 22 (by decide) (hts (.fieldLink RX12 62 "LikeWordsModel" "order" "[I") (by decide +kernel)) (fun _ h9 => h9) rfl dX12_plant_290 ?_
                    refine lv_iload_n hx hb dX12_plant_293 rfl (lv_at hl 3 rfl) ?_
                    refine lv_iload hx hb dX12_plant_294 (lv_at hl 1 rfl) ?_
                    refine wi_iast (f := (aU (aU (aU (y) 19 ((((4 : Int)) * (g)) + (z)).toNat ((0 : Int))) 20 (((y).2 18) ((((4 : Int)) * (g)) + (z)).toNat).toNat ((0 : Int))) 21 (((y).2 18) ((((4 : Int)) * (g)) + (z)).toNat).toNat (((y).2 21) ((iU ((y).2 20) (((y).2 18) ((((4 : Int)) * (g)) + (z)).toNat).toNat ((0 : Int))) (((y).2 18) ((((4 : Int)) * (g)) + (z)).toNat).toNat).toNat)).2 22) hx hb hK hP hD hS 16 0 rfl rfl (i := t9) (x := ((y).2 18) ((((4 : Int)) * (g)) + (z)).toNat) (by omega) (by omega) (by decide) dX12_plant_296 (fun H locs hP hD hS => ?_)
                    rw [mW_a22] at hP hD
                    refine lv_iinc (v := iI ((t9) + (1 : Int))) (lv' := [(2, .int (iI ((t9) + (1 : Int)))), (7, .int (iI ((0 : Int)))), (6, .int (iI (((y).2 18) ((((4 : Int)) * (g)) + (z)).toNat))), (0, .ref (h)), (3, .int (iI (k))), (4, .int (iI (g))), (5, .int (iI (z)))]) hx hb dX12_plant_297 hl (k := 3) rfl (iI_add _ _) (by decide) rfl (fun ls hl => ?_)
                    refine lv_iinc (v := iI ((z) + (1 : Int))) (lv' := [(5, .int (iI ((z) + (1 : Int)))), (2, .int (iI ((t9) + (1 : Int)))), (7, .int (iI ((0 : Int)))), (6, .int (iI (((y).2 18) ((((4 : Int)) * (g)) + (z)).toNat))), (0, .ref (h)), (3, .int (iI (k))), (4, .int (iI (g)))]) hx hb dX12_plant_300 hl (k := 6) rfl (iI_add _ _) (by decide) rfl (fun ls hl => ?_)
                    refine lv_goto (tgt := 146) hx hb dX12_plant_303 (by decide) ?_
                    exact ih.2.2.2.1 (aU (aU (aU (aU (y) 19 ((((4 : Int)) * (g)) + (z)).toNat ((0 : Int))) 20 (((y).2 18) ((((4 : Int)) * (g)) + (z)).toNat).toNat ((0 : Int))) 21 (((y).2 18) ((((4 : Int)) * (g)) + (z)).toNat).toNat (((y).2 21) ((iU ((y).2 20) (((y).2 18) ((((4 : Int)) * (g)) + (z)).toNat).toNat ((0 : Int))) (((y).2 18) ((((4 : Int)) * (g)) + (z)).toNat).toNat).toNat)) 22 (t9).toNat (((y).2 18) ((((4 : Int)) * (g)) + (z)).toNat)) ((t9) + (1 : Int)) (k) (g) ((z) + (1 : Int)) (by first | (exfalso; omega) | exact pC_push pr pc hg k0 k1 z0 (by omega) rfl (by omega) (by first | (rw [if_pos (by omega)]; done) | (rw [if_neg (by omega)]; done)) (by first | (rw [iU_s, if_pos (by assumption)]; done) | (rw [if_neg (by assumption)]; done))) (by first | exact hg | rfl | (rw [yU_s, iU_n (by omega)]; exact hg) | (show _ = y.2 22 k.toNat; exact hg) | (show _ = iU (y.2 22) t9.toNat _ k.toNat; rw [iU_n (by omega)]; exact hg) | (exfalso; omega)) (by omega) (by omega) (by omega) (by omega) (by omega) (by omega) (by first | omega | (exfalso; omega)) hres _ _ ls hP hD hS (lv_sub hl [4, 1, 5, 6, 0] rfl)
                · skip
                  rw [if_pos c_238] at hres
                  refine lv_iconst (v := iI (0 : Int)) hx hb dX12_plant_241 (by decide) ?_
                  refine lv_goto (tgt := 247) hx hb dX12_plant_242 (by decide) ?_
                  refine wi_iast (f := (aU (y) 19 ((((4 : Int)) * (g)) + (z)).toNat ((0 : Int))).2 20) hx hb hK hP hD hS 14 0 rfl rfl (i := ((y).2 18) ((((4 : Int)) * (g)) + (z)).toNat) (x := (0 : Int)) (by omega) (by omega) (by decide) dX12_plant_247 (fun H locs hP hD hS => ?_)
                  rw [mW_a20] at hP hD
                  refine lv_aload_n hx hb dX12_plant_248 rfl (lv_at hl 2 rfl) ?_
                  refine va_get (D := (dC, dI)) (ci := 12) (v := .ref (ad 21)) (C := RX12) (T := TX12) (N := 34) hx hb hts hin hown hK hP 0 rfl rfl 21 (by decide) (hts (.fieldLink RX12 59 "LikeWordsModel" "ends" "[I") (by decide +kernel)) (fun _ h9 => h9) rfl dX12_plant_249 ?_
                  refine lv_iload hx hb dX12_plant_252 (lv_at hl 1 rfl) ?_
                  refine lv_aload_n hx hb dX12_plant_254 rfl (lv_at hl 2 rfl) ?_
                  refine va_get (D := (dC, dI)) (ci := 12) (v := .ref (ad 21)) (C := RX12) (T := TX12) (N := 34) hx hb hts hin hown hK hP 0 rfl rfl 21 (by decide) (hts (.fieldLink RX12 59 "LikeWordsModel" "ends" "[I") (by decide +kernel)) (fun _ h9 => h9) rfl dX12_plant_255 ?_
                  refine lv_iload hx hb dX12_plant_258 (lv_at hl 1 rfl) ?_
                  refine wi_iald (f := (y).2 21) hx hb hK hP 15 0 rfl rfl (i := ((y).2 18) ((((4 : Int)) * (g)) + (z)).toNat) (by omega) (by omega) (by decide) dX12_plant_260 ?_
                  refine lv_bipush (v := iI (-9 : Int)) hx hb dX12_plant_261 (by decide) ?_
                  have ce := pC_e pr pc hg k0 k1 z0 (by omega) (by assumption)
                  refine wi_icmp_ne (tgt := 281) hx hb (by unfold iR; omega) (by unfold iR; omega) dX12_plant_263 (by decide) (fun c_263 => ?_) (fun c_263 => ?_)
                  · skip
                    rw [if_neg c_263] at hres
                    refine lv_aload_n hx hb dX12_plant_281 rfl (lv_at hl 2 rfl) ?_
                    refine va_get (D := (dC, dI)) (ci := 12) (v := .ref (ad 21)) (C := RX12) (T := TX12) (N := 34) hx hb hts hin hown hK hP 0 rfl rfl 21 (by decide) (hts (.fieldLink RX12 59 "LikeWordsModel" "ends" "[I") (by decide +kernel)) (fun _ h9 => h9) rfl dX12_plant_282 ?_
                    refine lv_iload hx hb dX12_plant_285 (lv_at hl 1 rfl) ?_
                    refine wi_iald (f := (y).2 21) hx hb hK hP 15 0 rfl rfl (i := ((y).2 18) ((((4 : Int)) * (g)) + (z)).toNat) (by omega) (by omega) (by decide) dX12_plant_287 ?_
                    refine wi_iast (f := (aU (aU (y) 19 ((((4 : Int)) * (g)) + (z)).toNat ((0 : Int))) 20 (((y).2 18) ((((4 : Int)) * (g)) + (z)).toNat).toNat ((0 : Int))).2 21) hx hb hK hP hD hS 15 0 rfl rfl (i := ((y).2 18) ((((4 : Int)) * (g)) + (z)).toNat) (x := ((y).2 21) (((y).2 18) ((((4 : Int)) * (g)) + (z)).toNat).toNat) (by omega) (by omega) (by decide) dX12_plant_288 (fun H locs hP hD hS => ?_)
                    rw [mW_a21] at hP hD
                    refine lv_aload_n hx hb dX12_plant_289 rfl (lv_at hl 2 rfl) ?_
                    refine va_get (D := (dC, dI)) (ci := 12) (v := .ref (ad 22)) (C := RX12) (T := TX12) (N := 34) hx hb hts hin hown hK hP 0 rfl rfl 22 (by decide) (hts (.fieldLink RX12 62 "LikeWordsModel" "order" "[I") (by decide +kernel)) (fun _ h9 => h9) rfl dX12_plant_290 ?_
                    refine lv_iload_n hx hb dX12_plant_293 rfl (lv_at hl 3 rfl) ?_
                    refine lv_iload hx hb dX12_plant_294 (lv_at hl 1 rfl) ?_
                    refine wi_iast (f := (aU (aU (aU (y) 19 ((((4 : Int)) * (g)) + (z)).toNat ((0 : Int))) 20 (((y).2 18) ((((4 : Int)) * (g)) + (z)).toNat).toNat ((0 : Int))) 21 (((y).2 18) ((((4 : Int)) * (g)) + (z)).toNat).toNat (((y).2 21) (((y).2 18) ((((4 : Int)) * (g)) + (z)).toNat).toNat)).2 22) hx hb hK hP hD hS 16 0 rfl rfl (i := t9) (x := ((y).2 18) ((((4 : Int)) * (g)) + (z)).toNat) (by omega) (by omega) (by decide) dX12_plant_296 (fun H locs hP hD hS => ?_)
                    rw [mW_a22] at hP hD
                    refine lv_iinc (v := iI ((t9) + (1 : Int))) (lv' := [(2, .int (iI ((t9) + (1 : Int)))), (7, .int (iI ((0 : Int)))), (6, .int (iI (((y).2 18) ((((4 : Int)) * (g)) + (z)).toNat))), (0, .ref (h)), (3, .int (iI (k))), (4, .int (iI (g))), (5, .int (iI (z)))]) hx hb dX12_plant_297 hl (k := 3) rfl (iI_add _ _) (by decide) rfl (fun ls hl => ?_)
                    refine lv_iinc (v := iI ((z) + (1 : Int))) (lv' := [(5, .int (iI ((z) + (1 : Int)))), (2, .int (iI ((t9) + (1 : Int)))), (7, .int (iI ((0 : Int)))), (6, .int (iI (((y).2 18) ((((4 : Int)) * (g)) + (z)).toNat))), (0, .ref (h)), (3, .int (iI (k))), (4, .int (iI (g)))]) hx hb dX12_plant_300 hl (k := 6) rfl (iI_add _ _) (by decide) rfl (fun ls hl => ?_)
                    refine lv_goto (tgt := 146) hx hb dX12_plant_303 (by decide) ?_
                    exact ih.2.2.2.1 (aU (aU (aU (aU (y) 19 ((((4 : Int)) * (g)) + (z)).toNat ((0 : Int))) 20 (((y).2 18) ((((4 : Int)) * (g)) + (z)).toNat).toNat ((0 : Int))) 21 (((y).2 18) ((((4 : Int)) * (g)) + (z)).toNat).toNat (((y).2 21) (((y).2 18) ((((4 : Int)) * (g)) + (z)).toNat).toNat)) 22 (t9).toNat (((y).2 18) ((((4 : Int)) * (g)) + (z)).toNat)) ((t9) + (1 : Int)) (k) (g) ((z) + (1 : Int)) (by first | (exfalso; omega) | exact pC_push pr pc hg k0 k1 z0 (by omega) rfl (by omega) (by first | (rw [if_pos (by omega)]; done) | (rw [if_neg (by omega)]; done)) (by first | (rw [iU_s, if_pos (by assumption)]; done) | (rw [if_neg (by assumption)]; done))) (by first | exact hg | rfl | (rw [yU_s, iU_n (by omega)]; exact hg) | (show _ = y.2 22 k.toNat; exact hg) | (show _ = iU (y.2 22) t9.toNat _ k.toNat; rw [iU_n (by omega)]; exact hg) | (exfalso; omega)) (by omega) (by omega) (by omega) (by omega) (by omega) (by omega) (by first | omega | (exfalso; omega)) hres _ _ ls hP hD hS (lv_sub hl [4, 1, 5, 6, 0] rfl)
                  · skip
                    rw [if_pos c_263] at hres
                    refine lv_aload_n hx hb dX12_plant_266 rfl (lv_at hl 2 rfl) ?_
                    refine va_get (D := (dC, dI)) (ci := 12) (v := .ref (ad 21)) (C := RX12) (T := TX12) (N := 34) hx hb hts hin hown hK hP 0 rfl rfl 21 (by decide) (hts (.fieldLink RX12 59 "LikeWordsModel" "ends" "[I") (by decide +kernel)) (fun _ h9 => h9) rfl dX12_plant_267 ?_
                    refine lv_aload_n hx hb dX12_plant_270 rfl (lv_at hl 2 rfl) ?_
                    refine va_get (D := (dC, dI)) (ci := 12) (v := .ref (ad 20)) (C := RX12) (T := TX12) (N := 34) hx hb hts hin hown hK hP 0 rfl rfl 20 (by decide) (hts (.fieldLink RX12 56 "LikeWordsModel" "back" "[I") (by decide +kernel)) (fun _ h9 => h9) rfl dX12_plant_271 ?_
                    refine lv_iload hx hb dX12_plant_274 (lv_at hl 1 rfl) ?_
                    refine wi_iald (f := iU ((y).2 20) (((y).2 18) ((((4 : Int)) * (g)) + (z)).toNat).toNat ((0 : Int))) hx hb hK hP 14 0 rfl rfl (i := ((y).2 18) ((((4 : Int)) * (g)) + (z)).toNat) (by omega) (by omega) (by decide) dX12_plant_276 ?_
                    refine wi_iald (f := (y).2 21) hx hb hK hP 15 0 rfl rfl (i := (iU ((y).2 20) (((y).2 18) ((((4 : Int)) * (g)) + (z)).toNat).toNat ((0 : Int))) (((y).2 18) ((((4 : Int)) * (g)) + (z)).toNat).toNat) (by rw [iU_s]; omega) (by rw [iU_s]; omega) (by decide) dX12_plant_277 ?_
                    refine lv_goto (tgt := 288) hx hb dX12_plant_278 (by decide) ?_
                    refine wi_iast (f := (aU (aU (y) 19 ((((4 : Int)) * (g)) + (z)).toNat ((0 : Int))) 20 (((y).2 18) ((((4 : Int)) * (g)) + (z)).toNat).toNat ((0 : Int))).2 21) hx hb hK hP hD hS 15 0 rfl rfl (i := ((y).2 18) ((((4 : Int)) * (g)) + (z)).toNat) (x := ((y).2 21) ((iU ((y).2 20) (((y).2 18) ((((4 : Int)) * (g)) + (z)).toNat).toNat ((0 : Int))) (((y).2 18) ((((4 : Int)) * (g)) + (z)).toNat).toNat).toNat) (by omega) (by omega) (by decide) dX12_plant_288 (fun H locs hP hD hS => ?_)
                    rw [mW_a21] at hP hD
                    refine lv_aload_n hx hb dX12_plant_289 rfl (lv_at hl 2 rfl) ?_
                    refine va_get (D := (dC, dI)) (ci := 12) (v := .ref (ad 22)) (C := RX12) (T := TX12) (N := 34) hx hb hts hin hown hK hP 0 rfl rfl 22 (by decide) (hts (.fieldLink RX12 62 "LikeWordsModel" "order" "[I") (by decide +kernel)) (fun _ h9 => h9) rfl dX12_plant_290 ?_
                    refine lv_iload_n hx hb dX12_plant_293 rfl (lv_at hl 3 rfl) ?_
                    refine lv_iload hx hb dX12_plant_294 (lv_at hl 1 rfl) ?_
                    refine wi_iast (f := (aU (aU (aU (y) 19 ((((4 : Int)) * (g)) + (z)).toNat ((0 : Int))) 20 (((y).2 18) ((((4 : Int)) * (g)) + (z)).toNat).toNat ((0 : Int))) 21 (((y).2 18) ((((4 : Int)) * (g)) + (z)).toNat).toNat (((y).2 21) ((iU ((y).2 20) (((y).2 18) ((((4 : Int)) * (g)) + (z)).toNat).toNat ((0 : Int))) (((y).2 18) ((((4 : Int)) * (g)) + (z)).toNat).toNat).toNat)).2 22) hx hb hK hP hD hS 16 0 rfl rfl (i := t9) (x := ((y).2 18) ((((4 : Int)) * (g)) + (z)).toNat) (by omega) (by omega) (by decide) dX12_plant_296 (fun H locs hP hD hS => ?_)
                    rw [mW_a22] at hP hD
                    refine lv_iinc (v := iI ((t9) + (1 : Int))) (lv' := [(2, .int (iI ((t9) + (1 : Int)))), (7, .int (iI ((0 : Int)))), (6, .int (iI (((y).2 18) ((((4 : Int)) * (g)) + (z)).toNat))), (0, .ref (h)), (3, .int (iI (k))), (4, .int (iI (g))), (5, .int (iI (z)))]) hx hb dX12_plant_297 hl (k := 3) rfl (iI_add _ _) (by decide) rfl (fun ls hl => ?_)
                    refine lv_iinc (v := iI ((z) + (1 : Int))) (lv' := [(5, .int (iI ((z) + (1 : Int)))), (2, .int (iI ((t9) + (1 : Int)))), (7, .int (iI ((0 : Int)))), (6, .int (iI (((y).2 18) ((((4 : Int)) * (g)) + (z)).toNat))), (0, .ref (h)), (3, .int (iI (k))), (4, .int (iI (g)))]) hx hb dX12_plant_300 hl (k := 6) rfl (iI_add _ _) (by decide) rfl (fun ls hl => ?_)
                    refine lv_goto (tgt := 146) hx hb dX12_plant_303 (by decide) ?_
                    exact ih.2.2.2.1 (aU (aU (aU (aU (y) 19 ((((4 : Int)) * (g)) + (z)).toNat ((0 : Int))) 20 (((y).2 18) ((((4 : Int)) * (g)) + (z)).toNat).toNat ((0 : Int))) 21 (((y).2 18) ((((4 : Int)) * (g)) + (z)).toNat).toNat (((y).2 21) ((iU ((y).2 20) (((y).2 18) ((((4 : Int)) * (g)) + (z)).toNat).toNat ((0 : Int))) (((y).2 18) ((((4 : Int)) * (g)) + (z)).toNat).toNat).toNat)) 22 (t9).toNat (((y).2 18) ((((4 : Int)) * (g)) + (z)).toNat)) ((t9) + (1 : Int)) (k) (g) ((z) + (1 : Int)) (by first | (exfalso; omega) | exact pC_push pr pc hg k0 k1 z0 (by omega) rfl (by omega) (by first | (rw [if_pos (by omega)]; done) | (rw [if_neg (by omega)]; done)) (by first | (rw [iU_s, if_pos (by assumption)]; done) | (rw [if_neg (by assumption)]; done))) (by first | exact hg | rfl | (rw [yU_s, iU_n (by omega)]; exact hg) | (show _ = y.2 22 k.toNat; exact hg) | (show _ = iU (y.2 22) t9.toNat _ k.toNat; rw [iU_n (by omega)]; exact hg) | (exfalso; omega)) (by omega) (by omega) (by omega) (by omega) (by omega) (by omega) (by first | omega | (exfalso; omega)) hres _ _ ls hP hD hS (lv_sub hl [4, 1, 5, 6, 0] rfl)
      · intro y k ps k0 kN k8 fu hres H locs ls hP hD hS hl
        rw [F_m_plant_e4] at hres
        obtain ⟨⟨N9, S9, n17, n80, kN9, e24, sK, oN⟩, el⟩ := pS_b ps
        refine lv_iload_n hx hb dX12_plant_319 rfl (lv_at hl 1 rfl) ?_
        refine lv_aload_n hx hb dX12_plant_320 rfl (lv_at hl 0 rfl) ?_
        refine va_get (D := (dC, dI)) (ci := 12) (v := .int (iI ((y).1 17))) (C := RX12) (T := TX12) (N := 34) hx hb hts hin hown hK hP 0 rfl rfl 17 (by decide) (hts (.fieldLink RX12 157 "LikeWordsModel" "nodes" "I") (by decide +kernel)) (fun _ h9 => h9) rfl dX12_plant_321 ?_
        refine wi_icmp_ge (tgt := 446) hx hb (by first | assumption | (unfold iR; omega) | exact F_R01 (by assumption)) (by first | assumption | (unfold iR; omega) | exact F_R01 (by assumption)) dX12_plant_324 (by decide) (fun c_324 => ?_) (fun c_324 => ?_)
        · skip
          rw [if_pos c_324] at hres
          exact W.vret hx hb hr (fun t ht hW => ⟨⟨y, rfl, (by have h9 := congrArg (fun z : Int × MS => z.2) hres; exact h9), by rw [ht]; exact hP, va_K.moved hW.alike hK, hD⟩, hS.F ht⟩) hS.2.2 dX12_plant_446
        · skip
          rw [if_neg c_324] at hres
          have ok9 := oN k.toNat (by omega)
          refine lv_aload_n hx hb dX12_plant_327 rfl (lv_at hl 0 rfl) ?_
          refine va_get (D := (dC, dI)) (ci := 12) (v := .ref (ad 22)) (C := RX12) (T := TX12) (N := 34) hx hb hts hin hown hK hP 0 rfl rfl 22 (by decide) (hts (.fieldLink RX12 62 "LikeWordsModel" "order" "[I") (by decide +kernel)) (fun _ h9 => h9) rfl dX12_plant_328 ?_
          refine lv_iload_n hx hb dX12_plant_331 rfl (lv_at hl 1 rfl) ?_
          refine wi_iald (f := (y).2 22) hx hb hK hP 16 0 rfl rfl (i := k) (by omega) (by omega) (by decide) dX12_plant_332 ?_
          refine lv_istore (lv' := [(4, .int (iI (((y).2 22) (k).toNat))), (0, .ref (h)), (3, .int (iI (k)))]) hx hb dX12_plant_333 hl (by decide) rfl (fun ls hl => ?_)
          refine lv_iload hx hb dX12_plant_335 (lv_at hl 0 rfl) ?_
          refine wi_if_ne (tgt := 344) hx hb (by first | assumption | (unfold iR; omega) | exact F_R01 (by assumption)) dX12_plant_337 (by decide) (fun c_337 => ?_) (fun c_337 => ?_)
          · skip
            rw [if_neg c_337] at hres
            refine lv_iconst (v := iI (0 : Int)) hx hb dX12_plant_344 (by decide) ?_
            refine lv_istore (lv' := [(5, .int (iI ((0 : Int)))), (4, .int (iI (((y).2 22) (k).toNat))), (0, .ref (h)), (3, .int (iI (k)))]) hx hb dX12_plant_345 hl (by decide) rfl (fun ls hl => ?_)
            refine lv_iconst (v := iI (0 : Int)) hx hb dX12_plant_347 (by decide) ?_
            refine lv_istore (lv' := [(6, .int (iI ((0 : Int)))), (5, .int (iI ((0 : Int)))), (4, .int (iI (((y).2 22) (k).toNat))), (0, .ref (h)), (3, .int (iI (k)))]) hx hb dX12_plant_348 hl (by decide) rfl (fun ls hl => ?_)
            exact ih.2.2.2.2.2 (y) (k) (((y).2 22) (k).toNat) ((0 : Int)) ((0 : Int)) (ps) (by omega) (by omega) (by first | exact hg | rfl) (by first | exact (bgb_s (by omega) z0 hbz).1 (by assumption) | exact (bgb_s (by omega) z0 hbz).2.1 (by omega) (by assumption) | exact (bgb_s (by omega) z0 hbz).2.2 (by omega) (by assumption) | exact (bgb_0 (by omega)).1 (by assumption) | exact (bgb_0 (by omega)).2 (by assumption)) (by omega) (by omega) (by omega) (by omega) hres _ _ ls hP hD hS (lv_sub hl [3, 4, 2, 1, 0] rfl)
          · skip
            rw [if_pos c_337] at hres
            refine lv_iconst (v := iI (1 : Int)) hx hb dX12_plant_340 (by decide) ?_
            refine lv_goto (tgt := 345) hx hb dX12_plant_341 (by decide) ?_
            refine lv_istore (lv' := [(5, .int (iI ((1 : Int)))), (4, .int (iI (((y).2 22) (k).toNat))), (0, .ref (h)), (3, .int (iI (k)))]) hx hb dX12_plant_345 hl (by decide) rfl (fun ls hl => ?_)
            refine lv_iconst (v := iI (0 : Int)) hx hb dX12_plant_347 (by decide) ?_
            refine lv_istore (lv' := [(6, .int (iI ((0 : Int)))), (5, .int (iI ((1 : Int)))), (4, .int (iI (((y).2 22) (k).toNat))), (0, .ref (h)), (3, .int (iI (k)))]) hx hb dX12_plant_348 hl (by decide) rfl (fun ls hl => ?_)
            exact ih.2.2.2.2.2 (y) (k) (((y).2 22) (k).toNat) ((1 : Int)) ((0 : Int)) (ps) (by omega) (by omega) (by first | exact hg | rfl) (by first | exact (bgb_s (by omega) z0 hbz).1 (by assumption) | exact (bgb_s (by omega) z0 hbz).2.1 (by omega) (by assumption) | exact (bgb_s (by omega) z0 hbz).2.2 (by omega) (by assumption) | exact (bgb_0 (by omega)).1 (by assumption) | exact (bgb_0 (by omega)).2 (by assumption)) (by omega) (by omega) (by omega) (by omega) hres _ _ ls hP hD hS (lv_sub hl [3, 4, 2, 1, 0] rfl)
      · intro y k g b z ps k0 k1 hg hbz z0 z1 k8 fu hres H locs ls hP hD hS hl
        rw [F_m_plant_e5] at hres
        obtain ⟨⟨N9, S9, n17, n80, kN9, e24, sK, oN⟩, el⟩ := pS_b ps
        have ok9 := oN k.toNat (by omega)
        have b01 : b = 0 ∨ b = 1 := by rcases hbz with h9 | h9; exact Or.inr h9.1; exact Or.inl h9.1
        refine lv_iload hx hb dX12_plant_350 (lv_at hl 4 rfl) ?_
        refine lv_aload_n hx hb dX12_plant_352 rfl (lv_at hl 0 rfl) ?_
        refine va_get (D := (dC, dI)) (ci := 12) (v := .int (iI ((y).1 0))) (C := RX12) (T := TX12) (N := 34) hx hb hts hin hown hK hP 0 rfl rfl 0 (by decide) (hts (.fieldLink RX12 7 "LikeWordsModel" "letters" "I") (by decide +kernel)) (fun _ h9 => h9) rfl dX12_plant_353 ?_
        refine wi_icmp_ge (tgt := 394) hx hb (by first | assumption | (unfold iR; omega) | exact F_R01 (by assumption)) (by first | assumption | (unfold iR; omega) | exact F_R01 (by assumption)) dX12_plant_356 (by decide) (fun c_356 => ?_) (fun c_356 => ?_)
        · skip
          rw [if_pos c_356] at hres
          refine lv_aload_n hx hb dX12_plant_394 rfl (lv_at hl 0 rfl) ?_
          refine va_get (D := (dC, dI)) (ci := 12) (v := .ref (ad 23)) (C := RX12) (T := TX12) (N := 34) hx hb hts hin hown hK hP 0 rfl rfl 23 (by decide) (hts (.fieldLink RX12 65 "LikeWordsModel" "stateOf" "[I") (by decide +kernel)) (fun _ h9 => h9) rfl dX12_plant_395 ?_
          refine lv_iload hx hb dX12_plant_398 (lv_at hl 2 rfl) ?_
          refine lv_bipush (v := iI (-9 : Int)) hx hb dX12_plant_400 (by decide) ?_
          refine wi_iast (f := (y).2 23) hx hb hK hP hD hS 17 0 rfl rfl (i := g) (x := (-9 : Int)) (by omega) (by omega) (by decide) dX12_plant_402 (fun H locs hP hD hS => ?_)
          rw [mW_a23] at hP hD
          refine lv_iload hx hb dX12_plant_403 (lv_at hl 3 rfl) ?_
          refine wi_if_eq (tgt := 440) hx hb (by first | assumption | (unfold iR; omega) | exact F_R01 (by assumption)) dX12_plant_405 (by decide) (fun c_405 => ?_) (fun c_405 => ?_)
          · skip
            rw [if_pos c_405] at hres
            refine lv_iinc (v := iI ((k) + (1 : Int))) (lv' := [(3, .int (iI ((k) + (1 : Int)))), (0, .ref (h)), (4, .int (iI (g))), (5, .int (iI (b))), (6, .int (iI (z)))]) hx hb dX12_plant_440 hl (k := 1) rfl (iI_add _ _) (by decide) rfl (fun ls hl => ?_)
            refine lv_goto (tgt := 319) hx hb dX12_plant_443 (by decide) ?_
            exact ih.2.2.2.2.1 (aU (y) 23 (g).toNat ((-9 : Int))) ((k) + (1 : Int)) (pS_not ps k0 k1 hg (by rcases hbz with h9 | h9; (exfalso; omega); (have ez : z.toNat = (x.1 0).toNat := by omega); rw [← ez]; exact h9.2)) (by omega) (by show _ ≤ y.1 17; omega) (by omega) (by omega) hres _ _ ls hP hD hS (lv_sub hl [1, 0] rfl)
          · skip
            rw [if_neg c_405] at hres
            refine lv_aload_n hx hb dX12_plant_408 rfl (lv_at hl 0 rfl) ?_
            refine va_get (D := (dC, dI)) (ci := 12) (v := .ref (ad 23)) (C := RX12) (T := TX12) (N := 34) hx hb hts hin hown hK hP 0 rfl rfl 23 (by decide) (hts (.fieldLink RX12 65 "LikeWordsModel" "stateOf" "[I") (by decide +kernel)) (fun _ h9 => h9) rfl dX12_plant_409 ?_
            refine lv_iload hx hb dX12_plant_412 (lv_at hl 2 rfl) ?_
            refine lv_aload_n hx hb dX12_plant_414 rfl (lv_at hl 0 rfl) ?_
            refine va_get (D := (dC, dI)) (ci := 12) (v := .int (iI ((y).1 24))) (C := RX12) (T := TX12) (N := 34) hx hb hts hin hown hK hP 0 rfl rfl 24 (by decide) (hts (.fieldLink RX12 164 "LikeWordsModel" "states" "I") (by decide +kernel)) (fun _ h9 => h9) rfl dX12_plant_415 ?_
            refine wi_iast (f := (aU (y) 23 (g).toNat ((-9 : Int))).2 23) hx hb hK hP hD hS 17 0 rfl rfl (i := g) (x := (y).1 24) (by omega) (by omega) (by decide) dX12_plant_418 (fun H locs hP hD hS => ?_)
            rw [mW_a23] at hP hD
            refine lv_aload_n hx hb dX12_plant_419 rfl (lv_at hl 0 rfl) ?_
            refine va_get (D := (dC, dI)) (ci := 12) (v := .ref (ad 25)) (C := RX12) (T := TX12) (N := 34) hx hb hts hin hown hK hP 0 rfl rfl 25 (by decide) (hts (.fieldLink RX12 68 "LikeWordsModel" "nodeOf" "[I") (by decide +kernel)) (fun _ h9 => h9) rfl dX12_plant_420 ?_
            refine lv_aload_n hx hb dX12_plant_423 rfl (lv_at hl 0 rfl) ?_
            refine va_get (D := (dC, dI)) (ci := 12) (v := .int (iI ((y).1 24))) (C := RX12) (T := TX12) (N := 34) hx hb hts hin hown hK hP 0 rfl rfl 24 (by decide) (hts (.fieldLink RX12 164 "LikeWordsModel" "states" "I") (by decide +kernel)) (fun _ h9 => h9) rfl dX12_plant_424 ?_
            refine lv_iload hx hb dX12_plant_427 (lv_at hl 2 rfl) ?_
            refine wi_iast (f := (aU (aU (y) 23 (g).toNat ((-9 : Int))) 23 (g).toNat ((y).1 24)).2 25) hx hb hK hP hD hS 18 0 rfl rfl (i := (y).1 24) (x := g) (by omega) (by omega) (by decide) dX12_plant_429 (fun H locs hP hD hS => ?_)
            rw [mW_a25] at hP hD
            refine lv_aload_n hx hb dX12_plant_430 rfl (lv_at hl 0 rfl) ?_
            refine lv_dup hx hb dX12_plant_431 rfl ?_
            refine va_get (D := (dC, dI)) (ci := 12) (v := .int (iI ((y).1 24))) (C := RX12) (T := TX12) (N := 34) hx hb hts hin hown hK hP 0 rfl rfl 24 (by decide) (hts (.fieldLink RX12 164 "LikeWordsModel" "states" "I") (by decide +kernel)) (fun _ h9 => h9) rfl dX12_plant_432 ?_
            refine lv_iconst (v := iI (1 : Int)) hx hb dX12_plant_435 (by decide) ?_
            refine wi_iadd hx hb dX12_plant_436 ?_
            refine va_put (D := (dC, dI)) (ci := 12) (v := .int (iI (((y).1 24) + ((1 : Int))))) (ty := .int) (C := RX12) (T := TX12) (N := 34) hx hb hts hin tyX12 tyX12_ok nmX12 hown hK hP hD hS 0 rfl rfl 24 (by decide) (hts (.fieldLink RX12 164 "LikeWordsModel" "states" "I") (by decide +kernel)) (fun _ h9 => h9) rfl (by decide +kernel) rfl rfl (Nat.le_of_ble_eq_true rfl) dX12_plant_437 (fun H locs hP hD hS => ?_)
            rw [mW_s24] at hP hD
            refine lv_iinc (v := iI ((k) + (1 : Int))) (lv' := [(3, .int (iI ((k) + (1 : Int)))), (0, .ref (h)), (4, .int (iI (g))), (5, .int (iI (b))), (6, .int (iI (z)))]) hx hb dX12_plant_440 hl (k := 1) rfl (iI_add _ _) (by decide) rfl (fun ls hl => ?_)
            refine lv_goto (tgt := 319) hx hb dX12_plant_443 (by decide) ?_
            exact ih.2.2.2.2.1 (sU (aU (aU (aU (y) 23 (g).toNat ((-9 : Int))) 23 (g).toNat ((y).1 24)) 25 ((y).1 24).toNat (g)) 24 (((y).1 24) + ((1 : Int)))) ((k) + (1 : Int)) (pS_yes ps k0 k1 hg (by rcases hbz with h9 | h9; (have ez : z.toNat = (x.1 0).toNat := by omega); (rw [← ez]; exact h9.2); (exfalso; omega))) (by omega) (by show _ ≤ y.1 17; omega) (by omega) (by omega) hres _ _ ls hP hD hS (lv_sub hl [1, 0] rfl)
        · skip
          rw [if_neg c_356] at hres
          refine lv_iload hx hb dX12_plant_359 (lv_at hl 3 rfl) ?_
          refine wi_if_ne (tgt := 381) hx hb (by first | assumption | (unfold iR; omega) | exact F_R01 (by assumption)) dX12_plant_361 (by decide) (fun c_361 => ?_) (fun c_361 => ?_)
          · skip
            rw [if_neg c_361] at hres
            refine lv_iconst (v := iI (1 : Int)) hx hb dX12_plant_381 (by decide) ?_
            refine lv_goto (tgt := 386) hx hb dX12_plant_382 (by decide) ?_
            refine lv_istore (lv' := [(5, .int (iI ((1 : Int)))), (0, .ref (h)), (3, .int (iI (k))), (4, .int (iI (g))), (6, .int (iI (z)))]) hx hb dX12_plant_386 hl (by decide) rfl (fun ls hl => ?_)
            refine lv_iinc (v := iI ((z) + (1 : Int))) (lv' := [(6, .int (iI ((z) + (1 : Int)))), (5, .int (iI ((1 : Int)))), (0, .ref (h)), (3, .int (iI (k))), (4, .int (iI (g)))]) hx hb dX12_plant_388 hl (k := 4) rfl (iI_add _ _) (by decide) rfl (fun ls hl => ?_)
            refine lv_goto (tgt := 350) hx hb dX12_plant_391 (by decide) ?_
            exact ih.2.2.2.2.2 (y) (k) (g) ((1 : Int)) ((z) + (1 : Int)) (ps) (by omega) (by omega) (by first | exact hg | rfl) (by first | exact (bgb_s (by omega) z0 hbz).1 (by assumption) | exact (bgb_s (by omega) z0 hbz).2.1 (by omega) (by assumption) | exact (bgb_s (by omega) z0 hbz).2.2 (by omega) (by assumption) | exact (bgb_0 (by omega)).1 (by assumption) | exact (bgb_0 (by omega)).2 (by assumption)) (by omega) (by omega) (by omega) (by omega) hres _ _ ls hP hD hS (lv_sub hl [2, 3, 4, 1, 0] rfl)
          · skip
            rw [if_pos c_361] at hres
            refine lv_aload_n hx hb dX12_plant_364 rfl (lv_at hl 0 rfl) ?_
            refine va_get (D := (dC, dI)) (ci := 12) (v := .ref (ad 18)) (C := RX12) (T := TX12) (N := 34) hx hb hts hin hown hK hP 0 rfl rfl 18 (by decide) (hts (.fieldLink RX12 50 "LikeWordsModel" "child" "[I") (by decide +kernel)) (fun _ h9 => h9) rfl dX12_plant_365 ?_
            refine lv_iconst (v := iI (4 : Int)) hx hb dX12_plant_368 (by decide) ?_
            refine lv_iload hx hb dX12_plant_369 (lv_at hl 2 rfl) ?_
            refine wi_imul hx hb dX12_plant_371 ?_
            refine lv_iload hx hb dX12_plant_372 (lv_at hl 4 rfl) ?_
            refine wi_iadd hx hb dX12_plant_374 ?_
            refine wi_iald (f := (y).2 18) hx hb hK hP 12 0 rfl rfl (i := (((4 : Int)) * (g)) + (z)) (by omega) (by omega) (by decide) dX12_plant_375 ?_
            refine lv_bipush (v := iI (-9 : Int)) hx hb dX12_plant_376 (by decide) ?_
            have sc := pS_c pr ps k0 k1 hg z0 (by omega)
            refine wi_icmp_eq (tgt := 385) hx hb (by unfold iR; omega) (by unfold iR; omega) dX12_plant_378 (by decide) (fun c_378 => ?_) (fun c_378 => ?_)
            · skip
              rw [if_pos c_378] at hres
              refine lv_iconst (v := iI (0 : Int)) hx hb dX12_plant_385 (by decide) ?_
              refine lv_istore (lv' := [(5, .int (iI ((0 : Int)))), (0, .ref (h)), (3, .int (iI (k))), (4, .int (iI (g))), (6, .int (iI (z)))]) hx hb dX12_plant_386 hl (by decide) rfl (fun ls hl => ?_)
              refine lv_iinc (v := iI ((z) + (1 : Int))) (lv' := [(6, .int (iI ((z) + (1 : Int)))), (5, .int (iI ((0 : Int)))), (0, .ref (h)), (3, .int (iI (k))), (4, .int (iI (g)))]) hx hb dX12_plant_388 hl (k := 4) rfl (iI_add _ _) (by decide) rfl (fun ls hl => ?_)
              refine lv_goto (tgt := 350) hx hb dX12_plant_391 (by decide) ?_
              exact ih.2.2.2.2.2 (y) (k) (g) ((0 : Int)) ((z) + (1 : Int)) (ps) (by omega) (by omega) (by first | exact hg | rfl) (by first | exact (bgb_s (by omega) z0 hbz).1 (by assumption) | exact (bgb_s (by omega) z0 hbz).2.1 (by omega) (by assumption) | exact (bgb_s (by omega) z0 hbz).2.2 (by omega) (by assumption) | exact (bgb_0 (by omega)).1 (by assumption) | exact (bgb_0 (by omega)).2 (by assumption)) (by omega) (by omega) (by omega) (by omega) hres _ _ ls hP hD hS (lv_sub hl [2, 3, 4, 1, 0] rfl)
            · skip
              rw [if_neg c_378] at hres
              refine lv_iconst (v := iI (1 : Int)) hx hb dX12_plant_381 (by decide) ?_
              refine lv_goto (tgt := 386) hx hb dX12_plant_382 (by decide) ?_
              refine lv_istore (lv' := [(5, .int (iI ((1 : Int)))), (0, .ref (h)), (3, .int (iI (k))), (4, .int (iI (g))), (6, .int (iI (z)))]) hx hb dX12_plant_386 hl (by decide) rfl (fun ls hl => ?_)
              refine lv_iinc (v := iI ((z) + (1 : Int))) (lv' := [(6, .int (iI ((z) + (1 : Int)))), (5, .int (iI ((1 : Int)))), (0, .ref (h)), (3, .int (iI (k))), (4, .int (iI (g)))]) hx hb dX12_plant_388 hl (k := 4) rfl (iI_add _ _) (by decide) rfl (fun ls hl => ?_)
              refine lv_goto (tgt := 350) hx hb dX12_plant_391 (by decide) ?_
              exact ih.2.2.2.2.2 (y) (k) (g) ((1 : Int)) ((z) + (1 : Int)) (ps) (by omega) (by omega) (by first | exact hg | rfl) (by first | exact (bgb_s (by omega) z0 hbz).1 (by assumption) | exact (bgb_s (by omega) z0 hbz).2.1 (by omega) (by assumption) | exact (bgb_s (by omega) z0 hbz).2.2 (by omega) (by assumption) | exact (bgb_0 (by omega)).1 (by assumption) | exact (bgb_0 (by omega)).2 (by assumption)) (by omega) (by omega) (by omega) (by omega) hres _ _ ls hP hD hS (lv_sub hl [2, 3, 4, 1, 0] rfl)
  have key : ∀ (H : Heap) (locs : List Loc), va_P (dC, dI) vwCl (mW h ad cI cJ cZ (x)) H → va_S A s.heap H locs → W p l e (headSpec wsX12_plant ({ frames := 1, cells := 0, slots := 0, locals := 22 })).room s m ([.ref h] : List Value).toArray below meth c H locs 0 0 (MQ below (va_Qv (fun u : MS => u = (F_m_plant (x)).2) (mAt dC dI h ad cI cJ cZ A) A) ([.ref h] : List Value).toArray s 0 0 A) (F0 m 0 ls []) := by
    intro H locs hP hS
    have hres : F_m_plant_s 100000 0 ((F_m_newNode (sU (x) 17 ((0 : Int)))).2) ((0 : Int)) (0) (0) (0) = F_m_plant (x) := rfl
    refine lv_aload_n hx hb dX12_plant_0 rfl (lv_at hl 0 rfl) ?_
    refine lv_iconst (v := iI (0 : Int)) hx hb dX12_plant_1 (by decide) ?_
    refine va_put (D := (dC, dI)) (ci := 12) (v := .int (iI ((0 : Int)))) (ty := .int) (C := RX12) (T := TX12) (N := 34) hx hb hts hin tyX12 tyX12_ok nmX12 hown hK hP hD hS 0 rfl rfl 17 (by decide) (hts (.fieldLink RX12 157 "LikeWordsModel" "nodes" "I") (by decide +kernel)) (fun _ h9 => h9) rfl (by decide +kernel) rfl rfl (Nat.le_of_ble_eq_true rfl) dX12_plant_2 (fun H locs hP hD hS => ?_)
    rw [mW_s17] at hP hD
    refine lv_aload_n hx hb dX12_plant_5 rfl (lv_at hl 0 rfl) ?_
    have hFc : ∀ q, va_A (mW h ad cI cJ cZ (sU (x) 17 ((0 : Int)))) H.size q → A q := fun q hq => Or.elim hq (fun ⟨k, e, hk⟩ => hD.2 k (q, e) hk) (fun hk => hA q (Nat.le_trans hS.1 hk))
    refine va_calli (va_runV (As := []) (rest := []) ⟨hx, hb, hml, hown, hts⟩ (c_m_newNode l dC dI h ad cI cJ cZ H.size (sU (x) 17 ((0 : Int)))  (by rw [yS_s]; decide) (by rw [yS_s]; decide)) (cwV 0 hts gX12_plant_X12_newNode rfl rfl rfl (by decide +kernel) ⟨Nat.le_of_ble_eq_true rfl, Nat.le_of_ble_eq_true rfl⟩) ⟨fun a U g mk q => by obtain ⟨q0, q1, qP, qK, qD⟩ := q; exact ⟨q0, q1, qP, va_K.moved (u := U) (U := U.calling g mk a) (Vm.Alike.refl U.vm) qK, qD⟩, va_recv hK hP (ci := 12) (q0 := 0) rfl rfl, fun U hU hW => ⟨rfl, by rw [hU], by rw [hU]; exact hP, va_K.moved hW.alike hK, hD.weaken (fun _ _ _ _ => trivial)⟩⟩ rfl rfl hl.1 rfl (lv_room (Nat.le_of_ble_eq_true rfl)) dX12_plant_6 ⟨Nat.le_of_ble_eq_true rfl, Nat.le_of_ble_eq_true rfl⟩) hS (fun q _ h => hFc q h) hFc (fun r9 u9 t H1 locs ht hvm hw hB hz1 hk1 hS => ?_)
    obtain ⟨hP1, hK1, hD1⟩ := hB
    rw [ht] at hP1
    obtain ⟨hw1, hw2⟩ := hw
    rw [hw2] at hP1 hD1
    rw [hw1]
    have hD2 := hD1.weaken (B := A) (fun _ q _ h => hFc q.1 h)
    have hP := hP1
    have hD := hD2
    generalize H1 = H at hP hS ⊢
    refine lv_istore_n (lv' := [(1, .int (iI ((F_m_newNode (sU (x) 17 ((0 : Int)))).1))), (0, .ref (h))]) hx hb dX12_plant_9 rfl hl (by decide) rfl (fun ls hl => ?_)
    refine lv_iconst (v := iI (0 : Int)) hx hb dX12_plant_10 (by decide) ?_
    refine lv_istore_n (lv' := [(2, .int (iI ((0 : Int)))), (1, .int (iI ((F_m_newNode (sU (x) 17 ((0 : Int)))).1))), (0, .ref (h))]) hx hb dX12_plant_11 rfl hl (by decide) rfl (fun ls hl => ?_)
    exact (L (100000)).1 ((F_m_newNode (sU (x) 17 ((0 : Int)))).2) ((0 : Int)) (pA_0 x) (by omega) (by omega) (by omega) (by omega) hres _ _ ls hP hD hS (lv_sub hl [2, 0] rfl)
  exact key _ _ hP hS
theorem F_m_plant_sfr : ∀ n : Nat, (∀ (y : MS) (v0 : Int) (v1 : Int) (v2 : Int) (v3 : Int), same [17, 24] [18, 19, 20, 21, 22, 23, 25] y (F_m_plant_s n 0 y v0 v1 v2 v3).2) ∧ (∀ (y : MS) (v0 : Int) (v1 : Int) (v2 : Int) (v3 : Int), same [17, 24] [18, 19, 20, 21, 22, 23, 25] y (F_m_plant_s n 1 y v0 v1 v2 v3).2) ∧ (∀ (y : MS) (v0 : Int) (v1 : Int) (v2 : Int) (v3 : Int), same [17, 24] [18, 19, 20, 21, 22, 23, 25] y (F_m_plant_s n 2 y v0 v1 v2 v3).2) ∧ (∀ (y : MS) (v0 : Int) (v1 : Int) (v2 : Int) (v3 : Int), same [17, 24] [18, 19, 20, 21, 22, 23, 25] y (F_m_plant_s n 3 y v0 v1 v2 v3).2) ∧ (∀ (y : MS) (v0 : Int) (v1 : Int) (v2 : Int) (v3 : Int), same [17, 24] [18, 19, 20, 21, 22, 23, 25] y (F_m_plant_s n 4 y v0 v1 v2 v3).2) ∧ (∀ (y : MS) (v0 : Int) (v1 : Int) (v2 : Int) (v3 : Int), same [17, 24] [18, 19, 20, 21, 22, 23, 25] y (F_m_plant_s n 5 y v0 v1 v2 v3).2) := by
  intro n
  induction n with
  | zero => exact ⟨fun y _ _ _ _ => sm_rf _ _ _, fun y _ _ _ _ => sm_rf _ _ _, fun y _ _ _ _ => sm_rf _ _ _, fun y _ _ _ _ => sm_rf _ _ _, fun y _ _ _ _ => sm_rf _ _ _, fun y _ _ _ _ => sm_rf _ _ _⟩
  | succ n ih =>
    refine ⟨?_, ?_, ?_, ?_, ?_, ?_⟩
    · intro y d q0 q1 q2
      rw [F_m_plant_e0]
      by_cases hc : ((y).1 12) ≤ (d)
      · rw [if_pos hc]
        exact sm_tr ((sm_a (by decide) (sm_a (by decide) (sm_rf _ _ _)))) (ih.2.2.1 (aU (aU (y) 22 ((0 : Int)).toNat ((0 : Int))) 20 ((0 : Int)).toNat ((0 : Int))) ((1 : Int)) ((0 : Int)) (0) (0))
      · rw [if_neg hc]
        exact sm_tr ((sm_rf _ _ _)) (ih.2.1 (y) (d) ((0 : Int)) ((0 : Int)) (0))
    · intro y d g i q0
      rw [F_m_plant_e1]
      by_cases hc : (((y).2 13) (d).toNat) ≤ (i)
      · rw [if_pos hc]
        exact sm_tr ((sm_a (by decide) (sm_rf _ _ _))) (ih.1 (aU (y) 21 (g).toNat (d)) ((d) + (1 : Int)) (0) (0) (0))
      · rw [if_neg hc]
        by_cases hc : (((y).2 18) ((((4 : Int)) * (g)) + (((y).2 14) ((((24 : Int)) * (d)) + (i)).toNat)).toNat) = ((-9 : Int))
        · rw [if_pos hc]
          exact sm_tr ((sm_a (by decide) (sm_tr (sm_rf _ _ _) (sm_mono (by decide) (by decide) (F_m_newNode_fr (y)))))) (ih.2.1 (aU ((F_m_newNode (y)).2) 18 ((((4 : Int)) * (g)) + (((y).2 14) ((((24 : Int)) * (d)) + (i)).toNat)).toNat ((F_m_newNode (y)).1)) (d) ((iU (((F_m_newNode (y)).2).2 18) ((((4 : Int)) * (g)) + (((y).2 14) ((((24 : Int)) * (d)) + (i)).toNat)).toNat ((F_m_newNode (y)).1)) ((((4 : Int)) * (g)) + (((y).2 14) ((((24 : Int)) * (d)) + (i)).toNat)).toNat) ((i) + (1 : Int)) (0))
        · rw [if_neg hc]
          exact sm_tr ((sm_rf _ _ _)) (ih.2.1 (y) (d) (((y).2 18) ((((4 : Int)) * (g)) + (((y).2 14) ((((24 : Int)) * (d)) + (i)).toNat)).toNat) ((i) + (1 : Int)) (0))
    · intro y t9 k q0 q1
      rw [F_m_plant_e2]
      by_cases hc : (t9) ≤ (k)
      · rw [if_pos hc]
        exact sm_tr ((sm_s (by decide) (sm_rf _ _ _))) (ih.2.2.2.2.1 (sU (y) 24 ((0 : Int))) ((0 : Int)) (0) (0) (0))
      · rw [if_neg hc]
        exact sm_tr ((sm_rf _ _ _)) (ih.2.2.2.1 (y) (t9) (k) (((y).2 22) (k).toNat) ((0 : Int)))
    · intro y t9 k g z
      rw [F_m_plant_e3]
      by_cases hc : ((y).1 0) ≤ (z)
      · rw [if_pos hc]
        exact sm_tr ((sm_rf _ _ _)) (ih.2.2.1 (y) (t9) ((k) + (1 : Int)) (0) (0))
      · rw [if_neg hc]
        by_cases hc : (g) = (0)
        · rw [if_pos hc]
          by_cases hc : (((y).2 18) ((((4 : Int)) * (g)) + (z)).toNat) = ((-9 : Int))
          · rw [if_pos hc]
            by_cases hc : (((y).2 18) ((((4 : Int)) * (g)) + (z)).toNat) = ((-9 : Int))
            · rw [if_pos hc]
              exact sm_tr ((sm_a (by decide) (sm_rf _ _ _))) (ih.2.2.2.1 (aU (y) 19 ((((4 : Int)) * (g)) + (z)).toNat ((0 : Int))) (t9) (k) (g) ((z) + (1 : Int)))
            · rw [if_neg hc]
              by_cases hc : (g) = (0)
              · rw [if_pos hc]
                by_cases hc : (((y).2 21) (((y).2 18) ((((4 : Int)) * (g)) + (z)).toNat).toNat) = ((-9 : Int))
                · rw [if_pos hc]
                  exact sm_tr ((sm_a (by decide) (sm_a (by decide) (sm_a (by decide) (sm_a (by decide) (sm_rf _ _ _)))))) (ih.2.2.2.1 (aU (aU (aU (aU (y) 19 ((((4 : Int)) * (g)) + (z)).toNat ((0 : Int))) 20 (((y).2 18) ((((4 : Int)) * (g)) + (z)).toNat).toNat ((0 : Int))) 21 (((y).2 18) ((((4 : Int)) * (g)) + (z)).toNat).toNat (((y).2 21) ((iU ((y).2 20) (((y).2 18) ((((4 : Int)) * (g)) + (z)).toNat).toNat ((0 : Int))) (((y).2 18) ((((4 : Int)) * (g)) + (z)).toNat).toNat).toNat)) 22 (t9).toNat (((y).2 18) ((((4 : Int)) * (g)) + (z)).toNat)) ((t9) + (1 : Int)) (k) (g) ((z) + (1 : Int)))
                · rw [if_neg hc]
                  exact sm_tr ((sm_a (by decide) (sm_a (by decide) (sm_a (by decide) (sm_a (by decide) (sm_rf _ _ _)))))) (ih.2.2.2.1 (aU (aU (aU (aU (y) 19 ((((4 : Int)) * (g)) + (z)).toNat ((0 : Int))) 20 (((y).2 18) ((((4 : Int)) * (g)) + (z)).toNat).toNat ((0 : Int))) 21 (((y).2 18) ((((4 : Int)) * (g)) + (z)).toNat).toNat (((y).2 21) (((y).2 18) ((((4 : Int)) * (g)) + (z)).toNat).toNat)) 22 (t9).toNat (((y).2 18) ((((4 : Int)) * (g)) + (z)).toNat)) ((t9) + (1 : Int)) (k) (g) ((z) + (1 : Int)))
              · rw [if_neg hc]
                by_cases hc : (((y).2 21) (((y).2 18) ((((4 : Int)) * (g)) + (z)).toNat).toNat) = ((-9 : Int))
                · rw [if_pos hc]
                  exact sm_tr ((sm_a (by decide) (sm_a (by decide) (sm_a (by decide) (sm_a (by decide) (sm_rf _ _ _)))))) (ih.2.2.2.1 (aU (aU (aU (aU (y) 19 ((((4 : Int)) * (g)) + (z)).toNat ((0 : Int))) 20 (((y).2 18) ((((4 : Int)) * (g)) + (z)).toNat).toNat ((0 : Int))) 21 (((y).2 18) ((((4 : Int)) * (g)) + (z)).toNat).toNat (((y).2 21) ((iU ((y).2 20) (((y).2 18) ((((4 : Int)) * (g)) + (z)).toNat).toNat ((0 : Int))) (((y).2 18) ((((4 : Int)) * (g)) + (z)).toNat).toNat).toNat)) 22 (t9).toNat (((y).2 18) ((((4 : Int)) * (g)) + (z)).toNat)) ((t9) + (1 : Int)) (k) (g) ((z) + (1 : Int)))
                · rw [if_neg hc]
                  exact sm_tr ((sm_a (by decide) (sm_a (by decide) (sm_a (by decide) (sm_a (by decide) (sm_rf _ _ _)))))) (ih.2.2.2.1 (aU (aU (aU (aU (y) 19 ((((4 : Int)) * (g)) + (z)).toNat ((0 : Int))) 20 (((y).2 18) ((((4 : Int)) * (g)) + (z)).toNat).toNat ((0 : Int))) 21 (((y).2 18) ((((4 : Int)) * (g)) + (z)).toNat).toNat (((y).2 21) (((y).2 18) ((((4 : Int)) * (g)) + (z)).toNat).toNat)) 22 (t9).toNat (((y).2 18) ((((4 : Int)) * (g)) + (z)).toNat)) ((t9) + (1 : Int)) (k) (g) ((z) + (1 : Int)))
          · rw [if_neg hc]
            by_cases hc : (((y).2 18) ((((4 : Int)) * (g)) + (z)).toNat) = ((-9 : Int))
            · rw [if_pos hc]
              exact sm_tr ((sm_a (by decide) (sm_rf _ _ _))) (ih.2.2.2.1 (aU (y) 19 ((((4 : Int)) * (g)) + (z)).toNat (((y).2 18) ((((4 : Int)) * (g)) + (z)).toNat)) (t9) (k) (g) ((z) + (1 : Int)))
            · rw [if_neg hc]
              by_cases hc : (g) = (0)
              · rw [if_pos hc]
                by_cases hc : (((y).2 21) (((y).2 18) ((((4 : Int)) * (g)) + (z)).toNat).toNat) = ((-9 : Int))
                · rw [if_pos hc]
                  exact sm_tr ((sm_a (by decide) (sm_a (by decide) (sm_a (by decide) (sm_a (by decide) (sm_rf _ _ _)))))) (ih.2.2.2.1 (aU (aU (aU (aU (y) 19 ((((4 : Int)) * (g)) + (z)).toNat (((y).2 18) ((((4 : Int)) * (g)) + (z)).toNat)) 20 (((y).2 18) ((((4 : Int)) * (g)) + (z)).toNat).toNat ((0 : Int))) 21 (((y).2 18) ((((4 : Int)) * (g)) + (z)).toNat).toNat (((y).2 21) ((iU ((y).2 20) (((y).2 18) ((((4 : Int)) * (g)) + (z)).toNat).toNat ((0 : Int))) (((y).2 18) ((((4 : Int)) * (g)) + (z)).toNat).toNat).toNat)) 22 (t9).toNat (((y).2 18) ((((4 : Int)) * (g)) + (z)).toNat)) ((t9) + (1 : Int)) (k) (g) ((z) + (1 : Int)))
                · rw [if_neg hc]
                  exact sm_tr ((sm_a (by decide) (sm_a (by decide) (sm_a (by decide) (sm_a (by decide) (sm_rf _ _ _)))))) (ih.2.2.2.1 (aU (aU (aU (aU (y) 19 ((((4 : Int)) * (g)) + (z)).toNat (((y).2 18) ((((4 : Int)) * (g)) + (z)).toNat)) 20 (((y).2 18) ((((4 : Int)) * (g)) + (z)).toNat).toNat ((0 : Int))) 21 (((y).2 18) ((((4 : Int)) * (g)) + (z)).toNat).toNat (((y).2 21) (((y).2 18) ((((4 : Int)) * (g)) + (z)).toNat).toNat)) 22 (t9).toNat (((y).2 18) ((((4 : Int)) * (g)) + (z)).toNat)) ((t9) + (1 : Int)) (k) (g) ((z) + (1 : Int)))
              · rw [if_neg hc]
                by_cases hc : (((y).2 21) (((y).2 18) ((((4 : Int)) * (g)) + (z)).toNat).toNat) = ((-9 : Int))
                · rw [if_pos hc]
                  exact sm_tr ((sm_a (by decide) (sm_a (by decide) (sm_a (by decide) (sm_a (by decide) (sm_rf _ _ _)))))) (ih.2.2.2.1 (aU (aU (aU (aU (y) 19 ((((4 : Int)) * (g)) + (z)).toNat (((y).2 18) ((((4 : Int)) * (g)) + (z)).toNat)) 20 (((y).2 18) ((((4 : Int)) * (g)) + (z)).toNat).toNat ((0 : Int))) 21 (((y).2 18) ((((4 : Int)) * (g)) + (z)).toNat).toNat (((y).2 21) ((iU ((y).2 20) (((y).2 18) ((((4 : Int)) * (g)) + (z)).toNat).toNat ((0 : Int))) (((y).2 18) ((((4 : Int)) * (g)) + (z)).toNat).toNat).toNat)) 22 (t9).toNat (((y).2 18) ((((4 : Int)) * (g)) + (z)).toNat)) ((t9) + (1 : Int)) (k) (g) ((z) + (1 : Int)))
                · rw [if_neg hc]
                  exact sm_tr ((sm_a (by decide) (sm_a (by decide) (sm_a (by decide) (sm_a (by decide) (sm_rf _ _ _)))))) (ih.2.2.2.1 (aU (aU (aU (aU (y) 19 ((((4 : Int)) * (g)) + (z)).toNat (((y).2 18) ((((4 : Int)) * (g)) + (z)).toNat)) 20 (((y).2 18) ((((4 : Int)) * (g)) + (z)).toNat).toNat ((0 : Int))) 21 (((y).2 18) ((((4 : Int)) * (g)) + (z)).toNat).toNat (((y).2 21) (((y).2 18) ((((4 : Int)) * (g)) + (z)).toNat).toNat)) 22 (t9).toNat (((y).2 18) ((((4 : Int)) * (g)) + (z)).toNat)) ((t9) + (1 : Int)) (k) (g) ((z) + (1 : Int)))
        · rw [if_neg hc]
          by_cases hc : (((y).2 18) ((((4 : Int)) * (g)) + (z)).toNat) = ((-9 : Int))
          · rw [if_pos hc]
            by_cases hc : (((y).2 18) ((((4 : Int)) * (g)) + (z)).toNat) = ((-9 : Int))
            · rw [if_pos hc]
              exact sm_tr ((sm_a (by decide) (sm_rf _ _ _))) (ih.2.2.2.1 (aU (y) 19 ((((4 : Int)) * (g)) + (z)).toNat (((y).2 19) ((((4 : Int)) * (((y).2 20) (g).toNat)) + (z)).toNat)) (t9) (k) (g) ((z) + (1 : Int)))
            · rw [if_neg hc]
              by_cases hc : (g) = (0)
              · rw [if_pos hc]
                by_cases hc : (((y).2 21) (((y).2 18) ((((4 : Int)) * (g)) + (z)).toNat).toNat) = ((-9 : Int))
                · rw [if_pos hc]
                  exact sm_tr ((sm_a (by decide) (sm_a (by decide) (sm_a (by decide) (sm_a (by decide) (sm_rf _ _ _)))))) (ih.2.2.2.1 (aU (aU (aU (aU (y) 19 ((((4 : Int)) * (g)) + (z)).toNat (((y).2 19) ((((4 : Int)) * (((y).2 20) (g).toNat)) + (z)).toNat)) 20 (((y).2 18) ((((4 : Int)) * (g)) + (z)).toNat).toNat ((0 : Int))) 21 (((y).2 18) ((((4 : Int)) * (g)) + (z)).toNat).toNat (((y).2 21) ((iU ((y).2 20) (((y).2 18) ((((4 : Int)) * (g)) + (z)).toNat).toNat ((0 : Int))) (((y).2 18) ((((4 : Int)) * (g)) + (z)).toNat).toNat).toNat)) 22 (t9).toNat (((y).2 18) ((((4 : Int)) * (g)) + (z)).toNat)) ((t9) + (1 : Int)) (k) (g) ((z) + (1 : Int)))
                · rw [if_neg hc]
                  exact sm_tr ((sm_a (by decide) (sm_a (by decide) (sm_a (by decide) (sm_a (by decide) (sm_rf _ _ _)))))) (ih.2.2.2.1 (aU (aU (aU (aU (y) 19 ((((4 : Int)) * (g)) + (z)).toNat (((y).2 19) ((((4 : Int)) * (((y).2 20) (g).toNat)) + (z)).toNat)) 20 (((y).2 18) ((((4 : Int)) * (g)) + (z)).toNat).toNat ((0 : Int))) 21 (((y).2 18) ((((4 : Int)) * (g)) + (z)).toNat).toNat (((y).2 21) (((y).2 18) ((((4 : Int)) * (g)) + (z)).toNat).toNat)) 22 (t9).toNat (((y).2 18) ((((4 : Int)) * (g)) + (z)).toNat)) ((t9) + (1 : Int)) (k) (g) ((z) + (1 : Int)))
              · rw [if_neg hc]
                by_cases hc : (((y).2 21) (((y).2 18) ((((4 : Int)) * (g)) + (z)).toNat).toNat) = ((-9 : Int))
                · rw [if_pos hc]
                  exact sm_tr ((sm_a (by decide) (sm_a (by decide) (sm_a (by decide) (sm_a (by decide) (sm_rf _ _ _)))))) (ih.2.2.2.1 (aU (aU (aU (aU (y) 19 ((((4 : Int)) * (g)) + (z)).toNat (((y).2 19) ((((4 : Int)) * (((y).2 20) (g).toNat)) + (z)).toNat)) 20 (((y).2 18) ((((4 : Int)) * (g)) + (z)).toNat).toNat (((y).2 19) ((((4 : Int)) * (((y).2 20) (g).toNat)) + (z)).toNat)) 21 (((y).2 18) ((((4 : Int)) * (g)) + (z)).toNat).toNat (((y).2 21) ((iU ((y).2 20) (((y).2 18) ((((4 : Int)) * (g)) + (z)).toNat).toNat (((y).2 19) ((((4 : Int)) * (((y).2 20) (g).toNat)) + (z)).toNat)) (((y).2 18) ((((4 : Int)) * (g)) + (z)).toNat).toNat).toNat)) 22 (t9).toNat (((y).2 18) ((((4 : Int)) * (g)) + (z)).toNat)) ((t9) + (1 : Int)) (k) (g) ((z) + (1 : Int)))
                · rw [if_neg hc]
                  exact sm_tr ((sm_a (by decide) (sm_a (by decide) (sm_a (by decide) (sm_a (by decide) (sm_rf _ _ _)))))) (ih.2.2.2.1 (aU (aU (aU (aU (y) 19 ((((4 : Int)) * (g)) + (z)).toNat (((y).2 19) ((((4 : Int)) * (((y).2 20) (g).toNat)) + (z)).toNat)) 20 (((y).2 18) ((((4 : Int)) * (g)) + (z)).toNat).toNat (((y).2 19) ((((4 : Int)) * (((y).2 20) (g).toNat)) + (z)).toNat)) 21 (((y).2 18) ((((4 : Int)) * (g)) + (z)).toNat).toNat (((y).2 21) (((y).2 18) ((((4 : Int)) * (g)) + (z)).toNat).toNat)) 22 (t9).toNat (((y).2 18) ((((4 : Int)) * (g)) + (z)).toNat)) ((t9) + (1 : Int)) (k) (g) ((z) + (1 : Int)))
          · rw [if_neg hc]
            by_cases hc : (((y).2 18) ((((4 : Int)) * (g)) + (z)).toNat) = ((-9 : Int))
            · rw [if_pos hc]
              exact sm_tr ((sm_a (by decide) (sm_rf _ _ _))) (ih.2.2.2.1 (aU (y) 19 ((((4 : Int)) * (g)) + (z)).toNat (((y).2 18) ((((4 : Int)) * (g)) + (z)).toNat)) (t9) (k) (g) ((z) + (1 : Int)))
            · rw [if_neg hc]
              by_cases hc : (g) = (0)
              · rw [if_pos hc]
                by_cases hc : (((y).2 21) (((y).2 18) ((((4 : Int)) * (g)) + (z)).toNat).toNat) = ((-9 : Int))
                · rw [if_pos hc]
                  exact sm_tr ((sm_a (by decide) (sm_a (by decide) (sm_a (by decide) (sm_a (by decide) (sm_rf _ _ _)))))) (ih.2.2.2.1 (aU (aU (aU (aU (y) 19 ((((4 : Int)) * (g)) + (z)).toNat (((y).2 18) ((((4 : Int)) * (g)) + (z)).toNat)) 20 (((y).2 18) ((((4 : Int)) * (g)) + (z)).toNat).toNat ((0 : Int))) 21 (((y).2 18) ((((4 : Int)) * (g)) + (z)).toNat).toNat (((y).2 21) ((iU ((y).2 20) (((y).2 18) ((((4 : Int)) * (g)) + (z)).toNat).toNat ((0 : Int))) (((y).2 18) ((((4 : Int)) * (g)) + (z)).toNat).toNat).toNat)) 22 (t9).toNat (((y).2 18) ((((4 : Int)) * (g)) + (z)).toNat)) ((t9) + (1 : Int)) (k) (g) ((z) + (1 : Int)))
                · rw [if_neg hc]
                  exact sm_tr ((sm_a (by decide) (sm_a (by decide) (sm_a (by decide) (sm_a (by decide) (sm_rf _ _ _)))))) (ih.2.2.2.1 (aU (aU (aU (aU (y) 19 ((((4 : Int)) * (g)) + (z)).toNat (((y).2 18) ((((4 : Int)) * (g)) + (z)).toNat)) 20 (((y).2 18) ((((4 : Int)) * (g)) + (z)).toNat).toNat ((0 : Int))) 21 (((y).2 18) ((((4 : Int)) * (g)) + (z)).toNat).toNat (((y).2 21) (((y).2 18) ((((4 : Int)) * (g)) + (z)).toNat).toNat)) 22 (t9).toNat (((y).2 18) ((((4 : Int)) * (g)) + (z)).toNat)) ((t9) + (1 : Int)) (k) (g) ((z) + (1 : Int)))
              · rw [if_neg hc]
                by_cases hc : (((y).2 21) (((y).2 18) ((((4 : Int)) * (g)) + (z)).toNat).toNat) = ((-9 : Int))
                · rw [if_pos hc]
                  exact sm_tr ((sm_a (by decide) (sm_a (by decide) (sm_a (by decide) (sm_a (by decide) (sm_rf _ _ _)))))) (ih.2.2.2.1 (aU (aU (aU (aU (y) 19 ((((4 : Int)) * (g)) + (z)).toNat (((y).2 18) ((((4 : Int)) * (g)) + (z)).toNat)) 20 (((y).2 18) ((((4 : Int)) * (g)) + (z)).toNat).toNat (((y).2 19) ((((4 : Int)) * (((y).2 20) (g).toNat)) + (z)).toNat)) 21 (((y).2 18) ((((4 : Int)) * (g)) + (z)).toNat).toNat (((y).2 21) ((iU ((y).2 20) (((y).2 18) ((((4 : Int)) * (g)) + (z)).toNat).toNat (((y).2 19) ((((4 : Int)) * (((y).2 20) (g).toNat)) + (z)).toNat)) (((y).2 18) ((((4 : Int)) * (g)) + (z)).toNat).toNat).toNat)) 22 (t9).toNat (((y).2 18) ((((4 : Int)) * (g)) + (z)).toNat)) ((t9) + (1 : Int)) (k) (g) ((z) + (1 : Int)))
                · rw [if_neg hc]
                  exact sm_tr ((sm_a (by decide) (sm_a (by decide) (sm_a (by decide) (sm_a (by decide) (sm_rf _ _ _)))))) (ih.2.2.2.1 (aU (aU (aU (aU (y) 19 ((((4 : Int)) * (g)) + (z)).toNat (((y).2 18) ((((4 : Int)) * (g)) + (z)).toNat)) 20 (((y).2 18) ((((4 : Int)) * (g)) + (z)).toNat).toNat (((y).2 19) ((((4 : Int)) * (((y).2 20) (g).toNat)) + (z)).toNat)) 21 (((y).2 18) ((((4 : Int)) * (g)) + (z)).toNat).toNat (((y).2 21) (((y).2 18) ((((4 : Int)) * (g)) + (z)).toNat).toNat)) 22 (t9).toNat (((y).2 18) ((((4 : Int)) * (g)) + (z)).toNat)) ((t9) + (1 : Int)) (k) (g) ((z) + (1 : Int)))
    · intro y k q0 q1 q2
      rw [F_m_plant_e4]
      by_cases hc : ((y).1 17) ≤ (k)
      · rw [if_pos hc]
        exact (sm_rf _ _ _)
      · rw [if_neg hc]
        by_cases hc : (((y).2 22) (k).toNat) = (0)
        · rw [if_pos hc]
          exact sm_tr ((sm_rf _ _ _)) (ih.2.2.2.2.2 (y) (k) (((y).2 22) (k).toNat) ((1 : Int)) ((0 : Int)))
        · rw [if_neg hc]
          exact sm_tr ((sm_rf _ _ _)) (ih.2.2.2.2.2 (y) (k) (((y).2 22) (k).toNat) ((0 : Int)) ((0 : Int)))
    · intro y k g b z
      rw [F_m_plant_e5]
      by_cases hc : ((y).1 0) ≤ (z)
      · rw [if_pos hc]
        by_cases hc : (b) = (0)
        · rw [if_pos hc]
          exact sm_tr ((sm_a (by decide) (sm_rf _ _ _))) (ih.2.2.2.2.1 (aU (y) 23 (g).toNat ((-9 : Int))) ((k) + (1 : Int)) (0) (0) (0))
        · rw [if_neg hc]
          exact sm_tr ((sm_s (by decide) (sm_a (by decide) (sm_a (by decide) (sm_a (by decide) (sm_rf _ _ _)))))) (ih.2.2.2.2.1 (sU (aU (aU (aU (y) 23 (g).toNat ((-9 : Int))) 23 (g).toNat ((y).1 24)) 25 ((y).1 24).toNat (g)) 24 (((y).1 24) + ((1 : Int)))) ((k) + (1 : Int)) (0) (0) (0))
      · rw [if_neg hc]
        by_cases hc : (b) = (0)
        · rw [if_pos hc]
          by_cases hc : (((y).2 18) ((((4 : Int)) * (g)) + (z)).toNat) = ((-9 : Int))
          · rw [if_pos hc]
            exact sm_tr ((sm_rf _ _ _)) (ih.2.2.2.2.2 (y) (k) (g) ((0 : Int)) ((z) + (1 : Int)))
          · rw [if_neg hc]
            exact sm_tr ((sm_rf _ _ _)) (ih.2.2.2.2.2 (y) (k) (g) ((1 : Int)) ((z) + (1 : Int)))
        · rw [if_neg hc]
          exact sm_tr ((sm_rf _ _ _)) (ih.2.2.2.2.2 (y) (k) (g) ((1 : Int)) ((z) + (1 : Int)))
theorem F_m_plant_fr (x : MS)  : same [17, 24] [18, 19, 20, 21, 22, 23, 25] x (F_m_plant (x)).2 := by
  unfold F_m_plant
  exact sm_tr ((sm_tr (sm_s (by decide) (sm_rf _ _ _)) (sm_mono (by decide) (by decide) (F_m_newNode_fr (sU (x) 17 ((0 : Int))))))) ((F_m_plant_sfr 100000).1 ((F_m_newNode (sU (x) 17 ((0 : Int)))).2) ((0 : Int)) (0) (0) (0))
