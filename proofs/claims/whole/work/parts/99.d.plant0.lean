-- deps: 99.a 99.b 99.c
/-! plant, step by step -/
theorem pB_b {x y : MS} {d g i : Nat} (h : pB x y d g i) : (∃ N : Nat, y.1 17 = (N : Int) ∧ N ≤ 1 + 20 * d + i ∧ g < N) ∧ y.2 13 = x.2 13 ∧ y.2 14 = x.2 14 ∧ y.1 12 = x.1 12 ∧ i ≤ (lM x d).length := by
  obtain ⟨f, str, N, e, b, t, en, p, hg, sg, il⟩ := h
  exact ⟨⟨N, e, b, hg⟩, f.2 13 (by decide), f.2 14 (by decide), f.1 12 (by decide), il⟩
theorem pl_let {x : MS} (pr : plR x) {d i : Int} (d0 : 0 ≤ d) (d1 : d < x.1 12) (i0 : 0 ≤ i) (i1 : i < x.2 13 d.toNat) : 0 ≤ x.2 14 (24 * d + i).toNat ∧ x.2 14 (24 * d + i).toNat < x.1 0 ∧ ∃ h : i.toNat < (lM x d.toNat).length, (lM x d.toNat)[i.toNat] = x.2 14 (24 * d + i).toNat := by
  have a := (pr.2.2.1 d.toNat (by omega)).2 i.toNat (by omega)
  have e : (24 * d + i).toNat = 24 * d.toNat + i.toNat := by omega
  rw [e]
  have hl : i.toNat < (lM x d.toNat).length := by rw [lM_len]; omega
  exact ⟨a.1, a.2, hl, lM_get hl⟩
theorem pB_newI {x y : MS} {d g i : Int} (pr : plR x) (hb : pB x y d.toNat g.toNat i.toNat) (d0 : 0 ≤ d) (d1 : d < x.1 12) (g0 : 0 ≤ g) (i0 : 0 ≤ i) (i1 : i < x.2 13 d.toNat) (hC : y.2 18 (4 * g + y.2 14 (24 * d + i).toNat).toNat = -9) : pB x (aU (F_m_newNode y).2 18 (4 * g + y.2 14 (24 * d + i).toNat).toNat (F_m_newNode y).1) d.toNat (iU ((F_m_newNode y).2.2 18) (4 * g + y.2 14 (24 * d + i).toNat).toNat (F_m_newNode y).1 (4 * g + y.2 14 (24 * d + i).toNat).toNat).toNat (i + 1).toNat ∧ 0 ≤ iU ((F_m_newNode y).2.2 18) (4 * g + y.2 14 (24 * d + i).toNat).toNat (F_m_newNode y).1 (4 * g + y.2 14 (24 * d + i).toNat).toNat := by
  obtain ⟨l0, l1, hl, el⟩ := pl_let pr d0 d1 i0 i1
  have e14 := (pB_b hb).2.2.1
  rw [e14] at hC ⊢
  have n4 := pr.2.1.2
  have ei : (4 * g + x.2 14 (24 * d + i).toNat).toNat = 4 * g.toNat + (x.2 14 (24 * d + i).toNat).toNat := by omega
  rw [ei] at hC ⊢
  obtain ⟨N, a1, a2⟩ := pB_new hb hl (l := (x.2 14 (24 * d + i).toNat).toNat) (by rw [el]; omega) (by omega) hC
  rw [iU_s, a1, Int.toNat_natCast, show (i + 1).toNat = i.toNat + 1 by omega]
  rw [a1] at a2
  exact ⟨a2, by omega⟩
theorem pB_oldI {x y : MS} {d g i : Int} (pr : plR x) (hb : pB x y d.toNat g.toNat i.toNat) (d0 : 0 ≤ d) (d1 : d < x.1 12) (g0 : 0 ≤ g) (i0 : 0 ≤ i) (i1 : i < x.2 13 d.toNat) (hC : ¬ y.2 18 (4 * g + y.2 14 (24 * d + i).toNat).toNat = -9) : pB x y d.toNat (y.2 18 (4 * g + y.2 14 (24 * d + i).toNat).toNat).toNat (i + 1).toNat ∧ 0 ≤ y.2 18 (4 * g + y.2 14 (24 * d + i).toNat).toNat := by
  obtain ⟨l0, l1, hl, el⟩ := pl_let pr d0 d1 i0 i1
  have e14 := (pB_b hb).2.2.1
  rw [e14] at hC ⊢
  have n4 := pr.2.1.2
  have ei : (4 * g + x.2 14 (24 * d + i).toNat).toNat = 4 * g.toNat + (x.2 14 (24 * d + i).toNat).toNat := by omega
  rw [ei] at hC ⊢
  obtain ⟨c, a1, a2⟩ := pB_old hb hl (l := (x.2 14 (24 * d + i).toNat).toNat) (by rw [el]; omega) (by omega) hC
  rw [a1, Int.toNat_natCast, show (i + 1).toNat = i.toNat + 1 by omega]
  exact ⟨a2, by omega⟩
theorem pB_endI {x y : MS} {d g i : Int} (pr : plR x) (hb : pB x y d.toNat g.toNat i.toNat) (d0 : 0 ≤ d) (d1 : d < x.1 12) (i0 : 0 ≤ i) (i1 : x.2 13 d.toNat ≤ i) : pA x (aU y 21 g.toNat d) (d + 1).toNat := by
  have h := pB_end pr (d := d.toNat) (by omega) hb (by rw [lM_len]; omega)
  rw [Int.toNat_of_nonneg d0] at h
  rw [show (d + 1).toNat = d.toNat + 1 by omega]
  exact h
/-- the second loop -/
def pC (x y : MS) (k z t : Nat) : Prop := same [17] [18, 19, 20, 21, 22] x y ∧ ∃ (str : Nat → List Int) (N : Nat), y.1 17 = (N : Int) ∧ N ≤ 801 ∧ yK (lM x) (x.1 12).toNat (x.1 0).toNat (y.2 18) str N ∧ yQ (y.2 18) (y.2 22) str N k z t ∧ yG (lM x) (x.1 12).toNat (x.1 0).toNat (y.2 22) (y.2 19) str N k z t ∧ yB (lM x) (x.1 12).toNat (y.2 22) (y.2 20) str N t ∧ yF (lM x) (x.1 12).toNat (y.2 22) (y.2 21) str N t
theorem lM_ok {x : MS} (pr : plR x) {r : Nat} (hr : r < (x.1 12).toNat) : lM x r ≠ [] ∧ okL (x.1 0).toNat (lM x r) ∧ (lM x r).length ≤ 20 := by
  obtain ⟨a, b⟩ := pr.2.2.1 r (by have := pr.1; omega)
  refine ⟨fun e => ?_, fun l hl => ?_, by rw [lM_len]; omega⟩
  · have := lM_len x r
    rw [e] at this
    simp at this
    omega
  · unfold lM at hl
    obtain ⟨i, hi, e⟩ := List.mem_map.mp hl
    have := b i (by have := List.mem_range.mp hi; omega)
    rw [← e]
    have := pr.2.1
    omega
theorem pC_0 {x y : MS} {d : Int} (pr : plR x) (h : pA x y d.toNat) (d0 : 0 ≤ d) (d1 : x.1 12 ≤ d) (d2 : d ≤ 40) (d3 : d ≤ x.1 12) : pC x (aU (aU y 22 (0 : Int).toNat 0) 20 (0 : Int).toNat 0) (0 : Int).toNat (0 : Int).toNat (1 : Int).toNat := by
  have ed : d = x.1 12 := by omega
  subst ed
  obtain ⟨f, str, N, e, b, t, en, p⟩ := h
  have K : yK (lM x) (x.1 12).toNat (x.1 0).toNat (y.2 18) str N := by
    refine ⟨t, fun n hn => ?_, fun q hq => ?_, fun r hr => ⟨(lM_ok pr hr).1, (lM_ok pr hr).2.1⟩, by have := pr.2.1; omega⟩
    · rcases p n hn with h | ⟨r, hr, e, he⟩
      · exact Or.inl h
      · exact Or.inr ⟨r, e, hr, he⟩
    · rcases hq with h | ⟨r, e, hr, he⟩
      · exact ⟨0, t.1, by rw [h]; exact t.2.1⟩
      · obtain ⟨n, n1, n2, _⟩ := en.2 r hr
        exact yT_pfx t n n1 q e (by rw [n2]; exact he)
  have eX9 : ∀ n, n < N → eX (lM x) (x.1 12).toNat (str n) (y.2 21 n) := by
    intro n hn
    rcases en.1 n hn with h | ⟨r, hr, h1, h2⟩
    · refine Or.inl ⟨h, fun r hr es => ?_⟩
      obtain ⟨m, m1, m2, m3⟩ := en.2 r hr
      have : m = n := t.2.2.2.2 m n m1 hn (by rw [m2, es])
      rw [this, h] at m3
      omega
    · exact Or.inr ⟨r, hr, h1, h2⟩
  have S := y_start (L := lM x) (R := (x.1 12).toNat) (nl := (x.1 0).toNat) (O := iU (y.2 22) 0 0) (B := iU (y.2 20) 0 0) (G := y.2 19) (E := y.2 21) K iU_s iU_s eX9
  refine ⟨sm_a (by decide) (sm_a (by decide) (sm_mono (by decide) (by decide) f)), str, N, e, by omega, K, S.1, S.2.1, S.2.2.1, S.2.2.2⟩
theorem pC_b {x y : MS} (pr : plR x) {k z t : Nat} (h : pC x y k z t) : (∃ N : Nat, y.1 17 = (N : Int) ∧ N ≤ 801 ∧ t ≤ N ∧ ∀ j, j < t → 0 ≤ y.2 22 j ∧ y.2 22 j < (N : Int)) ∧ y.1 0 = x.1 0 ∧ y.1 12 = x.1 12 := by
  obtain ⟨f, str, N, e, b, K, q, g, bb, ff⟩ := h
  exact ⟨⟨N, e, b, yQ_len q, q.2.2.1⟩, f.1 0 (by decide), f.1 12 (by decide)⟩
/-- what is read at a LETTER: all numbers are nodes -/
theorem pC_r {x y : MS} (pr : plR x) {k z t9 g : Int} (h : pC x y k.toNat z.toNat t9.toNat) (hg : g = y.2 22 k.toNat) (k0 : 0 ≤ k) (k1 : k < t9) (z0 : 0 ≤ z) (z1 : z < x.1 0) : (0 ≤ g ∧ g < 801) ∧ (y.2 18 (4 * g + z).toNat = -9 ∨ (0 < y.2 18 (4 * g + z).toNat ∧ y.2 18 (4 * g + z).toNat < 801)) ∧ (0 ≤ y.2 20 g.toNat ∧ y.2 20 g.toNat < 801) ∧ (¬ g = 0 → 0 ≤ y.2 19 (4 * y.2 20 g.toNat + z).toNat ∧ y.2 19 (4 * y.2 20 g.toNat + z).toNat < 801) := by
  obtain ⟨f, str, N, e, b, K, q, gg, bb, ff⟩ := h
  have hk : k.toNat < t9.toNat := by omega
  have og := q.2.2.1 k.toNat hk
  have Y := y_by K q hk (by omega) gg bb
  rw [← hg] at og Y
  have n4 := pr.2.1.2
  have ei : (4 * g + z).toNat = 4 * g.toNat + z.toNat := by omega
  have ej : (4 * y.2 20 g.toNat + z).toNat = 4 * (y.2 20 g.toNat).toNat + z.toNat := by have := Y.1; omega
  refine ⟨by omega, ?_, by omega, fun hn => ?_⟩
  · rw [ei]
    rcases K.1.2.2.1 g.toNat z.toNat (by omega) (by omega) with h | ⟨c, h1, h2, h3, _⟩
    · exact Or.inl h
    · exact Or.inr (by rw [h3]; omega)
  · obtain ⟨_, q1, h1, h2, _⟩ := Y
    rw [if_neg (by omega)] at h2
    rw [ej, h2]
    omega
theorem pC_none {x y : MS} (pr : plR x) {k z t9 g b9 : Int} (h : pC x y k.toNat z.toNat t9.toNat) (hg : g = y.2 22 k.toNat) (k0 : 0 ≤ k) (k1 : k < t9) (z0 : 0 ≤ z) (z1 : z < x.1 0) (hC : y.2 18 (4 * g + z).toNat = -9) (hb : b9 = if g = 0 then 0 else y.2 19 (4 * y.2 20 g.toNat + z).toNat) : pC x (aU y 19 (4 * g + z).toNat b9) k.toNat (z + 1).toNat t9.toNat := by
  have R9 := pC_r pr h hg k0 k1 z0 z1
  obtain ⟨f, str, N, e, b, K, q, gg, bb, ff⟩ := h
  have hk : k.toNat < t9.toNat := by omega
  have n4 := pr.2.1.2
  have ei : (4 * g + z).toNat = 4 * g.toNat + z.toNat := by omega
  have ej : (4 * y.2 20 g.toNat + z).toNat = 4 * (y.2 20 g.toNat).toNat + z.toNat := by omega
  obtain ⟨_, q1, h1, h2, h3⟩ := y_by K q hk (by omega) gg bb
  rw [← hg] at h2 h3
  have e9 : b9 = (q1 : Int) := by
    rw [hb, ej, ← h2]
    by_cases c : g = 0
    · rw [if_pos c, if_pos (by omega)]
    · rw [if_neg c, if_neg (by omega)]
  have S := y_step0 K q hk (by omega) gg (by rw [← hg, ← ei]; exact hC) h1 (by rw [← hg]; exact h3)
  rw [← hg] at S
  rw [e9, ei, show (z + 1).toNat = z.toNat + 1 by omega]
  exact ⟨sm_a (by decide) f, str, N, e, b, K, S.1, by rw [yU_s]; exact S.2, bb, ff⟩
theorem pC_push {x y : MS} (pr : plR x) {k z t9 g b9 c9 e9 : Int} (h : pC x y k.toNat z.toNat t9.toNat) (hg : g = y.2 22 k.toNat) (k0 : 0 ≤ k) (k1 : k < t9) (z0 : 0 ≤ z) (z1 : z < x.1 0) (hc : c9 = y.2 18 (4 * g + z).toNat) (hC : ¬ c9 = -9) (hb : b9 = if g = 0 then 0 else y.2 19 (4 * y.2 20 g.toNat + z).toNat) (he : e9 = if y.2 21 c9.toNat = -9 then y.2 21 b9.toNat else y.2 21 c9.toNat) : pC x (aU (aU (aU (aU y 19 (4 * g + z).toNat c9) 20 c9.toNat b9) 21 c9.toNat e9) 22 t9.toNat c9) k.toNat (z + 1).toNat (t9 + 1).toNat := by
  have R9 := pC_r pr h hg k0 k1 z0 z1
  obtain ⟨f, str, N, e, b, K, q, gg, bb, ff⟩ := h
  have hk : k.toNat < t9.toNat := by omega
  have n4 := pr.2.1.2
  have ei : (4 * g + z).toNat = 4 * g.toNat + z.toNat := by omega
  have ej : (4 * y.2 20 g.toNat + z).toNat = 4 * (y.2 20 g.toNat).toNat + z.toNat := by omega
  obtain ⟨_, q1, h1, h2, h3⟩ := y_by K q hk (by omega) gg bb
  rw [← hg] at h2 h3
  have eb : b9 = (q1 : Int) := by
    rw [hb, ej, ← h2]
    by_cases c : g = 0
    · rw [if_pos c, if_pos (by omega)]
    · rw [if_neg c, if_neg (by omega)]
  have c0 : 0 < c9 := by rw [hc] at hC ⊢; rcases R9.2.1 with h | h; exact absurd h hC; exact h.1
  have ec : y.2 18 (4 * (y.2 22 k.toNat).toNat + z.toNat) = ((c9.toNat : Nat) : Int) := by rw [← hg, ← ei, ← hc]; omega
  have S := y_step1 K q hk (by omega) gg bb ff ec h1 (by rw [← hg]; exact h3)
  obtain ⟨s1, s2, s3, s4, s5, s6⟩ := S
  rw [← hg, ← ei] at s4
  rw [eb, Int.toNat_natCast] at he
  rw [← he] at s6
  rw [Int.toNat_of_nonneg (by omega)] at s3 s4 s5 s6
  rw [eb, show (z + 1).toNat = z.toNat + 1 by omega, show (t9 + 1).toNat = t9.toNat + 1 by omega]
  refine ⟨sm_a (by decide) (sm_a (by decide) (sm_a (by decide) (sm_a (by decide) f))), str, N, e, b, ?_, ?_, ?_, ?_, ?_⟩
  · rw [yU_n (by decide), yU_n (by decide), yU_n (by decide), yU_n (by decide)]; exact K
  · rw [yU_n (by decide), yU_n (by decide), yU_n (by decide), yU_n (by decide), yU_s, yU_n (by decide), yU_n (by decide), yU_n (by decide)]; exact s3
  · rw [yU_s, yU_n (by decide), yU_n (by decide), yU_n (by decide), yU_n (by decide), yU_n (by decide), yU_n (by decide), yU_s]; exact s4
  · rw [yU_s, yU_n (by decide), yU_n (by decide), yU_n (by decide), yU_n (by decide), yU_n (by decide), yU_s, yU_n (by decide)]; exact s5
  · rw [yU_s, yU_n (by decide), yU_n (by decide), yU_n (by decide), yU_n (by decide), yU_s, yU_n (by decide), yU_n (by decide)]; exact s6
theorem pC_on {x y : MS} (pr : plR x) {k z t9 : Int} (h : pC x y k.toNat z.toNat t9.toNat) (k0 : 0 ≤ k) (k1 : k < t9) (z0 : 0 ≤ z) (z1 : x.1 0 ≤ z) : pC x y (k + 1).toNat (0 : Int).toNat t9.toNat := by
  obtain ⟨f, str, N, e, b, K, q, gg, bb, ff⟩ := h
  obtain ⟨s1, s2⟩ := y_on K q (by omega) (by omega) gg
  rw [show (k + 1).toNat = k.toNat + 1 by omega]
  exact ⟨f, str, N, e, b, K, s1, s2, bb, ff⟩
