theorem F_m_lay_s1_h : ∀ (n : Nat) (y : MS) (w v i : Int), 1 ≤ y.1 0 → y.1 0 ≤ 4 → i + 1 < n → i < 64 → hdR y → hdR (F_m_lay_s n 1 y w v i).2 ∧ (∀ k : Nat, (k : Int) ≤ i → 0 ≤ (F_m_lay_s n 1 y w v i).2.2 11 k ∧ (F_m_lay_s n 1 y w v i).2.2 11 k < y.1 0) ∧ (∀ k : Nat, i < k → (F_m_lay_s n 1 y w v i).2.2 11 k = y.2 11 k) := by
  intro n
  induction n with
  | zero => intro y w v i l0 l1 fu i1 hd; exact ⟨hd, fun k hk => absurd hk (by omega), fun k _ => rfl⟩
  | succ n ih =>
    intro y w v i l0 l1 fu i1 hd
    rw [F_m_lay_e1]
    by_cases hc : i < 0
    · rw [if_pos hc]; exact ⟨hd, fun k hk => absurd hk (by omega), fun k _ => rfl⟩
    · rw [if_neg hc]
      have r1 := Int.emod_nonneg v (show y.1 0 ≠ 0 by omega)
      have r2 := Int.emod_lt_of_pos v (show 0 < y.1 0 by omega)
      obtain ⟨g1, g2, g3⟩ := ih (aU y 11 i.toNat (v % y.1 0)) w (v / y.1 0) (i + (-1)) l0 l1 (by omega) (by omega) (fun k hk => by
        show 0 ≤ iU (y.2 11) i.toNat (v % y.1 0) k ∧ iU (y.2 11) i.toNat (v % y.1 0) k ≤ 3
        unfold iU
        split
        · exact ⟨r1, by omega⟩
        · exact hd k hk)
      refine ⟨g1, fun k hk => ?_, fun k hk => ?_⟩
      · rcases Int.lt_or_eq_of_le hk with h | h
        · exact g2 k (by omega)
        · rw [g3 k (by omega)]
          show 0 ≤ iU (y.2 11) i.toNat (v % y.1 0) k ∧ iU (y.2 11) i.toNat (v % y.1 0) k < y.1 0
          have e : k = i.toNat := by omega
          rw [e, iU_s]; exact ⟨r1, r2⟩
      · rw [g3 k (by omega)]
        show iU (y.2 11) i.toNat (v % y.1 0) k = y.2 11 k
        exact iU_n (by omega)
theorem F_m_lay_s0_h (K : Nat) (hK : K < 64) : ∀ (n : Nat) (y : MS) (w a b : Int), 1 ≤ y.1 0 → y.1 0 ≤ 4 → hdR y → 0 ≤ y.1 10 → w < y.2 8 K → y.1 10 + 1 ≤ K → (K : Int) - y.1 10 + 70 < n → hdR (F_m_lay_s n 0 y w a b).2 ∧ ∀ k : Nat, (k : Int) < (F_m_lay_s n 0 y w a b).2.1 10 → 0 ≤ (F_m_lay_s n 0 y w a b).2.2 11 k ∧ (F_m_lay_s n 0 y w a b).2.2 11 k < y.1 0 := by
  intro n
  induction n with
  | zero => intro y w a b l0 l1 hd s0 hw s1 fu; exact absurd fu (by omega)
  | succ n ih =>
    intro y w a b l0 l1 hd s0 hw s1 fu
    rw [F_m_lay_e0]
    by_cases hc : w < ((y.2 8) (y.1 10 + 1).toNat)
    · rw [if_pos hc]
      obtain ⟨g1, g2, -⟩ := F_m_lay_s1_h n y w (w - (y.2 8) (y.1 10).toNat) (y.1 10 - 1) l0 l1 (by omega) (by omega) hd
      refine ⟨g1, fun k hk => ?_⟩
      rw [F_m_lay_s1_1] at hk
      exact g2 k (by omega)
    · rw [if_neg hc]
      refine ih (sU y 10 (y.1 10 + 1)) w 0 0 l0 l1 hd ?_ hw ?_ ?_
      · show 0 ≤ y.1 10 + 1; omega
      · show (y.1 10 + 1) + 1 ≤ (K : Int)
        rcases Int.lt_or_eq_of_le s1 with g | g
        · omega
        · exfalso; rw [g] at hc; exact hc hw
      · show (K : Int) - (y.1 10 + 1) + 70 < n; omega
theorem F_m_lay_h {x : MS} {w : Int} {K : Nat} (h1 : 1 ≤ K) (h2 : K < 64) (hK : w < x.2 8 K) (l0 : 1 ≤ x.1 0) (l1 : x.1 0 ≤ 4) (hd : hdR x) : hdR (F_m_lay x w).2 ∧ ∀ k : Nat, (k : Int) < (F_m_lay x w).2.1 10 → 0 ≤ (F_m_lay x w).2.2 11 k ∧ (F_m_lay x w).2.2 11 k < x.1 0 := by
  refine F_m_lay_s0_h K h2 200 (sU x 10 0) w 0 0 l0 l1 hd ?_ hK ?_ ?_
  · show (0 : Int) ≤ 0; omega
  · show (0 : Int) + 1 ≤ K; omega
  · show (K : Int) - 0 + 70 < (200 : Nat); omega
theorem dg {v g d L : Int} (h0 : 0 ≤ v) (h1 : v < g) (d0 : 0 ≤ d) (d1 : d < L) : 0 ≤ v * L + d ∧ v * L + d < g * L := by
  have a : (v + 1) * L ≤ g * L := Int.mul_le_mul_of_nonneg_right (by omega) (by omega)
  have b : (v + 1) * L = v * L + L := by rw [Int.add_mul, Int.one_mul]
  have c : 0 ≤ v * L := Int.mul_nonneg h0 (by omega)
  omega
/-- what changed() reads: digits below L, exact firsts -/
def cgOK (x : MS) (l0 o q : Int) (M : Nat) : Prop := (∀ k : Nat, (k : Int) < x.1 10 → 0 ≤ x.2 11 k ∧ x.2 11 k < x.1 0) ∧ (∀ i : Int, 0 ≤ i → i < q → 0 ≤ (x.2 5) (24 * l0 + 12 + i).toNat ∧ (x.2 5) (24 * l0 + 12 + i).toNat < x.1 0) ∧ (∀ k : Nat, k ≤ M + 1 → x.2 8 k = gS (x.1 0) k)
def cgR (x : MS) (M : Nat) (r : Int) : Prop := r = -9 ∨ (0 ≤ r ∧ r < gS (x.1 0) (M + 1))
theorem cg3 {x : MS} {l0 at0 m0 o q : Int} {M : Nat} (hl : 1 ≤ x.1 0) (h : cgOK x l0 o q M) (o0 : 0 ≤ o) (q0 : 0 ≤ q) (a0 : 0 ≤ at0) (hm : x.1 10 - o + q ≤ M) : ∀ (n : Nat) (v i : Int), 0 ≤ v → at0 + o ≤ i → i ≤ x.1 10 → v < gP (x.1 0) (i - o + q).toNat → x.1 10 - i < n → cgR x M (F_m_changed_s n 3 x l0 at0 m0 o q v i).1 := by
  intro n
  induction n with
  | zero => intro v i v0 i0 i1 v1 fu; exact absurd fu (by omega)
  | succ n ih =>
    intro v i v0 i0 i1 v1 fu
    rw [F_m_changed_e3]
    by_cases hc : x.1 10 ≤ i
    · rw [if_pos hc]
      have e : x.1 10 = i := by omega
      have f := h.2.2 (x.1 10 - o + q).toNat (by omega)
      have a := gS_nn hl (x.1 10 - o + q).toNat
      have b : gS (x.1 0) ((x.1 10 - o + q).toNat + 1) = gS (x.1 0) (x.1 10 - o + q).toNat + gP (x.1 0) (x.1 10 - o + q).toNat := rfl
      have c := gS_mono hl (show (x.1 10 - o + q).toNat + 1 ≤ M + 1 by omega)
      rw [← e] at v1
      refine Or.inr ⟨?_, ?_⟩
      · show 0 ≤ (x.2 8) (x.1 10 - o + q).toNat + v; omega
      · show (x.2 8) (x.1 10 - o + q).toNat + v < gS (x.1 0) (M + 1); omega
    · rw [if_neg hc]
      obtain ⟨d0, d1⟩ := h.1 i.toNat (by omega)
      obtain ⟨g0, g1⟩ := dg v0 v1 d0 d1
      refine ih _ _ g0 (by omega) (by omega) ?_ (by omega)
      have e : (i + 1 - o + q).toNat = (i - o + q).toNat + 1 := by omega
      rw [e]; exact g1
theorem cg2 {x : MS} {l0 at0 m0 o q : Int} {M : Nat} (hl : 1 ≤ x.1 0) (h : cgOK x l0 o q M) (o0 : 0 ≤ o) (q0 : 0 ≤ q) (a0 : 0 ≤ at0) (hm : x.1 10 - o + q ≤ M) (ao : at0 + o ≤ x.1 10) (hh : x.1 10 ≤ 60) : ∀ (n : Nat) (v i : Int), 0 ≤ v → 0 ≤ i → i ≤ q → v < gP (x.1 0) (at0 + i).toNat → q - i + 70 < n → cgR x M (F_m_changed_s n 2 x l0 at0 m0 o q v i).1 := by
  intro n
  induction n with
  | zero => intro v i v0 i0 i1 v1 fu; exact absurd fu (by omega)
  | succ n ih =>
    intro v i v0 i0 i1 v1 fu
    rw [F_m_changed_e2]
    by_cases hc : q ≤ i
    · rw [if_pos hc]
      have e : (at0 + o - o + q).toNat = (at0 + i).toNat := by omega
      exact cg3 hl h o0 q0 a0 hm n v (at0 + o) v0 (by omega) ao (by rw [e]; exact v1) (by omega)
    · rw [if_neg hc]
      obtain ⟨d0, d1⟩ := h.2.1 i i0 (by omega)
      obtain ⟨g0, g1⟩ := dg v0 v1 d0 d1
      refine ih _ _ g0 (by omega) (by omega) ?_ (by omega)
      have e : (at0 + (i + 1)).toNat = (at0 + i).toNat + 1 := by omega
      rw [e]; exact g1
theorem cg1 {x : MS} {l0 at0 m0 o q : Int} {M : Nat} (hl : 1 ≤ x.1 0) (h : cgOK x l0 o q M) (o0 : 0 ≤ o) (q0 : 0 ≤ q) (q1 : q ≤ 12) (a0 : 0 ≤ at0) (hm : x.1 10 - o + q ≤ M) (ao : at0 + o ≤ x.1 10) (hh : x.1 10 ≤ 60) : ∀ (n : Nat) (v i : Int), 0 ≤ v → 0 ≤ i → i ≤ at0 → v < gP (x.1 0) i.toNat → at0 - i + 100 < n → cgR x M (F_m_changed_s n 1 x l0 at0 m0 o q v i).1 := by
  intro n
  induction n with
  | zero => intro v i v0 i0 i1 v1 fu; exact absurd fu (by omega)
  | succ n ih =>
    intro v i v0 i0 i1 v1 fu
    rw [F_m_changed_e1]
    by_cases hc : at0 ≤ i
    · rw [if_pos hc]
      have e : (at0 + 0).toNat = i.toNat := by omega
      exact cg2 hl h o0 q0 a0 hm ao hh n v 0 v0 (by omega) q0 (by rw [e]; exact v1) (by omega)
    · rw [if_neg hc]
      obtain ⟨d0, d1⟩ := h.1 i.toNat (by omega)
      obtain ⟨g0, g1⟩ := dg v0 v1 d0 d1
      refine ih _ _ g0 (by omega) (by omega) ?_ (by omega)
      have e : (i + 1).toNat = i.toNat + 1 := by omega
      rw [e]; exact g1
theorem cg0 {x : MS} {l0 at0 m0 o q : Int} {M : Nat} (hl : 1 ≤ x.1 0) (h : cgOK x l0 o q M) (o0 : 0 ≤ o) (o1 : o ≤ 12) (q0 : 0 ≤ q) (q1 : q ≤ 12) (a0 : 0 ≤ at0) (hm : x.1 10 - o + q ≤ M) (ao : at0 + o ≤ x.1 10) (hh : x.1 10 ≤ 60) : ∀ (n : Nat) (i z : Int), 0 ≤ i → i ≤ o → o - i + 200 < n → cgR x M (F_m_changed_s n 0 x l0 at0 m0 o q i z).1 := by
  intro n
  induction n with
  | zero => intro i z i0 i1 fu; exact absurd fu (by omega)
  | succ n ih =>
    intro i z i0 i1 fu
    rw [F_m_changed_e0]
    by_cases hc : o ≤ i
    · rw [if_pos hc]
      exact cg1 hl h o0 q0 q1 a0 hm ao hh n 0 0 (by omega) (by omega) a0 (by show (0 : Int) < gP (x.1 0) 0; show (0 : Int) < 1; omega) (by omega)
    · rw [if_neg hc]
      by_cases hd : ((x.2 11) (at0 + i).toNat) = ((x.2 5) ((24 * l0) + i).toNat)
      · rw [if_pos hd]; exact ih _ _ (by omega) (by omega) (by omega)
      · rw [if_neg hd]; exact Or.inl rfl
theorem F_m_changed_v {x : MS} {l0 at0 m0 : Int} {M : Nat} (hl : 1 ≤ x.1 0) (h : cgOK x l0 ((x.2 4) (2 * l0).toNat) ((x.2 4) (2 * l0 + 1).toNat) M) (o0 : 0 ≤ (x.2 4) (2 * l0).toNat) (o1 : (x.2 4) (2 * l0).toNat ≤ 12) (q0 : 0 ≤ (x.2 4) (2 * l0 + 1).toNat) (q1 : (x.2 4) (2 * l0 + 1).toNat ≤ 12) (a0 : 0 ≤ at0) (hm : m0 ≤ M) (hh : x.1 10 ≤ 60) : cgR x M (F_m_changed x l0 at0 m0).1 := by
  unfold F_m_changed
  by_cases c1 : x.1 10 < at0 + (x.2 4) (2 * l0).toNat
  · rw [if_pos c1]; exact Or.inl rfl
  · rw [if_neg c1]
    by_cases c2 : x.1 10 - (x.2 4) (2 * l0).toNat + (x.2 4) (2 * l0 + 1).toNat ≤ m0
    · rw [if_pos c2]; exact cg0 hl h o0 o1 q0 q1 a0 (by omega) (by omega) hh 400 0 0 (by omega) o0 (by omega)
    · rw [if_neg c2]; exact Or.inl rfl
