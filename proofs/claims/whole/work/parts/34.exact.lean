-- deps: 30 31 32
/-- powers and firsts are what they say, by recursion; longest is the longest for which there is room -/
def scX (x : KS) : Prop := scR x ∧ x.2 2 0 = 1 ∧ (∀ j : Nat, (j : Int) + 1 ≤ x.1 1 3 → x.2 2 (j + 1) = x.2 2 j * x.1 1 2) ∧ (∀ j : Nat, (j : Int) ≤ x.1 1 3 → x.2 3 (j + 1) = x.2 3 j + x.2 2 j) ∧ (x.1 1 3 = 20 ∨ 10000 < x.2 3 (x.1 1 3 + 1).toNat + x.2 2 (x.1 1 3).toNat * x.1 1 2)
/-- all that was ever laid in the two rows is small -/
def scO (x : KS) : Prop := (∀ k : Nat, k < 21 → 0 ≤ x.2 2 k ∧ x.2 2 k ≤ 10000) ∧ (∀ k : Nat, k < 22 → 0 ≤ x.2 3 k ∧ x.2 3 k ≤ 10000)

def stI (y : KS) (n0 b q : Int) (K : Nat) : Prop := y.1 1 2 = n0 ∧ (1 ≤ n0 ∧ n0 ≤ 4) ∧ (K = 0 → b = 0 ∧ q = 1) ∧ (0 < K → y.1 1 3 = (K : Int) - 1 ∧ b = y.2 3 K ∧ q = y.2 2 (K - 1) * n0 ∧ y.2 2 0 = 1 ∧ y.2 3 0 = 0) ∧ (∀ j : Nat, j + 1 < K → y.2 2 (j + 1) = y.2 2 j * n0) ∧ (∀ j : Nat, j < K → y.2 3 (j + 1) = y.2 3 j + y.2 2 j) ∧ scO y ∧ (0 ≤ b ∧ b ≤ 10000) ∧ (1 ≤ q) ∧ K ≤ 21
theorem stI_end {y : KS} {n0 b q : Int} {K : Nat} (h : stI y n0 b q K) (hK : 0 < K) (he : 20 < (K : Int) ∨ 10000 < b + q) : scX y := by
  obtain ⟨h1, h2, h3, h4, h5, h6, h7, h8, h9, h10⟩ := h
  obtain ⟨a1, a2, a3, a4, a5⟩ := h4 hK
  have e1 : (y.1 1 3).toNat = K - 1 := by omega
  have e2 : (y.1 1 3 + 1).toNat = K := by omega
  refine ⟨⟨by rw [h1]; exact h2, by omega, h7.1, h7.2, a5⟩, a4, fun j hj => by rw [h1]; exact h5 j (by omega), fun j hj => h6 j (by omega), ?_⟩
  rcases he with he | he
  · left; omega
  · right; rw [e2, e1, ← a2, h1, ← a3]; exact he
theorem stI_step {y : KS} {n0 b q : Int} {K : Nat} (h : stI y n0 b q K) (c1 : ¬ 20 < (K : Int)) (c2 : ¬ 10000 < b + q) : stI (kA (kS (kA (kA y 2 (K : Int).toNat q) 3 (K : Int).toNat b) 1 3 (K : Int)) 3 ((K : Int) + 1).toNat (b + q)) n0 (b + q) (q * y.1 1 2) (K + 1) := by
  obtain ⟨h1, h2, h3, h4, h5, h6, h7, h8, h9, h10⟩ := h
  have e0 : (K : Int).toNat = K := Int.toNat_natCast K
  have e1 : ((K : Int) + 1).toNat = K + 1 := by omega
  rw [e0, e1]
  have a2 : (kA (kS (kA (kA y 2 K q) 3 K b) 1 3 (K : Int)) 3 (K + 1) (b + q)).2 2 = iU (y.2 2) K q := rfl
  have a3 : (kA (kS (kA (kA y 2 K q) 3 K b) 1 3 (K : Int)) 3 (K + 1) (b + q)).2 3 = iU (iU (y.2 3) K b) (K + 1) (b + q) := rfl
  have s2 : (kA (kS (kA (kA y 2 K q) 3 K b) 1 3 (K : Int)) 3 (K + 1) (b + q)).1 1 2 = y.1 1 2 := rfl
  have s3 : (kA (kS (kA (kA y 2 K q) 3 K b) 1 3 (K : Int)) 3 (K + 1) (b + q)).1 1 3 = (K : Int) := rfl
  generalize kA (kS (kA (kA y 2 K q) 3 K b) 1 3 (K : Int)) 3 (K + 1) (b + q) = z at a2 a3 s2 s3
  have v2 : ∀ j, z.2 2 j = if j = K then q else y.2 2 j := fun j => by rw [a2]; rfl
  have v3 : ∀ j, z.2 3 j = if j = K + 1 then b + q else if j = K then b else y.2 3 j := fun j => by rw [a3]; rfl
  have z00 : z.2 2 0 = 1 := by
    rw [v2]
    by_cases hK : K = 0
    · rw [if_pos hK.symm]; exact (h3 hK).2
    · rw [if_neg (fun e => hK e.symm)]; exact (h4 (by omega)).2.2.2.1
  have z30 : z.2 3 0 = 0 := by
    rw [v3, if_neg (by omega)]
    by_cases hK : K = 0
    · rw [if_pos hK.symm]; exact (h3 hK).1
    · rw [if_neg (fun e => hK e.symm)]; exact (h4 (by omega)).2.2.2.2
  have m1 : q * 1 ≤ q * y.1 1 2 := Int.mul_le_mul_of_nonneg_left (by omega) (by omega)
  refine ⟨by rw [s2]; exact h1, h2, fun h => absurd h (by omega), fun _ => ⟨by rw [s3]; omega, by rw [v3, if_pos rfl], by rw [Nat.add_sub_cancel, v2, if_pos rfl, h1], z00, z30⟩, fun j hj => ?_, fun j hj => ?_, ⟨fun k hk => ?_, fun k hk => ?_⟩, by omega, by omega, by omega⟩
  · rw [v2, v2, if_neg (show ¬ j = K by omega)]
    by_cases hK : j + 1 = K
    · rw [if_pos hK]
      obtain ⟨_, _, a, _⟩ := h4 (by omega)
      rw [a, ← hK, Nat.add_sub_cancel]
    · rw [if_neg hK]; exact h5 j (by omega)
  · rw [v3, v3, v2, if_neg (show ¬ j = K + 1 by omega)]
    by_cases hK : j = K
    · subst hK; rw [if_pos rfl, if_pos rfl, if_pos rfl]
    · rw [if_neg (show ¬ j + 1 = K + 1 by omega), if_neg hK, if_neg hK]
      by_cases hK2 : j + 1 = K
      · rw [if_pos hK2]
        obtain ⟨_, a, _⟩ := h4 (by omega)
        have := h6 j (by omega)
        rw [hK2] at this
        omega
      · rw [if_neg hK2]; exact h6 j (by omega)
  · rw [v2]
    by_cases hK : k = K
    · rw [if_pos hK]; omega
    · rw [if_neg hK]; exact h7.1 k hk
  · rw [v3]
    by_cases hK : k = K + 1
    · rw [if_pos hK]; omega
    · rw [if_neg hK]
      by_cases hK2 : k = K
      · rw [if_pos hK2]; omega
      · rw [if_neg hK2]; exact h7.2 k hk
theorem F_s_setLetters_s_x : ∀ (n : Nat) (y : KS) (n0 b q : Int) (K : Nat), stI y n0 b q K → 21 - (K : Int) < n → scX (F_s_setLetters_s n 0 y n0 b q (K : Int)).2 ∧ (F_s_setLetters_s n 0 y n0 b q (K : Int)).2.1 1 2 = n0 ∧ scO (F_s_setLetters_s n 0 y n0 b q (K : Int)).2 := by
  intro n
  induction n with
  | zero => intro y n0 b q K h hn; exfalso; have := h.2.2.2.2.2.2.2.2.2; omega
  | succ n ih =>
    intro y n0 b q K h hn
    rw [F_s_setLetters_e0]
    have hz : K = 0 → ¬ (20 : Int) < (K : Int) ∧ ¬ (10000 : Int) < b + q := fun e => by have := h.2.2.1 e; omega
    by_cases c1 : (20 : Int) < (K : Int)
    · rw [if_pos c1]; exact ⟨stI_end h (by omega) (Or.inl c1), h.1, h.2.2.2.2.2.2.1⟩
    · rw [if_neg c1]
      by_cases c2 : (10000 : Int) < b + q
      · rw [if_pos c2]; exact ⟨stI_end h (by rcases Nat.eq_zero_or_pos K with e | e; exact absurd c2 (hz e).2; exact e) (Or.inr c2), h.1, h.2.2.2.2.2.2.1⟩
      · rw [if_neg c2]
        have st := stI_step h c1 c2
        have := ih _ n0 (b + q) (q * y.1 1 2) (K + 1) st (by omega)
        rw [show ((K + 1 : Nat) : Int) = (K : Int) + 1 by omega] at this
        exact this
theorem F_s_setLetters_x {x : KS} {n0 : Int} (h1 : 1 ≤ n0) (h4 : n0 ≤ 4) (ho : scO x) : scX (F_s_setLetters x n0).2 ∧ (F_s_setLetters x n0).2.1 1 2 = n0 ∧ scO (F_s_setLetters x n0).2 := by
  have e : max n0 1 = n0 := by omega
  have := F_s_setLetters_s_x 30 (kS x 1 2 (max n0 1)) n0 0 1 0 ⟨by rw [kS_s, e], ⟨h1, h4⟩, fun _ => ⟨rfl, rfl⟩, fun h => absurd h (by omega), fun j hj => absurd hj (by omega), fun j hj => absurd hj (by omega), ho, by omega, by omega, by omega⟩ (by omega)
  exact this
theorem scX_1 {x : KS} (h : scX x) : ∀ k : Nat, (k : Int) ≤ x.1 1 3 → 1 ≤ x.2 2 k := by
  intro k
  induction k with
  | zero => intro _; rw [h.2.1]; decide
  | succ k ih =>
    intro hk
    rw [h.2.2.1 k (by omega)]
    have := ih (by omega)
    have l0 := h.1.1.1
    have m1 : x.2 2 k * 1 ≤ x.2 2 k * x.1 1 2 := Int.mul_le_mul_of_nonneg_left l0 (by omega)
    omega
theorem scX_add {x : KS} (h : scX x) (i : Nat) : ∀ k : Nat, ((i + k : Nat) : Int) ≤ x.1 1 3 → x.2 2 (i + k) = x.2 2 i * x.2 2 k := by
  intro k
  induction k with
  | zero => intro _; rw [h.2.1]; simp
  | succ k ih =>
    intro hk
    rw [← Nat.add_assoc, h.2.2.1 (i + k) (by omega), ih (by omega), h.2.2.1 k (by omega), Int.mul_assoc]
/-- letters of a STRING -/
def wLt (x : KS) (c : Nat) : Prop := ∀ j : Nat, (j : Int) < x.1 c 1 → 0 ≤ x.2 (c + 1) j ∧ x.2 (c + 1) j < x.1 1 2
theorem F_s_valueOf_s_b {x : KS} (h : scX x) {w1 : Nat} (hu : x.1 w1 1 ≤ x.1 1 3) (hl : wLt x w1) : ∀ (n : Nat) (v : Int) (i : Nat), 0 ≤ v → v < x.2 2 i → (i : Int) ≤ x.1 w1 1 → x.1 w1 1 - i < n → 0 ≤ (F_s_valueOf_s w1 n 0 x v i).1 ∧ (F_s_valueOf_s w1 n 0 x v i).1 < x.2 2 (x.1 w1 1).toNat := by
  intro n
  induction n with
  | zero => intro v i _ _ _ hn; exfalso; omega
  | succ n ih =>
    intro v i h0 h1 h2 hn
    rw [F_s_valueOf_e0]
    by_cases c1 : x.1 w1 1 ≤ (i : Int)
    · rw [if_pos c1]
      have e : (x.1 w1 1).toNat = i := by omega
      rw [e]; exact ⟨h0, h1⟩
    · rw [if_neg c1]
      have e : (i : Int).toNat = i := Int.toNat_natCast i
      rw [e]
      have hj := hl i (by omega)
      have l0 := h.1.1
      have p1 : 0 ≤ v * x.1 1 2 := Int.mul_nonneg h0 (by omega)
      have p2 : (v + 1) * x.1 1 2 ≤ x.2 2 i * x.1 1 2 := Int.mul_le_mul_of_nonneg_right (by omega) (by omega)
      rw [Int.add_mul, Int.one_mul] at p2
      have p3 := h.2.2.1 i (by omega)
      have := ih (v * x.1 1 2 + x.2 (w1 + 1) i) (i + 1) (by omega) (by rw [p3]; omega) (by omega) (by omega)
      exact this
theorem F_s_valueOf_b {x : KS} (h : scX x) {w1 : Nat} (h0 : 0 ≤ x.1 w1 1) (hu : x.1 w1 1 ≤ x.1 1 3) (hl : wLt x w1) : 0 ≤ (F_s_valueOf x w1).1 ∧ (F_s_valueOf x w1).1 < x.2 2 (x.1 w1 1).toNat := by
  have := h.1.2.1
  exact F_s_valueOf_s_b h hu hl 100 0 0 (by omega) (by rw [h.2.1]; decide) (by omega) (by omega)
theorem F_s_powerOf_v {x : KS} {k : Int} (h0 : 0 ≤ k) (h1 : k ≤ x.1 1 3) : (F_s_powerOf x k).1 = x.2 2 k.toNat := by
  unfold F_s_powerOf
  rw [if_neg (by omega), if_neg (by omega)]
