/-- L to the k, and the sum of those below k -/
def gP (L : Int) : Nat → Int
  | 0 => 1
  | n + 1 => gP L n * L
def gS (L : Int) : Nat → Int
  | 0 => 0
  | n + 1 => gS L n + gP L n
theorem gP_pos {L : Int} (h : 1 ≤ L) : ∀ k, 1 ≤ gP L k := by
  intro k
  induction k with
  | zero => exact Int.le_refl 1
  | succ k ih =>
    show 1 ≤ gP L k * L
    have : 1 * 1 ≤ gP L k * L := Int.mul_le_mul ih h (by decide) (by omega)
    omega
theorem gS_mono {L : Int} (h : 1 ≤ L) : ∀ {a b : Nat}, a ≤ b → gS L a ≤ gS L b := by
  intro a b hab
  induction hab with
  | refl => exact Int.le_refl _
  | @step m _ ih => exact Int.le_trans ih (by show gS L m ≤ gS L m + gP L m; have := gP_pos h m; omega)
theorem gS_nn {L : Int} (h : 1 ≤ L) (a : Nat) : 0 ≤ gS L a := gS_mono h (Nat.zero_le a)
theorem F_m_powerOf_s_v : ∀ (n : Nat) (x : MS) (k q i : Int), 0 ≤ i → i ≤ k → k - i < n → (F_m_powerOf_s n 0 x k q i).1 = q * gP (x.1 0) (k - i).toNat := by
  intro n
  induction n with
  | zero => intro x k q i h0 h1 h2; exact absurd h2 (by omega)
  | succ n ih =>
    intro x k q i h0 h1 h2
    rw [F_m_powerOf_e0]
    split
    · rename_i hc
      have e : (k - i).toNat = 0 := by omega
      rw [e]
      show q = q * 1
      omega
    · rename_i hc
      rw [ih x k _ _ (by omega) (by omega) (by omega)]
      have e : (k - i).toNat = (k - (i + 1)).toNat + 1 := by omega
      rw [e]
      show q * x.1 0 * gP (x.1 0) (k - (i + 1)).toNat = q * (gP (x.1 0) (k - (i + 1)).toNat * x.1 0)
      rw [Int.mul_assoc, Int.mul_comm (x.1 0)]
theorem F_m_powerOf_v (x : MS) {k : Int} (h0 : 0 ≤ k) (h1 : k ≤ 1000) : (F_m_powerOf x k).1 = gP (x.1 0) k.toNat := by
  have h := F_m_powerOf_s_v 1002 x k 1 0 (by omega) h0 (by omega)
  rw [Int.one_mul, Int.sub_zero] at h
  exact h
