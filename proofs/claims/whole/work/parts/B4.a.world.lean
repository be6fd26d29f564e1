-- deps: B3.k3
/-! nrm says the same world -/
theorem iL_cv (v : Int) : iL (cvL v) = iL v := by
  have e : ((2 ^ 64 : Nat) : Int) = 18446744073709551616 := by decide
  have h : BitVec.ofInt 64 (cvL v) = BitVec.ofInt 64 v := by
    apply BitVec.eq_of_toNat_eq
    rw [BitVec.toNat_ofInt, BitVec.toNat_ofInt, e]
    unfold cvL
    have q : ((v + 9223372036854775808) % 18446744073709551616 - 9223372036854775808) % 18446744073709551616 = v % 18446744073709551616 := by omega
    rw [q]
  show Int64.ofInt (cvL v) = Int64.ofInt v
  unfold Int64.ofInt
  rw [h]
theorem nr1_2 (X : KS) : (nr1 X).2 = X.2 := by unfold nr1; split <;> rfl
theorem nrm_W (cI cJ cZ cR : ClassId) (wl : Nat) (ad : Nat → Nat) (X : KS) : kWd cI cJ cZ cR wl ad (kM X) (nrm X) = kWd cI cJ cZ cR wl ad (kM X) X := by
  unfold kWd
  refine List.map_congr_left (fun c hc => ?_)
  have hc := List.mem_range.mp hc
  have e1 : (nrm X).1 c = X.1 c := by
    show (nr1 X).1 c = X.1 c
    unfold nr1
    unfold kM at hc
    split
    · rename_i h9
      rw [if_pos h9] at hc
      rw [kS_c (by omega)]
    · rfl
  rw [e1]
  have e2 : ∀ j, (nr1 X).2 j = X.2 j := fun j => by rw [nr1_2]
  by_cases c7 : c = 67
  · have f : (nrm X).2 c = fun j => cvL (X.2 67 j) := by
      rw [c7]
      show (if 67 = 67 ∨ 67 = 68 then (fun j => cvL ((nr1 X).2 67 j)) else (nr1 X).2 67) = _
      rw [if_pos (Or.inl rfl), nr1_2]
    rw [f, c7]
    have g : iAL (fun j => cvL (X.2 67 j)) = iAL (X.2 67) := funext fun j => iL_cv _
    show (ad 67, (Sum.inl (cJ, 320, .inr (.inl (iAL (fun j => cvL (X.2 67 j))))) : va_E)) = (ad 67, Sum.inl (cJ, 320, .inr (.inl (iAL (X.2 67)))))
    rw [g]
  · by_cases c8 : c = 68
    · have f : (nrm X).2 c = fun j => cvL (X.2 68 j) := by
        rw [c8]
        show (if 68 = 67 ∨ 68 = 68 then (fun j => cvL ((nr1 X).2 68 j)) else (nr1 X).2 68) = _
        rw [if_pos (Or.inr rfl), nr1_2]
      rw [f, c8]
      have g : iAL (fun j => cvL (X.2 68 j)) = iAL (X.2 68) := funext fun j => iL_cv _
      show (ad 68, (Sum.inl (cJ, 320, .inr (.inl (iAL (fun j => cvL (X.2 68 j))))) : va_E)) = (ad 68, Sum.inl (cJ, 320, .inr (.inl (iAL (X.2 68)))))
      rw [g]
    · have f : (nrm X).2 c = X.2 c := by
        show (if c = 67 ∨ c = 68 then (fun j => cvL ((nr1 X).2 c j)) else (nr1 X).2 c) = _
        rw [if_neg (by omega), nr1_2]
      rw [f]
theorem nrm_Wl (X : KS) : kWl (nrm X) = kWl X := by
  unfold kWl
  show ((nr1 X).1 101 9).toNat = _
  unfold nr1
  split
  · rw [kS_k (by decide)]
  · rfl
