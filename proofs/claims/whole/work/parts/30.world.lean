-- deps: 02.state
/-! LikeWords' own objects: numbered cells. x.1 c k: scalar k of object c; x.2 c j: element j of array c -/
abbrev KS : Type := (Nat → Nat → Int) × (Nat → Nat → Int)
def kS (x : KS) (c k : Nat) (v : Int) : KS := (fun q => if q = c then iU (x.1 c) k v else x.1 q, x.2)
def kA (x : KS) (c j : Nat) (v : Int) : KS := (x.1, fun q => if q = c then iU (x.2 c) j v else x.2 q)
theorem kS_s {x : KS} {c k : Nat} {v : Int} : (kS x c k v).1 c k = v := by simp [kS, iU]
theorem kS_k {x : KS} {c k j : Nat} {v : Int} (h : j ≠ k) : (kS x c k v).1 c j = x.1 c j := by simp [kS, iU, h]
theorem kS_c {x : KS} {c k q : Nat} {v : Int} (h : q ≠ c) : (kS x c k v).1 q = x.1 q := by simp [kS, h]
theorem kA_1 {x : KS} {c j : Nat} {v : Int} : (kA x c j v).1 = x.1 := rfl
theorem kS_2 {x : KS} {c k : Nat} {v : Int} : (kS x c k v).2 = x.2 := rfl
theorem kA_s {x : KS} {c j : Nat} {v : Int} : (kA x c j v).2 c = iU (x.2 c) j v := by simp [kA]
theorem kA_c {x : KS} {c j q : Nat} {v : Int} (h : q ≠ c) : (kA x c j v).2 q = x.2 q := by simp [kA, h]
/-- the cells that are STRINGS' objects -/
def kW (c : Nat) : Bool := Nat.beq c 4 || (Nat.ble 7 c && Nat.ble c 21 && Nat.beq (c % 2) 1) || (Nat.ble 24 c && Nat.ble c 54 && Nat.beq (c % 2) 0) || Nat.beq c 73 || Nat.beq c 75 || Nat.beq c 77 || Nat.beq c 82 || Nat.beq c 88 || Nat.beq c 90 || Nat.beq c 92
/-- the room of a STRING -/
def kL (c : Nat) : Nat := if Nat.ble 24 c && Nat.ble c 54 then 12 else if Nat.beq c 82 then 30 else 60
theorem kW_lt {c : Nat} (h : kW c = true) : c < 93 := by
  simp [kW] at h
  omega
theorem kW_a : ∀ c : Nat, c < 93 → kW c = true → kW (c + 1) = false := by decide
theorem kW_1 {c : Nat} (h : kW c = true) : kW (c + 1) = false := kW_a c (kW_lt h) h
theorem kW_slot {i : Int} (h0 : 0 ≤ i) (h1 : i < 8) : kW (7 + 2 * i.toNat) = true := by
  have h2 : i.toNat < 8 := by omega
  generalize i.toNat = j at h2
  revert h2
  revert j
  decide
theorem kW_law {i : Int} (h0 : 0 ≤ i) (h1 : i < 16) : kW (24 + 2 * i.toNat) = true := by
  have h2 : i.toNat < 16 := by omega
  generalize i.toNat = j at h2
  revert h2
  revert j
  decide
theorem kL_slot {i : Int} (h0 : 0 ≤ i) (h1 : i < 8) : kL (7 + 2 * i.toNat) = 60 := by
  have h2 : i.toNat < 8 := by omega
  generalize i.toNat = j at h2
  revert h2
  revert j
  decide
theorem kL_law {i : Int} (h0 : 0 ≤ i) (h1 : i < 16) : kL (24 + 2 * i.toNat) = 12 := by
  have h2 : i.toNat < 16 := by omega
  generalize i.toNat = j at h2
  revert h2
  revert j
  decide
theorem kW_ne {c d : Nat} (h : kW c = true) (h2 : kW d = false) : c ≠ d := fun e => by rw [e, h2] at h; cases h
theorem kR_ne {c d : Nat} (h : kW c = true) (h2 : kW (d - 1) = false) : c + 1 ≠ d := fun e => by rw [← e, Nat.add_sub_cancel, h] at h2; cases h2
theorem kL_le (c : Nat) : kL c ≤ 60 := by unfold kL; split <;> (try split) <;> omega
theorem kL_ge (c : Nat) : 12 ≤ kL c := by unfold kL; split <;> (try split) <;> omega
/-- ways and spare are one of two arrays -/
def kWs (z : Int) : Nat := if z = 67 then 67 else 68
theorem kWs_in {z : Int} {A : List Nat} (h1 : 67 ∈ A) (h2 : 68 ∈ A) : kWs z ∈ A := by unfold kWs; split; exact h1; exact h2
theorem kWs_lt {z : Int} {M : Nat} (h : 87 ≤ M) : kWs z < M := by unfold kWs; split <;> omega
theorem kWs_ne {z : Int} {q : Nat} (h1 : q ≠ 67) (h2 : q ≠ 68) : q ≠ kWs z := by unfold kWs; split; exact h1; exact h2
/-- the length of an array -/
def kLen (q : Nat) : Nat := if kW (q - 1) then kL (q - 1) else match q with
  | 2 => 21
  | 3 => 22
  | 57 => 10000
  | 59 => 40
  | 60 => 40
  | 61 => 40
  | 62 => 40
  | 63 => 40
  | 65 => 320
  | 66 => 640
  | 67 => 320
  | 68 => 320
  | 69 => 32
  | 71 => 60
  | 72 => 61
  | 81 => 31
  | 85 => 300
  | 86 => 300
  | 94 => 61
  | 95 => 62
  | 96 => 62
  | 97 => 62
  | 98 => 62
  | 99 => 62
  | 100 => 62
  | _ => 0
def kF0 (ad : Nat → Nat) (s : Nat → Int) : List Value := [.ref (ad 1), .ref (ad 4), .ref (ad 6), .ref (ad 23), .ref (ad 56), .ref (ad 58), .ref (ad 64), .ref (ad 70), .ref (ad 79), .ref (ad 80), .ref (ad 84), .ref (ad 73), .ref (ad 75), .ref (ad 77), .int (iI (s 14)), .int (iI (s 15)), .int (iI (s 16))]
def kF1 (ad : Nat → Nat) (s : Nat → Int) : List Value := [.ref (ad 2), .ref (ad 3), .int (iI (s 2)), .int (iI (s 3))]
def kF56 (ad : Nat → Nat) (s : Nat → Int) : List Value := [.ref (ad 57), .int (iI (s 1)), .int (iI (s 2))]
def kF58 (ad : Nat → Nat) (s : Nat → Int) : List Value := [.ref (ad 1), .ref (ad 59), .ref (ad 60), .ref (ad 61), .ref (ad 62), .ref (ad 63), .int (iI (s 6))]
def kF64 (ad : Nat → Nat) (s : Nat → Int) : List Value := [.ref (ad 1), .ref (ad 58), .ref (ad 65), .ref (ad 66), .ref (ad (kWs (s 4))), .ref (ad (kWs (s 5))), .ref (ad 69), .int (iI (s 7)), .int (iI (s 8)), .int (iI (s 9))]
def kF70 (ad : Nat → Nat) (s : Nat → Int) : List Value := [.ref (ad 58), .ref (ad 64), .ref (ad 71), .ref (ad 72), .int (iI (s 4)), (if s 5 = 0 then .null else .ref (ad 87))]
def kF79 (ad : Nat → Nat) (s : Nat → Int) : List Value := [.ref (ad 58), .ref (ad 70), .ref (ad 73), .ref (ad 75)]
def kF80 (ad : Nat → Nat) (s : Nat → Int) : List Value := [.ref (ad 64), .ref (ad 81), .ref (ad 82)]
def kF84 (ad : Nat → Nat) (s : Nat → Int) : List Value := [.ref (ad 85), .ref (ad 86), .int (iI (s 2))]
def kF87 (ad : Nat → Nat) (s : Nat → Int) : List Value := [.ref (ad 58), .ref (ad 64), .ref (ad 88), .ref (ad 90), .ref (ad 92), .ref (ad 94), .ref (ad 95), .ref (ad 96), .ref (ad 97), .ref (ad 98), .ref (ad 99), .ref (ad 100), .int (iI (s 12)), .int (iI (s 13)), .ref (ad 101)]
def kF101 (ad : Nat → Nat) (s : Nat → Int) : List Value := [.ref (ad 102), .ref (ad 103), .ref (ad 104), .ref (ad 105), .int (iI (s 4)), .long (iL (s 5)), .long (iL (s 6))]
def kFw (ad : Nat → Nat) (c : Nat) (s : Nat → Int) : List Value := [.ref (ad (c + 1)), .int (iI (s 1))]
/-- what lies in a cell -/
def kE (cI cJ cZ cR : ClassId) (wl : Nat) (ad : Nat → Nat) (c : Nat) (s f : Nat → Int) : va_E := if kW c then .inr (10, kFw ad c s) else if kW (c - 1) then .inl (cI, kL (c - 1), .inl (iA f)) else match c with
  | 0 => .inr (11, kF0 ad s)
  | 1 => .inr (8, kF1 ad s)
  | 2 => .inl (cI, 21, .inl (iA f))
  | 3 => .inl (cI, 22, .inl (iA f))
  | 6 => .inl (cR, 8, .inr (.inr (.inr (.inr (fun j => some (ad (7 + 2 * j)))))))
  | 23 => .inl (cR, 16, .inr (.inr (.inr (.inr (fun j => some (ad (24 + 2 * j)))))))
  | 56 => .inr (1, kF56 ad s)
  | 57 => .inl (cI, 10000, .inl (iA f))
  | 58 => .inr (7, kF58 ad s)
  | 59 => .inl (cI, 40, .inl (iA f))
  | 60 => .inl (cI, 40, .inl (iA f))
  | 61 => .inl (cI, 40, .inl (iA f))
  | 62 => .inl (cJ, 40, .inr (.inl (iAL f)))
  | 63 => .inl (cJ, 40, .inr (.inl (iAL f)))
  | 64 => .inr (3, kF64 ad s)
  | 65 => .inl (cI, 320, .inl (iA f))
  | 66 => .inl (cI, 640, .inl (iA f))
  | 67 => .inl (cJ, 320, .inr (.inl (iAL f)))
  | 68 => .inl (cJ, 320, .inr (.inl (iAL f)))
  | 69 => .inl (cJ, 32, .inr (.inl (iAL f)))
  | 70 => .inr (6, kF70 ad s)
  | 71 => .inl (cI, 60, .inl (iA f))
  | 72 => .inl (cI, 61, .inl (iA f))
  | 79 => .inr (5, kF79 ad s)
  | 80 => .inr (9, kF80 ad s)
  | 81 => .inl (cI, 31, .inl (iA f))
  | 84 => .inr (4, kF84 ad s)
  | 85 => .inl (cJ, 300, .inr (.inl (iAL f)))
  | 86 => .inl (cJ, 300, .inr (.inl (iAL f)))
  | 87 => .inr (0, kF87 ad s)
  | 94 => .inl (cI, 61, .inl (iA f))
  | 95 => .inl (cJ, 62, .inr (.inl (iAL f)))
  | 96 => .inl (cJ, 62, .inr (.inl (iAL f)))
  | 97 => .inl (cI, 62, .inl (iA f))
  | 98 => .inl (cI, 62, .inl (iA f))
  | 99 => .inl (cZ, 62, .inl (iA f))
  | 100 => .inl (cZ, 62, .inl (iA f))
  | 101 => .inr (2, kF101 ad s)
  | 102 => .inl (cJ, wl, .inr (.inl (iAL f)))
  | 103 => .inl (cJ, wl, .inr (.inl (iAL f)))
  | 104 => .inl (cJ, wl, .inr (.inl (iAL f)))
  | 105 => .inl (cJ, wl, .inr (.inl (iAL f)))
  | _ => .inl (cI, 0, .inl (iA f))
def kWd (cI cJ cZ cR : ClassId) (wl : Nat) (ad : Nat → Nat) (M : Nat) (x : KS) : va_W := (List.range M).map (fun c => (ad c, kE cI cJ cZ cR wl ad c (x.1 c) (x.2 c)))
section KW
variable {cI cJ cZ cR : ClassId} {wl : Nat} {ad : Nat → Nat} {M : Nat} {x : KS}
theorem kget {c : Nat} (h : c < M) : (kWd cI cJ cZ cR wl ad M x)[c]? = some (ad c, kE cI cJ cZ cR wl ad c (x.1 c) (x.2 c)) := by
  unfold kWd
  rw [List.getElem?_map, List.getElem?_range h]
  rfl
theorem kset {c : Nat} {y : KS} {e : va_E} (h1 : ∀ q, q ≠ c → y.1 q = x.1 q ∧ y.2 q = x.2 q) (h2 : kE cI cJ cZ cR wl ad c (y.1 c) (y.2 c) = e) : (kWd cI cJ cZ cR wl ad M x).set c (ad c, e) = kWd cI cJ cZ cR wl ad M y := by
  subst h2
  apply List.ext_getElem?
  intro i
  by_cases hM : i < M
  · rw [kget hM, List.getElem?_set]
    by_cases hi : c = i
    · subst hi
      rw [if_pos rfl, if_pos (by simp [kWd]; exact hM)]
    · rw [if_neg hi, kget hM, (h1 i (fun q => hi q.symm)).1, (h1 i (fun q => hi q.symm)).2]
  · rw [List.getElem?_eq_none (by simp [kWd]; omega), List.getElem?_eq_none (by simp [kWd]; omega)]
theorem kS_f {c k : Nat} {v : Int} : (kS x c k v).1 c = iU (x.1 c) k v := by simp [kS]
theorem kset_s {c k : Nat} {v : Int} {e : va_E} (h2 : kE cI cJ cZ cR wl ad c (iU (x.1 c) k v) (x.2 c) = e) : (kWd cI cJ cZ cR wl ad M x).set c (ad c, e) = kWd cI cJ cZ cR wl ad M (kS x c k v) := kset (fun q hq => ⟨kS_c hq, rfl⟩) (by rw [kS_f]; exact h2)
theorem kset_a {c j : Nat} {v : Int} {e : va_E} (h2 : kE cI cJ cZ cR wl ad c (x.1 c) (iU (x.2 c) j v) = e) : (kWd cI cJ cZ cR wl ad M x).set c (ad c, e) = kWd cI cJ cZ cR wl ad M (kA x c j v) := kset (fun q hq => ⟨rfl, kA_c hq⟩) (by rw [kA_s]; exact h2)
theorem kgw {c : Nat} (hw : kW c = true) (h : c < M) : (kWd cI cJ cZ cR wl ad M x)[c]? = some (ad c, .inr (10, kFw ad c (x.1 c))) := by
  rw [kget h]; unfold kE; rw [if_pos hw]
theorem ksw {c : Nat} {v : Int} (hw : kW c = true) : (kWd cI cJ cZ cR wl ad M x).set c (ad c, .inr (10, (kFw ad c (x.1 c)).set 1 (.int (iI v)))) = kWd cI cJ cZ cR wl ad M (kS x c 1 v) := kset_s (by unfold kE; rw [if_pos hw]; rfl)
/-- an array of ints, of booleans, of longs -/
def kI (q : Nat) : Prop := ∀ (cI cJ cZ cR : ClassId) (wl : Nat) (ad : Nat → Nat) (s f : Nat → Int), kE cI cJ cZ cR wl ad q s f = .inl (cI, kLen q, .inl (iA f))
def kZ (q : Nat) : Prop := ∀ (cI cJ cZ cR : ClassId) (wl : Nat) (ad : Nat → Nat) (s f : Nat → Int), kE cI cJ cZ cR wl ad q s f = .inl (cZ, kLen q, .inl (iA f))
def kJ (q : Nat) : Prop := ∀ (cI cJ cZ cR : ClassId) (wl : Nat) (ad : Nat → Nat) (s f : Nat → Int), kE cI cJ cZ cR wl ad q s f = .inl (cJ, kLen q, .inr (.inl (iAL f)))
theorem kI_row {c : Nat} (hw : kW c = true) : kI (c + 1) := by
  intro cI cJ cZ cR wl ad s f
  unfold kE kLen
  rw [if_neg (by rw [kW_1 hw]; decide), if_pos (by exact hw), if_pos (by exact hw)]
theorem kLen_row {c : Nat} (hw : kW c = true) : kLen (c + 1) = kL c := by
  unfold kLen
  rw [if_pos (by exact hw)]
  rfl
theorem kgi {q : Nat} {f : Nat → Int} (hq : kI q) (h : q < M) (e : x.2 q = f) : (kWd cI cJ cZ cR wl ad M x)[q]? = some (ad q, .inl (cI, kLen q, .inl (iA f))) := by subst e; rw [kget h, hq]
theorem kgz {q : Nat} {f : Nat → Int} (hq : kZ q) (h : q < M) (e : x.2 q = f) : (kWd cI cJ cZ cR wl ad M x)[q]? = some (ad q, .inl (cZ, kLen q, .inl (iA f))) := by subst e; rw [kget h, hq]
theorem kgj {q : Nat} {f : Nat → Int} (hq : kJ q) (h : q < M) (e : x.2 q = f) : (kWd cI cJ cZ cR wl ad M x)[q]? = some (ad q, .inl (cJ, kLen q, .inr (.inl (iAL f)))) := by subst e; rw [kget h, hq]
theorem ksi {q j : Nat} {v : Int} (hq : kI q) : (kWd cI cJ cZ cR wl ad M x).set q (ad q, .inl (cI, kLen q, .inl (iA (iU (x.2 q) j v)))) = kWd cI cJ cZ cR wl ad M (kA x q j v) := kset_a (hq _ _ _ _ _ _ _ _)
theorem ksz {q j : Nat} {v : Int} (hq : kZ q) : (kWd cI cJ cZ cR wl ad M x).set q (ad q, .inl (cZ, kLen q, .inl (iA (iU (x.2 q) j v)))) = kWd cI cJ cZ cR wl ad M (kA x q j v) := kset_a (hq _ _ _ _ _ _ _ _)
theorem ksj {q j : Nat} {v : Int} (hq : kJ q) : (kWd cI cJ cZ cR wl ad M x).set q (ad q, .inl (cJ, kLen q, .inr (.inl (iAL (iU (x.2 q) j v))))) = kWd cI cJ cZ cR wl ad M (kA x q j v) := kset_a (hq _ _ _ _ _ _ _ _)
theorem kLen_lt (q : Nat) : kLen q < 2147483648 := by
  unfold kLen
  split
  · have := kL_le (q - 1); omega
  · split <;> decide
theorem kC2 : kI 2 := fun _ _ _ _ _ _ _ _ => rfl
theorem kC3 : kI 3 := fun _ _ _ _ _ _ _ _ => rfl
theorem kC57 : kI 57 := fun _ _ _ _ _ _ _ _ => rfl
theorem kC59 : kI 59 := fun _ _ _ _ _ _ _ _ => rfl
theorem kC60 : kI 60 := fun _ _ _ _ _ _ _ _ => rfl
theorem kC61 : kI 61 := fun _ _ _ _ _ _ _ _ => rfl
theorem kC62 : kJ 62 := fun _ _ _ _ _ _ _ _ => rfl
theorem kC63 : kJ 63 := fun _ _ _ _ _ _ _ _ => rfl
theorem kC65 : kI 65 := fun _ _ _ _ _ _ _ _ => rfl
theorem kC66 : kI 66 := fun _ _ _ _ _ _ _ _ => rfl
theorem kC67 : kJ 67 := fun _ _ _ _ _ _ _ _ => rfl
theorem kC68 : kJ 68 := fun _ _ _ _ _ _ _ _ => rfl
theorem kC69 : kJ 69 := fun _ _ _ _ _ _ _ _ => rfl
theorem kC71 : kI 71 := fun _ _ _ _ _ _ _ _ => rfl
theorem kC72 : kI 72 := fun _ _ _ _ _ _ _ _ => rfl
theorem kC81 : kI 81 := fun _ _ _ _ _ _ _ _ => rfl
theorem kC85 : kJ 85 := fun _ _ _ _ _ _ _ _ => rfl
theorem kC86 : kJ 86 := fun _ _ _ _ _ _ _ _ => rfl
theorem kC94 : kI 94 := fun _ _ _ _ _ _ _ _ => rfl
theorem kC95 : kJ 95 := fun _ _ _ _ _ _ _ _ => rfl
theorem kC96 : kJ 96 := fun _ _ _ _ _ _ _ _ => rfl
theorem kC97 : kI 97 := fun _ _ _ _ _ _ _ _ => rfl
theorem kC98 : kI 98 := fun _ _ _ _ _ _ _ _ => rfl
theorem kC99 : kZ 99 := fun _ _ _ _ _ _ _ _ => rfl
theorem kC100 : kZ 100 := fun _ _ _ _ _ _ _ _ => rfl
theorem kgK102 {f : Nat → Int} (h : 102 < M) (e : x.2 102 = f) : (kWd cI cJ cZ cR wl ad M x)[102]? = some (ad 102, .inl (cJ, wl, .inr (.inl (iAL f)))) := by subst e; exact kget h
theorem ksK102 {j : Nat} {v : Int} : (kWd cI cJ cZ cR wl ad M x).set 102 (ad 102, .inl (cJ, wl, .inr (.inl (iAL (iU (x.2 102) j v))))) = kWd cI cJ cZ cR wl ad M (kA x 102 j v) := kset_a rfl
theorem kgK103 {f : Nat → Int} (h : 103 < M) (e : x.2 103 = f) : (kWd cI cJ cZ cR wl ad M x)[103]? = some (ad 103, .inl (cJ, wl, .inr (.inl (iAL f)))) := by subst e; exact kget h
theorem ksK103 {j : Nat} {v : Int} : (kWd cI cJ cZ cR wl ad M x).set 103 (ad 103, .inl (cJ, wl, .inr (.inl (iAL (iU (x.2 103) j v))))) = kWd cI cJ cZ cR wl ad M (kA x 103 j v) := kset_a rfl
theorem kgK104 {f : Nat → Int} (h : 104 < M) (e : x.2 104 = f) : (kWd cI cJ cZ cR wl ad M x)[104]? = some (ad 104, .inl (cJ, wl, .inr (.inl (iAL f)))) := by subst e; exact kget h
theorem ksK104 {j : Nat} {v : Int} : (kWd cI cJ cZ cR wl ad M x).set 104 (ad 104, .inl (cJ, wl, .inr (.inl (iAL (iU (x.2 104) j v))))) = kWd cI cJ cZ cR wl ad M (kA x 104 j v) := kset_a rfl
theorem kgK105 {f : Nat → Int} (h : 105 < M) (e : x.2 105 = f) : (kWd cI cJ cZ cR wl ad M x)[105]? = some (ad 105, .inl (cJ, wl, .inr (.inl (iAL f)))) := by subst e; exact kget h
theorem ksK105 {j : Nat} {v : Int} : (kWd cI cJ cZ cR wl ad M x).set 105 (ad 105, .inl (cJ, wl, .inr (.inl (iAL (iU (x.2 105) j v))))) = kWd cI cJ cZ cR wl ad M (kA x 105 j v) := kset_a rfl
theorem kJ_ws (z : Int) : kJ (kWs z) := by unfold kWs; split; exact kC67; exact kC68
theorem kLen_ws (z : Int) : kLen (kWs z) = 320 := by unfold kWs; split <;> rfl
theorem ks64_4 {v : Int} : (kWd cI cJ cZ cR wl ad M x).set 64 (ad 64, .inr (3, (kF64 ad (x.1 64)).set 4 (.ref (ad (kWs v))))) = kWd cI cJ cZ cR wl ad M (kS x 64 4 v) := kset_s rfl
theorem ks64_5 {v : Int} : (kWd cI cJ cZ cR wl ad M x).set 64 (ad 64, .inr (3, (kF64 ad (x.1 64)).set 5 (.ref (ad (kWs v))))) = kWd cI cJ cZ cR wl ad M (kS x 64 5 v) := kset_s rfl
theorem kg0 (h : 0 < M) : (kWd cI cJ cZ cR wl ad M x)[0]? = some (ad 0, .inr (11, kF0 ad (x.1 0))) := kget h
theorem ks0_14 {v : Int} : (kWd cI cJ cZ cR wl ad M x).set 0 (ad 0, .inr (11, (kF0 ad (x.1 0)).set 14 (.int (iI v)))) = kWd cI cJ cZ cR wl ad M (kS x 0 14 v) := kset_s rfl
theorem ks0_15 {v : Int} : (kWd cI cJ cZ cR wl ad M x).set 0 (ad 0, .inr (11, (kF0 ad (x.1 0)).set 15 (.int (iI v)))) = kWd cI cJ cZ cR wl ad M (kS x 0 15 v) := kset_s rfl
theorem ks0_16 {v : Int} : (kWd cI cJ cZ cR wl ad M x).set 0 (ad 0, .inr (11, (kF0 ad (x.1 0)).set 16 (.int (iI v)))) = kWd cI cJ cZ cR wl ad M (kS x 0 16 v) := kset_s rfl
theorem kg1 (h : 1 < M) : (kWd cI cJ cZ cR wl ad M x)[1]? = some (ad 1, .inr (8, kF1 ad (x.1 1))) := kget h
theorem ks1_2 {v : Int} : (kWd cI cJ cZ cR wl ad M x).set 1 (ad 1, .inr (8, (kF1 ad (x.1 1)).set 2 (.int (iI v)))) = kWd cI cJ cZ cR wl ad M (kS x 1 2 v) := kset_s rfl
theorem ks1_3 {v : Int} : (kWd cI cJ cZ cR wl ad M x).set 1 (ad 1, .inr (8, (kF1 ad (x.1 1)).set 3 (.int (iI v)))) = kWd cI cJ cZ cR wl ad M (kS x 1 3 v) := kset_s rfl
theorem kg56 (h : 56 < M) : (kWd cI cJ cZ cR wl ad M x)[56]? = some (ad 56, .inr (1, kF56 ad (x.1 56))) := kget h
theorem ks56_1 {v : Int} : (kWd cI cJ cZ cR wl ad M x).set 56 (ad 56, .inr (1, (kF56 ad (x.1 56)).set 1 (.int (iI v)))) = kWd cI cJ cZ cR wl ad M (kS x 56 1 v) := kset_s rfl
theorem ks56_2 {v : Int} : (kWd cI cJ cZ cR wl ad M x).set 56 (ad 56, .inr (1, (kF56 ad (x.1 56)).set 2 (.int (iI v)))) = kWd cI cJ cZ cR wl ad M (kS x 56 2 v) := kset_s rfl
theorem kg58 (h : 58 < M) : (kWd cI cJ cZ cR wl ad M x)[58]? = some (ad 58, .inr (7, kF58 ad (x.1 58))) := kget h
theorem ks58_6 {v : Int} : (kWd cI cJ cZ cR wl ad M x).set 58 (ad 58, .inr (7, (kF58 ad (x.1 58)).set 6 (.int (iI v)))) = kWd cI cJ cZ cR wl ad M (kS x 58 6 v) := kset_s rfl
theorem kg64 (h : 64 < M) : (kWd cI cJ cZ cR wl ad M x)[64]? = some (ad 64, .inr (3, kF64 ad (x.1 64))) := kget h
theorem ks64_7 {v : Int} : (kWd cI cJ cZ cR wl ad M x).set 64 (ad 64, .inr (3, (kF64 ad (x.1 64)).set 7 (.int (iI v)))) = kWd cI cJ cZ cR wl ad M (kS x 64 7 v) := kset_s rfl
theorem ks64_8 {v : Int} : (kWd cI cJ cZ cR wl ad M x).set 64 (ad 64, .inr (3, (kF64 ad (x.1 64)).set 8 (.int (iI v)))) = kWd cI cJ cZ cR wl ad M (kS x 64 8 v) := kset_s rfl
theorem ks64_9 {v : Int} : (kWd cI cJ cZ cR wl ad M x).set 64 (ad 64, .inr (3, (kF64 ad (x.1 64)).set 9 (.int (iI v)))) = kWd cI cJ cZ cR wl ad M (kS x 64 9 v) := kset_s rfl
theorem kg70 (h : 70 < M) : (kWd cI cJ cZ cR wl ad M x)[70]? = some (ad 70, .inr (6, kF70 ad (x.1 70))) := kget h
theorem ks70_4 {v : Int} : (kWd cI cJ cZ cR wl ad M x).set 70 (ad 70, .inr (6, (kF70 ad (x.1 70)).set 4 (.int (iI v)))) = kWd cI cJ cZ cR wl ad M (kS x 70 4 v) := kset_s rfl
theorem kg79 (h : 79 < M) : (kWd cI cJ cZ cR wl ad M x)[79]? = some (ad 79, .inr (5, kF79 ad (x.1 79))) := kget h
theorem kg80 (h : 80 < M) : (kWd cI cJ cZ cR wl ad M x)[80]? = some (ad 80, .inr (9, kF80 ad (x.1 80))) := kget h
theorem kg84 (h : 84 < M) : (kWd cI cJ cZ cR wl ad M x)[84]? = some (ad 84, .inr (4, kF84 ad (x.1 84))) := kget h
theorem ks84_2 {v : Int} : (kWd cI cJ cZ cR wl ad M x).set 84 (ad 84, .inr (4, (kF84 ad (x.1 84)).set 2 (.int (iI v)))) = kWd cI cJ cZ cR wl ad M (kS x 84 2 v) := kset_s rfl
theorem kg87 (h : 87 < M) : (kWd cI cJ cZ cR wl ad M x)[87]? = some (ad 87, .inr (0, kF87 ad (x.1 87))) := kget h
theorem ks87_12 {v : Int} : (kWd cI cJ cZ cR wl ad M x).set 87 (ad 87, .inr (0, (kF87 ad (x.1 87)).set 12 (.int (iI v)))) = kWd cI cJ cZ cR wl ad M (kS x 87 12 v) := kset_s rfl
theorem ks87_13 {v : Int} : (kWd cI cJ cZ cR wl ad M x).set 87 (ad 87, .inr (0, (kF87 ad (x.1 87)).set 13 (.int (iI v)))) = kWd cI cJ cZ cR wl ad M (kS x 87 13 v) := kset_s rfl
theorem kg101 (h : 101 < M) : (kWd cI cJ cZ cR wl ad M x)[101]? = some (ad 101, .inr (2, kF101 ad (x.1 101))) := kget h
theorem ks101_4 {v : Int} : (kWd cI cJ cZ cR wl ad M x).set 101 (ad 101, .inr (2, (kF101 ad (x.1 101)).set 4 (.int (iI v)))) = kWd cI cJ cZ cR wl ad M (kS x 101 4 v) := kset_s rfl
theorem ks101_5 {v : Int} : (kWd cI cJ cZ cR wl ad M x).set 101 (ad 101, .inr (2, (kF101 ad (x.1 101)).set 5 (.long (iL v)))) = kWd cI cJ cZ cR wl ad M (kS x 101 5 v) := kset_s rfl
theorem ks101_6 {v : Int} : (kWd cI cJ cZ cR wl ad M x).set 101 (ad 101, .inr (2, (kF101 ad (x.1 101)).set 6 (.long (iL v)))) = kWd cI cJ cZ cR wl ad M (kS x 101 6 v) := kset_s rfl
end KW
abbrev kTy (cI cJ cZ cR : ClassId) : List (ClassId × FieldType) := [(cI, .int), (cJ, .long), (cZ, .boolean), (cR, .object "LikeWords$Word")]
/-- calls of methods of the host that only its nest may call -/
def kNw (U : State) : Prop := va_Nw (.methodLinkNest RX0 181 yX11_moveDown RX11) U ∧ va_Nw (.methodLinkNest RX3 69 yX11_placeOf RX11) U ∧ va_Nw (.methodLinkNest RX7 87 yX11_placeOf RX11) U
theorem kNw.warm {s U : State} (hW : s.WarmedH U.vm) (h : kNw s) : kNw U := ⟨va_Nw.warmM hW h.1, va_Nw.warmM hW h.2.1, va_Nw.warmM hW h.2.2⟩
theorem kNw.same {u U : State} (hv : u.vm = U.vm) (h : kNw u) : kNw U := ⟨va_Nw.same rfl hv h.1, va_Nw.same rfl hv h.2.1, va_Nw.same rfl hv h.2.2⟩
abbrev kPc (dC : Nat → ClassId) (dI : Nat → Nat → Nat) (ad : Nat → Nat) (cI cJ cZ cR : ClassId) (M wl sz : Nat) (x : KS) (av : List Value) : Array Value → State → Prop := va_Pc av (fun U => U.heap.size = sz ∧ va_P (dC, dI) vwCl (kWd cI cJ cZ cR wl ad M x) U.heap ∧ va_K (dC, dI) vwCl (kTy cI cJ cZ cR) U ∧ va_D (fun _ => True) (kWd cI cJ cZ cR wl ad M x) ∧ kNw U)
abbrev kAt (dC : Nat → ClassId) (dI : Nat → Nat → Nat) (ad : Nat → Nat) (cI cJ cZ cR : ClassId) (M wl : Nat) (A : Nat → Prop) (u : KS) (t : State) : Prop := va_P (dC, dI) vwCl (kWd cI cJ cZ cR wl ad M u) t.heap ∧ va_K (dC, dI) vwCl (kTy cI cJ cZ cR) t ∧ va_D A (kWd cI cJ cZ cR wl ad M u)
theorem kWd_map {cI cJ cZ cR : ClassId} {wl : Nat} {ad : Nat → Nat} {M : Nat} {x y : KS} : (kWd cI cJ cZ cR wl ad M x).map (fun q => q.1) = (kWd cI cJ cZ cR wl ad M y).map (fun q => q.1) := by unfold kWd; rw [List.map_map, List.map_map]; rfl
theorem kWd_A {cI cJ cZ cR : ClassId} {wl : Nat} {ad : Nat → Nat} {M : Nat} {x y : KS} {sz : Nat} : va_A (kWd cI cJ cZ cR wl ad M x) sz = va_A (kWd cI cJ cZ cR wl ad M y) sz := by
  funext q
  apply propext
  have key : ∀ (x y : KS), va_A (kWd cI cJ cZ cR wl ad M x) sz q → va_A (kWd cI cJ cZ cR wl ad M y) sz q := by
    intro x y hq
    rcases hq with ⟨k, e, hk⟩ | hk
    · have h2 : ((kWd cI cJ cZ cR wl ad M x).map (fun q => q.1))[k]? = some q := by rw [List.getElem?_map, hk]; rfl
      rw [kWd_map (y := y), List.getElem?_map] at h2
      cases hw : (kWd cI cJ cZ cR wl ad M y)[k]? with
      | none => rw [hw] at h2; cases h2
      | some z =>
        rw [hw] at h2
        obtain ⟨z1, z2⟩ := z
        have : z1 = q := Option.some.inj h2
        subst this
        exact Or.inl ⟨k, z2, hw⟩
    · exact Or.inr hk
  exact ⟨key x y, key y x⟩
/-- but for the scalars S and the arrays A the two are the same -/
def ksame (S : List (Nat × Nat)) (A : List Nat) (x y : KS) : Prop := (∀ c k, (c, k) ∉ S → y.1 c k = x.1 c k) ∧ ∀ c, c ∉ A → y.2 c = x.2 c
theorem km_rf (S : List (Nat × Nat)) (A : List Nat) (x : KS) : ksame S A x x := ⟨fun _ _ _ => rfl, fun _ _ => rfl⟩
theorem km_nil {x y : KS} (h : ksame [] [] x y) : y = x := Prod.ext (funext fun c => funext fun k => h.1 c k List.not_mem_nil) (funext fun k => h.2 k List.not_mem_nil)
theorem km_tr {S : List (Nat × Nat)} {A : List Nat} {x y z : KS} (h : ksame S A x y) (g : ksame S A y z) : ksame S A x z := ⟨fun c k hk => (g.1 c k hk).trans (h.1 c k hk), fun k hk => (g.2 k hk).trans (h.2 k hk)⟩
theorem km_mono {S S' : List (Nat × Nat)} {A A' : List Nat} {x y : KS} (hS : ∀ k ∈ S', k ∈ S) (hA : ∀ k ∈ A', k ∈ A) (h : ksame S' A' x y) : ksame S A x y := ⟨fun c k hk => h.1 c k (fun q => hk (hS _ q)), fun k hk => h.2 k (fun q => hk (hA k q))⟩
theorem km_s {S : List (Nat × Nat)} {A : List Nat} {x y : KS} {c k : Nat} {v : Int} (hk : (c, k) ∈ S) (h : ksame S A x y) : ksame S A x (kS y c k v) := by
  refine ⟨fun d j hj => ?_, h.2⟩
  rw [← h.1 d j hj]
  show (if d = c then iU (y.1 c) k v else y.1 d) j = y.1 d j
  by_cases hd : d = c
  · subst hd
    rw [if_pos rfl]
    exact iU_n (fun e => hj (by rw [e]; exact hk))
  · rw [if_neg hd]
theorem km_a {S : List (Nat × Nat)} {A : List Nat} {x y : KS} {c i : Nat} {v : Int} (hk : c ∈ A) (h : ksame S A x y) : ksame S A x (kA y c i v) := by
  refine ⟨h.1, fun d hd => ?_⟩
  rw [← h.2 d hd]
  exact kA_c (fun e => hd (by rw [e]; exact hk))
/-- but for STRINGS, the objects C and the arrays Q the two are the same -/
def kq (C Q : List Nat) (x y : KS) : Prop := (∀ c, kW c = false → c ∉ C → y.1 c = x.1 c) ∧ ∀ q, kW (q - 1) = false → q ∉ Q → y.2 q = x.2 q
theorem kq_rf (C Q : List Nat) (x : KS) : kq C Q x x := ⟨fun _ _ _ => rfl, fun _ _ _ => rfl⟩
theorem kq_tr {C Q : List Nat} {x y z : KS} (h : kq C Q x y) (g : kq C Q y z) : kq C Q x z := ⟨fun c h1 h2 => (g.1 c h1 h2).trans (h.1 c h1 h2), fun c h1 h2 => (g.2 c h1 h2).trans (h.2 c h1 h2)⟩
theorem kq_mono {C Q C' Q' : List Nat} {x y : KS} (hC : ∀ c ∈ C', c ∈ C) (hQ : ∀ c ∈ Q', c ∈ Q) (h : kq C' Q' x y) : kq C Q x y := ⟨fun c h1 h2 => h.1 c h1 (fun q => h2 (hC c q)), fun c h1 h2 => h.2 c h1 (fun q => h2 (hQ c q))⟩
theorem kq_of {S : List (Nat × Nat)} {A C Q : List Nat} {x y : KS} (h : ksame S A x y) (hS : ∀ p ∈ S, kW p.1 = true ∨ p.1 ∈ C) (hA : ∀ a ∈ A, kW (a - 1) = true ∨ a ∈ Q) : kq C Q x y := by
  refine ⟨fun c h1 h2 => funext fun k => h.1 c k (fun hm => ?_), fun q h1 h2 => h.2 q (fun hm => ?_)⟩
  · rcases hS _ hm with e | e
    · rw [show kW c = true from e] at h1; cases h1
    · exact h2 e
  · rcases hA _ hm with e | e
    · rw [e] at h1; cases h1
    · exact h2 e
theorem kq_n {P : Nat → Prop} : ∀ a ∈ ([] : List Nat), P a := fun _ h => absurd h List.not_mem_nil
theorem kq_m {P : Nat × Nat → Prop} : ∀ a ∈ ([] : List (Nat × Nat)), P a := fun _ h => absurd h List.not_mem_nil
theorem kq_c {α : Type} {P : α → Prop} {a : α} {l : List α} (h : P a) (t : ∀ b ∈ l, P b) : ∀ b ∈ a :: l, P b := fun b hb => by
  rcases List.mem_cons.mp hb with e | e
  · rw [e]; exact h
  · exact t b e
theorem km0 {α : Type} {L : List α} : ∀ q ∈ ([] : List α), q ∈ L := fun _ h => absurd h List.not_mem_nil
theorem km1 {α : Type} {a : α} {l L : List α} (h : a ∈ L) (t : ∀ q ∈ l, q ∈ L) : ∀ q ∈ a :: l, q ∈ L := fun q hq => by
  rcases List.mem_cons.mp hq with e | e
  · rw [e]; exact h
  · exact t q e
theorem iI_nat (n : Nat) : Int32.ofNat n = iI (n : Int) := by
  unfold iI
  rfl
theorem iL_i' (z : Int) : (iL z).toInt32 = iI z := by
  unfold iL iI
  exact Int64.toInt32_ofInt
/-- bits of longs and of ints -/
def iN (a b : Int) : Int := (iL a &&& iL b).toInt
def iO (a b : Int) : Int := (iL a ||| iL b).toInt
def iNI (a b : Int) : Int := (iI a &&& iI b).toInt
def iUs (a k : Int) : Int := ((iL a).toUInt64 >>> ((iI k).toInt64.toUInt64 &&& Int64.toUInt64 63)).toInt64.toInt
def iSl (a k : Int) : Int := ((iL a) <<< ((iI k).toInt64 &&& 63)).toInt
def iSr (a k : Int) : Int := ((iL a) >>> ((iI k).toInt64 &&& 63)).toInt
section WK
variable {p : Program} {l : Launch} {e : Env} {R : Room} {s : State} {m : MethodId} {args : Array Value} {below : List Frame} {meth : Method} {c : Code} {H H0 : Heap} {locs : List Loc} {cells slots : Nat} {Q : State → Prop}
variable {cc : ByteArray} {pc : Nat} {ls : Array Slot} {rest : List Value} {D : va_G} {cl : List vw_C} {ws : va_W} {tys : List (ClassId × FieldType)} {A : Nat → Prop} {ad : Nat}
theorem wk_l2i (hx : p.tables.exec = Jvm.exec) (hb : c.code = cc) {a : Int} (hdg : decode cc pc = .ok (.l2i, 1)) (k : W p l e R s m args below meth c H locs cells slots Q (F0 m (pc + 1) ls (.int (iI a) :: rest))) : W p l e R s m args below meth c H locs cells slots Q (F0 m pc ls (.long (iL a) :: rest)) := lv_l2i hx hb hdg (iL_i' a) k
theorem iL_to (z : Int64) : iL z.toInt = z := Int64.ofInt_toInt z
theorem iI_to (z : Int32) : iI z.toInt = z := Int32.ofInt_toInt z
theorem wk_land (hx : p.tables.exec = Jvm.exec) (hb : c.code = cc) {a b : Int} (hdg : decode cc pc = .ok (.land, 1)) (k : W p l e R s m args below meth c H locs cells slots Q (F0 m (pc + 1) ls (.long (iL (iN a b)) :: rest))) : W p l e R s m args below meth c H locs cells slots Q (F0 m pc ls (.long (iL b) :: .long (iL a) :: rest)) := lv_land hx hb hdg (by have k' := k; unfold iN at k'; rw [iL_to] at k'; exact k')
theorem wk_lor (hx : p.tables.exec = Jvm.exec) (hb : c.code = cc) {a b : Int} (hdg : decode cc pc = .ok (.lor, 1)) (k : W p l e R s m args below meth c H locs cells slots Q (F0 m (pc + 1) ls (.long (iL (iO a b)) :: rest))) : W p l e R s m args below meth c H locs cells slots Q (F0 m pc ls (.long (iL b) :: .long (iL a) :: rest)) := lv_lor hx hb hdg (by have k' := k; unfold iO at k'; rw [iL_to] at k'; exact k')
theorem wk_iand (hx : p.tables.exec = Jvm.exec) (hb : c.code = cc) {a b : Int} (hdg : decode cc pc = .ok (.iand, 1)) (k : W p l e R s m args below meth c H locs cells slots Q (F0 m (pc + 1) ls (.int (iI (iNI a b)) :: rest))) : W p l e R s m args below meth c H locs cells slots Q (F0 m pc ls (.int (iI b) :: .int (iI a) :: rest)) := lv_iand hx hb hdg (by have k' := k; unfold iNI at k'; rw [iI_to] at k'; exact k')
theorem wk_lushr (hx : p.tables.exec = Jvm.exec) (hb : c.code = cc) {a b : Int} (hdg : decode cc pc = .ok (.lushr, 1)) (k : W p l e R s m args below meth c H locs cells slots Q (F0 m (pc + 1) ls (.long (iL (iUs a b)) :: rest))) : W p l e R s m args below meth c H locs cells slots Q (F0 m pc ls (.int (iI b) :: .long (iL a) :: rest)) := lv_lushr hx hb hdg (by unfold iUs; rw [iL_to]) k
theorem wk_lshl (hx : p.tables.exec = Jvm.exec) (hb : c.code = cc) {a b : Int} (hdg : decode cc pc = .ok (.lshl, 1)) (k : W p l e R s m args below meth c H locs cells slots Q (F0 m (pc + 1) ls (.long (iL (iSl a b)) :: rest))) : W p l e R s m args below meth c H locs cells slots Q (F0 m pc ls (.int (iI b) :: .long (iL a) :: rest)) := lv_lshl hx hb hdg (by unfold iSl; rw [iL_to]) k
theorem wk_lshr (hx : p.tables.exec = Jvm.exec) (hb : c.code = cc) {a b : Int} (hdg : decode cc pc = .ok (.lshr, 1)) (k : W p l e R s m args below meth c H locs cells slots Q (F0 m (pc + 1) ls (.long (iL (iSr a b)) :: rest))) : W p l e R s m args below meth c H locs cells slots Q (F0 m pc ls (.int (iI b) :: .long (iL a) :: rest)) := lv_lshr hx hb hdg (by unfold iSr; rw [iL_to]) k
theorem wk_zast (hx : p.tables.exec = Jvm.exec) (hb : c.code = cc) (hK : va_K D cl tys s) (hP : va_P D cl ws H) (hD : va_D A ws) (hS : va_S A H0 H locs) (q0 t0 : Nat) {cA : ClassId} {n : Nat} {f : Nat → Int} (ha : ws[q0]? = some (ad, .inl (cA, n, .inl (iA f)))) (ht : tys[t0]? = some (cA, .boolean)) {i x : Int} (hx01 : x = 0 ∨ x = 1) (h0 : 0 ≤ i) (h1 : i < n) (hn : n < 2147483648) (hdg : decode cc pc = .ok (.bastore, 1)) (k : ∀ (H1 : Heap) (locs1 : List Loc), va_P D cl (ws.set q0 (ad, .inl (cA, n, .inl (iA (iU f i.toNat x))))) H1 → va_D A (ws.set q0 (ad, .inl (cA, n, .inl (iA (iU f i.toNat x))))) → va_S A H0 H1 locs1 → W p l e R s m args below meth c H1 locs1 cells slots Q (F0 m (pc + 1) ls rest)) : W p l e R s m args below meth c H locs cells slots Q (F0 m pc ls (.int (iI x) :: .int (iI i) :: .ref ad :: rest)) := va_zast hx hb hK hP hD hS q0 t0 ha ht (iI_in h0 h1 hn) hdg (by
  have e1 : vp_nar .boolean (iI x) = iI x := by rcases hx01 with h | h <;> subst h <;> rfl
  rw [e1, iI_clamp ⟨by omega, by omega⟩, iA_upd]; exact k)
theorem wk_ifnull (hx : p.tables.exec = Jvm.exec) (hb : c.code = cc) {z : Int} {a : Nat} {off : Int} {tgt : Nat} (hdg : decode cc pc = .ok (.ifnull off, 3)) (ht : (pc : Int) + off = (tgt : Int)) (kt : z = 0 → W p l e R s m args below meth c H locs cells slots Q (F0 m tgt ls rest)) (kf : ¬ z = 0 → W p l e R s m args below meth c H locs cells slots Q (F0 m (pc + 3) ls rest)) : W p l e R s m args below meth c H locs cells slots Q (F0 m pc ls ((if z = 0 then Value.null else Value.ref a) :: rest)) := by
  by_cases h : z = 0
  · rw [if_pos h]; exact lv_ifnullN hx hb hdg ht (kt h)
  · rw [if_neg h]; exact lv_ifnull hx hb hdg (kf h)
theorem wk_ifnonnull (hx : p.tables.exec = Jvm.exec) (hb : c.code = cc) {z : Int} {a : Nat} {off : Int} {tgt : Nat} (hdg : decode cc pc = .ok (.ifnonnull off, 3)) (ht : (pc : Int) + off = (tgt : Int)) (kt : ¬ z = 0 → W p l e R s m args below meth c H locs cells slots Q (F0 m tgt ls rest)) (kf : z = 0 → W p l e R s m args below meth c H locs cells slots Q (F0 m (pc + 3) ls rest)) : W p l e R s m args below meth c H locs cells slots Q (F0 m pc ls ((if z = 0 then Value.null else Value.ref a) :: rest)) := by
  by_cases h : z = 0
  · rw [if_pos h]; exact lv_ifnonnullN hx hb hdg (kf h)
  · rw [if_neg h]; exact lv_ifnonnull hx hb hdg ht (kt h)
theorem iI_max {a b : Int} (ha : iR a) (hb : iR b) : (if iI a < iI b then iI b else iI a) = iI (max a b) := by
  by_cases h : a < b
  · rw [if_pos ((iI_lt ha hb).mpr h), Int.max_eq_right (Int.le_of_lt h)]
  · rw [if_neg (fun q => h ((iI_lt ha hb).mp q)), Int.max_eq_left (Int.not_lt.mp h)]
theorem iI_min {a b : Int} (ha : iR a) (hb : iR b) : (if iI b < iI a then iI b else iI a) = iI (min a b) := by
  by_cases h : b < a
  · rw [if_pos ((iI_lt hb ha).mpr h), Int.min_eq_right (Int.le_of_lt h)]
  · rw [if_neg (fun q => h ((iI_lt hb ha).mp q)), Int.min_eq_left (Int.not_lt.mp h)]
end WK
theorem kz (z : Int) (h : z = 0 ∨ z = 1) : narrow .boolean (.int (iI z)) = .int (iI z) := by rcases h with h | h <;> subst h <;> rfl
theorem kR01 {z : Int} (h : z = 0 ∨ z = 1) : iR z := by rcases h with h | h <;> subst h <;> exact ⟨by decide, by decide⟩
theorem kiC_lt {a b : Int} : iC a b < 0 ↔ a < b := by unfold iC; split <;> (try split) <;> omega
theorem kiC_gt {a b : Int} : 0 < iC a b ↔ b < a := by unfold iC; split <;> (try split) <;> omega
theorem kiC_eq {a b : Int} : iC a b = 0 ↔ a = b := by unfold iC; split <;> (try split) <;> omega
theorem kR_L {z : Int} (h : iR z) : iRL z := ⟨by have := h.1; omega, by have := h.2; omega⟩
theorem kL_R (c : Nat) : iR ((kL c : Nat) : Int) := by have := kL_le c; unfold iR; omega
theorem kLen_R (c : Nat) : iR ((kLen c : Nat) : Int) := by have := kLen_lt c; unfold iR; omega
