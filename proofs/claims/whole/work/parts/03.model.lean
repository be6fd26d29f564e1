/-- a state: scalars by slot, arrays by slot -/
abbrev MS : Type := (Nat → Int) × (Nat → Nat → Int)
def sU (x : MS) (k : Nat) (v : Int) : MS := (iU x.1 k v, x.2)
def aU (x : MS) (k j : Nat) (v : Int) : MS := (x.1, fun q => if q = k then iU (x.2 k) j v else x.2 q)
def mF (ad : Nat → Nat) (x : MS) : List Value := [.int (iI (x.1 0)), .ref (ad 1), .ref (ad 2), .int (iI (x.1 3)), .ref (ad 4), .ref (ad 5), .int (iI (x.1 6)), .int (iI (x.1 7)), .ref (ad 8), .ref (ad 9), .int (iI (x.1 10)), .ref (ad 11), .int (iI (x.1 12)), .ref (ad 13), .ref (ad 14), .ref (ad 15), .ref (ad 16), .int (iI (x.1 17)), .ref (ad 18), .ref (ad 19), .ref (ad 20), .ref (ad 21), .ref (ad 22), .ref (ad 23), .int (iI (x.1 24)), .ref (ad 25), .ref (ad 26), .int (iI (x.1 27)), .ref (ad 28), .ref (ad 29), .ref (ad 30), .int (iI (x.1 31)), .ref (ad 32), .ref (ad 33)]
def mW (h : Nat) (ad : Nat → Nat) (cI cJ cZ : ClassId) (x : MS) : va_W := [(h, .inr (12, mF ad x)), (ad 1, .inl (cI, 13, .inl (iA (x.2 1)))), (ad 2, .inl (cI, 1664, .inl (iA (x.2 2)))), (ad 4, .inl (cI, 16, .inl (iA (x.2 4)))), (ad 5, .inl (cI, 192, .inl (iA (x.2 5)))), (ad 8, .inl (cI, 64, .inl (iA (x.2 8)))), (ad 9, .inl (cI, 10001, .inl (iA (x.2 9)))), (ad 11, .inl (cI, 64, .inl (iA (x.2 11)))), (ad 13, .inl (cI, 40, .inl (iA (x.2 13)))), (ad 14, .inl (cI, 960, .inl (iA (x.2 14)))), (ad 15, .inl (cI, 40, .inl (iA (x.2 15)))), (ad 16, .inl (cI, 960, .inl (iA (x.2 16)))), (ad 18, .inl (cI, 3400, .inl (iA (x.2 18)))), (ad 19, .inl (cI, 3400, .inl (iA (x.2 19)))), (ad 20, .inl (cI, 850, .inl (iA (x.2 20)))), (ad 21, .inl (cI, 850, .inl (iA (x.2 21)))), (ad 22, .inl (cI, 850, .inl (iA (x.2 22)))), (ad 23, .inl (cI, 850, .inl (iA (x.2 23)))), (ad 25, .inl (cI, 850, .inl (iA (x.2 25)))), (ad 26, .inl (cI, 130, .inl (iA (x.2 26)))), (ad 28, .inl (cJ, 26350, .inr (.inl (iAL (x.2 28))))), (ad 29, .inl (cZ, 850, .inl (iA (x.2 29)))), (ad 30, .inl (cZ, 850, .inl (iA (x.2 30)))), (ad 32, .inl (cI, 301, .inl (iA (x.2 32)))), (ad 33, .inl (cI, 18060, .inl (iA (x.2 33))))]
theorem mW_s0 (h : Nat) (ad : Nat → Nat) (cI cJ cZ : ClassId) (x : MS) (v : Int) : (mW h ad cI cJ cZ x).set 0 (h, .inr (12, (mF ad x).set 0 (.int (iI v)))) = mW h ad cI cJ cZ (sU x 0 v) := rfl
theorem mW_a1 (h : Nat) (ad : Nat → Nat) (cI cJ cZ : ClassId) (x : MS) (i : Nat) (v : Int) : (mW h ad cI cJ cZ x).set 1 (ad 1, .inl (cI, 13, .inl (iA (iU (x.2 1) i v)))) = mW h ad cI cJ cZ (aU x 1 i v) := rfl
theorem mW_a2 (h : Nat) (ad : Nat → Nat) (cI cJ cZ : ClassId) (x : MS) (i : Nat) (v : Int) : (mW h ad cI cJ cZ x).set 2 (ad 2, .inl (cI, 1664, .inl (iA (iU (x.2 2) i v)))) = mW h ad cI cJ cZ (aU x 2 i v) := rfl
theorem mW_s3 (h : Nat) (ad : Nat → Nat) (cI cJ cZ : ClassId) (x : MS) (v : Int) : (mW h ad cI cJ cZ x).set 0 (h, .inr (12, (mF ad x).set 3 (.int (iI v)))) = mW h ad cI cJ cZ (sU x 3 v) := rfl
theorem mW_a4 (h : Nat) (ad : Nat → Nat) (cI cJ cZ : ClassId) (x : MS) (i : Nat) (v : Int) : (mW h ad cI cJ cZ x).set 3 (ad 4, .inl (cI, 16, .inl (iA (iU (x.2 4) i v)))) = mW h ad cI cJ cZ (aU x 4 i v) := rfl
theorem mW_a5 (h : Nat) (ad : Nat → Nat) (cI cJ cZ : ClassId) (x : MS) (i : Nat) (v : Int) : (mW h ad cI cJ cZ x).set 4 (ad 5, .inl (cI, 192, .inl (iA (iU (x.2 5) i v)))) = mW h ad cI cJ cZ (aU x 5 i v) := rfl
theorem mW_s6 (h : Nat) (ad : Nat → Nat) (cI cJ cZ : ClassId) (x : MS) (v : Int) : (mW h ad cI cJ cZ x).set 0 (h, .inr (12, (mF ad x).set 6 (.int (iI v)))) = mW h ad cI cJ cZ (sU x 6 v) := rfl
theorem mW_s7 (h : Nat) (ad : Nat → Nat) (cI cJ cZ : ClassId) (x : MS) (v : Int) : (mW h ad cI cJ cZ x).set 0 (h, .inr (12, (mF ad x).set 7 (.int (iI v)))) = mW h ad cI cJ cZ (sU x 7 v) := rfl
theorem mW_a8 (h : Nat) (ad : Nat → Nat) (cI cJ cZ : ClassId) (x : MS) (i : Nat) (v : Int) : (mW h ad cI cJ cZ x).set 5 (ad 8, .inl (cI, 64, .inl (iA (iU (x.2 8) i v)))) = mW h ad cI cJ cZ (aU x 8 i v) := rfl
theorem mW_a9 (h : Nat) (ad : Nat → Nat) (cI cJ cZ : ClassId) (x : MS) (i : Nat) (v : Int) : (mW h ad cI cJ cZ x).set 6 (ad 9, .inl (cI, 10001, .inl (iA (iU (x.2 9) i v)))) = mW h ad cI cJ cZ (aU x 9 i v) := rfl
theorem mW_s10 (h : Nat) (ad : Nat → Nat) (cI cJ cZ : ClassId) (x : MS) (v : Int) : (mW h ad cI cJ cZ x).set 0 (h, .inr (12, (mF ad x).set 10 (.int (iI v)))) = mW h ad cI cJ cZ (sU x 10 v) := rfl
theorem mW_a11 (h : Nat) (ad : Nat → Nat) (cI cJ cZ : ClassId) (x : MS) (i : Nat) (v : Int) : (mW h ad cI cJ cZ x).set 7 (ad 11, .inl (cI, 64, .inl (iA (iU (x.2 11) i v)))) = mW h ad cI cJ cZ (aU x 11 i v) := rfl
theorem mW_s12 (h : Nat) (ad : Nat → Nat) (cI cJ cZ : ClassId) (x : MS) (v : Int) : (mW h ad cI cJ cZ x).set 0 (h, .inr (12, (mF ad x).set 12 (.int (iI v)))) = mW h ad cI cJ cZ (sU x 12 v) := rfl
theorem mW_a13 (h : Nat) (ad : Nat → Nat) (cI cJ cZ : ClassId) (x : MS) (i : Nat) (v : Int) : (mW h ad cI cJ cZ x).set 8 (ad 13, .inl (cI, 40, .inl (iA (iU (x.2 13) i v)))) = mW h ad cI cJ cZ (aU x 13 i v) := rfl
theorem mW_a14 (h : Nat) (ad : Nat → Nat) (cI cJ cZ : ClassId) (x : MS) (i : Nat) (v : Int) : (mW h ad cI cJ cZ x).set 9 (ad 14, .inl (cI, 960, .inl (iA (iU (x.2 14) i v)))) = mW h ad cI cJ cZ (aU x 14 i v) := rfl
theorem mW_a15 (h : Nat) (ad : Nat → Nat) (cI cJ cZ : ClassId) (x : MS) (i : Nat) (v : Int) : (mW h ad cI cJ cZ x).set 10 (ad 15, .inl (cI, 40, .inl (iA (iU (x.2 15) i v)))) = mW h ad cI cJ cZ (aU x 15 i v) := rfl
theorem mW_a16 (h : Nat) (ad : Nat → Nat) (cI cJ cZ : ClassId) (x : MS) (i : Nat) (v : Int) : (mW h ad cI cJ cZ x).set 11 (ad 16, .inl (cI, 960, .inl (iA (iU (x.2 16) i v)))) = mW h ad cI cJ cZ (aU x 16 i v) := rfl
theorem mW_s17 (h : Nat) (ad : Nat → Nat) (cI cJ cZ : ClassId) (x : MS) (v : Int) : (mW h ad cI cJ cZ x).set 0 (h, .inr (12, (mF ad x).set 17 (.int (iI v)))) = mW h ad cI cJ cZ (sU x 17 v) := rfl
theorem mW_a18 (h : Nat) (ad : Nat → Nat) (cI cJ cZ : ClassId) (x : MS) (i : Nat) (v : Int) : (mW h ad cI cJ cZ x).set 12 (ad 18, .inl (cI, 3400, .inl (iA (iU (x.2 18) i v)))) = mW h ad cI cJ cZ (aU x 18 i v) := rfl
theorem mW_a19 (h : Nat) (ad : Nat → Nat) (cI cJ cZ : ClassId) (x : MS) (i : Nat) (v : Int) : (mW h ad cI cJ cZ x).set 13 (ad 19, .inl (cI, 3400, .inl (iA (iU (x.2 19) i v)))) = mW h ad cI cJ cZ (aU x 19 i v) := rfl
theorem mW_a20 (h : Nat) (ad : Nat → Nat) (cI cJ cZ : ClassId) (x : MS) (i : Nat) (v : Int) : (mW h ad cI cJ cZ x).set 14 (ad 20, .inl (cI, 850, .inl (iA (iU (x.2 20) i v)))) = mW h ad cI cJ cZ (aU x 20 i v) := rfl
theorem mW_a21 (h : Nat) (ad : Nat → Nat) (cI cJ cZ : ClassId) (x : MS) (i : Nat) (v : Int) : (mW h ad cI cJ cZ x).set 15 (ad 21, .inl (cI, 850, .inl (iA (iU (x.2 21) i v)))) = mW h ad cI cJ cZ (aU x 21 i v) := rfl
theorem mW_a22 (h : Nat) (ad : Nat → Nat) (cI cJ cZ : ClassId) (x : MS) (i : Nat) (v : Int) : (mW h ad cI cJ cZ x).set 16 (ad 22, .inl (cI, 850, .inl (iA (iU (x.2 22) i v)))) = mW h ad cI cJ cZ (aU x 22 i v) := rfl
theorem mW_a23 (h : Nat) (ad : Nat → Nat) (cI cJ cZ : ClassId) (x : MS) (i : Nat) (v : Int) : (mW h ad cI cJ cZ x).set 17 (ad 23, .inl (cI, 850, .inl (iA (iU (x.2 23) i v)))) = mW h ad cI cJ cZ (aU x 23 i v) := rfl
theorem mW_s24 (h : Nat) (ad : Nat → Nat) (cI cJ cZ : ClassId) (x : MS) (v : Int) : (mW h ad cI cJ cZ x).set 0 (h, .inr (12, (mF ad x).set 24 (.int (iI v)))) = mW h ad cI cJ cZ (sU x 24 v) := rfl
theorem mW_a25 (h : Nat) (ad : Nat → Nat) (cI cJ cZ : ClassId) (x : MS) (i : Nat) (v : Int) : (mW h ad cI cJ cZ x).set 18 (ad 25, .inl (cI, 850, .inl (iA (iU (x.2 25) i v)))) = mW h ad cI cJ cZ (aU x 25 i v) := rfl
theorem mW_a26 (h : Nat) (ad : Nat → Nat) (cI cJ cZ : ClassId) (x : MS) (i : Nat) (v : Int) : (mW h ad cI cJ cZ x).set 19 (ad 26, .inl (cI, 130, .inl (iA (iU (x.2 26) i v)))) = mW h ad cI cJ cZ (aU x 26 i v) := rfl
theorem mW_s27 (h : Nat) (ad : Nat → Nat) (cI cJ cZ : ClassId) (x : MS) (v : Int) : (mW h ad cI cJ cZ x).set 0 (h, .inr (12, (mF ad x).set 27 (.int (iI v)))) = mW h ad cI cJ cZ (sU x 27 v) := rfl
theorem mW_a28 (h : Nat) (ad : Nat → Nat) (cI cJ cZ : ClassId) (x : MS) (i : Nat) (v : Int) : (mW h ad cI cJ cZ x).set 20 (ad 28, .inl (cJ, 26350, .inr (.inl (iAL (iU (x.2 28) i v))))) = mW h ad cI cJ cZ (aU x 28 i v) := rfl
theorem mW_a29 (h : Nat) (ad : Nat → Nat) (cI cJ cZ : ClassId) (x : MS) (i : Nat) (v : Int) : (mW h ad cI cJ cZ x).set 21 (ad 29, .inl (cZ, 850, .inl (iA (iU (x.2 29) i v)))) = mW h ad cI cJ cZ (aU x 29 i v) := rfl
theorem mW_a30 (h : Nat) (ad : Nat → Nat) (cI cJ cZ : ClassId) (x : MS) (i : Nat) (v : Int) : (mW h ad cI cJ cZ x).set 22 (ad 30, .inl (cZ, 850, .inl (iA (iU (x.2 30) i v)))) = mW h ad cI cJ cZ (aU x 30 i v) := rfl
theorem mW_s31 (h : Nat) (ad : Nat → Nat) (cI cJ cZ : ClassId) (x : MS) (v : Int) : (mW h ad cI cJ cZ x).set 0 (h, .inr (12, (mF ad x).set 31 (.int (iI v)))) = mW h ad cI cJ cZ (sU x 31 v) := rfl
theorem mW_a32 (h : Nat) (ad : Nat → Nat) (cI cJ cZ : ClassId) (x : MS) (i : Nat) (v : Int) : (mW h ad cI cJ cZ x).set 23 (ad 32, .inl (cI, 301, .inl (iA (iU (x.2 32) i v)))) = mW h ad cI cJ cZ (aU x 32 i v) := rfl
theorem mW_a33 (h : Nat) (ad : Nat → Nat) (cI cJ cZ : ClassId) (x : MS) (i : Nat) (v : Int) : (mW h ad cI cJ cZ x).set 24 (ad 33, .inl (cI, 18060, .inl (iA (iU (x.2 33) i v)))) = mW h ad cI cJ cZ (aU x 33 i v) := rfl
abbrev mTy (cI cJ cZ : ClassId) : List (ClassId × FieldType) := [(cI, .int), (cJ, .long), (cZ, .boolean)]
abbrev mPc (dC : Nat → ClassId) (dI : Nat → Nat → Nat) (h : Nat) (ad : Nat → Nat) (cI cJ cZ : ClassId) (sz : Nat) (x : MS) (av : List Value) : Array Value → State → Prop := va_Pc av (fun U => U.heap.size = sz ∧ va_P (dC, dI) vwCl (mW h ad cI cJ cZ x) U.heap ∧ va_K (dC, dI) vwCl (mTy cI cJ cZ) U ∧ va_D (fun _ => True) (mW h ad cI cJ cZ x))
abbrev mAt (dC : Nat → ClassId) (dI : Nat → Nat → Nat) (h : Nat) (ad : Nat → Nat) (cI cJ cZ : ClassId) (A : Nat → Prop) (u : MS) (t : State) : Prop := va_P (dC, dI) vwCl (mW h ad cI cJ cZ u) t.heap ∧ va_K (dC, dI) vwCl (mTy cI cJ cZ) t ∧ va_D A (mW h ad cI cJ cZ u)
theorem mW_A {h : Nat} {ad : Nat → Nat} {cI cJ cZ : ClassId} {x y : MS} {sz : Nat} : va_A (mW h ad cI cJ cZ x) sz = va_A (mW h ad cI cJ cZ y) sz := by
  funext q
  apply propext
  have key : ∀ (x y : MS), va_A (mW h ad cI cJ cZ x) sz q → va_A (mW h ad cI cJ cZ y) sz q := by
    intro x y hq
    rcases hq with ⟨k, e, hk⟩ | hk
    · have h1 : (mW h ad cI cJ cZ x).map (fun q => q.1) = (mW h ad cI cJ cZ y).map (fun q => q.1) := rfl
      have h2 : ((mW h ad cI cJ cZ x).map (fun q => q.1))[k]? = some q := by rw [List.getElem?_map, hk]; rfl
      rw [h1, List.getElem?_map] at h2
      cases hw : (mW h ad cI cJ cZ y)[k]? with
      | none => rw [hw] at h2; cases h2
      | some z =>
        rw [hw] at h2
        obtain ⟨z1, z2⟩ := z
        have : z1 = q := Option.some.inj h2
        subst this
        exact Or.inl ⟨k, z2, hw⟩
    · exact Or.inr hk
  exact ⟨key x y, key y x⟩
theorem iC_lt {a b : Int} : iC a b < 0 ↔ a < b := by unfold iC; split <;> (try split) <;> omega
theorem iC_gt {a b : Int} : 0 < iC a b ↔ b < a := by unfold iC; split <;> (try split) <;> omega
theorem iC_eq {a b : Int} : iC a b = 0 ↔ a = b := by unfold iC; split <;> (try split) <;> omega
theorem iR_L {z : Int} (h : iR z) : iRL z := ⟨by have := h.1; omega, by have := h.2; omega⟩
theorem F_z (z : Int) (h : z = 0 ∨ z = 1) : narrow .boolean (.int (iI z)) = .int (iI z) := by rcases h with h | h <;> subst h <;> rfl
theorem F_R01 {z : Int} (h : z = 0 ∨ z = 1) : iR z := by rcases h with h | h <;> subst h <;> exact ⟨by decide, by decide⟩
/-- 1 if v is a to b -/
def F_in (v a b : Int) : Int := if a ≤ v ∧ v ≤ b then 1 else 0
theorem F_in_01 (v a b : Int) : F_in v a b = 0 ∨ F_in v a b = 1 := by unfold F_in; split <;> simp
theorem F_in_1 {v a b : Int} (h : ¬ F_in v a b = 0) : a ≤ v ∧ v ≤ b := by unfold F_in at h; split at h <;> simp_all
theorem F_in_0 {v a b : Int} (h : F_in v a b = 0) : ¬ (a ≤ v ∧ v ≤ b) := by unfold F_in at h; split at h <;> simp_all
/-- but for the scalars S and the arrays A the two are the same -/
def same (S A : List Nat) (x y : MS) : Prop := (∀ k, k ∉ S → y.1 k = x.1 k) ∧ ∀ k, k ∉ A → y.2 k = x.2 k
theorem sm_rf (S A : List Nat) (x : MS) : same S A x x := ⟨fun _ _ => rfl, fun _ _ => rfl⟩
theorem sm_nil {x y : MS} (h : same [] [] x y) : y = x := Prod.ext (funext fun k => h.1 k List.not_mem_nil) (funext fun k => h.2 k List.not_mem_nil)
theorem sm_tr {S A : List Nat} {x y z : MS} (h : same S A x y) (g : same S A y z) : same S A x z := ⟨fun k hk => (g.1 k hk).trans (h.1 k hk), fun k hk => (g.2 k hk).trans (h.2 k hk)⟩
theorem sm_mono {S A S' A' : List Nat} {x y : MS} (hS : ∀ k ∈ S', k ∈ S) (hA : ∀ k ∈ A', k ∈ A) (h : same S' A' x y) : same S A x y := ⟨fun k hk => h.1 k (fun q => hk (hS k q)), fun k hk => h.2 k (fun q => hk (hA k q))⟩
theorem sm_s {S A : List Nat} {x y : MS} {k : Nat} {v : Int} (hk : k ∈ S) (h : same S A x y) : same S A x (sU y k v) := by
  refine ⟨fun j hj => ?_, h.2⟩
  show iU y.1 k v j = x.1 j
  have hne : j ≠ k := fun e => hj (by rw [e]; exact hk)
  rw [iU_n hne]
  exact h.1 j hj
theorem sm_a {S A : List Nat} {x y : MS} {k i : Nat} {v : Int} (hk : k ∈ A) (h : same S A x y) : same S A x (aU y k i v) := by
  refine ⟨h.1, fun j hj => ?_⟩
  show (if j = k then iU (y.2 k) i v else y.2 j) = x.2 j
  have hne : j ≠ k := fun e => hj (by rw [e]; exact hk)
  rw [if_neg hne]
  exact h.2 j hj
