-- deps: 03 30 60
def zF (ad : Nat → Nat) (x : MS) : List Value := [.ref (ad 0), .ref (ad 1), .int (iI (x.1 2)), .int (iI (x.1 3))]
def zW (h : Nat) (ad : Nat → Nat) (cI cJ cZ : ClassId) (x : MS) : va_W := [(h, .inr (8, zF ad x)), (ad 0, .inl (cI, 21, .inl (iA (x.2 0)))), (ad 1, .inl (cI, 22, .inl (iA (x.2 1))))]
theorem zW_a0 (h : Nat) (ad : Nat → Nat) (cI cJ cZ : ClassId) (x : MS) (i : Nat) (v : Int) : (zW h ad cI cJ cZ x).set 1 (ad 0, .inl (cI, 21, .inl (iA (iU (x.2 0) i v)))) = zW h ad cI cJ cZ (aU x 0 i v) := rfl
theorem zW_a1 (h : Nat) (ad : Nat → Nat) (cI cJ cZ : ClassId) (x : MS) (i : Nat) (v : Int) : (zW h ad cI cJ cZ x).set 2 (ad 1, .inl (cI, 22, .inl (iA (iU (x.2 1) i v)))) = zW h ad cI cJ cZ (aU x 1 i v) := rfl
theorem zW_s2 (h : Nat) (ad : Nat → Nat) (cI cJ cZ : ClassId) (x : MS) (v : Int) : (zW h ad cI cJ cZ x).set 0 (h, .inr (8, (zF ad x).set 2 (.int (iI v)))) = zW h ad cI cJ cZ (sU x 2 v) := rfl
theorem zW_s3 (h : Nat) (ad : Nat → Nat) (cI cJ cZ : ClassId) (x : MS) (v : Int) : (zW h ad cI cJ cZ x).set 0 (h, .inr (8, (zF ad x).set 3 (.int (iI v)))) = zW h ad cI cJ cZ (sU x 3 v) := rfl
abbrev zTy (cI cJ cZ : ClassId) : List (ClassId × FieldType) := [(cI, .int), (cJ, .long), (cZ, .boolean)]
abbrev zPc (dC : Nat → ClassId) (dI : Nat → Nat → Nat) (h : Nat) (ad : Nat → Nat) (cI cJ cZ : ClassId) (sz : Nat) (x : MS) (av : List Value) : Array Value → State → Prop := va_Pc av (fun U => U.heap.size = sz ∧ va_P (dC, dI) vwCl (zW h ad cI cJ cZ x) U.heap ∧ va_K (dC, dI) vwCl (zTy cI cJ cZ) U ∧ va_D (fun _ => True) (zW h ad cI cJ cZ x))
abbrev zAt (dC : Nat → ClassId) (dI : Nat → Nat → Nat) (h : Nat) (ad : Nat → Nat) (cI cJ cZ : ClassId) (A : Nat → Prop) (u : MS) (t : State) : Prop := va_P (dC, dI) vwCl (zW h ad cI cJ cZ u) t.heap ∧ va_K (dC, dI) vwCl (zTy cI cJ cZ) t ∧ va_D A (zW h ad cI cJ cZ u)
theorem zW_A {h : Nat} {ad : Nat → Nat} {cI cJ cZ : ClassId} {x y : MS} {sz : Nat} : va_A (zW h ad cI cJ cZ x) sz = va_A (zW h ad cI cJ cZ y) sz := by
  funext q
  apply propext
  have key : ∀ (x y : MS), va_A (zW h ad cI cJ cZ x) sz q → va_A (zW h ad cI cJ cZ y) sz q := by
    intro x y hq
    rcases hq with ⟨k, e, hk⟩ | hk
    · have h1 : (zW h ad cI cJ cZ x).map (fun q => q.1) = (zW h ad cI cJ cZ y).map (fun q => q.1) := rfl
      have h2 : ((zW h ad cI cJ cZ x).map (fun q => q.1))[k]? = some q := by rw [List.getElem?_map, hk]; rfl
      rw [h1, List.getElem?_map] at h2
      cases hw : (zW h ad cI cJ cZ y)[k]? with
      | none => rw [hw] at h2; cases h2
      | some z =>
        rw [hw] at h2
        obtain ⟨z1, z2⟩ := z
        have : z1 = q := Option.some.inj h2
        subst this
        exact Or.inl ⟨k, z2, hw⟩
    · exact Or.inr hk
  exact ⟨key x y, key y x⟩
def F_z_setLetters_s : Nat → Nat → MS → Int → Int → Int → Int → Int × MS
  | 0, _, x, _, _, _, _ => (0, x)
  | n + 1, t, x, p0, p1, p2, p3 => match t with
    | 0 => (fun (n0 : Int) (b : Int) (q : Int) (k : Int) => (if ((20 : Int)) < (k) then (0, x) else (if ((10000 : Int)) < ((b) + (q)) then (0, x) else F_z_setLetters_s n 0 (aU (sU (aU (aU (x) 0 (k).toNat (q)) 1 (k).toNat (b)) 3 (k)) 1 ((k) + ((1 : Int))).toNat ((b) + (q))) (n0) ((b) + (q)) ((q) * ((x).1 2)) ((k) + (1 : Int))))) p0 p1 p2 p3
    | _ => (0, x)
theorem F_z_setLetters_e0 (n : Nat) (x : MS) (n0 : Int) (b : Int) (q : Int) (k : Int) : F_z_setLetters_s (n + 1) 0 x n0 b q k = (if ((20 : Int)) < (k) then (0, x) else (if ((10000 : Int)) < ((b) + (q)) then (0, x) else F_z_setLetters_s n 0 (aU (sU (aU (aU (x) 0 (k).toNat (q)) 1 (k).toNat (b)) 3 (k)) 1 ((k) + ((1 : Int))).toNat ((b) + (q))) (n0) ((b) + (q)) ((q) * ((x).1 2)) ((k) + (1 : Int)))) := rfl
def F_z_setLetters (x : MS) (n0 : Int) : Int × MS := F_z_setLetters_s 30 0 (sU (x) 2 (max (n0) ((1 : Int)))) (n0) ((0 : Int)) ((1 : Int)) ((0 : Int))
set_option maxHeartbeats 4000000 in
set_option maxRecDepth 100000 in
/-- setLetters -/
theorem c_z_setLetters (l : Launch) (dC : Nat → ClassId) (dI : Nat → Nat → Nat) (h : Nat) (ad : Nat → Nat) (cI cJ cZ : ClassId) (sz : Nat) (x : MS) (n0 : Int) (n1 : 1 ≤ n0) (n4 : n0 ≤ 4) : Met l yX8_setLetters wsX8_setLetters ({ frames := 1, cells := 0, slots := 0, locals := 21 }) (zPc dC dI h ad cI cJ cZ sz x [.ref h, .int (iI n0)]) (va_Qv (fun u : MS => u = (F_z_setLetters (x) (n0)).2) (zAt dC dI h ad cI cJ cZ (va_A (zW h ad cI cJ cZ (x)) sz)) (va_A (zW h ad cI cJ cZ (x)) sz)) 0 0 (va_A (zW h ad cI cJ cZ (x)) sz) := by
  refine Met.ofW (cc := cX8_setLetters) (maxL := 5) (ret := none) (by decide) rfl ?_
  intro p e s m args below meth c s₁ B hml hv
  obtain ⟨rfl, hsz, hP, hK, hD0⟩ := hv
  have hx := B.exec
  have hb := B.bytes
  have hr := B.returns
  have hts := atoms_spec (ws := wsX8_setLetters) B.pre
  have hown : s.vm.findClass RX8 = some m.cls := findClass_of_methodNamed B.named
  have hlocks := B.notSynchronized
  have hin : ∀ w ∈ u_ws RX8 TX8 4, w ∈ wsX8_setLetters := by decide +kernel
  subst hsz
  have hD := hD0.self (sz := s.heap.size)
  generalize hAe : va_A (zW h ad cI cJ cZ (x)) s.heap.size = A at hD ⊢
  have hA : ∀ q : Nat, s.heap.size ≤ q → A q := fun q h => by rw [← hAe]; exact Or.inr h
  have hS : va_S A s.heap s.heap [] := va_S.rf
  have hl := lv_entry ([.ref h, .int (iI n0)]) (n := 5) (Nat.le_of_ble_eq_true rfl)
  rw [lg_entry_eq]
  generalize (lg_sl ([.ref h, .int (iI n0)]) ++ List.replicate (5 - (lg_sl ([.ref h, .int (iI n0)])).length) Slot.unset).toArray = ls at hl ⊢
  have hl : lv_has ls 5 [(0, .ref (h)), (1, .int (iI (n0)))] := hl
  have L : ∀ n : Nat, (∀ (y : MS) (b : Int) (q : Int) (k : Int), (0 ≤ k) → (k ≤ 21) → (0 ≤ b) → (b ≤ 10000) → (1 ≤ q) → (q ≤ 40000) → (y.1 2 = n0) → (21 - k < n) → F_z_setLetters_s n 0 y n0 b q k = F_z_setLetters (x) (n0) → ∀ (H : Heap) (locs : List Loc) (ls : Array Slot), va_P (dC, dI) vwCl (zW h ad cI cJ cZ (y)) H → va_D A (zW h ad cI cJ cZ (y)) → va_S A s.heap H locs → lv_has ls 5 [(0, .ref (h)), (1, .int (iI (n0))), (2, .int (iI (b))), (3, .int (iI (q))), (4, .int (iI (k)))] → W p l e (headSpec wsX8_setLetters ({ frames := 1, cells := 0, slots := 0, locals := 21 })).room s m ([.ref h, .int (iI n0)] : List Value).toArray below meth c H locs 0 0 (MQ below (va_Qv (fun u : MS => u = (F_z_setLetters (x) (n0)).2) (zAt dC dI h ad cI cJ cZ A) A) ([.ref h, .int (iI n0)] : List Value).toArray s 0 0 A) (F0 m 16 ls [])) := by
    intro n
    induction n with
    | zero =>
      skip
      · intro y b q k k0 k1 b0 b1 q0 q1 ly fu hres
        exact absurd fu (by omega)
    | succ n ih =>
      skip
      · intro y b q k k0 k1 b0 b1 q0 q1 ly fu hres H locs ls hP hD hS hl
        rw [F_z_setLetters_e0] at hres
        have m1 : q * 1 ≤ q * y.1 2 := Int.mul_le_mul_of_nonneg_left (by omega) (by omega)
        have m2 : q * y.1 2 ≤ q * 4 := Int.mul_le_mul_of_nonneg_left (by omega) (by omega)
        refine lv_iload hx hb dX8_setLetters_16 (lv_at hl 4 rfl) ?_
        refine lv_bipush (v := iI (20 : Int)) hx hb dX8_setLetters_18 (by decide) ?_
        refine wi_icmp_gt (tgt := 81) hx hb (by first | assumption | (unfold iR; omega) | exact F_R01 (by assumption)) ⟨by decide, by decide⟩ dX8_setLetters_20 (by decide) (fun c_20 => ?_) (fun c_20 => ?_)
        · skip
          rw [if_pos c_20] at hres
          exact W.vret hx hb hr (fun t ht hW => ⟨⟨y, rfl, (by have h9 := congrArg (fun z : Int × MS => z.2) hres; exact h9), by rw [ht]; exact hP, va_K.moved hW.alike hK, hD⟩, hS.F ht⟩) hS.2.2 dX8_setLetters_81
        · skip
          rw [if_neg c_20] at hres
          refine lv_iload_n hx hb dX8_setLetters_23 rfl (lv_at hl 2 rfl) ?_
          refine lv_iload_n hx hb dX8_setLetters_24 rfl (lv_at hl 3 rfl) ?_
          refine wi_iadd hx hb dX8_setLetters_25 ?_
          refine lv_sipush (v := iI (10000 : Int)) hx hb dX8_setLetters_26 (by decide) ?_
          refine wi_icmp_gt (tgt := 81) hx hb (by first | assumption | (unfold iR; omega) | exact F_R01 (by assumption)) ⟨by decide, by decide⟩ dX8_setLetters_29 (by decide) (fun c_29 => ?_) (fun c_29 => ?_)
          · skip
            rw [if_pos c_29] at hres
            exact W.vret hx hb hr (fun t ht hW => ⟨⟨y, rfl, (by have h9 := congrArg (fun z : Int × MS => z.2) hres; exact h9), by rw [ht]; exact hP, va_K.moved hW.alike hK, hD⟩, hS.F ht⟩) hS.2.2 dX8_setLetters_81
          · skip
            rw [if_neg c_29] at hres
            refine lv_aload_n hx hb dX8_setLetters_32 rfl (lv_at hl 0 rfl) ?_
            refine va_get (D := (dC, dI)) (ci := 8) (v := .ref (ad 0)) (C := RX8) (T := TX8) (N := 4) hx hb hts hin hown hK hP 0 rfl rfl 0 (by decide) (hts (.fieldLink RX8 9 "LikeWords$Scale" "powers" "[I") (by decide +kernel)) (fun _ h9 => h9) rfl dX8_setLetters_33 ?_
            refine lv_iload hx hb dX8_setLetters_36 (lv_at hl 4 rfl) ?_
            refine lv_iload_n hx hb dX8_setLetters_38 rfl (lv_at hl 3 rfl) ?_
            refine wi_iast (f := (y).2 0) hx hb hK hP hD hS 1 0 rfl rfl (i := k) (x := q) (by omega) (by omega) (by decide) dX8_setLetters_39 (fun H locs hP hD hS => ?_)
            rw [zW_a0] at hP hD
            refine lv_aload_n hx hb dX8_setLetters_40 rfl (lv_at hl 0 rfl) ?_
            refine va_get (D := (dC, dI)) (ci := 8) (v := .ref (ad 1)) (C := RX8) (T := TX8) (N := 4) hx hb hts hin hown hK hP 0 rfl rfl 1 (by decide) (hts (.fieldLink RX8 15 "LikeWords$Scale" "firsts" "[I") (by decide +kernel)) (fun _ h9 => h9) rfl dX8_setLetters_41 ?_
            refine lv_iload hx hb dX8_setLetters_44 (lv_at hl 4 rfl) ?_
            refine lv_iload_n hx hb dX8_setLetters_46 rfl (lv_at hl 2 rfl) ?_
            refine wi_iast (f := (aU (y) 0 (k).toNat (q)).2 1) hx hb hK hP hD hS 2 0 rfl rfl (i := k) (x := b) (by omega) (by omega) (by decide) dX8_setLetters_47 (fun H locs hP hD hS => ?_)
            rw [zW_a1] at hP hD
            refine lv_iload_n hx hb dX8_setLetters_48 rfl (lv_at hl 2 rfl) ?_
            refine lv_iload_n hx hb dX8_setLetters_49 rfl (lv_at hl 3 rfl) ?_
            refine wi_iadd hx hb dX8_setLetters_50 ?_
            refine lv_istore_n (lv' := [(2, .int (iI ((b) + (q)))), (0, .ref (h)), (1, .int (iI (n0))), (3, .int (iI (q))), (4, .int (iI (k)))]) hx hb dX8_setLetters_51 rfl hl (by decide) rfl (fun ls hl => ?_)
            refine lv_iload_n hx hb dX8_setLetters_52 rfl (lv_at hl 3 rfl) ?_
            refine lv_aload_n hx hb dX8_setLetters_53 rfl (lv_at hl 1 rfl) ?_
            refine va_get (D := (dC, dI)) (ci := 8) (v := .int (iI ((y).1 2))) (C := RX8) (T := TX8) (N := 4) hx hb hts hin hown hK hP 0 rfl rfl 2 (by decide) (hts (.fieldLink RX8 28 "LikeWords$Scale" "letterCount" "I") (by decide +kernel)) (fun _ h9 => h9) rfl dX8_setLetters_54 ?_
            refine wi_imul hx hb dX8_setLetters_57 ?_
            refine lv_istore_n (lv' := [(3, .int (iI ((q) * ((y).1 2)))), (2, .int (iI ((b) + (q)))), (0, .ref (h)), (1, .int (iI (n0))), (4, .int (iI (k)))]) hx hb dX8_setLetters_58 rfl hl (by decide) rfl (fun ls hl => ?_)
            refine lv_aload_n hx hb dX8_setLetters_59 rfl (lv_at hl 2 rfl) ?_
            refine lv_iload hx hb dX8_setLetters_60 (lv_at hl 4 rfl) ?_
            refine va_put (D := (dC, dI)) (ci := 8) (v := .int (iI (k))) (ty := .int) (C := RX8) (T := TX8) (N := 4) hx hb hts hin tyX8 tyX8_ok nmX8 hown hK hP hD hS 0 rfl rfl 3 (by decide) (hts (.fieldLink RX8 32 "LikeWords$Scale" "longest" "I") (by decide +kernel)) (fun _ h9 => h9) rfl (by decide +kernel) rfl rfl (Nat.le_of_ble_eq_true rfl) dX8_setLetters_62 (fun H locs hP hD hS => ?_)
            rw [zW_s3] at hP hD
            refine lv_aload_n hx hb dX8_setLetters_65 rfl (lv_at hl 2 rfl) ?_
            refine va_get (D := (dC, dI)) (ci := 8) (v := .ref (ad 1)) (C := RX8) (T := TX8) (N := 4) hx hb hts hin hown hK hP 0 rfl rfl 1 (by decide) (hts (.fieldLink RX8 15 "LikeWords$Scale" "firsts" "[I") (by decide +kernel)) (fun _ h9 => h9) rfl dX8_setLetters_66 ?_
            refine lv_iload hx hb dX8_setLetters_69 (lv_at hl 4 rfl) ?_
            refine lv_iconst (v := iI (1 : Int)) hx hb dX8_setLetters_71 (by decide) ?_
            refine wi_iadd hx hb dX8_setLetters_72 ?_
            refine lv_iload_n hx hb dX8_setLetters_73 rfl (lv_at hl 1 rfl) ?_
            refine wi_iast (f := (sU (aU (aU (y) 0 (k).toNat (q)) 1 (k).toNat (b)) 3 (k)).2 1) hx hb hK hP hD hS 2 0 rfl rfl (i := (k) + ((1 : Int))) (x := (b) + (q)) (by omega) (by omega) (by decide) dX8_setLetters_74 (fun H locs hP hD hS => ?_)
            rw [zW_a1] at hP hD
            refine lv_iinc (v := iI ((k) + (1 : Int))) (lv' := [(4, .int (iI ((k) + (1 : Int)))), (3, .int (iI ((q) * ((y).1 2)))), (2, .int (iI ((b) + (q)))), (0, .ref (h)), (1, .int (iI (n0)))]) hx hb dX8_setLetters_75 hl (k := 4) rfl (iI_add _ _) (by decide) rfl (fun ls hl => ?_)
            refine lv_goto (tgt := 16) hx hb dX8_setLetters_78 (by decide) ?_
            exact ih (aU (sU (aU (aU (y) 0 (k).toNat (q)) 1 (k).toNat (b)) 3 (k)) 1 ((k) + ((1 : Int))).toNat ((b) + (q))) ((b) + (q)) ((q) * ((y).1 2)) ((k) + (1 : Int)) (by omega) (by omega) (by omega) (by omega) (by omega) (by omega) (ly) (by omega) hres _ _ ls hP hD hS (lv_sub hl [3, 4, 2, 1, 0] rfl)
  have key : ∀ (H : Heap) (locs : List Loc), va_P (dC, dI) vwCl (zW h ad cI cJ cZ (x)) H → va_S A s.heap H locs → W p l e (headSpec wsX8_setLetters ({ frames := 1, cells := 0, slots := 0, locals := 21 })).room s m ([.ref h, .int (iI n0)] : List Value).toArray below meth c H locs 0 0 (MQ below (va_Qv (fun u : MS => u = (F_z_setLetters (x) (n0)).2) (zAt dC dI h ad cI cJ cZ A) A) ([.ref h, .int (iI n0)] : List Value).toArray s 0 0 A) (F0 m 0 ls []) := by
    intro H locs hP hS
    have hres : F_z_setLetters_s 30 0 (sU (x) 2 (max (n0) ((1 : Int)))) (n0) ((0 : Int)) ((1 : Int)) ((0 : Int)) = F_z_setLetters (x) (n0) := rfl
    refine lv_aload_n hx hb dX8_setLetters_0 rfl (lv_at hl 0 rfl) ?_
    refine lv_iload_n hx hb dX8_setLetters_1 rfl (lv_at hl 1 rfl) ?_
    refine lv_iconst (v := iI (1 : Int)) hx hb dX8_setLetters_2 (by decide) ?_
    refine va_mmax hx hb (by rw [hml]; exact hl.1.symm) hown (hts (.methodLink RX8 22 Lib.Math.max.name) (by decide +kernel)) (hts (.static Lib.Math.max.name) (by decide +kernel)) (hts (.initialized "java/lang/Math") (by decide +kernel)) (hts (.code Lib.Math.max.name Lib.Math.max.code 2 (some .int)) (by decide +kernel)) (Nat.le_of_ble_eq_true rfl) (Nat.le_of_ble_eq_true rfl) (Nat.le_of_ble_eq_true rfl) (Nat.le_of_ble_eq_true rfl) dX8_setLetters_3 ?_
    rw [iI_max (by unfold iR; omega) ⟨by decide, by decide⟩]
    refine va_put (D := (dC, dI)) (ci := 8) (v := .int (iI (max (n0) ((1 : Int))))) (ty := .int) (C := RX8) (T := TX8) (N := 4) hx hb hts hin tyX8 tyX8_ok nmX8 hown hK hP hD hS 0 rfl rfl 2 (by decide) (hts (.fieldLink RX8 28 "LikeWords$Scale" "letterCount" "I") (by decide +kernel)) (fun _ h9 => h9) rfl (by decide +kernel) rfl rfl (Nat.le_of_ble_eq_true rfl) dX8_setLetters_6 (fun H locs hP hD hS => ?_)
    rw [zW_s2] at hP hD
    refine lv_iconst (v := iI (0 : Int)) hx hb dX8_setLetters_9 (by decide) ?_
    refine lv_istore_n (lv' := [(2, .int (iI ((0 : Int)))), (0, .ref (h)), (1, .int (iI (n0)))]) hx hb dX8_setLetters_10 rfl hl (by decide) rfl (fun ls hl => ?_)
    refine lv_iconst (v := iI (1 : Int)) hx hb dX8_setLetters_11 (by decide) ?_
    refine lv_istore_n (lv' := [(3, .int (iI ((1 : Int)))), (2, .int (iI ((0 : Int)))), (0, .ref (h)), (1, .int (iI (n0)))]) hx hb dX8_setLetters_12 rfl hl (by decide) rfl (fun ls hl => ?_)
    refine lv_iconst (v := iI (0 : Int)) hx hb dX8_setLetters_13 (by decide) ?_
    refine lv_istore (lv' := [(4, .int (iI ((0 : Int)))), (3, .int (iI ((1 : Int)))), (2, .int (iI ((0 : Int)))), (0, .ref (h)), (1, .int (iI (n0)))]) hx hb dX8_setLetters_14 hl (by decide) rfl (fun ls hl => ?_)
    exact (L (30)) (sU (x) 2 (max (n0) ((1 : Int)))) ((0 : Int)) ((1 : Int)) ((0 : Int)) (by omega) (by omega) (by omega) (by omega) (by omega) (by omega) (by show max n0 1 = n0; omega) (by omega) hres _ _ ls hP hD hS (lv_sub hl [3, 4, 2, 1, 0] rfl)
  exact key _ _ hP hS
theorem F_z_setLetters_sfr : ∀ n : Nat, (∀ (y : MS) (v0 : Int) (v1 : Int) (v2 : Int) (v3 : Int), same [2, 3] [0, 1] y (F_z_setLetters_s n 0 y v0 v1 v2 v3).2) := by
  intro n
  induction n with
  | zero => exact fun y _ _ _ _ => sm_rf _ _ _
  | succ n ih =>
    skip
    · intro y n0 b q k
      rw [F_z_setLetters_e0]
      by_cases hc : ((20 : Int)) < (k)
      · rw [if_pos hc]
        exact (sm_rf _ _ _)
      · rw [if_neg hc]
        by_cases hc : ((10000 : Int)) < ((b) + (q))
        · rw [if_pos hc]
          exact (sm_rf _ _ _)
        · rw [if_neg hc]
          exact sm_tr ((sm_a (by decide) (sm_s (by decide) (sm_a (by decide) (sm_a (by decide) (sm_rf _ _ _)))))) (ih (aU (sU (aU (aU (y) 0 (k).toNat (q)) 1 (k).toNat (b)) 3 (k)) 1 ((k) + ((1 : Int))).toNat ((b) + (q))) (n0) ((b) + (q)) ((q) * ((y).1 2)) ((k) + (1 : Int)))
theorem F_z_setLetters_fr (x : MS) (n0 : Int) : same [2, 3] [0, 1] x (F_z_setLetters (x) (n0)).2 := by
  unfold F_z_setLetters
  exact sm_tr ((sm_s (by decide) (sm_rf _ _ _))) ((F_z_setLetters_sfr 30) (sU (x) 2 (max (n0) ((1 : Int)))) (n0) ((0 : Int)) ((1 : Int)) ((0 : Int)))
