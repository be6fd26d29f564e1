-- deps: 30
def F_w_wipe (x : KS) (w0 : Nat) : Int × KS := (0, kS (x) (w0) 1 ((0 : Int)))
set_option maxHeartbeats 4000000 in
set_option maxRecDepth 100000 in
/-- LikeWords$Word.wipe -/
theorem c_w_wipe (l : Launch) (dC : Nat → ClassId) (dI : Nat → Nat → Nat) (ad : Nat → Nat) (cI cJ cZ cR : ClassId) (M wl sz : Nat) (x : KS) (w0 : Nat) (hM : 87 ≤ M) (hw_w0 : kW w0 = true) (hc_w0 : w0 + 1 < M)  : Met l yX10_wipe wsX10_wipe ({ frames := 0, cells := 0, slots := 0, locals := 0 }) (kPc dC dI ad cI cJ cZ cR M wl sz x [.ref (ad w0)]) (va_Qv (fun u : KS => u = (F_w_wipe x w0).2) (kAt dC dI ad cI cJ cZ cR M wl (va_A (kWd cI cJ cZ cR wl ad M (x)) sz)) (va_A (kWd cI cJ cZ cR wl ad M (x)) sz)) 0 0 (va_A (kWd cI cJ cZ cR wl ad M (x)) sz) := by
  refine Met.ofW (cc := cX10_wipe) (maxL := 1) (ret := none) (by decide) rfl ?_
  intro p e s m args below meth c s₁ B hml hv
  obtain ⟨rfl, hsz, hP, hK, hD0⟩ := hv
  have hx := B.exec
  have hb := B.bytes
  have hr := B.returns
  have hts := atoms_spec (ws := wsX10_wipe) B.pre
  have hown : s.vm.findClass RX10 = some m.cls := findClass_of_methodNamed B.named
  have hlocks := B.notSynchronized
  have hinX10 : ∀ w ∈ u_ws RX10 TX10 2, w ∈ wsX10_wipe := by decide +kernel
  subst hsz
  have hD := hD0.self (sz := s.heap.size)
  generalize hAe : va_A (kWd cI cJ cZ cR wl ad M (x)) s.heap.size = A at hD ⊢
  have hA : ∀ q : Nat, s.heap.size ≤ q → A q := fun q h => by rw [← hAe]; exact Or.inr h
  have hS : va_S A s.heap s.heap [] := va_S.rf
  have hl := lv_entry ([.ref (ad w0)]) (n := 1) (Nat.le_of_ble_eq_true rfl)
  rw [lg_entry_eq]
  generalize (lg_sl ([.ref (ad w0)]) ++ List.replicate (1 - (lg_sl ([.ref (ad w0)])).length) Slot.unset).toArray = ls at hl ⊢
  have hl : lv_has ls 1 [(0, .ref (ad (w0)))] := hl
  have key : ∀ (H : Heap) (locs : List Loc), va_P (dC, dI) vwCl (kWd cI cJ cZ cR wl ad M (x)) H → va_S A s.heap H locs → W p l e (headSpec wsX10_wipe ({ frames := 0, cells := 0, slots := 0, locals := 0 })).room s m ([.ref (ad w0)] : List Value).toArray below meth c H locs 0 0 (MQ below (va_Qv (fun u : KS => u = (F_w_wipe x w0).2) (kAt dC dI ad cI cJ cZ cR M wl A) A) ([.ref (ad w0)] : List Value).toArray s 0 0 A) (F0 m 0 ls []) := by
    intro H locs hP hS
    have hres : (0, kS (x) (w0) 1 ((0 : Int))) = F_w_wipe x w0 := rfl
    refine lv_aload_n hx hb dX10_wipe_0 rfl (lv_at hl 0 rfl) ?_
    refine lv_iconst (v := iI (0 : Int)) hx hb dX10_wipe_1 (by decide) ?_
    refine va_put (D := (dC, dI)) (ci := 10) (v := .int (iI ((0 : Int)))) (ty := .int) (C := RX10) (T := TX10) (N := 2) hx hb hts hinX10 tyX10 tyX10_ok nmX10 hown hK hP hD hS (w0) (kgw hw_w0 (by omega)) rfl 1 (by decide) (hts (.fieldLink RX10 21 "LikeWords$Word" "used" "I") (by decide +kernel)) (fun _ h9 => h9) rfl (by decide +kernel) rfl rfl (Nat.le_of_ble_eq_true rfl) dX10_wipe_2 (fun H locs hP hD hS => ?_)
    rw [ksw hw_w0] at hP hD
    exact W.vret hx hb hr (fun t ht hW => ⟨⟨kS (x) (w0) 1 ((0 : Int)), rfl, (by have h9 := congrArg (fun z : Int × KS => z.2) hres; exact h9), by rw [ht]; exact hP, va_K.moved hW.alike hK, hD⟩, hS.F ht⟩) hS.2.2 dX10_wipe_5
  exact key _ _ hP hS
theorem F_w_wipe_fr (x : KS) (w0 : Nat) : ksame [(w0, 1)] [] x (F_w_wipe x w0).2 := by
  unfold F_w_wipe
  exact (km_s (List.Mem.head _) (km_rf _ _ _))
def F_w_push (x : KS) (w0 : Nat) (v : Int) : Int × KS := (if ((x).1 (w0) 1) < (0) then ((0 : Int), x) else (if ((x).1 (w0) 1) < (((kL (w0) : Nat) : Int)) then ((1 : Int), kA (kS (x) (w0) 1 (((x).1 (w0) 1) + ((1 : Int)))) ((w0) + 1) ((x).1 (w0) 1).toNat (v)) else ((0 : Int), x)))
set_option maxHeartbeats 4000000 in
set_option maxRecDepth 100000 in
/-- LikeWords$Word.push -/
theorem c_w_push (l : Launch) (dC : Nat → ClassId) (dI : Nat → Nat → Nat) (ad : Nat → Nat) (cI cJ cZ cR : ClassId) (M wl sz : Nat) (x : KS) (w0 : Nat) (v : Int) (hM : 87 ≤ M) (hw_w0 : kW w0 = true) (hc_w0 : w0 + 1 < M) (u0 : 0 ≤ x.1 w0 1) (u1 : x.1 w0 1 ≤ kL w0) : Met l yX10_push wsX10_push ({ frames := 0, cells := 0, slots := 0, locals := 0 }) (kPc dC dI ad cI cJ cZ cR M wl sz x [.ref (ad w0), .int (iI v)]) (va_Qi (fun (r : Int32) (u : KS) => r = iI (F_w_push x w0 v).1 ∧ u = (F_w_push x w0 v).2) (kAt dC dI ad cI cJ cZ cR M wl (va_A (kWd cI cJ cZ cR wl ad M (x)) sz)) (va_A (kWd cI cJ cZ cR wl ad M (x)) sz)) 0 0 (va_A (kWd cI cJ cZ cR wl ad M (x)) sz) := by
  refine Met.ofW (cc := cX10_push) (maxL := 2) (ret := (some .boolean)) (by decide) rfl ?_
  intro p e s m args below meth c s₁ B hml hv
  obtain ⟨rfl, hsz, hP, hK, hD0⟩ := hv
  have hx := B.exec
  have hb := B.bytes
  have hr := B.returns
  have hts := atoms_spec (ws := wsX10_push) B.pre
  have hown : s.vm.findClass RX10 = some m.cls := findClass_of_methodNamed B.named
  have hlocks := B.notSynchronized
  have hinX10 : ∀ w ∈ u_ws RX10 TX10 2, w ∈ wsX10_push := by decide +kernel
  subst hsz
  have hD := hD0.self (sz := s.heap.size)
  generalize hAe : va_A (kWd cI cJ cZ cR wl ad M (x)) s.heap.size = A at hD ⊢
  have hA : ∀ q : Nat, s.heap.size ≤ q → A q := fun q h => by rw [← hAe]; exact Or.inr h
  have hS : va_S A s.heap s.heap [] := va_S.rf
  have hl := lv_entry ([.ref (ad w0), .int (iI v)]) (n := 2) (Nat.le_of_ble_eq_true rfl)
  rw [lg_entry_eq]
  generalize (lg_sl ([.ref (ad w0), .int (iI v)]) ++ List.replicate (2 - (lg_sl ([.ref (ad w0), .int (iI v)])).length) Slot.unset).toArray = ls at hl ⊢
  have hl : lv_has ls 2 [(0, .ref (ad (w0))), (1, .int (iI (v)))] := hl
  have k60 := kL_le w0
  have key : ∀ (H : Heap) (locs : List Loc), va_P (dC, dI) vwCl (kWd cI cJ cZ cR wl ad M (x)) H → va_S A s.heap H locs → W p l e (headSpec wsX10_push ({ frames := 0, cells := 0, slots := 0, locals := 0 })).room s m ([.ref (ad w0), .int (iI v)] : List Value).toArray below meth c H locs 0 0 (MQ below (va_Qi (fun (r : Int32) (u : KS) => r = iI (F_w_push x w0 v).1 ∧ u = (F_w_push x w0 v).2) (kAt dC dI ad cI cJ cZ cR M wl A) A) ([.ref (ad w0), .int (iI v)] : List Value).toArray s 0 0 A) (F0 m 0 ls []) := by
    intro H locs hP hS
    have hres : (if ((x).1 (w0) 1) < (0) then ((0 : Int), x) else (if ((x).1 (w0) 1) < (((kL (w0) : Nat) : Int)) then ((1 : Int), kA (kS (x) (w0) 1 (((x).1 (w0) 1) + ((1 : Int)))) ((w0) + 1) ((x).1 (w0) 1).toNat (v)) else ((0 : Int), x))) = F_w_push x w0 v := rfl
    refine lv_aload_n hx hb dX10_push_0 rfl (lv_at hl 0 rfl) ?_
    refine va_get (D := (dC, dI)) (ci := 10) (v := .int (iI ((x).1 (w0) 1))) (C := RX10) (T := TX10) (N := 2) hx hb hts hinX10 hown hK hP (w0) (kgw hw_w0 (by omega)) rfl 1 (by decide) (hts (.fieldLink RX10 21 "LikeWords$Word" "used" "I") (by decide +kernel)) (fun _ h9 => h9) rfl dX10_push_1 ?_
    refine wi_if_lt (tgt := 19) hx hb (by first | assumption | (unfold iR; omega) | exact kR01 (by assumption)) dX10_push_4 (by decide) (fun c_4 => ?_) (fun c_4 => ?_)
    · skip
      rw [if_pos c_4] at hres
      refine lv_iconst (v := iI (0 : Int)) hx hb dX10_push_19 (by decide) ?_
      exact W.zret (v := iI ((0 : Int))) hx hb hr (kz _ (by first | assumption | omega)) (fun t ht hW => ⟨⟨iI ((0 : Int)), x, rfl, ⟨(by have h9 := congrArg (fun z : Int × KS => iI z.1) hres; exact h9), (by have h9 := congrArg (fun z : Int × KS => z.2) hres; exact h9)⟩, by rw [ht]; exact hP, va_K.moved hW.alike hK, hD⟩, hS.F ht⟩) hS.2.2 dX10_push_20
    · skip
      rw [if_neg c_4] at hres
      refine lv_aload_n hx hb dX10_push_7 rfl (lv_at hl 0 rfl) ?_
      refine va_get (D := (dC, dI)) (ci := 10) (v := .int (iI ((x).1 (w0) 1))) (C := RX10) (T := TX10) (N := 2) hx hb hts hinX10 hown hK hP (w0) (kgw hw_w0 (by omega)) rfl 1 (by decide) (hts (.fieldLink RX10 21 "LikeWords$Word" "used" "I") (by decide +kernel)) (fun _ h9 => h9) rfl dX10_push_8 ?_
      refine lv_aload_n hx hb dX10_push_11 rfl (lv_at hl 0 rfl) ?_
      refine va_get (D := (dC, dI)) (ci := 10) (v := .ref (ad ((w0) + 1))) (C := RX10) (T := TX10) (N := 2) hx hb hts hinX10 hown hK hP (w0) (kgw hw_w0 (by omega)) rfl 0 (by decide) (hts (.fieldLink RX10 15 "LikeWords$Word" "signs" "[I") (by decide +kernel)) (fun _ h9 => h9) rfl dX10_push_12 ?_
      refine va_alen (v := iI ((kL (w0) : Nat) : Int)) hx hb hK hP ((w0) + 1) 0 (kgi (kI_row hw_w0) (by omega) rfl) rfl (by show Int32.ofNat (kLen _) = _; rw [kLen_row hw_w0]; exact iI_nat _) dX10_push_15 ?_
      refine wi_icmp_lt (tgt := 21) hx hb (by first | assumption | (unfold iR; omega) | exact kR01 (by assumption)) (kL_R _) dX10_push_16 (by decide) (fun c_16 => ?_) (fun c_16 => ?_)
      · skip
        rw [if_pos c_16] at hres
        refine lv_aload_n hx hb dX10_push_21 rfl (lv_at hl 0 rfl) ?_
        refine va_get (D := (dC, dI)) (ci := 10) (v := .ref (ad ((w0) + 1))) (C := RX10) (T := TX10) (N := 2) hx hb hts hinX10 hown hK hP (w0) (kgw hw_w0 (by omega)) rfl 0 (by decide) (hts (.fieldLink RX10 15 "LikeWords$Word" "signs" "[I") (by decide +kernel)) (fun _ h9 => h9) rfl dX10_push_22 ?_
        refine lv_aload_n hx hb dX10_push_25 rfl (lv_at hl 0 rfl) ?_
        refine lv_dup hx hb dX10_push_26 rfl ?_
        refine va_get (D := (dC, dI)) (ci := 10) (v := .int (iI ((x).1 (w0) 1))) (C := RX10) (T := TX10) (N := 2) hx hb hts hinX10 hown hK hP (w0) (kgw hw_w0 (by omega)) rfl 1 (by decide) (hts (.fieldLink RX10 21 "LikeWords$Word" "used" "I") (by decide +kernel)) (fun _ h9 => h9) rfl dX10_push_27 ?_
        refine lv_dup_x1 hx hb dX10_push_30 rfl rfl ?_
        refine lv_iconst (v := iI (1 : Int)) hx hb dX10_push_31 (by decide) ?_
        refine wi_iadd hx hb dX10_push_32 ?_
        refine va_put (D := (dC, dI)) (ci := 10) (v := .int (iI (((x).1 (w0) 1) + ((1 : Int))))) (ty := .int) (C := RX10) (T := TX10) (N := 2) hx hb hts hinX10 tyX10 tyX10_ok nmX10 hown hK hP hD hS (w0) (kgw hw_w0 (by omega)) rfl 1 (by decide) (hts (.fieldLink RX10 21 "LikeWords$Word" "used" "I") (by decide +kernel)) (fun _ h9 => h9) rfl (by decide +kernel) rfl rfl (Nat.le_of_ble_eq_true rfl) dX10_push_33 (fun H locs hP hD hS => ?_)
        rw [ksw hw_w0] at hP hD
        refine lv_iload_n hx hb dX10_push_36 rfl (lv_at hl 1 rfl) ?_
        refine wi_iast (f := (kS (x) (w0) 1 (((x).1 (w0) 1) + ((1 : Int)))).2 ((w0) + 1)) (n := kLen ((w0) + 1)) hx hb hK hP hD hS ((w0) + 1) 0 (kgi (kI_row hw_w0) (by omega) rfl) rfl (i := (x).1 (w0) 1) (x := v) (by omega) (by rw [kLen_row hw_w0]; exact (by omega)) (kLen_lt _) dX10_push_37 (fun H locs hP hD hS => ?_)
        rw [ksi (kI_row hw_w0)] at hP hD
        refine lv_iconst (v := iI (1 : Int)) hx hb dX10_push_38 (by decide) ?_
        exact W.zret (v := iI ((1 : Int))) hx hb hr (kz _ (by first | assumption | omega)) (fun t ht hW => ⟨⟨iI ((1 : Int)), kA (kS (x) (w0) 1 (((x).1 (w0) 1) + ((1 : Int)))) ((w0) + 1) ((x).1 (w0) 1).toNat (v), rfl, ⟨(by have h9 := congrArg (fun z : Int × KS => iI z.1) hres; exact h9), (by have h9 := congrArg (fun z : Int × KS => z.2) hres; exact h9)⟩, by rw [ht]; exact hP, va_K.moved hW.alike hK, hD⟩, hS.F ht⟩) hS.2.2 dX10_push_39
      · skip
        rw [if_neg c_16] at hres
        refine lv_iconst (v := iI (0 : Int)) hx hb dX10_push_19 (by decide) ?_
        exact W.zret (v := iI ((0 : Int))) hx hb hr (kz _ (by first | assumption | omega)) (fun t ht hW => ⟨⟨iI ((0 : Int)), x, rfl, ⟨(by have h9 := congrArg (fun z : Int × KS => iI z.1) hres; exact h9), (by have h9 := congrArg (fun z : Int × KS => z.2) hres; exact h9)⟩, by rw [ht]; exact hP, va_K.moved hW.alike hK, hD⟩, hS.F ht⟩) hS.2.2 dX10_push_20
  exact key _ _ hP hS
theorem F_w_push_fr (x : KS) (w0 : Nat) (v : Int) : ksame [(w0, 1)] [(w0) + 1] x (F_w_push x w0 v).2 := by
  unfold F_w_push
  by_cases hc : ((x).1 (w0) 1) < (0)
  · rw [if_pos hc]
    exact (km_rf _ _ _)
  · rw [if_neg hc]
    by_cases hc : ((x).1 (w0) 1) < (((kL (w0) : Nat) : Int))
    · rw [if_pos hc]
      exact (km_a (List.Mem.head _) (km_s (List.Mem.head _) (km_rf _ _ _)))
    · rw [if_neg hc]
      exact (km_rf _ _ _)
def F_w_dropLast (x : KS) (w0 : Nat) : Int × KS := (if ((x).1 (w0) 1) ≤ (0) then ((-9 : Int), x) else (if ((x).1 (w0) 1) ≤ (((kL (w0) : Nat) : Int)) then (((x).2 ((w0) + 1)) (((x).1 (w0) 1) - ((1 : Int))).toNat, kS (x) (w0) 1 (((x).1 (w0) 1) - ((1 : Int)))) else ((-9 : Int), x)))
set_option maxHeartbeats 4000000 in
set_option maxRecDepth 100000 in
/-- LikeWords$Word.dropLast -/
theorem c_w_dropLast (l : Launch) (dC : Nat → ClassId) (dI : Nat → Nat → Nat) (ad : Nat → Nat) (cI cJ cZ cR : ClassId) (M wl sz : Nat) (x : KS) (w0 : Nat) (hM : 87 ≤ M) (hw_w0 : kW w0 = true) (hc_w0 : w0 + 1 < M) (u0 : 0 ≤ x.1 w0 1) (u1 : x.1 w0 1 ≤ kL w0) : Met l yX10_dropLast wsX10_dropLast ({ frames := 0, cells := 0, slots := 0, locals := 0 }) (kPc dC dI ad cI cJ cZ cR M wl sz x [.ref (ad w0)]) (va_Qi (fun (r : Int32) (u : KS) => r = iI (F_w_dropLast x w0).1 ∧ u = (F_w_dropLast x w0).2) (kAt dC dI ad cI cJ cZ cR M wl (va_A (kWd cI cJ cZ cR wl ad M (x)) sz)) (va_A (kWd cI cJ cZ cR wl ad M (x)) sz)) 0 0 (va_A (kWd cI cJ cZ cR wl ad M (x)) sz) := by
  refine Met.ofW (cc := cX10_dropLast) (maxL := 1) (ret := (some .int)) (by decide) rfl ?_
  intro p e s m args below meth c s₁ B hml hv
  obtain ⟨rfl, hsz, hP, hK, hD0⟩ := hv
  have hx := B.exec
  have hb := B.bytes
  have hr := B.returns
  have hts := atoms_spec (ws := wsX10_dropLast) B.pre
  have hown : s.vm.findClass RX10 = some m.cls := findClass_of_methodNamed B.named
  have hlocks := B.notSynchronized
  have hinX10 : ∀ w ∈ u_ws RX10 TX10 2, w ∈ wsX10_dropLast := by decide +kernel
  subst hsz
  have hD := hD0.self (sz := s.heap.size)
  generalize hAe : va_A (kWd cI cJ cZ cR wl ad M (x)) s.heap.size = A at hD ⊢
  have hA : ∀ q : Nat, s.heap.size ≤ q → A q := fun q h => by rw [← hAe]; exact Or.inr h
  have hS : va_S A s.heap s.heap [] := va_S.rf
  have hl := lv_entry ([.ref (ad w0)]) (n := 1) (Nat.le_of_ble_eq_true rfl)
  rw [lg_entry_eq]
  generalize (lg_sl ([.ref (ad w0)]) ++ List.replicate (1 - (lg_sl ([.ref (ad w0)])).length) Slot.unset).toArray = ls at hl ⊢
  have hl : lv_has ls 1 [(0, .ref (ad (w0)))] := hl
  have k60 := kL_le w0
  have key : ∀ (H : Heap) (locs : List Loc), va_P (dC, dI) vwCl (kWd cI cJ cZ cR wl ad M (x)) H → va_S A s.heap H locs → W p l e (headSpec wsX10_dropLast ({ frames := 0, cells := 0, slots := 0, locals := 0 })).room s m ([.ref (ad w0)] : List Value).toArray below meth c H locs 0 0 (MQ below (va_Qi (fun (r : Int32) (u : KS) => r = iI (F_w_dropLast x w0).1 ∧ u = (F_w_dropLast x w0).2) (kAt dC dI ad cI cJ cZ cR M wl A) A) ([.ref (ad w0)] : List Value).toArray s 0 0 A) (F0 m 0 ls []) := by
    intro H locs hP hS
    have hres : (if ((x).1 (w0) 1) ≤ (0) then ((-9 : Int), x) else (if ((x).1 (w0) 1) ≤ (((kL (w0) : Nat) : Int)) then (((x).2 ((w0) + 1)) (((x).1 (w0) 1) - ((1 : Int))).toNat, kS (x) (w0) 1 (((x).1 (w0) 1) - ((1 : Int)))) else ((-9 : Int), x))) = F_w_dropLast x w0 := rfl
    refine lv_aload_n hx hb dX10_dropLast_0 rfl (lv_at hl 0 rfl) ?_
    refine va_get (D := (dC, dI)) (ci := 10) (v := .int (iI ((x).1 (w0) 1))) (C := RX10) (T := TX10) (N := 2) hx hb hts hinX10 hown hK hP (w0) (kgw hw_w0 (by omega)) rfl 1 (by decide) (hts (.fieldLink RX10 21 "LikeWords$Word" "used" "I") (by decide +kernel)) (fun _ h9 => h9) rfl dX10_dropLast_1 ?_
    refine wi_if_le (tgt := 19) hx hb (by first | assumption | (unfold iR; omega) | exact kR01 (by assumption)) dX10_dropLast_4 (by decide) (fun c_4 => ?_) (fun c_4 => ?_)
    · skip
      rw [if_pos c_4] at hres
      refine lv_bipush (v := iI (-9 : Int)) hx hb dX10_dropLast_19 (by decide) ?_
      exact W.iret (v := iI ((-9 : Int))) hx hb hr (fun t ht hW => ⟨⟨iI ((-9 : Int)), x, rfl, ⟨(by have h9 := congrArg (fun z : Int × KS => iI z.1) hres; exact h9), (by have h9 := congrArg (fun z : Int × KS => z.2) hres; exact h9)⟩, by rw [ht]; exact hP, va_K.moved hW.alike hK, hD⟩, hS.F ht⟩) hS.2.2 dX10_dropLast_21
    · skip
      rw [if_neg c_4] at hres
      refine lv_aload_n hx hb dX10_dropLast_7 rfl (lv_at hl 0 rfl) ?_
      refine va_get (D := (dC, dI)) (ci := 10) (v := .int (iI ((x).1 (w0) 1))) (C := RX10) (T := TX10) (N := 2) hx hb hts hinX10 hown hK hP (w0) (kgw hw_w0 (by omega)) rfl 1 (by decide) (hts (.fieldLink RX10 21 "LikeWords$Word" "used" "I") (by decide +kernel)) (fun _ h9 => h9) rfl dX10_dropLast_8 ?_
      refine lv_aload_n hx hb dX10_dropLast_11 rfl (lv_at hl 0 rfl) ?_
      refine va_get (D := (dC, dI)) (ci := 10) (v := .ref (ad ((w0) + 1))) (C := RX10) (T := TX10) (N := 2) hx hb hts hinX10 hown hK hP (w0) (kgw hw_w0 (by omega)) rfl 0 (by decide) (hts (.fieldLink RX10 15 "LikeWords$Word" "signs" "[I") (by decide +kernel)) (fun _ h9 => h9) rfl dX10_dropLast_12 ?_
      refine va_alen (v := iI ((kL (w0) : Nat) : Int)) hx hb hK hP ((w0) + 1) 0 (kgi (kI_row hw_w0) (by omega) rfl) rfl (by show Int32.ofNat (kLen _) = _; rw [kLen_row hw_w0]; exact iI_nat _) dX10_dropLast_15 ?_
      refine wi_icmp_le (tgt := 22) hx hb (by first | assumption | (unfold iR; omega) | exact kR01 (by assumption)) (kL_R _) dX10_dropLast_16 (by decide) (fun c_16 => ?_) (fun c_16 => ?_)
      · skip
        rw [if_pos c_16] at hres
        refine lv_aload_n hx hb dX10_dropLast_22 rfl (lv_at hl 0 rfl) ?_
        refine lv_dup hx hb dX10_dropLast_23 rfl ?_
        refine va_get (D := (dC, dI)) (ci := 10) (v := .int (iI ((x).1 (w0) 1))) (C := RX10) (T := TX10) (N := 2) hx hb hts hinX10 hown hK hP (w0) (kgw hw_w0 (by omega)) rfl 1 (by decide) (hts (.fieldLink RX10 21 "LikeWords$Word" "used" "I") (by decide +kernel)) (fun _ h9 => h9) rfl dX10_dropLast_24 ?_
        refine lv_iconst (v := iI (1 : Int)) hx hb dX10_dropLast_27 (by decide) ?_
        refine wi_isub hx hb dX10_dropLast_28 ?_
        refine va_put (D := (dC, dI)) (ci := 10) (v := .int (iI (((x).1 (w0) 1) - ((1 : Int))))) (ty := .int) (C := RX10) (T := TX10) (N := 2) hx hb hts hinX10 tyX10 tyX10_ok nmX10 hown hK hP hD hS (w0) (kgw hw_w0 (by omega)) rfl 1 (by decide) (hts (.fieldLink RX10 21 "LikeWords$Word" "used" "I") (by decide +kernel)) (fun _ h9 => h9) rfl (by decide +kernel) rfl rfl (Nat.le_of_ble_eq_true rfl) dX10_dropLast_29 (fun H locs hP hD hS => ?_)
        rw [ksw hw_w0] at hP hD
        refine lv_aload_n hx hb dX10_dropLast_32 rfl (lv_at hl 0 rfl) ?_
        refine va_get (D := (dC, dI)) (ci := 10) (v := .ref (ad ((w0) + 1))) (C := RX10) (T := TX10) (N := 2) hx hb hts hinX10 hown hK hP (w0) (kgw hw_w0 (by omega)) rfl 0 (by decide) (hts (.fieldLink RX10 15 "LikeWords$Word" "signs" "[I") (by decide +kernel)) (fun _ h9 => h9) rfl dX10_dropLast_33 ?_
        refine lv_aload_n hx hb dX10_dropLast_36 rfl (lv_at hl 0 rfl) ?_
        refine va_get (D := (dC, dI)) (ci := 10) (v := .int (iI (((x).1 (w0) 1) - ((1 : Int))))) (C := RX10) (T := TX10) (N := 2) hx hb hts hinX10 hown hK hP (w0) (kgw hw_w0 (by omega)) rfl 1 (by decide) (hts (.fieldLink RX10 21 "LikeWords$Word" "used" "I") (by decide +kernel)) (fun _ h9 => h9) (congrArg (fun z9 => some (Value.int (iI z9))) (kS_s)) dX10_dropLast_37 ?_
        refine wi_iald (f := (x).2 ((w0) + 1)) (n := kLen ((w0) + 1)) hx hb hK hP ((w0) + 1) 0 (kgi (kI_row hw_w0) (by omega) rfl) rfl (i := ((x).1 (w0) 1) - ((1 : Int))) (by omega) (by rw [kLen_row hw_w0]; exact (by omega)) (kLen_lt _) dX10_dropLast_40 ?_
        exact W.iret (v := iI (((x).2 ((w0) + 1)) (((x).1 (w0) 1) - ((1 : Int))).toNat)) hx hb hr (fun t ht hW => ⟨⟨iI (((x).2 ((w0) + 1)) (((x).1 (w0) 1) - ((1 : Int))).toNat), kS (x) (w0) 1 (((x).1 (w0) 1) - ((1 : Int))), rfl, ⟨(by have h9 := congrArg (fun z : Int × KS => iI z.1) hres; exact h9), (by have h9 := congrArg (fun z : Int × KS => z.2) hres; exact h9)⟩, by rw [ht]; exact hP, va_K.moved hW.alike hK, hD⟩, hS.F ht⟩) hS.2.2 dX10_dropLast_41
      · skip
        rw [if_neg c_16] at hres
        refine lv_bipush (v := iI (-9 : Int)) hx hb dX10_dropLast_19 (by decide) ?_
        exact W.iret (v := iI ((-9 : Int))) hx hb hr (fun t ht hW => ⟨⟨iI ((-9 : Int)), x, rfl, ⟨(by have h9 := congrArg (fun z : Int × KS => iI z.1) hres; exact h9), (by have h9 := congrArg (fun z : Int × KS => z.2) hres; exact h9)⟩, by rw [ht]; exact hP, va_K.moved hW.alike hK, hD⟩, hS.F ht⟩) hS.2.2 dX10_dropLast_21
  exact key _ _ hP hS
theorem F_w_dropLast_fr (x : KS) (w0 : Nat) : ksame [(w0, 1)] [] x (F_w_dropLast x w0).2 := by
  unfold F_w_dropLast
  by_cases hc : ((x).1 (w0) 1) ≤ (0)
  · rw [if_pos hc]
    exact (km_rf _ _ _)
  · rw [if_neg hc]
    by_cases hc : ((x).1 (w0) 1) ≤ (((kL (w0) : Nat) : Int))
    · rw [if_pos hc]
      exact (km_s (List.Mem.head _) (km_rf _ _ _))
    · rw [if_neg hc]
      exact (km_rf _ _ _)
def F_w_pick (x : KS) (w0 : Nat) (i : Int) : Int × KS := (if (i) < (0) then ((-9 : Int), x) else (if ((x).1 (w0) 1) ≤ (i) then ((-9 : Int), x) else (if (((kL (w0) : Nat) : Int)) ≤ (i) then ((-9 : Int), x) else (((x).2 ((w0) + 1)) (i).toNat, x))))
set_option maxHeartbeats 4000000 in
set_option maxRecDepth 100000 in
/-- LikeWords$Word.pick -/
theorem c_w_pick (l : Launch) (dC : Nat → ClassId) (dI : Nat → Nat → Nat) (ad : Nat → Nat) (cI cJ cZ cR : ClassId) (M wl sz : Nat) (x : KS) (w0 : Nat) (i : Int) (hM : 87 ≤ M) (hw_w0 : kW w0 = true) (hc_w0 : w0 + 1 < M) (ri : iR i) (u0 : 0 ≤ x.1 w0 1) (u1 : x.1 w0 1 ≤ kL w0) : Met l yX10_pick wsX10_pick ({ frames := 0, cells := 0, slots := 0, locals := 0 }) (kPc dC dI ad cI cJ cZ cR M wl sz x [.ref (ad w0), .int (iI i)]) (va_Qi (fun (r : Int32) (u : KS) => r = iI (F_w_pick x w0 i).1 ∧ u = (F_w_pick x w0 i).2) (kAt dC dI ad cI cJ cZ cR M wl (va_A (kWd cI cJ cZ cR wl ad M (x)) sz)) (va_A (kWd cI cJ cZ cR wl ad M (x)) sz)) 0 0 (va_A (kWd cI cJ cZ cR wl ad M (x)) sz) := by
  refine Met.ofW (cc := cX10_pick) (maxL := 2) (ret := (some .int)) (by decide) rfl ?_
  intro p e s m args below meth c s₁ B hml hv
  obtain ⟨rfl, hsz, hP, hK, hD0⟩ := hv
  have hx := B.exec
  have hb := B.bytes
  have hr := B.returns
  have hts := atoms_spec (ws := wsX10_pick) B.pre
  have hown : s.vm.findClass RX10 = some m.cls := findClass_of_methodNamed B.named
  have hlocks := B.notSynchronized
  have hinX10 : ∀ w ∈ u_ws RX10 TX10 2, w ∈ wsX10_pick := by decide +kernel
  subst hsz
  have hD := hD0.self (sz := s.heap.size)
  generalize hAe : va_A (kWd cI cJ cZ cR wl ad M (x)) s.heap.size = A at hD ⊢
  have hA : ∀ q : Nat, s.heap.size ≤ q → A q := fun q h => by rw [← hAe]; exact Or.inr h
  have hS : va_S A s.heap s.heap [] := va_S.rf
  have hl := lv_entry ([.ref (ad w0), .int (iI i)]) (n := 2) (Nat.le_of_ble_eq_true rfl)
  rw [lg_entry_eq]
  generalize (lg_sl ([.ref (ad w0), .int (iI i)]) ++ List.replicate (2 - (lg_sl ([.ref (ad w0), .int (iI i)])).length) Slot.unset).toArray = ls at hl ⊢
  have hl : lv_has ls 2 [(0, .ref (ad (w0))), (1, .int (iI (i)))] := hl
  have k60 := kL_le w0
  have key : ∀ (H : Heap) (locs : List Loc), va_P (dC, dI) vwCl (kWd cI cJ cZ cR wl ad M (x)) H → va_S A s.heap H locs → W p l e (headSpec wsX10_pick ({ frames := 0, cells := 0, slots := 0, locals := 0 })).room s m ([.ref (ad w0), .int (iI i)] : List Value).toArray below meth c H locs 0 0 (MQ below (va_Qi (fun (r : Int32) (u : KS) => r = iI (F_w_pick x w0 i).1 ∧ u = (F_w_pick x w0 i).2) (kAt dC dI ad cI cJ cZ cR M wl A) A) ([.ref (ad w0), .int (iI i)] : List Value).toArray s 0 0 A) (F0 m 0 ls []) := by
    intro H locs hP hS
    have hres : (if (i) < (0) then ((-9 : Int), x) else (if ((x).1 (w0) 1) ≤ (i) then ((-9 : Int), x) else (if (((kL (w0) : Nat) : Int)) ≤ (i) then ((-9 : Int), x) else (((x).2 ((w0) + 1)) (i).toNat, x)))) = F_w_pick x w0 i := rfl
    refine lv_iload_n hx hb dX10_pick_0 rfl (lv_at hl 1 rfl) ?_
    refine wi_if_lt (tgt := 30) hx hb (by first | assumption | (unfold iR; omega) | exact kR01 (by assumption)) dX10_pick_1 (by decide) (fun c_1 => ?_) (fun c_1 => ?_)
    · skip
      rw [if_pos c_1] at hres
      refine lv_bipush (v := iI (-9 : Int)) hx hb dX10_pick_30 (by decide) ?_
      exact W.iret (v := iI ((-9 : Int))) hx hb hr (fun t ht hW => ⟨⟨iI ((-9 : Int)), x, rfl, ⟨(by have h9 := congrArg (fun z : Int × KS => iI z.1) hres; exact h9), (by have h9 := congrArg (fun z : Int × KS => z.2) hres; exact h9)⟩, by rw [ht]; exact hP, va_K.moved hW.alike hK, hD⟩, hS.F ht⟩) hS.2.2 dX10_pick_32
    · skip
      rw [if_neg c_1] at hres
      refine lv_iload_n hx hb dX10_pick_4 rfl (lv_at hl 1 rfl) ?_
      refine lv_aload_n hx hb dX10_pick_5 rfl (lv_at hl 0 rfl) ?_
      refine va_get (D := (dC, dI)) (ci := 10) (v := .int (iI ((x).1 (w0) 1))) (C := RX10) (T := TX10) (N := 2) hx hb hts hinX10 hown hK hP (w0) (kgw hw_w0 (by omega)) rfl 1 (by decide) (hts (.fieldLink RX10 21 "LikeWords$Word" "used" "I") (by decide +kernel)) (fun _ h9 => h9) rfl dX10_pick_6 ?_
      refine wi_icmp_ge (tgt := 30) hx hb (by first | assumption | (unfold iR; omega) | exact kR01 (by assumption)) (by first | assumption | (unfold iR; omega) | exact kR01 (by assumption)) dX10_pick_9 (by decide) (fun c_9 => ?_) (fun c_9 => ?_)
      · skip
        rw [if_pos c_9] at hres
        refine lv_bipush (v := iI (-9 : Int)) hx hb dX10_pick_30 (by decide) ?_
        exact W.iret (v := iI ((-9 : Int))) hx hb hr (fun t ht hW => ⟨⟨iI ((-9 : Int)), x, rfl, ⟨(by have h9 := congrArg (fun z : Int × KS => iI z.1) hres; exact h9), (by have h9 := congrArg (fun z : Int × KS => z.2) hres; exact h9)⟩, by rw [ht]; exact hP, va_K.moved hW.alike hK, hD⟩, hS.F ht⟩) hS.2.2 dX10_pick_32
      · skip
        rw [if_neg c_9] at hres
        refine lv_iload_n hx hb dX10_pick_12 rfl (lv_at hl 1 rfl) ?_
        refine lv_aload_n hx hb dX10_pick_13 rfl (lv_at hl 0 rfl) ?_
        refine va_get (D := (dC, dI)) (ci := 10) (v := .ref (ad ((w0) + 1))) (C := RX10) (T := TX10) (N := 2) hx hb hts hinX10 hown hK hP (w0) (kgw hw_w0 (by omega)) rfl 0 (by decide) (hts (.fieldLink RX10 15 "LikeWords$Word" "signs" "[I") (by decide +kernel)) (fun _ h9 => h9) rfl dX10_pick_14 ?_
        refine va_alen (v := iI ((kL (w0) : Nat) : Int)) hx hb hK hP ((w0) + 1) 0 (kgi (kI_row hw_w0) (by omega) rfl) rfl (by show Int32.ofNat (kLen _) = _; rw [kLen_row hw_w0]; exact iI_nat _) dX10_pick_17 ?_
        refine wi_icmp_ge (tgt := 30) hx hb (by first | assumption | (unfold iR; omega) | exact kR01 (by assumption)) (kL_R _) dX10_pick_18 (by decide) (fun c_18 => ?_) (fun c_18 => ?_)
        · skip
          rw [if_pos c_18] at hres
          refine lv_bipush (v := iI (-9 : Int)) hx hb dX10_pick_30 (by decide) ?_
          exact W.iret (v := iI ((-9 : Int))) hx hb hr (fun t ht hW => ⟨⟨iI ((-9 : Int)), x, rfl, ⟨(by have h9 := congrArg (fun z : Int × KS => iI z.1) hres; exact h9), (by have h9 := congrArg (fun z : Int × KS => z.2) hres; exact h9)⟩, by rw [ht]; exact hP, va_K.moved hW.alike hK, hD⟩, hS.F ht⟩) hS.2.2 dX10_pick_32
        · skip
          rw [if_neg c_18] at hres
          refine lv_aload_n hx hb dX10_pick_21 rfl (lv_at hl 0 rfl) ?_
          refine va_get (D := (dC, dI)) (ci := 10) (v := .ref (ad ((w0) + 1))) (C := RX10) (T := TX10) (N := 2) hx hb hts hinX10 hown hK hP (w0) (kgw hw_w0 (by omega)) rfl 0 (by decide) (hts (.fieldLink RX10 15 "LikeWords$Word" "signs" "[I") (by decide +kernel)) (fun _ h9 => h9) rfl dX10_pick_22 ?_
          refine lv_iload_n hx hb dX10_pick_25 rfl (lv_at hl 1 rfl) ?_
          refine wi_iald (f := (x).2 ((w0) + 1)) (n := kLen ((w0) + 1)) hx hb hK hP ((w0) + 1) 0 (kgi (kI_row hw_w0) (by omega) rfl) rfl (i := i) (by omega) (by rw [kLen_row hw_w0]; exact (by omega)) (kLen_lt _) dX10_pick_26 ?_
          refine lv_goto (tgt := 32) hx hb dX10_pick_27 (by decide) ?_
          exact W.iret (v := iI (((x).2 ((w0) + 1)) (i).toNat)) hx hb hr (fun t ht hW => ⟨⟨iI (((x).2 ((w0) + 1)) (i).toNat), x, rfl, ⟨(by have h9 := congrArg (fun z : Int × KS => iI z.1) hres; exact h9), (by have h9 := congrArg (fun z : Int × KS => z.2) hres; exact h9)⟩, by rw [ht]; exact hP, va_K.moved hW.alike hK, hD⟩, hS.F ht⟩) hS.2.2 dX10_pick_32
  exact key _ _ hP hS
theorem F_w_pick_fr (x : KS) (w0 : Nat) (i : Int) : ksame [] [] x (F_w_pick x w0 i).2 := by
  unfold F_w_pick
  by_cases hc : (i) < (0)
  · rw [if_pos hc]
    exact (km_rf _ _ _)
  · rw [if_neg hc]
    by_cases hc : ((x).1 (w0) 1) ≤ (i)
    · rw [if_pos hc]
      exact (km_rf _ _ _)
    · rw [if_neg hc]
      by_cases hc : (((kL (w0) : Nat) : Int)) ≤ (i)
      · rw [if_pos hc]
        exact (km_rf _ _ _)
      · rw [if_neg hc]
        exact (km_rf _ _ _)
theorem F_w_pick_2 (x : KS) (w0 : Nat) (i : Int) : (F_w_pick x w0 i).2 = x := km_nil (F_w_pick_fr x w0 i)
