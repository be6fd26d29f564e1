-- deps: 30
def F_w_wipe (x : KS) (w0 : Nat) : Int × KS := (0, kS (x) (w0) 1 ((0 : Int)))
set_option maxHeartbeats 4000000 in
set_option maxRecDepth 100000 in
/-- LikeWords$Word, wipe -/
theorem c_w_wipe (l : Launch) (dC : Nat → ClassId) (dI : Nat → Nat → Nat) (ad : Nat → Nat) (cI cJ cZ cR : ClassId) (M wl sz : Nat) (x : KS) (w0 : Nat) (hM : 87 ≤ M) (hw_w0 : kW w0 = true) (hc_w0 : w0 + 1 < M)  : Met l yX10_wipe wsX10_wipe ({ frames := 0, cells := 0, slots := 0, locals := 0 }) (kPc dC dI ad cI cJ cZ cR M wl sz x [.ref (ad w0)]) (va_Qv (fun u : KS => u = (F_w_wipe x w0).2) (kAt dC dI ad cI cJ cZ cR M wl (va_A (kWd cI cJ cZ cR wl ad M (x)) sz)) (va_A (kWd cI cJ cZ cR wl ad M (x)) sz)) 0 0 (va_A (kWd cI cJ cZ cR wl ad M (x)) sz) := by
  refine Met.ofW (cc := cX10_wipe) (maxL := 1) (ret := none) (by decide) rfl ?_
  intro p e s m args below meth c s₁ B hml hv
  obtain ⟨rfl, hsz, hP, hK, hD0, hNw⟩ := hv
  have hx := B.exec
  have hb := B.bytes
  have hr := B.returns
  have hts := atoms_spec (ws := wsX10_wipe) B.pre
  have hown : s.vm.findClass RX10 = some m.cls := findClass_of_methodNamed B.named
  have hlocks := B.notSynchronized
  have hinX10 : ∀ w ∈ u_ws RX10 TX10 2, w ∈ wsX10_wipe := by decide +kernel
  subst hsz
  have hD := hD0.self (sz := s.heap.size)
  generalize hAe : va_A (kWd cI cJ cZ cR wl ad M (x)) s.heap.size = A at hD ⊢
  have hA : ∀ q : Nat, s.heap.size ≤ q → A q := fun q h => by rw [← hAe]; exact Or.inr h
  have hS : va_S A s.heap s.heap [] := va_S.rf
  have hl := lv_entry ([.ref (ad w0)]) (n := 1) (Nat.le_of_ble_eq_true rfl)
  rw [lg_entry_eq]
  generalize (lg_sl ([.ref (ad w0)]) ++ List.replicate (1 - (lg_sl ([.ref (ad w0)])).length) Slot.unset).toArray = ls at hl ⊢
  have hl : lv_has ls 1 [(0, .ref (ad (w0)))] := hl
  have key : ∀ (H : Heap) (locs : List Loc), va_P (dC, dI) vwCl (kWd cI cJ cZ cR wl ad M (x)) H → va_S A s.heap H locs → W p l e (headSpec wsX10_wipe ({ frames := 0, cells := 0, slots := 0, locals := 0 })).room s m ([.ref (ad w0)] : List Value).toArray below meth c H locs 0 0 (MQ below (va_Qv (fun u : KS => u = (F_w_wipe x w0).2) (kAt dC dI ad cI cJ cZ cR M wl A) A) ([.ref (ad w0)] : List Value).toArray s 0 0 A) (F0 m 0 ls []) := by
    intro H locs hP hS
    have hres : (0, kS (x) (w0) 1 ((0 : Int))) = F_w_wipe x w0 := rfl
    refine lv_aload_n hx hb dX10_wipe_0 rfl (lv_at hl 0 rfl) ?_
    refine lv_iconst (v := iI (0 : Int)) hx hb dX10_wipe_1 (by decide) ?_
    refine va_put (D := (dC, dI)) (ci := 10) (v := .int (iI ((0 : Int)))) (ty := .int) (C := RX10) (T := TX10) (N := 2) hx hb hts hinX10 tyX10 tyX10_ok nmX10 hown hK hP hD hS (w0) (kgw hw_w0 (by omega)) rfl 1 (by decide) (hts (.fieldLink RX10 21 "LikeWords$Word" "used" "I") (by decide +kernel)) (fun _ h9 => h9) rfl (by decide +kernel) rfl rfl (Nat.le_of_ble_eq_true rfl) dX10_wipe_2 (fun H locs hP hD hS => ?_)
    rw [ksw hw_w0] at hP hD
    exact W.vret hx hb hr (fun t ht hW => ⟨⟨kS (x) (w0) 1 ((0 : Int)), rfl, (by have h9 := congrArg (fun z : Int × KS => z.2) hres; exact h9), by rw [ht]; exact hP, va_K.moved hW.alike hK, hD⟩, hS.F ht⟩) hS.2.2 dX10_wipe_5
  exact key _ _ hP hS
theorem F_w_wipe_fr (x : KS) (w0 : Nat) : ksame [(w0, 1)] [] x (F_w_wipe x w0).2 := by
  unfold F_w_wipe
  exact (km_s (List.Mem.head _) (km_rf _ _ _))
theorem F_w_wipe_q (x : KS) (w0 : Nat) (hw_w0 : kW w0 = true) : kq [] [] x (F_w_wipe x w0).2 := kq_of (F_w_wipe_fr x w0) (kq_c (Or.inl hw_w0) kq_m) kq_n
def F_w_push (x : KS) (w0 : Nat) (v : Int) : Int × KS := (if ((x).1 (w0) 1) < (0) then ((0 : Int), x) else (if ((x).1 (w0) 1) < (((kL (w0) : Nat) : Int)) then ((1 : Int), kA (kS (x) (w0) 1 (((x).1 (w0) 1) + ((1 : Int)))) ((w0) + 1) ((x).1 (w0) 1).toNat (v)) else ((0 : Int), x)))
set_option maxHeartbeats 4000000 in
set_option maxRecDepth 100000 in
/-- LikeWords$Word, push -/
theorem c_w_push (l : Launch) (dC : Nat → ClassId) (dI : Nat → Nat → Nat) (ad : Nat → Nat) (cI cJ cZ cR : ClassId) (M wl sz : Nat) (x : KS) (w0 : Nat) (v : Int) (hM : 87 ≤ M) (hw_w0 : kW w0 = true) (hc_w0 : w0 + 1 < M) (u0 : 0 ≤ x.1 w0 1) (u1 : x.1 w0 1 ≤ kL w0) : Met l yX10_push wsX10_push ({ frames := 0, cells := 0, slots := 0, locals := 0 }) (kPc dC dI ad cI cJ cZ cR M wl sz x [.ref (ad w0), .int (iI v)]) (va_Qi (fun (r : Int32) (u : KS) => r = iI (F_w_push x w0 v).1 ∧ u = (F_w_push x w0 v).2) (kAt dC dI ad cI cJ cZ cR M wl (va_A (kWd cI cJ cZ cR wl ad M (x)) sz)) (va_A (kWd cI cJ cZ cR wl ad M (x)) sz)) 0 0 (va_A (kWd cI cJ cZ cR wl ad M (x)) sz) := by
  refine Met.ofW (cc := cX10_push) (maxL := 2) (ret := (some .boolean)) (by decide) rfl ?_
  intro p e s m args below meth c s₁ B hml hv
  obtain ⟨rfl, hsz, hP, hK, hD0, hNw⟩ := hv
  have hx := B.exec
  have hb := B.bytes
  have hr := B.returns
  have hts := atoms_spec (ws := wsX10_push) B.pre
  have hown : s.vm.findClass RX10 = some m.cls := findClass_of_methodNamed B.named
  have hlocks := B.notSynchronized
  have hinX10 : ∀ w ∈ u_ws RX10 TX10 2, w ∈ wsX10_push := by decide +kernel
  subst hsz
  have hD := hD0.self (sz := s.heap.size)
  generalize hAe : va_A (kWd cI cJ cZ cR wl ad M (x)) s.heap.size = A at hD ⊢
  have hA : ∀ q : Nat, s.heap.size ≤ q → A q := fun q h => by rw [← hAe]; exact Or.inr h
  have hS : va_S A s.heap s.heap [] := va_S.rf
  have hl := lv_entry ([.ref (ad w0), .int (iI v)]) (n := 2) (Nat.le_of_ble_eq_true rfl)
  rw [lg_entry_eq]
  generalize (lg_sl ([.ref (ad w0), .int (iI v)]) ++ List.replicate (2 - (lg_sl ([.ref (ad w0), .int (iI v)])).length) Slot.unset).toArray = ls at hl ⊢
  have hl : lv_has ls 2 [(0, .ref (ad (w0))), (1, .int (iI (v)))] := hl
  have k60 := kL_le w0
  have key : ∀ (H : Heap) (locs : List Loc), va_P (dC, dI) vwCl (kWd cI cJ cZ cR wl ad M (x)) H → va_S A s.heap H locs → W p l e (headSpec wsX10_push ({ frames := 0, cells := 0, slots := 0, locals := 0 })).room s m ([.ref (ad w0), .int (iI v)] : List Value).toArray below meth c H locs 0 0 (MQ below (va_Qi (fun (r : Int32) (u : KS) => r = iI (F_w_push x w0 v).1 ∧ u = (F_w_push x w0 v).2) (kAt dC dI ad cI cJ cZ cR M wl A) A) ([.ref (ad w0), .int (iI v)] : List Value).toArray s 0 0 A) (F0 m 0 ls []) := by
    intro H locs hP hS
    have hres : (if ((x).1 (w0) 1) < (0) then ((0 : Int), x) else (if ((x).1 (w0) 1) < (((kL (w0) : Nat) : Int)) then ((1 : Int), kA (kS (x) (w0) 1 (((x).1 (w0) 1) + ((1 : Int)))) ((w0) + 1) ((x).1 (w0) 1).toNat (v)) else ((0 : Int), x))) = F_w_push x w0 v := rfl
    refine lv_aload_n hx hb dX10_push_0 rfl (lv_at hl 0 rfl) ?_
    refine va_get (D := (dC, dI)) (ci := 10) (v := .int (iI ((x).1 (w0) 1))) (C := RX10) (T := TX10) (N := 2) hx hb hts hinX10 hown hK hP (w0) (kgw hw_w0 (by omega)) rfl 1 (by decide) (hts (.fieldLink RX10 21 "LikeWords$Word" "used" "I") (by decide +kernel)) (fun _ h9 => h9) rfl dX10_push_1 ?_
    refine wi_if_lt (tgt := 19) hx hb (by first | assumption | (unfold iR; omega) | exact kR01 (by assumption)) dX10_push_4 (by decide) (fun c_4 => ?_) (fun c_4 => ?_)
    · skip
      rw [if_pos c_4] at hres
      refine lv_iconst (v := iI (0 : Int)) hx hb dX10_push_19 (by decide) ?_
      exact W.zret (v := iI ((0 : Int))) hx hb hr (kz _ (by first | assumption | omega)) (fun t ht hW => ⟨⟨iI ((0 : Int)), x, rfl, ⟨(by have h9 := congrArg (fun z : Int × KS => iI z.1) hres; exact h9), (by have h9 := congrArg (fun z : Int × KS => z.2) hres; exact h9)⟩, by rw [ht]; exact hP, va_K.moved hW.alike hK, hD⟩, hS.F ht⟩) hS.2.2 dX10_push_20
    · skip
      rw [if_neg c_4] at hres
      refine lv_aload_n hx hb dX10_push_7 rfl (lv_at hl 0 rfl) ?_
      refine va_get (D := (dC, dI)) (ci := 10) (v := .int (iI ((x).1 (w0) 1))) (C := RX10) (T := TX10) (N := 2) hx hb hts hinX10 hown hK hP (w0) (kgw hw_w0 (by omega)) rfl 1 (by decide) (hts (.fieldLink RX10 21 "LikeWords$Word" "used" "I") (by decide +kernel)) (fun _ h9 => h9) rfl dX10_push_8 ?_
      refine lv_aload_n hx hb dX10_push_11 rfl (lv_at hl 0 rfl) ?_
      refine va_get (D := (dC, dI)) (ci := 10) (v := .ref (ad ((w0) + 1))) (C := RX10) (T := TX10) (N := 2) hx hb hts hinX10 hown hK hP (w0) (kgw hw_w0 (by omega)) rfl 0 (by decide) (hts (.fieldLink RX10 15 "LikeWords$Word" "signs" "[I") (by decide +kernel)) (fun _ h9 => h9) rfl dX10_push_12 ?_
      refine va_alen (v := iI (((kL (w0) : Nat) : Int))) hx hb hK hP ((w0) + 1) 0 (kgi (kI_row hw_w0) (by omega) rfl) rfl (by show Int32.ofNat (kLen _) = _; rw [kLen_row hw_w0]; exact iI_nat _) dX10_push_15 ?_
      refine wi_icmp_lt (tgt := 21) hx hb (by first | assumption | (unfold iR; omega) | exact kR01 (by assumption)) (kL_R _) dX10_push_16 (by decide) (fun c_16 => ?_) (fun c_16 => ?_)
      · skip
        rw [if_pos c_16] at hres
        refine lv_aload_n hx hb dX10_push_21 rfl (lv_at hl 0 rfl) ?_
        refine va_get (D := (dC, dI)) (ci := 10) (v := .ref (ad ((w0) + 1))) (C := RX10) (T := TX10) (N := 2) hx hb hts hinX10 hown hK hP (w0) (kgw hw_w0 (by omega)) rfl 0 (by decide) (hts (.fieldLink RX10 15 "LikeWords$Word" "signs" "[I") (by decide +kernel)) (fun _ h9 => h9) rfl dX10_push_22 ?_
        refine lv_aload_n hx hb dX10_push_25 rfl (lv_at hl 0 rfl) ?_
        refine lv_dup hx hb dX10_push_26 rfl ?_
        refine va_get (D := (dC, dI)) (ci := 10) (v := .int (iI ((x).1 (w0) 1))) (C := RX10) (T := TX10) (N := 2) hx hb hts hinX10 hown hK hP (w0) (kgw hw_w0 (by omega)) rfl 1 (by decide) (hts (.fieldLink RX10 21 "LikeWords$Word" "used" "I") (by decide +kernel)) (fun _ h9 => h9) rfl dX10_push_27 ?_
        refine lv_dup_x1 hx hb dX10_push_30 rfl rfl ?_
        refine lv_iconst (v := iI (1 : Int)) hx hb dX10_push_31 (by decide) ?_
        refine wi_iadd hx hb dX10_push_32 ?_
        refine va_put (D := (dC, dI)) (ci := 10) (v := .int (iI (((x).1 (w0) 1) + ((1 : Int))))) (ty := .int) (C := RX10) (T := TX10) (N := 2) hx hb hts hinX10 tyX10 tyX10_ok nmX10 hown hK hP hD hS (w0) (kgw hw_w0 (by omega)) rfl 1 (by decide) (hts (.fieldLink RX10 21 "LikeWords$Word" "used" "I") (by decide +kernel)) (fun _ h9 => h9) rfl (by decide +kernel) rfl rfl (Nat.le_of_ble_eq_true rfl) dX10_push_33 (fun H locs hP hD hS => ?_)
        rw [ksw hw_w0] at hP hD
        refine lv_iload_n hx hb dX10_push_36 rfl (lv_at hl 1 rfl) ?_
        refine wi_iast (f := (kS (x) (w0) 1 (((x).1 (w0) 1) + ((1 : Int)))).2 ((w0) + 1)) (n := kLen ((w0) + 1)) hx hb hK hP hD hS ((w0) + 1) 0 (kgi (kI_row hw_w0) (by omega) rfl) rfl (i := (x).1 (w0) 1) (x := v) (by omega) (by rw [kLen_row hw_w0]; exact (by omega)) (kLen_lt _) dX10_push_37 (fun H locs hP hD hS => ?_)
        rw [ksi (kI_row hw_w0)] at hP hD
        refine lv_iconst (v := iI (1 : Int)) hx hb dX10_push_38 (by decide) ?_
        exact W.zret (v := iI ((1 : Int))) hx hb hr (kz _ (by first | assumption | omega)) (fun t ht hW => ⟨⟨iI ((1 : Int)), kA (kS (x) (w0) 1 (((x).1 (w0) 1) + ((1 : Int)))) ((w0) + 1) ((x).1 (w0) 1).toNat (v), rfl, ⟨(by have h9 := congrArg (fun z : Int × KS => iI z.1) hres; exact h9), (by have h9 := congrArg (fun z : Int × KS => z.2) hres; exact h9)⟩, by rw [ht]; exact hP, va_K.moved hW.alike hK, hD⟩, hS.F ht⟩) hS.2.2 dX10_push_39
      · skip
        rw [if_neg c_16] at hres
        refine lv_iconst (v := iI (0 : Int)) hx hb dX10_push_19 (by decide) ?_
        exact W.zret (v := iI ((0 : Int))) hx hb hr (kz _ (by first | assumption | omega)) (fun t ht hW => ⟨⟨iI ((0 : Int)), x, rfl, ⟨(by have h9 := congrArg (fun z : Int × KS => iI z.1) hres; exact h9), (by have h9 := congrArg (fun z : Int × KS => z.2) hres; exact h9)⟩, by rw [ht]; exact hP, va_K.moved hW.alike hK, hD⟩, hS.F ht⟩) hS.2.2 dX10_push_20
  exact key _ _ hP hS
theorem F_w_push_fr (x : KS) (w0 : Nat) (v : Int) : ksame [(w0, 1)] [(w0) + 1] x (F_w_push x w0 v).2 := by
  unfold F_w_push
  by_cases hc : ((x).1 (w0) 1) < (0)
  · rw [if_pos hc]
    exact (km_rf _ _ _)
  · rw [if_neg hc]
    by_cases hc : ((x).1 (w0) 1) < (((kL (w0) : Nat) : Int))
    · rw [if_pos hc]
      exact (km_a (List.Mem.head _) (km_s (List.Mem.head _) (km_rf _ _ _)))
    · rw [if_neg hc]
      exact (km_rf _ _ _)
theorem F_w_push_q (x : KS) (w0 : Nat) (v : Int) (hw_w0 : kW w0 = true) : kq [] [] x (F_w_push x w0 v).2 := kq_of (F_w_push_fr x w0 v) (kq_c (Or.inl hw_w0) kq_m) (kq_c (Or.inl hw_w0) kq_n)
def F_w_dropLast (x : KS) (w0 : Nat) : Int × KS := (if ((x).1 (w0) 1) ≤ (0) then ((-9 : Int), x) else (if ((x).1 (w0) 1) ≤ (((kL (w0) : Nat) : Int)) then (((x).2 ((w0) + 1)) (((x).1 (w0) 1) - ((1 : Int))).toNat, kS (x) (w0) 1 (((x).1 (w0) 1) - ((1 : Int)))) else ((-9 : Int), x)))
set_option maxHeartbeats 4000000 in
set_option maxRecDepth 100000 in
/-- LikeWords$Word, dropLast -/
theorem c_w_dropLast (l : Launch) (dC : Nat → ClassId) (dI : Nat → Nat → Nat) (ad : Nat → Nat) (cI cJ cZ cR : ClassId) (M wl sz : Nat) (x : KS) (w0 : Nat) (hM : 87 ≤ M) (hw_w0 : kW w0 = true) (hc_w0 : w0 + 1 < M) (u0 : 0 ≤ x.1 w0 1) (u1 : x.1 w0 1 ≤ kL w0) : Met l yX10_dropLast wsX10_dropLast ({ frames := 0, cells := 0, slots := 0, locals := 0 }) (kPc dC dI ad cI cJ cZ cR M wl sz x [.ref (ad w0)]) (va_Qi (fun (r : Int32) (u : KS) => r = iI (F_w_dropLast x w0).1 ∧ u = (F_w_dropLast x w0).2) (kAt dC dI ad cI cJ cZ cR M wl (va_A (kWd cI cJ cZ cR wl ad M (x)) sz)) (va_A (kWd cI cJ cZ cR wl ad M (x)) sz)) 0 0 (va_A (kWd cI cJ cZ cR wl ad M (x)) sz) := by
  refine Met.ofW (cc := cX10_dropLast) (maxL := 1) (ret := (some .int)) (by decide) rfl ?_
  intro p e s m args below meth c s₁ B hml hv
  obtain ⟨rfl, hsz, hP, hK, hD0, hNw⟩ := hv
  have hx := B.exec
  have hb := B.bytes
  have hr := B.returns
  have hts := atoms_spec (ws := wsX10_dropLast) B.pre
  have hown : s.vm.findClass RX10 = some m.cls := findClass_of_methodNamed B.named
  have hlocks := B.notSynchronized
  have hinX10 : ∀ w ∈ u_ws RX10 TX10 2, w ∈ wsX10_dropLast := by decide +kernel
  subst hsz
  have hD := hD0.self (sz := s.heap.size)
  generalize hAe : va_A (kWd cI cJ cZ cR wl ad M (x)) s.heap.size = A at hD ⊢
  have hA : ∀ q : Nat, s.heap.size ≤ q → A q := fun q h => by rw [← hAe]; exact Or.inr h
  have hS : va_S A s.heap s.heap [] := va_S.rf
  have hl := lv_entry ([.ref (ad w0)]) (n := 1) (Nat.le_of_ble_eq_true rfl)
  rw [lg_entry_eq]
  generalize (lg_sl ([.ref (ad w0)]) ++ List.replicate (1 - (lg_sl ([.ref (ad w0)])).length) Slot.unset).toArray = ls at hl ⊢
  have hl : lv_has ls 1 [(0, .ref (ad (w0)))] := hl
  have k60 := kL_le w0
  have key : ∀ (H : Heap) (locs : List Loc), va_P (dC, dI) vwCl (kWd cI cJ cZ cR wl ad M (x)) H → va_S A s.heap H locs → W p l e (headSpec wsX10_dropLast ({ frames := 0, cells := 0, slots := 0, locals := 0 })).room s m ([.ref (ad w0)] : List Value).toArray below meth c H locs 0 0 (MQ below (va_Qi (fun (r : Int32) (u : KS) => r = iI (F_w_dropLast x w0).1 ∧ u = (F_w_dropLast x w0).2) (kAt dC dI ad cI cJ cZ cR M wl A) A) ([.ref (ad w0)] : List Value).toArray s 0 0 A) (F0 m 0 ls []) := by
    intro H locs hP hS
    have hres : (if ((x).1 (w0) 1) ≤ (0) then ((-9 : Int), x) else (if ((x).1 (w0) 1) ≤ (((kL (w0) : Nat) : Int)) then (((x).2 ((w0) + 1)) (((x).1 (w0) 1) - ((1 : Int))).toNat, kS (x) (w0) 1 (((x).1 (w0) 1) - ((1 : Int)))) else ((-9 : Int), x))) = F_w_dropLast x w0 := rfl
    refine lv_aload_n hx hb dX10_dropLast_0 rfl (lv_at hl 0 rfl) ?_
    refine va_get (D := (dC, dI)) (ci := 10) (v := .int (iI ((x).1 (w0) 1))) (C := RX10) (T := TX10) (N := 2) hx hb hts hinX10 hown hK hP (w0) (kgw hw_w0 (by omega)) rfl 1 (by decide) (hts (.fieldLink RX10 21 "LikeWords$Word" "used" "I") (by decide +kernel)) (fun _ h9 => h9) rfl dX10_dropLast_1 ?_
    refine wi_if_le (tgt := 19) hx hb (by first | assumption | (unfold iR; omega) | exact kR01 (by assumption)) dX10_dropLast_4 (by decide) (fun c_4 => ?_) (fun c_4 => ?_)
    · skip
      rw [if_pos c_4] at hres
      refine lv_bipush (v := iI (-9 : Int)) hx hb dX10_dropLast_19 (by decide) ?_
      exact W.iret (v := iI ((-9 : Int))) hx hb hr (fun t ht hW => ⟨⟨iI ((-9 : Int)), x, rfl, ⟨(by have h9 := congrArg (fun z : Int × KS => iI z.1) hres; exact h9), (by have h9 := congrArg (fun z : Int × KS => z.2) hres; exact h9)⟩, by rw [ht]; exact hP, va_K.moved hW.alike hK, hD⟩, hS.F ht⟩) hS.2.2 dX10_dropLast_21
    · skip
      rw [if_neg c_4] at hres
      refine lv_aload_n hx hb dX10_dropLast_7 rfl (lv_at hl 0 rfl) ?_
      refine va_get (D := (dC, dI)) (ci := 10) (v := .int (iI ((x).1 (w0) 1))) (C := RX10) (T := TX10) (N := 2) hx hb hts hinX10 hown hK hP (w0) (kgw hw_w0 (by omega)) rfl 1 (by decide) (hts (.fieldLink RX10 21 "LikeWords$Word" "used" "I") (by decide +kernel)) (fun _ h9 => h9) rfl dX10_dropLast_8 ?_
      refine lv_aload_n hx hb dX10_dropLast_11 rfl (lv_at hl 0 rfl) ?_
      refine va_get (D := (dC, dI)) (ci := 10) (v := .ref (ad ((w0) + 1))) (C := RX10) (T := TX10) (N := 2) hx hb hts hinX10 hown hK hP (w0) (kgw hw_w0 (by omega)) rfl 0 (by decide) (hts (.fieldLink RX10 15 "LikeWords$Word" "signs" "[I") (by decide +kernel)) (fun _ h9 => h9) rfl dX10_dropLast_12 ?_
      refine va_alen (v := iI (((kL (w0) : Nat) : Int))) hx hb hK hP ((w0) + 1) 0 (kgi (kI_row hw_w0) (by omega) rfl) rfl (by show Int32.ofNat (kLen _) = _; rw [kLen_row hw_w0]; exact iI_nat _) dX10_dropLast_15 ?_
      refine wi_icmp_le (tgt := 22) hx hb (by first | assumption | (unfold iR; omega) | exact kR01 (by assumption)) (kL_R _) dX10_dropLast_16 (by decide) (fun c_16 => ?_) (fun c_16 => ?_)
      · skip
        rw [if_pos c_16] at hres
        refine lv_aload_n hx hb dX10_dropLast_22 rfl (lv_at hl 0 rfl) ?_
        refine lv_dup hx hb dX10_dropLast_23 rfl ?_
        refine va_get (D := (dC, dI)) (ci := 10) (v := .int (iI ((x).1 (w0) 1))) (C := RX10) (T := TX10) (N := 2) hx hb hts hinX10 hown hK hP (w0) (kgw hw_w0 (by omega)) rfl 1 (by decide) (hts (.fieldLink RX10 21 "LikeWords$Word" "used" "I") (by decide +kernel)) (fun _ h9 => h9) rfl dX10_dropLast_24 ?_
        refine lv_iconst (v := iI (1 : Int)) hx hb dX10_dropLast_27 (by decide) ?_
        refine wi_isub hx hb dX10_dropLast_28 ?_
        refine va_put (D := (dC, dI)) (ci := 10) (v := .int (iI (((x).1 (w0) 1) - ((1 : Int))))) (ty := .int) (C := RX10) (T := TX10) (N := 2) hx hb hts hinX10 tyX10 tyX10_ok nmX10 hown hK hP hD hS (w0) (kgw hw_w0 (by omega)) rfl 1 (by decide) (hts (.fieldLink RX10 21 "LikeWords$Word" "used" "I") (by decide +kernel)) (fun _ h9 => h9) rfl (by decide +kernel) rfl rfl (Nat.le_of_ble_eq_true rfl) dX10_dropLast_29 (fun H locs hP hD hS => ?_)
        rw [ksw hw_w0] at hP hD
        refine lv_aload_n hx hb dX10_dropLast_32 rfl (lv_at hl 0 rfl) ?_
        refine va_get (D := (dC, dI)) (ci := 10) (v := .ref (ad ((w0) + 1))) (C := RX10) (T := TX10) (N := 2) hx hb hts hinX10 hown hK hP (w0) (kgw hw_w0 (by omega)) rfl 0 (by decide) (hts (.fieldLink RX10 15 "LikeWords$Word" "signs" "[I") (by decide +kernel)) (fun _ h9 => h9) rfl dX10_dropLast_33 ?_
        refine lv_aload_n hx hb dX10_dropLast_36 rfl (lv_at hl 0 rfl) ?_
        refine va_get (D := (dC, dI)) (ci := 10) (v := .int (iI (((x).1 (w0) 1) - ((1 : Int))))) (C := RX10) (T := TX10) (N := 2) hx hb hts hinX10 hown hK hP (w0) (kgw hw_w0 (by omega)) rfl 1 (by decide) (hts (.fieldLink RX10 21 "LikeWords$Word" "used" "I") (by decide +kernel)) (fun _ h9 => h9) (congrArg (fun z9 => some (Value.int (iI z9))) (kS_s)) dX10_dropLast_37 ?_
        refine wi_iald (f := (x).2 ((w0) + 1)) (n := kLen ((w0) + 1)) hx hb hK hP ((w0) + 1) 0 (kgi (kI_row hw_w0) (by omega) rfl) rfl (i := ((x).1 (w0) 1) - ((1 : Int))) (by omega) (by rw [kLen_row hw_w0]; exact (by omega)) (kLen_lt _) dX10_dropLast_40 ?_
        exact W.iret (v := iI (((x).2 ((w0) + 1)) (((x).1 (w0) 1) - ((1 : Int))).toNat)) hx hb hr (fun t ht hW => ⟨⟨iI (((x).2 ((w0) + 1)) (((x).1 (w0) 1) - ((1 : Int))).toNat), kS (x) (w0) 1 (((x).1 (w0) 1) - ((1 : Int))), rfl, ⟨(by have h9 := congrArg (fun z : Int × KS => iI z.1) hres; exact h9), (by have h9 := congrArg (fun z : Int × KS => z.2) hres; exact h9)⟩, by rw [ht]; exact hP, va_K.moved hW.alike hK, hD⟩, hS.F ht⟩) hS.2.2 dX10_dropLast_41
      · skip
        rw [if_neg c_16] at hres
        refine lv_bipush (v := iI (-9 : Int)) hx hb dX10_dropLast_19 (by decide) ?_
        exact W.iret (v := iI ((-9 : Int))) hx hb hr (fun t ht hW => ⟨⟨iI ((-9 : Int)), x, rfl, ⟨(by have h9 := congrArg (fun z : Int × KS => iI z.1) hres; exact h9), (by have h9 := congrArg (fun z : Int × KS => z.2) hres; exact h9)⟩, by rw [ht]; exact hP, va_K.moved hW.alike hK, hD⟩, hS.F ht⟩) hS.2.2 dX10_dropLast_21
  exact key _ _ hP hS
theorem F_w_dropLast_fr (x : KS) (w0 : Nat) : ksame [(w0, 1)] [] x (F_w_dropLast x w0).2 := by
  unfold F_w_dropLast
  by_cases hc : ((x).1 (w0) 1) ≤ (0)
  · rw [if_pos hc]
    exact (km_rf _ _ _)
  · rw [if_neg hc]
    by_cases hc : ((x).1 (w0) 1) ≤ (((kL (w0) : Nat) : Int))
    · rw [if_pos hc]
      exact (km_s (List.Mem.head _) (km_rf _ _ _))
    · rw [if_neg hc]
      exact (km_rf _ _ _)
theorem F_w_dropLast_q (x : KS) (w0 : Nat) (hw_w0 : kW w0 = true) : kq [] [] x (F_w_dropLast x w0).2 := kq_of (F_w_dropLast_fr x w0) (kq_c (Or.inl hw_w0) kq_m) kq_n
def F_w_pick (x : KS) (w0 : Nat) (i : Int) : Int × KS := (if (i) < (0) then ((-9 : Int), x) else (if ((x).1 (w0) 1) ≤ (i) then ((-9 : Int), x) else (if (((kL (w0) : Nat) : Int)) ≤ (i) then ((-9 : Int), x) else (((x).2 ((w0) + 1)) (i).toNat, x))))
set_option maxHeartbeats 4000000 in
set_option maxRecDepth 100000 in
/-- LikeWords$Word, pick -/
theorem c_w_pick (l : Launch) (dC : Nat → ClassId) (dI : Nat → Nat → Nat) (ad : Nat → Nat) (cI cJ cZ cR : ClassId) (M wl sz : Nat) (x : KS) (w0 : Nat) (i : Int) (hM : 87 ≤ M) (hw_w0 : kW w0 = true) (hc_w0 : w0 + 1 < M) (ri : iR i) (u0 : 0 ≤ x.1 w0 1) (u1 : x.1 w0 1 ≤ kL w0) : Met l yX10_pick wsX10_pick ({ frames := 0, cells := 0, slots := 0, locals := 0 }) (kPc dC dI ad cI cJ cZ cR M wl sz x [.ref (ad w0), .int (iI i)]) (va_Qi (fun (r : Int32) (u : KS) => r = iI (F_w_pick x w0 i).1 ∧ u = (F_w_pick x w0 i).2) (kAt dC dI ad cI cJ cZ cR M wl (va_A (kWd cI cJ cZ cR wl ad M (x)) sz)) (va_A (kWd cI cJ cZ cR wl ad M (x)) sz)) 0 0 (va_A (kWd cI cJ cZ cR wl ad M (x)) sz) := by
  refine Met.ofW (cc := cX10_pick) (maxL := 2) (ret := (some .int)) (by decide) rfl ?_
  intro p e s m args below meth c s₁ B hml hv
  obtain ⟨rfl, hsz, hP, hK, hD0, hNw⟩ := hv
  have hx := B.exec
  have hb := B.bytes
  have hr := B.returns
  have hts := atoms_spec (ws := wsX10_pick) B.pre
  have hown : s.vm.findClass RX10 = some m.cls := findClass_of_methodNamed B.named
  have hlocks := B.notSynchronized
  have hinX10 : ∀ w ∈ u_ws RX10 TX10 2, w ∈ wsX10_pick := by decide +kernel
  subst hsz
  have hD := hD0.self (sz := s.heap.size)
  generalize hAe : va_A (kWd cI cJ cZ cR wl ad M (x)) s.heap.size = A at hD ⊢
  have hA : ∀ q : Nat, s.heap.size ≤ q → A q := fun q h => by rw [← hAe]; exact Or.inr h
  have hS : va_S A s.heap s.heap [] := va_S.rf
  have hl := lv_entry ([.ref (ad w0), .int (iI i)]) (n := 2) (Nat.le_of_ble_eq_true rfl)
  rw [lg_entry_eq]
  generalize (lg_sl ([.ref (ad w0), .int (iI i)]) ++ List.replicate (2 - (lg_sl ([.ref (ad w0), .int (iI i)])).length) Slot.unset).toArray = ls at hl ⊢
  have hl : lv_has ls 2 [(0, .ref (ad (w0))), (1, .int (iI (i)))] := hl
  have k60 := kL_le w0
  have key : ∀ (H : Heap) (locs : List Loc), va_P (dC, dI) vwCl (kWd cI cJ cZ cR wl ad M (x)) H → va_S A s.heap H locs → W p l e (headSpec wsX10_pick ({ frames := 0, cells := 0, slots := 0, locals := 0 })).room s m ([.ref (ad w0), .int (iI i)] : List Value).toArray below meth c H locs 0 0 (MQ below (va_Qi (fun (r : Int32) (u : KS) => r = iI (F_w_pick x w0 i).1 ∧ u = (F_w_pick x w0 i).2) (kAt dC dI ad cI cJ cZ cR M wl A) A) ([.ref (ad w0), .int (iI i)] : List Value).toArray s 0 0 A) (F0 m 0 ls []) := by
    intro H locs hP hS
    have hres : (if (i) < (0) then ((-9 : Int), x) else (if ((x).1 (w0) 1) ≤ (i) then ((-9 : Int), x) else (if (((kL (w0) : Nat) : Int)) ≤ (i) then ((-9 : Int), x) else (((x).2 ((w0) + 1)) (i).toNat, x)))) = F_w_pick x w0 i := rfl
    refine lv_iload_n hx hb dX10_pick_0 rfl (lv_at hl 1 rfl) ?_
    refine wi_if_lt (tgt := 30) hx hb (by first | assumption | (unfold iR; omega) | exact kR01 (by assumption)) dX10_pick_1 (by decide) (fun c_1 => ?_) (fun c_1 => ?_)
    · skip
      rw [if_pos c_1] at hres
      refine lv_bipush (v := iI (-9 : Int)) hx hb dX10_pick_30 (by decide) ?_
      exact W.iret (v := iI ((-9 : Int))) hx hb hr (fun t ht hW => ⟨⟨iI ((-9 : Int)), x, rfl, ⟨(by have h9 := congrArg (fun z : Int × KS => iI z.1) hres; exact h9), (by have h9 := congrArg (fun z : Int × KS => z.2) hres; exact h9)⟩, by rw [ht]; exact hP, va_K.moved hW.alike hK, hD⟩, hS.F ht⟩) hS.2.2 dX10_pick_32
    · skip
      rw [if_neg c_1] at hres
      refine lv_iload_n hx hb dX10_pick_4 rfl (lv_at hl 1 rfl) ?_
      refine lv_aload_n hx hb dX10_pick_5 rfl (lv_at hl 0 rfl) ?_
      refine va_get (D := (dC, dI)) (ci := 10) (v := .int (iI ((x).1 (w0) 1))) (C := RX10) (T := TX10) (N := 2) hx hb hts hinX10 hown hK hP (w0) (kgw hw_w0 (by omega)) rfl 1 (by decide) (hts (.fieldLink RX10 21 "LikeWords$Word" "used" "I") (by decide +kernel)) (fun _ h9 => h9) rfl dX10_pick_6 ?_
      refine wi_icmp_ge (tgt := 30) hx hb (by first | assumption | (unfold iR; omega) | exact kR01 (by assumption)) (by first | assumption | (unfold iR; omega) | exact kR01 (by assumption)) dX10_pick_9 (by decide) (fun c_9 => ?_) (fun c_9 => ?_)
      · skip
        rw [if_pos c_9] at hres
        refine lv_bipush (v := iI (-9 : Int)) hx hb dX10_pick_30 (by decide) ?_
        exact W.iret (v := iI ((-9 : Int))) hx hb hr (fun t ht hW => ⟨⟨iI ((-9 : Int)), x, rfl, ⟨(by have h9 := congrArg (fun z : Int × KS => iI z.1) hres; exact h9), (by have h9 := congrArg (fun z : Int × KS => z.2) hres; exact h9)⟩, by rw [ht]; exact hP, va_K.moved hW.alike hK, hD⟩, hS.F ht⟩) hS.2.2 dX10_pick_32
      · skip
        rw [if_neg c_9] at hres
        refine lv_iload_n hx hb dX10_pick_12 rfl (lv_at hl 1 rfl) ?_
        refine lv_aload_n hx hb dX10_pick_13 rfl (lv_at hl 0 rfl) ?_
        refine va_get (D := (dC, dI)) (ci := 10) (v := .ref (ad ((w0) + 1))) (C := RX10) (T := TX10) (N := 2) hx hb hts hinX10 hown hK hP (w0) (kgw hw_w0 (by omega)) rfl 0 (by decide) (hts (.fieldLink RX10 15 "LikeWords$Word" "signs" "[I") (by decide +kernel)) (fun _ h9 => h9) rfl dX10_pick_14 ?_
        refine va_alen (v := iI (((kL (w0) : Nat) : Int))) hx hb hK hP ((w0) + 1) 0 (kgi (kI_row hw_w0) (by omega) rfl) rfl (by show Int32.ofNat (kLen _) = _; rw [kLen_row hw_w0]; exact iI_nat _) dX10_pick_17 ?_
        refine wi_icmp_ge (tgt := 30) hx hb (by first | assumption | (unfold iR; omega) | exact kR01 (by assumption)) (kL_R _) dX10_pick_18 (by decide) (fun c_18 => ?_) (fun c_18 => ?_)
        · skip
          rw [if_pos c_18] at hres
          refine lv_bipush (v := iI (-9 : Int)) hx hb dX10_pick_30 (by decide) ?_
          exact W.iret (v := iI ((-9 : Int))) hx hb hr (fun t ht hW => ⟨⟨iI ((-9 : Int)), x, rfl, ⟨(by have h9 := congrArg (fun z : Int × KS => iI z.1) hres; exact h9), (by have h9 := congrArg (fun z : Int × KS => z.2) hres; exact h9)⟩, by rw [ht]; exact hP, va_K.moved hW.alike hK, hD⟩, hS.F ht⟩) hS.2.2 dX10_pick_32
        · skip
          rw [if_neg c_18] at hres
          refine lv_aload_n hx hb dX10_pick_21 rfl (lv_at hl 0 rfl) ?_
          refine va_get (D := (dC, dI)) (ci := 10) (v := .ref (ad ((w0) + 1))) (C := RX10) (T := TX10) (N := 2) hx hb hts hinX10 hown hK hP (w0) (kgw hw_w0 (by omega)) rfl 0 (by decide) (hts (.fieldLink RX10 15 "LikeWords$Word" "signs" "[I") (by decide +kernel)) (fun _ h9 => h9) rfl dX10_pick_22 ?_
          refine lv_iload_n hx hb dX10_pick_25 rfl (lv_at hl 1 rfl) ?_
          refine wi_iald (f := (x).2 ((w0) + 1)) (n := kLen ((w0) + 1)) hx hb hK hP ((w0) + 1) 0 (kgi (kI_row hw_w0) (by omega) rfl) rfl (i := i) (by omega) (by rw [kLen_row hw_w0]; exact (by omega)) (kLen_lt _) dX10_pick_26 ?_
          refine lv_goto (tgt := 32) hx hb dX10_pick_27 (by decide) ?_
          exact W.iret (v := iI (((x).2 ((w0) + 1)) (i).toNat)) hx hb hr (fun t ht hW => ⟨⟨iI (((x).2 ((w0) + 1)) (i).toNat), x, rfl, ⟨(by have h9 := congrArg (fun z : Int × KS => iI z.1) hres; exact h9), (by have h9 := congrArg (fun z : Int × KS => z.2) hres; exact h9)⟩, by rw [ht]; exact hP, va_K.moved hW.alike hK, hD⟩, hS.F ht⟩) hS.2.2 dX10_pick_32
  exact key _ _ hP hS
theorem F_w_pick_fr (x : KS) (w0 : Nat) (i : Int) : ksame [] [] x (F_w_pick x w0 i).2 := by
  unfold F_w_pick
  by_cases hc : (i) < (0)
  · rw [if_pos hc]
    exact (km_rf _ _ _)
  · rw [if_neg hc]
    by_cases hc : ((x).1 (w0) 1) ≤ (i)
    · rw [if_pos hc]
      exact (km_rf _ _ _)
    · rw [if_neg hc]
      by_cases hc : (((kL (w0) : Nat) : Int)) ≤ (i)
      · rw [if_pos hc]
        exact (km_rf _ _ _)
      · rw [if_neg hc]
        exact (km_rf _ _ _)
theorem F_w_pick_2 (x : KS) (w0 : Nat) (i : Int) : (F_w_pick x w0 i).2 = x := km_nil (F_w_pick_fr x w0 i)
def F_w_take_s (w0 : Nat) (w1 : Nat) : Nat → Nat → KS → Int → Int × KS
  | 0, _, x, _ => (0, x)
  | n + 1, t, x, p0 => match t with
    | 0 => (fun (i : Int) => (if ((x).1 (w0) 1) ≤ (i) then (0, x) else F_w_take_s w0 w1 n 0 (kA (x) ((w0) + 1) (i).toNat (((x).2 ((w1) + 1)) (i).toNat)) ((i) + (1 : Int)))) p0
    | _ => (0, x)
theorem F_w_take_e0 (w0 : Nat) (w1 : Nat) (n : Nat) (x : KS) (i : Int) : F_w_take_s w0 w1 (n + 1) 0 x i = (if ((x).1 (w0) 1) ≤ (i) then (0, x) else F_w_take_s w0 w1 n 0 (kA (x) ((w0) + 1) (i).toNat (((x).2 ((w1) + 1)) (i).toNat)) ((i) + (1 : Int))) := rfl
def F_w_take (x : KS) (w0 : Nat) (w1 : Nat) : Int × KS := F_w_take_s w0 w1 100 0 (kS (x) (w0) 1 (min ((x).1 (w1) 1) (((kL (w0) : Nat) : Int)))) ((0 : Int))
set_option maxHeartbeats 4000000 in
set_option maxRecDepth 100000 in
/-- LikeWords$Word, take -/
theorem c_w_take (l : Launch) (dC : Nat → ClassId) (dI : Nat → Nat → Nat) (ad : Nat → Nat) (cI cJ cZ cR : ClassId) (M wl sz : Nat) (x : KS) (w0 : Nat) (w1 : Nat) (hM : 87 ≤ M) (hw_w0 : kW w0 = true) (hc_w0 : w0 + 1 < M) (hw_w1 : kW w1 = true) (hc_w1 : w1 + 1 < M) (u0 : 0 ≤ x.1 w1 1) (u1 : x.1 w1 1 ≤ kL w1) : Met l yX10_take wsX10_take ({ frames := 1, cells := 0, slots := 0, locals := 21 }) (kPc dC dI ad cI cJ cZ cR M wl sz x [.ref (ad w0), .ref (ad w1)]) (va_Qv (fun u : KS => u = (F_w_take x w0 w1).2) (kAt dC dI ad cI cJ cZ cR M wl (va_A (kWd cI cJ cZ cR wl ad M (x)) sz)) (va_A (kWd cI cJ cZ cR wl ad M (x)) sz)) 0 0 (va_A (kWd cI cJ cZ cR wl ad M (x)) sz) := by
  refine Met.ofW (cc := cX10_take) (maxL := 3) (ret := none) (by decide) rfl ?_
  intro p e s m args below meth c s₁ B hml hv
  obtain ⟨rfl, hsz, hP, hK, hD0, hNw⟩ := hv
  have hx := B.exec
  have hb := B.bytes
  have hr := B.returns
  have hts := atoms_spec (ws := wsX10_take) B.pre
  have hown : s.vm.findClass RX10 = some m.cls := findClass_of_methodNamed B.named
  have hlocks := B.notSynchronized
  have hinX10 : ∀ w ∈ u_ws RX10 TX10 2, w ∈ wsX10_take := by decide +kernel
  subst hsz
  have hD := hD0.self (sz := s.heap.size)
  generalize hAe : va_A (kWd cI cJ cZ cR wl ad M (x)) s.heap.size = A at hD ⊢
  have hA : ∀ q : Nat, s.heap.size ≤ q → A q := fun q h => by rw [← hAe]; exact Or.inr h
  have hS : va_S A s.heap s.heap [] := va_S.rf
  have hl := lv_entry ([.ref (ad w0), .ref (ad w1)]) (n := 3) (Nat.le_of_ble_eq_true rfl)
  rw [lg_entry_eq]
  generalize (lg_sl ([.ref (ad w0), .ref (ad w1)]) ++ List.replicate (3 - (lg_sl ([.ref (ad w0), .ref (ad w1)])).length) Slot.unset).toArray = ls at hl ⊢
  have hl : lv_has ls 3 [(0, .ref (ad (w0))), (1, .ref (ad (w1)))] := hl
  have k60 := kL_le w0
  have k61 := kL_le w1
  have L : ∀ n : Nat, (∀ (y : KS) (i : Int), (0 ≤ i) → (i ≤ y.1 w0 1) → (y.1 w0 1 ≤ kL w0) → (y.1 w0 1 ≤ kL w1) → (y.1 w0 1 - i < n) → F_w_take_s w0 w1 n 0 y i = F_w_take x w0 w1 → ∀ (H : Heap) (locs : List Loc) (ls : Array Slot), va_P (dC, dI) vwCl (kWd cI cJ cZ cR wl ad M (y)) H → va_D A (kWd cI cJ cZ cR wl ad M (y)) → va_S A s.heap H locs → lv_has ls 3 [(0, .ref (ad (w0))), (1, .ref (ad (w1))), (2, .int (iI (i)))] → W p l e (headSpec wsX10_take ({ frames := 1, cells := 0, slots := 0, locals := 21 })).room s m ([.ref (ad w0), .ref (ad w1)] : List Value).toArray below meth c H locs 0 0 (MQ below (va_Qv (fun u : KS => u = (F_w_take x w0 w1).2) (kAt dC dI ad cI cJ cZ cR M wl A) A) ([.ref (ad w0), .ref (ad w1)] : List Value).toArray s 0 0 A) (F0 m 18 ls [])) := by
    intro n
    induction n with
    | zero =>
      skip
      · intro y i i0 i1 y0 y1 fu hres
        exact absurd fu (by omega)
    | succ n ih =>
      skip
      · intro y i i0 i1 y0 y1 fu hres H locs ls hP hD hS hl
        rw [F_w_take_e0] at hres
        refine lv_iload_n hx hb dX10_take_18 rfl (lv_at hl 2 rfl) ?_
        refine lv_aload_n hx hb dX10_take_19 rfl (lv_at hl 0 rfl) ?_
        refine va_get (D := (dC, dI)) (ci := 10) (v := .int (iI ((y).1 (w0) 1))) (C := RX10) (T := TX10) (N := 2) hx hb hts hinX10 hown hK hP (w0) (kgw hw_w0 (by omega)) rfl 1 (by decide) (hts (.fieldLink RX10 21 "LikeWords$Word" "used" "I") (by decide +kernel)) (fun _ h9 => h9) rfl dX10_take_20 ?_
        refine wi_icmp_ge (tgt := 44) hx hb (by first | assumption | (unfold iR; omega) | exact kR01 (by assumption)) (by first | assumption | (unfold iR; omega) | exact kR01 (by assumption)) dX10_take_23 (by decide) (fun c_23 => ?_) (fun c_23 => ?_)
        · skip
          rw [if_pos c_23] at hres
          exact W.vret hx hb hr (fun t ht hW => ⟨⟨y, rfl, (by have h9 := congrArg (fun z : Int × KS => z.2) hres; exact h9), by rw [ht]; exact hP, va_K.moved hW.alike hK, hD⟩, hS.F ht⟩) hS.2.2 dX10_take_44
        · skip
          rw [if_neg c_23] at hres
          refine lv_aload_n hx hb dX10_take_26 rfl (lv_at hl 0 rfl) ?_
          refine va_get (D := (dC, dI)) (ci := 10) (v := .ref (ad ((w0) + 1))) (C := RX10) (T := TX10) (N := 2) hx hb hts hinX10 hown hK hP (w0) (kgw hw_w0 (by omega)) rfl 0 (by decide) (hts (.fieldLink RX10 15 "LikeWords$Word" "signs" "[I") (by decide +kernel)) (fun _ h9 => h9) rfl dX10_take_27 ?_
          refine lv_iload_n hx hb dX10_take_30 rfl (lv_at hl 2 rfl) ?_
          refine lv_aload_n hx hb dX10_take_31 rfl (lv_at hl 1 rfl) ?_
          refine va_get (D := (dC, dI)) (ci := 10) (v := .ref (ad ((w1) + 1))) (C := RX10) (T := TX10) (N := 2) hx hb hts hinX10 hown hK hP (w1) (kgw hw_w1 (by omega)) rfl 0 (by decide) (hts (.fieldLink RX10 15 "LikeWords$Word" "signs" "[I") (by decide +kernel)) (fun _ h9 => h9) rfl dX10_take_32 ?_
          refine lv_iload_n hx hb dX10_take_35 rfl (lv_at hl 2 rfl) ?_
          refine wi_iald (f := (y).2 ((w1) + 1)) (n := kLen ((w1) + 1)) hx hb hK hP ((w1) + 1) 0 (kgi (kI_row hw_w1) (by omega) rfl) rfl (i := i) (by omega) (by rw [kLen_row hw_w1]; exact (by omega)) (kLen_lt _) dX10_take_36 ?_
          refine wi_iast (f := (y).2 ((w0) + 1)) (n := kLen ((w0) + 1)) hx hb hK hP hD hS ((w0) + 1) 0 (kgi (kI_row hw_w0) (by omega) rfl) rfl (i := i) (x := ((y).2 ((w1) + 1)) (i).toNat) (by omega) (by rw [kLen_row hw_w0]; exact (by omega)) (kLen_lt _) dX10_take_37 (fun H locs hP hD hS => ?_)
          rw [ksi (kI_row hw_w0)] at hP hD
          refine lv_iinc (v := iI ((i) + (1 : Int))) (lv' := [(2, .int (iI ((i) + (1 : Int)))), (0, .ref (ad (w0))), (1, .ref (ad (w1)))]) hx hb dX10_take_38 hl (k := 2) rfl (iI_add _ _) (by decide) rfl (fun ls hl => ?_)
          refine lv_goto (tgt := 18) hx hb dX10_take_41 (by decide) ?_
          exact ih (kA (y) ((w0) + 1) (i).toNat (((y).2 ((w1) + 1)) (i).toNat)) ((i) + (1 : Int)) (by omega) (by show _ ≤ y.1 w0 1; omega) (y0) (y1) (by show y.1 w0 1 - _ < n; omega) hres _ _ ls hP hD hS (lv_sub hl [1, 2, 0] rfl)
  have key : ∀ (H : Heap) (locs : List Loc), va_P (dC, dI) vwCl (kWd cI cJ cZ cR wl ad M (x)) H → va_S A s.heap H locs → W p l e (headSpec wsX10_take ({ frames := 1, cells := 0, slots := 0, locals := 21 })).room s m ([.ref (ad w0), .ref (ad w1)] : List Value).toArray below meth c H locs 0 0 (MQ below (va_Qv (fun u : KS => u = (F_w_take x w0 w1).2) (kAt dC dI ad cI cJ cZ cR M wl A) A) ([.ref (ad w0), .ref (ad w1)] : List Value).toArray s 0 0 A) (F0 m 0 ls []) := by
    intro H locs hP hS
    have hres : F_w_take_s w0 w1 100 0 (kS (x) (w0) 1 (min ((x).1 (w1) 1) (((kL (w0) : Nat) : Int)))) ((0 : Int)) = F_w_take x w0 w1 := rfl
    refine lv_aload_n hx hb dX10_take_0 rfl (lv_at hl 0 rfl) ?_
    refine lv_aload_n hx hb dX10_take_1 rfl (lv_at hl 1 rfl) ?_
    refine va_get (D := (dC, dI)) (ci := 10) (v := .int (iI ((x).1 (w1) 1))) (C := RX10) (T := TX10) (N := 2) hx hb hts hinX10 hown hK hP (w1) (kgw hw_w1 (by omega)) rfl 1 (by decide) (hts (.fieldLink RX10 21 "LikeWords$Word" "used" "I") (by decide +kernel)) (fun _ h9 => h9) rfl dX10_take_2 ?_
    refine lv_aload_n hx hb dX10_take_5 rfl (lv_at hl 0 rfl) ?_
    refine va_get (D := (dC, dI)) (ci := 10) (v := .ref (ad ((w0) + 1))) (C := RX10) (T := TX10) (N := 2) hx hb hts hinX10 hown hK hP (w0) (kgw hw_w0 (by omega)) rfl 0 (by decide) (hts (.fieldLink RX10 15 "LikeWords$Word" "signs" "[I") (by decide +kernel)) (fun _ h9 => h9) rfl dX10_take_6 ?_
    refine va_alen (v := iI (((kL (w0) : Nat) : Int))) hx hb hK hP ((w0) + 1) 0 (kgi (kI_row hw_w0) (by omega) rfl) rfl (by show Int32.ofNat (kLen _) = _; rw [kLen_row hw_w0]; exact iI_nat _) dX10_take_9 ?_
    refine va_mmin hx hb (by rw [hml]; exact hl.1.symm) hown (hts (.methodLink RX10 25 Lib.Math.min.name) (by decide +kernel)) (hts (.static Lib.Math.min.name) (by decide +kernel)) (hts (.initialized "java/lang/Math") (by decide +kernel)) (hts (.code Lib.Math.min.name Lib.Math.min.code 2 (some .int)) (by decide +kernel)) (Nat.le_of_ble_eq_true rfl) (Nat.le_of_ble_eq_true rfl) (Nat.le_of_ble_eq_true rfl) (Nat.le_of_ble_eq_true rfl) dX10_take_10 ?_
    rw [iI_min (by first | assumption | (unfold iR; omega) | exact kR01 (by assumption)) (kL_R _)]
    refine va_put (D := (dC, dI)) (ci := 10) (v := .int (iI (min ((x).1 (w1) 1) (((kL (w0) : Nat) : Int))))) (ty := .int) (C := RX10) (T := TX10) (N := 2) hx hb hts hinX10 tyX10 tyX10_ok nmX10 hown hK hP hD hS (w0) (kgw hw_w0 (by omega)) rfl 1 (by decide) (hts (.fieldLink RX10 21 "LikeWords$Word" "used" "I") (by decide +kernel)) (fun _ h9 => h9) rfl (by decide +kernel) rfl rfl (Nat.le_of_ble_eq_true rfl) dX10_take_13 (fun H locs hP hD hS => ?_)
    rw [ksw hw_w0] at hP hD
    refine lv_iconst (v := iI (0 : Int)) hx hb dX10_take_16 (by decide) ?_
    refine lv_istore_n (lv' := [(2, .int (iI ((0 : Int)))), (0, .ref (ad (w0))), (1, .ref (ad (w1)))]) hx hb dX10_take_17 rfl hl (by decide) rfl (fun ls hl => ?_)
    exact (L (100)) (kS (x) (w0) 1 (min ((x).1 (w1) 1) (((kL (w0) : Nat) : Int)))) ((0 : Int)) (by omega) (by rw [kS_s]; omega) (by rw [kS_s]; omega) (by rw [kS_s]; omega) (by rw [kS_s]; omega) hres _ _ ls hP hD hS (lv_sub hl [1, 2, 0] rfl)
  exact key _ _ hP hS
theorem F_w_take_sfr (w0 : Nat) (w1 : Nat) : ∀ n : Nat, (∀ (y : KS) (v0 : Int), ksame [(w0, 1)] [(w0) + 1] y (F_w_take_s w0 w1 n 0 y v0).2) := by
  intro n
  induction n with
  | zero => exact fun y _ => km_rf _ _ _
  | succ n ih =>
    skip
    · intro y i
      rw [F_w_take_e0]
      by_cases hc : ((y).1 (w0) 1) ≤ (i)
      · rw [if_pos hc]
        exact (km_rf _ _ _)
      · rw [if_neg hc]
        exact km_tr ((km_a (List.Mem.head _) (km_rf _ _ _))) (ih (kA (y) ((w0) + 1) (i).toNat (((y).2 ((w1) + 1)) (i).toNat)) ((i) + (1 : Int)))
theorem F_w_take_fr (x : KS) (w0 : Nat) (w1 : Nat) : ksame [(w0, 1)] [(w0) + 1] x (F_w_take x w0 w1).2 := by
  unfold F_w_take
  exact km_tr ((km_s (List.Mem.head _) (km_rf _ _ _))) ((F_w_take_sfr w0 w1 (100)) (kS (x) (w0) 1 (min ((x).1 (w1) 1) (((kL (w0) : Nat) : Int)))) ((0 : Int)))
theorem F_w_take_q (x : KS) (w0 : Nat) (w1 : Nat) (hw_w0 : kW w0 = true) (hw_w1 : kW w1 = true) : kq [] [] x (F_w_take x w0 w1).2 := kq_of (F_w_take_fr x w0 w1) (kq_c (Or.inl hw_w0) kq_m) (kq_c (Or.inl hw_w0) kq_n)
def F_w_append_s (w0 : Nat) (w1 : Nat) : Nat → Nat → KS → Int → Int × KS
  | 0, _, x, _ => (0, x)
  | n + 1, t, x, p0 => match t with
    | 0 => (fun (i : Int) => (if ((x).1 (w1) 1) ≤ (i) then ((1 : Int), x) else F_w_append_s w0 w1 n 0 (kA (kS (x) (w0) 1 (((x).1 (w0) 1) + ((1 : Int)))) ((w0) + 1) ((x).1 (w0) 1).toNat (((x).2 ((w1) + 1)) (i).toNat)) ((i) + (1 : Int)))) p0
    | _ => (0, x)
theorem F_w_append_e0 (w0 : Nat) (w1 : Nat) (n : Nat) (x : KS) (i : Int) : F_w_append_s w0 w1 (n + 1) 0 x i = (if ((x).1 (w1) 1) ≤ (i) then ((1 : Int), x) else F_w_append_s w0 w1 n 0 (kA (kS (x) (w0) 1 (((x).1 (w0) 1) + ((1 : Int)))) ((w0) + 1) ((x).1 (w0) 1).toNat (((x).2 ((w1) + 1)) (i).toNat)) ((i) + (1 : Int))) := rfl
def F_w_append (x : KS) (w0 : Nat) (w1 : Nat) : Int × KS := (if (((x).1 (w0) 1) + ((x).1 (w1) 1)) ≤ (((kL (w0) : Nat) : Int)) then F_w_append_s w0 w1 100 0 (x) ((0 : Int)) else ((0 : Int), x))
set_option maxHeartbeats 4000000 in
set_option maxRecDepth 100000 in
/-- LikeWords$Word, append -/
theorem c_w_append (l : Launch) (dC : Nat → ClassId) (dI : Nat → Nat → Nat) (ad : Nat → Nat) (cI cJ cZ cR : ClassId) (M wl sz : Nat) (x : KS) (w0 : Nat) (w1 : Nat) (hM : 87 ≤ M) (hw_w0 : kW w0 = true) (hc_w0 : w0 + 1 < M) (hw_w1 : kW w1 = true) (hc_w1 : w1 + 1 < M) (hne : w0 ≠ w1) (u0 : 0 ≤ x.1 w0 1) (u1 : x.1 w0 1 ≤ kL w0) (v0 : 0 ≤ x.1 w1 1) (v1 : x.1 w1 1 ≤ kL w1) : Met l yX10_append wsX10_append ({ frames := 0, cells := 0, slots := 0, locals := 0 }) (kPc dC dI ad cI cJ cZ cR M wl sz x [.ref (ad w0), .ref (ad w1)]) (va_Qi (fun (r : Int32) (u : KS) => r = iI (F_w_append x w0 w1).1 ∧ u = (F_w_append x w0 w1).2) (kAt dC dI ad cI cJ cZ cR M wl (va_A (kWd cI cJ cZ cR wl ad M (x)) sz)) (va_A (kWd cI cJ cZ cR wl ad M (x)) sz)) 0 0 (va_A (kWd cI cJ cZ cR wl ad M (x)) sz) := by
  refine Met.ofW (cc := cX10_append) (maxL := 3) (ret := (some .boolean)) (by decide) rfl ?_
  intro p e s m args below meth c s₁ B hml hv
  obtain ⟨rfl, hsz, hP, hK, hD0, hNw⟩ := hv
  have hx := B.exec
  have hb := B.bytes
  have hr := B.returns
  have hts := atoms_spec (ws := wsX10_append) B.pre
  have hown : s.vm.findClass RX10 = some m.cls := findClass_of_methodNamed B.named
  have hlocks := B.notSynchronized
  have hinX10 : ∀ w ∈ u_ws RX10 TX10 2, w ∈ wsX10_append := by decide +kernel
  subst hsz
  have hD := hD0.self (sz := s.heap.size)
  generalize hAe : va_A (kWd cI cJ cZ cR wl ad M (x)) s.heap.size = A at hD ⊢
  have hA : ∀ q : Nat, s.heap.size ≤ q → A q := fun q h => by rw [← hAe]; exact Or.inr h
  have hS : va_S A s.heap s.heap [] := va_S.rf
  have hl := lv_entry ([.ref (ad w0), .ref (ad w1)]) (n := 3) (Nat.le_of_ble_eq_true rfl)
  rw [lg_entry_eq]
  generalize (lg_sl ([.ref (ad w0), .ref (ad w1)]) ++ List.replicate (3 - (lg_sl ([.ref (ad w0), .ref (ad w1)])).length) Slot.unset).toArray = ls at hl ⊢
  have hl : lv_has ls 3 [(0, .ref (ad (w0))), (1, .ref (ad (w1)))] := hl
  have k60 := kL_le w0
  have k61 := kL_le w1
  have L : ∀ n : Nat, (∀ (y : KS) (i : Int), (0 ≤ i) → (i ≤ y.1 w1 1) → (0 ≤ y.1 w0 1) → (y.1 w0 1 + y.1 w1 1 - i ≤ kL w0) → (y.1 w1 1 ≤ kL w1) → (y.1 w1 1 - i < n) → F_w_append_s w0 w1 n 0 y i = F_w_append x w0 w1 → ∀ (H : Heap) (locs : List Loc) (ls : Array Slot), va_P (dC, dI) vwCl (kWd cI cJ cZ cR wl ad M (y)) H → va_D A (kWd cI cJ cZ cR wl ad M (y)) → va_S A s.heap H locs → lv_has ls 3 [(0, .ref (ad (w0))), (1, .ref (ad (w1))), (2, .int (iI (i)))] → W p l e (headSpec wsX10_append ({ frames := 0, cells := 0, slots := 0, locals := 0 })).room s m ([.ref (ad w0), .ref (ad w1)] : List Value).toArray below meth c H locs 0 0 (MQ below (va_Qi (fun (r : Int32) (u : KS) => r = iI (F_w_append x w0 w1).1 ∧ u = (F_w_append x w0 w1).2) (kAt dC dI ad cI cJ cZ cR M wl A) A) ([.ref (ad w0), .ref (ad w1)] : List Value).toArray s 0 0 A) (F0 m 21 ls [])) := by
    intro n
    induction n with
    | zero =>
      skip
      · intro y i i0 i1 y0 y1 y2 fu hres
        exact absurd fu (by omega)
    | succ n ih =>
      skip
      · intro y i i0 i1 y0 y1 y2 fu hres H locs ls hP hD hS hl
        rw [F_w_append_e0] at hres
        refine lv_iload_n hx hb dX10_append_21 rfl (lv_at hl 2 rfl) ?_
        refine lv_aload_n hx hb dX10_append_22 rfl (lv_at hl 1 rfl) ?_
        refine va_get (D := (dC, dI)) (ci := 10) (v := .int (iI ((y).1 (w1) 1))) (C := RX10) (T := TX10) (N := 2) hx hb hts hinX10 hown hK hP (w1) (kgw hw_w1 (by omega)) rfl 1 (by decide) (hts (.fieldLink RX10 21 "LikeWords$Word" "used" "I") (by decide +kernel)) (fun _ h9 => h9) rfl dX10_append_23 ?_
        refine wi_icmp_ge (tgt := 57) hx hb (by first | assumption | (unfold iR; omega) | exact kR01 (by assumption)) (by first | assumption | (unfold iR; omega) | exact kR01 (by assumption)) dX10_append_26 (by decide) (fun c_26 => ?_) (fun c_26 => ?_)
        · skip
          rw [if_pos c_26] at hres
          refine lv_iconst (v := iI (1 : Int)) hx hb dX10_append_57 (by decide) ?_
          exact W.zret (v := iI ((1 : Int))) hx hb hr (kz _ (by first | assumption | omega)) (fun t ht hW => ⟨⟨iI ((1 : Int)), y, rfl, ⟨(by have h9 := congrArg (fun z : Int × KS => iI z.1) hres; exact h9), (by have h9 := congrArg (fun z : Int × KS => z.2) hres; exact h9)⟩, by rw [ht]; exact hP, va_K.moved hW.alike hK, hD⟩, hS.F ht⟩) hS.2.2 dX10_append_58
        · skip
          rw [if_neg c_26] at hres
          refine lv_aload_n hx hb dX10_append_29 rfl (lv_at hl 0 rfl) ?_
          refine va_get (D := (dC, dI)) (ci := 10) (v := .ref (ad ((w0) + 1))) (C := RX10) (T := TX10) (N := 2) hx hb hts hinX10 hown hK hP (w0) (kgw hw_w0 (by omega)) rfl 0 (by decide) (hts (.fieldLink RX10 15 "LikeWords$Word" "signs" "[I") (by decide +kernel)) (fun _ h9 => h9) rfl dX10_append_30 ?_
          refine lv_aload_n hx hb dX10_append_33 rfl (lv_at hl 0 rfl) ?_
          refine lv_dup hx hb dX10_append_34 rfl ?_
          refine va_get (D := (dC, dI)) (ci := 10) (v := .int (iI ((y).1 (w0) 1))) (C := RX10) (T := TX10) (N := 2) hx hb hts hinX10 hown hK hP (w0) (kgw hw_w0 (by omega)) rfl 1 (by decide) (hts (.fieldLink RX10 21 "LikeWords$Word" "used" "I") (by decide +kernel)) (fun _ h9 => h9) rfl dX10_append_35 ?_
          refine lv_dup_x1 hx hb dX10_append_38 rfl rfl ?_
          refine lv_iconst (v := iI (1 : Int)) hx hb dX10_append_39 (by decide) ?_
          refine wi_iadd hx hb dX10_append_40 ?_
          refine va_put (D := (dC, dI)) (ci := 10) (v := .int (iI (((y).1 (w0) 1) + ((1 : Int))))) (ty := .int) (C := RX10) (T := TX10) (N := 2) hx hb hts hinX10 tyX10 tyX10_ok nmX10 hown hK hP hD hS (w0) (kgw hw_w0 (by omega)) rfl 1 (by decide) (hts (.fieldLink RX10 21 "LikeWords$Word" "used" "I") (by decide +kernel)) (fun _ h9 => h9) rfl (by decide +kernel) rfl rfl (Nat.le_of_ble_eq_true rfl) dX10_append_41 (fun H locs hP hD hS => ?_)
          rw [ksw hw_w0] at hP hD
          refine lv_aload_n hx hb dX10_append_44 rfl (lv_at hl 1 rfl) ?_
          refine va_get (D := (dC, dI)) (ci := 10) (v := .ref (ad ((w1) + 1))) (C := RX10) (T := TX10) (N := 2) hx hb hts hinX10 hown hK hP (w1) (kgw hw_w1 (by omega)) rfl 0 (by decide) (hts (.fieldLink RX10 15 "LikeWords$Word" "signs" "[I") (by decide +kernel)) (fun _ h9 => h9) rfl dX10_append_45 ?_
          refine lv_iload_n hx hb dX10_append_48 rfl (lv_at hl 2 rfl) ?_
          refine wi_iald (f := (y).2 ((w1) + 1)) (n := kLen ((w1) + 1)) hx hb hK hP ((w1) + 1) 0 (kgi (kI_row hw_w1) (by omega) rfl) rfl (i := i) (by omega) (by rw [kLen_row hw_w1]; exact (by omega)) (kLen_lt _) dX10_append_49 ?_
          refine wi_iast (f := (kS (y) (w0) 1 (((y).1 (w0) 1) + ((1 : Int)))).2 ((w0) + 1)) (n := kLen ((w0) + 1)) hx hb hK hP hD hS ((w0) + 1) 0 (kgi (kI_row hw_w0) (by omega) rfl) rfl (i := (y).1 (w0) 1) (x := ((y).2 ((w1) + 1)) (i).toNat) (by omega) (by rw [kLen_row hw_w0]; exact (by omega)) (kLen_lt _) dX10_append_50 (fun H locs hP hD hS => ?_)
          rw [ksi (kI_row hw_w0)] at hP hD
          refine lv_iinc (v := iI ((i) + (1 : Int))) (lv' := [(2, .int (iI ((i) + (1 : Int)))), (0, .ref (ad (w0))), (1, .ref (ad (w1)))]) hx hb dX10_append_51 hl (k := 2) rfl (iI_add _ _) (by decide) rfl (fun ls hl => ?_)
          refine lv_goto (tgt := 21) hx hb dX10_append_54 (by decide) ?_
          exact ih (kA (kS (y) (w0) 1 (((y).1 (w0) 1) + ((1 : Int)))) ((w0) + 1) ((y).1 (w0) 1).toNat (((y).2 ((w1) + 1)) (i).toNat)) ((i) + (1 : Int)) (by omega) (by show _ ≤ (kS y w0 1 (y.1 w0 1 + 1)).1 w1 1; rw [congrFun (kS_c (Ne.symm hne)) 1]; omega) (by show 0 ≤ (kS y w0 1 (y.1 w0 1 + 1)).1 w0 1; rw [kS_s]; omega) (by show (kS y w0 1 (y.1 w0 1 + 1)).1 w0 1 + (kS y w0 1 (y.1 w0 1 + 1)).1 w1 1 - _ ≤ _; rw [kS_s, congrFun (kS_c (Ne.symm hne)) 1]; omega) (by show (kS y w0 1 (y.1 w0 1 + 1)).1 w1 1 ≤ _; rw [congrFun (kS_c (Ne.symm hne)) 1]; omega) (by show (kS y w0 1 (y.1 w0 1 + 1)).1 w1 1 - _ < n; rw [congrFun (kS_c (Ne.symm hne)) 1]; omega) hres _ _ ls hP hD hS (lv_sub hl [1, 2, 0] rfl)
  have key : ∀ (H : Heap) (locs : List Loc), va_P (dC, dI) vwCl (kWd cI cJ cZ cR wl ad M (x)) H → va_S A s.heap H locs → W p l e (headSpec wsX10_append ({ frames := 0, cells := 0, slots := 0, locals := 0 })).room s m ([.ref (ad w0), .ref (ad w1)] : List Value).toArray below meth c H locs 0 0 (MQ below (va_Qi (fun (r : Int32) (u : KS) => r = iI (F_w_append x w0 w1).1 ∧ u = (F_w_append x w0 w1).2) (kAt dC dI ad cI cJ cZ cR M wl A) A) ([.ref (ad w0), .ref (ad w1)] : List Value).toArray s 0 0 A) (F0 m 0 ls []) := by
    intro H locs hP hS
    have hres : (if (((x).1 (w0) 1) + ((x).1 (w1) 1)) ≤ (((kL (w0) : Nat) : Int)) then F_w_append_s w0 w1 100 0 (x) ((0 : Int)) else ((0 : Int), x)) = F_w_append x w0 w1 := rfl
    refine lv_aload_n hx hb dX10_append_0 rfl (lv_at hl 0 rfl) ?_
    refine va_get (D := (dC, dI)) (ci := 10) (v := .int (iI ((x).1 (w0) 1))) (C := RX10) (T := TX10) (N := 2) hx hb hts hinX10 hown hK hP (w0) (kgw hw_w0 (by omega)) rfl 1 (by decide) (hts (.fieldLink RX10 21 "LikeWords$Word" "used" "I") (by decide +kernel)) (fun _ h9 => h9) rfl dX10_append_1 ?_
    refine lv_aload_n hx hb dX10_append_4 rfl (lv_at hl 1 rfl) ?_
    refine va_get (D := (dC, dI)) (ci := 10) (v := .int (iI ((x).1 (w1) 1))) (C := RX10) (T := TX10) (N := 2) hx hb hts hinX10 hown hK hP (w1) (kgw hw_w1 (by omega)) rfl 1 (by decide) (hts (.fieldLink RX10 21 "LikeWords$Word" "used" "I") (by decide +kernel)) (fun _ h9 => h9) rfl dX10_append_5 ?_
    refine wi_iadd hx hb dX10_append_8 ?_
    refine lv_aload_n hx hb dX10_append_9 rfl (lv_at hl 0 rfl) ?_
    refine va_get (D := (dC, dI)) (ci := 10) (v := .ref (ad ((w0) + 1))) (C := RX10) (T := TX10) (N := 2) hx hb hts hinX10 hown hK hP (w0) (kgw hw_w0 (by omega)) rfl 0 (by decide) (hts (.fieldLink RX10 15 "LikeWords$Word" "signs" "[I") (by decide +kernel)) (fun _ h9 => h9) rfl dX10_append_10 ?_
    refine va_alen (v := iI (((kL (w0) : Nat) : Int))) hx hb hK hP ((w0) + 1) 0 (kgi (kI_row hw_w0) (by omega) rfl) rfl (by show Int32.ofNat (kLen _) = _; rw [kLen_row hw_w0]; exact iI_nat _) dX10_append_13 ?_
    refine wi_icmp_le (tgt := 19) hx hb (by first | assumption | (unfold iR; omega) | exact kR01 (by assumption)) (kL_R _) dX10_append_14 (by decide) (fun c_14 => ?_) (fun c_14 => ?_)
    · skip
      rw [if_pos c_14] at hres
      refine lv_iconst (v := iI (0 : Int)) hx hb dX10_append_19 (by decide) ?_
      refine lv_istore_n (lv' := [(2, .int (iI ((0 : Int)))), (0, .ref (ad (w0))), (1, .ref (ad (w1)))]) hx hb dX10_append_20 rfl hl (by decide) rfl (fun ls hl => ?_)
      exact (L (100)) (x) ((0 : Int)) (by omega) (by omega) (by omega) (by omega) (by omega) (by omega) hres _ _ ls hP hD hS (lv_sub hl [1, 2, 0] rfl)
    · skip
      rw [if_neg c_14] at hres
      refine lv_iconst (v := iI (0 : Int)) hx hb dX10_append_17 (by decide) ?_
      exact W.zret (v := iI ((0 : Int))) hx hb hr (kz _ (by first | assumption | omega)) (fun t ht hW => ⟨⟨iI ((0 : Int)), x, rfl, ⟨(by have h9 := congrArg (fun z : Int × KS => iI z.1) hres; exact h9), (by have h9 := congrArg (fun z : Int × KS => z.2) hres; exact h9)⟩, by rw [ht]; exact hP, va_K.moved hW.alike hK, hD⟩, hS.F ht⟩) hS.2.2 dX10_append_18
  exact key _ _ hP hS
theorem F_w_append_sfr (w0 : Nat) (w1 : Nat) : ∀ n : Nat, (∀ (y : KS) (v0 : Int), ksame [(w0, 1)] [(w0) + 1] y (F_w_append_s w0 w1 n 0 y v0).2) := by
  intro n
  induction n with
  | zero => exact fun y _ => km_rf _ _ _
  | succ n ih =>
    skip
    · intro y i
      rw [F_w_append_e0]
      by_cases hc : ((y).1 (w1) 1) ≤ (i)
      · rw [if_pos hc]
        exact (km_rf _ _ _)
      · rw [if_neg hc]
        exact km_tr ((km_a (List.Mem.head _) (km_s (List.Mem.head _) (km_rf _ _ _)))) (ih (kA (kS (y) (w0) 1 (((y).1 (w0) 1) + ((1 : Int)))) ((w0) + 1) ((y).1 (w0) 1).toNat (((y).2 ((w1) + 1)) (i).toNat)) ((i) + (1 : Int)))
theorem F_w_append_fr (x : KS) (w0 : Nat) (w1 : Nat) : ksame [(w0, 1)] [(w0) + 1] x (F_w_append x w0 w1).2 := by
  unfold F_w_append
  by_cases hc : (((x).1 (w0) 1) + ((x).1 (w1) 1)) ≤ (((kL (w0) : Nat) : Int))
  · rw [if_pos hc]
    exact km_tr ((km_rf _ _ _)) ((F_w_append_sfr w0 w1 (100)) (x) ((0 : Int)))
  · rw [if_neg hc]
    exact (km_rf _ _ _)
theorem F_w_append_q (x : KS) (w0 : Nat) (w1 : Nat) (hw_w0 : kW w0 = true) (hw_w1 : kW w1 = true) : kq [] [] x (F_w_append x w0 w1).2 := kq_of (F_w_append_fr x w0 w1) (kq_c (Or.inl hw_w0) kq_m) (kq_c (Or.inl hw_w0) kq_n)
def F_w_drawFrom_s (w0 : Nat) (w1 : Nat) : Nat → Nat → KS → Int → Int → Int × KS
  | 0, _, x, _, _ => (0, x)
  | n + 1, t, x, p0, p1 => match t with
    | 0 => (fun (f0 : Int) (b0 : Int) => (if ((x).1 (w1) 1) ≤ (f0) then (((x).1 (w0) 1) - (b0), x) else (if ((x).1 (w1) 1) ≤ (0) then (((x).1 (w0) 1) - (b0), x) else (if (((kL (w0) : Nat) : Int)) ≤ ((x).1 (w0) 1) then (((x).1 (w0) 1) - (b0), x) else F_w_drawFrom_s w0 w1 n 0 (kA (kS (kS (x) (w1) 1 (((x).1 (w1) 1) - ((1 : Int)))) (w0) 1 (((x).1 (w0) 1) + ((1 : Int)))) ((w0) + 1) ((x).1 (w0) 1).toNat (((x).2 ((w1) + 1)) (((x).1 (w1) 1) - ((1 : Int))).toNat)) (f0) (b0))))) p0 p1
    | _ => (0, x)
theorem F_w_drawFrom_e0 (w0 : Nat) (w1 : Nat) (n : Nat) (x : KS) (f0 : Int) (b0 : Int) : F_w_drawFrom_s w0 w1 (n + 1) 0 x f0 b0 = (if ((x).1 (w1) 1) ≤ (f0) then (((x).1 (w0) 1) - (b0), x) else (if ((x).1 (w1) 1) ≤ (0) then (((x).1 (w0) 1) - (b0), x) else (if (((kL (w0) : Nat) : Int)) ≤ ((x).1 (w0) 1) then (((x).1 (w0) 1) - (b0), x) else F_w_drawFrom_s w0 w1 n 0 (kA (kS (kS (x) (w1) 1 (((x).1 (w1) 1) - ((1 : Int)))) (w0) 1 (((x).1 (w0) 1) + ((1 : Int)))) ((w0) + 1) ((x).1 (w0) 1).toNat (((x).2 ((w1) + 1)) (((x).1 (w1) 1) - ((1 : Int))).toNat)) (f0) (b0)))) := rfl
def F_w_drawFrom (x : KS) (w0 : Nat) (w1 : Nat) (f0 : Int) : Int × KS := F_w_drawFrom_s w0 w1 100 0 (x) (f0) ((x).1 (w0) 1)
set_option maxHeartbeats 4000000 in
set_option maxRecDepth 100000 in
/-- LikeWords$Word, drawFrom -/
theorem c_w_drawFrom (l : Launch) (dC : Nat → ClassId) (dI : Nat → Nat → Nat) (ad : Nat → Nat) (cI cJ cZ cR : ClassId) (M wl sz : Nat) (x : KS) (w0 : Nat) (w1 : Nat) (f0 : Int) (hM : 87 ≤ M) (hw_w0 : kW w0 = true) (hc_w0 : w0 + 1 < M) (hw_w1 : kW w1 = true) (hc_w1 : w1 + 1 < M) (hne : w0 ≠ w1) (rf : iR f0) (u0 : 0 ≤ x.1 w0 1) (u1 : x.1 w0 1 ≤ kL w0) (v0 : 0 ≤ x.1 w1 1) (v1 : x.1 w1 1 ≤ kL w1) : Met l yX10_drawFrom wsX10_drawFrom ({ frames := 0, cells := 0, slots := 0, locals := 0 }) (kPc dC dI ad cI cJ cZ cR M wl sz x [.ref (ad w0), .ref (ad w1), .int (iI f0)]) (va_Qi (fun (r : Int32) (u : KS) => r = iI (F_w_drawFrom x w0 w1 f0).1 ∧ u = (F_w_drawFrom x w0 w1 f0).2) (kAt dC dI ad cI cJ cZ cR M wl (va_A (kWd cI cJ cZ cR wl ad M (x)) sz)) (va_A (kWd cI cJ cZ cR wl ad M (x)) sz)) 0 0 (va_A (kWd cI cJ cZ cR wl ad M (x)) sz) := by
  refine Met.ofW (cc := cX10_drawFrom) (maxL := 4) (ret := (some .int)) (by decide) rfl ?_
  intro p e s m args below meth c s₁ B hml hv
  obtain ⟨rfl, hsz, hP, hK, hD0, hNw⟩ := hv
  have hx := B.exec
  have hb := B.bytes
  have hr := B.returns
  have hts := atoms_spec (ws := wsX10_drawFrom) B.pre
  have hown : s.vm.findClass RX10 = some m.cls := findClass_of_methodNamed B.named
  have hlocks := B.notSynchronized
  have hinX10 : ∀ w ∈ u_ws RX10 TX10 2, w ∈ wsX10_drawFrom := by decide +kernel
  subst hsz
  have hD := hD0.self (sz := s.heap.size)
  generalize hAe : va_A (kWd cI cJ cZ cR wl ad M (x)) s.heap.size = A at hD ⊢
  have hA : ∀ q : Nat, s.heap.size ≤ q → A q := fun q h => by rw [← hAe]; exact Or.inr h
  have hS : va_S A s.heap s.heap [] := va_S.rf
  have hl := lv_entry ([.ref (ad w0), .ref (ad w1), .int (iI f0)]) (n := 4) (Nat.le_of_ble_eq_true rfl)
  rw [lg_entry_eq]
  generalize (lg_sl ([.ref (ad w0), .ref (ad w1), .int (iI f0)]) ++ List.replicate (4 - (lg_sl ([.ref (ad w0), .ref (ad w1), .int (iI f0)])).length) Slot.unset).toArray = ls at hl ⊢
  have hl : lv_has ls 4 [(0, .ref (ad (w0))), (1, .ref (ad (w1))), (2, .int (iI (f0)))] := hl
  have k60 := kL_le w0
  have k61 := kL_le w1
  have L : ∀ n : Nat, (∀ (y : KS) (b0 : Int), (0 ≤ y.1 w0 1) → (y.1 w0 1 ≤ kL w0) → (0 ≤ y.1 w1 1) → (y.1 w1 1 ≤ kL w1) → (y.1 w1 1 < n) → F_w_drawFrom_s w0 w1 n 0 y f0 b0 = F_w_drawFrom x w0 w1 f0 → ∀ (H : Heap) (locs : List Loc) (ls : Array Slot), va_P (dC, dI) vwCl (kWd cI cJ cZ cR wl ad M (y)) H → va_D A (kWd cI cJ cZ cR wl ad M (y)) → va_S A s.heap H locs → lv_has ls 4 [(0, .ref (ad (w0))), (1, .ref (ad (w1))), (2, .int (iI (f0))), (3, .int (iI (b0)))] → W p l e (headSpec wsX10_drawFrom ({ frames := 0, cells := 0, slots := 0, locals := 0 })).room s m ([.ref (ad w0), .ref (ad w1), .int (iI f0)] : List Value).toArray below meth c H locs 0 0 (MQ below (va_Qi (fun (r : Int32) (u : KS) => r = iI (F_w_drawFrom x w0 w1 f0).1 ∧ u = (F_w_drawFrom x w0 w1 f0).2) (kAt dC dI ad cI cJ cZ cR M wl A) A) ([.ref (ad w0), .ref (ad w1), .int (iI f0)] : List Value).toArray s 0 0 A) (F0 m 5 ls [])) := by
    intro n
    induction n with
    | zero =>
      skip
      · intro y b0 y0 y1 y2 y3 fu hres
        exact absurd fu (by omega)
    | succ n ih =>
      skip
      · intro y b0 y0 y1 y2 y3 fu hres H locs ls hP hD hS hl
        rw [F_w_drawFrom_e0] at hres
        have e0 : (kS (kS y w1 1 (y.1 w1 1 - 1)) w0 1 (y.1 w0 1 + 1)).1 w0 1 = y.1 w0 1 + 1 := kS_s
        have e1 : (kS (kS y w1 1 (y.1 w1 1 - 1)) w0 1 (y.1 w0 1 + 1)).1 w1 1 = y.1 w1 1 - 1 := (congrFun (kS_c (Ne.symm hne)) 1).trans kS_s
        refine lv_aload_n hx hb dX10_drawFrom_5 rfl (lv_at hl 1 rfl) ?_
        refine va_get (D := (dC, dI)) (ci := 10) (v := .int (iI ((y).1 (w1) 1))) (C := RX10) (T := TX10) (N := 2) hx hb hts hinX10 hown hK hP (w1) (kgw hw_w1 (by omega)) rfl 1 (by decide) (hts (.fieldLink RX10 21 "LikeWords$Word" "used" "I") (by decide +kernel)) (fun _ h9 => h9) rfl dX10_drawFrom_6 ?_
        refine lv_iload_n hx hb dX10_drawFrom_9 rfl (lv_at hl 2 rfl) ?_
        refine wi_icmp_le (tgt := 70) hx hb (by first | assumption | (unfold iR; omega) | exact kR01 (by assumption)) (by first | assumption | (unfold iR; omega) | exact kR01 (by assumption)) dX10_drawFrom_10 (by decide) (fun c_10 => ?_) (fun c_10 => ?_)
        · skip
          rw [if_pos c_10] at hres
          refine lv_aload_n hx hb dX10_drawFrom_70 rfl (lv_at hl 0 rfl) ?_
          refine va_get (D := (dC, dI)) (ci := 10) (v := .int (iI ((y).1 (w0) 1))) (C := RX10) (T := TX10) (N := 2) hx hb hts hinX10 hown hK hP (w0) (kgw hw_w0 (by omega)) rfl 1 (by decide) (hts (.fieldLink RX10 21 "LikeWords$Word" "used" "I") (by decide +kernel)) (fun _ h9 => h9) rfl dX10_drawFrom_71 ?_
          refine lv_iload_n hx hb dX10_drawFrom_74 rfl (lv_at hl 3 rfl) ?_
          refine wi_isub hx hb dX10_drawFrom_75 ?_
          exact W.iret (v := iI (((y).1 (w0) 1) - (b0))) hx hb hr (fun t ht hW => ⟨⟨iI (((y).1 (w0) 1) - (b0)), y, rfl, ⟨(by have h9 := congrArg (fun z : Int × KS => iI z.1) hres; exact h9), (by have h9 := congrArg (fun z : Int × KS => z.2) hres; exact h9)⟩, by rw [ht]; exact hP, va_K.moved hW.alike hK, hD⟩, hS.F ht⟩) hS.2.2 dX10_drawFrom_76
        · skip
          rw [if_neg c_10] at hres
          refine lv_aload_n hx hb dX10_drawFrom_13 rfl (lv_at hl 1 rfl) ?_
          refine va_get (D := (dC, dI)) (ci := 10) (v := .int (iI ((y).1 (w1) 1))) (C := RX10) (T := TX10) (N := 2) hx hb hts hinX10 hown hK hP (w1) (kgw hw_w1 (by omega)) rfl 1 (by decide) (hts (.fieldLink RX10 21 "LikeWords$Word" "used" "I") (by decide +kernel)) (fun _ h9 => h9) rfl dX10_drawFrom_14 ?_
          refine wi_if_le (tgt := 70) hx hb (by first | assumption | (unfold iR; omega) | exact kR01 (by assumption)) dX10_drawFrom_17 (by decide) (fun c_17 => ?_) (fun c_17 => ?_)
          · skip
            rw [if_pos c_17] at hres
            refine lv_aload_n hx hb dX10_drawFrom_70 rfl (lv_at hl 0 rfl) ?_
            refine va_get (D := (dC, dI)) (ci := 10) (v := .int (iI ((y).1 (w0) 1))) (C := RX10) (T := TX10) (N := 2) hx hb hts hinX10 hown hK hP (w0) (kgw hw_w0 (by omega)) rfl 1 (by decide) (hts (.fieldLink RX10 21 "LikeWords$Word" "used" "I") (by decide +kernel)) (fun _ h9 => h9) rfl dX10_drawFrom_71 ?_
            refine lv_iload_n hx hb dX10_drawFrom_74 rfl (lv_at hl 3 rfl) ?_
            refine wi_isub hx hb dX10_drawFrom_75 ?_
            exact W.iret (v := iI (((y).1 (w0) 1) - (b0))) hx hb hr (fun t ht hW => ⟨⟨iI (((y).1 (w0) 1) - (b0)), y, rfl, ⟨(by have h9 := congrArg (fun z : Int × KS => iI z.1) hres; exact h9), (by have h9 := congrArg (fun z : Int × KS => z.2) hres; exact h9)⟩, by rw [ht]; exact hP, va_K.moved hW.alike hK, hD⟩, hS.F ht⟩) hS.2.2 dX10_drawFrom_76
          · skip
            rw [if_neg c_17] at hres
            refine lv_aload_n hx hb dX10_drawFrom_20 rfl (lv_at hl 0 rfl) ?_
            refine va_get (D := (dC, dI)) (ci := 10) (v := .int (iI ((y).1 (w0) 1))) (C := RX10) (T := TX10) (N := 2) hx hb hts hinX10 hown hK hP (w0) (kgw hw_w0 (by omega)) rfl 1 (by decide) (hts (.fieldLink RX10 21 "LikeWords$Word" "used" "I") (by decide +kernel)) (fun _ h9 => h9) rfl dX10_drawFrom_21 ?_
            refine lv_aload_n hx hb dX10_drawFrom_24 rfl (lv_at hl 0 rfl) ?_
            refine va_get (D := (dC, dI)) (ci := 10) (v := .ref (ad ((w0) + 1))) (C := RX10) (T := TX10) (N := 2) hx hb hts hinX10 hown hK hP (w0) (kgw hw_w0 (by omega)) rfl 0 (by decide) (hts (.fieldLink RX10 15 "LikeWords$Word" "signs" "[I") (by decide +kernel)) (fun _ h9 => h9) rfl dX10_drawFrom_25 ?_
            refine va_alen (v := iI (((kL (w0) : Nat) : Int))) hx hb hK hP ((w0) + 1) 0 (kgi (kI_row hw_w0) (by omega) rfl) rfl (by show Int32.ofNat (kLen _) = _; rw [kLen_row hw_w0]; exact iI_nat _) dX10_drawFrom_28 ?_
            refine wi_icmp_ge (tgt := 70) hx hb (by first | assumption | (unfold iR; omega) | exact kR01 (by assumption)) (kL_R _) dX10_drawFrom_29 (by decide) (fun c_29 => ?_) (fun c_29 => ?_)
            · skip
              rw [if_pos c_29] at hres
              refine lv_aload_n hx hb dX10_drawFrom_70 rfl (lv_at hl 0 rfl) ?_
              refine va_get (D := (dC, dI)) (ci := 10) (v := .int (iI ((y).1 (w0) 1))) (C := RX10) (T := TX10) (N := 2) hx hb hts hinX10 hown hK hP (w0) (kgw hw_w0 (by omega)) rfl 1 (by decide) (hts (.fieldLink RX10 21 "LikeWords$Word" "used" "I") (by decide +kernel)) (fun _ h9 => h9) rfl dX10_drawFrom_71 ?_
              refine lv_iload_n hx hb dX10_drawFrom_74 rfl (lv_at hl 3 rfl) ?_
              refine wi_isub hx hb dX10_drawFrom_75 ?_
              exact W.iret (v := iI (((y).1 (w0) 1) - (b0))) hx hb hr (fun t ht hW => ⟨⟨iI (((y).1 (w0) 1) - (b0)), y, rfl, ⟨(by have h9 := congrArg (fun z : Int × KS => iI z.1) hres; exact h9), (by have h9 := congrArg (fun z : Int × KS => z.2) hres; exact h9)⟩, by rw [ht]; exact hP, va_K.moved hW.alike hK, hD⟩, hS.F ht⟩) hS.2.2 dX10_drawFrom_76
            · skip
              rw [if_neg c_29] at hres
              refine lv_aload_n hx hb dX10_drawFrom_32 rfl (lv_at hl 1 rfl) ?_
              refine lv_dup hx hb dX10_drawFrom_33 rfl ?_
              refine va_get (D := (dC, dI)) (ci := 10) (v := .int (iI ((y).1 (w1) 1))) (C := RX10) (T := TX10) (N := 2) hx hb hts hinX10 hown hK hP (w1) (kgw hw_w1 (by omega)) rfl 1 (by decide) (hts (.fieldLink RX10 21 "LikeWords$Word" "used" "I") (by decide +kernel)) (fun _ h9 => h9) rfl dX10_drawFrom_34 ?_
              refine lv_iconst (v := iI (1 : Int)) hx hb dX10_drawFrom_37 (by decide) ?_
              refine wi_isub hx hb dX10_drawFrom_38 ?_
              refine va_put (D := (dC, dI)) (ci := 10) (v := .int (iI (((y).1 (w1) 1) - ((1 : Int))))) (ty := .int) (C := RX10) (T := TX10) (N := 2) hx hb hts hinX10 tyX10 tyX10_ok nmX10 hown hK hP hD hS (w1) (kgw hw_w1 (by omega)) rfl 1 (by decide) (hts (.fieldLink RX10 21 "LikeWords$Word" "used" "I") (by decide +kernel)) (fun _ h9 => h9) rfl (by decide +kernel) rfl rfl (Nat.le_of_ble_eq_true rfl) dX10_drawFrom_39 (fun H locs hP hD hS => ?_)
              rw [ksw hw_w1] at hP hD
              refine lv_aload_n hx hb dX10_drawFrom_42 rfl (lv_at hl 0 rfl) ?_
              refine va_get (D := (dC, dI)) (ci := 10) (v := .ref (ad ((w0) + 1))) (C := RX10) (T := TX10) (N := 2) hx hb hts hinX10 hown hK hP (w0) (kgw hw_w0 (by omega)) rfl 0 (by decide) (hts (.fieldLink RX10 15 "LikeWords$Word" "signs" "[I") (by decide +kernel)) (fun _ h9 => h9) rfl dX10_drawFrom_43 ?_
              refine lv_aload_n hx hb dX10_drawFrom_46 rfl (lv_at hl 0 rfl) ?_
              refine lv_dup hx hb dX10_drawFrom_47 rfl ?_
              refine va_get (D := (dC, dI)) (ci := 10) (v := .int (iI ((y).1 (w0) 1))) (C := RX10) (T := TX10) (N := 2) hx hb hts hinX10 hown hK hP (w0) (kgw hw_w0 (by omega)) rfl 1 (by decide) (hts (.fieldLink RX10 21 "LikeWords$Word" "used" "I") (by decide +kernel)) (fun _ h9 => h9) (congrArg (fun z9 => some (Value.int (iI z9))) (congrFun (kS_c (by omega)) 1)) dX10_drawFrom_48 ?_
              refine lv_dup_x1 hx hb dX10_drawFrom_51 rfl rfl ?_
              refine lv_iconst (v := iI (1 : Int)) hx hb dX10_drawFrom_52 (by decide) ?_
              refine wi_iadd hx hb dX10_drawFrom_53 ?_
              refine va_put (D := (dC, dI)) (ci := 10) (v := .int (iI (((y).1 (w0) 1) + ((1 : Int))))) (ty := .int) (C := RX10) (T := TX10) (N := 2) hx hb hts hinX10 tyX10 tyX10_ok nmX10 hown hK hP hD hS (w0) (kgw hw_w0 (by omega)) rfl 1 (by decide) (hts (.fieldLink RX10 21 "LikeWords$Word" "used" "I") (by decide +kernel)) (fun _ h9 => h9) rfl (by decide +kernel) rfl rfl (Nat.le_of_ble_eq_true rfl) dX10_drawFrom_54 (fun H locs hP hD hS => ?_)
              rw [ksw hw_w0] at hP hD
              refine lv_aload_n hx hb dX10_drawFrom_57 rfl (lv_at hl 1 rfl) ?_
              refine va_get (D := (dC, dI)) (ci := 10) (v := .ref (ad ((w1) + 1))) (C := RX10) (T := TX10) (N := 2) hx hb hts hinX10 hown hK hP (w1) (kgw hw_w1 (by omega)) rfl 0 (by decide) (hts (.fieldLink RX10 15 "LikeWords$Word" "signs" "[I") (by decide +kernel)) (fun _ h9 => h9) rfl dX10_drawFrom_58 ?_
              refine lv_aload_n hx hb dX10_drawFrom_61 rfl (lv_at hl 1 rfl) ?_
              refine va_get (D := (dC, dI)) (ci := 10) (v := .int (iI (((y).1 (w1) 1) - ((1 : Int))))) (C := RX10) (T := TX10) (N := 2) hx hb hts hinX10 hown hK hP (w1) (kgw hw_w1 (by omega)) rfl 1 (by decide) (hts (.fieldLink RX10 21 "LikeWords$Word" "used" "I") (by decide +kernel)) (fun _ h9 => h9) (congrArg (fun z9 => some (Value.int (iI z9))) ((congrFun (kS_c (by omega)) 1).trans (kS_s))) dX10_drawFrom_62 ?_
              refine wi_iald (f := (y).2 ((w1) + 1)) (n := kLen ((w1) + 1)) hx hb hK hP ((w1) + 1) 0 (kgi (kI_row hw_w1) (by omega) rfl) rfl (i := ((y).1 (w1) 1) - ((1 : Int))) (by omega) (by rw [kLen_row hw_w1]; exact (by omega)) (kLen_lt _) dX10_drawFrom_65 ?_
              refine wi_iast (f := (kS (kS (y) (w1) 1 (((y).1 (w1) 1) - ((1 : Int)))) (w0) 1 (((y).1 (w0) 1) + ((1 : Int)))).2 ((w0) + 1)) (n := kLen ((w0) + 1)) hx hb hK hP hD hS ((w0) + 1) 0 (kgi (kI_row hw_w0) (by omega) rfl) rfl (i := (y).1 (w0) 1) (x := ((y).2 ((w1) + 1)) (((y).1 (w1) 1) - ((1 : Int))).toNat) (by omega) (by rw [kLen_row hw_w0]; exact (by omega)) (kLen_lt _) dX10_drawFrom_66 (fun H locs hP hD hS => ?_)
              rw [ksi (kI_row hw_w0)] at hP hD
              refine lv_goto (tgt := 5) hx hb dX10_drawFrom_67 (by decide) ?_
              exact ih (kA (kS (kS (y) (w1) 1 (((y).1 (w1) 1) - ((1 : Int)))) (w0) 1 (((y).1 (w0) 1) + ((1 : Int)))) ((w0) + 1) ((y).1 (w0) 1).toNat (((y).2 ((w1) + 1)) (((y).1 (w1) 1) - ((1 : Int))).toNat)) (b0) (by show 0 ≤ (kS (kS y w1 1 (y.1 w1 1 - 1)) w0 1 (y.1 w0 1 + 1)).1 w0 1; omega) (by show (kS (kS y w1 1 (y.1 w1 1 - 1)) w0 1 (y.1 w0 1 + 1)).1 w0 1 ≤ _; omega) (by show 0 ≤ (kS (kS y w1 1 (y.1 w1 1 - 1)) w0 1 (y.1 w0 1 + 1)).1 w1 1; omega) (by show (kS (kS y w1 1 (y.1 w1 1 - 1)) w0 1 (y.1 w0 1 + 1)).1 w1 1 ≤ _; omega) (by show (kS (kS y w1 1 (y.1 w1 1 - 1)) w0 1 (y.1 w0 1 + 1)).1 w1 1 < n; omega) hres _ _ ls hP hD hS (lv_sub hl [0, 1, 2, 3] rfl)
  have key : ∀ (H : Heap) (locs : List Loc), va_P (dC, dI) vwCl (kWd cI cJ cZ cR wl ad M (x)) H → va_S A s.heap H locs → W p l e (headSpec wsX10_drawFrom ({ frames := 0, cells := 0, slots := 0, locals := 0 })).room s m ([.ref (ad w0), .ref (ad w1), .int (iI f0)] : List Value).toArray below meth c H locs 0 0 (MQ below (va_Qi (fun (r : Int32) (u : KS) => r = iI (F_w_drawFrom x w0 w1 f0).1 ∧ u = (F_w_drawFrom x w0 w1 f0).2) (kAt dC dI ad cI cJ cZ cR M wl A) A) ([.ref (ad w0), .ref (ad w1), .int (iI f0)] : List Value).toArray s 0 0 A) (F0 m 0 ls []) := by
    intro H locs hP hS
    have hres : F_w_drawFrom_s w0 w1 100 0 (x) (f0) ((x).1 (w0) 1) = F_w_drawFrom x w0 w1 f0 := rfl
    refine lv_aload_n hx hb dX10_drawFrom_0 rfl (lv_at hl 0 rfl) ?_
    refine va_get (D := (dC, dI)) (ci := 10) (v := .int (iI ((x).1 (w0) 1))) (C := RX10) (T := TX10) (N := 2) hx hb hts hinX10 hown hK hP (w0) (kgw hw_w0 (by omega)) rfl 1 (by decide) (hts (.fieldLink RX10 21 "LikeWords$Word" "used" "I") (by decide +kernel)) (fun _ h9 => h9) rfl dX10_drawFrom_1 ?_
    refine lv_istore_n (lv' := [(3, .int (iI ((x).1 (w0) 1))), (0, .ref (ad (w0))), (1, .ref (ad (w1))), (2, .int (iI (f0)))]) hx hb dX10_drawFrom_4 rfl hl (by decide) rfl (fun ls hl => ?_)
    exact (L (100)) (x) ((x).1 (w0) 1) (by omega) (by omega) (by omega) (by omega) (by omega) hres _ _ ls hP hD hS (lv_sub hl [1, 2, 3, 0] rfl)
  exact key _ _ hP hS
theorem F_w_drawFrom_sfr (w0 : Nat) (w1 : Nat) : ∀ n : Nat, (∀ (y : KS) (v0 : Int) (v1 : Int), ksame [(w1, 1), (w0, 1)] [(w0) + 1] y (F_w_drawFrom_s w0 w1 n 0 y v0 v1).2) := by
  intro n
  induction n with
  | zero => exact fun y _ _ => km_rf _ _ _
  | succ n ih =>
    skip
    · intro y f0 b0
      rw [F_w_drawFrom_e0]
      by_cases hc : ((y).1 (w1) 1) ≤ (f0)
      · rw [if_pos hc]
        exact (km_rf _ _ _)
      · rw [if_neg hc]
        by_cases hc : ((y).1 (w1) 1) ≤ (0)
        · rw [if_pos hc]
          exact (km_rf _ _ _)
        · rw [if_neg hc]
          by_cases hc : (((kL (w0) : Nat) : Int)) ≤ ((y).1 (w0) 1)
          · rw [if_pos hc]
            exact (km_rf _ _ _)
          · rw [if_neg hc]
            exact km_tr ((km_a (List.Mem.head _) (km_s (List.Mem.tail _ (List.Mem.head _)) (km_s (List.Mem.head _) (km_rf _ _ _))))) (ih (kA (kS (kS (y) (w1) 1 (((y).1 (w1) 1) - ((1 : Int)))) (w0) 1 (((y).1 (w0) 1) + ((1 : Int)))) ((w0) + 1) ((y).1 (w0) 1).toNat (((y).2 ((w1) + 1)) (((y).1 (w1) 1) - ((1 : Int))).toNat)) (f0) (b0))
theorem F_w_drawFrom_fr (x : KS) (w0 : Nat) (w1 : Nat) (f0 : Int) : ksame [(w1, 1), (w0, 1)] [(w0) + 1] x (F_w_drawFrom x w0 w1 f0).2 := by
  unfold F_w_drawFrom
  exact km_tr ((km_rf _ _ _)) ((F_w_drawFrom_sfr w0 w1 (100)) (x) (f0) ((x).1 (w0) 1))
theorem F_w_drawFrom_q (x : KS) (w0 : Nat) (w1 : Nat) (f0 : Int) (hw_w0 : kW w0 = true) (hw_w1 : kW w1 = true) : kq [] [] x (F_w_drawFrom x w0 w1 f0).2 := kq_of (F_w_drawFrom_fr x w0 w1 f0) (kq_c (Or.inl hw_w1) (kq_c (Or.inl hw_w0) kq_m)) (kq_c (Or.inl hw_w0) kq_n)
def F_w_isSame_s (w0 : Nat) (w1 : Nat) : Nat → Nat → KS → Int → Int × KS
  | 0, _, x, _ => (0, x)
  | n + 1, t, x, p0 => match t with
    | 0 => (fun (i : Int) => (if ((x).1 (w0) 1) ≤ (i) then ((1 : Int), x) else (if (((x).2 ((w0) + 1)) (i).toNat) = (((x).2 ((w1) + 1)) (i).toNat) then F_w_isSame_s w0 w1 n 0 (x) ((i) + (1 : Int)) else ((0 : Int), x)))) p0
    | _ => (0, x)
theorem F_w_isSame_e0 (w0 : Nat) (w1 : Nat) (n : Nat) (x : KS) (i : Int) : F_w_isSame_s w0 w1 (n + 1) 0 x i = (if ((x).1 (w0) 1) ≤ (i) then ((1 : Int), x) else (if (((x).2 ((w0) + 1)) (i).toNat) = (((x).2 ((w1) + 1)) (i).toNat) then F_w_isSame_s w0 w1 n 0 (x) ((i) + (1 : Int)) else ((0 : Int), x))) := rfl
def F_w_isSame (x : KS) (w0 : Nat) (w1 : Nat) : Int × KS := (if ((x).1 (w0) 1) = ((x).1 (w1) 1) then F_w_isSame_s w0 w1 100 0 (x) ((0 : Int)) else ((0 : Int), x))
set_option maxHeartbeats 4000000 in
set_option maxRecDepth 100000 in
/-- LikeWords$Word, isSame -/
theorem c_w_isSame (l : Launch) (dC : Nat → ClassId) (dI : Nat → Nat → Nat) (ad : Nat → Nat) (cI cJ cZ cR : ClassId) (M wl sz : Nat) (x : KS) (w0 : Nat) (w1 : Nat) (hM : 87 ≤ M) (hw_w0 : kW w0 = true) (hc_w0 : w0 + 1 < M) (hw_w1 : kW w1 = true) (hc_w1 : w1 + 1 < M) (u0 : 0 ≤ x.1 w0 1) (u1 : x.1 w0 1 ≤ kL w0) (v0 : 0 ≤ x.1 w1 1) (v1 : x.1 w1 1 ≤ kL w1) (ra : ∀ j : Nat, iR (x.2 (w0 + 1) j)) (rb : ∀ j : Nat, iR (x.2 (w1 + 1) j)) : Met l yX10_isSame wsX10_isSame ({ frames := 0, cells := 0, slots := 0, locals := 0 }) (kPc dC dI ad cI cJ cZ cR M wl sz x [.ref (ad w0), .ref (ad w1)]) (va_Qi (fun (r : Int32) (u : KS) => r = iI (F_w_isSame x w0 w1).1 ∧ u = (F_w_isSame x w0 w1).2) (kAt dC dI ad cI cJ cZ cR M wl (va_A (kWd cI cJ cZ cR wl ad M (x)) sz)) (va_A (kWd cI cJ cZ cR wl ad M (x)) sz)) 0 0 (va_A (kWd cI cJ cZ cR wl ad M (x)) sz) := by
  refine Met.ofW (cc := cX10_isSame) (maxL := 3) (ret := (some .boolean)) (by decide) rfl ?_
  intro p e s m args below meth c s₁ B hml hv
  obtain ⟨rfl, hsz, hP, hK, hD0, hNw⟩ := hv
  have hx := B.exec
  have hb := B.bytes
  have hr := B.returns
  have hts := atoms_spec (ws := wsX10_isSame) B.pre
  have hown : s.vm.findClass RX10 = some m.cls := findClass_of_methodNamed B.named
  have hlocks := B.notSynchronized
  have hinX10 : ∀ w ∈ u_ws RX10 TX10 2, w ∈ wsX10_isSame := by decide +kernel
  subst hsz
  have hD := hD0.self (sz := s.heap.size)
  generalize hAe : va_A (kWd cI cJ cZ cR wl ad M (x)) s.heap.size = A at hD ⊢
  have hA : ∀ q : Nat, s.heap.size ≤ q → A q := fun q h => by rw [← hAe]; exact Or.inr h
  have hS : va_S A s.heap s.heap [] := va_S.rf
  have hl := lv_entry ([.ref (ad w0), .ref (ad w1)]) (n := 3) (Nat.le_of_ble_eq_true rfl)
  rw [lg_entry_eq]
  generalize (lg_sl ([.ref (ad w0), .ref (ad w1)]) ++ List.replicate (3 - (lg_sl ([.ref (ad w0), .ref (ad w1)])).length) Slot.unset).toArray = ls at hl ⊢
  have hl : lv_has ls 3 [(0, .ref (ad (w0))), (1, .ref (ad (w1)))] := hl
  have k60 := kL_le w0
  have k61 := kL_le w1
  have L : ∀ n : Nat, (∀ (i : Int), (0 ≤ i) → (i ≤ x.1 w0 1) → (x.1 w0 1 = x.1 w1 1) → (x.1 w0 1 - i < n) → F_w_isSame_s w0 w1 n 0 x i = F_w_isSame x w0 w1 → ∀ (H : Heap) (locs : List Loc) (ls : Array Slot), va_P (dC, dI) vwCl (kWd cI cJ cZ cR wl ad M (x)) H → va_D A (kWd cI cJ cZ cR wl ad M (x)) → va_S A s.heap H locs → lv_has ls 3 [(0, .ref (ad (w0))), (1, .ref (ad (w1))), (2, .int (iI (i)))] → W p l e (headSpec wsX10_isSame ({ frames := 0, cells := 0, slots := 0, locals := 0 })).room s m ([.ref (ad w0), .ref (ad w1)] : List Value).toArray below meth c H locs 0 0 (MQ below (va_Qi (fun (r : Int32) (u : KS) => r = iI (F_w_isSame x w0 w1).1 ∧ u = (F_w_isSame x w0 w1).2) (kAt dC dI ad cI cJ cZ cR M wl A) A) ([.ref (ad w0), .ref (ad w1)] : List Value).toArray s 0 0 A) (F0 m 15 ls [])) := by
    intro n
    induction n with
    | zero =>
      skip
      · intro i i0 i1 uu fu hres
        exact absurd fu (by omega)
    | succ n ih =>
      skip
      · intro i i0 i1 uu fu hres H locs ls hP hD hS hl
        rw [F_w_isSame_e0] at hres
        refine lv_iload_n hx hb dX10_isSame_15 rfl (lv_at hl 2 rfl) ?_
        refine lv_aload_n hx hb dX10_isSame_16 rfl (lv_at hl 0 rfl) ?_
        refine va_get (D := (dC, dI)) (ci := 10) (v := .int (iI ((x).1 (w0) 1))) (C := RX10) (T := TX10) (N := 2) hx hb hts hinX10 hown hK hP (w0) (kgw hw_w0 (by omega)) rfl 1 (by decide) (hts (.fieldLink RX10 21 "LikeWords$Word" "used" "I") (by decide +kernel)) (fun _ h9 => h9) rfl dX10_isSame_17 ?_
        refine wi_icmp_ge (tgt := 46) hx hb (by first | assumption | (unfold iR; omega) | exact kR01 (by assumption)) (by first | assumption | (unfold iR; omega) | exact kR01 (by assumption)) dX10_isSame_20 (by decide) (fun c_20 => ?_) (fun c_20 => ?_)
        · skip
          rw [if_pos c_20] at hres
          refine lv_iconst (v := iI (1 : Int)) hx hb dX10_isSame_46 (by decide) ?_
          exact W.zret (v := iI ((1 : Int))) hx hb hr (kz _ (by first | assumption | omega)) (fun t ht hW => ⟨⟨iI ((1 : Int)), x, rfl, ⟨(by have h9 := congrArg (fun z : Int × KS => iI z.1) hres; exact h9), (by have h9 := congrArg (fun z : Int × KS => z.2) hres; exact h9)⟩, by rw [ht]; exact hP, va_K.moved hW.alike hK, hD⟩, hS.F ht⟩) hS.2.2 dX10_isSame_47
        · skip
          rw [if_neg c_20] at hres
          refine lv_aload_n hx hb dX10_isSame_23 rfl (lv_at hl 0 rfl) ?_
          refine va_get (D := (dC, dI)) (ci := 10) (v := .ref (ad ((w0) + 1))) (C := RX10) (T := TX10) (N := 2) hx hb hts hinX10 hown hK hP (w0) (kgw hw_w0 (by omega)) rfl 0 (by decide) (hts (.fieldLink RX10 15 "LikeWords$Word" "signs" "[I") (by decide +kernel)) (fun _ h9 => h9) rfl dX10_isSame_24 ?_
          refine lv_iload_n hx hb dX10_isSame_27 rfl (lv_at hl 2 rfl) ?_
          refine wi_iald (f := (x).2 ((w0) + 1)) (n := kLen ((w0) + 1)) hx hb hK hP ((w0) + 1) 0 (kgi (kI_row hw_w0) (by omega) rfl) rfl (i := i) (by omega) (by rw [kLen_row hw_w0]; exact (by omega)) (kLen_lt _) dX10_isSame_28 ?_
          refine lv_aload_n hx hb dX10_isSame_29 rfl (lv_at hl 1 rfl) ?_
          refine va_get (D := (dC, dI)) (ci := 10) (v := .ref (ad ((w1) + 1))) (C := RX10) (T := TX10) (N := 2) hx hb hts hinX10 hown hK hP (w1) (kgw hw_w1 (by omega)) rfl 0 (by decide) (hts (.fieldLink RX10 15 "LikeWords$Word" "signs" "[I") (by decide +kernel)) (fun _ h9 => h9) rfl dX10_isSame_30 ?_
          refine lv_iload_n hx hb dX10_isSame_33 rfl (lv_at hl 2 rfl) ?_
          refine wi_iald (f := (x).2 ((w1) + 1)) (n := kLen ((w1) + 1)) hx hb hK hP ((w1) + 1) 0 (kgi (kI_row hw_w1) (by omega) rfl) rfl (i := i) (by omega) (by rw [kLen_row hw_w1]; exact (by omega)) (kLen_lt _) dX10_isSame_34 ?_
          refine wi_icmp_eq (tgt := 40) hx hb (ra _) (rb _) dX10_isSame_35 (by decide) (fun c_35 => ?_) (fun c_35 => ?_)
          · skip
            rw [if_pos c_35] at hres
            refine lv_iinc (v := iI ((i) + (1 : Int))) (lv' := [(2, .int (iI ((i) + (1 : Int)))), (0, .ref (ad (w0))), (1, .ref (ad (w1)))]) hx hb dX10_isSame_40 hl (k := 2) rfl (iI_add _ _) (by decide) rfl (fun ls hl => ?_)
            refine lv_goto (tgt := 15) hx hb dX10_isSame_43 (by decide) ?_
            exact ih  ((i) + (1 : Int)) (by omega) (by omega) (by omega) (by omega) hres _ _ ls hP hD hS (lv_sub hl [1, 2, 0] rfl)
          · skip
            rw [if_neg c_35] at hres
            refine lv_iconst (v := iI (0 : Int)) hx hb dX10_isSame_38 (by decide) ?_
            exact W.zret (v := iI ((0 : Int))) hx hb hr (kz _ (by first | assumption | omega)) (fun t ht hW => ⟨⟨iI ((0 : Int)), x, rfl, ⟨(by have h9 := congrArg (fun z : Int × KS => iI z.1) hres; exact h9), (by have h9 := congrArg (fun z : Int × KS => z.2) hres; exact h9)⟩, by rw [ht]; exact hP, va_K.moved hW.alike hK, hD⟩, hS.F ht⟩) hS.2.2 dX10_isSame_39
  have key : ∀ (H : Heap) (locs : List Loc), va_P (dC, dI) vwCl (kWd cI cJ cZ cR wl ad M (x)) H → va_S A s.heap H locs → W p l e (headSpec wsX10_isSame ({ frames := 0, cells := 0, slots := 0, locals := 0 })).room s m ([.ref (ad w0), .ref (ad w1)] : List Value).toArray below meth c H locs 0 0 (MQ below (va_Qi (fun (r : Int32) (u : KS) => r = iI (F_w_isSame x w0 w1).1 ∧ u = (F_w_isSame x w0 w1).2) (kAt dC dI ad cI cJ cZ cR M wl A) A) ([.ref (ad w0), .ref (ad w1)] : List Value).toArray s 0 0 A) (F0 m 0 ls []) := by
    intro H locs hP hS
    have hres : (if ((x).1 (w0) 1) = ((x).1 (w1) 1) then F_w_isSame_s w0 w1 100 0 (x) ((0 : Int)) else ((0 : Int), x)) = F_w_isSame x w0 w1 := rfl
    refine lv_aload_n hx hb dX10_isSame_0 rfl (lv_at hl 0 rfl) ?_
    refine va_get (D := (dC, dI)) (ci := 10) (v := .int (iI ((x).1 (w0) 1))) (C := RX10) (T := TX10) (N := 2) hx hb hts hinX10 hown hK hP (w0) (kgw hw_w0 (by omega)) rfl 1 (by decide) (hts (.fieldLink RX10 21 "LikeWords$Word" "used" "I") (by decide +kernel)) (fun _ h9 => h9) rfl dX10_isSame_1 ?_
    refine lv_aload_n hx hb dX10_isSame_4 rfl (lv_at hl 1 rfl) ?_
    refine va_get (D := (dC, dI)) (ci := 10) (v := .int (iI ((x).1 (w1) 1))) (C := RX10) (T := TX10) (N := 2) hx hb hts hinX10 hown hK hP (w1) (kgw hw_w1 (by omega)) rfl 1 (by decide) (hts (.fieldLink RX10 21 "LikeWords$Word" "used" "I") (by decide +kernel)) (fun _ h9 => h9) rfl dX10_isSame_5 ?_
    refine wi_icmp_eq (tgt := 13) hx hb (by first | assumption | (unfold iR; omega) | exact kR01 (by assumption)) (by first | assumption | (unfold iR; omega) | exact kR01 (by assumption)) dX10_isSame_8 (by decide) (fun c_8 => ?_) (fun c_8 => ?_)
    · skip
      rw [if_pos c_8] at hres
      refine lv_iconst (v := iI (0 : Int)) hx hb dX10_isSame_13 (by decide) ?_
      refine lv_istore_n (lv' := [(2, .int (iI ((0 : Int)))), (0, .ref (ad (w0))), (1, .ref (ad (w1)))]) hx hb dX10_isSame_14 rfl hl (by decide) rfl (fun ls hl => ?_)
      exact (L (100))  ((0 : Int)) (by omega) (by omega) (by omega) (by omega) hres _ _ ls hP hD hS (lv_sub hl [1, 2, 0] rfl)
    · skip
      rw [if_neg c_8] at hres
      refine lv_iconst (v := iI (0 : Int)) hx hb dX10_isSame_11 (by decide) ?_
      exact W.zret (v := iI ((0 : Int))) hx hb hr (kz _ (by first | assumption | omega)) (fun t ht hW => ⟨⟨iI ((0 : Int)), x, rfl, ⟨(by have h9 := congrArg (fun z : Int × KS => iI z.1) hres; exact h9), (by have h9 := congrArg (fun z : Int × KS => z.2) hres; exact h9)⟩, by rw [ht]; exact hP, va_K.moved hW.alike hK, hD⟩, hS.F ht⟩) hS.2.2 dX10_isSame_12
  exact key _ _ hP hS
theorem F_w_isSame_sfr (w0 : Nat) (w1 : Nat) : ∀ n : Nat, (∀ (y : KS) (v0 : Int), ksame [] [] y (F_w_isSame_s w0 w1 n 0 y v0).2) := by
  intro n
  induction n with
  | zero => exact fun y _ => km_rf _ _ _
  | succ n ih =>
    skip
    · intro y i
      rw [F_w_isSame_e0]
      by_cases hc : ((y).1 (w0) 1) ≤ (i)
      · rw [if_pos hc]
        exact (km_rf _ _ _)
      · rw [if_neg hc]
        by_cases hc : (((y).2 ((w0) + 1)) (i).toNat) = (((y).2 ((w1) + 1)) (i).toNat)
        · rw [if_pos hc]
          exact km_tr ((km_rf _ _ _)) (ih (y) ((i) + (1 : Int)))
        · rw [if_neg hc]
          exact (km_rf _ _ _)
theorem F_w_isSame_fr (x : KS) (w0 : Nat) (w1 : Nat) : ksame [] [] x (F_w_isSame x w0 w1).2 := by
  unfold F_w_isSame
  by_cases hc : ((x).1 (w0) 1) = ((x).1 (w1) 1)
  · rw [if_pos hc]
    exact km_tr ((km_rf _ _ _)) ((F_w_isSame_sfr w0 w1 (100)) (x) ((0 : Int)))
  · rw [if_neg hc]
    exact (km_rf _ _ _)
theorem F_w_isSame_2 (x : KS) (w0 : Nat) (w1 : Nat) : (F_w_isSame x w0 w1).2 = x := km_nil (F_w_isSame_fr x w0 w1)
def F_w_pack_s (w0 : Nat) : Nat → Nat → KS → Int → Int → Int → Int → Int × KS
  | 0, _, x, _, _, _, _ => (0, x)
  | n + 1, t, x, p0, p1, p2, p3 => match t with
    | 0 => (fun (f0 : Int) (t0 : Int) (q : Int) (i : Int) => (if ((x).1 (w0) 1) ≤ (i) then (q, x) else (if (t0) ≤ (i) then (q, x) else (if ((f0) + ((30 : Int))) ≤ (i) then (q, x) else F_w_pack_s w0 n 0 (x) (f0) (t0) (((q) * ((4 : Int))) + (((x).2 ((w0) + 1)) (i).toNat)) ((i) + (1 : Int)))))) p0 p1 p2 p3
    | _ => (0, x)
theorem F_w_pack_e0 (w0 : Nat) (n : Nat) (x : KS) (f0 : Int) (t0 : Int) (q : Int) (i : Int) : F_w_pack_s w0 (n + 1) 0 x f0 t0 q i = (if ((x).1 (w0) 1) ≤ (i) then (q, x) else (if (t0) ≤ (i) then (q, x) else (if ((f0) + ((30 : Int))) ≤ (i) then (q, x) else F_w_pack_s w0 n 0 (x) (f0) (t0) (((q) * ((4 : Int))) + (((x).2 ((w0) + 1)) (i).toNat)) ((i) + (1 : Int))))) := rfl
def F_w_pack (x : KS) (w0 : Nat) (f0 : Int) (t0 : Int) : Int × KS := (if (0) ≤ (f0) then F_w_pack_s w0 1100 0 (x) (f0) (t0) ((1 : Int)) (f0) else F_w_pack_s w0 1100 0 (x) (f0) (t0) ((1 : Int)) ((0 : Int)))
set_option maxHeartbeats 4000000 in
set_option maxRecDepth 100000 in
/-- LikeWords$Word, pack -/
theorem c_w_pack (l : Launch) (dC : Nat → ClassId) (dI : Nat → Nat → Nat) (ad : Nat → Nat) (cI cJ cZ cR : ClassId) (M wl sz : Nat) (x : KS) (w0 : Nat) (f0 : Int) (t0 : Int) (hM : 87 ≤ M) (hw_w0 : kW w0 = true) (hc_w0 : w0 + 1 < M) (f1 : -1000 ≤ f0) (f2 : f0 ≤ 1000) (rt : iR t0) (u0 : 0 ≤ x.1 w0 1) (u1 : x.1 w0 1 ≤ kL w0) (ra : ∀ j : Nat, iR (x.2 (w0 + 1) j)) : Met l yX10_pack wsX10_pack ({ frames := 0, cells := 0, slots := 0, locals := 0 }) (kPc dC dI ad cI cJ cZ cR M wl sz x [.ref (ad w0), .int (iI f0), .int (iI t0)]) (va_Ql (fun (r : Int64) (u : KS) => r = iL (F_w_pack x w0 f0 t0).1 ∧ u = (F_w_pack x w0 f0 t0).2) (kAt dC dI ad cI cJ cZ cR M wl (va_A (kWd cI cJ cZ cR wl ad M (x)) sz)) (va_A (kWd cI cJ cZ cR wl ad M (x)) sz)) 0 0 (va_A (kWd cI cJ cZ cR wl ad M (x)) sz) := by
  refine Met.ofW (cc := cX10_pack) (maxL := 6) (ret := (some .long)) (by decide) rfl ?_
  intro p e s m args below meth c s₁ B hml hv
  obtain ⟨rfl, hsz, hP, hK, hD0, hNw⟩ := hv
  have hx := B.exec
  have hb := B.bytes
  have hr := B.returns
  have hts := atoms_spec (ws := wsX10_pack) B.pre
  have hown : s.vm.findClass RX10 = some m.cls := findClass_of_methodNamed B.named
  have hlocks := B.notSynchronized
  have hinX10 : ∀ w ∈ u_ws RX10 TX10 2, w ∈ wsX10_pack := by decide +kernel
  subst hsz
  have hD := hD0.self (sz := s.heap.size)
  generalize hAe : va_A (kWd cI cJ cZ cR wl ad M (x)) s.heap.size = A at hD ⊢
  have hA : ∀ q : Nat, s.heap.size ≤ q → A q := fun q h => by rw [← hAe]; exact Or.inr h
  have hS : va_S A s.heap s.heap [] := va_S.rf
  have hl := lv_entry ([.ref (ad w0), .int (iI f0), .int (iI t0)]) (n := 6) (Nat.le_of_ble_eq_true rfl)
  rw [lg_entry_eq]
  generalize (lg_sl ([.ref (ad w0), .int (iI f0), .int (iI t0)]) ++ List.replicate (6 - (lg_sl ([.ref (ad w0), .int (iI f0), .int (iI t0)])).length) Slot.unset).toArray = ls at hl ⊢
  have hl : lv_has ls 6 [(0, .ref (ad (w0))), (1, .int (iI (f0))), (2, .int (iI (t0)))] := hl
  have k60 := kL_le w0
  have L : ∀ n : Nat, (∀ (q : Int) (i : Int), (0 ≤ i) → (i ≤ 1000) → (1000 - i < n) → F_w_pack_s w0 n 0 x f0 t0 q i = F_w_pack x w0 f0 t0 → ∀ (H : Heap) (locs : List Loc) (ls : Array Slot), va_P (dC, dI) vwCl (kWd cI cJ cZ cR wl ad M (x)) H → va_D A (kWd cI cJ cZ cR wl ad M (x)) → va_S A s.heap H locs → lv_has ls 6 [(0, .ref (ad (w0))), (1, .int (iI (f0))), (2, .int (iI (t0))), (3, .long (iL (q))), (5, .int (iI (i)))] → W p l e (headSpec wsX10_pack ({ frames := 0, cells := 0, slots := 0, locals := 0 })).room s m ([.ref (ad w0), .int (iI f0), .int (iI t0)] : List Value).toArray below meth c H locs 0 0 (MQ below (va_Ql (fun (r : Int64) (u : KS) => r = iL (F_w_pack x w0 f0 t0).1 ∧ u = (F_w_pack x w0 f0 t0).2) (kAt dC dI ad cI cJ cZ cR M wl A) A) ([.ref (ad w0), .int (iI f0), .int (iI t0)] : List Value).toArray s 0 0 A) (F0 m 13 ls [])) := by
    intro n
    induction n with
    | zero =>
      skip
      · intro q i i0 i1 fu hres
        exact absurd fu (by omega)
    | succ n ih =>
      skip
      · intro q i i0 i1 fu hres H locs ls hP hD hS hl
        rw [F_w_pack_e0] at hres
        refine lv_iload hx hb dX10_pack_13 (lv_at hl 4 rfl) ?_
        refine lv_aload_n hx hb dX10_pack_15 rfl (lv_at hl 0 rfl) ?_
        refine va_get (D := (dC, dI)) (ci := 10) (v := .int (iI ((x).1 (w0) 1))) (C := RX10) (T := TX10) (N := 2) hx hb hts hinX10 hown hK hP (w0) (kgw hw_w0 (by omega)) rfl 1 (by decide) (hts (.fieldLink RX10 21 "LikeWords$Word" "used" "I") (by decide +kernel)) (fun _ h9 => h9) rfl dX10_pack_16 ?_
        refine wi_icmp_ge (tgt := 58) hx hb (by first | assumption | (unfold iR; omega) | exact kR01 (by assumption)) (by first | assumption | (unfold iR; omega) | exact kR01 (by assumption)) dX10_pack_19 (by decide) (fun c_19 => ?_) (fun c_19 => ?_)
        · skip
          rw [if_pos c_19] at hres
          refine lv_lload_n hx hb dX10_pack_58 rfl (lv_at hl 3 rfl) ?_
          exact W.lret (v := iL (q)) hx hb hr (fun t ht hW => ⟨⟨iL (q), x, rfl, ⟨(by have h9 := congrArg (fun z : Int × KS => iL z.1) hres; exact h9), (by have h9 := congrArg (fun z : Int × KS => z.2) hres; exact h9)⟩, by rw [ht]; exact hP, va_K.moved hW.alike hK, hD⟩, hS.F ht⟩) hS.2.2 dX10_pack_59
        · skip
          rw [if_neg c_19] at hres
          refine lv_iload hx hb dX10_pack_22 (lv_at hl 4 rfl) ?_
          refine lv_iload_n hx hb dX10_pack_24 rfl (lv_at hl 2 rfl) ?_
          refine wi_icmp_ge (tgt := 58) hx hb (by first | assumption | (unfold iR; omega) | exact kR01 (by assumption)) (by first | assumption | (unfold iR; omega) | exact kR01 (by assumption)) dX10_pack_25 (by decide) (fun c_25 => ?_) (fun c_25 => ?_)
          · skip
            rw [if_pos c_25] at hres
            refine lv_lload_n hx hb dX10_pack_58 rfl (lv_at hl 3 rfl) ?_
            exact W.lret (v := iL (q)) hx hb hr (fun t ht hW => ⟨⟨iL (q), x, rfl, ⟨(by have h9 := congrArg (fun z : Int × KS => iL z.1) hres; exact h9), (by have h9 := congrArg (fun z : Int × KS => z.2) hres; exact h9)⟩, by rw [ht]; exact hP, va_K.moved hW.alike hK, hD⟩, hS.F ht⟩) hS.2.2 dX10_pack_59
          · skip
            rw [if_neg c_25] at hres
            refine lv_iload hx hb dX10_pack_28 (lv_at hl 4 rfl) ?_
            refine lv_iload_n hx hb dX10_pack_30 rfl (lv_at hl 1 rfl) ?_
            refine lv_bipush (v := iI (30 : Int)) hx hb dX10_pack_31 (by decide) ?_
            refine wi_iadd hx hb dX10_pack_33 ?_
            refine wi_icmp_ge (tgt := 58) hx hb (by first | assumption | (unfold iR; omega) | exact kR01 (by assumption)) (by first | assumption | (unfold iR; omega) | exact kR01 (by assumption)) dX10_pack_34 (by decide) (fun c_34 => ?_) (fun c_34 => ?_)
            · skip
              rw [if_pos c_34] at hres
              refine lv_lload_n hx hb dX10_pack_58 rfl (lv_at hl 3 rfl) ?_
              exact W.lret (v := iL (q)) hx hb hr (fun t ht hW => ⟨⟨iL (q), x, rfl, ⟨(by have h9 := congrArg (fun z : Int × KS => iL z.1) hres; exact h9), (by have h9 := congrArg (fun z : Int × KS => z.2) hres; exact h9)⟩, by rw [ht]; exact hP, va_K.moved hW.alike hK, hD⟩, hS.F ht⟩) hS.2.2 dX10_pack_59
            · skip
              rw [if_neg c_34] at hres
              refine lv_lload_n hx hb dX10_pack_37 rfl (lv_at hl 3 rfl) ?_
              refine lv_ldc2 (v := iL (4 : Int)) hx hb hown (hts (.constantLong RX10 28 (4)) (by decide +kernel)) dX10_pack_38 ?_
              refine wi_lmul hx hb dX10_pack_41 ?_
              refine lv_aload_n hx hb dX10_pack_42 rfl (lv_at hl 0 rfl) ?_
              refine va_get (D := (dC, dI)) (ci := 10) (v := .ref (ad ((w0) + 1))) (C := RX10) (T := TX10) (N := 2) hx hb hts hinX10 hown hK hP (w0) (kgw hw_w0 (by omega)) rfl 0 (by decide) (hts (.fieldLink RX10 15 "LikeWords$Word" "signs" "[I") (by decide +kernel)) (fun _ h9 => h9) rfl dX10_pack_43 ?_
              refine lv_iload hx hb dX10_pack_46 (lv_at hl 4 rfl) ?_
              refine wi_iald (f := (x).2 ((w0) + 1)) (n := kLen ((w0) + 1)) hx hb hK hP ((w0) + 1) 0 (kgi (kI_row hw_w0) (by omega) rfl) rfl (i := i) (by omega) (by rw [kLen_row hw_w0]; exact (by omega)) (kLen_lt _) dX10_pack_48 ?_
              refine wi_i2l hx hb (ra _) dX10_pack_49 ?_
              refine wi_ladd hx hb dX10_pack_50 ?_
              refine lv_lstore_n (lv' := [(3, .long (iL (((q) * ((4 : Int))) + (((x).2 ((w0) + 1)) (i).toNat)))), (0, .ref (ad (w0))), (1, .int (iI (f0))), (2, .int (iI (t0))), (5, .int (iI (i)))]) hx hb dX10_pack_51 rfl hl (by decide) rfl (fun ls hl => ?_)
              refine lv_iinc (v := iI ((i) + (1 : Int))) (lv' := [(5, .int (iI ((i) + (1 : Int)))), (3, .long (iL (((q) * ((4 : Int))) + (((x).2 ((w0) + 1)) (i).toNat)))), (0, .ref (ad (w0))), (1, .int (iI (f0))), (2, .int (iI (t0)))]) hx hb dX10_pack_52 hl (k := 4) rfl (iI_add _ _) (by decide) rfl (fun ls hl => ?_)
              refine lv_goto (tgt := 13) hx hb dX10_pack_55 (by decide) ?_
              exact ih  (((q) * ((4 : Int))) + (((x).2 ((w0) + 1)) (i).toNat)) ((i) + (1 : Int)) (by omega) (by omega) (by omega) hres _ _ ls hP hD hS (lv_sub hl [2, 3, 4, 1, 0] rfl)
  have key : ∀ (H : Heap) (locs : List Loc), va_P (dC, dI) vwCl (kWd cI cJ cZ cR wl ad M (x)) H → va_S A s.heap H locs → W p l e (headSpec wsX10_pack ({ frames := 0, cells := 0, slots := 0, locals := 0 })).room s m ([.ref (ad w0), .int (iI f0), .int (iI t0)] : List Value).toArray below meth c H locs 0 0 (MQ below (va_Ql (fun (r : Int64) (u : KS) => r = iL (F_w_pack x w0 f0 t0).1 ∧ u = (F_w_pack x w0 f0 t0).2) (kAt dC dI ad cI cJ cZ cR M wl A) A) ([.ref (ad w0), .int (iI f0), .int (iI t0)] : List Value).toArray s 0 0 A) (F0 m 0 ls []) := by
    intro H locs hP hS
    have hres : (if (0) ≤ (f0) then F_w_pack_s w0 1100 0 (x) (f0) (t0) ((1 : Int)) (f0) else F_w_pack_s w0 1100 0 (x) (f0) (t0) ((1 : Int)) ((0 : Int))) = F_w_pack x w0 f0 t0 := rfl
    refine lv_lconst (v := iL 1) hx hb dX10_pack_0 (by decide) ?_
    refine lv_lstore_n (lv' := [(3, .long (iL ((1 : Int)))), (0, .ref (ad (w0))), (1, .int (iI (f0))), (2, .int (iI (t0)))]) hx hb dX10_pack_1 rfl hl (by decide) rfl (fun ls hl => ?_)
    refine lv_iload_n hx hb dX10_pack_2 rfl (lv_at hl 2 rfl) ?_
    refine wi_if_ge (tgt := 10) hx hb (by first | assumption | (unfold iR; omega) | exact kR01 (by assumption)) dX10_pack_3 (by decide) (fun c_3 => ?_) (fun c_3 => ?_)
    · skip
      rw [if_pos c_3] at hres
      refine lv_iload_n hx hb dX10_pack_10 rfl (lv_at hl 2 rfl) ?_
      refine lv_istore (lv' := [(5, .int (iI (f0))), (3, .long (iL ((1 : Int)))), (0, .ref (ad (w0))), (1, .int (iI (f0))), (2, .int (iI (t0)))]) hx hb dX10_pack_11 hl (by decide) rfl (fun ls hl => ?_)
      exact (L (1100))  ((1 : Int)) (f0) (by omega) (by omega) (by omega) hres _ _ ls hP hD hS (lv_sub hl [2, 3, 4, 1, 0] rfl)
    · skip
      rw [if_neg c_3] at hres
      refine lv_iconst (v := iI (0 : Int)) hx hb dX10_pack_6 (by decide) ?_
      refine lv_goto (tgt := 11) hx hb dX10_pack_7 (by decide) ?_
      refine lv_istore (lv' := [(5, .int (iI ((0 : Int)))), (3, .long (iL ((1 : Int)))), (0, .ref (ad (w0))), (1, .int (iI (f0))), (2, .int (iI (t0)))]) hx hb dX10_pack_11 hl (by decide) rfl (fun ls hl => ?_)
      exact (L (1100))  ((1 : Int)) ((0 : Int)) (by omega) (by omega) (by omega) hres _ _ ls hP hD hS (lv_sub hl [2, 3, 4, 1, 0] rfl)
  exact key _ _ hP hS
theorem F_w_pack_sfr (w0 : Nat) : ∀ n : Nat, (∀ (y : KS) (v0 : Int) (v1 : Int) (v2 : Int) (v3 : Int), ksame [] [] y (F_w_pack_s w0 n 0 y v0 v1 v2 v3).2) := by
  intro n
  induction n with
  | zero => exact fun y _ _ _ _ => km_rf _ _ _
  | succ n ih =>
    skip
    · intro y f0 t0 q i
      rw [F_w_pack_e0]
      by_cases hc : ((y).1 (w0) 1) ≤ (i)
      · rw [if_pos hc]
        exact (km_rf _ _ _)
      · rw [if_neg hc]
        by_cases hc : (t0) ≤ (i)
        · rw [if_pos hc]
          exact (km_rf _ _ _)
        · rw [if_neg hc]
          by_cases hc : ((f0) + ((30 : Int))) ≤ (i)
          · rw [if_pos hc]
            exact (km_rf _ _ _)
          · rw [if_neg hc]
            exact km_tr ((km_rf _ _ _)) (ih (y) (f0) (t0) (((q) * ((4 : Int))) + (((y).2 ((w0) + 1)) (i).toNat)) ((i) + (1 : Int)))
theorem F_w_pack_fr (x : KS) (w0 : Nat) (f0 : Int) (t0 : Int) : ksame [] [] x (F_w_pack x w0 f0 t0).2 := by
  unfold F_w_pack
  by_cases hc : (0) ≤ (f0)
  · rw [if_pos hc]
    exact km_tr ((km_rf _ _ _)) ((F_w_pack_sfr w0 (1100)) (x) (f0) (t0) ((1 : Int)) (f0))
  · rw [if_neg hc]
    exact km_tr ((km_rf _ _ _)) ((F_w_pack_sfr w0 (1100)) (x) (f0) (t0) ((1 : Int)) ((0 : Int)))
theorem F_w_pack_2 (x : KS) (w0 : Nat) (f0 : Int) (t0 : Int) : (F_w_pack x w0 f0 t0).2 = x := km_nil (F_w_pack_fr x w0 f0 t0)
theorem iSr_RL (a b : Int) : iRL (iSr a b) := by
  unfold iSr iRL
  exact ⟨Int64.le_toInt _, Int64.toInt_lt _⟩
theorem iN_RL (a b : Int) : iRL (iN a b) := by
  unfold iN iRL
  exact ⟨Int64.le_toInt _, Int64.toInt_lt _⟩
theorem iO_RL (a b : Int) : iRL (iO a b) := by
  unfold iO iRL
  exact ⟨Int64.le_toInt _, Int64.toInt_lt _⟩
theorem iSl_RL (a b : Int) : iRL (iSl a b) := by
  unfold iSl iRL
  exact ⟨Int64.le_toInt _, Int64.toInt_lt _⟩
theorem iUs_RL (a b : Int) : iRL (iUs a b) := by
  unfold iUs iRL
  exact ⟨Int64.le_toInt _, Int64.toInt_lt _⟩
def F_w_unpack_s (w0 : Nat) : Nat → Nat → KS → Int → Int → Int → Int → Int → Int × KS
  | 0, _, x, _, _, _, _, _ => (0, x)
  | n + 1, t, x, p0, p1, p2, p3, p4 => match t with
    | 0 => (fun (h0 : Int) (t0 : Int) (g : Int) => (if ((2 : Int)) ≤ (g) then (0, x) else (if (g) = (0) then F_w_unpack_s w0 n 1 (x) (h0) (t0) (g) (h0) ((0 : Int)) else F_w_unpack_s w0 n 1 (x) (h0) (t0) (g) (t0) ((0 : Int))))) p0 p1 p2
    | 1 => (fun (h0 : Int) (t0 : Int) (g : Int) (q : Int) (i : Int) => (if ((30 : Int)) ≤ (i) then F_w_unpack_s w0 n 2 (x) (h0) (t0) (g) (q) ((i) - ((1 : Int))) else (if (iC (iSr (q) (((2 : Int)) * (i))) ((1 : Int))) ≤ (0) then F_w_unpack_s w0 n 2 (x) (h0) (t0) (g) (q) ((i) - ((1 : Int))) else F_w_unpack_s w0 n 1 (x) (h0) (t0) (g) (q) ((i) + (1 : Int))))) p0 p1 p2 p3 p4
    | 2 => (fun (h0 : Int) (t0 : Int) (g : Int) (q : Int) (i : Int) => (if (i) < (0) then F_w_unpack_s w0 n 0 (x) (h0) (t0) ((g) + (1 : Int)) (0) (0) else (if (((kL (w0) : Nat) : Int)) ≤ ((x).1 (w0) 1) then F_w_unpack_s w0 n 0 (x) (h0) (t0) ((g) + (1 : Int)) (0) (0) else F_w_unpack_s w0 n 2 (kA (kS (x) (w0) 1 (((x).1 (w0) 1) + ((1 : Int)))) ((w0) + 1) ((x).1 (w0) 1).toNat (iN (iSr (q) (((2 : Int)) * (i))) ((3 : Int)))) (h0) (t0) (g) (q) ((i) + (-1 : Int))))) p0 p1 p2 p3 p4
    | _ => (0, x)
theorem F_w_unpack_e0 (w0 : Nat) (n : Nat) (x : KS) (h0 : Int) (t0 : Int) (g : Int) (q0 : Int) (q1 : Int) : F_w_unpack_s w0 (n + 1) 0 x h0 t0 g q0 q1 = (if ((2 : Int)) ≤ (g) then (0, x) else (if (g) = (0) then F_w_unpack_s w0 n 1 (x) (h0) (t0) (g) (h0) ((0 : Int)) else F_w_unpack_s w0 n 1 (x) (h0) (t0) (g) (t0) ((0 : Int)))) := rfl
theorem F_w_unpack_e1 (w0 : Nat) (n : Nat) (x : KS) (h0 : Int) (t0 : Int) (g : Int) (q : Int) (i : Int) : F_w_unpack_s w0 (n + 1) 1 x h0 t0 g q i = (if ((30 : Int)) ≤ (i) then F_w_unpack_s w0 n 2 (x) (h0) (t0) (g) (q) ((i) - ((1 : Int))) else (if (iC (iSr (q) (((2 : Int)) * (i))) ((1 : Int))) ≤ (0) then F_w_unpack_s w0 n 2 (x) (h0) (t0) (g) (q) ((i) - ((1 : Int))) else F_w_unpack_s w0 n 1 (x) (h0) (t0) (g) (q) ((i) + (1 : Int)))) := rfl
theorem F_w_unpack_e2 (w0 : Nat) (n : Nat) (x : KS) (h0 : Int) (t0 : Int) (g : Int) (q : Int) (i : Int) : F_w_unpack_s w0 (n + 1) 2 x h0 t0 g q i = (if (i) < (0) then F_w_unpack_s w0 n 0 (x) (h0) (t0) ((g) + (1 : Int)) (0) (0) else (if (((kL (w0) : Nat) : Int)) ≤ ((x).1 (w0) 1) then F_w_unpack_s w0 n 0 (x) (h0) (t0) ((g) + (1 : Int)) (0) (0) else F_w_unpack_s w0 n 2 (kA (kS (x) (w0) 1 (((x).1 (w0) 1) + ((1 : Int)))) ((w0) + 1) ((x).1 (w0) 1).toNat (iN (iSr (q) (((2 : Int)) * (i))) ((3 : Int)))) (h0) (t0) (g) (q) ((i) + (-1 : Int)))) := rfl
def F_w_unpack (x : KS) (w0 : Nat) (h0 : Int) (t0 : Int) : Int × KS := F_w_unpack_s w0 300 0 (kS (x) (w0) 1 ((0 : Int))) (h0) (t0) ((0 : Int)) (0) (0)
set_option maxHeartbeats 4000000 in
set_option maxRecDepth 100000 in
/-- LikeWords$Word, unpack -/
theorem c_w_unpack (l : Launch) (dC : Nat → ClassId) (dI : Nat → Nat → Nat) (ad : Nat → Nat) (cI cJ cZ cR : ClassId) (M wl sz : Nat) (x : KS) (w0 : Nat) (h0 : Int) (t0 : Int) (hM : 87 ≤ M) (hw_w0 : kW w0 = true) (hc_w0 : w0 + 1 < M) (rh : iRL h0) (rt : iRL t0) : Met l yX10_unpack wsX10_unpack ({ frames := 0, cells := 0, slots := 0, locals := 0 }) (kPc dC dI ad cI cJ cZ cR M wl sz x [.ref (ad w0), .long (iL h0), .long (iL t0)]) (va_Qv (fun u : KS => u = (F_w_unpack x w0 h0 t0).2) (kAt dC dI ad cI cJ cZ cR M wl (va_A (kWd cI cJ cZ cR wl ad M (x)) sz)) (va_A (kWd cI cJ cZ cR wl ad M (x)) sz)) 0 0 (va_A (kWd cI cJ cZ cR wl ad M (x)) sz) := by
  refine Met.ofW (cc := cX10_unpack) (maxL := 10) (ret := none) (by decide) rfl ?_
  intro p e s m args below meth c s₁ B hml hv
  obtain ⟨rfl, hsz, hP, hK, hD0, hNw⟩ := hv
  have hx := B.exec
  have hb := B.bytes
  have hr := B.returns
  have hts := atoms_spec (ws := wsX10_unpack) B.pre
  have hown : s.vm.findClass RX10 = some m.cls := findClass_of_methodNamed B.named
  have hlocks := B.notSynchronized
  have hinX10 : ∀ w ∈ u_ws RX10 TX10 2, w ∈ wsX10_unpack := by decide +kernel
  subst hsz
  have hD := hD0.self (sz := s.heap.size)
  generalize hAe : va_A (kWd cI cJ cZ cR wl ad M (x)) s.heap.size = A at hD ⊢
  have hA : ∀ q : Nat, s.heap.size ≤ q → A q := fun q h => by rw [← hAe]; exact Or.inr h
  have hS : va_S A s.heap s.heap [] := va_S.rf
  have hl := lv_entry ([.ref (ad w0), .long (iL h0), .long (iL t0)]) (n := 10) (Nat.le_of_ble_eq_true rfl)
  rw [lg_entry_eq]
  generalize (lg_sl ([.ref (ad w0), .long (iL h0), .long (iL t0)]) ++ List.replicate (10 - (lg_sl ([.ref (ad w0), .long (iL h0), .long (iL t0)])).length) Slot.unset).toArray = ls at hl ⊢
  have hl : lv_has ls 10 [(0, .ref (ad (w0))), (1, .long (iL (h0))), (3, .long (iL (t0)))] := hl
  have k60 := kL_le w0
  have L : ∀ n : Nat, (∀ (y : KS) (g : Int), (0 ≤ g) → (g ≤ 2) → (0 ≤ y.1 w0 1) → (y.1 w0 1 ≤ kL w0) → ((2 - g) * 100 < n) → F_w_unpack_s w0 n 0 y h0 t0 g 0 0 = F_w_unpack x w0 h0 t0 → ∀ (H : Heap) (locs : List Loc) (ls : Array Slot), va_P (dC, dI) vwCl (kWd cI cJ cZ cR wl ad M (y)) H → va_D A (kWd cI cJ cZ cR wl ad M (y)) → va_S A s.heap H locs → lv_has ls 10 [(0, .ref (ad (w0))), (1, .long (iL (h0))), (3, .long (iL (t0))), (5, .int (iI (g)))] → W p l e (headSpec wsX10_unpack ({ frames := 0, cells := 0, slots := 0, locals := 0 })).room s m ([.ref (ad w0), .long (iL h0), .long (iL t0)] : List Value).toArray below meth c H locs 0 0 (MQ below (va_Qv (fun u : KS => u = (F_w_unpack x w0 h0 t0).2) (kAt dC dI ad cI cJ cZ cR M wl A) A) ([.ref (ad w0), .long (iL h0), .long (iL t0)] : List Value).toArray s 0 0 A) (F0 m 8 ls [])) ∧ (∀ (y : KS) (g : Int) (q : Int) (i : Int), (0 ≤ g) → (g ≤ 1) → (0 ≤ i) → (i ≤ 30) → (0 ≤ y.1 w0 1) → (y.1 w0 1 ≤ kL w0) → ((2 - g) * 100 - 1 - i < n) → F_w_unpack_s w0 n 1 y h0 t0 g q i = F_w_unpack x w0 h0 t0 → ∀ (H : Heap) (locs : List Loc) (ls : Array Slot), va_P (dC, dI) vwCl (kWd cI cJ cZ cR wl ad M (y)) H → va_D A (kWd cI cJ cZ cR wl ad M (y)) → va_S A s.heap H locs → lv_has ls 10 [(0, .ref (ad (w0))), (1, .long (iL (h0))), (3, .long (iL (t0))), (5, .int (iI (g))), (6, .long (iL (q))), (8, .int (iI (i)))] → W p l e (headSpec wsX10_unpack ({ frames := 0, cells := 0, slots := 0, locals := 0 })).room s m ([.ref (ad w0), .long (iL h0), .long (iL t0)] : List Value).toArray below meth c H locs 0 0 (MQ below (va_Qv (fun u : KS => u = (F_w_unpack x w0 h0 t0).2) (kAt dC dI ad cI cJ cZ cR M wl A) A) ([.ref (ad w0), .long (iL h0), .long (iL t0)] : List Value).toArray s 0 0 A) (F0 m 29 ls [])) ∧ (∀ (y : KS) (g : Int) (q : Int) (i : Int), (0 ≤ g) → (g ≤ 1) → (-1 ≤ i) → (i ≤ 29) → (0 ≤ y.1 w0 1) → (y.1 w0 1 ≤ kL w0) → ((2 - g) * 100 - 62 + (i + 1) < n) → F_w_unpack_s w0 n 2 y h0 t0 g q i = F_w_unpack x w0 h0 t0 → ∀ (H : Heap) (locs : List Loc) (ls : Array Slot), va_P (dC, dI) vwCl (kWd cI cJ cZ cR wl ad M (y)) H → va_D A (kWd cI cJ cZ cR wl ad M (y)) → va_S A s.heap H locs → lv_has ls 10 [(0, .ref (ad (w0))), (1, .long (iL (h0))), (3, .long (iL (t0))), (5, .int (iI (g))), (6, .long (iL (q))), (9, .int (iI (i)))] → W p l e (headSpec wsX10_unpack ({ frames := 0, cells := 0, slots := 0, locals := 0 })).room s m ([.ref (ad w0), .long (iL h0), .long (iL t0)] : List Value).toArray below meth c H locs 0 0 (MQ below (va_Qv (fun u : KS => u = (F_w_unpack x w0 h0 t0).2) (kAt dC dI ad cI cJ cZ cR M wl A) A) ([.ref (ad w0), .long (iL h0), .long (iL t0)] : List Value).toArray s 0 0 A) (F0 m 60 ls [])) := by
    intro n
    induction n with
    | zero =>
      refine ⟨?_, ?_, ?_⟩
      · intro y g g0 g2 y0 y1 fu hres
        exact absurd fu (by omega)
      · intro y g q i g0 g2 i0 i1 y0 y1 fu hres
        exact absurd fu (by omega)
      · intro y g q i g0 g2 i0 i1 y0 y1 fu hres
        exact absurd fu (by omega)
    | succ n ih =>
      refine ⟨?_, ?_, ?_⟩
      · intro y g g0 g2 y0 y1 fu hres H locs ls hP hD hS hl
        rw [F_w_unpack_e0] at hres
        refine lv_iload hx hb dX10_unpack_8 (lv_at hl 3 rfl) ?_
        refine lv_iconst (v := iI (2 : Int)) hx hb dX10_unpack_10 (by decide) ?_
        refine wi_icmp_ge (tgt := 117) hx hb (by first | assumption | (unfold iR; omega) | exact kR01 (by assumption)) ⟨by decide, by decide⟩ dX10_unpack_11 (by decide) (fun c_11 => ?_) (fun c_11 => ?_)
        · skip
          rw [if_pos c_11] at hres
          exact W.vret hx hb hr (fun t ht hW => ⟨⟨y, rfl, (by have h9 := congrArg (fun z : Int × KS => z.2) hres; exact h9), by rw [ht]; exact hP, va_K.moved hW.alike hK, hD⟩, hS.F ht⟩) hS.2.2 dX10_unpack_117
        · skip
          rw [if_neg c_11] at hres
          refine lv_iload hx hb dX10_unpack_14 (lv_at hl 3 rfl) ?_
          refine wi_if_ne (tgt := 23) hx hb (by first | assumption | (unfold iR; omega) | exact kR01 (by assumption)) dX10_unpack_16 (by decide) (fun c_16 => ?_) (fun c_16 => ?_)
          · skip
            rw [if_neg c_16] at hres
            refine lv_lload_n hx hb dX10_unpack_23 rfl (lv_at hl 2 rfl) ?_
            refine lv_lstore (lv' := [(6, .long (iL (t0))), (0, .ref (ad (w0))), (1, .long (iL (h0))), (3, .long (iL (t0))), (5, .int (iI (g)))]) hx hb dX10_unpack_24 hl (by decide) rfl (fun ls hl => ?_)
            refine lv_iconst (v := iI (0 : Int)) hx hb dX10_unpack_26 (by decide) ?_
            refine lv_istore (lv' := [(8, .int (iI ((0 : Int)))), (6, .long (iL (t0))), (0, .ref (ad (w0))), (1, .long (iL (h0))), (3, .long (iL (t0))), (5, .int (iI (g)))]) hx hb dX10_unpack_27 hl (by decide) rfl (fun ls hl => ?_)
            exact ih.2.1 (y) (g) (t0) ((0 : Int)) (by omega) (by omega) (by omega) (by omega) (by omega) (by omega) (by omega) hres _ _ ls hP hD hS (lv_sub hl [2, 3, 4, 5, 1, 0] rfl)
          · skip
            rw [if_pos c_16] at hres
            refine lv_lload_n hx hb dX10_unpack_19 rfl (lv_at hl 1 rfl) ?_
            refine lv_goto (tgt := 24) hx hb dX10_unpack_20 (by decide) ?_
            refine lv_lstore (lv' := [(6, .long (iL (h0))), (0, .ref (ad (w0))), (1, .long (iL (h0))), (3, .long (iL (t0))), (5, .int (iI (g)))]) hx hb dX10_unpack_24 hl (by decide) rfl (fun ls hl => ?_)
            refine lv_iconst (v := iI (0 : Int)) hx hb dX10_unpack_26 (by decide) ?_
            refine lv_istore (lv' := [(8, .int (iI ((0 : Int)))), (6, .long (iL (h0))), (0, .ref (ad (w0))), (1, .long (iL (h0))), (3, .long (iL (t0))), (5, .int (iI (g)))]) hx hb dX10_unpack_27 hl (by decide) rfl (fun ls hl => ?_)
            exact ih.2.1 (y) (g) (h0) ((0 : Int)) (by omega) (by omega) (by omega) (by omega) (by omega) (by omega) (by omega) hres _ _ ls hP hD hS (lv_sub hl [2, 3, 4, 5, 1, 0] rfl)
      · intro y g q i g0 g2 i0 i1 y0 y1 fu hres H locs ls hP hD hS hl
        rw [F_w_unpack_e1] at hres
        refine lv_iload hx hb dX10_unpack_29 (lv_at hl 5 rfl) ?_
        refine lv_bipush (v := iI (30 : Int)) hx hb dX10_unpack_31 (by decide) ?_
        refine wi_icmp_ge (tgt := 54) hx hb (by first | assumption | (unfold iR; omega) | exact kR01 (by assumption)) ⟨by decide, by decide⟩ dX10_unpack_33 (by decide) (fun c_33 => ?_) (fun c_33 => ?_)
        · skip
          rw [if_pos c_33] at hres
          refine lv_iload hx hb dX10_unpack_54 (lv_at hl 5 rfl) ?_
          refine lv_iconst (v := iI (1 : Int)) hx hb dX10_unpack_56 (by decide) ?_
          refine wi_isub hx hb dX10_unpack_57 ?_
          refine lv_istore (lv' := [(9, .int (iI ((i) - ((1 : Int))))), (0, .ref (ad (w0))), (1, .long (iL (h0))), (3, .long (iL (t0))), (5, .int (iI (g))), (6, .long (iL (q))), (8, .int (iI (i)))]) hx hb dX10_unpack_58 hl (by decide) rfl (fun ls hl => ?_)
          exact ih.2.2 (y) (g) (q) ((i) - ((1 : Int))) (by omega) (by omega) (by omega) (by omega) (by omega) (by omega) (by omega) hres _ _ ls hP hD hS (lv_sub hl [1, 2, 3, 4, 5, 0] rfl)
        · skip
          rw [if_neg c_33] at hres
          refine lv_lload hx hb dX10_unpack_36 (lv_at hl 4 rfl) ?_
          refine lv_iconst (v := iI (2 : Int)) hx hb dX10_unpack_38 (by decide) ?_
          refine lv_iload hx hb dX10_unpack_39 (lv_at hl 5 rfl) ?_
          refine wi_imul hx hb dX10_unpack_41 ?_
          refine wk_lshr hx hb dX10_unpack_42 ?_
          refine lv_lconst (v := iL 1) hx hb dX10_unpack_43 (by decide) ?_
          refine wi_lcmp hx hb (iSr_RL _ _) ⟨by decide, by decide⟩ dX10_unpack_44 ?_
          refine wi_if_le (tgt := 54) hx hb iC_R dX10_unpack_45 (by decide) (fun c_45 => ?_) (fun c_45 => ?_)
          · skip
            rw [if_pos c_45] at hres
            refine lv_iload hx hb dX10_unpack_54 (lv_at hl 5 rfl) ?_
            refine lv_iconst (v := iI (1 : Int)) hx hb dX10_unpack_56 (by decide) ?_
            refine wi_isub hx hb dX10_unpack_57 ?_
            refine lv_istore (lv' := [(9, .int (iI ((i) - ((1 : Int))))), (0, .ref (ad (w0))), (1, .long (iL (h0))), (3, .long (iL (t0))), (5, .int (iI (g))), (6, .long (iL (q))), (8, .int (iI (i)))]) hx hb dX10_unpack_58 hl (by decide) rfl (fun ls hl => ?_)
            exact ih.2.2 (y) (g) (q) ((i) - ((1 : Int))) (by omega) (by omega) (by omega) (by omega) (by omega) (by omega) (by omega) hres _ _ ls hP hD hS (lv_sub hl [1, 2, 3, 4, 5, 0] rfl)
          · skip
            rw [if_neg c_45] at hres
            refine lv_iinc (v := iI ((i) + (1 : Int))) (lv' := [(8, .int (iI ((i) + (1 : Int)))), (0, .ref (ad (w0))), (1, .long (iL (h0))), (3, .long (iL (t0))), (5, .int (iI (g))), (6, .long (iL (q)))]) hx hb dX10_unpack_48 hl (k := 5) rfl (iI_add _ _) (by decide) rfl (fun ls hl => ?_)
            refine lv_goto (tgt := 29) hx hb dX10_unpack_51 (by decide) ?_
            exact ih.2.1 (y) (g) (q) ((i) + (1 : Int)) (by omega) (by omega) (by omega) (by omega) (by omega) (by omega) (by omega) hres _ _ ls hP hD hS (lv_sub hl [1, 2, 3, 4, 5, 0] rfl)
      · intro y g q i g0 g2 i0 i1 y0 y1 fu hres H locs ls hP hD hS hl
        rw [F_w_unpack_e2] at hres
        refine lv_iload hx hb dX10_unpack_60 (lv_at hl 5 rfl) ?_
        refine wi_if_lt (tgt := 111) hx hb (by first | assumption | (unfold iR; omega) | exact kR01 (by assumption)) dX10_unpack_62 (by decide) (fun c_62 => ?_) (fun c_62 => ?_)
        · skip
          rw [if_pos c_62] at hres
          refine lv_iinc (v := iI ((g) + (1 : Int))) (lv' := [(5, .int (iI ((g) + (1 : Int)))), (0, .ref (ad (w0))), (1, .long (iL (h0))), (3, .long (iL (t0))), (6, .long (iL (q))), (9, .int (iI (i)))]) hx hb dX10_unpack_111 hl (k := 3) rfl (iI_add _ _) (by decide) rfl (fun ls hl => ?_)
          refine lv_goto (tgt := 8) hx hb dX10_unpack_114 (by decide) ?_
          exact ih.1 (y) ((g) + (1 : Int)) (by omega) (by omega) (by omega) (by omega) (by omega) hres _ _ ls hP hD hS (lv_sub hl [1, 2, 3, 0] rfl)
        · skip
          rw [if_neg c_62] at hres
          refine lv_aload_n hx hb dX10_unpack_65 rfl (lv_at hl 0 rfl) ?_
          refine va_get (D := (dC, dI)) (ci := 10) (v := .int (iI ((y).1 (w0) 1))) (C := RX10) (T := TX10) (N := 2) hx hb hts hinX10 hown hK hP (w0) (kgw hw_w0 (by omega)) rfl 1 (by decide) (hts (.fieldLink RX10 21 "LikeWords$Word" "used" "I") (by decide +kernel)) (fun _ h9 => h9) rfl dX10_unpack_66 ?_
          refine lv_aload_n hx hb dX10_unpack_69 rfl (lv_at hl 0 rfl) ?_
          refine va_get (D := (dC, dI)) (ci := 10) (v := .ref (ad ((w0) + 1))) (C := RX10) (T := TX10) (N := 2) hx hb hts hinX10 hown hK hP (w0) (kgw hw_w0 (by omega)) rfl 0 (by decide) (hts (.fieldLink RX10 15 "LikeWords$Word" "signs" "[I") (by decide +kernel)) (fun _ h9 => h9) rfl dX10_unpack_70 ?_
          refine va_alen (v := iI (((kL (w0) : Nat) : Int))) hx hb hK hP ((w0) + 1) 0 (kgi (kI_row hw_w0) (by omega) rfl) rfl (by show Int32.ofNat (kLen _) = _; rw [kLen_row hw_w0]; exact iI_nat _) dX10_unpack_73 ?_
          refine wi_icmp_ge (tgt := 111) hx hb (by first | assumption | (unfold iR; omega) | exact kR01 (by assumption)) (kL_R _) dX10_unpack_74 (by decide) (fun c_74 => ?_) (fun c_74 => ?_)
          · skip
            rw [if_pos c_74] at hres
            refine lv_iinc (v := iI ((g) + (1 : Int))) (lv' := [(5, .int (iI ((g) + (1 : Int)))), (0, .ref (ad (w0))), (1, .long (iL (h0))), (3, .long (iL (t0))), (6, .long (iL (q))), (9, .int (iI (i)))]) hx hb dX10_unpack_111 hl (k := 3) rfl (iI_add _ _) (by decide) rfl (fun ls hl => ?_)
            refine lv_goto (tgt := 8) hx hb dX10_unpack_114 (by decide) ?_
            exact ih.1 (y) ((g) + (1 : Int)) (by omega) (by omega) (by omega) (by omega) (by omega) hres _ _ ls hP hD hS (lv_sub hl [1, 2, 3, 0] rfl)
          · skip
            rw [if_neg c_74] at hres
            refine lv_aload_n hx hb dX10_unpack_77 rfl (lv_at hl 0 rfl) ?_
            refine va_get (D := (dC, dI)) (ci := 10) (v := .ref (ad ((w0) + 1))) (C := RX10) (T := TX10) (N := 2) hx hb hts hinX10 hown hK hP (w0) (kgw hw_w0 (by omega)) rfl 0 (by decide) (hts (.fieldLink RX10 15 "LikeWords$Word" "signs" "[I") (by decide +kernel)) (fun _ h9 => h9) rfl dX10_unpack_78 ?_
            refine lv_aload_n hx hb dX10_unpack_81 rfl (lv_at hl 0 rfl) ?_
            refine lv_dup hx hb dX10_unpack_82 rfl ?_
            refine va_get (D := (dC, dI)) (ci := 10) (v := .int (iI ((y).1 (w0) 1))) (C := RX10) (T := TX10) (N := 2) hx hb hts hinX10 hown hK hP (w0) (kgw hw_w0 (by omega)) rfl 1 (by decide) (hts (.fieldLink RX10 21 "LikeWords$Word" "used" "I") (by decide +kernel)) (fun _ h9 => h9) rfl dX10_unpack_83 ?_
            refine lv_dup_x1 hx hb dX10_unpack_86 rfl rfl ?_
            refine lv_iconst (v := iI (1 : Int)) hx hb dX10_unpack_87 (by decide) ?_
            refine wi_iadd hx hb dX10_unpack_88 ?_
            refine va_put (D := (dC, dI)) (ci := 10) (v := .int (iI (((y).1 (w0) 1) + ((1 : Int))))) (ty := .int) (C := RX10) (T := TX10) (N := 2) hx hb hts hinX10 tyX10 tyX10_ok nmX10 hown hK hP hD hS (w0) (kgw hw_w0 (by omega)) rfl 1 (by decide) (hts (.fieldLink RX10 21 "LikeWords$Word" "used" "I") (by decide +kernel)) (fun _ h9 => h9) rfl (by decide +kernel) rfl rfl (Nat.le_of_ble_eq_true rfl) dX10_unpack_89 (fun H locs hP hD hS => ?_)
            rw [ksw hw_w0] at hP hD
            refine lv_lload hx hb dX10_unpack_92 (lv_at hl 4 rfl) ?_
            refine lv_iconst (v := iI (2 : Int)) hx hb dX10_unpack_94 (by decide) ?_
            refine lv_iload hx hb dX10_unpack_95 (lv_at hl 5 rfl) ?_
            refine wi_imul hx hb dX10_unpack_97 ?_
            refine wk_lshr hx hb dX10_unpack_98 ?_
            refine lv_ldc2 (v := iL (3 : Int)) hx hb hown (hts (.constantLong RX10 30 (3)) (by decide +kernel)) dX10_unpack_99 ?_
            refine wk_land hx hb dX10_unpack_102 ?_
            refine wk_l2i hx hb dX10_unpack_103 ?_
            refine wi_iast (f := (kS (y) (w0) 1 (((y).1 (w0) 1) + ((1 : Int)))).2 ((w0) + 1)) (n := kLen ((w0) + 1)) hx hb hK hP hD hS ((w0) + 1) 0 (kgi (kI_row hw_w0) (by omega) rfl) rfl (i := (y).1 (w0) 1) (x := iN (iSr (q) (((2 : Int)) * (i))) ((3 : Int))) (by omega) (by rw [kLen_row hw_w0]; exact (by omega)) (kLen_lt _) dX10_unpack_104 (fun H locs hP hD hS => ?_)
            rw [ksi (kI_row hw_w0)] at hP hD
            refine lv_iinc (v := iI ((i) + (-1 : Int))) (lv' := [(9, .int (iI ((i) + (-1 : Int)))), (0, .ref (ad (w0))), (1, .long (iL (h0))), (3, .long (iL (t0))), (5, .int (iI (g))), (6, .long (iL (q)))]) hx hb dX10_unpack_105 hl (k := 5) rfl (iI_add _ _) (by decide) rfl (fun ls hl => ?_)
            refine lv_goto (tgt := 60) hx hb dX10_unpack_108 (by decide) ?_
            exact ih.2.2 (kA (kS (y) (w0) 1 (((y).1 (w0) 1) + ((1 : Int)))) ((w0) + 1) ((y).1 (w0) 1).toNat (iN (iSr (q) (((2 : Int)) * (i))) ((3 : Int)))) (g) (q) ((i) + (-1 : Int)) (by omega) (by omega) (by omega) (by omega) (by show 0 ≤ (kS y w0 1 (y.1 w0 1 + 1)).1 w0 1; rw [kS_s]; omega) (by show (kS y w0 1 (y.1 w0 1 + 1)).1 w0 1 ≤ _; rw [kS_s]; omega) (by omega) hres _ _ ls hP hD hS (lv_sub hl [1, 2, 3, 4, 5, 0] rfl)
  have key : ∀ (H : Heap) (locs : List Loc), va_P (dC, dI) vwCl (kWd cI cJ cZ cR wl ad M (x)) H → va_S A s.heap H locs → W p l e (headSpec wsX10_unpack ({ frames := 0, cells := 0, slots := 0, locals := 0 })).room s m ([.ref (ad w0), .long (iL h0), .long (iL t0)] : List Value).toArray below meth c H locs 0 0 (MQ below (va_Qv (fun u : KS => u = (F_w_unpack x w0 h0 t0).2) (kAt dC dI ad cI cJ cZ cR M wl A) A) ([.ref (ad w0), .long (iL h0), .long (iL t0)] : List Value).toArray s 0 0 A) (F0 m 0 ls []) := by
    intro H locs hP hS
    have hres : F_w_unpack_s w0 300 0 (kS (x) (w0) 1 ((0 : Int))) (h0) (t0) ((0 : Int)) (0) (0) = F_w_unpack x w0 h0 t0 := rfl
    refine lv_aload_n hx hb dX10_unpack_0 rfl (lv_at hl 0 rfl) ?_
    refine lv_iconst (v := iI (0 : Int)) hx hb dX10_unpack_1 (by decide) ?_
    refine va_put (D := (dC, dI)) (ci := 10) (v := .int (iI ((0 : Int)))) (ty := .int) (C := RX10) (T := TX10) (N := 2) hx hb hts hinX10 tyX10 tyX10_ok nmX10 hown hK hP hD hS (w0) (kgw hw_w0 (by omega)) rfl 1 (by decide) (hts (.fieldLink RX10 21 "LikeWords$Word" "used" "I") (by decide +kernel)) (fun _ h9 => h9) rfl (by decide +kernel) rfl rfl (Nat.le_of_ble_eq_true rfl) dX10_unpack_2 (fun H locs hP hD hS => ?_)
    rw [ksw hw_w0] at hP hD
    refine lv_iconst (v := iI (0 : Int)) hx hb dX10_unpack_5 (by decide) ?_
    refine lv_istore (lv' := [(5, .int (iI ((0 : Int)))), (0, .ref (ad (w0))), (1, .long (iL (h0))), (3, .long (iL (t0)))]) hx hb dX10_unpack_6 hl (by decide) rfl (fun ls hl => ?_)
    exact (L (300)).1 (kS (x) (w0) 1 ((0 : Int))) ((0 : Int)) (by omega) (by omega) (by rw [kS_s]; omega) (by rw [kS_s]; omega) (by omega) hres _ _ ls hP hD hS (lv_sub hl [1, 2, 3, 0] rfl)
  exact key _ _ hP hS
theorem F_w_unpack_sfr (w0 : Nat) : ∀ n : Nat, (∀ (y : KS) (v0 : Int) (v1 : Int) (v2 : Int) (v3 : Int) (v4 : Int), ksame [(w0, 1)] [(w0) + 1] y (F_w_unpack_s w0 n 0 y v0 v1 v2 v3 v4).2) ∧ (∀ (y : KS) (v0 : Int) (v1 : Int) (v2 : Int) (v3 : Int) (v4 : Int), ksame [(w0, 1)] [(w0) + 1] y (F_w_unpack_s w0 n 1 y v0 v1 v2 v3 v4).2) ∧ (∀ (y : KS) (v0 : Int) (v1 : Int) (v2 : Int) (v3 : Int) (v4 : Int), ksame [(w0, 1)] [(w0) + 1] y (F_w_unpack_s w0 n 2 y v0 v1 v2 v3 v4).2) := by
  intro n
  induction n with
  | zero => exact ⟨fun y _ _ _ _ _ => km_rf _ _ _, fun y _ _ _ _ _ => km_rf _ _ _, fun y _ _ _ _ _ => km_rf _ _ _⟩
  | succ n ih =>
    refine ⟨?_, ?_, ?_⟩
    · intro y h0 t0 g q0 q1
      rw [F_w_unpack_e0]
      by_cases hc : ((2 : Int)) ≤ (g)
      · rw [if_pos hc]
        exact (km_rf _ _ _)
      · rw [if_neg hc]
        by_cases hc : (g) = (0)
        · rw [if_pos hc]
          exact km_tr ((km_rf _ _ _)) (ih.2.1 (y) (h0) (t0) (g) (h0) ((0 : Int)))
        · rw [if_neg hc]
          exact km_tr ((km_rf _ _ _)) (ih.2.1 (y) (h0) (t0) (g) (t0) ((0 : Int)))
    · intro y h0 t0 g q i
      rw [F_w_unpack_e1]
      by_cases hc : ((30 : Int)) ≤ (i)
      · rw [if_pos hc]
        exact km_tr ((km_rf _ _ _)) (ih.2.2 (y) (h0) (t0) (g) (q) ((i) - ((1 : Int))))
      · rw [if_neg hc]
        by_cases hc : (iC (iSr (q) (((2 : Int)) * (i))) ((1 : Int))) ≤ (0)
        · rw [if_pos hc]
          exact km_tr ((km_rf _ _ _)) (ih.2.2 (y) (h0) (t0) (g) (q) ((i) - ((1 : Int))))
        · rw [if_neg hc]
          exact km_tr ((km_rf _ _ _)) (ih.2.1 (y) (h0) (t0) (g) (q) ((i) + (1 : Int)))
    · intro y h0 t0 g q i
      rw [F_w_unpack_e2]
      by_cases hc : (i) < (0)
      · rw [if_pos hc]
        exact km_tr ((km_rf _ _ _)) (ih.1 (y) (h0) (t0) ((g) + (1 : Int)) (0) (0))
      · rw [if_neg hc]
        by_cases hc : (((kL (w0) : Nat) : Int)) ≤ ((y).1 (w0) 1)
        · rw [if_pos hc]
          exact km_tr ((km_rf _ _ _)) (ih.1 (y) (h0) (t0) ((g) + (1 : Int)) (0) (0))
        · rw [if_neg hc]
          exact km_tr ((km_a (List.Mem.head _) (km_s (List.Mem.head _) (km_rf _ _ _)))) (ih.2.2 (kA (kS (y) (w0) 1 (((y).1 (w0) 1) + ((1 : Int)))) ((w0) + 1) ((y).1 (w0) 1).toNat (iN (iSr (q) (((2 : Int)) * (i))) ((3 : Int)))) (h0) (t0) (g) (q) ((i) + (-1 : Int)))
theorem F_w_unpack_fr (x : KS) (w0 : Nat) (h0 : Int) (t0 : Int) : ksame [(w0, 1)] [(w0) + 1] x (F_w_unpack x w0 h0 t0).2 := by
  unfold F_w_unpack
  exact km_tr ((km_s (List.Mem.head _) (km_rf _ _ _))) ((F_w_unpack_sfr w0 (300)).1 (kS (x) (w0) 1 ((0 : Int))) (h0) (t0) ((0 : Int)) (0) (0))
theorem F_w_unpack_q (x : KS) (w0 : Nat) (h0 : Int) (t0 : Int) (hw_w0 : kW w0 = true) : kq [] [] x (F_w_unpack x w0 h0 t0).2 := kq_of (F_w_unpack_fr x w0 h0 t0) (kq_c (Or.inl hw_w0) kq_m) (kq_c (Or.inl hw_w0) kq_n)
theorem F_w_push_01 (x : KS) (w : Nat) (v : Int) : (F_w_push x w v).1 = 0 ∨ (F_w_push x w v).1 = 1 := by
  unfold F_w_push
  repeat' split
  all_goals first | exact Or.inl rfl | exact Or.inr rfl
theorem F_w_isSame_s_01 (w0 w1 : Nat) : ∀ (n : Nat) (y : KS) (i : Int), (F_w_isSame_s w0 w1 n 0 y i).1 = 0 ∨ (F_w_isSame_s w0 w1 n 0 y i).1 = 1 := by
  intro n
  induction n with
  | zero => intro y i; exact Or.inl rfl
  | succ n ih =>
    intro y i
    rw [F_w_isSame_e0]
    repeat' split
    all_goals first | exact Or.inl rfl | exact Or.inr rfl | exact ih _ _
theorem F_w_isSame_01 (x : KS) (w0 w1 : Nat) : (F_w_isSame x w0 w1).1 = 0 ∨ (F_w_isSame x w0 w1).1 = 1 := by
  unfold F_w_isSame
  split
  · exact F_w_isSame_s_01 _ _ _ _ _
  · exact Or.inl rfl
theorem F_w_push_b {x : KS} {w0 : Nat} {v : Int} (hw : kW w0 = true) (h0 : 0 ≤ x.1 w0 1) (h1 : x.1 w0 1 ≤ kL w0) : 0 ≤ (F_w_push x w0 v).2.1 w0 1 ∧ (F_w_push x w0 v).2.1 w0 1 ≤ kL w0 := by
  unfold F_w_push
  rw [if_neg (by omega)]
  split
  · show 0 ≤ (kS x w0 1 (x.1 w0 1 + 1)).1 w0 1 ∧ (kS x w0 1 (x.1 w0 1 + 1)).1 w0 1 ≤ _
    rw [kS_s]; omega
  · exact ⟨h0, h1⟩
