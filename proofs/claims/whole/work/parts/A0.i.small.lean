-- deps: A0.h
set_option maxHeartbeats 4000000 in
set_option maxRecDepth 100000 in
/-- at -/
theorem d_m_at (l : Launch) (dC : Nat → ClassId) (dI : Nat → Nat → Nat) (h : Nat) (ad : Nat → Nat) (cI cJ cZ : ClassId) (sz : Nat) (x : MS) (k : Int) (i : Int) (rk : iR k) (ri : iR i) (zs : ∀ k : Nat, k < 9 → 0 ≤ x.2 1 k ∧ x.2 1 k ≤ 60) : Met l yX12_at wsX12_at ({ frames := 2, cells := 0, slots := 0, locals := 45 }) (mPc dC dI h ad cI cJ cZ sz x [.ref h, .int (iI k), .int (iI i)]) (va_Qi (fun (r : Int32) (u : MS) => r = iI (F_m_at (x) (k) (i)).1 ∧ u = (F_m_at (x) (k) (i)).2) (mAt dC dI h ad cI cJ cZ (va_A (mW h ad cI cJ cZ (x)) sz)) (va_A (mW h ad cI cJ cZ (x)) sz)) 0 0 (va_A (mW h ad cI cJ cZ (x)) sz) := by
  refine Met.ofW (cc := cX12_at) (maxL := 3) (ret := (some .int)) (by decide) rfl ?_
  intro p e s m args below meth c s₁ B hml hv
  obtain ⟨rfl, hsz, hP, hK, hD0⟩ := hv
  have hx := B.exec
  have hb := B.bytes
  have hr := B.returns
  have hts := atoms_spec (ws := wsX12_at) B.pre
  have hown : s.vm.findClass RX12 = some m.cls := findClass_of_methodNamed B.named
  have hlocks := B.notSynchronized
  have hin : ∀ w ∈ u_ws RX12 TX12 34, w ∈ wsX12_at := by decide +kernel
  subst hsz
  have hD := hD0.self (sz := s.heap.size)
  generalize hAe : va_A (mW h ad cI cJ cZ (x)) s.heap.size = A at hD ⊢
  have hA : ∀ q : Nat, s.heap.size ≤ q → A q := fun q h => by rw [← hAe]; exact Or.inr h
  have hS : va_S A s.heap s.heap [] := va_S.rf
  have hl := lv_entry ([.ref h, .int (iI k), .int (iI i)]) (n := 3) (Nat.le_of_ble_eq_true rfl)
  rw [lg_entry_eq]
  generalize (lg_sl ([.ref h, .int (iI k), .int (iI i)]) ++ List.replicate (3 - (lg_sl ([.ref h, .int (iI k), .int (iI i)])).length) Slot.unset).toArray = ls at hl ⊢
  have hl : lv_has ls 3 [(0, .ref (h)), (1, .int (iI (k))), (2, .int (iI (i)))] := hl
  have key : ∀ (H : Heap) (locs : List Loc), va_P (dC, dI) vwCl (mW h ad cI cJ cZ (x)) H → va_S A s.heap H locs → W p l e (headSpec wsX12_at ({ frames := 2, cells := 0, slots := 0, locals := 45 })).room s m ([.ref h, .int (iI k), .int (iI i)] : List Value).toArray below meth c H locs 0 0 (MQ below (va_Qi (fun (r : Int32) (u : MS) => r = iI (F_m_at (x) (k) (i)).1 ∧ u = (F_m_at (x) (k) (i)).2) (mAt dC dI h ad cI cJ cZ A) A) ([.ref h, .int (iI k), .int (iI i)] : List Value).toArray s 0 0 A) (F0 m 0 ls []) := by
    intro H locs hP hS
    have hres : (if ((F_m_isSlot (x) (k)).1) = (0) then ((-1 : Int), x) else (if ((F_m_in (x) (i) ((0 : Int)) ((((x).2 1) (k).toNat) - ((1 : Int)))).1) = (0) then ((-9 : Int), x) else (((x).2 2) ((((128 : Int)) * (k)) + (i)).toNat, x))) = F_m_at (x) (k) (i) := rfl
    refine lv_iload_n hx hb dX12_at_0 rfl (lv_at hl 1 rfl) ?_
    have hFc : ∀ q, va_A (mW h ad cI cJ cZ (x)) H.size q → A q := fun q hq => Or.elim hq (fun ⟨k, e, hk⟩ => hD.2 k (q, e) hk) (fun hk => hA q (Nat.le_trans hS.1 hk))
    refine va_calli (va_runS (As := [.int (iI (k))]) (rest := []) ⟨hx, hb, hml, hown, hts⟩ (c_m_isSlot l dC dI h ad cI cJ cZ H.size (x) (k) (by first | assumption | exact iR_L (by assumption) | exact ⟨by decide, by decide⟩ | omega | (unfold iR; omega) | (unfold iRL; omega))) (va_cwS 1 hts gX12_at_X12_isSlot rfl rfl rfl (by decide +kernel) ⟨Nat.le_of_ble_eq_true rfl, Nat.le_of_ble_eq_true rfl⟩) ⟨fun a U g mk q => by obtain ⟨q0, q1, qP, qK, qD⟩ := q; exact ⟨q0, q1, qP, va_K.moved (u := U) (U := U.calling g mk a) (Vm.Alike.refl U.vm) qK, qD⟩, fun U hU hW => ⟨rfl, by rw [hU], by rw [hU]; exact hP, va_K.moved hW.alike hK, hD.weaken (fun _ _ _ _ => trivial)⟩⟩ rfl rfl hl.1 rfl (lv_room (Nat.le_of_ble_eq_true rfl)) dX12_at_1 ⟨Nat.le_of_ble_eq_true rfl, Nat.le_of_ble_eq_true rfl⟩) hS (fun q _ h => hFc q h) hFc (fun r9 u9 t H1 locs ht hvm hw hB hz1 hk1 hS => ?_)
    obtain ⟨hP1, hK1, hD1⟩ := hB
    rw [ht] at hP1
    obtain ⟨hw1, hw2⟩ := hw
    rw [hw2] at hP1 hD1
    rw [hw1]
    rw [F_m_isSlot_2] at hP1 hD1
    have hD2 := hD1.weaken (B := A) (fun _ q _ h => hFc q.1 h)
    have hP := hP1
    have hD := hD2
    generalize H1 = H at hP hS ⊢
    refine wi_if_ne (tgt := 9) hx hb (by rw [F_m_isSlot_1]; exact F_R01 (F_in_01 _ _ _)) dX12_at_4 (by decide) (fun c_4 => ?_) (fun c_4 => ?_)
    · skip
      rw [if_neg c_4] at hres
      obtain ⟨k0, k1⟩ := F_in_1 (by rw [← F_m_isSlot_1 x k]; exact c_4)
      obtain ⟨z0, z1⟩ := zs k.toNat (by omega)
      refine lv_iload_n hx hb dX12_at_9 rfl (lv_at hl 2 rfl) ?_
      refine wi_i2l hx hb (by first | assumption | (unfold iR; omega) | exact F_R01 (by assumption)) dX12_at_10 ?_
      refine lv_lconst (v := iL 0) hx hb dX12_at_11 (by decide) ?_
      refine lv_aload_n hx hb dX12_at_12 rfl (lv_at hl 0 rfl) ?_
      refine va_get (D := (dC, dI)) (ci := 12) (v := .ref (ad 1)) (C := RX12) (T := TX12) (N := 34) hx hb hts hin hown hK hP 0 rfl rfl 1 (by decide) (hts (.fieldLink RX12 13 "LikeWordsModel" "size" "[I") (by decide +kernel)) (fun _ h9 => h9) rfl dX12_at_13 ?_
      refine lv_iload_n hx hb dX12_at_16 rfl (lv_at hl 1 rfl) ?_
      refine wi_iald (f := (x).2 1) hx hb hK hP 1 0 rfl rfl (i := k) (by omega) (by omega) (by decide) dX12_at_17 ?_
      refine lv_iconst (v := iI (1 : Int)) hx hb dX12_at_18 (by decide) ?_
      refine wi_isub hx hb dX12_at_19 ?_
      refine wi_i2l hx hb (by unfold iR; omega) dX12_at_20 ?_
      have hFc : ∀ q, va_A (mW h ad cI cJ cZ (x)) H.size q → A q := fun q hq => Or.elim hq (fun ⟨k, e, hk⟩ => hD.2 k (q, e) hk) (fun hk => hA q (Nat.le_trans hS.1 hk))
      refine va_calli (va_runS (As := [.long (iL (i)), .long (iL ((0 : Int))), .long (iL ((((x).2 1) (k).toNat) - ((1 : Int))))]) (rest := []) ⟨hx, hb, hml, hown, hts⟩ (c_m_in l dC dI h ad cI cJ cZ H.size (x) (i) ((0 : Int)) ((((x).2 1) (k).toNat) - ((1 : Int))) (iR_L ri) ⟨by decide, by decide⟩ (by unfold iRL; omega)) (va_cwS 3 hts gX12_at_X12_in rfl rfl rfl (by decide +kernel) ⟨Nat.le_of_ble_eq_true rfl, Nat.le_of_ble_eq_true rfl⟩) ⟨fun a U g mk q => by obtain ⟨q0, q1, qP, qK, qD⟩ := q; exact ⟨q0, q1, qP, va_K.moved (u := U) (U := U.calling g mk a) (Vm.Alike.refl U.vm) qK, qD⟩, fun U hU hW => ⟨rfl, by rw [hU], by rw [hU]; exact hP, va_K.moved hW.alike hK, hD.weaken (fun _ _ _ _ => trivial)⟩⟩ rfl rfl hl.1 rfl (lv_room (Nat.le_of_ble_eq_true rfl)) dX12_at_21 ⟨Nat.le_of_ble_eq_true rfl, Nat.le_of_ble_eq_true rfl⟩) hS (fun q _ h => hFc q h) hFc (fun r9 u9 t H1 locs ht hvm hw hB hz1 hk1 hS => ?_)
      obtain ⟨hP1, hK1, hD1⟩ := hB
      rw [ht] at hP1
      obtain ⟨hw1, hw2⟩ := hw
      rw [hw2] at hP1 hD1
      rw [hw1]
      rw [F_m_in_2] at hP1 hD1
      have hD2 := hD1.weaken (B := A) (fun _ q _ h => hFc q.1 h)
      have hP := hP1
      have hD := hD2
      generalize H1 = H at hP hS ⊢
      refine wi_if_eq (tgt := 42) hx hb (by rw [F_m_in_1]; exact F_R01 (F_in_01 _ _ _)) dX12_at_24 (by decide) (fun c_24 => ?_) (fun c_24 => ?_)
      · skip
        rw [if_pos c_24] at hres
        refine lv_bipush (v := iI (-9 : Int)) hx hb dX12_at_42 (by decide) ?_
        exact W.iret (v := iI ((-9 : Int))) hx hb hr (fun t ht hW => ⟨⟨iI ((-9 : Int)), x, rfl, ⟨(by have h9 := congrArg (fun z : Int × MS => iI z.1) hres; exact h9), (by have h9 := congrArg (fun z : Int × MS => z.2) hres; exact h9)⟩, by rw [ht]; exact hP, va_K.moved hW.alike hK, hD⟩, hS.F ht⟩) hS.2.2 dX12_at_44
      · skip
        rw [if_neg c_24] at hres
        rw [F_m_in_1] at c_24
        obtain ⟨i0, i1⟩ := F_in_1 c_24
        refine lv_aload_n hx hb dX12_at_27 rfl (lv_at hl 0 rfl) ?_
        refine va_get (D := (dC, dI)) (ci := 12) (v := .ref (ad 2)) (C := RX12) (T := TX12) (N := 34) hx hb hts hin hown hK hP 0 rfl rfl 2 (by decide) (hts (.fieldLink RX12 17 "LikeWordsModel" "row" "[I") (by decide +kernel)) (fun _ h9 => h9) rfl dX12_at_28 ?_
        refine lv_sipush (v := iI (128 : Int)) hx hb dX12_at_31 (by decide) ?_
        refine lv_iload_n hx hb dX12_at_34 rfl (lv_at hl 1 rfl) ?_
        refine wi_imul hx hb dX12_at_35 ?_
        refine lv_iload_n hx hb dX12_at_36 rfl (lv_at hl 2 rfl) ?_
        refine wi_iadd hx hb dX12_at_37 ?_
        refine wi_iald (f := (x).2 2) hx hb hK hP 2 0 rfl rfl (i := (((128 : Int)) * (k)) + (i)) (by omega) (by omega) (by decide) dX12_at_38 ?_
        refine lv_goto (tgt := 44) hx hb dX12_at_39 (by decide) ?_
        exact W.iret (v := iI (((x).2 2) ((((128 : Int)) * (k)) + (i)).toNat)) hx hb hr (fun t ht hW => ⟨⟨iI (((x).2 2) ((((128 : Int)) * (k)) + (i)).toNat), x, rfl, ⟨(by have h9 := congrArg (fun z : Int × MS => iI z.1) hres; exact h9), (by have h9 := congrArg (fun z : Int × MS => z.2) hres; exact h9)⟩, by rw [ht]; exact hP, va_K.moved hW.alike hK, hD⟩, hS.F ht⟩) hS.2.2 dX12_at_44
    · skip
      rw [if_pos c_4] at hres
      refine lv_iconst (v := iI (-1 : Int)) hx hb dX12_at_7 (by decide) ?_
      exact W.iret (v := iI ((-1 : Int))) hx hb hr (fun t ht hW => ⟨⟨iI ((-1 : Int)), x, rfl, ⟨(by have h9 := congrArg (fun z : Int × MS => iI z.1) hres; exact h9), (by have h9 := congrArg (fun z : Int × MS => z.2) hres; exact h9)⟩, by rw [ht]; exact hP, va_K.moved hW.alike hK, hD⟩, hS.F ht⟩) hS.2.2 dX12_at_8
  exact key _ _ hP hS
set_option maxHeartbeats 4000000 in
set_option maxRecDepth 100000 in
/-- letter -/
theorem d_m_letter (l : Launch) (dC : Nat → ClassId) (dI : Nat → Nat → Nat) (h : Nat) (ad : Nat → Nat) (cI cJ cZ : ClassId) (sz : Nat) (x : MS) (z : Int) (rc : iR z) (lt : 1 ≤ x.1 0 ∧ x.1 0 ≤ 4) (zs : ∀ k : Nat, k < 9 → 0 ≤ x.2 1 k ∧ x.2 1 k ≤ 60) : Met l yX12_letter wsX12_letter ({ frames := 1, cells := 0, slots := 0, locals := 25 }) (mPc dC dI h ad cI cJ cZ sz x [.ref h, .int (iI z)]) (va_Qi (fun (r : Int32) (u : MS) => r = iI (F_m_letter (x) (z)).1 ∧ u = (F_m_letter (x) (z)).2) (mAt dC dI h ad cI cJ cZ (va_A (mW h ad cI cJ cZ (x)) sz)) (va_A (mW h ad cI cJ cZ (x)) sz)) 0 0 (va_A (mW h ad cI cJ cZ (x)) sz) := by
  refine Met.ofW (cc := cX12_letter) (maxL := 2) (ret := (some .int)) (by decide) rfl ?_
  intro p e s m args below meth c s₁ B hml hv
  obtain ⟨rfl, hsz, hP, hK, hD0⟩ := hv
  have hx := B.exec
  have hb := B.bytes
  have hr := B.returns
  have hts := atoms_spec (ws := wsX12_letter) B.pre
  have hown : s.vm.findClass RX12 = some m.cls := findClass_of_methodNamed B.named
  have hlocks := B.notSynchronized
  have hin : ∀ w ∈ u_ws RX12 TX12 34, w ∈ wsX12_letter := by decide +kernel
  subst hsz
  have hD := hD0.self (sz := s.heap.size)
  generalize hAe : va_A (mW h ad cI cJ cZ (x)) s.heap.size = A at hD ⊢
  have hA : ∀ q : Nat, s.heap.size ≤ q → A q := fun q h => by rw [← hAe]; exact Or.inr h
  have hS : va_S A s.heap s.heap [] := va_S.rf
  have hl := lv_entry ([.ref h, .int (iI z)]) (n := 2) (Nat.le_of_ble_eq_true rfl)
  rw [lg_entry_eq]
  generalize (lg_sl ([.ref h, .int (iI z)]) ++ List.replicate (2 - (lg_sl ([.ref h, .int (iI z)])).length) Slot.unset).toArray = ls at hl ⊢
  have hl : lv_has ls 2 [(0, .ref (h)), (1, .int (iI (z)))] := hl
  have key : ∀ (H : Heap) (locs : List Loc), va_P (dC, dI) vwCl (mW h ad cI cJ cZ (x)) H → va_S A s.heap H locs → W p l e (headSpec wsX12_letter ({ frames := 1, cells := 0, slots := 0, locals := 25 })).room s m ([.ref h, .int (iI z)] : List Value).toArray below meth c H locs 0 0 (MQ below (va_Qi (fun (r : Int32) (u : MS) => r = iI (F_m_letter (x) (z)).1 ∧ u = (F_m_letter (x) (z)).2) (mAt dC dI h ad cI cJ cZ A) A) ([.ref h, .int (iI z)] : List Value).toArray s 0 0 A) (F0 m 0 ls []) := by
    intro H locs hP hS
    have hres : (if ((F_m_in (x) (z) ((0 : Int)) (((x).1 0) - ((1 : Int)))).1) = (0) then ((-1 : Int), x) else (if (((x).2 1) ((8 : Int)).toNat) = ((60 : Int)) then ((-4 : Int), x) else ((iU ((x).2 1) ((8 : Int)).toNat ((((x).2 1) ((8 : Int)).toNat) + ((1 : Int)))) ((8 : Int)).toNat, aU (aU (x) 2 (((1024 : Int)) + (((x).2 1) ((8 : Int)).toNat)).toNat (z)) 1 ((8 : Int)).toNat ((((x).2 1) ((8 : Int)).toNat) + ((1 : Int)))))) = F_m_letter (x) (z) := rfl
    obtain ⟨z0, z1⟩ := zs 8 (by omega)
    obtain ⟨l0, l1⟩ := lt
    refine lv_iload_n hx hb dX12_letter_0 rfl (lv_at hl 1 rfl) ?_
    refine wi_i2l hx hb (by first | assumption | (unfold iR; omega) | exact F_R01 (by assumption)) dX12_letter_1 ?_
    refine lv_lconst (v := iL 0) hx hb dX12_letter_2 (by decide) ?_
    refine lv_aload_n hx hb dX12_letter_3 rfl (lv_at hl 0 rfl) ?_
    refine va_get (D := (dC, dI)) (ci := 12) (v := .int (iI ((x).1 0))) (C := RX12) (T := TX12) (N := 34) hx hb hts hin hown hK hP 0 rfl rfl 0 (by decide) (hts (.fieldLink RX12 7 "LikeWordsModel" "letters" "I") (by decide +kernel)) (fun _ h9 => h9) rfl dX12_letter_4 ?_
    refine lv_iconst (v := iI (1 : Int)) hx hb dX12_letter_7 (by decide) ?_
    refine wi_isub hx hb dX12_letter_8 ?_
    refine wi_i2l hx hb (by unfold iR; omega) dX12_letter_9 ?_
    have hFc : ∀ q, va_A (mW h ad cI cJ cZ (x)) H.size q → A q := fun q hq => Or.elim hq (fun ⟨k, e, hk⟩ => hD.2 k (q, e) hk) (fun hk => hA q (Nat.le_trans hS.1 hk))
    refine va_calli (va_runS (As := [.long (iL (z)), .long (iL ((0 : Int))), .long (iL (((x).1 0) - ((1 : Int))))]) (rest := []) ⟨hx, hb, hml, hown, hts⟩ (c_m_in l dC dI h ad cI cJ cZ H.size (x) (z) ((0 : Int)) (((x).1 0) - ((1 : Int))) (iR_L rc) ⟨by decide, by decide⟩ (by unfold iRL; omega)) (va_cwS 3 hts gX12_letter_X12_in rfl rfl rfl (by decide +kernel) ⟨Nat.le_of_ble_eq_true rfl, Nat.le_of_ble_eq_true rfl⟩) ⟨fun a U g mk q => by obtain ⟨q0, q1, qP, qK, qD⟩ := q; exact ⟨q0, q1, qP, va_K.moved (u := U) (U := U.calling g mk a) (Vm.Alike.refl U.vm) qK, qD⟩, fun U hU hW => ⟨rfl, by rw [hU], by rw [hU]; exact hP, va_K.moved hW.alike hK, hD.weaken (fun _ _ _ _ => trivial)⟩⟩ rfl rfl hl.1 rfl (lv_room (Nat.le_of_ble_eq_true rfl)) dX12_letter_10 ⟨Nat.le_of_ble_eq_true rfl, Nat.le_of_ble_eq_true rfl⟩) hS (fun q _ h => hFc q h) hFc (fun r9 u9 t H1 locs ht hvm hw hB hz1 hk1 hS => ?_)
    obtain ⟨hP1, hK1, hD1⟩ := hB
    rw [ht] at hP1
    obtain ⟨hw1, hw2⟩ := hw
    rw [hw2] at hP1 hD1
    rw [hw1]
    rw [F_m_in_2] at hP1 hD1
    have hD2 := hD1.weaken (B := A) (fun _ q _ h => hFc q.1 h)
    have hP := hP1
    have hD := hD2
    generalize H1 = H at hP hS ⊢
    refine wi_if_ne (tgt := 18) hx hb (by rw [F_m_in_1]; exact F_R01 (F_in_01 _ _ _)) dX12_letter_13 (by decide) (fun c_13 => ?_) (fun c_13 => ?_)
    · skip
      rw [if_neg c_13] at hres
      have e8 : ((x).2 1) ((8 : Int)).toNat = x.2 1 8 := rfl
      refine lv_aload_n hx hb dX12_letter_18 rfl (lv_at hl 0 rfl) ?_
      refine va_get (D := (dC, dI)) (ci := 12) (v := .ref (ad 1)) (C := RX12) (T := TX12) (N := 34) hx hb hts hin hown hK hP 0 rfl rfl 1 (by decide) (hts (.fieldLink RX12 13 "LikeWordsModel" "size" "[I") (by decide +kernel)) (fun _ h9 => h9) rfl dX12_letter_19 ?_
      refine lv_bipush (v := iI (8 : Int)) hx hb dX12_letter_22 (by decide) ?_
      refine wi_iald (f := (x).2 1) hx hb hK hP 1 0 rfl rfl (i := (8 : Int)) (by omega) (by omega) (by decide) dX12_letter_24 ?_
      refine lv_bipush (v := iI (60 : Int)) hx hb dX12_letter_25 (by decide) ?_
      refine wi_icmp_ne (tgt := 33) hx hb (by first | assumption | (unfold iR; omega) | exact F_R01 (by assumption)) ⟨by decide, by decide⟩ dX12_letter_27 (by decide) (fun c_27 => ?_) (fun c_27 => ?_)
      · skip
        rw [if_neg c_27] at hres
        have e8 : ((x).2 1) ((8 : Int)).toNat = x.2 1 8 := rfl
        refine lv_aload_n hx hb dX12_letter_33 rfl (lv_at hl 0 rfl) ?_
        refine va_get (D := (dC, dI)) (ci := 12) (v := .ref (ad 2)) (C := RX12) (T := TX12) (N := 34) hx hb hts hin hown hK hP 0 rfl rfl 2 (by decide) (hts (.fieldLink RX12 17 "LikeWordsModel" "row" "[I") (by decide +kernel)) (fun _ h9 => h9) rfl dX12_letter_34 ?_
        refine lv_sipush (v := iI (1024 : Int)) hx hb dX12_letter_37 (by decide) ?_
        refine lv_aload_n hx hb dX12_letter_40 rfl (lv_at hl 0 rfl) ?_
        refine va_get (D := (dC, dI)) (ci := 12) (v := .ref (ad 1)) (C := RX12) (T := TX12) (N := 34) hx hb hts hin hown hK hP 0 rfl rfl 1 (by decide) (hts (.fieldLink RX12 13 "LikeWordsModel" "size" "[I") (by decide +kernel)) (fun _ h9 => h9) rfl dX12_letter_41 ?_
        refine lv_bipush (v := iI (8 : Int)) hx hb dX12_letter_44 (by decide) ?_
        refine wi_iald (f := (x).2 1) hx hb hK hP 1 0 rfl rfl (i := (8 : Int)) (by omega) (by omega) (by decide) dX12_letter_46 ?_
        refine wi_iadd hx hb dX12_letter_47 ?_
        refine lv_iload_n hx hb dX12_letter_48 rfl (lv_at hl 1 rfl) ?_
        refine wi_iast (f := (x).2 2) hx hb hK hP hD hS 2 0 rfl rfl (i := ((1024 : Int)) + (((x).2 1) ((8 : Int)).toNat)) (x := z) (by omega) (by omega) (by decide) dX12_letter_49 (fun H locs hP hD hS => ?_)
        rw [mW_a2] at hP hD
        refine lv_aload_n hx hb dX12_letter_50 rfl (lv_at hl 0 rfl) ?_
        refine va_get (D := (dC, dI)) (ci := 12) (v := .ref (ad 1)) (C := RX12) (T := TX12) (N := 34) hx hb hts hin hown hK hP 0 rfl rfl 1 (by decide) (hts (.fieldLink RX12 13 "LikeWordsModel" "size" "[I") (by decide +kernel)) (fun _ h9 => h9) rfl dX12_letter_51 ?_
        refine lv_bipush (v := iI (8 : Int)) hx hb dX12_letter_54 (by decide) ?_
        refine lv_dup2_11 hx hb dX12_letter_56 rfl rfl ?_
        refine wi_iald (f := (x).2 1) hx hb hK hP 1 0 rfl rfl (i := (8 : Int)) (by omega) (by omega) (by decide) dX12_letter_57 ?_
        refine lv_iconst (v := iI (1 : Int)) hx hb dX12_letter_58 (by decide) ?_
        refine wi_iadd hx hb dX12_letter_59 ?_
        refine wi_iast (f := (aU (x) 2 (((1024 : Int)) + (((x).2 1) ((8 : Int)).toNat)).toNat (z)).2 1) hx hb hK hP hD hS 1 0 rfl rfl (i := (8 : Int)) (x := (((x).2 1) ((8 : Int)).toNat) + ((1 : Int))) (by omega) (by omega) (by decide) dX12_letter_60 (fun H locs hP hD hS => ?_)
        rw [mW_a1] at hP hD
        refine lv_aload_n hx hb dX12_letter_61 rfl (lv_at hl 0 rfl) ?_
        refine va_get (D := (dC, dI)) (ci := 12) (v := .ref (ad 1)) (C := RX12) (T := TX12) (N := 34) hx hb hts hin hown hK hP 0 rfl rfl 1 (by decide) (hts (.fieldLink RX12 13 "LikeWordsModel" "size" "[I") (by decide +kernel)) (fun _ h9 => h9) rfl dX12_letter_62 ?_
        refine lv_bipush (v := iI (8 : Int)) hx hb dX12_letter_65 (by decide) ?_
        refine wi_iald (f := iU ((x).2 1) ((8 : Int)).toNat ((((x).2 1) ((8 : Int)).toNat) + ((1 : Int)))) hx hb hK hP 1 0 rfl rfl (i := (8 : Int)) (by omega) (by omega) (by decide) dX12_letter_67 ?_
        exact W.iret (v := iI ((iU ((x).2 1) ((8 : Int)).toNat ((((x).2 1) ((8 : Int)).toNat) + ((1 : Int)))) ((8 : Int)).toNat)) hx hb hr (fun t ht hW => ⟨⟨iI ((iU ((x).2 1) ((8 : Int)).toNat ((((x).2 1) ((8 : Int)).toNat) + ((1 : Int)))) ((8 : Int)).toNat), aU (aU (x) 2 (((1024 : Int)) + (((x).2 1) ((8 : Int)).toNat)).toNat (z)) 1 ((8 : Int)).toNat ((((x).2 1) ((8 : Int)).toNat) + ((1 : Int))), rfl, ⟨(by have h9 := congrArg (fun z : Int × MS => iI z.1) hres; exact h9), (by have h9 := congrArg (fun z : Int × MS => z.2) hres; exact h9)⟩, by rw [ht]; exact hP, va_K.moved hW.alike hK, hD⟩, hS.F ht⟩) hS.2.2 dX12_letter_68
      · skip
        rw [if_pos c_27] at hres
        refine lv_bipush (v := iI (-4 : Int)) hx hb dX12_letter_30 (by decide) ?_
        exact W.iret (v := iI ((-4 : Int))) hx hb hr (fun t ht hW => ⟨⟨iI ((-4 : Int)), x, rfl, ⟨(by have h9 := congrArg (fun z : Int × MS => iI z.1) hres; exact h9), (by have h9 := congrArg (fun z : Int × MS => z.2) hres; exact h9)⟩, by rw [ht]; exact hP, va_K.moved hW.alike hK, hD⟩, hS.F ht⟩) hS.2.2 dX12_letter_32
    · skip
      rw [if_pos c_13] at hres
      refine lv_iconst (v := iI (-1 : Int)) hx hb dX12_letter_16 (by decide) ?_
      exact W.iret (v := iI ((-1 : Int))) hx hb hr (fun t ht hW => ⟨⟨iI ((-1 : Int)), x, rfl, ⟨(by have h9 := congrArg (fun z : Int × MS => iI z.1) hres; exact h9), (by have h9 := congrArg (fun z : Int × MS => z.2) hres; exact h9)⟩, by rw [ht]; exact hP, va_K.moved hW.alike hK, hD⟩, hS.F ht⟩) hS.2.2 dX12_letter_17
  exact key _ _ hP hS
set_option maxHeartbeats 4000000 in
set_option maxRecDepth 100000 in
/-- slot -/
theorem d_m_slot (l : Launch) (dC : Nat → ClassId) (dI : Nat → Nat → Nat) (h : Nat) (ad : Nat → Nat) (cI cJ cZ : ClassId) (sz : Nat) (x : MS) (k : Int) (rk : iR k) (zs : ∀ k : Nat, k < 9 → 0 ≤ x.2 1 k ∧ x.2 1 k ≤ 60) : Met l yX12_slot wsX12_slot ({ frames := 2, cells := 0, slots := 0, locals := 45 }) (mPc dC dI h ad cI cJ cZ sz x [.ref h, .int (iI k)]) (va_Qi (fun (r : Int32) (u : MS) => r = iI (F_m_slot (x) (k)).1 ∧ u = (F_m_slot (x) (k)).2) (mAt dC dI h ad cI cJ cZ (va_A (mW h ad cI cJ cZ (x)) sz)) (va_A (mW h ad cI cJ cZ (x)) sz)) 0 0 (va_A (mW h ad cI cJ cZ (x)) sz) := by
  refine Met.ofW (cc := cX12_slot) (maxL := 2) (ret := (some .int)) (by decide) rfl ?_
  intro p e s m args below meth c s₁ B hml hv
  obtain ⟨rfl, hsz, hP, hK, hD0⟩ := hv
  have hx := B.exec
  have hb := B.bytes
  have hr := B.returns
  have hts := atoms_spec (ws := wsX12_slot) B.pre
  have hown : s.vm.findClass RX12 = some m.cls := findClass_of_methodNamed B.named
  have hlocks := B.notSynchronized
  have hin : ∀ w ∈ u_ws RX12 TX12 34, w ∈ wsX12_slot := by decide +kernel
  subst hsz
  have hD := hD0.self (sz := s.heap.size)
  generalize hAe : va_A (mW h ad cI cJ cZ (x)) s.heap.size = A at hD ⊢
  have hA : ∀ q : Nat, s.heap.size ≤ q → A q := fun q h => by rw [← hAe]; exact Or.inr h
  have hS : va_S A s.heap s.heap [] := va_S.rf
  have hl := lv_entry ([.ref h, .int (iI k)]) (n := 2) (Nat.le_of_ble_eq_true rfl)
  rw [lg_entry_eq]
  generalize (lg_sl ([.ref h, .int (iI k)]) ++ List.replicate (2 - (lg_sl ([.ref h, .int (iI k)])).length) Slot.unset).toArray = ls at hl ⊢
  have hl : lv_has ls 2 [(0, .ref (h)), (1, .int (iI (k)))] := hl
  have key : ∀ (H : Heap) (locs : List Loc), va_P (dC, dI) vwCl (mW h ad cI cJ cZ (x)) H → va_S A s.heap H locs → W p l e (headSpec wsX12_slot ({ frames := 2, cells := 0, slots := 0, locals := 45 })).room s m ([.ref h, .int (iI k)] : List Value).toArray below meth c H locs 0 0 (MQ below (va_Qi (fun (r : Int32) (u : MS) => r = iI (F_m_slot (x) (k)).1 ∧ u = (F_m_slot (x) (k)).2) (mAt dC dI h ad cI cJ cZ A) A) ([.ref h, .int (iI k)] : List Value).toArray s 0 0 A) (F0 m 0 ls []) := by
    intro H locs hP hS
    have hres : (if ((F_m_isSlot (x) (k)).1) = (0) then ((-1 : Int), x) else ((iU (((F_m_copy (x) ((8 : Int)) (k)).2).2 1) ((8 : Int)).toNat ((0 : Int))) (k).toNat, aU ((F_m_copy (x) ((8 : Int)) (k)).2) 1 ((8 : Int)).toNat ((0 : Int)))) = F_m_slot (x) (k) := rfl
    refine lv_iload_n hx hb dX12_slot_0 rfl (lv_at hl 1 rfl) ?_
    have hFc : ∀ q, va_A (mW h ad cI cJ cZ (x)) H.size q → A q := fun q hq => Or.elim hq (fun ⟨k, e, hk⟩ => hD.2 k (q, e) hk) (fun hk => hA q (Nat.le_trans hS.1 hk))
    refine va_calli (va_runS (As := [.int (iI (k))]) (rest := []) ⟨hx, hb, hml, hown, hts⟩ (c_m_isSlot l dC dI h ad cI cJ cZ H.size (x) (k) (by first | assumption | exact iR_L (by assumption) | exact ⟨by decide, by decide⟩ | omega | (unfold iR; omega) | (unfold iRL; omega))) (va_cwS 1 hts gX12_slot_X12_isSlot rfl rfl rfl (by decide +kernel) ⟨Nat.le_of_ble_eq_true rfl, Nat.le_of_ble_eq_true rfl⟩) ⟨fun a U g mk q => by obtain ⟨q0, q1, qP, qK, qD⟩ := q; exact ⟨q0, q1, qP, va_K.moved (u := U) (U := U.calling g mk a) (Vm.Alike.refl U.vm) qK, qD⟩, fun U hU hW => ⟨rfl, by rw [hU], by rw [hU]; exact hP, va_K.moved hW.alike hK, hD.weaken (fun _ _ _ _ => trivial)⟩⟩ rfl rfl hl.1 rfl (lv_room (Nat.le_of_ble_eq_true rfl)) dX12_slot_1 ⟨Nat.le_of_ble_eq_true rfl, Nat.le_of_ble_eq_true rfl⟩) hS (fun q _ h => hFc q h) hFc (fun r9 u9 t H1 locs ht hvm hw hB hz1 hk1 hS => ?_)
    obtain ⟨hP1, hK1, hD1⟩ := hB
    rw [ht] at hP1
    obtain ⟨hw1, hw2⟩ := hw
    rw [hw2] at hP1 hD1
    rw [hw1]
    rw [F_m_isSlot_2] at hP1 hD1
    have hD2 := hD1.weaken (B := A) (fun _ q _ h => hFc q.1 h)
    have hP := hP1
    have hD := hD2
    generalize H1 = H at hP hS ⊢
    refine wi_if_ne (tgt := 9) hx hb (by rw [F_m_isSlot_1]; exact F_R01 (F_in_01 _ _ _)) dX12_slot_4 (by decide) (fun c_4 => ?_) (fun c_4 => ?_)
    · skip
      rw [if_neg c_4] at hres
      obtain ⟨k0, k1⟩ := F_in_1 (by rw [← F_m_isSlot_1 x k]; exact c_4)
      obtain ⟨z0, z1⟩ := zs 8 (by omega)
      refine lv_aload_n hx hb dX12_slot_9 rfl (lv_at hl 0 rfl) ?_
      refine lv_bipush (v := iI (8 : Int)) hx hb dX12_slot_10 (by decide) ?_
      refine lv_iload_n hx hb dX12_slot_12 rfl (lv_at hl 1 rfl) ?_
      have hFc : ∀ q, va_A (mW h ad cI cJ cZ (x)) H.size q → A q := fun q hq => Or.elim hq (fun ⟨k, e, hk⟩ => hD.2 k (q, e) hk) (fun hk => hA q (Nat.le_trans hS.1 hk))
      refine va_callv (va_runV (As := [.int (iI ((8 : Int))), .int (iI (k))]) (rest := []) ⟨hx, hb, hml, hown, hts⟩ (c_m_copy l dC dI h ad cI cJ cZ H.size (x) ((8 : Int)) (k) (by omega) (by omega) (by omega) (by omega) z0 (by show x.2 1 8 ≤ 128; omega)) (cwV 2 hts gX12_slot_X12_copy rfl rfl rfl (by decide +kernel) ⟨Nat.le_of_ble_eq_true rfl, Nat.le_of_ble_eq_true rfl⟩) ⟨fun a U g mk q => by obtain ⟨q0, q1, qP, qK, qD⟩ := q; exact ⟨q0, q1, qP, va_K.moved (u := U) (U := U.calling g mk a) (Vm.Alike.refl U.vm) qK, qD⟩, va_recv hK hP (ci := 12) (q0 := 0) rfl rfl, fun U hU hW => ⟨rfl, by rw [hU], by rw [hU]; exact hP, va_K.moved hW.alike hK, hD.weaken (fun _ _ _ _ => trivial)⟩⟩ rfl rfl hl.1 rfl (lv_room (Nat.le_of_ble_eq_true rfl)) dX12_slot_13 ⟨Nat.le_of_ble_eq_true rfl, Nat.le_of_ble_eq_true rfl⟩) hS (fun q _ h => hFc q h) hFc (fun u9 t H1 locs ht hvm hw hB hz1 hk1 hS => ?_)
      obtain ⟨hP1, hK1, hD1⟩ := hB
      rw [ht] at hP1
      rw [hw] at hP1 hD1
      have hD2 := hD1.weaken (B := A) (fun _ q _ h => hFc q.1 h)
      have hP := hP1
      have hD := hD2
      generalize H1 = H at hP hS ⊢
      refine lv_aload_n hx hb dX12_slot_16 rfl (lv_at hl 0 rfl) ?_
      refine va_get (D := (dC, dI)) (ci := 12) (v := .ref (ad 1)) (C := RX12) (T := TX12) (N := 34) hx hb hts hin hown hK hP 0 rfl rfl 1 (by decide) (hts (.fieldLink RX12 13 "LikeWordsModel" "size" "[I") (by decide +kernel)) (fun _ h9 => h9) rfl dX12_slot_17 ?_
      refine lv_bipush (v := iI (8 : Int)) hx hb dX12_slot_20 (by decide) ?_
      refine lv_iconst (v := iI (0 : Int)) hx hb dX12_slot_22 (by decide) ?_
      refine wi_iast (f := ((F_m_copy (x) ((8 : Int)) (k)).2).2 1) hx hb hK hP hD hS 1 0 rfl rfl (i := (8 : Int)) (x := (0 : Int)) (by omega) (by omega) (by decide) dX12_slot_23 (fun H locs hP hD hS => ?_)
      rw [mW_a1] at hP hD
      refine lv_aload_n hx hb dX12_slot_24 rfl (lv_at hl 0 rfl) ?_
      refine va_get (D := (dC, dI)) (ci := 12) (v := .ref (ad 1)) (C := RX12) (T := TX12) (N := 34) hx hb hts hin hown hK hP 0 rfl rfl 1 (by decide) (hts (.fieldLink RX12 13 "LikeWordsModel" "size" "[I") (by decide +kernel)) (fun _ h9 => h9) rfl dX12_slot_25 ?_
      refine lv_iload_n hx hb dX12_slot_28 rfl (lv_at hl 1 rfl) ?_
      refine wi_iald (f := iU (((F_m_copy (x) ((8 : Int)) (k)).2).2 1) ((8 : Int)).toNat ((0 : Int))) hx hb hK hP 1 0 rfl rfl (i := k) (by omega) (by omega) (by decide) dX12_slot_29 ?_
      exact W.iret (v := iI ((iU (((F_m_copy (x) ((8 : Int)) (k)).2).2 1) ((8 : Int)).toNat ((0 : Int))) (k).toNat)) hx hb hr (fun t ht hW => ⟨⟨iI ((iU (((F_m_copy (x) ((8 : Int)) (k)).2).2 1) ((8 : Int)).toNat ((0 : Int))) (k).toNat), aU ((F_m_copy (x) ((8 : Int)) (k)).2) 1 ((8 : Int)).toNat ((0 : Int)), rfl, ⟨(by have h9 := congrArg (fun z : Int × MS => iI z.1) hres; exact h9), (by have h9 := congrArg (fun z : Int × MS => z.2) hres; exact h9)⟩, by rw [ht]; exact hP, va_K.moved hW.alike hK, hD⟩, hS.F ht⟩) hS.2.2 dX12_slot_30
    · skip
      rw [if_pos c_4] at hres
      refine lv_iconst (v := iI (-1 : Int)) hx hb dX12_slot_7 (by decide) ?_
      exact W.iret (v := iI ((-1 : Int))) hx hb hr (fun t ht hW => ⟨⟨iI ((-1 : Int)), x, rfl, ⟨(by have h9 := congrArg (fun z : Int × MS => iI z.1) hres; exact h9), (by have h9 := congrArg (fun z : Int × MS => z.2) hres; exact h9)⟩, by rw [ht]; exact hP, va_K.moved hW.alike hK, hD⟩, hS.F ht⟩) hS.2.2 dX12_slot_8
  exact key _ _ hP hS
set_option maxHeartbeats 4000000 in
set_option maxRecDepth 100000 in
/-- law -/
theorem d_m_law (l : Launch) (dC : Nat → ClassId) (dI : Nat → Nat → Nat) (h : Nat) (ad : Nat → Nat) (cI cJ cZ : ClassId) (sz : Nat) (x : MS) (a : Int) (b : Int) (ra : iR a) (rb : iR b) (zs : ∀ k : Nat, k < 9 → 0 ≤ x.2 1 k ∧ x.2 1 k ≤ 60) (w0 : 0 ≤ x.1 3) (w1 : x.1 3 ≤ 8) : Met l yX12_law wsX12_law ({ frames := 2, cells := 0, slots := 0, locals := 45 }) (mPc dC dI h ad cI cJ cZ sz x [.ref h, .int (iI a), .int (iI b)]) (va_Qi (fun (r : Int32) (u : MS) => r = iI (F_m_law (x) (a) (b)).1 ∧ u = (F_m_law (x) (a) (b)).2) (mAt dC dI h ad cI cJ cZ (va_A (mW h ad cI cJ cZ (x)) sz)) (va_A (mW h ad cI cJ cZ (x)) sz)) 0 0 (va_A (mW h ad cI cJ cZ (x)) sz) := by
  refine Met.ofW (cc := cX12_law) (maxL := 6) (ret := (some .int)) (by decide) rfl ?_
  intro p e s m args below meth c s₁ B hml hv
  obtain ⟨rfl, hsz, hP, hK, hD0⟩ := hv
  have hx := B.exec
  have hb := B.bytes
  have hr := B.returns
  have hts := atoms_spec (ws := wsX12_law) B.pre
  have hown : s.vm.findClass RX12 = some m.cls := findClass_of_methodNamed B.named
  have hlocks := B.notSynchronized
  have hin : ∀ w ∈ u_ws RX12 TX12 34, w ∈ wsX12_law := by decide +kernel
  subst hsz
  have hD := hD0.self (sz := s.heap.size)
  generalize hAe : va_A (mW h ad cI cJ cZ (x)) s.heap.size = A at hD ⊢
  have hA : ∀ q : Nat, s.heap.size ≤ q → A q := fun q h => by rw [← hAe]; exact Or.inr h
  have hS : va_S A s.heap s.heap [] := va_S.rf
  have hl := lv_entry ([.ref h, .int (iI a), .int (iI b)]) (n := 6) (Nat.le_of_ble_eq_true rfl)
  rw [lg_entry_eq]
  generalize (lg_sl ([.ref h, .int (iI a), .int (iI b)]) ++ List.replicate (6 - (lg_sl ([.ref h, .int (iI a), .int (iI b)])).length) Slot.unset).toArray = ls at hl ⊢
  have hl : lv_has ls 6 [(0, .ref (h)), (1, .int (iI (a))), (2, .int (iI (b)))] := hl
  have L : ∀ n : Nat, (∀ (y : MS) (k : Int), (x.2 1 a.toNat ≤ 12) → (x.2 1 b.toNat ≤ 12) → (x.1 3 < 8) → (0 ≤ a ∧ a ≤ 7) → (0 ≤ b ∧ b ≤ 7) → (same [] [4, 5] x y) → (0 ≤ k) → (k ≤ 2) → ((2 - k) * 50 + 50 < n) → F_m_law_s n 0 y a b k 0 0 = F_m_law (x) (a) (b) → ∀ (H : Heap) (locs : List Loc) (ls : Array Slot), va_P (dC, dI) vwCl (mW h ad cI cJ cZ (y)) H → va_D A (mW h ad cI cJ cZ (y)) → va_S A s.heap H locs → lv_has ls 6 [(0, .ref (h)), (1, .int (iI (a))), (2, .int (iI (b))), (3, .int (iI (k)))] → W p l e (headSpec wsX12_law ({ frames := 2, cells := 0, slots := 0, locals := 45 })).room s m ([.ref h, .int (iI a), .int (iI b)] : List Value).toArray below meth c H locs 0 0 (MQ below (va_Qi (fun (r : Int32) (u : MS) => r = iI (F_m_law (x) (a) (b)).1 ∧ u = (F_m_law (x) (a) (b)).2) (mAt dC dI h ad cI cJ cZ A) A) ([.ref h, .int (iI a), .int (iI b)] : List Value).toArray s 0 0 A) (F0 m 55 ls [])) ∧ (∀ (y : MS) (k : Int) (q : Int) (i : Int), (x.2 1 a.toNat ≤ 12) → (x.2 1 b.toNat ≤ 12) → (x.1 3 < 8) → (0 ≤ a ∧ a ≤ 7) → (0 ≤ b ∧ b ≤ 7) → (same [] [4, 5] x y) → (0 ≤ k) → (k < 2) → (0 ≤ q) → (q ≤ 7) → (0 ≤ y.2 1 q.toNat) → (y.2 1 q.toNat ≤ 12) → (0 ≤ i) → (i ≤ 12) → ((1 - k) * 50 + 50 + (12 - i) + 20 < n) → F_m_law_s n 1 y a b k q i = F_m_law (x) (a) (b) → ∀ (H : Heap) (locs : List Loc) (ls : Array Slot), va_P (dC, dI) vwCl (mW h ad cI cJ cZ (y)) H → va_D A (mW h ad cI cJ cZ (y)) → va_S A s.heap H locs → lv_has ls 6 [(0, .ref (h)), (1, .int (iI (a))), (2, .int (iI (b))), (3, .int (iI (k))), (4, .int (iI (q))), (5, .int (iI (i)))] → W p l e (headSpec wsX12_law ({ frames := 2, cells := 0, slots := 0, locals := 45 })).room s m ([.ref h, .int (iI a), .int (iI b)] : List Value).toArray below meth c H locs 0 0 (MQ below (va_Qi (fun (r : Int32) (u : MS) => r = iI (F_m_law (x) (a) (b)).1 ∧ u = (F_m_law (x) (a) (b)).2) (mAt dC dI h ad cI cJ cZ A) A) ([.ref h, .int (iI a), .int (iI b)] : List Value).toArray s 0 0 A) (F0 m 94 ls [])) := by
    intro n
    induction n with
    | zero =>
      refine ⟨?_, ?_⟩
      · intro y k za zb l8 a07 b07 sm k0 k1 fu hres
        exact absurd fu (by omega)
      · intro y k q i za zb l8 a07 b07 sm k0 k1 q0 q1 q2 q3 i0 i1 fu hres
        exact absurd fu (by omega)
    | succ n ih =>
      refine ⟨?_, ?_⟩
      · intro y k za zb l8 a07 b07 sm k0 k1 fu hres H locs ls hP hD hS hl
        rw [F_m_law_e0] at hres
        have s3 := sm.1 3 (by decide)
        have t1 := sm.2 1 (by decide)
        obtain ⟨a0, a1⟩ := id a07
        obtain ⟨b0, b1⟩ := id b07
        have z0 := zs a.toNat (by omega)
        have z2 := zs b.toNat (by omega)
        have za9 := za
        have zb9 := zb
        rw [← t1] at z0 z2 za9 zb9
        refine lv_iload_n hx hb dX12_law_55 rfl (lv_at hl 3 rfl) ?_
        refine lv_iconst (v := iI (2 : Int)) hx hb dX12_law_56 (by decide) ?_
        refine wi_icmp_ge (tgt := 151) hx hb (by first | assumption | (unfold iR; omega) | exact F_R01 (by assumption)) ⟨by decide, by decide⟩ dX12_law_57 (by decide) (fun c_57 => ?_) (fun c_57 => ?_)
        · skip
          rw [if_pos c_57] at hres
          refine lv_aload_n hx hb dX12_law_151 rfl (lv_at hl 0 rfl) ?_
          refine lv_dup hx hb dX12_law_152 rfl ?_
          refine va_get (D := (dC, dI)) (ci := 12) (v := .int (iI ((y).1 3))) (C := RX12) (T := TX12) (N := 34) hx hb hts hin hown hK hP 0 rfl rfl 3 (by decide) (hts (.fieldLink RX12 99 "LikeWordsModel" "laws" "I") (by decide +kernel)) (fun _ h9 => h9) rfl dX12_law_153 ?_
          refine lv_iconst (v := iI (1 : Int)) hx hb dX12_law_156 (by decide) ?_
          refine wi_iadd hx hb dX12_law_157 ?_
          refine va_put (D := (dC, dI)) (ci := 12) (v := .int (iI (((y).1 3) + ((1 : Int))))) (ty := .int) (C := RX12) (T := TX12) (N := 34) hx hb hts hin tyX12 tyX12_ok nmX12 hown hK hP hD hS 0 rfl rfl 3 (by decide) (hts (.fieldLink RX12 99 "LikeWordsModel" "laws" "I") (by decide +kernel)) (fun _ h9 => h9) rfl (by decide +kernel) rfl rfl (Nat.le_of_ble_eq_true rfl) dX12_law_158 (fun H locs hP hD hS => ?_)
          rw [mW_s3] at hP hD
          refine lv_aload_n hx hb dX12_law_161 rfl (lv_at hl 0 rfl) ?_
          refine lv_bipush (v := iI (-9 : Int)) hx hb dX12_law_162 (by decide) ?_
          refine va_put (D := (dC, dI)) (ci := 12) (v := .int (iI ((-9 : Int)))) (ty := .int) (C := RX12) (T := TX12) (N := 34) hx hb hts hin tyX12 tyX12_ok nmX12 hown hK hP hD hS 0 rfl rfl 6 (by decide) (hts (.fieldLink RX12 26 "LikeWordsModel" "seen" "I") (by decide +kernel)) (fun _ h9 => h9) rfl (by decide +kernel) rfl rfl (Nat.le_of_ble_eq_true rfl) dX12_law_164 (fun H locs hP hD hS => ?_)
          rw [mW_s6] at hP hD
          refine lv_aload_n hx hb dX12_law_167 rfl (lv_at hl 0 rfl) ?_
          refine va_get (D := (dC, dI)) (ci := 12) (v := .int (iI (((y).1 3) + ((1 : Int))))) (C := RX12) (T := TX12) (N := 34) hx hb hts hin hown hK hP 0 rfl rfl 3 (by decide) (hts (.fieldLink RX12 99 "LikeWordsModel" "laws" "I") (by decide +kernel)) (fun _ h9 => h9) rfl dX12_law_168 ?_
          exact W.iret (v := iI (((y).1 3) + ((1 : Int)))) hx hb hr (fun t ht hW => ⟨⟨iI (((y).1 3) + ((1 : Int))), sU (sU (y) 3 (((y).1 3) + ((1 : Int)))) 6 ((-9 : Int)), rfl, ⟨(by have h9 := congrArg (fun z : Int × MS => iI z.1) hres; exact h9), (by have h9 := congrArg (fun z : Int × MS => z.2) hres; exact h9)⟩, by rw [ht]; exact hP, va_K.moved hW.alike hK, hD⟩, hS.F ht⟩) hS.2.2 dX12_law_171
        · skip
          rw [if_neg c_57] at hres
          refine lv_iload_n hx hb dX12_law_60 rfl (lv_at hl 3 rfl) ?_
          refine wi_if_ne (tgt := 68) hx hb (by first | assumption | (unfold iR; omega) | exact F_R01 (by assumption)) dX12_law_61 (by decide) (fun c_61 => ?_) (fun c_61 => ?_)
          · skip
            rw [if_neg c_61] at hres
            refine lv_iload_n hx hb dX12_law_68 rfl (lv_at hl 2 rfl) ?_
            refine lv_istore (lv' := [(4, .int (iI (b))), (0, .ref (h)), (1, .int (iI (a))), (2, .int (iI (b))), (3, .int (iI (k)))]) hx hb dX12_law_69 hl (by decide) rfl (fun ls hl => ?_)
            refine lv_aload_n hx hb dX12_law_71 rfl (lv_at hl 1 rfl) ?_
            refine va_get (D := (dC, dI)) (ci := 12) (v := .ref (ad 4)) (C := RX12) (T := TX12) (N := 34) hx hb hts hin hown hK hP 0 rfl rfl 4 (by decide) (hts (.fieldLink RX12 20 "LikeWordsModel" "lawSize" "[I") (by decide +kernel)) (fun _ h9 => h9) rfl dX12_law_72 ?_
            refine lv_iconst (v := iI (2 : Int)) hx hb dX12_law_75 (by decide) ?_
            refine lv_aload_n hx hb dX12_law_76 rfl (lv_at hl 1 rfl) ?_
            refine va_get (D := (dC, dI)) (ci := 12) (v := .int (iI ((y).1 3))) (C := RX12) (T := TX12) (N := 34) hx hb hts hin hown hK hP 0 rfl rfl 3 (by decide) (hts (.fieldLink RX12 99 "LikeWordsModel" "laws" "I") (by decide +kernel)) (fun _ h9 => h9) rfl dX12_law_77 ?_
            refine wi_imul hx hb dX12_law_80 ?_
            refine lv_iload_n hx hb dX12_law_81 rfl (lv_at hl 4 rfl) ?_
            refine wi_iadd hx hb dX12_law_82 ?_
            refine lv_aload_n hx hb dX12_law_83 rfl (lv_at hl 1 rfl) ?_
            refine va_get (D := (dC, dI)) (ci := 12) (v := .ref (ad 1)) (C := RX12) (T := TX12) (N := 34) hx hb hts hin hown hK hP 0 rfl rfl 1 (by decide) (hts (.fieldLink RX12 13 "LikeWordsModel" "size" "[I") (by decide +kernel)) (fun _ h9 => h9) rfl dX12_law_84 ?_
            refine lv_iload hx hb dX12_law_87 (lv_at hl 0 rfl) ?_
            refine wi_iald (f := (y).2 1) hx hb hK hP 1 0 rfl rfl (i := b) (by omega) (by omega) (by decide) dX12_law_89 ?_
            refine wi_iast (f := (y).2 4) hx hb hK hP hD hS 3 0 rfl rfl (i := (((2 : Int)) * ((y).1 3)) + (k)) (x := ((y).2 1) (b).toNat) (by omega) (by omega) (by decide) dX12_law_90 (fun H locs hP hD hS => ?_)
            rw [mW_a4] at hP hD
            refine lv_iconst (v := iI (0 : Int)) hx hb dX12_law_91 (by decide) ?_
            refine lv_istore (lv' := [(5, .int (iI ((0 : Int)))), (4, .int (iI (b))), (0, .ref (h)), (1, .int (iI (a))), (2, .int (iI (b))), (3, .int (iI (k)))]) hx hb dX12_law_92 hl (by decide) rfl (fun ls hl => ?_)
            exact ih.2 (aU (y) 4 ((((2 : Int)) * ((y).1 3)) + (k)).toNat (((y).2 1) (b).toNat)) (k) (b) ((0 : Int)) (za) (zb) (l8) (a07) (b07) (sm_a (by decide) sm) (by omega) (by omega) (by omega) (by omega) (z2.1) (zb9) (by omega) (by omega) (by omega) hres _ _ ls hP hD hS (lv_sub hl [2, 3, 4, 5, 1, 0] rfl)
          · skip
            rw [if_pos c_61] at hres
            refine lv_iload_n hx hb dX12_law_64 rfl (lv_at hl 1 rfl) ?_
            refine lv_goto (tgt := 69) hx hb dX12_law_65 (by decide) ?_
            refine lv_istore (lv' := [(4, .int (iI (a))), (0, .ref (h)), (1, .int (iI (a))), (2, .int (iI (b))), (3, .int (iI (k)))]) hx hb dX12_law_69 hl (by decide) rfl (fun ls hl => ?_)
            refine lv_aload_n hx hb dX12_law_71 rfl (lv_at hl 1 rfl) ?_
            refine va_get (D := (dC, dI)) (ci := 12) (v := .ref (ad 4)) (C := RX12) (T := TX12) (N := 34) hx hb hts hin hown hK hP 0 rfl rfl 4 (by decide) (hts (.fieldLink RX12 20 "LikeWordsModel" "lawSize" "[I") (by decide +kernel)) (fun _ h9 => h9) rfl dX12_law_72 ?_
            refine lv_iconst (v := iI (2 : Int)) hx hb dX12_law_75 (by decide) ?_
            refine lv_aload_n hx hb dX12_law_76 rfl (lv_at hl 1 rfl) ?_
            refine va_get (D := (dC, dI)) (ci := 12) (v := .int (iI ((y).1 3))) (C := RX12) (T := TX12) (N := 34) hx hb hts hin hown hK hP 0 rfl rfl 3 (by decide) (hts (.fieldLink RX12 99 "LikeWordsModel" "laws" "I") (by decide +kernel)) (fun _ h9 => h9) rfl dX12_law_77 ?_
            refine wi_imul hx hb dX12_law_80 ?_
            refine lv_iload_n hx hb dX12_law_81 rfl (lv_at hl 4 rfl) ?_
            refine wi_iadd hx hb dX12_law_82 ?_
            refine lv_aload_n hx hb dX12_law_83 rfl (lv_at hl 1 rfl) ?_
            refine va_get (D := (dC, dI)) (ci := 12) (v := .ref (ad 1)) (C := RX12) (T := TX12) (N := 34) hx hb hts hin hown hK hP 0 rfl rfl 1 (by decide) (hts (.fieldLink RX12 13 "LikeWordsModel" "size" "[I") (by decide +kernel)) (fun _ h9 => h9) rfl dX12_law_84 ?_
            refine lv_iload hx hb dX12_law_87 (lv_at hl 0 rfl) ?_
            refine wi_iald (f := (y).2 1) hx hb hK hP 1 0 rfl rfl (i := a) (by omega) (by omega) (by decide) dX12_law_89 ?_
            refine wi_iast (f := (y).2 4) hx hb hK hP hD hS 3 0 rfl rfl (i := (((2 : Int)) * ((y).1 3)) + (k)) (x := ((y).2 1) (a).toNat) (by omega) (by omega) (by decide) dX12_law_90 (fun H locs hP hD hS => ?_)
            rw [mW_a4] at hP hD
            refine lv_iconst (v := iI (0 : Int)) hx hb dX12_law_91 (by decide) ?_
            refine lv_istore (lv' := [(5, .int (iI ((0 : Int)))), (4, .int (iI (a))), (0, .ref (h)), (1, .int (iI (a))), (2, .int (iI (b))), (3, .int (iI (k)))]) hx hb dX12_law_92 hl (by decide) rfl (fun ls hl => ?_)
            exact ih.2 (aU (y) 4 ((((2 : Int)) * ((y).1 3)) + (k)).toNat (((y).2 1) (a).toNat)) (k) (a) ((0 : Int)) (za) (zb) (l8) (a07) (b07) (sm_a (by decide) sm) (by omega) (by omega) (by omega) (by omega) (z0.1) (za9) (by omega) (by omega) (by omega) hres _ _ ls hP hD hS (lv_sub hl [2, 3, 4, 5, 1, 0] rfl)
      · intro y k q i za zb l8 a07 b07 sm k0 k1 q0 q1 q2 q3 i0 i1 fu hres H locs ls hP hD hS hl
        rw [F_m_law_e1] at hres
        have s3 := sm.1 3 (by decide)
        refine lv_iload hx hb dX12_law_94 (lv_at hl 5 rfl) ?_
        refine lv_aload_n hx hb dX12_law_96 rfl (lv_at hl 0 rfl) ?_
        refine va_get (D := (dC, dI)) (ci := 12) (v := .ref (ad 1)) (C := RX12) (T := TX12) (N := 34) hx hb hts hin hown hK hP 0 rfl rfl 1 (by decide) (hts (.fieldLink RX12 13 "LikeWordsModel" "size" "[I") (by decide +kernel)) (fun _ h9 => h9) rfl dX12_law_97 ?_
        refine lv_iload hx hb dX12_law_100 (lv_at hl 4 rfl) ?_
        refine wi_iald (f := (y).2 1) hx hb hK hP 1 0 rfl rfl (i := q) (by omega) (by omega) (by decide) dX12_law_102 ?_
        refine wi_icmp_ge (tgt := 145) hx hb (by first | assumption | (unfold iR; omega) | exact F_R01 (by assumption)) (by first | assumption | (unfold iR; omega) | exact F_R01 (by assumption)) dX12_law_103 (by decide) (fun c_103 => ?_) (fun c_103 => ?_)
        · skip
          rw [if_pos c_103] at hres
          refine lv_iinc (v := iI ((k) + (1 : Int))) (lv' := [(3, .int (iI ((k) + (1 : Int)))), (0, .ref (h)), (1, .int (iI (a))), (2, .int (iI (b))), (4, .int (iI (q))), (5, .int (iI (i)))]) hx hb dX12_law_145 hl (k := 3) rfl (iI_add _ _) (by decide) rfl (fun ls hl => ?_)
          refine lv_goto (tgt := 55) hx hb dX12_law_148 (by decide) ?_
          exact ih.1 (y) ((k) + (1 : Int)) (za) (zb) (l8) (a07) (b07) (sm) (by omega) (by omega) (by omega) hres _ _ ls hP hD hS (lv_sub hl [1, 2, 3, 0] rfl)
        · skip
          rw [if_neg c_103] at hres
          refine lv_aload_n hx hb dX12_law_106 rfl (lv_at hl 0 rfl) ?_
          refine va_get (D := (dC, dI)) (ci := 12) (v := .ref (ad 5)) (C := RX12) (T := TX12) (N := 34) hx hb hts hin hown hK hP 0 rfl rfl 5 (by decide) (hts (.fieldLink RX12 23 "LikeWordsModel" "law" "[I") (by decide +kernel)) (fun _ h9 => h9) rfl dX12_law_107 ?_
          refine lv_bipush (v := iI (12 : Int)) hx hb dX12_law_110 (by decide) ?_
          refine lv_iconst (v := iI (2 : Int)) hx hb dX12_law_112 (by decide) ?_
          refine lv_aload_n hx hb dX12_law_113 rfl (lv_at hl 0 rfl) ?_
          refine va_get (D := (dC, dI)) (ci := 12) (v := .int (iI ((y).1 3))) (C := RX12) (T := TX12) (N := 34) hx hb hts hin hown hK hP 0 rfl rfl 3 (by decide) (hts (.fieldLink RX12 99 "LikeWordsModel" "laws" "I") (by decide +kernel)) (fun _ h9 => h9) rfl dX12_law_114 ?_
          refine wi_imul hx hb dX12_law_117 ?_
          refine lv_iload_n hx hb dX12_law_118 rfl (lv_at hl 3 rfl) ?_
          refine wi_iadd hx hb dX12_law_119 ?_
          refine wi_imul hx hb dX12_law_120 ?_
          refine lv_iload hx hb dX12_law_121 (lv_at hl 5 rfl) ?_
          refine wi_iadd hx hb dX12_law_123 ?_
          refine lv_aload_n hx hb dX12_law_124 rfl (lv_at hl 0 rfl) ?_
          refine va_get (D := (dC, dI)) (ci := 12) (v := .ref (ad 2)) (C := RX12) (T := TX12) (N := 34) hx hb hts hin hown hK hP 0 rfl rfl 2 (by decide) (hts (.fieldLink RX12 17 "LikeWordsModel" "row" "[I") (by decide +kernel)) (fun _ h9 => h9) rfl dX12_law_125 ?_
          refine lv_sipush (v := iI (128 : Int)) hx hb dX12_law_128 (by decide) ?_
          refine lv_iload hx hb dX12_law_131 (lv_at hl 4 rfl) ?_
          refine wi_imul hx hb dX12_law_133 ?_
          refine lv_iload hx hb dX12_law_134 (lv_at hl 5 rfl) ?_
          refine wi_iadd hx hb dX12_law_136 ?_
          refine wi_iald (f := (y).2 2) hx hb hK hP 2 0 rfl rfl (i := (((128 : Int)) * (q)) + (i)) (by omega) (by omega) (by decide) dX12_law_137 ?_
          refine wi_iast (f := (y).2 5) hx hb hK hP hD hS 4 0 rfl rfl (i := (((12 : Int)) * ((((2 : Int)) * ((y).1 3)) + (k))) + (i)) (x := ((y).2 2) ((((128 : Int)) * (q)) + (i)).toNat) (by omega) (by omega) (by decide) dX12_law_138 (fun H locs hP hD hS => ?_)
          rw [mW_a5] at hP hD
          refine lv_iinc (v := iI ((i) + (1 : Int))) (lv' := [(5, .int (iI ((i) + (1 : Int)))), (0, .ref (h)), (1, .int (iI (a))), (2, .int (iI (b))), (3, .int (iI (k))), (4, .int (iI (q)))]) hx hb dX12_law_139 hl (k := 5) rfl (iI_add _ _) (by decide) rfl (fun ls hl => ?_)
          refine lv_goto (tgt := 94) hx hb dX12_law_142 (by decide) ?_
          exact ih.2 (aU (y) 5 ((((12 : Int)) * ((((2 : Int)) * ((y).1 3)) + (k))) + (i)).toNat (((y).2 2) ((((128 : Int)) * (q)) + (i)).toNat)) (k) (q) ((i) + (1 : Int)) (za) (zb) (l8) (a07) (b07) (sm_a (by decide) sm) (by omega) (by omega) (by omega) (by omega) (q2) (q3) (by omega) (by omega) (by omega) hres _ _ ls hP hD hS (lv_sub hl [1, 2, 3, 4, 5, 0] rfl)
  have key : ∀ (H : Heap) (locs : List Loc), va_P (dC, dI) vwCl (mW h ad cI cJ cZ (x)) H → va_S A s.heap H locs → W p l e (headSpec wsX12_law ({ frames := 2, cells := 0, slots := 0, locals := 45 })).room s m ([.ref h, .int (iI a), .int (iI b)] : List Value).toArray below meth c H locs 0 0 (MQ below (va_Qi (fun (r : Int32) (u : MS) => r = iI (F_m_law (x) (a) (b)).1 ∧ u = (F_m_law (x) (a) (b)).2) (mAt dC dI h ad cI cJ cZ A) A) ([.ref h, .int (iI a), .int (iI b)] : List Value).toArray s 0 0 A) (F0 m 0 ls []) := by
    intro H locs hP hS
    have hres : (if ((F_m_isSlot (x) (a)).1) = (0) then ((-1 : Int), x) else (if ((F_m_isSlot (x) (b)).1) = (0) then ((-1 : Int), x) else (if ((12 : Int)) < (((x).2 1) (a).toNat) then ((-3 : Int), x) else (if (((x).2 1) (b).toNat) ≤ ((12 : Int)) then (if ((x).1 3) = ((8 : Int)) then ((-4 : Int), x) else F_m_law_s 300 0 (x) (a) (b) ((0 : Int)) (0) (0)) else ((-3 : Int), x))))) = F_m_law (x) (a) (b) := rfl
    refine lv_iload_n hx hb dX12_law_0 rfl (lv_at hl 1 rfl) ?_
    have hFc : ∀ q, va_A (mW h ad cI cJ cZ (x)) H.size q → A q := fun q hq => Or.elim hq (fun ⟨k, e, hk⟩ => hD.2 k (q, e) hk) (fun hk => hA q (Nat.le_trans hS.1 hk))
    refine va_calli (va_runS (As := [.int (iI (a))]) (rest := []) ⟨hx, hb, hml, hown, hts⟩ (c_m_isSlot l dC dI h ad cI cJ cZ H.size (x) (a) (by first | assumption | exact iR_L (by assumption) | exact ⟨by decide, by decide⟩ | omega | (unfold iR; omega) | (unfold iRL; omega))) (va_cwS 1 hts gX12_law_X12_isSlot rfl rfl rfl (by decide +kernel) ⟨Nat.le_of_ble_eq_true rfl, Nat.le_of_ble_eq_true rfl⟩) ⟨fun a U g mk q => by obtain ⟨q0, q1, qP, qK, qD⟩ := q; exact ⟨q0, q1, qP, va_K.moved (u := U) (U := U.calling g mk a) (Vm.Alike.refl U.vm) qK, qD⟩, fun U hU hW => ⟨rfl, by rw [hU], by rw [hU]; exact hP, va_K.moved hW.alike hK, hD.weaken (fun _ _ _ _ => trivial)⟩⟩ rfl rfl hl.1 rfl (lv_room (Nat.le_of_ble_eq_true rfl)) dX12_law_1 ⟨Nat.le_of_ble_eq_true rfl, Nat.le_of_ble_eq_true rfl⟩) hS (fun q _ h => hFc q h) hFc (fun r9 u9 t H1 locs ht hvm hw hB hz1 hk1 hS => ?_)
    obtain ⟨hP1, hK1, hD1⟩ := hB
    rw [ht] at hP1
    obtain ⟨hw1, hw2⟩ := hw
    rw [hw2] at hP1 hD1
    rw [hw1]
    rw [F_m_isSlot_2] at hP1 hD1
    have hD2 := hD1.weaken (B := A) (fun _ q _ h => hFc q.1 h)
    have hP := hP1
    have hD := hD2
    generalize H1 = H at hP hS ⊢
    refine wi_if_eq (tgt := 14) hx hb (by rw [F_m_isSlot_1]; exact F_R01 (F_in_01 _ _ _)) dX12_law_4 (by decide) (fun c_4 => ?_) (fun c_4 => ?_)
    · skip
      rw [if_pos c_4] at hres
      refine lv_iconst (v := iI (-1 : Int)) hx hb dX12_law_14 (by decide) ?_
      exact W.iret (v := iI ((-1 : Int))) hx hb hr (fun t ht hW => ⟨⟨iI ((-1 : Int)), x, rfl, ⟨(by have h9 := congrArg (fun z : Int × MS => iI z.1) hres; exact h9), (by have h9 := congrArg (fun z : Int × MS => z.2) hres; exact h9)⟩, by rw [ht]; exact hP, va_K.moved hW.alike hK, hD⟩, hS.F ht⟩) hS.2.2 dX12_law_15
    · skip
      rw [if_neg c_4] at hres
      refine lv_iload_n hx hb dX12_law_7 rfl (lv_at hl 2 rfl) ?_
      have hFc : ∀ q, va_A (mW h ad cI cJ cZ (x)) H.size q → A q := fun q hq => Or.elim hq (fun ⟨k, e, hk⟩ => hD.2 k (q, e) hk) (fun hk => hA q (Nat.le_trans hS.1 hk))
      refine va_calli (va_runS (As := [.int (iI (b))]) (rest := []) ⟨hx, hb, hml, hown, hts⟩ (c_m_isSlot l dC dI h ad cI cJ cZ H.size (x) (b) (by first | assumption | exact iR_L (by assumption) | exact ⟨by decide, by decide⟩ | omega | (unfold iR; omega) | (unfold iRL; omega))) (va_cwS 1 hts gX12_law_X12_isSlot rfl rfl rfl (by decide +kernel) ⟨Nat.le_of_ble_eq_true rfl, Nat.le_of_ble_eq_true rfl⟩) ⟨fun a U g mk q => by obtain ⟨q0, q1, qP, qK, qD⟩ := q; exact ⟨q0, q1, qP, va_K.moved (u := U) (U := U.calling g mk a) (Vm.Alike.refl U.vm) qK, qD⟩, fun U hU hW => ⟨rfl, by rw [hU], by rw [hU]; exact hP, va_K.moved hW.alike hK, hD.weaken (fun _ _ _ _ => trivial)⟩⟩ rfl rfl hl.1 rfl (lv_room (Nat.le_of_ble_eq_true rfl)) dX12_law_8 ⟨Nat.le_of_ble_eq_true rfl, Nat.le_of_ble_eq_true rfl⟩) hS (fun q _ h => hFc q h) hFc (fun r9 u9 t H1 locs ht hvm hw hB hz1 hk1 hS => ?_)
      obtain ⟨hP1, hK1, hD1⟩ := hB
      rw [ht] at hP1
      obtain ⟨hw1, hw2⟩ := hw
      rw [hw2] at hP1 hD1
      rw [hw1]
      rw [F_m_isSlot_2] at hP1 hD1
      have hD2 := hD1.weaken (B := A) (fun _ q _ h => hFc q.1 h)
      have hP := hP1
      have hD := hD2
      generalize H1 = H at hP hS ⊢
      refine wi_if_ne (tgt := 16) hx hb (by rw [F_m_isSlot_1]; exact F_R01 (F_in_01 _ _ _)) dX12_law_11 (by decide) (fun c_11 => ?_) (fun c_11 => ?_)
      · skip
        rw [if_neg c_11] at hres
        obtain ⟨a0, a1⟩ := F_in_1 (by rw [← F_m_isSlot_1 x a]; exact c_4)
        obtain ⟨b0, b1⟩ := F_in_1 (by rw [← F_m_isSlot_1 x b]; exact c_11)
        obtain ⟨z0, z1⟩ := zs a.toNat (by omega)
        obtain ⟨z2, z3⟩ := zs b.toNat (by omega)
        refine lv_aload_n hx hb dX12_law_16 rfl (lv_at hl 0 rfl) ?_
        refine va_get (D := (dC, dI)) (ci := 12) (v := .ref (ad 1)) (C := RX12) (T := TX12) (N := 34) hx hb hts hin hown hK hP 0 rfl rfl 1 (by decide) (hts (.fieldLink RX12 13 "LikeWordsModel" "size" "[I") (by decide +kernel)) (fun _ h9 => h9) rfl dX12_law_17 ?_
        refine lv_iload_n hx hb dX12_law_20 rfl (lv_at hl 1 rfl) ?_
        refine wi_iald (f := (x).2 1) hx hb hK hP 1 0 rfl rfl (i := a) (by omega) (by omega) (by decide) dX12_law_21 ?_
        refine lv_bipush (v := iI (12 : Int)) hx hb dX12_law_22 (by decide) ?_
        refine wi_icmp_gt (tgt := 38) hx hb (by first | assumption | (unfold iR; omega) | exact F_R01 (by assumption)) ⟨by decide, by decide⟩ dX12_law_24 (by decide) (fun c_24 => ?_) (fun c_24 => ?_)
        · skip
          rw [if_pos c_24] at hres
          refine lv_bipush (v := iI (-3 : Int)) hx hb dX12_law_38 (by decide) ?_
          exact W.iret (v := iI ((-3 : Int))) hx hb hr (fun t ht hW => ⟨⟨iI ((-3 : Int)), x, rfl, ⟨(by have h9 := congrArg (fun z : Int × MS => iI z.1) hres; exact h9), (by have h9 := congrArg (fun z : Int × MS => z.2) hres; exact h9)⟩, by rw [ht]; exact hP, va_K.moved hW.alike hK, hD⟩, hS.F ht⟩) hS.2.2 dX12_law_40
        · skip
          rw [if_neg c_24] at hres
          refine lv_aload_n hx hb dX12_law_27 rfl (lv_at hl 0 rfl) ?_
          refine va_get (D := (dC, dI)) (ci := 12) (v := .ref (ad 1)) (C := RX12) (T := TX12) (N := 34) hx hb hts hin hown hK hP 0 rfl rfl 1 (by decide) (hts (.fieldLink RX12 13 "LikeWordsModel" "size" "[I") (by decide +kernel)) (fun _ h9 => h9) rfl dX12_law_28 ?_
          refine lv_iload_n hx hb dX12_law_31 rfl (lv_at hl 2 rfl) ?_
          refine wi_iald (f := (x).2 1) hx hb hK hP 1 0 rfl rfl (i := b) (by omega) (by omega) (by decide) dX12_law_32 ?_
          refine lv_bipush (v := iI (12 : Int)) hx hb dX12_law_33 (by decide) ?_
          refine wi_icmp_le (tgt := 41) hx hb (by first | assumption | (unfold iR; omega) | exact F_R01 (by assumption)) ⟨by decide, by decide⟩ dX12_law_35 (by decide) (fun c_35 => ?_) (fun c_35 => ?_)
          · skip
            rw [if_pos c_35] at hres
            refine lv_aload_n hx hb dX12_law_41 rfl (lv_at hl 0 rfl) ?_
            refine va_get (D := (dC, dI)) (ci := 12) (v := .int (iI ((x).1 3))) (C := RX12) (T := TX12) (N := 34) hx hb hts hin hown hK hP 0 rfl rfl 3 (by decide) (hts (.fieldLink RX12 99 "LikeWordsModel" "laws" "I") (by decide +kernel)) (fun _ h9 => h9) rfl dX12_law_42 ?_
            refine lv_bipush (v := iI (8 : Int)) hx hb dX12_law_45 (by decide) ?_
            refine wi_icmp_ne (tgt := 53) hx hb (by first | assumption | (unfold iR; omega) | exact F_R01 (by assumption)) ⟨by decide, by decide⟩ dX12_law_47 (by decide) (fun c_47 => ?_) (fun c_47 => ?_)
            · skip
              rw [if_neg c_47] at hres
              refine lv_iconst (v := iI (0 : Int)) hx hb dX12_law_53 (by decide) ?_
              refine lv_istore_n (lv' := [(3, .int (iI ((0 : Int)))), (0, .ref (h)), (1, .int (iI (a))), (2, .int (iI (b)))]) hx hb dX12_law_54 rfl hl (by decide) rfl (fun ls hl => ?_)
              exact (L (300)).1 (x) ((0 : Int)) (by omega) (by omega) (by omega) (⟨by omega, by omega⟩) (⟨by omega, by omega⟩) (sm_rf _ _ _) (by omega) (by omega) (by omega) hres _ _ ls hP hD hS (lv_sub hl [1, 2, 3, 0] rfl)
            · skip
              rw [if_pos c_47] at hres
              refine lv_bipush (v := iI (-4 : Int)) hx hb dX12_law_50 (by decide) ?_
              exact W.iret (v := iI ((-4 : Int))) hx hb hr (fun t ht hW => ⟨⟨iI ((-4 : Int)), x, rfl, ⟨(by have h9 := congrArg (fun z : Int × MS => iI z.1) hres; exact h9), (by have h9 := congrArg (fun z : Int × MS => z.2) hres; exact h9)⟩, by rw [ht]; exact hP, va_K.moved hW.alike hK, hD⟩, hS.F ht⟩) hS.2.2 dX12_law_52
          · skip
            rw [if_neg c_35] at hres
            refine lv_bipush (v := iI (-3 : Int)) hx hb dX12_law_38 (by decide) ?_
            exact W.iret (v := iI ((-3 : Int))) hx hb hr (fun t ht hW => ⟨⟨iI ((-3 : Int)), x, rfl, ⟨(by have h9 := congrArg (fun z : Int × MS => iI z.1) hres; exact h9), (by have h9 := congrArg (fun z : Int × MS => z.2) hres; exact h9)⟩, by rw [ht]; exact hP, va_K.moved hW.alike hK, hD⟩, hS.F ht⟩) hS.2.2 dX12_law_40
      · skip
        rw [if_pos c_11] at hres
        refine lv_iconst (v := iI (-1 : Int)) hx hb dX12_law_14 (by decide) ?_
        exact W.iret (v := iI ((-1 : Int))) hx hb hr (fun t ht hW => ⟨⟨iI ((-1 : Int)), x, rfl, ⟨(by have h9 := congrArg (fun z : Int × MS => iI z.1) hres; exact h9), (by have h9 := congrArg (fun z : Int × MS => z.2) hres; exact h9)⟩, by rw [ht]; exact hP, va_K.moved hW.alike hK, hD⟩, hS.F ht⟩) hS.2.2 dX12_law_15
  exact key _ _ hP hS
