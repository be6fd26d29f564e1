-- deps: A0.l
def F_m_see (x : MS) (m0 : Int) : Int × MS := (if ((F_m_in (x) (m0) ((1 : Int)) ((20 : Int))).1) = (0) then ((-2 : Int), x) else (if ((F_m_wordsTo (x) (m0)).1) ≤ ((10000 : Int)) then (if ((F_m_findRules ((F_m_joinAll (sU (sU (x) 6 ((-9 : Int))) 7 ((F_m_wordsTo (sU (x) 6 ((-9 : Int))) (m0)).1)) (m0)).2)).1) = (0) then ((-4 : Int), (F_m_findRules ((F_m_joinAll (sU (sU (x) 6 ((-9 : Int))) 7 ((F_m_wordsTo (sU (x) 6 ((-9 : Int))) (m0)).1)) (m0)).2)).2) else (if ((F_m_closes (sU ((F_m_plant ((F_m_findRules ((F_m_joinAll (sU (sU (x) 6 ((-9 : Int))) 7 ((F_m_wordsTo (sU (x) 6 ((-9 : Int))) (m0)).1)) (m0)).2)).2)).2) 6 (m0))).1) = (0) then (((F_m_closes (sU ((F_m_plant ((F_m_findRules ((F_m_joinAll (sU (sU (x) 6 ((-9 : Int))) 7 ((F_m_wordsTo (sU (x) 6 ((-9 : Int))) (m0)).1)) (m0)).2)).2)).2) 6 (m0))).2).1 12, sU ((F_m_closes (sU ((F_m_plant ((F_m_findRules ((F_m_joinAll (sU (sU (x) 6 ((-9 : Int))) 7 ((F_m_wordsTo (sU (x) 6 ((-9 : Int))) (m0)).1)) (m0)).2)).2)).2) 6 (m0))).2) 27 ((F_m_closes (sU ((F_m_plant ((F_m_findRules ((F_m_joinAll (sU (sU (x) 6 ((-9 : Int))) 7 ((F_m_wordsTo (sU (x) 6 ((-9 : Int))) (m0)).1)) (m0)).2)).2)).2) 6 (m0))).1)) else (((F_m_countAll (sU ((F_m_closes (sU ((F_m_plant ((F_m_findRules ((F_m_joinAll (sU (sU (x) 6 ((-9 : Int))) 7 ((F_m_wordsTo (sU (x) 6 ((-9 : Int))) (m0)).1)) (m0)).2)).2)).2) 6 (m0))).2) 27 ((F_m_closes (sU ((F_m_plant ((F_m_findRules ((F_m_joinAll (sU (sU (x) 6 ((-9 : Int))) 7 ((F_m_wordsTo (sU (x) 6 ((-9 : Int))) (m0)).1)) (m0)).2)).2)).2) 6 (m0))).1))).2).1 12, (F_m_countAll (sU ((F_m_closes (sU ((F_m_plant ((F_m_findRules ((F_m_joinAll (sU (sU (x) 6 ((-9 : Int))) 7 ((F_m_wordsTo (sU (x) 6 ((-9 : Int))) (m0)).1)) (m0)).2)).2)).2) 6 (m0))).2) 27 ((F_m_closes (sU ((F_m_plant ((F_m_findRules ((F_m_joinAll (sU (sU (x) 6 ((-9 : Int))) 7 ((F_m_wordsTo (sU (x) 6 ((-9 : Int))) (m0)).1)) (m0)).2)).2)).2) 6 (m0))).1))).2))) else ((-2 : Int), x)))
set_option maxHeartbeats 4000000 in
set_option maxRecDepth 100000 in
/-- see -/
theorem c_m_see (l : Launch) (dC : Nat → ClassId) (dI : Nat → Nat → Nat) (h : Nat) (ad : Nat → Nat) (cI cJ cZ : ClassId) (sz : Nat) (x : MS) (m0 : Int) (rm : iR m0) (hH : seH x) : Met l yX12_see wsX12_see ({ frames := 4, cells := 0, slots := 0, locals := 151 }) (mPc dC dI h ad cI cJ cZ sz x [.ref h, .int (iI m0)]) (va_Qi (fun (r : Int32) (u : MS) => r = iI (F_m_see (x) (m0)).1 ∧ u = (F_m_see (x) (m0)).2) (mAt dC dI h ad cI cJ cZ (va_A (mW h ad cI cJ cZ (x)) sz)) (va_A (mW h ad cI cJ cZ (x)) sz)) 0 0 (va_A (mW h ad cI cJ cZ (x)) sz) := by
  refine Met.ofW (cc := cX12_see) (maxL := 2) (ret := (some .int)) (by decide) rfl ?_
  intro p e s m args below meth c s₁ B hml hv
  obtain ⟨rfl, hsz, hP, hK, hD0⟩ := hv
  have hx := B.exec
  have hb := B.bytes
  have hr := B.returns
  have hts := atoms_spec (ws := wsX12_see) B.pre
  have hown : s.vm.findClass RX12 = some m.cls := findClass_of_methodNamed B.named
  have hlocks := B.notSynchronized
  have hin : ∀ w ∈ u_ws RX12 TX12 34, w ∈ wsX12_see := by decide +kernel
  subst hsz
  have hD := hD0.self (sz := s.heap.size)
  generalize hAe : va_A (mW h ad cI cJ cZ (x)) s.heap.size = A at hD ⊢
  have hA : ∀ q : Nat, s.heap.size ≤ q → A q := fun q h => by rw [← hAe]; exact Or.inr h
  have hS : va_S A s.heap s.heap [] := va_S.rf
  have hl := lv_entry ([.ref h, .int (iI m0)]) (n := 2) (Nat.le_of_ble_eq_true rfl)
  rw [lg_entry_eq]
  generalize (lg_sl ([.ref h, .int (iI m0)]) ++ List.replicate (2 - (lg_sl ([.ref h, .int (iI m0)])).length) Slot.unset).toArray = ls at hl ⊢
  have hl : lv_has ls 2 [(0, .ref (h)), (1, .int (iI (m0)))] := hl
  have lt9 := hH.1
  have key : ∀ (H : Heap) (locs : List Loc), va_P (dC, dI) vwCl (mW h ad cI cJ cZ (x)) H → va_S A s.heap H locs → W p l e (headSpec wsX12_see ({ frames := 4, cells := 0, slots := 0, locals := 151 })).room s m ([.ref h, .int (iI m0)] : List Value).toArray below meth c H locs 0 0 (MQ below (va_Qi (fun (r : Int32) (u : MS) => r = iI (F_m_see (x) (m0)).1 ∧ u = (F_m_see (x) (m0)).2) (mAt dC dI h ad cI cJ cZ A) A) ([.ref h, .int (iI m0)] : List Value).toArray s 0 0 A) (F0 m 0 ls []) := by
    intro H locs hP hS
    have hres : (if ((F_m_in (x) (m0) ((1 : Int)) ((20 : Int))).1) = (0) then ((-2 : Int), x) else (if ((F_m_wordsTo (x) (m0)).1) ≤ ((10000 : Int)) then (if ((F_m_findRules ((F_m_joinAll (sU (sU (x) 6 ((-9 : Int))) 7 ((F_m_wordsTo (sU (x) 6 ((-9 : Int))) (m0)).1)) (m0)).2)).1) = (0) then ((-4 : Int), (F_m_findRules ((F_m_joinAll (sU (sU (x) 6 ((-9 : Int))) 7 ((F_m_wordsTo (sU (x) 6 ((-9 : Int))) (m0)).1)) (m0)).2)).2) else (if ((F_m_closes (sU ((F_m_plant ((F_m_findRules ((F_m_joinAll (sU (sU (x) 6 ((-9 : Int))) 7 ((F_m_wordsTo (sU (x) 6 ((-9 : Int))) (m0)).1)) (m0)).2)).2)).2) 6 (m0))).1) = (0) then (((F_m_closes (sU ((F_m_plant ((F_m_findRules ((F_m_joinAll (sU (sU (x) 6 ((-9 : Int))) 7 ((F_m_wordsTo (sU (x) 6 ((-9 : Int))) (m0)).1)) (m0)).2)).2)).2) 6 (m0))).2).1 12, sU ((F_m_closes (sU ((F_m_plant ((F_m_findRules ((F_m_joinAll (sU (sU (x) 6 ((-9 : Int))) 7 ((F_m_wordsTo (sU (x) 6 ((-9 : Int))) (m0)).1)) (m0)).2)).2)).2) 6 (m0))).2) 27 ((F_m_closes (sU ((F_m_plant ((F_m_findRules ((F_m_joinAll (sU (sU (x) 6 ((-9 : Int))) 7 ((F_m_wordsTo (sU (x) 6 ((-9 : Int))) (m0)).1)) (m0)).2)).2)).2) 6 (m0))).1)) else (((F_m_countAll (sU ((F_m_closes (sU ((F_m_plant ((F_m_findRules ((F_m_joinAll (sU (sU (x) 6 ((-9 : Int))) 7 ((F_m_wordsTo (sU (x) 6 ((-9 : Int))) (m0)).1)) (m0)).2)).2)).2) 6 (m0))).2) 27 ((F_m_closes (sU ((F_m_plant ((F_m_findRules ((F_m_joinAll (sU (sU (x) 6 ((-9 : Int))) 7 ((F_m_wordsTo (sU (x) 6 ((-9 : Int))) (m0)).1)) (m0)).2)).2)).2) 6 (m0))).1))).2).1 12, (F_m_countAll (sU ((F_m_closes (sU ((F_m_plant ((F_m_findRules ((F_m_joinAll (sU (sU (x) 6 ((-9 : Int))) 7 ((F_m_wordsTo (sU (x) 6 ((-9 : Int))) (m0)).1)) (m0)).2)).2)).2) 6 (m0))).2) 27 ((F_m_closes (sU ((F_m_plant ((F_m_findRules ((F_m_joinAll (sU (sU (x) 6 ((-9 : Int))) 7 ((F_m_wordsTo (sU (x) 6 ((-9 : Int))) (m0)).1)) (m0)).2)).2)).2) 6 (m0))).1))).2))) else ((-2 : Int), x))) = F_m_see (x) (m0) := rfl
    refine lv_iload_n hx hb dX12_see_0 rfl (lv_at hl 1 rfl) ?_
    refine wi_i2l hx hb (by first | assumption | (unfold iR; omega) | exact F_R01 (by assumption)) dX12_see_1 ?_
    refine lv_lconst (v := iL 1) hx hb dX12_see_2 (by decide) ?_
    refine lv_ldc2 (v := iL (20 : Int)) hx hb hown (hts (.constantLong RX12 198 (20)) (by decide +kernel)) dX12_see_3 ?_
    have hFc : ∀ q, va_A (mW h ad cI cJ cZ (x)) H.size q → A q := fun q hq => Or.elim hq (fun ⟨k, e, hk⟩ => hD.2 k (q, e) hk) (fun hk => hA q (Nat.le_trans hS.1 hk))
    refine va_calli (va_runS (As := [.long (iL (m0)), .long (iL ((1 : Int))), .long (iL ((20 : Int)))]) (rest := []) ⟨hx, hb, hml, hown, hts⟩ (c_m_in l dC dI h ad cI cJ cZ H.size (x) (m0) ((1 : Int)) ((20 : Int)) (iR_L rm) ⟨by decide, by decide⟩ ⟨by decide, by decide⟩) (va_cwS 3 hts gX12_see_X12_in rfl rfl rfl (by decide +kernel) ⟨Nat.le_of_ble_eq_true rfl, Nat.le_of_ble_eq_true rfl⟩) ⟨fun a U g mk q => by obtain ⟨q0, q1, qP, qK, qD⟩ := q; exact ⟨q0, q1, qP, va_K.moved (u := U) (U := U.calling g mk a) (Vm.Alike.refl U.vm) qK, qD⟩, fun U hU hW => ⟨rfl, by rw [hU], by rw [hU]; exact hP, va_K.moved hW.alike hK, hD.weaken (fun _ _ _ _ => trivial)⟩⟩ rfl rfl hl.1 rfl (lv_room (Nat.le_of_ble_eq_true rfl)) dX12_see_6 ⟨Nat.le_of_ble_eq_true rfl, Nat.le_of_ble_eq_true rfl⟩) hS (fun q _ h => hFc q h) hFc (fun r9 u9 t H1 locs ht hvm hw hB hz1 hk1 hS => ?_)
    obtain ⟨hP1, hK1, hD1⟩ := hB
    rw [ht] at hP1
    obtain ⟨hw1, hw2⟩ := hw
    rw [hw2] at hP1 hD1
    rw [hw1]
    rw [F_m_in_2] at hP1 hD1
    have hD2 := hD1.weaken (B := A) (fun _ q _ h => hFc q.1 h)
    have hP := hP1
    have hD := hD2
    generalize H1 = H at hP hS ⊢
    refine wi_if_eq (tgt := 23) hx hb (by rw [F_m_in_1]; exact F_R01 (F_in_01 _ _ _)) dX12_see_9 (by decide) (fun c_9 => ?_) (fun c_9 => ?_)
    · skip
      rw [if_pos c_9] at hres
      refine lv_bipush (v := iI (-2 : Int)) hx hb dX12_see_23 (by decide) ?_
      exact W.iret (v := iI ((-2 : Int))) hx hb hr (fun t ht hW => ⟨⟨iI ((-2 : Int)), x, rfl, ⟨(by have h9 := congrArg (fun z : Int × MS => iI z.1) hres; exact h9), (by have h9 := congrArg (fun z : Int × MS => z.2) hres; exact h9)⟩, by rw [ht]; exact hP, va_K.moved hW.alike hK, hD⟩, hS.F ht⟩) hS.2.2 dX12_see_25
    · skip
      rw [if_neg c_9] at hres
      rw [F_m_in_1] at c_9
      obtain ⟨m1, m2⟩ := F_in_1 c_9
      refine lv_aload_n hx hb dX12_see_12 rfl (lv_at hl 0 rfl) ?_
      refine lv_iload_n hx hb dX12_see_13 rfl (lv_at hl 1 rfl) ?_
      have hFc : ∀ q, va_A (mW h ad cI cJ cZ (x)) H.size q → A q := fun q hq => Or.elim hq (fun ⟨k, e, hk⟩ => hD.2 k (q, e) hk) (fun hk => hA q (Nat.le_trans hS.1 hk))
      refine va_calli (va_runV (As := [.int (iI (m0))]) (rest := []) ⟨hx, hb, hml, hown, hts⟩ (c_m_wordsTo l dC dI h ad cI cJ cZ H.size (x) (m0) rm (by omega) lt9) (cwV 1 hts gX12_see_X12_wordsTo rfl rfl rfl (by decide +kernel) ⟨Nat.le_of_ble_eq_true rfl, Nat.le_of_ble_eq_true rfl⟩) ⟨fun a U g mk q => by obtain ⟨q0, q1, qP, qK, qD⟩ := q; exact ⟨q0, q1, qP, va_K.moved (u := U) (U := U.calling g mk a) (Vm.Alike.refl U.vm) qK, qD⟩, va_recv hK hP (ci := 12) (q0 := 0) rfl rfl, fun U hU hW => ⟨rfl, by rw [hU], by rw [hU]; exact hP, va_K.moved hW.alike hK, hD.weaken (fun _ _ _ _ => trivial)⟩⟩ rfl rfl hl.1 rfl (lv_room (Nat.le_of_ble_eq_true rfl)) dX12_see_14 ⟨Nat.le_of_ble_eq_true rfl, Nat.le_of_ble_eq_true rfl⟩) hS (fun q _ h => hFc q h) hFc (fun r9 u9 t H1 locs ht hvm hw hB hz1 hk1 hS => ?_)
      obtain ⟨hP1, hK1, hD1⟩ := hB
      rw [ht] at hP1
      obtain ⟨hw1, hw2⟩ := hw
      rw [hw2] at hP1 hD1
      rw [hw1]
      rw [F_m_wordsTo_2] at hP1 hD1
      have hD2 := hD1.weaken (B := A) (fun _ q _ h => hFc q.1 h)
      have hP := hP1
      have hD := hD2
      generalize H1 = H at hP hS ⊢
      refine lv_sipush (v := iI (10000 : Int)) hx hb dX12_see_17 (by decide) ?_
      refine wi_icmp_le (tgt := 26) hx hb (by first | exact ⟨by decide, by decide⟩ | exact wordsTo_R lt9.1 (by omega) m2) (by first | exact ⟨by decide, by decide⟩ | exact wordsTo_R lt9.1 (by omega) m2) dX12_see_20 (by decide) (fun c_20 => ?_) (fun c_20 => ?_)
      · skip
        rw [if_pos c_20] at hres
        have h9 : (F_m_wordsTo x m0).1 ≤ 10000 := by omega
        have J := see_J hH m1 m2 h9
        have K := see_2 hH m1 m2 h9
        have K1 : 1 ≤ (sY1 x m0).1 7 := by
          have h8 := K.2.1
          have h7 := gS_mono lt9.1 (show 1 ≤ m0.toNat + 1 by omega)
          have h6 : gS (x.1 0) 1 = 1 := rfl
          omega
        have K2 : (sY1 x m0).1 7 ≤ 10001 := by have h8 := K.2.2.1; omega
        have K0 : 1 ≤ (sY1 x m0).1 0 ∧ (sY1 x m0).1 0 ≤ 4 := by rw [K.1.1 0 (by decide)]; exact lt9
        have f01 : iR (F_m_findRules (sY1 x m0)).1 := by
          obtain ⟨_, _, _, _, _, _, ⟨e, _⟩ | ⟨e, _⟩⟩ := see_3 hH m1 m2 h9
          · rw [e]; exact ⟨by decide, by decide⟩
          · rw [e]; exact ⟨by decide, by decide⟩
        refine lv_aload_n hx hb dX12_see_26 rfl (lv_at hl 0 rfl) ?_
        refine lv_bipush (v := iI (-9 : Int)) hx hb dX12_see_27 (by decide) ?_
        refine va_put (D := (dC, dI)) (ci := 12) (v := .int (iI ((-9 : Int)))) (ty := .int) (C := RX12) (T := TX12) (N := 34) hx hb hts hin tyX12 tyX12_ok nmX12 hown hK hP hD hS 0 rfl rfl 6 (by decide) (hts (.fieldLink RX12 26 "LikeWordsModel" "seen" "I") (by decide +kernel)) (fun _ h9 => h9) rfl (by decide +kernel) rfl rfl (Nat.le_of_ble_eq_true rfl) dX12_see_29 (fun H locs hP hD hS => ?_)
        rw [mW_s6] at hP hD
        refine lv_aload_n hx hb dX12_see_32 rfl (lv_at hl 0 rfl) ?_
        refine lv_aload_n hx hb dX12_see_33 rfl (lv_at hl 0 rfl) ?_
        refine lv_iload_n hx hb dX12_see_34 rfl (lv_at hl 1 rfl) ?_
        have hFc : ∀ q, va_A (mW h ad cI cJ cZ (sU (x) 6 ((-9 : Int)))) H.size q → A q := fun q hq => Or.elim hq (fun ⟨k, e, hk⟩ => hD.2 k (q, e) hk) (fun hk => hA q (Nat.le_trans hS.1 hk))
        refine va_calli (va_runV (As := [.int (iI (m0))]) (rest := [.ref (h)]) ⟨hx, hb, hml, hown, hts⟩ (c_m_wordsTo l dC dI h ad cI cJ cZ H.size (sU (x) 6 ((-9 : Int))) (m0) rm (by omega) (by rw [yS_n (by decide)]; exact lt9)) (cwV 1 hts gX12_see_X12_wordsTo rfl rfl rfl (by decide +kernel) ⟨Nat.le_of_ble_eq_true rfl, Nat.le_of_ble_eq_true rfl⟩) ⟨fun a U g mk q => by obtain ⟨q0, q1, qP, qK, qD⟩ := q; exact ⟨q0, q1, qP, va_K.moved (u := U) (U := U.calling g mk a) (Vm.Alike.refl U.vm) qK, qD⟩, va_recv hK hP (ci := 12) (q0 := 0) rfl rfl, fun U hU hW => ⟨rfl, by rw [hU], by rw [hU]; exact hP, va_K.moved hW.alike hK, hD.weaken (fun _ _ _ _ => trivial)⟩⟩ rfl rfl hl.1 rfl (lv_room (Nat.le_of_ble_eq_true rfl)) dX12_see_35 ⟨Nat.le_of_ble_eq_true rfl, Nat.le_of_ble_eq_true rfl⟩) hS (fun q _ h => hFc q h) hFc (fun r9 u9 t H1 locs ht hvm hw hB hz1 hk1 hS => ?_)
        obtain ⟨hP1, hK1, hD1⟩ := hB
        rw [ht] at hP1
        obtain ⟨hw1, hw2⟩ := hw
        rw [hw2] at hP1 hD1
        rw [hw1]
        rw [F_m_wordsTo_2] at hP1 hD1
        have hD2 := hD1.weaken (B := A) (fun _ q _ h => hFc q.1 h)
        have hP := hP1
        have hD := hD2
        generalize H1 = H at hP hS ⊢
        refine va_put (D := (dC, dI)) (ci := 12) (v := .int (iI ((F_m_wordsTo (sU (x) 6 ((-9 : Int))) (m0)).1))) (ty := .int) (C := RX12) (T := TX12) (N := 34) hx hb hts hin tyX12 tyX12_ok nmX12 hown hK hP hD hS 0 rfl rfl 7 (by decide) (hts (.fieldLink RX12 122 "LikeWordsModel" "all" "I") (by decide +kernel)) (fun _ h9 => h9) rfl (by decide +kernel) rfl rfl (Nat.le_of_ble_eq_true rfl) dX12_see_38 (fun H locs hP hD hS => ?_)
        rw [mW_s7] at hP hD
        refine lv_aload_n hx hb dX12_see_41 rfl (lv_at hl 0 rfl) ?_
        refine lv_iload_n hx hb dX12_see_42 rfl (lv_at hl 1 rfl) ?_
        have hFc : ∀ q, va_A (mW h ad cI cJ cZ (sU (sU (x) 6 ((-9 : Int))) 7 ((F_m_wordsTo (sU (x) 6 ((-9 : Int))) (m0)).1))) H.size q → A q := fun q hq => Or.elim hq (fun ⟨k, e, hk⟩ => hD.2 k (q, e) hk) (fun hk => hA q (Nat.le_trans hS.1 hk))
        refine va_callv (va_runV (As := [.int (iI (m0))]) (rest := []) ⟨hx, hb, hml, hown, hts⟩ (c_m_joinAll l dC dI h ad cI cJ cZ H.size (sU (sU (x) 6 ((-9 : Int))) 7 ((F_m_wordsTo (sU (x) 6 ((-9 : Int))) (m0)).1)) (m0) m1 m2 J.1 J.2.1 J.2.2.1 J.2.2.2.1 J.2.2.2.2.1 J.2.2.2.2.2.1 J.2.2.2.2.2.2.1 J.2.2.2.2.2.2.2.1 J.2.2.2.2.2.2.2.2.1 J.2.2.2.2.2.2.2.2.2.1 J.2.2.2.2.2.2.2.2.2.2.1) (cwV 1 hts gX12_see_X12_joinAll rfl rfl rfl (by decide +kernel) ⟨Nat.le_of_ble_eq_true rfl, Nat.le_of_ble_eq_true rfl⟩) ⟨fun a U g mk q => by obtain ⟨q0, q1, qP, qK, qD⟩ := q; exact ⟨q0, q1, qP, va_K.moved (u := U) (U := U.calling g mk a) (Vm.Alike.refl U.vm) qK, qD⟩, va_recv hK hP (ci := 12) (q0 := 0) rfl rfl, fun U hU hW => ⟨rfl, by rw [hU], by rw [hU]; exact hP, va_K.moved hW.alike hK, hD.weaken (fun _ _ _ _ => trivial)⟩⟩ rfl rfl hl.1 rfl (lv_room (Nat.le_of_ble_eq_true rfl)) dX12_see_43 ⟨Nat.le_of_ble_eq_true rfl, Nat.le_of_ble_eq_true rfl⟩) hS (fun q _ h => hFc q h) hFc (fun u9 t H1 locs ht hvm hw hB hz1 hk1 hS => ?_)
        obtain ⟨hP1, hK1, hD1⟩ := hB
        rw [ht] at hP1
        rw [hw] at hP1 hD1
        have hD2 := hD1.weaken (B := A) (fun _ q _ h => hFc q.1 h)
        have hP := hP1
        have hD := hD2
        generalize H1 = H at hP hS ⊢
        refine lv_aload_n hx hb dX12_see_46 rfl (lv_at hl 0 rfl) ?_
        have hFc : ∀ q, va_A (mW h ad cI cJ cZ ((F_m_joinAll (sU (sU (x) 6 ((-9 : Int))) 7 ((F_m_wordsTo (sU (x) 6 ((-9 : Int))) (m0)).1)) (m0)).2)) H.size q → A q := fun q hq => Or.elim hq (fun ⟨k, e, hk⟩ => hD.2 k (q, e) hk) (fun hk => hA q (Nat.le_trans hS.1 hk))
        refine va_calli (va_runV (As := []) (rest := []) ⟨hx, hb, hml, hown, hts⟩ (c_m_findRules l dC dI h ad cI cJ cZ H.size ((F_m_joinAll (sU (sU (x) 6 ((-9 : Int))) 7 ((F_m_wordsTo (sU (x) 6 ((-9 : Int))) (m0)).1)) (m0)).2)  K1 K2 K.2.2.2.2.2.2.2.2.2 K.2.2.2.2.2.2.2.1 K.2.2.2.2.1 K0) (cwV 0 hts gX12_see_X12_findRules rfl rfl rfl (by decide +kernel) ⟨Nat.le_of_ble_eq_true rfl, Nat.le_of_ble_eq_true rfl⟩) ⟨fun a U g mk q => by obtain ⟨q0, q1, qP, qK, qD⟩ := q; exact ⟨q0, q1, qP, va_K.moved (u := U) (U := U.calling g mk a) (Vm.Alike.refl U.vm) qK, qD⟩, va_recv hK hP (ci := 12) (q0 := 0) rfl rfl, fun U hU hW => ⟨rfl, by rw [hU], by rw [hU]; exact hP, va_K.moved hW.alike hK, hD.weaken (fun _ _ _ _ => trivial)⟩⟩ rfl rfl hl.1 rfl (lv_room (Nat.le_of_ble_eq_true rfl)) dX12_see_47 ⟨Nat.le_of_ble_eq_true rfl, Nat.le_of_ble_eq_true rfl⟩) hS (fun q _ h => hFc q h) hFc (fun r9 u9 t H1 locs ht hvm hw hB hz1 hk1 hS => ?_)
        obtain ⟨hP1, hK1, hD1⟩ := hB
        rw [ht] at hP1
        obtain ⟨hw1, hw2⟩ := hw
        rw [hw2] at hP1 hD1
        rw [hw1]
        have hD2 := hD1.weaken (B := A) (fun _ q _ h => hFc q.1 h)
        have hP := hP1
        have hD := hD2
        generalize H1 = H at hP hS ⊢
        refine wi_if_ne (tgt := 56) hx hb f01 dX12_see_50 (by decide) (fun c_50 => ?_) (fun c_50 => ?_)
        · skip
          rw [if_neg c_50] at hres
          have P4 := see_4 hH m1 m2 h9 c_50
          have Q6 := see_6 hH m1 m2 h9 c_50
          have S7 := see_7 hH m1 m2 h9 c_50
          have k01 := S7.2.2.2.2.2.2.2
          have c_50 : ¬ (F_m_findRules (sY1 x m0)).1 = 0 := c_50
          refine lv_aload_n hx hb dX12_see_56 rfl (lv_at hl 0 rfl) ?_
          have hFc : ∀ q, va_A (mW h ad cI cJ cZ ((F_m_findRules ((F_m_joinAll (sU (sU (x) 6 ((-9 : Int))) 7 ((F_m_wordsTo (sU (x) 6 ((-9 : Int))) (m0)).1)) (m0)).2)).2)) H.size q → A q := fun q hq => Or.elim hq (fun ⟨k, e, hk⟩ => hD.2 k (q, e) hk) (fun hk => hA q (Nat.le_trans hS.1 hk))
          refine va_callv (va_runV (As := []) (rest := []) ⟨hx, hb, hml, hown, hts⟩ (c_m_plant l dC dI h ad cI cJ cZ H.size ((F_m_findRules ((F_m_joinAll (sU (sU (x) 6 ((-9 : Int))) 7 ((F_m_wordsTo (sU (x) 6 ((-9 : Int))) (m0)).1)) (m0)).2)).2)  P4.1) (cwV 0 hts gX12_see_X12_plant rfl rfl rfl (by decide +kernel) ⟨Nat.le_of_ble_eq_true rfl, Nat.le_of_ble_eq_true rfl⟩) ⟨fun a U g mk q => by obtain ⟨q0, q1, qP, qK, qD⟩ := q; exact ⟨q0, q1, qP, va_K.moved (u := U) (U := U.calling g mk a) (Vm.Alike.refl U.vm) qK, qD⟩, va_recv hK hP (ci := 12) (q0 := 0) rfl rfl, fun U hU hW => ⟨rfl, by rw [hU], by rw [hU]; exact hP, va_K.moved hW.alike hK, hD.weaken (fun _ _ _ _ => trivial)⟩⟩ rfl rfl hl.1 rfl (lv_room (Nat.le_of_ble_eq_true rfl)) dX12_see_57 ⟨Nat.le_of_ble_eq_true rfl, Nat.le_of_ble_eq_true rfl⟩) hS (fun q _ h => hFc q h) hFc (fun u9 t H1 locs ht hvm hw hB hz1 hk1 hS => ?_)
          obtain ⟨hP1, hK1, hD1⟩ := hB
          rw [ht] at hP1
          rw [hw] at hP1 hD1
          have hD2 := hD1.weaken (B := A) (fun _ q _ h => hFc q.1 h)
          have hP := hP1
          have hD := hD2
          generalize H1 = H at hP hS ⊢
          refine lv_aload_n hx hb dX12_see_60 rfl (lv_at hl 0 rfl) ?_
          refine lv_iload_n hx hb dX12_see_61 rfl (lv_at hl 1 rfl) ?_
          refine va_put (D := (dC, dI)) (ci := 12) (v := .int (iI (m0))) (ty := .int) (C := RX12) (T := TX12) (N := 34) hx hb hts hin tyX12 tyX12_ok nmX12 hown hK hP hD hS 0 rfl rfl 6 (by decide) (hts (.fieldLink RX12 26 "LikeWordsModel" "seen" "I") (by decide +kernel)) (fun _ h9 => h9) rfl (by decide +kernel) rfl rfl (Nat.le_of_ble_eq_true rfl) dX12_see_62 (fun H locs hP hD hS => ?_)
          rw [mW_s6] at hP hD
          refine lv_aload_n hx hb dX12_see_65 rfl (lv_at hl 0 rfl) ?_
          refine lv_aload_n hx hb dX12_see_66 rfl (lv_at hl 0 rfl) ?_
          have hFc : ∀ q, va_A (mW h ad cI cJ cZ (sU ((F_m_plant ((F_m_findRules ((F_m_joinAll (sU (sU (x) 6 ((-9 : Int))) 7 ((F_m_wordsTo (sU (x) 6 ((-9 : Int))) (m0)).1)) (m0)).2)).2)).2) 6 (m0))) H.size q → A q := fun q hq => Or.elim hq (fun ⟨k, e, hk⟩ => hD.2 k (q, e) hk) (fun hk => hA q (Nat.le_trans hS.1 hk))
          refine va_calli (va_runV (As := []) (rest := [.ref (h)]) ⟨hx, hb, hml, hown, hts⟩ (c_m_closes l dC dI h ad cI cJ cZ H.size (sU ((F_m_plant ((F_m_findRules ((F_m_joinAll (sU (sU (x) 6 ((-9 : Int))) 7 ((F_m_wordsTo (sU (x) 6 ((-9 : Int))) (m0)).1)) (m0)).2)).2)).2) 6 (m0))  Q6.1 Q6.2.1 Q6.2.2.1) (cwV 0 hts gX12_see_X12_closes rfl rfl rfl (by decide +kernel) ⟨Nat.le_of_ble_eq_true rfl, Nat.le_of_ble_eq_true rfl⟩) ⟨fun a U g mk q => by obtain ⟨q0, q1, qP, qK, qD⟩ := q; exact ⟨q0, q1, qP, va_K.moved (u := U) (U := U.calling g mk a) (Vm.Alike.refl U.vm) qK, qD⟩, va_recv hK hP (ci := 12) (q0 := 0) rfl rfl, fun U hU hW => ⟨rfl, by rw [hU], by rw [hU]; exact hP, va_K.moved hW.alike hK, hD.weaken (fun _ _ _ _ => trivial)⟩⟩ rfl rfl hl.1 rfl (lv_room (Nat.le_of_ble_eq_true rfl)) dX12_see_67 ⟨Nat.le_of_ble_eq_true rfl, Nat.le_of_ble_eq_true rfl⟩) hS (fun q _ h => hFc q h) hFc (fun r9 u9 t H1 locs ht hvm hw hB hz1 hk1 hS => ?_)
          obtain ⟨hP1, hK1, hD1⟩ := hB
          rw [ht] at hP1
          obtain ⟨hw1, hw2⟩ := hw
          rw [hw2] at hP1 hD1
          rw [hw1]
          have hD2 := hD1.weaken (B := A) (fun _ q _ h => hFc q.1 h)
          have hP := hP1
          have hD := hD2
          generalize H1 = H at hP hS ⊢
          refine va_put (D := (dC, dI)) (ci := 12) (v := .int (iI ((F_m_closes (sU ((F_m_plant ((F_m_findRules ((F_m_joinAll (sU (sU (x) 6 ((-9 : Int))) 7 ((F_m_wordsTo (sU (x) 6 ((-9 : Int))) (m0)).1)) (m0)).2)).2)).2) 6 (m0))).1))) (ty := .boolean) (C := RX12) (T := TX12) (N := 34) hx hb hts hin tyX12 tyX12_ok nmX12 hown hK hP hD hS 0 rfl rfl 27 (by decide) (hts (.fieldLink RX12 215 "LikeWordsModel" "isClosed" "Z") (by decide +kernel)) (fun _ h9 => h9) rfl (by decide +kernel) (F_z _ k01) (kfit _ k01) (Nat.le_of_ble_eq_true rfl) dX12_see_70 (fun H locs hP hD hS => ?_)
          rw [mW_s27] at hP hD
          refine lv_aload_n hx hb dX12_see_73 rfl (lv_at hl 0 rfl) ?_
          refine va_get (D := (dC, dI)) (ci := 12) (v := .int (iI ((F_m_closes (sU ((F_m_plant ((F_m_findRules ((F_m_joinAll (sU (sU (x) 6 ((-9 : Int))) 7 ((F_m_wordsTo (sU (x) 6 ((-9 : Int))) (m0)).1)) (m0)).2)).2)).2) 6 (m0))).1))) (C := RX12) (T := TX12) (N := 34) hx hb hts hin hown hK hP 0 rfl rfl 27 (by decide) (hts (.fieldLink RX12 215 "LikeWordsModel" "isClosed" "Z") (by decide +kernel)) (fun _ h9 => h9) rfl dX12_see_74 ?_
          refine wi_if_eq (tgt := 84) hx hb (kR01 k01) dX12_see_77 (by decide) (fun c_77 => ?_) (fun c_77 => ?_)
          · skip
            rw [if_pos c_77] at hres
            refine lv_aload_n hx hb dX12_see_84 rfl (lv_at hl 0 rfl) ?_
            refine va_get (D := (dC, dI)) (ci := 12) (v := .int (iI (((F_m_closes (sU ((F_m_plant ((F_m_findRules ((F_m_joinAll (sU (sU (x) 6 ((-9 : Int))) 7 ((F_m_wordsTo (sU (x) 6 ((-9 : Int))) (m0)).1)) (m0)).2)).2)).2) 6 (m0))).2).1 12))) (C := RX12) (T := TX12) (N := 34) hx hb hts hin hown hK hP 0 rfl rfl 12 (by decide) (hts (.fieldLink RX12 139 "LikeWordsModel" "rules" "I") (by decide +kernel)) (fun _ h9 => h9) rfl dX12_see_85 ?_
            exact W.iret (v := iI (((F_m_closes (sU ((F_m_plant ((F_m_findRules ((F_m_joinAll (sU (sU (x) 6 ((-9 : Int))) 7 ((F_m_wordsTo (sU (x) 6 ((-9 : Int))) (m0)).1)) (m0)).2)).2)).2) 6 (m0))).2).1 12)) hx hb hr (fun t ht hW => ⟨⟨iI (((F_m_closes (sU ((F_m_plant ((F_m_findRules ((F_m_joinAll (sU (sU (x) 6 ((-9 : Int))) 7 ((F_m_wordsTo (sU (x) 6 ((-9 : Int))) (m0)).1)) (m0)).2)).2)).2) 6 (m0))).2).1 12), sU ((F_m_closes (sU ((F_m_plant ((F_m_findRules ((F_m_joinAll (sU (sU (x) 6 ((-9 : Int))) 7 ((F_m_wordsTo (sU (x) 6 ((-9 : Int))) (m0)).1)) (m0)).2)).2)).2) 6 (m0))).2) 27 ((F_m_closes (sU ((F_m_plant ((F_m_findRules ((F_m_joinAll (sU (sU (x) 6 ((-9 : Int))) 7 ((F_m_wordsTo (sU (x) 6 ((-9 : Int))) (m0)).1)) (m0)).2)).2)).2) 6 (m0))).1), rfl, ⟨(by have h9 := congrArg (fun z : Int × MS => iI z.1) hres; exact h9), (by have h9 := congrArg (fun z : Int × MS => z.2) hres; exact h9)⟩, by rw [ht]; exact hP, va_K.moved hW.alike hK, hD⟩, hS.F ht⟩) hS.2.2 dX12_see_88
          · skip
            rw [if_neg c_77] at hres
            refine lv_aload_n hx hb dX12_see_80 rfl (lv_at hl 0 rfl) ?_
            have hFc : ∀ q, va_A (mW h ad cI cJ cZ (sU ((F_m_closes (sU ((F_m_plant ((F_m_findRules ((F_m_joinAll (sU (sU (x) 6 ((-9 : Int))) 7 ((F_m_wordsTo (sU (x) 6 ((-9 : Int))) (m0)).1)) (m0)).2)).2)).2) 6 (m0))).2) 27 ((F_m_closes (sU ((F_m_plant ((F_m_findRules ((F_m_joinAll (sU (sU (x) 6 ((-9 : Int))) 7 ((F_m_wordsTo (sU (x) 6 ((-9 : Int))) (m0)).1)) (m0)).2)).2)).2) 6 (m0))).1))) H.size q → A q := fun q hq => Or.elim hq (fun ⟨k, e, hk⟩ => hD.2 k (q, e) hk) (fun hk => hA q (Nat.le_trans hS.1 hk))
            refine va_callv (va_runV (As := []) (rest := []) ⟨hx, hb, hml, hown, hts⟩ (c_m_countAll l dC dI h ad cI cJ cZ H.size (sU ((F_m_closes (sU ((F_m_plant ((F_m_findRules ((F_m_joinAll (sU (sU (x) 6 ((-9 : Int))) 7 ((F_m_wordsTo (sU (x) 6 ((-9 : Int))) (m0)).1)) (m0)).2)).2)).2) 6 (m0))).2) 27 ((F_m_closes (sU ((F_m_plant ((F_m_findRules ((F_m_joinAll (sU (sU (x) 6 ((-9 : Int))) 7 ((F_m_wordsTo (sU (x) 6 ((-9 : Int))) (m0)).1)) (m0)).2)).2)).2) 6 (m0))).1))  (se_1k hH m1 m2 h9 c_50 c_77).1) (cwV 0 hts gX12_see_X12_countAll rfl rfl rfl (by decide +kernel) ⟨Nat.le_of_ble_eq_true rfl, Nat.le_of_ble_eq_true rfl⟩) ⟨fun a U g mk q => by obtain ⟨q0, q1, qP, qK, qD⟩ := q; exact ⟨q0, q1, qP, va_K.moved (u := U) (U := U.calling g mk a) (Vm.Alike.refl U.vm) qK, qD⟩, va_recv hK hP (ci := 12) (q0 := 0) rfl rfl, fun U hU hW => ⟨rfl, by rw [hU], by rw [hU]; exact hP, va_K.moved hW.alike hK, hD.weaken (fun _ _ _ _ => trivial)⟩⟩ rfl rfl hl.1 rfl (lv_room (Nat.le_of_ble_eq_true rfl)) dX12_see_81 ⟨Nat.le_of_ble_eq_true rfl, Nat.le_of_ble_eq_true rfl⟩) hS (fun q _ h => hFc q h) hFc (fun u9 t H1 locs ht hvm hw hB hz1 hk1 hS => ?_)
            obtain ⟨hP1, hK1, hD1⟩ := hB
            rw [ht] at hP1
            rw [hw] at hP1 hD1
            have hD2 := hD1.weaken (B := A) (fun _ q _ h => hFc q.1 h)
            have hP := hP1
            have hD := hD2
            generalize H1 = H at hP hS ⊢
            refine lv_aload_n hx hb dX12_see_84 rfl (lv_at hl 0 rfl) ?_
            refine va_get (D := (dC, dI)) (ci := 12) (v := .int (iI (((F_m_countAll (sU ((F_m_closes (sU ((F_m_plant ((F_m_findRules ((F_m_joinAll (sU (sU (x) 6 ((-9 : Int))) 7 ((F_m_wordsTo (sU (x) 6 ((-9 : Int))) (m0)).1)) (m0)).2)).2)).2) 6 (m0))).2) 27 ((F_m_closes (sU ((F_m_plant ((F_m_findRules ((F_m_joinAll (sU (sU (x) 6 ((-9 : Int))) 7 ((F_m_wordsTo (sU (x) 6 ((-9 : Int))) (m0)).1)) (m0)).2)).2)).2) 6 (m0))).1))).2).1 12))) (C := RX12) (T := TX12) (N := 34) hx hb hts hin hown hK hP 0 rfl rfl 12 (by decide) (hts (.fieldLink RX12 139 "LikeWordsModel" "rules" "I") (by decide +kernel)) (fun _ h9 => h9) rfl dX12_see_85 ?_
            exact W.iret (v := iI (((F_m_countAll (sU ((F_m_closes (sU ((F_m_plant ((F_m_findRules ((F_m_joinAll (sU (sU (x) 6 ((-9 : Int))) 7 ((F_m_wordsTo (sU (x) 6 ((-9 : Int))) (m0)).1)) (m0)).2)).2)).2) 6 (m0))).2) 27 ((F_m_closes (sU ((F_m_plant ((F_m_findRules ((F_m_joinAll (sU (sU (x) 6 ((-9 : Int))) 7 ((F_m_wordsTo (sU (x) 6 ((-9 : Int))) (m0)).1)) (m0)).2)).2)).2) 6 (m0))).1))).2).1 12)) hx hb hr (fun t ht hW => ⟨⟨iI (((F_m_countAll (sU ((F_m_closes (sU ((F_m_plant ((F_m_findRules ((F_m_joinAll (sU (sU (x) 6 ((-9 : Int))) 7 ((F_m_wordsTo (sU (x) 6 ((-9 : Int))) (m0)).1)) (m0)).2)).2)).2) 6 (m0))).2) 27 ((F_m_closes (sU ((F_m_plant ((F_m_findRules ((F_m_joinAll (sU (sU (x) 6 ((-9 : Int))) 7 ((F_m_wordsTo (sU (x) 6 ((-9 : Int))) (m0)).1)) (m0)).2)).2)).2) 6 (m0))).1))).2).1 12), (F_m_countAll (sU ((F_m_closes (sU ((F_m_plant ((F_m_findRules ((F_m_joinAll (sU (sU (x) 6 ((-9 : Int))) 7 ((F_m_wordsTo (sU (x) 6 ((-9 : Int))) (m0)).1)) (m0)).2)).2)).2) 6 (m0))).2) 27 ((F_m_closes (sU ((F_m_plant ((F_m_findRules ((F_m_joinAll (sU (sU (x) 6 ((-9 : Int))) 7 ((F_m_wordsTo (sU (x) 6 ((-9 : Int))) (m0)).1)) (m0)).2)).2)).2) 6 (m0))).1))).2, rfl, ⟨(by have h9 := congrArg (fun z : Int × MS => iI z.1) hres; exact h9), (by have h9 := congrArg (fun z : Int × MS => z.2) hres; exact h9)⟩, by rw [ht]; exact hP, va_K.moved hW.alike hK, hD⟩, hS.F ht⟩) hS.2.2 dX12_see_88
        · skip
          rw [if_pos c_50] at hres
          refine lv_bipush (v := iI (-4 : Int)) hx hb dX12_see_53 (by decide) ?_
          exact W.iret (v := iI ((-4 : Int))) hx hb hr (fun t ht hW => ⟨⟨iI ((-4 : Int)), (F_m_findRules ((F_m_joinAll (sU (sU (x) 6 ((-9 : Int))) 7 ((F_m_wordsTo (sU (x) 6 ((-9 : Int))) (m0)).1)) (m0)).2)).2, rfl, ⟨(by have h9 := congrArg (fun z : Int × MS => iI z.1) hres; exact h9), (by have h9 := congrArg (fun z : Int × MS => z.2) hres; exact h9)⟩, by rw [ht]; exact hP, va_K.moved hW.alike hK, hD⟩, hS.F ht⟩) hS.2.2 dX12_see_55
      · skip
        rw [if_neg c_20] at hres
        refine lv_bipush (v := iI (-2 : Int)) hx hb dX12_see_23 (by decide) ?_
        exact W.iret (v := iI ((-2 : Int))) hx hb hr (fun t ht hW => ⟨⟨iI ((-2 : Int)), x, rfl, ⟨(by have h9 := congrArg (fun z : Int × MS => iI z.1) hres; exact h9), (by have h9 := congrArg (fun z : Int × MS => z.2) hres; exact h9)⟩, by rw [ht]; exact hP, va_K.moved hW.alike hK, hD⟩, hS.F ht⟩) hS.2.2 dX12_see_25
  exact key _ _ hP hS
theorem F_m_see_fr (x : MS) (m0 : Int) : same [6, 7, 10, 12, 17, 24, 27] [1, 2, 8, 9, 11, 13, 14, 15, 16, 18, 19, 20, 21, 22, 23, 25, 26, 28] x (F_m_see (x) (m0)).2 := by
  unfold F_m_see
  by_cases hc : ((F_m_in (x) (m0) ((1 : Int)) ((20 : Int))).1) = (0)
  · rw [if_pos hc]
    exact (sm_rf _ _ _)
  · rw [if_neg hc]
    by_cases hc : ((F_m_wordsTo (x) (m0)).1) ≤ ((10000 : Int))
    · rw [if_pos hc]
      by_cases hc : ((F_m_findRules ((F_m_joinAll (sU (sU (x) 6 ((-9 : Int))) 7 ((F_m_wordsTo (sU (x) 6 ((-9 : Int))) (m0)).1)) (m0)).2)).1) = (0)
      · rw [if_pos hc]
        exact (sm_tr (sm_tr (sm_s (by decide) (sm_s (by decide) (sm_rf _ _ _))) (sm_mono (by decide) (by decide) (F_m_joinAll_fr (sU (sU (x) 6 ((-9 : Int))) 7 ((F_m_wordsTo (sU (x) 6 ((-9 : Int))) (m0)).1)) (m0)))) (sm_mono (by decide) (by decide) (F_m_findRules_fr ((F_m_joinAll (sU (sU (x) 6 ((-9 : Int))) 7 ((F_m_wordsTo (sU (x) 6 ((-9 : Int))) (m0)).1)) (m0)).2))))
      · rw [if_neg hc]
        by_cases hc : ((F_m_closes (sU ((F_m_plant ((F_m_findRules ((F_m_joinAll (sU (sU (x) 6 ((-9 : Int))) 7 ((F_m_wordsTo (sU (x) 6 ((-9 : Int))) (m0)).1)) (m0)).2)).2)).2) 6 (m0))).1) = (0)
        · rw [if_pos hc]
          exact (sm_s (by decide) (sm_tr (sm_s (by decide) (sm_tr (sm_tr (sm_tr (sm_s (by decide) (sm_s (by decide) (sm_rf _ _ _))) (sm_mono (by decide) (by decide) (F_m_joinAll_fr (sU (sU (x) 6 ((-9 : Int))) 7 ((F_m_wordsTo (sU (x) 6 ((-9 : Int))) (m0)).1)) (m0)))) (sm_mono (by decide) (by decide) (F_m_findRules_fr ((F_m_joinAll (sU (sU (x) 6 ((-9 : Int))) 7 ((F_m_wordsTo (sU (x) 6 ((-9 : Int))) (m0)).1)) (m0)).2)))) (sm_mono (by decide) (by decide) (F_m_plant_fr ((F_m_findRules ((F_m_joinAll (sU (sU (x) 6 ((-9 : Int))) 7 ((F_m_wordsTo (sU (x) 6 ((-9 : Int))) (m0)).1)) (m0)).2)).2))))) (sm_mono (by decide) (by decide) (F_m_closes_fr (sU ((F_m_plant ((F_m_findRules ((F_m_joinAll (sU (sU (x) 6 ((-9 : Int))) 7 ((F_m_wordsTo (sU (x) 6 ((-9 : Int))) (m0)).1)) (m0)).2)).2)).2) 6 (m0))))))
        · rw [if_neg hc]
          exact (sm_tr (sm_s (by decide) (sm_tr (sm_s (by decide) (sm_tr (sm_tr (sm_tr (sm_s (by decide) (sm_s (by decide) (sm_rf _ _ _))) (sm_mono (by decide) (by decide) (F_m_joinAll_fr (sU (sU (x) 6 ((-9 : Int))) 7 ((F_m_wordsTo (sU (x) 6 ((-9 : Int))) (m0)).1)) (m0)))) (sm_mono (by decide) (by decide) (F_m_findRules_fr ((F_m_joinAll (sU (sU (x) 6 ((-9 : Int))) 7 ((F_m_wordsTo (sU (x) 6 ((-9 : Int))) (m0)).1)) (m0)).2)))) (sm_mono (by decide) (by decide) (F_m_plant_fr ((F_m_findRules ((F_m_joinAll (sU (sU (x) 6 ((-9 : Int))) 7 ((F_m_wordsTo (sU (x) 6 ((-9 : Int))) (m0)).1)) (m0)).2)).2))))) (sm_mono (by decide) (by decide) (F_m_closes_fr (sU ((F_m_plant ((F_m_findRules ((F_m_joinAll (sU (sU (x) 6 ((-9 : Int))) 7 ((F_m_wordsTo (sU (x) 6 ((-9 : Int))) (m0)).1)) (m0)).2)).2)).2) 6 (m0)))))) (sm_mono (by decide) (by decide) (F_m_countAll_fr (sU ((F_m_closes (sU ((F_m_plant ((F_m_findRules ((F_m_joinAll (sU (sU (x) 6 ((-9 : Int))) 7 ((F_m_wordsTo (sU (x) 6 ((-9 : Int))) (m0)).1)) (m0)).2)).2)).2) 6 (m0))).2) 27 ((F_m_closes (sU ((F_m_plant ((F_m_findRules ((F_m_joinAll (sU (sU (x) 6 ((-9 : Int))) 7 ((F_m_wordsTo (sU (x) 6 ((-9 : Int))) (m0)).1)) (m0)).2)).2)).2) 6 (m0))).1)))))
    · rw [if_neg hc]
      exact (sm_rf _ _ _)
set_option maxHeartbeats 4000000 in
theorem F_m_see_p (x : MS) (m0 : Int) (rm : iR m0) (hH : seH x) : seQ x m0 (F_m_see (x) (m0)) := by
  have lt9 := hH.1
  unfold F_m_see
  by_cases c_9 : ((F_m_in (x) (m0) ((1 : Int)) ((20 : Int))).1) = (0)
  · rw [if_pos c_9]
    exact se_2 lt9.1 (by first | (rw [F_m_in_1] at c_9; exact Or.inl (F_in_00 c_9)) | exact Or.inr ⟨by omega, by omega, by omega⟩)
  · rw [if_neg c_9]
    rw [F_m_in_1] at c_9
    obtain ⟨m1, m2⟩ := F_in_1 c_9
    by_cases c_20 : ((F_m_wordsTo (x) (m0)).1) ≤ ((10000 : Int))
    · rw [if_pos c_20]
      have h9 : (F_m_wordsTo x m0).1 ≤ 10000 := by omega
      have J := see_J hH m1 m2 h9
      have K := see_2 hH m1 m2 h9
      have K1 : 1 ≤ (sY1 x m0).1 7 := by
        have h8 := K.2.1
        have h7 := gS_mono lt9.1 (show 1 ≤ m0.toNat + 1 by omega)
        have h6 : gS (x.1 0) 1 = 1 := rfl
        omega
      have K2 : (sY1 x m0).1 7 ≤ 10001 := by have h8 := K.2.2.1; omega
      have K0 : 1 ≤ (sY1 x m0).1 0 ∧ (sY1 x m0).1 0 ≤ 4 := by rw [K.1.1 0 (by decide)]; exact lt9
      have f01 : iR (F_m_findRules (sY1 x m0)).1 := by
        obtain ⟨_, _, _, _, _, _, ⟨e, _⟩ | ⟨e, _⟩⟩ := see_3 hH m1 m2 h9
        · rw [e]; exact ⟨by decide, by decide⟩
        · rw [e]; exact ⟨by decide, by decide⟩
      by_cases c_50 : ((F_m_findRules ((F_m_joinAll (sU (sU (x) 6 ((-9 : Int))) 7 ((F_m_wordsTo (sU (x) 6 ((-9 : Int))) (m0)).1)) (m0)).2)).1) = (0)
      · rw [if_pos c_50]
        exact se_4 hH m1 m2 h9 c_50
      · rw [if_neg c_50]
        have P4 := see_4 hH m1 m2 h9 c_50
        have Q6 := see_6 hH m1 m2 h9 c_50
        have S7 := see_7 hH m1 m2 h9 c_50
        have k01 := S7.2.2.2.2.2.2.2
        have c_50 : ¬ (F_m_findRules (sY1 x m0)).1 = 0 := c_50
        by_cases c_77 : ((F_m_closes (sU ((F_m_plant ((F_m_findRules ((F_m_joinAll (sU (sU (x) 6 ((-9 : Int))) 7 ((F_m_wordsTo (sU (x) 6 ((-9 : Int))) (m0)).1)) (m0)).2)).2)).2) 6 (m0))).1) = (0)
        · rw [if_pos c_77]
          exact se_0k hH m1 m2 h9 c_50 c_77
        · rw [if_neg c_77]
          exact (se_1k hH m1 m2 h9 c_50 c_77).2
    · rw [if_neg c_20]
      exact se_2 lt9.1 (by first | (rw [F_m_in_1] at c_9; exact Or.inl (F_in_00 c_9)) | exact Or.inr ⟨by omega, by omega, by omega⟩)
