def F_m_leads (x : MS) (g : Int) (c0 : Int) : Int × MS := (if ((F_m_isMachine (x)).1) = (0) then ((-3 : Int), x) else (if ((F_m_in (x) (g) ((0 : Int)) (((x).1 24) - ((1 : Int)))).1) = (0) then ((-1 : Int), x) else (if ((F_m_in (x) (c0) ((0 : Int)) (((x).1 0) - ((1 : Int)))).1) = (0) then ((-1 : Int), x) else ((F_m_next (x) (g) (c0)).1, x))))
set_option maxHeartbeats 4000000 in
set_option maxRecDepth 100000 in
/-- leads -/
theorem c_m_leads (l : Launch) (dC : Nat → ClassId) (dI : Nat → Nat → Nat) (h : Nat) (ad : Nat → Nat) (cI cJ cZ : ClassId) (sz : Nat) (x : MS) (g : Int) (c0 : Int) (sn : iR (x.1 6)) (ic : x.1 27 = 0 ∨ x.1 27 = 1) (rg : iR g) (rc : iR c0) (n0 : 0 ≤ x.1 24) (n1 : x.1 24 ≤ 850) (lt : 1 ≤ x.1 0 ∧ x.1 0 ≤ 4) (hn : 0 ≤ g → g < x.1 24 → 0 ≤ c0 → c0 < x.1 0 → 0 ≤ x.2 25 g.toNat ∧ x.2 25 g.toNat < 850 ∧ 0 ≤ (x.2 19) ((4 * (x.2 25 g.toNat)) + c0).toNat ∧ (x.2 19) ((4 * (x.2 25 g.toNat)) + c0).toNat < 850 ∧ iR ((x.2 21) ((x.2 19) ((4 * (x.2 25 g.toNat)) + c0).toNat).toNat)) : Met l yX12_leads wsX12_leads ({ frames := 1, cells := 0, slots := 0, locals := 25 }) (mPc dC dI h ad cI cJ cZ sz x [.ref h, .int (iI g), .int (iI c0)]) (va_Qi (fun (r : Int32) (u : MS) => r = iI (F_m_leads (x) (g) (c0)).1 ∧ u = (F_m_leads (x) (g) (c0)).2) (mAt dC dI h ad cI cJ cZ (va_A (mW h ad cI cJ cZ (x)) sz)) (va_A (mW h ad cI cJ cZ (x)) sz)) 0 0 (va_A (mW h ad cI cJ cZ (x)) sz) := by
  refine Met.ofW (cc := cX12_leads) (maxL := 3) (ret := (some .int)) (by decide) rfl ?_
  intro p e s m args below meth c s₁ B hml hv
  obtain ⟨rfl, hsz, hP, hK, hD0⟩ := hv
  have hx := B.exec
  have hb := B.bytes
  have hr := B.returns
  have hts := atoms_spec (ws := wsX12_leads) B.pre
  have hown : s.vm.findClass RX12 = some m.cls := findClass_of_methodNamed B.named
  have hlocks := B.notSynchronized
  have hin : ∀ w ∈ u_ws RX12 TX12 34, w ∈ wsX12_leads := by decide +kernel
  subst hsz
  have hD := hD0.self (sz := s.heap.size)
  generalize hAe : va_A (mW h ad cI cJ cZ (x)) s.heap.size = A at hD ⊢
  have hA : ∀ q : Nat, s.heap.size ≤ q → A q := fun q h => by rw [← hAe]; exact Or.inr h
  have hS : va_S A s.heap s.heap [] := va_S.rf
  have hl := lv_entry ([.ref h, .int (iI g), .int (iI c0)]) (n := 3) (Nat.le_of_ble_eq_true rfl)
  rw [lg_entry_eq]
  generalize (lg_sl ([.ref h, .int (iI g), .int (iI c0)]) ++ List.replicate (3 - (lg_sl ([.ref h, .int (iI g), .int (iI c0)])).length) Slot.unset).toArray = ls at hl ⊢
  have hl : lv_has ls 3 [(0, .ref (h)), (1, .int (iI (g))), (2, .int (iI (c0)))] := hl
  have l0 := lt.1
  have l1 := lt.2
  have key : ∀ (H : Heap) (locs : List Loc), va_P (dC, dI) vwCl (mW h ad cI cJ cZ (x)) H → va_S A s.heap H locs → W p l e (headSpec wsX12_leads ({ frames := 1, cells := 0, slots := 0, locals := 25 })).room s m ([.ref h, .int (iI g), .int (iI c0)] : List Value).toArray below meth c H locs 0 0 (MQ below (va_Qi (fun (r : Int32) (u : MS) => r = iI (F_m_leads (x) (g) (c0)).1 ∧ u = (F_m_leads (x) (g) (c0)).2) (mAt dC dI h ad cI cJ cZ A) A) ([.ref h, .int (iI g), .int (iI c0)] : List Value).toArray s 0 0 A) (F0 m 0 ls []) := by
    intro H locs hP hS
    have hres : (if ((F_m_isMachine (x)).1) = (0) then ((-3 : Int), x) else (if ((F_m_in (x) (g) ((0 : Int)) (((x).1 24) - ((1 : Int)))).1) = (0) then ((-1 : Int), x) else (if ((F_m_in (x) (c0) ((0 : Int)) (((x).1 0) - ((1 : Int)))).1) = (0) then ((-1 : Int), x) else ((F_m_next (x) (g) (c0)).1, x)))) = F_m_leads (x) (g) (c0) := rfl
    refine lv_aload_n hx hb dX12_leads_0 rfl (lv_at hl 0 rfl) ?_
    have hFc : ∀ q, va_A (mW h ad cI cJ cZ (x)) H.size q → A q := fun q hq => Or.elim hq (fun ⟨k, e, hk⟩ => hD.2 k (q, e) hk) (fun hk => hA q (Nat.le_trans hS.1 hk))
    refine va_calli (va_runV (As := []) (rest := []) ⟨hx, hb, hml, hown, hts⟩ (c_m_isMachine l dC dI h ad cI cJ cZ H.size (x)  sn ic) (cwV 0 hts gX12_leads_X12_isMachine rfl rfl rfl (by decide +kernel) ⟨Nat.le_of_ble_eq_true rfl, Nat.le_of_ble_eq_true rfl⟩) ⟨fun a U g mk q => by obtain ⟨q0, q1, qP, qK, qD⟩ := q; exact ⟨q0, q1, qP, va_K.moved (u := U) (U := U.calling g mk a) (Vm.Alike.refl U.vm) qK, qD⟩, va_recv hK hP (ci := 12) (q0 := 0) rfl rfl, fun U hU hW => ⟨rfl, by rw [hU], by rw [hU]; exact hP, va_K.moved hW.alike hK, hD.weaken (fun _ _ _ _ => trivial)⟩⟩ rfl rfl hl.1 rfl (lv_room (Nat.le_of_ble_eq_true rfl)) dX12_leads_1 ⟨Nat.le_of_ble_eq_true rfl, Nat.le_of_ble_eq_true rfl⟩) hS (fun q _ h => hFc q h) hFc (fun r9 u9 t H1 locs ht hvm hw hB hz1 hk1 hS => ?_)
    obtain ⟨hP1, hK1, hD1⟩ := hB
    rw [ht] at hP1
    obtain ⟨hw1, hw2⟩ := hw
    rw [hw2] at hP1 hD1
    rw [hw1]
    rw [F_m_isMachine_2] at hP1 hD1
    have hD2 := hD1.weaken (B := A) (fun _ q _ h => hFc q.1 h)
    have hP := hP1
    have hD := hD2
    generalize H1 = H at hP hS ⊢
    refine wi_if_ne (tgt := 10) hx hb (F_R01 (F_m_isMachine_01 x)) dX12_leads_4 (by decide) (fun c_4 => ?_) (fun c_4 => ?_)
    · skip
      rw [if_neg c_4] at hres
      refine lv_iload_n hx hb dX12_leads_10 rfl (lv_at hl 1 rfl) ?_
      refine wi_i2l hx hb rg dX12_leads_11 ?_
      refine lv_lconst (v := iL 0) hx hb dX12_leads_12 (by decide) ?_
      refine lv_aload_n hx hb dX12_leads_13 rfl (lv_at hl 0 rfl) ?_
      refine va_get (D := (dC, dI)) (ci := 12) (v := .int (iI ((x).1 24))) (C := RX12) (T := TX12) (N := 34) hx hb hts hin hown hK hP 0 rfl rfl 24 (by decide) (hts (.fieldLink RX12 164 "LikeWordsModel" "states" "I") (by decide +kernel)) (fun _ h9 => h9) rfl dX12_leads_14 ?_
      refine lv_iconst (v := iI (1 : Int)) hx hb dX12_leads_17 (by decide) ?_
      refine wi_isub hx hb dX12_leads_18 ?_
      refine wi_i2l hx hb (by unfold iR; omega) dX12_leads_19 ?_
      have hFc : ∀ q, va_A (mW h ad cI cJ cZ (x)) H.size q → A q := fun q hq => Or.elim hq (fun ⟨k, e, hk⟩ => hD.2 k (q, e) hk) (fun hk => hA q (Nat.le_trans hS.1 hk))
      refine va_calli (va_runS (As := [.long (iL (g)), .long (iL ((0 : Int))), .long (iL (((x).1 24) - ((1 : Int))))]) (rest := []) ⟨hx, hb, hml, hown, hts⟩ (c_m_in l dC dI h ad cI cJ cZ H.size (x) (g) ((0 : Int)) (((x).1 24) - ((1 : Int))) (iR_L rg) ⟨by decide, by decide⟩ (by unfold iRL; omega)) (va_cwS 3 hts gX12_leads_X12_in rfl rfl rfl (by decide +kernel) ⟨Nat.le_of_ble_eq_true rfl, Nat.le_of_ble_eq_true rfl⟩) ⟨fun a U g mk q => by obtain ⟨q0, q1, qP, qK, qD⟩ := q; exact ⟨q0, q1, qP, va_K.moved (u := U) (U := U.calling g mk a) (Vm.Alike.refl U.vm) qK, qD⟩, fun U hU hW => ⟨rfl, by rw [hU], by rw [hU]; exact hP, va_K.moved hW.alike hK, hD.weaken (fun _ _ _ _ => trivial)⟩⟩ rfl rfl hl.1 rfl (lv_room (Nat.le_of_ble_eq_true rfl)) dX12_leads_20 ⟨Nat.le_of_ble_eq_true rfl, Nat.le_of_ble_eq_true rfl⟩) hS (fun q _ h => hFc q h) hFc (fun r9 u9 t H1 locs ht hvm hw hB hz1 hk1 hS => ?_)
      obtain ⟨hP1, hK1, hD1⟩ := hB
      rw [ht] at hP1
      obtain ⟨hw1, hw2⟩ := hw
      rw [hw2] at hP1 hD1
      rw [hw1]
      rw [F_m_in_2] at hP1 hD1
      have hD2 := hD1.weaken (B := A) (fun _ q _ h => hFc q.1 h)
      have hP := hP1
      have hD := hD2
      generalize H1 = H at hP hS ⊢
      refine wi_if_eq (tgt := 51) hx hb (by rw [F_m_in_1]; exact F_R01 (F_in_01 _ _ _)) dX12_leads_23 (by decide) (fun c_23 => ?_) (fun c_23 => ?_)
      · skip
        rw [if_pos c_23] at hres
        refine lv_iconst (v := iI (-1 : Int)) hx hb dX12_leads_51 (by decide) ?_
        exact W.iret (v := iI ((-1 : Int))) hx hb hr (fun t ht hW => ⟨⟨iI ((-1 : Int)), x, rfl, ⟨(by have h9 := congrArg (fun z : Int × MS => iI z.1) hres; exact h9), (by have h9 := congrArg (fun z : Int × MS => z.2) hres; exact h9)⟩, by rw [ht]; exact hP, va_K.moved hW.alike hK, hD⟩, hS.F ht⟩) hS.2.2 dX12_leads_52
      · skip
        rw [if_neg c_23] at hres
        rw [F_m_in_1] at c_23
        obtain ⟨g0, g1⟩ := F_in_1 c_23
        refine lv_iload_n hx hb dX12_leads_26 rfl (lv_at hl 2 rfl) ?_
        refine wi_i2l hx hb rc dX12_leads_27 ?_
        refine lv_lconst (v := iL 0) hx hb dX12_leads_28 (by decide) ?_
        refine lv_aload_n hx hb dX12_leads_29 rfl (lv_at hl 0 rfl) ?_
        refine va_get (D := (dC, dI)) (ci := 12) (v := .int (iI ((x).1 0))) (C := RX12) (T := TX12) (N := 34) hx hb hts hin hown hK hP 0 rfl rfl 0 (by decide) (hts (.fieldLink RX12 7 "LikeWordsModel" "letters" "I") (by decide +kernel)) (fun _ h9 => h9) rfl dX12_leads_30 ?_
        refine lv_iconst (v := iI (1 : Int)) hx hb dX12_leads_33 (by decide) ?_
        refine wi_isub hx hb dX12_leads_34 ?_
        refine wi_i2l hx hb (by unfold iR; omega) dX12_leads_35 ?_
        have hFc : ∀ q, va_A (mW h ad cI cJ cZ (x)) H.size q → A q := fun q hq => Or.elim hq (fun ⟨k, e, hk⟩ => hD.2 k (q, e) hk) (fun hk => hA q (Nat.le_trans hS.1 hk))
        refine va_calli (va_runS (As := [.long (iL (c0)), .long (iL ((0 : Int))), .long (iL (((x).1 0) - ((1 : Int))))]) (rest := []) ⟨hx, hb, hml, hown, hts⟩ (c_m_in l dC dI h ad cI cJ cZ H.size (x) (c0) ((0 : Int)) (((x).1 0) - ((1 : Int))) (iR_L rc) ⟨by decide, by decide⟩ (by unfold iRL; omega)) (va_cwS 3 hts gX12_leads_X12_in rfl rfl rfl (by decide +kernel) ⟨Nat.le_of_ble_eq_true rfl, Nat.le_of_ble_eq_true rfl⟩) ⟨fun a U g mk q => by obtain ⟨q0, q1, qP, qK, qD⟩ := q; exact ⟨q0, q1, qP, va_K.moved (u := U) (U := U.calling g mk a) (Vm.Alike.refl U.vm) qK, qD⟩, fun U hU hW => ⟨rfl, by rw [hU], by rw [hU]; exact hP, va_K.moved hW.alike hK, hD.weaken (fun _ _ _ _ => trivial)⟩⟩ rfl rfl hl.1 rfl (lv_room (Nat.le_of_ble_eq_true rfl)) dX12_leads_36 ⟨Nat.le_of_ble_eq_true rfl, Nat.le_of_ble_eq_true rfl⟩) hS (fun q _ h => hFc q h) hFc (fun r9 u9 t H1 locs ht hvm hw hB hz1 hk1 hS => ?_)
        obtain ⟨hP1, hK1, hD1⟩ := hB
        rw [ht] at hP1
        obtain ⟨hw1, hw2⟩ := hw
        rw [hw2] at hP1 hD1
        rw [hw1]
        rw [F_m_in_2] at hP1 hD1
        have hD2 := hD1.weaken (B := A) (fun _ q _ h => hFc q.1 h)
        have hP := hP1
        have hD := hD2
        generalize H1 = H at hP hS ⊢
        refine wi_if_eq (tgt := 51) hx hb (by rw [F_m_in_1]; exact F_R01 (F_in_01 _ _ _)) dX12_leads_39 (by decide) (fun c_39 => ?_) (fun c_39 => ?_)
        · skip
          rw [if_pos c_39] at hres
          refine lv_iconst (v := iI (-1 : Int)) hx hb dX12_leads_51 (by decide) ?_
          exact W.iret (v := iI ((-1 : Int))) hx hb hr (fun t ht hW => ⟨⟨iI ((-1 : Int)), x, rfl, ⟨(by have h9 := congrArg (fun z : Int × MS => iI z.1) hres; exact h9), (by have h9 := congrArg (fun z : Int × MS => z.2) hres; exact h9)⟩, by rw [ht]; exact hP, va_K.moved hW.alike hK, hD⟩, hS.F ht⟩) hS.2.2 dX12_leads_52
        · skip
          rw [if_neg c_39] at hres
          rw [F_m_in_1] at c_39
          obtain ⟨c1, c2⟩ := F_in_1 c_39
          obtain ⟨d0, d1, e0, e1, e2⟩ := hn (by omega) (by omega) (by omega) (by omega)
          refine lv_aload_n hx hb dX12_leads_42 rfl (lv_at hl 0 rfl) ?_
          refine lv_iload_n hx hb dX12_leads_43 rfl (lv_at hl 1 rfl) ?_
          refine lv_iload_n hx hb dX12_leads_44 rfl (lv_at hl 2 rfl) ?_
          have hFc : ∀ q, va_A (mW h ad cI cJ cZ (x)) H.size q → A q := fun q hq => Or.elim hq (fun ⟨k, e, hk⟩ => hD.2 k (q, e) hk) (fun hk => hA q (Nat.le_trans hS.1 hk))
          refine va_calli (va_runV (As := [.int (iI (g)), .int (iI (c0))]) (rest := []) ⟨hx, hb, hml, hown, hts⟩ (c_m_next l dC dI h ad cI cJ cZ H.size (x) (g) (c0) (by omega) (by omega) (by omega) (by omega) d0 d1 e0 e1 e2) (cwV 2 hts gX12_leads_X12_next rfl rfl rfl (by decide +kernel) ⟨Nat.le_of_ble_eq_true rfl, Nat.le_of_ble_eq_true rfl⟩) ⟨fun a U g mk q => by obtain ⟨q0, q1, qP, qK, qD⟩ := q; exact ⟨q0, q1, qP, va_K.moved (u := U) (U := U.calling g mk a) (Vm.Alike.refl U.vm) qK, qD⟩, va_recv hK hP (ci := 12) (q0 := 0) rfl rfl, fun U hU hW => ⟨rfl, by rw [hU], by rw [hU]; exact hP, va_K.moved hW.alike hK, hD.weaken (fun _ _ _ _ => trivial)⟩⟩ rfl rfl hl.1 rfl (lv_room (Nat.le_of_ble_eq_true rfl)) dX12_leads_45 ⟨Nat.le_of_ble_eq_true rfl, Nat.le_of_ble_eq_true rfl⟩) hS (fun q _ h => hFc q h) hFc (fun r9 u9 t H1 locs ht hvm hw hB hz1 hk1 hS => ?_)
          obtain ⟨hP1, hK1, hD1⟩ := hB
          rw [ht] at hP1
          obtain ⟨hw1, hw2⟩ := hw
          rw [hw2] at hP1 hD1
          rw [hw1]
          rw [F_m_next_2] at hP1 hD1
          have hD2 := hD1.weaken (B := A) (fun _ q _ h => hFc q.1 h)
          have hP := hP1
          have hD := hD2
          generalize H1 = H at hP hS ⊢
          refine lv_goto (tgt := 52) hx hb dX12_leads_48 (by decide) ?_
          exact W.iret (v := iI ((F_m_next (x) (g) (c0)).1)) hx hb hr (fun t ht hW => ⟨⟨iI ((F_m_next (x) (g) (c0)).1), x, rfl, ⟨(by have h9 := congrArg (fun z : Int × MS => iI z.1) hres; exact h9), (by have h9 := congrArg (fun z : Int × MS => z.2) hres; exact h9)⟩, by rw [ht]; exact hP, va_K.moved hW.alike hK, hD⟩, hS.F ht⟩) hS.2.2 dX12_leads_52
    · skip
      rw [if_pos c_4] at hres
      refine lv_bipush (v := iI (-3 : Int)) hx hb dX12_leads_7 (by decide) ?_
      exact W.iret (v := iI ((-3 : Int))) hx hb hr (fun t ht hW => ⟨⟨iI ((-3 : Int)), x, rfl, ⟨(by have h9 := congrArg (fun z : Int × MS => iI z.1) hres; exact h9), (by have h9 := congrArg (fun z : Int × MS => z.2) hres; exact h9)⟩, by rw [ht]; exact hP, va_K.moved hW.alike hK, hD⟩, hS.F ht⟩) hS.2.2 dX12_leads_9
  exact key _ _ hP hS
theorem F_m_leads_fr (x : MS) (g : Int) (c0 : Int) : same [] [] x (F_m_leads (x) (g) (c0)).2 := by
  unfold F_m_leads
  by_cases hc : ((F_m_isMachine (x)).1) = (0)
  · rw [if_pos hc]
    exact (sm_rf _ _ _)
  · rw [if_neg hc]
    by_cases hc : ((F_m_in (x) (g) ((0 : Int)) (((x).1 24) - ((1 : Int)))).1) = (0)
    · rw [if_pos hc]
      exact (sm_rf _ _ _)
    · rw [if_neg hc]
      by_cases hc : ((F_m_in (x) (c0) ((0 : Int)) (((x).1 0) - ((1 : Int)))).1) = (0)
      · rw [if_pos hc]
        exact (sm_rf _ _ _)
      · rw [if_neg hc]
        exact (sm_rf _ _ _)
theorem F_m_leads_2 (x : MS) (g : Int) (c0 : Int) : (F_m_leads (x) (g) (c0)).2 = x := sm_nil (F_m_leads_fr x g c0)
def F_m_rule (x : MS) (g : Int) (b : Int) (i : Int) : Int × MS := (if ((x).1 6) = ((-9 : Int)) then ((-3 : Int), x) else (if ((F_m_in (x) (g) ((0 : Int)) (((x).1 12) - ((1 : Int)))).1) = (0) then ((-1 : Int), x) else (if (b) = (0) then (if ((F_m_in (x) (i) ((0 : Int)) ((((x).2 15) (g).toNat) - ((1 : Int)))).1) = (0) then ((-9 : Int), x) else (if (b) = (0) then (((x).2 16) ((((24 : Int)) * (g)) + (i)).toNat, x) else (((x).2 14) ((((24 : Int)) * (g)) + (i)).toNat, x))) else (if ((F_m_in (x) (i) ((0 : Int)) ((((x).2 13) (g).toNat) - ((1 : Int)))).1) = (0) then ((-9 : Int), x) else (if (b) = (0) then (((x).2 16) ((((24 : Int)) * (g)) + (i)).toNat, x) else (((x).2 14) ((((24 : Int)) * (g)) + (i)).toNat, x))))))
set_option maxHeartbeats 4000000 in
set_option maxRecDepth 100000 in
/-- rule -/
theorem c_m_rule (l : Launch) (dC : Nat → ClassId) (dI : Nat → Nat → Nat) (h : Nat) (ad : Nat → Nat) (cI cJ cZ : ClassId) (sz : Nat) (x : MS) (g : Int) (b : Int) (i : Int) (sn : iR (x.1 6)) (rg : iR g) (b01 : b = 0 ∨ b = 1) (ri : iR i) (r0 : 0 ≤ x.1 12) (r1 : x.1 12 ≤ 40) (zz : ∀ k : Nat, k < 40 → 0 ≤ x.2 13 k ∧ x.2 13 k ≤ 24 ∧ 0 ≤ x.2 15 k ∧ x.2 15 k ≤ 24) : Met l yX12_rule wsX12_rule ({ frames := 1, cells := 0, slots := 0, locals := 25 }) (mPc dC dI h ad cI cJ cZ sz x [.ref h, .int (iI g), .int (iI b), .int (iI i)]) (va_Qi (fun (r : Int32) (u : MS) => r = iI (F_m_rule (x) (g) (b) (i)).1 ∧ u = (F_m_rule (x) (g) (b) (i)).2) (mAt dC dI h ad cI cJ cZ (va_A (mW h ad cI cJ cZ (x)) sz)) (va_A (mW h ad cI cJ cZ (x)) sz)) 0 0 (va_A (mW h ad cI cJ cZ (x)) sz) := by
  refine Met.ofW (cc := cX12_rule) (maxL := 5) (ret := (some .int)) (by decide) rfl ?_
  intro p e s m args below meth c s₁ B hml hv
  obtain ⟨rfl, hsz, hP, hK, hD0⟩ := hv
  have hx := B.exec
  have hb := B.bytes
  have hr := B.returns
  have hts := atoms_spec (ws := wsX12_rule) B.pre
  have hown : s.vm.findClass RX12 = some m.cls := findClass_of_methodNamed B.named
  have hlocks := B.notSynchronized
  have hin : ∀ w ∈ u_ws RX12 TX12 34, w ∈ wsX12_rule := by decide +kernel
  subst hsz
  have hD := hD0.self (sz := s.heap.size)
  generalize hAe : va_A (mW h ad cI cJ cZ (x)) s.heap.size = A at hD ⊢
  have hA : ∀ q : Nat, s.heap.size ≤ q → A q := fun q h => by rw [← hAe]; exact Or.inr h
  have hS : va_S A s.heap s.heap [] := va_S.rf
  have hl := lv_entry ([.ref h, .int (iI g), .int (iI b), .int (iI i)]) (n := 5) (Nat.le_of_ble_eq_true rfl)
  rw [lg_entry_eq]
  generalize (lg_sl ([.ref h, .int (iI g), .int (iI b), .int (iI i)]) ++ List.replicate (5 - (lg_sl ([.ref h, .int (iI g), .int (iI b), .int (iI i)])).length) Slot.unset).toArray = ls at hl ⊢
  have hl : lv_has ls 5 [(0, .ref (h)), (1, .int (iI (g))), (2, .int (iI (b))), (3, .int (iI (i)))] := hl
  have key : ∀ (H : Heap) (locs : List Loc), va_P (dC, dI) vwCl (mW h ad cI cJ cZ (x)) H → va_S A s.heap H locs → W p l e (headSpec wsX12_rule ({ frames := 1, cells := 0, slots := 0, locals := 25 })).room s m ([.ref h, .int (iI g), .int (iI b), .int (iI i)] : List Value).toArray below meth c H locs 0 0 (MQ below (va_Qi (fun (r : Int32) (u : MS) => r = iI (F_m_rule (x) (g) (b) (i)).1 ∧ u = (F_m_rule (x) (g) (b) (i)).2) (mAt dC dI h ad cI cJ cZ A) A) ([.ref h, .int (iI g), .int (iI b), .int (iI i)] : List Value).toArray s 0 0 A) (F0 m 0 ls []) := by
    intro H locs hP hS
    have hres : (if ((x).1 6) = ((-9 : Int)) then ((-3 : Int), x) else (if ((F_m_in (x) (g) ((0 : Int)) (((x).1 12) - ((1 : Int)))).1) = (0) then ((-1 : Int), x) else (if (b) = (0) then (if ((F_m_in (x) (i) ((0 : Int)) ((((x).2 15) (g).toNat) - ((1 : Int)))).1) = (0) then ((-9 : Int), x) else (if (b) = (0) then (((x).2 16) ((((24 : Int)) * (g)) + (i)).toNat, x) else (((x).2 14) ((((24 : Int)) * (g)) + (i)).toNat, x))) else (if ((F_m_in (x) (i) ((0 : Int)) ((((x).2 13) (g).toNat) - ((1 : Int)))).1) = (0) then ((-9 : Int), x) else (if (b) = (0) then (((x).2 16) ((((24 : Int)) * (g)) + (i)).toNat, x) else (((x).2 14) ((((24 : Int)) * (g)) + (i)).toNat, x)))))) = F_m_rule (x) (g) (b) (i) := rfl
    refine lv_aload_n hx hb dX12_rule_0 rfl (lv_at hl 0 rfl) ?_
    refine va_get (D := (dC, dI)) (ci := 12) (v := .int (iI ((x).1 6))) (C := RX12) (T := TX12) (N := 34) hx hb hts hin hown hK hP 0 rfl rfl 6 (by decide) (hts (.fieldLink RX12 26 "LikeWordsModel" "seen" "I") (by decide +kernel)) (fun _ h9 => h9) rfl dX12_rule_1 ?_
    refine lv_bipush (v := iI (-9 : Int)) hx hb dX12_rule_4 (by decide) ?_
    refine wi_icmp_ne (tgt := 12) hx hb (by first | assumption | (unfold iR; omega) | exact F_R01 (by assumption)) ⟨by decide, by decide⟩ dX12_rule_6 (by decide) (fun c_6 => ?_) (fun c_6 => ?_)
    · skip
      rw [if_neg c_6] at hres
      refine lv_iload_n hx hb dX12_rule_12 rfl (lv_at hl 1 rfl) ?_
      refine wi_i2l hx hb rg dX12_rule_13 ?_
      refine lv_lconst (v := iL 0) hx hb dX12_rule_14 (by decide) ?_
      refine lv_aload_n hx hb dX12_rule_15 rfl (lv_at hl 0 rfl) ?_
      refine va_get (D := (dC, dI)) (ci := 12) (v := .int (iI ((x).1 12))) (C := RX12) (T := TX12) (N := 34) hx hb hts hin hown hK hP 0 rfl rfl 12 (by decide) (hts (.fieldLink RX12 139 "LikeWordsModel" "rules" "I") (by decide +kernel)) (fun _ h9 => h9) rfl dX12_rule_16 ?_
      refine lv_iconst (v := iI (1 : Int)) hx hb dX12_rule_19 (by decide) ?_
      refine wi_isub hx hb dX12_rule_20 ?_
      refine wi_i2l hx hb (by unfold iR; omega) dX12_rule_21 ?_
      have hFc : ∀ q, va_A (mW h ad cI cJ cZ (x)) H.size q → A q := fun q hq => Or.elim hq (fun ⟨k, e, hk⟩ => hD.2 k (q, e) hk) (fun hk => hA q (Nat.le_trans hS.1 hk))
      refine va_calli (va_runS (As := [.long (iL (g)), .long (iL ((0 : Int))), .long (iL (((x).1 12) - ((1 : Int))))]) (rest := []) ⟨hx, hb, hml, hown, hts⟩ (c_m_in l dC dI h ad cI cJ cZ H.size (x) (g) ((0 : Int)) (((x).1 12) - ((1 : Int))) (iR_L rg) ⟨by decide, by decide⟩ (by unfold iRL; omega)) (va_cwS 3 hts gX12_rule_X12_in rfl rfl rfl (by decide +kernel) ⟨Nat.le_of_ble_eq_true rfl, Nat.le_of_ble_eq_true rfl⟩) ⟨fun a U g mk q => by obtain ⟨q0, q1, qP, qK, qD⟩ := q; exact ⟨q0, q1, qP, va_K.moved (u := U) (U := U.calling g mk a) (Vm.Alike.refl U.vm) qK, qD⟩, fun U hU hW => ⟨rfl, by rw [hU], by rw [hU]; exact hP, va_K.moved hW.alike hK, hD.weaken (fun _ _ _ _ => trivial)⟩⟩ rfl rfl hl.1 rfl (lv_room (Nat.le_of_ble_eq_true rfl)) dX12_rule_22 ⟨Nat.le_of_ble_eq_true rfl, Nat.le_of_ble_eq_true rfl⟩) hS (fun q _ h => hFc q h) hFc (fun r9 u9 t H1 locs ht hvm hw hB hz1 hk1 hS => ?_)
      obtain ⟨hP1, hK1, hD1⟩ := hB
      rw [ht] at hP1
      obtain ⟨hw1, hw2⟩ := hw
      rw [hw2] at hP1 hD1
      rw [hw1]
      rw [F_m_in_2] at hP1 hD1
      have hD2 := hD1.weaken (B := A) (fun _ q _ h => hFc q.1 h)
      have hP := hP1
      have hD := hD2
      generalize H1 = H at hP hS ⊢
      refine wi_if_ne (tgt := 30) hx hb (by rw [F_m_in_1]; exact F_R01 (F_in_01 _ _ _)) dX12_rule_25 (by decide) (fun c_25 => ?_) (fun c_25 => ?_)
      · skip
        rw [if_neg c_25] at hres
        rw [F_m_in_1] at c_25
        obtain ⟨g0, g1⟩ := F_in_1 c_25
        obtain ⟨y0, y1, y2, y3⟩ := zz g.toNat (by omega)
        refine lv_iload_n hx hb dX12_rule_30 rfl (lv_at hl 2 rfl) ?_
        refine wi_if_eq (tgt := 43) hx hb (F_R01 b01) dX12_rule_31 (by decide) (fun c_31 => ?_) (fun c_31 => ?_)
        · skip
          rw [if_pos c_31] at hres
          refine lv_aload_n hx hb dX12_rule_43 rfl (lv_at hl 0 rfl) ?_
          refine va_get (D := (dC, dI)) (ci := 12) (v := .ref (ad 15)) (C := RX12) (T := TX12) (N := 34) hx hb hts hin hown hK hP 0 rfl rfl 15 (by decide) (hts (.fieldLink RX12 44 "LikeWordsModel" "rightSize" "[I") (by decide +kernel)) (fun _ h9 => h9) rfl dX12_rule_44 ?_
          refine lv_iload_n hx hb dX12_rule_47 rfl (lv_at hl 1 rfl) ?_
          refine wi_iald (f := (x).2 15) hx hb hK hP 10 0 rfl rfl (i := g) (by omega) (by omega) (by decide) dX12_rule_48 ?_
          refine lv_istore (lv' := [(4, .int (iI (((x).2 15) (g).toNat))), (0, .ref (h)), (1, .int (iI (g))), (2, .int (iI (b))), (3, .int (iI (i)))]) hx hb dX12_rule_49 hl (by decide) rfl (fun ls hl => ?_)
          refine lv_iload_n hx hb dX12_rule_51 rfl (lv_at hl 4 rfl) ?_
          refine wi_i2l hx hb ri dX12_rule_52 ?_
          refine lv_lconst (v := iL 0) hx hb dX12_rule_53 (by decide) ?_
          refine lv_iload hx hb dX12_rule_54 (lv_at hl 0 rfl) ?_
          refine lv_iconst (v := iI (1 : Int)) hx hb dX12_rule_56 (by decide) ?_
          refine wi_isub hx hb dX12_rule_57 ?_
          refine wi_i2l hx hb (by unfold iR; omega) dX12_rule_58 ?_
          have hFc : ∀ q, va_A (mW h ad cI cJ cZ (x)) H.size q → A q := fun q hq => Or.elim hq (fun ⟨k, e, hk⟩ => hD.2 k (q, e) hk) (fun hk => hA q (Nat.le_trans hS.1 hk))
          refine va_calli (va_runS (As := [.long (iL (i)), .long (iL ((0 : Int))), .long (iL ((((x).2 15) (g).toNat) - ((1 : Int))))]) (rest := []) ⟨hx, hb, hml, hown, hts⟩ (c_m_in l dC dI h ad cI cJ cZ H.size (x) (i) ((0 : Int)) ((((x).2 15) (g).toNat) - ((1 : Int))) (iR_L ri) ⟨by decide, by decide⟩ (by unfold iRL; omega)) (va_cwS 3 hts gX12_rule_X12_in rfl rfl rfl (by decide +kernel) ⟨Nat.le_of_ble_eq_true rfl, Nat.le_of_ble_eq_true rfl⟩) ⟨fun a U g mk q => by obtain ⟨q0, q1, qP, qK, qD⟩ := q; exact ⟨q0, q1, qP, va_K.moved (u := U) (U := U.calling g mk a) (Vm.Alike.refl U.vm) qK, qD⟩, fun U hU hW => ⟨rfl, by rw [hU], by rw [hU]; exact hP, va_K.moved hW.alike hK, hD.weaken (fun _ _ _ _ => trivial)⟩⟩ rfl rfl hl.1 rfl (lv_room (Nat.le_of_ble_eq_true rfl)) dX12_rule_59 ⟨Nat.le_of_ble_eq_true rfl, Nat.le_of_ble_eq_true rfl⟩) hS (fun q _ h => hFc q h) hFc (fun r9 u9 t H1 locs ht hvm hw hB hz1 hk1 hS => ?_)
          obtain ⟨hP1, hK1, hD1⟩ := hB
          rw [ht] at hP1
          obtain ⟨hw1, hw2⟩ := hw
          rw [hw2] at hP1 hD1
          rw [hw1]
          rw [F_m_in_2] at hP1 hD1
          have hD2 := hD1.weaken (B := A) (fun _ q _ h => hFc q.1 h)
          have hP := hP1
          have hD := hD2
          generalize H1 = H at hP hS ⊢
          refine wi_if_ne (tgt := 70) hx hb (by rw [F_m_in_1]; exact F_R01 (F_in_01 _ _ _)) dX12_rule_62 (by decide) (fun c_62 => ?_) (fun c_62 => ?_)
          · skip
            rw [if_neg c_62] at hres
            rw [F_m_in_1] at c_62
            obtain ⟨i0, i1⟩ := F_in_1 c_62
            refine lv_iload_n hx hb dX12_rule_70 rfl (lv_at hl 3 rfl) ?_
            refine wi_if_eq (tgt := 88) hx hb (F_R01 b01) dX12_rule_71 (by decide) (fun c_71 => ?_) (fun c_71 => ?_)
            · skip
              rw [if_pos c_71] at hres
              have q9 : i < 24 := by rcases b01 with hb9 | hb9 <;> omega
              refine lv_aload_n hx hb dX12_rule_88 rfl (lv_at hl 1 rfl) ?_
              refine va_get (D := (dC, dI)) (ci := 12) (v := .ref (ad 16)) (C := RX12) (T := TX12) (N := 34) hx hb hts hin hown hK hP 0 rfl rfl 16 (by decide) (hts (.fieldLink RX12 47 "LikeWordsModel" "right" "[I") (by decide +kernel)) (fun _ h9 => h9) rfl dX12_rule_89 ?_
              refine lv_bipush (v := iI (24 : Int)) hx hb dX12_rule_92 (by decide) ?_
              refine lv_iload_n hx hb dX12_rule_94 rfl (lv_at hl 2 rfl) ?_
              refine wi_imul hx hb dX12_rule_95 ?_
              refine lv_iload_n hx hb dX12_rule_96 rfl (lv_at hl 4 rfl) ?_
              refine wi_iadd hx hb dX12_rule_97 ?_
              refine wi_iald (f := (x).2 16) hx hb hK hP 11 0 rfl rfl (i := (((24 : Int)) * (g)) + (i)) (by omega) (by omega) (by decide) dX12_rule_98 ?_
              exact W.iret (v := iI (((x).2 16) ((((24 : Int)) * (g)) + (i)).toNat)) hx hb hr (fun t ht hW => ⟨⟨iI (((x).2 16) ((((24 : Int)) * (g)) + (i)).toNat), x, rfl, ⟨(by have h9 := congrArg (fun z : Int × MS => iI z.1) hres; exact h9), (by have h9 := congrArg (fun z : Int × MS => z.2) hres; exact h9)⟩, by rw [ht]; exact hP, va_K.moved hW.alike hK, hD⟩, hS.F ht⟩) hS.2.2 dX12_rule_99
            · skip
              rw [if_neg c_71] at hres
              have q9 : i < 24 := by rcases b01 with hb9 | hb9 <;> omega
              refine lv_aload_n hx hb dX12_rule_74 rfl (lv_at hl 1 rfl) ?_
              refine va_get (D := (dC, dI)) (ci := 12) (v := .ref (ad 14)) (C := RX12) (T := TX12) (N := 34) hx hb hts hin hown hK hP 0 rfl rfl 14 (by decide) (hts (.fieldLink RX12 41 "LikeWordsModel" "left" "[I") (by decide +kernel)) (fun _ h9 => h9) rfl dX12_rule_75 ?_
              refine lv_bipush (v := iI (24 : Int)) hx hb dX12_rule_78 (by decide) ?_
              refine lv_iload_n hx hb dX12_rule_80 rfl (lv_at hl 2 rfl) ?_
              refine wi_imul hx hb dX12_rule_81 ?_
              refine lv_iload_n hx hb dX12_rule_82 rfl (lv_at hl 4 rfl) ?_
              refine wi_iadd hx hb dX12_rule_83 ?_
              refine wi_iald (f := (x).2 14) hx hb hK hP 9 0 rfl rfl (i := (((24 : Int)) * (g)) + (i)) (by omega) (by omega) (by decide) dX12_rule_84 ?_
              refine lv_goto (tgt := 99) hx hb dX12_rule_85 (by decide) ?_
              exact W.iret (v := iI (((x).2 14) ((((24 : Int)) * (g)) + (i)).toNat)) hx hb hr (fun t ht hW => ⟨⟨iI (((x).2 14) ((((24 : Int)) * (g)) + (i)).toNat), x, rfl, ⟨(by have h9 := congrArg (fun z : Int × MS => iI z.1) hres; exact h9), (by have h9 := congrArg (fun z : Int × MS => z.2) hres; exact h9)⟩, by rw [ht]; exact hP, va_K.moved hW.alike hK, hD⟩, hS.F ht⟩) hS.2.2 dX12_rule_99
          · skip
            rw [if_pos c_62] at hres
            refine lv_bipush (v := iI (-9 : Int)) hx hb dX12_rule_65 (by decide) ?_
            refine lv_goto (tgt := 99) hx hb dX12_rule_67 (by decide) ?_
            exact W.iret (v := iI ((-9 : Int))) hx hb hr (fun t ht hW => ⟨⟨iI ((-9 : Int)), x, rfl, ⟨(by have h9 := congrArg (fun z : Int × MS => iI z.1) hres; exact h9), (by have h9 := congrArg (fun z : Int × MS => z.2) hres; exact h9)⟩, by rw [ht]; exact hP, va_K.moved hW.alike hK, hD⟩, hS.F ht⟩) hS.2.2 dX12_rule_99
        · skip
          rw [if_neg c_31] at hres
          refine lv_aload_n hx hb dX12_rule_34 rfl (lv_at hl 0 rfl) ?_
          refine va_get (D := (dC, dI)) (ci := 12) (v := .ref (ad 13)) (C := RX12) (T := TX12) (N := 34) hx hb hts hin hown hK hP 0 rfl rfl 13 (by decide) (hts (.fieldLink RX12 38 "LikeWordsModel" "leftSize" "[I") (by decide +kernel)) (fun _ h9 => h9) rfl dX12_rule_35 ?_
          refine lv_iload_n hx hb dX12_rule_38 rfl (lv_at hl 1 rfl) ?_
          refine wi_iald (f := (x).2 13) hx hb hK hP 8 0 rfl rfl (i := g) (by omega) (by omega) (by decide) dX12_rule_39 ?_
          refine lv_goto (tgt := 49) hx hb dX12_rule_40 (by decide) ?_
          refine lv_istore (lv' := [(4, .int (iI (((x).2 13) (g).toNat))), (0, .ref (h)), (1, .int (iI (g))), (2, .int (iI (b))), (3, .int (iI (i)))]) hx hb dX12_rule_49 hl (by decide) rfl (fun ls hl => ?_)
          refine lv_iload_n hx hb dX12_rule_51 rfl (lv_at hl 4 rfl) ?_
          refine wi_i2l hx hb ri dX12_rule_52 ?_
          refine lv_lconst (v := iL 0) hx hb dX12_rule_53 (by decide) ?_
          refine lv_iload hx hb dX12_rule_54 (lv_at hl 0 rfl) ?_
          refine lv_iconst (v := iI (1 : Int)) hx hb dX12_rule_56 (by decide) ?_
          refine wi_isub hx hb dX12_rule_57 ?_
          refine wi_i2l hx hb (by unfold iR; omega) dX12_rule_58 ?_
          have hFc : ∀ q, va_A (mW h ad cI cJ cZ (x)) H.size q → A q := fun q hq => Or.elim hq (fun ⟨k, e, hk⟩ => hD.2 k (q, e) hk) (fun hk => hA q (Nat.le_trans hS.1 hk))
          refine va_calli (va_runS (As := [.long (iL (i)), .long (iL ((0 : Int))), .long (iL ((((x).2 13) (g).toNat) - ((1 : Int))))]) (rest := []) ⟨hx, hb, hml, hown, hts⟩ (c_m_in l dC dI h ad cI cJ cZ H.size (x) (i) ((0 : Int)) ((((x).2 13) (g).toNat) - ((1 : Int))) (iR_L ri) ⟨by decide, by decide⟩ (by unfold iRL; omega)) (va_cwS 3 hts gX12_rule_X12_in rfl rfl rfl (by decide +kernel) ⟨Nat.le_of_ble_eq_true rfl, Nat.le_of_ble_eq_true rfl⟩) ⟨fun a U g mk q => by obtain ⟨q0, q1, qP, qK, qD⟩ := q; exact ⟨q0, q1, qP, va_K.moved (u := U) (U := U.calling g mk a) (Vm.Alike.refl U.vm) qK, qD⟩, fun U hU hW => ⟨rfl, by rw [hU], by rw [hU]; exact hP, va_K.moved hW.alike hK, hD.weaken (fun _ _ _ _ => trivial)⟩⟩ rfl rfl hl.1 rfl (lv_room (Nat.le_of_ble_eq_true rfl)) dX12_rule_59 ⟨Nat.le_of_ble_eq_true rfl, Nat.le_of_ble_eq_true rfl⟩) hS (fun q _ h => hFc q h) hFc (fun r9 u9 t H1 locs ht hvm hw hB hz1 hk1 hS => ?_)
          obtain ⟨hP1, hK1, hD1⟩ := hB
          rw [ht] at hP1
          obtain ⟨hw1, hw2⟩ := hw
          rw [hw2] at hP1 hD1
          rw [hw1]
          rw [F_m_in_2] at hP1 hD1
          have hD2 := hD1.weaken (B := A) (fun _ q _ h => hFc q.1 h)
          have hP := hP1
          have hD := hD2
          generalize H1 = H at hP hS ⊢
          refine wi_if_ne (tgt := 70) hx hb (by rw [F_m_in_1]; exact F_R01 (F_in_01 _ _ _)) dX12_rule_62 (by decide) (fun c_62 => ?_) (fun c_62 => ?_)
          · skip
            rw [if_neg c_62] at hres
            rw [F_m_in_1] at c_62
            obtain ⟨i0, i1⟩ := F_in_1 c_62
            refine lv_iload_n hx hb dX12_rule_70 rfl (lv_at hl 3 rfl) ?_
            refine wi_if_eq (tgt := 88) hx hb (F_R01 b01) dX12_rule_71 (by decide) (fun c_71 => ?_) (fun c_71 => ?_)
            · skip
              rw [if_pos c_71] at hres
              have q9 : i < 24 := by rcases b01 with hb9 | hb9 <;> omega
              refine lv_aload_n hx hb dX12_rule_88 rfl (lv_at hl 1 rfl) ?_
              refine va_get (D := (dC, dI)) (ci := 12) (v := .ref (ad 16)) (C := RX12) (T := TX12) (N := 34) hx hb hts hin hown hK hP 0 rfl rfl 16 (by decide) (hts (.fieldLink RX12 47 "LikeWordsModel" "right" "[I") (by decide +kernel)) (fun _ h9 => h9) rfl dX12_rule_89 ?_
              refine lv_bipush (v := iI (24 : Int)) hx hb dX12_rule_92 (by decide) ?_
              refine lv_iload_n hx hb dX12_rule_94 rfl (lv_at hl 2 rfl) ?_
              refine wi_imul hx hb dX12_rule_95 ?_
              refine lv_iload_n hx hb dX12_rule_96 rfl (lv_at hl 4 rfl) ?_
              refine wi_iadd hx hb dX12_rule_97 ?_
              refine wi_iald (f := (x).2 16) hx hb hK hP 11 0 rfl rfl (i := (((24 : Int)) * (g)) + (i)) (by omega) (by omega) (by decide) dX12_rule_98 ?_
              exact W.iret (v := iI (((x).2 16) ((((24 : Int)) * (g)) + (i)).toNat)) hx hb hr (fun t ht hW => ⟨⟨iI (((x).2 16) ((((24 : Int)) * (g)) + (i)).toNat), x, rfl, ⟨(by have h9 := congrArg (fun z : Int × MS => iI z.1) hres; exact h9), (by have h9 := congrArg (fun z : Int × MS => z.2) hres; exact h9)⟩, by rw [ht]; exact hP, va_K.moved hW.alike hK, hD⟩, hS.F ht⟩) hS.2.2 dX12_rule_99
            · skip
              rw [if_neg c_71] at hres
              have q9 : i < 24 := by rcases b01 with hb9 | hb9 <;> omega
              refine lv_aload_n hx hb dX12_rule_74 rfl (lv_at hl 1 rfl) ?_
              refine va_get (D := (dC, dI)) (ci := 12) (v := .ref (ad 14)) (C := RX12) (T := TX12) (N := 34) hx hb hts hin hown hK hP 0 rfl rfl 14 (by decide) (hts (.fieldLink RX12 41 "LikeWordsModel" "left" "[I") (by decide +kernel)) (fun _ h9 => h9) rfl dX12_rule_75 ?_
              refine lv_bipush (v := iI (24 : Int)) hx hb dX12_rule_78 (by decide) ?_
              refine lv_iload_n hx hb dX12_rule_80 rfl (lv_at hl 2 rfl) ?_
              refine wi_imul hx hb dX12_rule_81 ?_
              refine lv_iload_n hx hb dX12_rule_82 rfl (lv_at hl 4 rfl) ?_
              refine wi_iadd hx hb dX12_rule_83 ?_
              refine wi_iald (f := (x).2 14) hx hb hK hP 9 0 rfl rfl (i := (((24 : Int)) * (g)) + (i)) (by omega) (by omega) (by decide) dX12_rule_84 ?_
              refine lv_goto (tgt := 99) hx hb dX12_rule_85 (by decide) ?_
              exact W.iret (v := iI (((x).2 14) ((((24 : Int)) * (g)) + (i)).toNat)) hx hb hr (fun t ht hW => ⟨⟨iI (((x).2 14) ((((24 : Int)) * (g)) + (i)).toNat), x, rfl, ⟨(by have h9 := congrArg (fun z : Int × MS => iI z.1) hres; exact h9), (by have h9 := congrArg (fun z : Int × MS => z.2) hres; exact h9)⟩, by rw [ht]; exact hP, va_K.moved hW.alike hK, hD⟩, hS.F ht⟩) hS.2.2 dX12_rule_99
          · skip
            rw [if_pos c_62] at hres
            refine lv_bipush (v := iI (-9 : Int)) hx hb dX12_rule_65 (by decide) ?_
            refine lv_goto (tgt := 99) hx hb dX12_rule_67 (by decide) ?_
            exact W.iret (v := iI ((-9 : Int))) hx hb hr (fun t ht hW => ⟨⟨iI ((-9 : Int)), x, rfl, ⟨(by have h9 := congrArg (fun z : Int × MS => iI z.1) hres; exact h9), (by have h9 := congrArg (fun z : Int × MS => z.2) hres; exact h9)⟩, by rw [ht]; exact hP, va_K.moved hW.alike hK, hD⟩, hS.F ht⟩) hS.2.2 dX12_rule_99
      · skip
        rw [if_pos c_25] at hres
        refine lv_iconst (v := iI (-1 : Int)) hx hb dX12_rule_28 (by decide) ?_
        exact W.iret (v := iI ((-1 : Int))) hx hb hr (fun t ht hW => ⟨⟨iI ((-1 : Int)), x, rfl, ⟨(by have h9 := congrArg (fun z : Int × MS => iI z.1) hres; exact h9), (by have h9 := congrArg (fun z : Int × MS => z.2) hres; exact h9)⟩, by rw [ht]; exact hP, va_K.moved hW.alike hK, hD⟩, hS.F ht⟩) hS.2.2 dX12_rule_29
    · skip
      rw [if_pos c_6] at hres
      refine lv_bipush (v := iI (-3 : Int)) hx hb dX12_rule_9 (by decide) ?_
      exact W.iret (v := iI ((-3 : Int))) hx hb hr (fun t ht hW => ⟨⟨iI ((-3 : Int)), x, rfl, ⟨(by have h9 := congrArg (fun z : Int × MS => iI z.1) hres; exact h9), (by have h9 := congrArg (fun z : Int × MS => z.2) hres; exact h9)⟩, by rw [ht]; exact hP, va_K.moved hW.alike hK, hD⟩, hS.F ht⟩) hS.2.2 dX12_rule_11
  exact key _ _ hP hS
theorem F_m_rule_fr (x : MS) (g : Int) (b : Int) (i : Int) : same [] [] x (F_m_rule (x) (g) (b) (i)).2 := by
  unfold F_m_rule
  by_cases hc : ((x).1 6) = ((-9 : Int))
  · rw [if_pos hc]
    exact (sm_rf _ _ _)
  · rw [if_neg hc]
    by_cases hc : ((F_m_in (x) (g) ((0 : Int)) (((x).1 12) - ((1 : Int)))).1) = (0)
    · rw [if_pos hc]
      exact (sm_rf _ _ _)
    · rw [if_neg hc]
      by_cases hc : (b) = (0)
      · rw [if_pos hc]
        by_cases hc : ((F_m_in (x) (i) ((0 : Int)) ((((x).2 15) (g).toNat) - ((1 : Int)))).1) = (0)
        · rw [if_pos hc]
          exact (sm_rf _ _ _)
        · rw [if_neg hc]
          by_cases hc : (b) = (0)
          · rw [if_pos hc]
            exact (sm_rf _ _ _)
          · rw [if_neg hc]
            exact (sm_rf _ _ _)
      · rw [if_neg hc]
        by_cases hc : ((F_m_in (x) (i) ((0 : Int)) ((((x).2 13) (g).toNat) - ((1 : Int)))).1) = (0)
        · rw [if_pos hc]
          exact (sm_rf _ _ _)
        · rw [if_neg hc]
          by_cases hc : (b) = (0)
          · rw [if_pos hc]
            exact (sm_rf _ _ _)
          · rw [if_neg hc]
            exact (sm_rf _ _ _)
theorem F_m_rule_2 (x : MS) (g : Int) (b : Int) (i : Int) : (F_m_rule (x) (g) (b) (i)).2 = x := sm_nil (F_m_rule_fr x g b i)
def F_m_isMade_s : Nat → Nat → MS → Int → Int → Int → Int × MS
  | 0, _, x, _, _, _ => (0, x)
  | n + 1, t, x, p0, p1, p2 => match t with
    | 0 => (fun (k : Int) => (if ((x).1 31) ≤ (k) then ((0 : Int), x) else (if (((x).2 32) (k).toNat) = (((x).2 1) ((9 : Int)).toNat) then F_m_isMade_s n 1 (x) (k) ((1 : Int)) ((0 : Int)) else F_m_isMade_s n 1 (x) (k) ((0 : Int)) ((0 : Int))))) p0
    | 1 => (fun (k : Int) (q : Int) (i : Int) => (if (((x).2 1) ((9 : Int)).toNat) ≤ (i) then (if (q) = (0) then F_m_isMade_s n 0 (x) ((k) + (1 : Int)) (0) (0) else ((1 : Int), x)) else (if (q) = (0) then (if (q) = (0) then F_m_isMade_s n 0 (x) ((k) + (1 : Int)) (0) (0) else ((1 : Int), x)) else (if (((x).2 33) ((((60 : Int)) * (k)) + (i)).toNat) = (((x).2 2) (((1152 : Int)) + (i)).toNat) then F_m_isMade_s n 1 (x) (k) ((1 : Int)) ((i) + (1 : Int)) else F_m_isMade_s n 1 (x) (k) ((0 : Int)) ((i) + (1 : Int)))))) p0 p1 p2
    | _ => (0, x)
theorem F_m_isMade_e0 (n : Nat) (x : MS) (k : Int) (q0 : Int) (q1 : Int) : F_m_isMade_s (n + 1) 0 x k q0 q1 = (if ((x).1 31) ≤ (k) then ((0 : Int), x) else (if (((x).2 32) (k).toNat) = (((x).2 1) ((9 : Int)).toNat) then F_m_isMade_s n 1 (x) (k) ((1 : Int)) ((0 : Int)) else F_m_isMade_s n 1 (x) (k) ((0 : Int)) ((0 : Int)))) := rfl
theorem F_m_isMade_e1 (n : Nat) (x : MS) (k : Int) (q : Int) (i : Int) : F_m_isMade_s (n + 1) 1 x k q i = (if (((x).2 1) ((9 : Int)).toNat) ≤ (i) then (if (q) = (0) then F_m_isMade_s n 0 (x) ((k) + (1 : Int)) (0) (0) else ((1 : Int), x)) else (if (q) = (0) then (if (q) = (0) then F_m_isMade_s n 0 (x) ((k) + (1 : Int)) (0) (0) else ((1 : Int), x)) else (if (((x).2 33) ((((60 : Int)) * (k)) + (i)).toNat) = (((x).2 2) (((1152 : Int)) + (i)).toNat) then F_m_isMade_s n 1 (x) (k) ((1 : Int)) ((i) + (1 : Int)) else F_m_isMade_s n 1 (x) (k) ((0 : Int)) ((i) + (1 : Int))))) := rfl
def F_m_isMade (x : MS)  : Int × MS := F_m_isMade_s 40000 0 (x) ((0 : Int)) (0) (0)
set_option maxHeartbeats 4000000 in
set_option maxRecDepth 100000 in
/-- isMade -/
theorem c_m_isMade (l : Launch) (dC : Nat → ClassId) (dI : Nat → Nat → Nat) (h : Nat) (ad : Nat → Nat) (cI cJ cZ : ClassId) (sz : Nat) (x : MS)  (n0 : 0 ≤ x.1 31) (n1 : x.1 31 ≤ 301) (s0 : 0 ≤ x.2 1 9) (s1 : x.2 1 9 ≤ 60) (hw : rwR x) (hm : ∀ k : Nat, k < 301 → iR (x.2 32 k)) (hr9 : ∀ k : Nat, k < 18060 → iR (x.2 33 k)) : Met l yX12_isMade wsX12_isMade ({ frames := 0, cells := 0, slots := 0, locals := 0 }) (mPc dC dI h ad cI cJ cZ sz x [.ref h]) (va_Qi (fun (r : Int32) (u : MS) => r = iI (F_m_isMade (x)).1 ∧ u = (F_m_isMade (x)).2) (mAt dC dI h ad cI cJ cZ (va_A (mW h ad cI cJ cZ (x)) sz)) (va_A (mW h ad cI cJ cZ (x)) sz)) 0 0 (va_A (mW h ad cI cJ cZ (x)) sz) := by
  refine Met.ofW (cc := cX12_isMade) (maxL := 4) (ret := (some .boolean)) (by decide) rfl ?_
  intro p e s m args below meth c s₁ B hml hv
  obtain ⟨rfl, hsz, hP, hK, hD0⟩ := hv
  have hx := B.exec
  have hb := B.bytes
  have hr := B.returns
  have hts := atoms_spec (ws := wsX12_isMade) B.pre
  have hown : s.vm.findClass RX12 = some m.cls := findClass_of_methodNamed B.named
  have hlocks := B.notSynchronized
  have hin : ∀ w ∈ u_ws RX12 TX12 34, w ∈ wsX12_isMade := by decide +kernel
  subst hsz
  have hD := hD0.self (sz := s.heap.size)
  generalize hAe : va_A (mW h ad cI cJ cZ (x)) s.heap.size = A at hD ⊢
  have hA : ∀ q : Nat, s.heap.size ≤ q → A q := fun q h => by rw [← hAe]; exact Or.inr h
  have hS : va_S A s.heap s.heap [] := va_S.rf
  have hl := lv_entry ([.ref h]) (n := 4) (Nat.le_of_ble_eq_true rfl)
  rw [lg_entry_eq]
  generalize (lg_sl ([.ref h]) ++ List.replicate (4 - (lg_sl ([.ref h])).length) Slot.unset).toArray = ls at hl ⊢
  have hl : lv_has ls 4 [(0, .ref (h))] := hl
  have e9 : ((x).2 1) ((9 : Int)).toNat = x.2 1 9 := rfl
  have L : ∀ n : Nat, (∀ (k : Int), (0 ≤ k) → (k ≤ 301) → ((301 - k) * 100 + 100 < n) → F_m_isMade_s n 0 x k 0 0 = F_m_isMade (x) → ∀ (H : Heap) (locs : List Loc) (ls : Array Slot), va_P (dC, dI) vwCl (mW h ad cI cJ cZ (x)) H → va_D A (mW h ad cI cJ cZ (x)) → va_S A s.heap H locs → lv_has ls 4 [(0, .ref (h)), (1, .int (iI (k)))] → W p l e (headSpec wsX12_isMade ({ frames := 0, cells := 0, slots := 0, locals := 0 })).room s m ([.ref h] : List Value).toArray below meth c H locs 0 0 (MQ below (va_Qi (fun (r : Int32) (u : MS) => r = iI (F_m_isMade (x)).1 ∧ u = (F_m_isMade (x)).2) (mAt dC dI h ad cI cJ cZ A) A) ([.ref h] : List Value).toArray s 0 0 A) (F0 m 2 ls [])) ∧ (∀ (k : Int) (q : Int) (i : Int), (0 ≤ k) → (k < 301) → (q = 0 ∨ q = 1) → (0 ≤ i) → (i ≤ 60) → ((300 - k) * 100 + 100 + (60 - i) + 10 < n) → F_m_isMade_s n 1 x k q i = F_m_isMade (x) → ∀ (H : Heap) (locs : List Loc) (ls : Array Slot), va_P (dC, dI) vwCl (mW h ad cI cJ cZ (x)) H → va_D A (mW h ad cI cJ cZ (x)) → va_S A s.heap H locs → lv_has ls 4 [(0, .ref (h)), (1, .int (iI (k))), (2, .int (iI (q))), (3, .int (iI (i)))] → W p l e (headSpec wsX12_isMade ({ frames := 0, cells := 0, slots := 0, locals := 0 })).room s m ([.ref h] : List Value).toArray below meth c H locs 0 0 (MQ below (va_Qi (fun (r : Int32) (u : MS) => r = iI (F_m_isMade (x)).1 ∧ u = (F_m_isMade (x)).2) (mAt dC dI h ad cI cJ cZ A) A) ([.ref h] : List Value).toArray s 0 0 A) (F0 m 34 ls [])) := by
    intro n
    induction n with
    | zero =>
      refine ⟨?_, ?_⟩
      · intro k k0 k1 fu hres
        exact absurd fu (by omega)
      · intro k q i k0 k1 q01 i0 i1 fu hres
        exact absurd fu (by omega)
    | succ n ih =>
      refine ⟨?_, ?_⟩
      · intro k k0 k1 fu hres H locs ls hP hD hS hl
        rw [F_m_isMade_e0] at hres
        have k9 : k < 301 → iR ((x.2 32) k.toNat) := fun hk => hm k.toNat (by omega)
        refine lv_iload_n hx hb dX12_isMade_2 rfl (lv_at hl 1 rfl) ?_
        refine lv_aload_n hx hb dX12_isMade_3 rfl (lv_at hl 0 rfl) ?_
        refine va_get (D := (dC, dI)) (ci := 12) (v := .int (iI ((x).1 31))) (C := RX12) (T := TX12) (N := 34) hx hb hts hin hown hK hP 0 rfl rfl 31 (by decide) (hts (.fieldLink RX12 263 "LikeWordsModel" "made" "I") (by decide +kernel)) (fun _ h9 => h9) rfl dX12_isMade_4 ?_
        refine wi_icmp_ge (tgt := 97) hx hb (by first | assumption | (unfold iR; omega) | exact F_R01 (by assumption)) (by first | assumption | (unfold iR; omega) | exact F_R01 (by assumption)) dX12_isMade_7 (by decide) (fun c_7 => ?_) (fun c_7 => ?_)
        · skip
          rw [if_pos c_7] at hres
          refine lv_iconst (v := iI (0 : Int)) hx hb dX12_isMade_97 (by decide) ?_
          exact W.zret (v := iI ((0 : Int))) hx hb hr (by rfl) (fun t ht hW => ⟨⟨iI ((0 : Int)), x, rfl, ⟨(by have h9 := congrArg (fun z : Int × MS => iI z.1) hres; exact h9), (by have h9 := congrArg (fun z : Int × MS => z.2) hres; exact h9)⟩, by rw [ht]; exact hP, va_K.moved hW.alike hK, hD⟩, hS.F ht⟩) hS.2.2 dX12_isMade_98
        · skip
          rw [if_neg c_7] at hres
          refine lv_aload_n hx hb dX12_isMade_10 rfl (lv_at hl 0 rfl) ?_
          refine va_get (D := (dC, dI)) (ci := 12) (v := .ref (ad 32)) (C := RX12) (T := TX12) (N := 34) hx hb hts hin hown hK hP 0 rfl rfl 32 (by decide) (hts (.fieldLink RX12 85 "LikeWordsModel" "madeSize" "[I") (by decide +kernel)) (fun _ h9 => h9) rfl dX12_isMade_11 ?_
          refine lv_iload_n hx hb dX12_isMade_14 rfl (lv_at hl 1 rfl) ?_
          refine wi_iald (f := (x).2 32) hx hb hK hP 23 0 rfl rfl (i := k) (by omega) (by omega) (by decide) dX12_isMade_15 ?_
          refine lv_aload_n hx hb dX12_isMade_16 rfl (lv_at hl 0 rfl) ?_
          refine va_get (D := (dC, dI)) (ci := 12) (v := .ref (ad 1)) (C := RX12) (T := TX12) (N := 34) hx hb hts hin hown hK hP 0 rfl rfl 1 (by decide) (hts (.fieldLink RX12 13 "LikeWordsModel" "size" "[I") (by decide +kernel)) (fun _ h9 => h9) rfl dX12_isMade_17 ?_
          refine lv_bipush (v := iI (9 : Int)) hx hb dX12_isMade_20 (by decide) ?_
          refine wi_iald (f := (x).2 1) hx hb hK hP 1 0 rfl rfl (i := (9 : Int)) (by omega) (by omega) (by decide) dX12_isMade_22 ?_
          refine wi_icmp_ne (tgt := 30) hx hb (by first | exact k9 (by omega) | (unfold iR; omega)) (by first | exact k9 (by omega) | (unfold iR; omega)) dX12_isMade_23 (by decide) (fun c_23 => ?_) (fun c_23 => ?_)
          · skip
            rw [if_neg c_23] at hres
            refine lv_iconst (v := iI (0 : Int)) hx hb dX12_isMade_30 (by decide) ?_
            refine lv_istore_n (lv' := [(2, .int (iI ((0 : Int)))), (0, .ref (h)), (1, .int (iI (k)))]) hx hb dX12_isMade_31 rfl hl (by decide) rfl (fun ls hl => ?_)
            refine lv_iconst (v := iI (0 : Int)) hx hb dX12_isMade_32 (by decide) ?_
            refine lv_istore_n (lv' := [(3, .int (iI ((0 : Int)))), (2, .int (iI ((0 : Int)))), (0, .ref (h)), (1, .int (iI (k)))]) hx hb dX12_isMade_33 rfl hl (by decide) rfl (fun ls hl => ?_)
            exact ih.2  (k) ((0 : Int)) ((0 : Int)) (by omega) (by omega) (by omega) (by omega) (by omega) (by omega) hres _ _ ls hP hD hS (lv_sub hl [2, 3, 1, 0] rfl)
          · skip
            rw [if_pos c_23] at hres
            refine lv_iconst (v := iI (1 : Int)) hx hb dX12_isMade_26 (by decide) ?_
            refine lv_goto (tgt := 31) hx hb dX12_isMade_27 (by decide) ?_
            refine lv_istore_n (lv' := [(2, .int (iI ((1 : Int)))), (0, .ref (h)), (1, .int (iI (k)))]) hx hb dX12_isMade_31 rfl hl (by decide) rfl (fun ls hl => ?_)
            refine lv_iconst (v := iI (0 : Int)) hx hb dX12_isMade_32 (by decide) ?_
            refine lv_istore_n (lv' := [(3, .int (iI ((0 : Int)))), (2, .int (iI ((1 : Int)))), (0, .ref (h)), (1, .int (iI (k)))]) hx hb dX12_isMade_33 rfl hl (by decide) rfl (fun ls hl => ?_)
            exact ih.2  (k) ((1 : Int)) ((0 : Int)) (by omega) (by omega) (by omega) (by omega) (by omega) (by omega) hres _ _ ls hP hD hS (lv_sub hl [2, 3, 1, 0] rfl)
      · intro k q i k0 k1 q01 i0 i1 fu hres H locs ls hP hD hS hl
        rw [F_m_isMade_e1] at hres
        have k2 : i < 60 → iR ((x.2 33) ((60 * k) + i).toNat) := fun hi => hr9 ((60 * k) + i).toNat (by omega)
        have k3 : i < 60 → iR ((x.2 2) (1152 + i).toNat) := fun hi => by have := hw (1152 + i).toNat (by omega); unfold iR; omega
        refine lv_iload_n hx hb dX12_isMade_34 rfl (lv_at hl 3 rfl) ?_
        refine lv_aload_n hx hb dX12_isMade_35 rfl (lv_at hl 0 rfl) ?_
        refine va_get (D := (dC, dI)) (ci := 12) (v := .ref (ad 1)) (C := RX12) (T := TX12) (N := 34) hx hb hts hin hown hK hP 0 rfl rfl 1 (by decide) (hts (.fieldLink RX12 13 "LikeWordsModel" "size" "[I") (by decide +kernel)) (fun _ h9 => h9) rfl dX12_isMade_36 ?_
        refine lv_bipush (v := iI (9 : Int)) hx hb dX12_isMade_39 (by decide) ?_
        refine wi_iald (f := (x).2 1) hx hb hK hP 1 0 rfl rfl (i := (9 : Int)) (by omega) (by omega) (by decide) dX12_isMade_41 ?_
        refine wi_icmp_ge (tgt := 85) hx hb (by first | assumption | (unfold iR; omega) | exact F_R01 (by assumption)) (by first | assumption | (unfold iR; omega) | exact F_R01 (by assumption)) dX12_isMade_42 (by decide) (fun c_42 => ?_) (fun c_42 => ?_)
        · skip
          rw [if_pos c_42] at hres
          refine lv_iload_n hx hb dX12_isMade_85 rfl (lv_at hl 2 rfl) ?_
          refine wi_if_eq (tgt := 91) hx hb (by first | assumption | (unfold iR; omega) | exact F_R01 (by assumption)) dX12_isMade_86 (by decide) (fun c_86 => ?_) (fun c_86 => ?_)
          · skip
            rw [if_pos c_86] at hres
            refine lv_iinc (v := iI ((k) + (1 : Int))) (lv' := [(1, .int (iI ((k) + (1 : Int)))), (0, .ref (h)), (2, .int (iI (q))), (3, .int (iI (i)))]) hx hb dX12_isMade_91 hl (k := 1) rfl (iI_add _ _) (by decide) rfl (fun ls hl => ?_)
            refine lv_goto (tgt := 2) hx hb dX12_isMade_94 (by decide) ?_
            exact ih.1  ((k) + (1 : Int)) (by omega) (by omega) (by omega) hres _ _ ls hP hD hS (lv_sub hl [1, 0] rfl)
          · skip
            rw [if_neg c_86] at hres
            refine lv_iconst (v := iI (1 : Int)) hx hb dX12_isMade_89 (by decide) ?_
            exact W.zret (v := iI ((1 : Int))) hx hb hr (by rfl) (fun t ht hW => ⟨⟨iI ((1 : Int)), x, rfl, ⟨(by have h9 := congrArg (fun z : Int × MS => iI z.1) hres; exact h9), (by have h9 := congrArg (fun z : Int × MS => z.2) hres; exact h9)⟩, by rw [ht]; exact hP, va_K.moved hW.alike hK, hD⟩, hS.F ht⟩) hS.2.2 dX12_isMade_90
        · skip
          rw [if_neg c_42] at hres
          refine lv_iload_n hx hb dX12_isMade_45 rfl (lv_at hl 2 rfl) ?_
          refine wi_if_eq (tgt := 85) hx hb (by first | assumption | (unfold iR; omega) | exact F_R01 (by assumption)) dX12_isMade_46 (by decide) (fun c_46 => ?_) (fun c_46 => ?_)
          · skip
            rw [if_pos c_46] at hres
            refine lv_iload_n hx hb dX12_isMade_85 rfl (lv_at hl 2 rfl) ?_
            refine wi_if_eq (tgt := 91) hx hb (by first | assumption | (unfold iR; omega) | exact F_R01 (by assumption)) dX12_isMade_86 (by decide) (fun c_86 => ?_) (fun c_86 => ?_)
            · skip
              rw [if_pos c_86] at hres
              refine lv_iinc (v := iI ((k) + (1 : Int))) (lv' := [(1, .int (iI ((k) + (1 : Int)))), (0, .ref (h)), (2, .int (iI (q))), (3, .int (iI (i)))]) hx hb dX12_isMade_91 hl (k := 1) rfl (iI_add _ _) (by decide) rfl (fun ls hl => ?_)
              refine lv_goto (tgt := 2) hx hb dX12_isMade_94 (by decide) ?_
              exact ih.1  ((k) + (1 : Int)) (by omega) (by omega) (by omega) hres _ _ ls hP hD hS (lv_sub hl [1, 0] rfl)
            · skip
              rw [if_neg c_86] at hres
              refine lv_iconst (v := iI (1 : Int)) hx hb dX12_isMade_89 (by decide) ?_
              exact W.zret (v := iI ((1 : Int))) hx hb hr (by rfl) (fun t ht hW => ⟨⟨iI ((1 : Int)), x, rfl, ⟨(by have h9 := congrArg (fun z : Int × MS => iI z.1) hres; exact h9), (by have h9 := congrArg (fun z : Int × MS => z.2) hres; exact h9)⟩, by rw [ht]; exact hP, va_K.moved hW.alike hK, hD⟩, hS.F ht⟩) hS.2.2 dX12_isMade_90
          · skip
            rw [if_neg c_46] at hres
            refine lv_aload_n hx hb dX12_isMade_49 rfl (lv_at hl 0 rfl) ?_
            refine va_get (D := (dC, dI)) (ci := 12) (v := .ref (ad 33)) (C := RX12) (T := TX12) (N := 34) hx hb hts hin hown hK hP 0 rfl rfl 33 (by decide) (hts (.fieldLink RX12 88 "LikeWordsModel" "madeRow" "[I") (by decide +kernel)) (fun _ h9 => h9) rfl dX12_isMade_50 ?_
            refine lv_bipush (v := iI (60 : Int)) hx hb dX12_isMade_53 (by decide) ?_
            refine lv_iload_n hx hb dX12_isMade_55 rfl (lv_at hl 1 rfl) ?_
            refine wi_imul hx hb dX12_isMade_56 ?_
            refine lv_iload_n hx hb dX12_isMade_57 rfl (lv_at hl 3 rfl) ?_
            refine wi_iadd hx hb dX12_isMade_58 ?_
            refine wi_iald (f := (x).2 33) hx hb hK hP 24 0 rfl rfl (i := (((60 : Int)) * (k)) + (i)) (by omega) (by omega) (by decide) dX12_isMade_59 ?_
            refine lv_aload_n hx hb dX12_isMade_60 rfl (lv_at hl 0 rfl) ?_
            refine va_get (D := (dC, dI)) (ci := 12) (v := .ref (ad 2)) (C := RX12) (T := TX12) (N := 34) hx hb hts hin hown hK hP 0 rfl rfl 2 (by decide) (hts (.fieldLink RX12 17 "LikeWordsModel" "row" "[I") (by decide +kernel)) (fun _ h9 => h9) rfl dX12_isMade_61 ?_
            refine lv_sipush (v := iI (1152 : Int)) hx hb dX12_isMade_64 (by decide) ?_
            refine lv_iload_n hx hb dX12_isMade_67 rfl (lv_at hl 3 rfl) ?_
            refine wi_iadd hx hb dX12_isMade_68 ?_
            refine wi_iald (f := (x).2 2) hx hb hK hP 2 0 rfl rfl (i := ((1152 : Int)) + (i)) (by omega) (by omega) (by decide) dX12_isMade_69 ?_
            refine wi_icmp_ne (tgt := 77) hx hb (by first | exact k2 (by omega) | exact k3 (by omega)) (by first | exact k2 (by omega) | exact k3 (by omega)) dX12_isMade_70 (by decide) (fun c_70 => ?_) (fun c_70 => ?_)
            · skip
              rw [if_neg c_70] at hres
              refine lv_iconst (v := iI (0 : Int)) hx hb dX12_isMade_77 (by decide) ?_
              refine lv_istore_n (lv' := [(2, .int (iI ((0 : Int)))), (0, .ref (h)), (1, .int (iI (k))), (3, .int (iI (i)))]) hx hb dX12_isMade_78 rfl hl (by decide) rfl (fun ls hl => ?_)
              refine lv_iinc (v := iI ((i) + (1 : Int))) (lv' := [(3, .int (iI ((i) + (1 : Int)))), (2, .int (iI ((0 : Int)))), (0, .ref (h)), (1, .int (iI (k)))]) hx hb dX12_isMade_79 hl (k := 3) rfl (iI_add _ _) (by decide) rfl (fun ls hl => ?_)
              refine lv_goto (tgt := 34) hx hb dX12_isMade_82 (by decide) ?_
              exact ih.2  (k) ((0 : Int)) ((i) + (1 : Int)) (by omega) (by omega) (by omega) (by omega) (by omega) (by omega) hres _ _ ls hP hD hS (lv_sub hl [2, 3, 1, 0] rfl)
            · skip
              rw [if_pos c_70] at hres
              refine lv_iconst (v := iI (1 : Int)) hx hb dX12_isMade_73 (by decide) ?_
              refine lv_goto (tgt := 78) hx hb dX12_isMade_74 (by decide) ?_
              refine lv_istore_n (lv' := [(2, .int (iI ((1 : Int)))), (0, .ref (h)), (1, .int (iI (k))), (3, .int (iI (i)))]) hx hb dX12_isMade_78 rfl hl (by decide) rfl (fun ls hl => ?_)
              refine lv_iinc (v := iI ((i) + (1 : Int))) (lv' := [(3, .int (iI ((i) + (1 : Int)))), (2, .int (iI ((1 : Int)))), (0, .ref (h)), (1, .int (iI (k)))]) hx hb dX12_isMade_79 hl (k := 3) rfl (iI_add _ _) (by decide) rfl (fun ls hl => ?_)
              refine lv_goto (tgt := 34) hx hb dX12_isMade_82 (by decide) ?_
              exact ih.2  (k) ((1 : Int)) ((i) + (1 : Int)) (by omega) (by omega) (by omega) (by omega) (by omega) (by omega) hres _ _ ls hP hD hS (lv_sub hl [2, 3, 1, 0] rfl)
  have key : ∀ (H : Heap) (locs : List Loc), va_P (dC, dI) vwCl (mW h ad cI cJ cZ (x)) H → va_S A s.heap H locs → W p l e (headSpec wsX12_isMade ({ frames := 0, cells := 0, slots := 0, locals := 0 })).room s m ([.ref h] : List Value).toArray below meth c H locs 0 0 (MQ below (va_Qi (fun (r : Int32) (u : MS) => r = iI (F_m_isMade (x)).1 ∧ u = (F_m_isMade (x)).2) (mAt dC dI h ad cI cJ cZ A) A) ([.ref h] : List Value).toArray s 0 0 A) (F0 m 0 ls []) := by
    intro H locs hP hS
    have hres : F_m_isMade_s 40000 0 (x) ((0 : Int)) (0) (0) = F_m_isMade (x) := rfl
    refine lv_iconst (v := iI (0 : Int)) hx hb dX12_isMade_0 (by decide) ?_
    refine lv_istore_n (lv' := [(1, .int (iI ((0 : Int)))), (0, .ref (h))]) hx hb dX12_isMade_1 rfl hl (by decide) rfl (fun ls hl => ?_)
    exact (L (40000)).1  ((0 : Int)) (by omega) (by omega) (by omega) hres _ _ ls hP hD hS (lv_sub hl [1, 0] rfl)
  exact key _ _ hP hS
theorem F_m_isMade_sfr : ∀ n : Nat, (∀ (y : MS) (v0 : Int) (v1 : Int) (v2 : Int), same [] [] y (F_m_isMade_s n 0 y v0 v1 v2).2) ∧ (∀ (y : MS) (v0 : Int) (v1 : Int) (v2 : Int), same [] [] y (F_m_isMade_s n 1 y v0 v1 v2).2) := by
  intro n
  induction n with
  | zero => exact ⟨fun y _ _ _ => sm_rf _ _ _, fun y _ _ _ => sm_rf _ _ _⟩
  | succ n ih =>
    refine ⟨?_, ?_⟩
    · intro y k q0 q1
      rw [F_m_isMade_e0]
      by_cases hc : ((y).1 31) ≤ (k)
      · rw [if_pos hc]
        exact (sm_rf _ _ _)
      · rw [if_neg hc]
        by_cases hc : (((y).2 32) (k).toNat) = (((y).2 1) ((9 : Int)).toNat)
        · rw [if_pos hc]
          exact sm_tr ((sm_rf _ _ _)) (ih.2 (y) (k) ((1 : Int)) ((0 : Int)))
        · rw [if_neg hc]
          exact sm_tr ((sm_rf _ _ _)) (ih.2 (y) (k) ((0 : Int)) ((0 : Int)))
    · intro y k q i
      rw [F_m_isMade_e1]
      by_cases hc : (((y).2 1) ((9 : Int)).toNat) ≤ (i)
      · rw [if_pos hc]
        by_cases hc : (q) = (0)
        · rw [if_pos hc]
          exact sm_tr ((sm_rf _ _ _)) (ih.1 (y) ((k) + (1 : Int)) (0) (0))
        · rw [if_neg hc]
          exact (sm_rf _ _ _)
      · rw [if_neg hc]
        by_cases hc : (q) = (0)
        · rw [if_pos hc]
          by_cases hc : (q) = (0)
          · rw [if_pos hc]
            exact sm_tr ((sm_rf _ _ _)) (ih.1 (y) ((k) + (1 : Int)) (0) (0))
          · rw [if_neg hc]
            exact (sm_rf _ _ _)
        · rw [if_neg hc]
          by_cases hc : (((y).2 33) ((((60 : Int)) * (k)) + (i)).toNat) = (((y).2 2) (((1152 : Int)) + (i)).toNat)
          · rw [if_pos hc]
            exact sm_tr ((sm_rf _ _ _)) (ih.2 (y) (k) ((1 : Int)) ((i) + (1 : Int)))
          · rw [if_neg hc]
            exact sm_tr ((sm_rf _ _ _)) (ih.2 (y) (k) ((0 : Int)) ((i) + (1 : Int)))
theorem F_m_isMade_fr (x : MS)  : same [] [] x (F_m_isMade (x)).2 := by
  unfold F_m_isMade
  exact sm_tr ((sm_rf _ _ _)) ((F_m_isMade_sfr 40000).1 (x) ((0 : Int)) (0) (0))
theorem F_m_isMade_2 (x : MS)  : (F_m_isMade (x)).2 = x := sm_nil (F_m_isMade_fr x)
