-- deps: A0.j
theorem nd_3 {x : MS} {a c0 : Int} (ha : 0 ≤ a ∧ a ≤ 7) (hc : 0 ≤ c0 ∧ c0 ≤ 7) (p : rcQ x a.toNat ((9 : Int)).toNat (F_m_reduced x a ((9 : Int)))) (h : (F_m_reduced x a ((9 : Int))).1 < 0) : rdQ x a c0 ((F_m_reduced x a ((9 : Int))).1, (F_m_reduced x a ((9 : Int))).2) := by
  rcases p with ⟨e, s⟩ | ⟨e, _⟩
  · exact Or.inr ⟨⟨ha, hc⟩, Or.inl ⟨s, e⟩⟩
  · exfalso; omega
theorem nd_5 {x : MS} {a c0 : Int} {u : List Int} (ha : 0 ≤ a ∧ a ≤ 7) (hc : 0 ≤ c0 ∧ c0 ≤ 7) (s0 : ¬ stM x a.toNat) (s1 : rcS x (F_m_reduced x a ((9 : Int))).2 ((9 : Int)).toNat) (k : slK x (F_m_reduced x a ((9 : Int))).2 ((9 : Int)).toNat u) (rs : resM x a.toNat u) : rdQ x a c0 ((F_m_copy (F_m_reduced x a ((9 : Int))).2 ((9 : Int)) c0).2.2 1 c0.toNat, (F_m_copy (F_m_reduced x a ((9 : Int))).2 ((9 : Int)) c0).2) := by
  have C := rdS_c (c := c0.toNat) s1 k (by omega)
  rw [show (c0.toNat : Int) = c0 by omega] at C
  exact Or.inr ⟨⟨ha, hc⟩, Or.inr ⟨s0, u, rs, C.2.2.2.2.1.1, C⟩⟩
def F_m_reduce (x : MS) (a : Int) (c0 : Int) : Int × MS := (if ((F_m_isSlot (x) (a)).1) = (0) then ((-1 : Int), x) else (if ((F_m_isSlot (x) (c0)).1) = (0) then ((-1 : Int), x) else (if (0) ≤ ((F_m_reduced (x) (a) ((9 : Int))).1) then ((((F_m_copy ((F_m_reduced (x) (a) ((9 : Int))).2) ((9 : Int)) (c0)).2).2 1) (c0).toNat, (F_m_copy ((F_m_reduced (x) (a) ((9 : Int))).2) ((9 : Int)) (c0)).2) else ((F_m_reduced (x) (a) ((9 : Int))).1, (F_m_reduced (x) (a) ((9 : Int))).2))))
set_option maxHeartbeats 4000000 in
set_option maxRecDepth 100000 in
/-- reduce -/
theorem c_m_reduce (l : Launch) (dC : Nat → ClassId) (dI : Nat → Nat → Nat) (h : Nat) (ad : Nat → Nat) (cI cJ cZ : ClassId) (sz : Nat) (x : MS) (a : Int) (c0 : Int) (ra : iR a) (rc : iR c0) (lt : 1 ≤ x.1 0 ∧ x.1 0 ≤ 4) (sn : iR (x.1 6)) (ic : x.1 27 = 0 ∨ x.1 27 = 1) (hrw : rwR x) (hs : ∀ k : Nat, k < 9 → slH x k) (mz : ¬ x.1 6 = -9 → ¬ x.1 27 = 0 → mzH x) (sh : ¬ x.1 6 = -9 → snH x) : Met l yX12_reduce wsX12_reduce ({ frames := 3, cells := 0, slots := 0, locals := 73 }) (mPc dC dI h ad cI cJ cZ sz x [.ref h, .int (iI a), .int (iI c0)]) (va_Qi (fun (r : Int32) (u : MS) => r = iI (F_m_reduce (x) (a) (c0)).1 ∧ u = (F_m_reduce (x) (a) (c0)).2) (mAt dC dI h ad cI cJ cZ (va_A (mW h ad cI cJ cZ (x)) sz)) (va_A (mW h ad cI cJ cZ (x)) sz)) 0 0 (va_A (mW h ad cI cJ cZ (x)) sz) := by
  refine Met.ofW (cc := cX12_reduce) (maxL := 4) (ret := (some .int)) (by decide) rfl ?_
  intro p e s m args below meth c s₁ B hml hv
  obtain ⟨rfl, hsz, hP, hK, hD0⟩ := hv
  have hx := B.exec
  have hb := B.bytes
  have hr := B.returns
  have hts := atoms_spec (ws := wsX12_reduce) B.pre
  have hown : s.vm.findClass RX12 = some m.cls := findClass_of_methodNamed B.named
  have hlocks := B.notSynchronized
  have hin : ∀ w ∈ u_ws RX12 TX12 34, w ∈ wsX12_reduce := by decide +kernel
  subst hsz
  have hD := hD0.self (sz := s.heap.size)
  generalize hAe : va_A (mW h ad cI cJ cZ (x)) s.heap.size = A at hD ⊢
  have hA : ∀ q : Nat, s.heap.size ≤ q → A q := fun q h => by rw [← hAe]; exact Or.inr h
  have hS : va_S A s.heap s.heap [] := va_S.rf
  have hl := lv_entry ([.ref h, .int (iI a), .int (iI c0)]) (n := 4) (Nat.le_of_ble_eq_true rfl)
  rw [lg_entry_eq]
  generalize (lg_sl ([.ref h, .int (iI a), .int (iI c0)]) ++ List.replicate (4 - (lg_sl ([.ref h, .int (iI a), .int (iI c0)])).length) Slot.unset).toArray = ls at hl ⊢
  have hl : lv_has ls 4 [(0, .ref (h)), (1, .int (iI (a))), (2, .int (iI (c0)))] := hl
  have key : ∀ (H : Heap) (locs : List Loc), va_P (dC, dI) vwCl (mW h ad cI cJ cZ (x)) H → va_S A s.heap H locs → W p l e (headSpec wsX12_reduce ({ frames := 3, cells := 0, slots := 0, locals := 73 })).room s m ([.ref h, .int (iI a), .int (iI c0)] : List Value).toArray below meth c H locs 0 0 (MQ below (va_Qi (fun (r : Int32) (u : MS) => r = iI (F_m_reduce (x) (a) (c0)).1 ∧ u = (F_m_reduce (x) (a) (c0)).2) (mAt dC dI h ad cI cJ cZ A) A) ([.ref h, .int (iI a), .int (iI c0)] : List Value).toArray s 0 0 A) (F0 m 0 ls []) := by
    intro H locs hP hS
    have hres : (if ((F_m_isSlot (x) (a)).1) = (0) then ((-1 : Int), x) else (if ((F_m_isSlot (x) (c0)).1) = (0) then ((-1 : Int), x) else (if (0) ≤ ((F_m_reduced (x) (a) ((9 : Int))).1) then ((((F_m_copy ((F_m_reduced (x) (a) ((9 : Int))).2) ((9 : Int)) (c0)).2).2 1) (c0).toNat, (F_m_copy ((F_m_reduced (x) (a) ((9 : Int))).2) ((9 : Int)) (c0)).2) else ((F_m_reduced (x) (a) ((9 : Int))).1, (F_m_reduced (x) (a) ((9 : Int))).2)))) = F_m_reduce (x) (a) (c0) := rfl
    refine lv_iload_n hx hb dX12_reduce_0 rfl (lv_at hl 1 rfl) ?_
    have hFc : ∀ q, va_A (mW h ad cI cJ cZ (x)) H.size q → A q := fun q hq => Or.elim hq (fun ⟨k, e, hk⟩ => hD.2 k (q, e) hk) (fun hk => hA q (Nat.le_trans hS.1 hk))
    refine va_calli (va_runS (As := [.int (iI (a))]) (rest := []) ⟨hx, hb, hml, hown, hts⟩ (c_m_isSlot l dC dI h ad cI cJ cZ H.size (x) (a) (by first | assumption | exact iR_L (by assumption) | exact ⟨by decide, by decide⟩ | omega | (unfold iR; omega) | (unfold iRL; omega))) (va_cwS 1 hts gX12_reduce_X12_isSlot rfl rfl rfl (by decide +kernel) ⟨Nat.le_of_ble_eq_true rfl, Nat.le_of_ble_eq_true rfl⟩) ⟨fun a U g mk q => by obtain ⟨q0, q1, qP, qK, qD⟩ := q; exact ⟨q0, q1, qP, va_K.moved (u := U) (U := U.calling g mk a) (Vm.Alike.refl U.vm) qK, qD⟩, fun U hU hW => ⟨rfl, by rw [hU], by rw [hU]; exact hP, va_K.moved hW.alike hK, hD.weaken (fun _ _ _ _ => trivial)⟩⟩ rfl rfl hl.1 rfl (lv_room (Nat.le_of_ble_eq_true rfl)) dX12_reduce_1 ⟨Nat.le_of_ble_eq_true rfl, Nat.le_of_ble_eq_true rfl⟩) hS (fun q _ h => hFc q h) hFc (fun r9 u9 t H1 locs ht hvm hw hB hz1 hk1 hS => ?_)
    obtain ⟨hP1, hK1, hD1⟩ := hB
    rw [ht] at hP1
    obtain ⟨hw1, hw2⟩ := hw
    rw [hw2] at hP1 hD1
    rw [hw1]
    rw [F_m_isSlot_2] at hP1 hD1
    have hD2 := hD1.weaken (B := A) (fun _ q _ h => hFc q.1 h)
    have hP := hP1
    have hD := hD2
    generalize H1 = H at hP hS ⊢
    refine wi_if_eq (tgt := 14) hx hb (by rw [F_m_isSlot_1]; exact F_R01 (F_in_01 _ _ _)) dX12_reduce_4 (by decide) (fun c_4 => ?_) (fun c_4 => ?_)
    · skip
      rw [if_pos c_4] at hres
      refine lv_iconst (v := iI (-1 : Int)) hx hb dX12_reduce_14 (by decide) ?_
      exact W.iret (v := iI ((-1 : Int))) hx hb hr (fun t ht hW => ⟨⟨iI ((-1 : Int)), x, rfl, ⟨(by have h9 := congrArg (fun z : Int × MS => iI z.1) hres; exact h9), (by have h9 := congrArg (fun z : Int × MS => z.2) hres; exact h9)⟩, by rw [ht]; exact hP, va_K.moved hW.alike hK, hD⟩, hS.F ht⟩) hS.2.2 dX12_reduce_15
    · skip
      rw [if_neg c_4] at hres
      refine lv_iload_n hx hb dX12_reduce_7 rfl (lv_at hl 2 rfl) ?_
      have hFc : ∀ q, va_A (mW h ad cI cJ cZ (x)) H.size q → A q := fun q hq => Or.elim hq (fun ⟨k, e, hk⟩ => hD.2 k (q, e) hk) (fun hk => hA q (Nat.le_trans hS.1 hk))
      refine va_calli (va_runS (As := [.int (iI (c0))]) (rest := []) ⟨hx, hb, hml, hown, hts⟩ (c_m_isSlot l dC dI h ad cI cJ cZ H.size (x) (c0) (by first | assumption | exact iR_L (by assumption) | exact ⟨by decide, by decide⟩ | omega | (unfold iR; omega) | (unfold iRL; omega))) (va_cwS 1 hts gX12_reduce_X12_isSlot rfl rfl rfl (by decide +kernel) ⟨Nat.le_of_ble_eq_true rfl, Nat.le_of_ble_eq_true rfl⟩) ⟨fun a U g mk q => by obtain ⟨q0, q1, qP, qK, qD⟩ := q; exact ⟨q0, q1, qP, va_K.moved (u := U) (U := U.calling g mk a) (Vm.Alike.refl U.vm) qK, qD⟩, fun U hU hW => ⟨rfl, by rw [hU], by rw [hU]; exact hP, va_K.moved hW.alike hK, hD.weaken (fun _ _ _ _ => trivial)⟩⟩ rfl rfl hl.1 rfl (lv_room (Nat.le_of_ble_eq_true rfl)) dX12_reduce_8 ⟨Nat.le_of_ble_eq_true rfl, Nat.le_of_ble_eq_true rfl⟩) hS (fun q _ h => hFc q h) hFc (fun r9 u9 t H1 locs ht hvm hw hB hz1 hk1 hS => ?_)
      obtain ⟨hP1, hK1, hD1⟩ := hB
      rw [ht] at hP1
      obtain ⟨hw1, hw2⟩ := hw
      rw [hw2] at hP1 hD1
      rw [hw1]
      rw [F_m_isSlot_2] at hP1 hD1
      have hD2 := hD1.weaken (B := A) (fun _ q _ h => hFc q.1 h)
      have hP := hP1
      have hD := hD2
      generalize H1 = H at hP hS ⊢
      refine wi_if_ne (tgt := 16) hx hb (by rw [F_m_isSlot_1]; exact F_R01 (F_in_01 _ _ _)) dX12_reduce_11 (by decide) (fun c_11 => ?_) (fun c_11 => ?_)
      · skip
        rw [if_neg c_11] at hres
        obtain ⟨a0, a1⟩ := F_in_1 (by rw [← F_m_isSlot_1 x a]; exact c_4)
        obtain ⟨c00, c01⟩ := F_in_1 (by rw [← F_m_isSlot_1 x c0]; exact c_11)
        refine lv_aload_n hx hb dX12_reduce_16 rfl (lv_at hl 0 rfl) ?_
        refine lv_iload_n hx hb dX12_reduce_17 rfl (lv_at hl 1 rfl) ?_
        refine lv_bipush (v := iI (9 : Int)) hx hb dX12_reduce_18 (by decide) ?_
        have hFc : ∀ q, va_A (mW h ad cI cJ cZ (x)) H.size q → A q := fun q hq => Or.elim hq (fun ⟨k, e, hk⟩ => hD.2 k (q, e) hk) (fun hk => hA q (Nat.le_trans hS.1 hk))
        refine va_calli (va_runV (As := [.int (iI (a)), .int (iI ((9 : Int)))]) (rest := []) ⟨hx, hb, hml, hown, hts⟩ (c_m_reduced l dC dI h ad cI cJ cZ H.size (x) (a) ((9 : Int)) (by omega) (by omega) (Or.inl rfl) lt sn ic hrw (hs a.toNat (by omega)) mz sh) (cwV 2 hts gX12_reduce_X12_reduced rfl rfl rfl (by decide +kernel) ⟨Nat.le_of_ble_eq_true rfl, Nat.le_of_ble_eq_true rfl⟩) ⟨fun a U g mk q => by obtain ⟨q0, q1, qP, qK, qD⟩ := q; exact ⟨q0, q1, qP, va_K.moved (u := U) (U := U.calling g mk a) (Vm.Alike.refl U.vm) qK, qD⟩, va_recv hK hP (ci := 12) (q0 := 0) rfl rfl, fun U hU hW => ⟨rfl, by rw [hU], by rw [hU]; exact hP, va_K.moved hW.alike hK, hD.weaken (fun _ _ _ _ => trivial)⟩⟩ rfl rfl hl.1 rfl (lv_room (Nat.le_of_ble_eq_true rfl)) dX12_reduce_20 ⟨Nat.le_of_ble_eq_true rfl, Nat.le_of_ble_eq_true rfl⟩) hS (fun q _ h => hFc q h) hFc (fun r9 u9 t H1 locs ht hvm hw hB hz1 hk1 hS => ?_)
        obtain ⟨hP1, hK1, hD1⟩ := hB
        rw [ht] at hP1
        obtain ⟨hw1, hw2⟩ := hw
        rw [hw2] at hP1 hD1
        rw [hw1]
        have hD2 := hD1.weaken (B := A) (fun _ q _ h => hFc q.1 h)
        have hP := hP1
        have hD := hD2
        generalize H1 = H at hP hS ⊢
        have p1 := F_m_reduced_p x a 9 (by omega) (by omega) (Or.inl rfl) lt sn ic hrw (hs a.toNat (by omega)) mz sh
        have q9 : (F_m_reduced x a ((9 : Int))).1 = -3 ∨ (F_m_reduced x a ((9 : Int))).1 = 0 := by
          rcases p1 with ⟨e, _⟩ | ⟨e, _⟩
          · exact Or.inl (congrArg Prod.fst e)
          · exact Or.inr e
        refine lv_istore_n (lv' := [(3, .int (iI ((F_m_reduced (x) (a) ((9 : Int))).1))), (0, .ref (h)), (1, .int (iI (a))), (2, .int (iI (c0)))]) hx hb dX12_reduce_23 rfl hl (by decide) rfl (fun ls hl => ?_)
        refine lv_iload_n hx hb dX12_reduce_24 rfl (lv_at hl 0 rfl) ?_
        refine wi_if_ge (tgt := 30) hx hb (by unfold iR; omega) dX12_reduce_25 (by decide) (fun c_25 => ?_) (fun c_25 => ?_)
        · skip
          rw [if_pos c_25] at hres
          obtain ⟨e0, s0, s1, u0, k9, rs⟩ := p1.resolve_left (fun h9 => by have h8 := congrArg Prod.fst h9.1; have h7 : (F_m_reduced x a ((9 : Int))).1 = -3 := h8; omega)
          have z9 : (F_m_reduced x a ((9 : Int))).2.2 1 ((9 : Int)).toNat = (u0.length : Int) := k9.1
          have z8 := k9.2.2.2
          refine lv_aload_n hx hb dX12_reduce_30 rfl (lv_at hl 1 rfl) ?_
          refine lv_bipush (v := iI (9 : Int)) hx hb dX12_reduce_31 (by decide) ?_
          refine lv_iload_n hx hb dX12_reduce_33 rfl (lv_at hl 3 rfl) ?_
          have hFc : ∀ q, va_A (mW h ad cI cJ cZ ((F_m_reduced (x) (a) ((9 : Int))).2)) H.size q → A q := fun q hq => Or.elim hq (fun ⟨k, e, hk⟩ => hD.2 k (q, e) hk) (fun hk => hA q (Nat.le_trans hS.1 hk))
          refine va_callv (va_runV (As := [.int (iI ((9 : Int))), .int (iI (c0))]) (rest := []) ⟨hx, hb, hml, hown, hts⟩ (c_m_copy l dC dI h ad cI cJ cZ H.size ((F_m_reduced (x) (a) ((9 : Int))).2) ((9 : Int)) (c0) (by decide) (by decide) (by omega) (by omega) (by omega) (by omega)) (cwV 2 hts gX12_reduce_X12_copy rfl rfl rfl (by decide +kernel) ⟨Nat.le_of_ble_eq_true rfl, Nat.le_of_ble_eq_true rfl⟩) ⟨fun a U g mk q => by obtain ⟨q0, q1, qP, qK, qD⟩ := q; exact ⟨q0, q1, qP, va_K.moved (u := U) (U := U.calling g mk a) (Vm.Alike.refl U.vm) qK, qD⟩, va_recv hK hP (ci := 12) (q0 := 0) rfl rfl, fun U hU hW => ⟨rfl, by rw [hU], by rw [hU]; exact hP, va_K.moved hW.alike hK, hD.weaken (fun _ _ _ _ => trivial)⟩⟩ rfl rfl hl.1 rfl (lv_room (Nat.le_of_ble_eq_true rfl)) dX12_reduce_34 ⟨Nat.le_of_ble_eq_true rfl, Nat.le_of_ble_eq_true rfl⟩) hS (fun q _ h => hFc q h) hFc (fun u9 t H1 locs ht hvm hw hB hz1 hk1 hS => ?_)
          obtain ⟨hP1, hK1, hD1⟩ := hB
          rw [ht] at hP1
          rw [hw] at hP1 hD1
          have hD2 := hD1.weaken (B := A) (fun _ q _ h => hFc q.1 h)
          have hP := hP1
          have hD := hD2
          generalize H1 = H at hP hS ⊢
          refine lv_aload_n hx hb dX12_reduce_37 rfl (lv_at hl 1 rfl) ?_
          refine va_get (D := (dC, dI)) (ci := 12) (v := .ref (ad 1)) (C := RX12) (T := TX12) (N := 34) hx hb hts hin hown hK hP 0 rfl rfl 1 (by decide) (hts (.fieldLink RX12 13 "LikeWordsModel" "size" "[I") (by decide +kernel)) (fun _ h9 => h9) rfl dX12_reduce_38 ?_
          refine lv_iload_n hx hb dX12_reduce_41 rfl (lv_at hl 3 rfl) ?_
          refine wi_iald (f := ((F_m_copy ((F_m_reduced (x) (a) ((9 : Int))).2) ((9 : Int)) (c0)).2).2 1) hx hb hK hP 1 0 rfl rfl (i := c0) (by omega) (by omega) (by decide) dX12_reduce_42 ?_
          exact W.iret (v := iI ((((F_m_copy ((F_m_reduced (x) (a) ((9 : Int))).2) ((9 : Int)) (c0)).2).2 1) (c0).toNat)) hx hb hr (fun t ht hW => ⟨⟨iI ((((F_m_copy ((F_m_reduced (x) (a) ((9 : Int))).2) ((9 : Int)) (c0)).2).2 1) (c0).toNat), (F_m_copy ((F_m_reduced (x) (a) ((9 : Int))).2) ((9 : Int)) (c0)).2, rfl, ⟨(by have h9 := congrArg (fun z : Int × MS => iI z.1) hres; exact h9), (by have h9 := congrArg (fun z : Int × MS => z.2) hres; exact h9)⟩, by rw [ht]; exact hP, va_K.moved hW.alike hK, hD⟩, hS.F ht⟩) hS.2.2 dX12_reduce_43
        · skip
          rw [if_neg c_25] at hres
          refine lv_iload_n hx hb dX12_reduce_28 rfl (lv_at hl 0 rfl) ?_
          exact W.iret (v := iI ((F_m_reduced (x) (a) ((9 : Int))).1)) hx hb hr (fun t ht hW => ⟨⟨iI ((F_m_reduced (x) (a) ((9 : Int))).1), (F_m_reduced (x) (a) ((9 : Int))).2, rfl, ⟨(by have h9 := congrArg (fun z : Int × MS => iI z.1) hres; exact h9), (by have h9 := congrArg (fun z : Int × MS => z.2) hres; exact h9)⟩, by rw [ht]; exact hP, va_K.moved hW.alike hK, hD⟩, hS.F ht⟩) hS.2.2 dX12_reduce_29
      · skip
        rw [if_pos c_11] at hres
        refine lv_iconst (v := iI (-1 : Int)) hx hb dX12_reduce_14 (by decide) ?_
        exact W.iret (v := iI ((-1 : Int))) hx hb hr (fun t ht hW => ⟨⟨iI ((-1 : Int)), x, rfl, ⟨(by have h9 := congrArg (fun z : Int × MS => iI z.1) hres; exact h9), (by have h9 := congrArg (fun z : Int × MS => z.2) hres; exact h9)⟩, by rw [ht]; exact hP, va_K.moved hW.alike hK, hD⟩, hS.F ht⟩) hS.2.2 dX12_reduce_15
  exact key _ _ hP hS
theorem F_m_reduce_fr (x : MS) (a : Int) (c0 : Int) : same [10] [1, 2, 9, 11, 26] x (F_m_reduce (x) (a) (c0)).2 := by
  unfold F_m_reduce
  by_cases hc : ((F_m_isSlot (x) (a)).1) = (0)
  · rw [if_pos hc]
    exact (sm_rf _ _ _)
  · rw [if_neg hc]
    by_cases hc : ((F_m_isSlot (x) (c0)).1) = (0)
    · rw [if_pos hc]
      exact (sm_rf _ _ _)
    · rw [if_neg hc]
      by_cases hc : (0) ≤ ((F_m_reduced (x) (a) ((9 : Int))).1)
      · rw [if_pos hc]
        exact (sm_tr (sm_tr (sm_rf _ _ _) (sm_mono (by decide) (by decide) (F_m_reduced_fr (x) (a) ((9 : Int))))) (sm_mono (by decide) (by decide) (F_m_copy_fr ((F_m_reduced (x) (a) ((9 : Int))).2) ((9 : Int)) (c0))))
      · rw [if_neg hc]
        exact (sm_tr (sm_rf _ _ _) (sm_mono (by decide) (by decide) (F_m_reduced_fr (x) (a) ((9 : Int)))))
set_option maxHeartbeats 4000000 in
theorem F_m_reduce_p (x : MS) (a : Int) (c0 : Int) (ra : iR a) (rc : iR c0) (lt : 1 ≤ x.1 0 ∧ x.1 0 ≤ 4) (sn : iR (x.1 6)) (ic : x.1 27 = 0 ∨ x.1 27 = 1) (hrw : rwR x) (hs : ∀ k : Nat, k < 9 → slH x k) (mz : ¬ x.1 6 = -9 → ¬ x.1 27 = 0 → mzH x) (sh : ¬ x.1 6 = -9 → snH x) : rdQ x a c0 (F_m_reduce (x) (a) (c0)) := by
  unfold F_m_reduce
  by_cases c_4 : ((F_m_isSlot (x) (a)).1) = (0)
  · rw [if_pos c_4]
    exact Or.inl ⟨by first | (have h9 := F_in_00 (by rw [← F_m_isSlot_1 x c0]; exact c_11); omega) | (have h9 := F_in_00 (by rw [← F_m_isSlot_1 x a]; exact c_4); omega), rfl⟩
  · rw [if_neg c_4]
    by_cases c_11 : ((F_m_isSlot (x) (c0)).1) = (0)
    · rw [if_pos c_11]
      exact Or.inl ⟨by first | (have h9 := F_in_00 (by rw [← F_m_isSlot_1 x c0]; exact c_11); omega) | (have h9 := F_in_00 (by rw [← F_m_isSlot_1 x a]; exact c_4); omega), rfl⟩
    · rw [if_neg c_11]
      obtain ⟨a0, a1⟩ := F_in_1 (by rw [← F_m_isSlot_1 x a]; exact c_4)
      obtain ⟨c00, c01⟩ := F_in_1 (by rw [← F_m_isSlot_1 x c0]; exact c_11)
      have p1 := F_m_reduced_p x a 9 (by omega) (by omega) (Or.inl rfl) lt sn ic hrw (hs a.toNat (by omega)) mz sh
      have q9 : (F_m_reduced x a ((9 : Int))).1 = -3 ∨ (F_m_reduced x a ((9 : Int))).1 = 0 := by
        rcases p1 with ⟨e, _⟩ | ⟨e, _⟩
        · exact Or.inl (congrArg Prod.fst e)
        · exact Or.inr e
      by_cases c_25 : (0) ≤ ((F_m_reduced (x) (a) ((9 : Int))).1)
      · rw [if_pos c_25]
        obtain ⟨e0, s0, s1, u0, k9, rs⟩ := p1.resolve_left (fun h9 => by have h8 := congrArg Prod.fst h9.1; have h7 : (F_m_reduced x a ((9 : Int))).1 = -3 := h8; omega)
        have z9 : (F_m_reduced x a ((9 : Int))).2.2 1 ((9 : Int)).toNat = (u0.length : Int) := k9.1
        have z8 := k9.2.2.2
        exact nd_5 (by omega) (by omega) s0 s1 k9 rs
      · rw [if_neg c_25]
        exact nd_3 (by omega) (by omega) p1 (by omega)
theorem lk_3 {x : MS} {a b : Int} (hrw : rwR x) (ha : 0 ≤ a ∧ a ≤ 7) (hb : 0 ≤ b ∧ b ≤ 7) (p : rcQ x a.toNat ((9 : Int)).toNat (F_m_reduced x a ((9 : Int)))) (h : (F_m_reduced x a ((9 : Int))).1 < 0) : lkQ x a b ((F_m_reduced x a ((9 : Int))).1, (F_m_reduced x a ((9 : Int))).2) := by
  rcases p with ⟨e, s⟩ | ⟨e, _⟩
  · have e1 : (F_m_reduced x a ((9 : Int))).1 = -3 := congrArg Prod.fst e
    have e2 : (F_m_reduced x a ((9 : Int))).2 = x := congrArg Prod.snd e
    refine Or.inr ⟨⟨ha, hb⟩, ?_, Or.inl ⟨Or.inl s, e1⟩⟩
    show rdN x (F_m_reduced x a ((9 : Int))).2
    rw [e2]; exact rdN_0 hrw
  · exfalso; omega
theorem lk_4 {x y : MS} {a b : Int} (l0 : 1 ≤ x.1 0) (hs : slH x b.toNat) (sh : ¬ x.1 6 = -9 → snH x) (ha : 0 ≤ a ∧ a ≤ 7) (hb : 0 ≤ b ∧ b ≤ 7) (s0 : ¬ stM x a.toNat) (s1 : rcS x y 9) (p : rcQ y b.toNat ((10 : Int)).toNat (F_m_reduced y b ((10 : Int)))) (h : (F_m_reduced y b ((10 : Int))).1 < 0) : lkQ x a b ((F_m_reduced y b ((10 : Int))).1, (F_m_reduced y b ((10 : Int))).2) := by
  have ns : ¬ x.1 6 = -9 := fun e => s0 (Or.inl e)
  rcases p with ⟨e, s⟩ | ⟨e, _⟩
  · have e1 : (F_m_reduced y b ((10 : Int))).1 = -3 := congrArg Prod.fst e
    have e2 : (F_m_reduced y b ((10 : Int))).2 = y := congrArg Prod.snd e
    refine Or.inr ⟨⟨ha, hb⟩, ?_, Or.inl ⟨Or.inr ((rc_res (u := []) s1 (by omega) l0 hs sh ns).2.mp s), e1⟩⟩
    show rdN x (F_m_reduced y b ((10 : Int))).2
    rw [e2]; exact rcS_N (Or.inl rfl) s1
  · exfalso; omega
theorem lk_5 {x y z : MS} {a b w : Int} {u v : List Int} (l0 : 1 ≤ x.1 0) (hs : slH x b.toNat) (sh : ¬ x.1 6 = -9 → snH x) (ha : 0 ≤ a ∧ a ≤ 7) (hb : 0 ≤ b ∧ b ≤ 7) (s0 : ¬ stM x a.toNat) (s1 : rcS x y 9) (rs : resM x a.toNat u) (s2 : ¬ stM y b.toNat) (s3 : rcS y z 10) (rs2 : resM y b.toNat v) (k9 : slK x z 9 u) (k10 : slK y z 10 v) (hw : (w = 1 ∧ slM z 9 = slM z 10) ∨ (w = 0 ∧ slM z 9 ≠ slM z 10)) : lkQ x a b (w, z) := by
  have ns : ¬ x.1 6 = -9 := fun e => s0 (Or.inl e)
  have R := rc_res (u := v) s1 (show b.toNat < 8 by omega) l0 hs sh ns
  refine Or.inr ⟨⟨ha, hb⟩, rdN_t (rcS_N (Or.inl rfl) s1) (rcS_N (Or.inr rfl) s3), Or.inr ⟨s0, fun e => s2 (R.2.mpr e), u, v, rs, R.1 rs2, ?_⟩⟩
  rw [k9.2.1, k10.2.1] at hw
  show w = _
  rcases hw with ⟨h1, h2⟩ | ⟨h1, h2⟩
  · rw [if_pos h2, h1]
  · rw [if_neg h2, h1]
def F_m_like (x : MS) (a : Int) (b : Int) : Int × MS := (if ((F_m_isSlot (x) (a)).1) = (0) then ((-1 : Int), x) else (if ((F_m_isSlot (x) (b)).1) = (0) then ((-1 : Int), x) else (if (0) ≤ ((F_m_reduced (x) (a) ((9 : Int))).1) then (if (0) ≤ ((F_m_reduced ((F_m_reduced (x) (a) ((9 : Int))).2) (b) ((10 : Int))).1) then (if ((F_m_isSame ((F_m_reduced ((F_m_reduced (x) (a) ((9 : Int))).2) (b) ((10 : Int))).2) ((9 : Int)) ((10 : Int))).1) = (0) then ((0 : Int), (F_m_reduced ((F_m_reduced (x) (a) ((9 : Int))).2) (b) ((10 : Int))).2) else ((1 : Int), (F_m_reduced ((F_m_reduced (x) (a) ((9 : Int))).2) (b) ((10 : Int))).2)) else ((F_m_reduced ((F_m_reduced (x) (a) ((9 : Int))).2) (b) ((10 : Int))).1, (F_m_reduced ((F_m_reduced (x) (a) ((9 : Int))).2) (b) ((10 : Int))).2)) else (if (0) ≤ ((F_m_reduced (x) (a) ((9 : Int))).1) then (if ((F_m_isSame ((F_m_reduced (x) (a) ((9 : Int))).2) ((9 : Int)) ((10 : Int))).1) = (0) then ((0 : Int), (F_m_reduced (x) (a) ((9 : Int))).2) else ((1 : Int), (F_m_reduced (x) (a) ((9 : Int))).2)) else ((F_m_reduced (x) (a) ((9 : Int))).1, (F_m_reduced (x) (a) ((9 : Int))).2)))))
set_option maxHeartbeats 4000000 in
set_option maxRecDepth 100000 in
/-- like -/
theorem c_m_like (l : Launch) (dC : Nat → ClassId) (dI : Nat → Nat → Nat) (h : Nat) (ad : Nat → Nat) (cI cJ cZ : ClassId) (sz : Nat) (x : MS) (a : Int) (b : Int) (ra : iR a) (rb : iR b) (lt : 1 ≤ x.1 0 ∧ x.1 0 ≤ 4) (sn : iR (x.1 6)) (ic : x.1 27 = 0 ∨ x.1 27 = 1) (hrw : rwR x) (hs : ∀ k : Nat, k < 9 → slH x k) (mz : ¬ x.1 6 = -9 → ¬ x.1 27 = 0 → mzH x) (sh : ¬ x.1 6 = -9 → snH x) : Met l yX12_like wsX12_like ({ frames := 3, cells := 0, slots := 0, locals := 73 }) (mPc dC dI h ad cI cJ cZ sz x [.ref h, .int (iI a), .int (iI b)]) (va_Qi (fun (r : Int32) (u : MS) => r = iI (F_m_like (x) (a) (b)).1 ∧ u = (F_m_like (x) (a) (b)).2) (mAt dC dI h ad cI cJ cZ (va_A (mW h ad cI cJ cZ (x)) sz)) (va_A (mW h ad cI cJ cZ (x)) sz)) 0 0 (va_A (mW h ad cI cJ cZ (x)) sz) := by
  refine Met.ofW (cc := cX12_like) (maxL := 4) (ret := (some .int)) (by decide) rfl ?_
  intro p e s m args below meth c s₁ B hml hv
  obtain ⟨rfl, hsz, hP, hK, hD0⟩ := hv
  have hx := B.exec
  have hb := B.bytes
  have hr := B.returns
  have hts := atoms_spec (ws := wsX12_like) B.pre
  have hown : s.vm.findClass RX12 = some m.cls := findClass_of_methodNamed B.named
  have hlocks := B.notSynchronized
  subst hsz
  have hD := hD0.self (sz := s.heap.size)
  generalize hAe : va_A (mW h ad cI cJ cZ (x)) s.heap.size = A at hD ⊢
  have hA : ∀ q : Nat, s.heap.size ≤ q → A q := fun q h => by rw [← hAe]; exact Or.inr h
  have hS : va_S A s.heap s.heap [] := va_S.rf
  have hl := lv_entry ([.ref h, .int (iI a), .int (iI b)]) (n := 4) (Nat.le_of_ble_eq_true rfl)
  rw [lg_entry_eq]
  generalize (lg_sl ([.ref h, .int (iI a), .int (iI b)]) ++ List.replicate (4 - (lg_sl ([.ref h, .int (iI a), .int (iI b)])).length) Slot.unset).toArray = ls at hl ⊢
  have hl : lv_has ls 4 [(0, .ref (h)), (1, .int (iI (a))), (2, .int (iI (b)))] := hl
  have key : ∀ (H : Heap) (locs : List Loc), va_P (dC, dI) vwCl (mW h ad cI cJ cZ (x)) H → va_S A s.heap H locs → W p l e (headSpec wsX12_like ({ frames := 3, cells := 0, slots := 0, locals := 73 })).room s m ([.ref h, .int (iI a), .int (iI b)] : List Value).toArray below meth c H locs 0 0 (MQ below (va_Qi (fun (r : Int32) (u : MS) => r = iI (F_m_like (x) (a) (b)).1 ∧ u = (F_m_like (x) (a) (b)).2) (mAt dC dI h ad cI cJ cZ A) A) ([.ref h, .int (iI a), .int (iI b)] : List Value).toArray s 0 0 A) (F0 m 0 ls []) := by
    intro H locs hP hS
    have hres : (if ((F_m_isSlot (x) (a)).1) = (0) then ((-1 : Int), x) else (if ((F_m_isSlot (x) (b)).1) = (0) then ((-1 : Int), x) else (if (0) ≤ ((F_m_reduced (x) (a) ((9 : Int))).1) then (if (0) ≤ ((F_m_reduced ((F_m_reduced (x) (a) ((9 : Int))).2) (b) ((10 : Int))).1) then (if ((F_m_isSame ((F_m_reduced ((F_m_reduced (x) (a) ((9 : Int))).2) (b) ((10 : Int))).2) ((9 : Int)) ((10 : Int))).1) = (0) then ((0 : Int), (F_m_reduced ((F_m_reduced (x) (a) ((9 : Int))).2) (b) ((10 : Int))).2) else ((1 : Int), (F_m_reduced ((F_m_reduced (x) (a) ((9 : Int))).2) (b) ((10 : Int))).2)) else ((F_m_reduced ((F_m_reduced (x) (a) ((9 : Int))).2) (b) ((10 : Int))).1, (F_m_reduced ((F_m_reduced (x) (a) ((9 : Int))).2) (b) ((10 : Int))).2)) else (if (0) ≤ ((F_m_reduced (x) (a) ((9 : Int))).1) then (if ((F_m_isSame ((F_m_reduced (x) (a) ((9 : Int))).2) ((9 : Int)) ((10 : Int))).1) = (0) then ((0 : Int), (F_m_reduced (x) (a) ((9 : Int))).2) else ((1 : Int), (F_m_reduced (x) (a) ((9 : Int))).2)) else ((F_m_reduced (x) (a) ((9 : Int))).1, (F_m_reduced (x) (a) ((9 : Int))).2))))) = F_m_like (x) (a) (b) := rfl
    refine lv_iload_n hx hb dX12_like_0 rfl (lv_at hl 1 rfl) ?_
    have hFc : ∀ q, va_A (mW h ad cI cJ cZ (x)) H.size q → A q := fun q hq => Or.elim hq (fun ⟨k, e, hk⟩ => hD.2 k (q, e) hk) (fun hk => hA q (Nat.le_trans hS.1 hk))
    refine va_calli (va_runS (As := [.int (iI (a))]) (rest := []) ⟨hx, hb, hml, hown, hts⟩ (c_m_isSlot l dC dI h ad cI cJ cZ H.size (x) (a) (by first | assumption | exact iR_L (by assumption) | exact ⟨by decide, by decide⟩ | omega | (unfold iR; omega) | (unfold iRL; omega))) (va_cwS 1 hts gX12_like_X12_isSlot rfl rfl rfl (by decide +kernel) ⟨Nat.le_of_ble_eq_true rfl, Nat.le_of_ble_eq_true rfl⟩) ⟨fun a U g mk q => by obtain ⟨q0, q1, qP, qK, qD⟩ := q; exact ⟨q0, q1, qP, va_K.moved (u := U) (U := U.calling g mk a) (Vm.Alike.refl U.vm) qK, qD⟩, fun U hU hW => ⟨rfl, by rw [hU], by rw [hU]; exact hP, va_K.moved hW.alike hK, hD.weaken (fun _ _ _ _ => trivial)⟩⟩ rfl rfl hl.1 rfl (lv_room (Nat.le_of_ble_eq_true rfl)) dX12_like_1 ⟨Nat.le_of_ble_eq_true rfl, Nat.le_of_ble_eq_true rfl⟩) hS (fun q _ h => hFc q h) hFc (fun r9 u9 t H1 locs ht hvm hw hB hz1 hk1 hS => ?_)
    obtain ⟨hP1, hK1, hD1⟩ := hB
    rw [ht] at hP1
    obtain ⟨hw1, hw2⟩ := hw
    rw [hw2] at hP1 hD1
    rw [hw1]
    rw [F_m_isSlot_2] at hP1 hD1
    have hD2 := hD1.weaken (B := A) (fun _ q _ h => hFc q.1 h)
    have hP := hP1
    have hD := hD2
    generalize H1 = H at hP hS ⊢
    refine wi_if_eq (tgt := 14) hx hb (by rw [F_m_isSlot_1]; exact F_R01 (F_in_01 _ _ _)) dX12_like_4 (by decide) (fun c_4 => ?_) (fun c_4 => ?_)
    · skip
      rw [if_pos c_4] at hres
      refine lv_iconst (v := iI (-1 : Int)) hx hb dX12_like_14 (by decide) ?_
      exact W.iret (v := iI ((-1 : Int))) hx hb hr (fun t ht hW => ⟨⟨iI ((-1 : Int)), x, rfl, ⟨(by have h9 := congrArg (fun z : Int × MS => iI z.1) hres; exact h9), (by have h9 := congrArg (fun z : Int × MS => z.2) hres; exact h9)⟩, by rw [ht]; exact hP, va_K.moved hW.alike hK, hD⟩, hS.F ht⟩) hS.2.2 dX12_like_15
    · skip
      rw [if_neg c_4] at hres
      refine lv_iload_n hx hb dX12_like_7 rfl (lv_at hl 2 rfl) ?_
      have hFc : ∀ q, va_A (mW h ad cI cJ cZ (x)) H.size q → A q := fun q hq => Or.elim hq (fun ⟨k, e, hk⟩ => hD.2 k (q, e) hk) (fun hk => hA q (Nat.le_trans hS.1 hk))
      refine va_calli (va_runS (As := [.int (iI (b))]) (rest := []) ⟨hx, hb, hml, hown, hts⟩ (c_m_isSlot l dC dI h ad cI cJ cZ H.size (x) (b) (by first | assumption | exact iR_L (by assumption) | exact ⟨by decide, by decide⟩ | omega | (unfold iR; omega) | (unfold iRL; omega))) (va_cwS 1 hts gX12_like_X12_isSlot rfl rfl rfl (by decide +kernel) ⟨Nat.le_of_ble_eq_true rfl, Nat.le_of_ble_eq_true rfl⟩) ⟨fun a U g mk q => by obtain ⟨q0, q1, qP, qK, qD⟩ := q; exact ⟨q0, q1, qP, va_K.moved (u := U) (U := U.calling g mk a) (Vm.Alike.refl U.vm) qK, qD⟩, fun U hU hW => ⟨rfl, by rw [hU], by rw [hU]; exact hP, va_K.moved hW.alike hK, hD.weaken (fun _ _ _ _ => trivial)⟩⟩ rfl rfl hl.1 rfl (lv_room (Nat.le_of_ble_eq_true rfl)) dX12_like_8 ⟨Nat.le_of_ble_eq_true rfl, Nat.le_of_ble_eq_true rfl⟩) hS (fun q _ h => hFc q h) hFc (fun r9 u9 t H1 locs ht hvm hw hB hz1 hk1 hS => ?_)
      obtain ⟨hP1, hK1, hD1⟩ := hB
      rw [ht] at hP1
      obtain ⟨hw1, hw2⟩ := hw
      rw [hw2] at hP1 hD1
      rw [hw1]
      rw [F_m_isSlot_2] at hP1 hD1
      have hD2 := hD1.weaken (B := A) (fun _ q _ h => hFc q.1 h)
      have hP := hP1
      have hD := hD2
      generalize H1 = H at hP hS ⊢
      refine wi_if_ne (tgt := 16) hx hb (by rw [F_m_isSlot_1]; exact F_R01 (F_in_01 _ _ _)) dX12_like_11 (by decide) (fun c_11 => ?_) (fun c_11 => ?_)
      · skip
        rw [if_neg c_11] at hres
        obtain ⟨a0, a1⟩ := F_in_1 (by rw [← F_m_isSlot_1 x a]; exact c_4)
        obtain ⟨b0, b1⟩ := F_in_1 (by rw [← F_m_isSlot_1 x b]; exact c_11)
        refine lv_aload_n hx hb dX12_like_16 rfl (lv_at hl 0 rfl) ?_
        refine lv_iload_n hx hb dX12_like_17 rfl (lv_at hl 1 rfl) ?_
        refine lv_bipush (v := iI (9 : Int)) hx hb dX12_like_18 (by decide) ?_
        have hFc : ∀ q, va_A (mW h ad cI cJ cZ (x)) H.size q → A q := fun q hq => Or.elim hq (fun ⟨k, e, hk⟩ => hD.2 k (q, e) hk) (fun hk => hA q (Nat.le_trans hS.1 hk))
        refine va_calli (va_runV (As := [.int (iI (a)), .int (iI ((9 : Int)))]) (rest := []) ⟨hx, hb, hml, hown, hts⟩ (c_m_reduced l dC dI h ad cI cJ cZ H.size (x) (a) ((9 : Int)) (by omega) (by omega) (Or.inl rfl) lt sn ic hrw (hs a.toNat (by omega)) mz sh) (cwV 2 hts gX12_like_X12_reduced rfl rfl rfl (by decide +kernel) ⟨Nat.le_of_ble_eq_true rfl, Nat.le_of_ble_eq_true rfl⟩) ⟨fun a U g mk q => by obtain ⟨q0, q1, qP, qK, qD⟩ := q; exact ⟨q0, q1, qP, va_K.moved (u := U) (U := U.calling g mk a) (Vm.Alike.refl U.vm) qK, qD⟩, va_recv hK hP (ci := 12) (q0 := 0) rfl rfl, fun U hU hW => ⟨rfl, by rw [hU], by rw [hU]; exact hP, va_K.moved hW.alike hK, hD.weaken (fun _ _ _ _ => trivial)⟩⟩ rfl rfl hl.1 rfl (lv_room (Nat.le_of_ble_eq_true rfl)) dX12_like_20 ⟨Nat.le_of_ble_eq_true rfl, Nat.le_of_ble_eq_true rfl⟩) hS (fun q _ h => hFc q h) hFc (fun r9 u9 t H1 locs ht hvm hw hB hz1 hk1 hS => ?_)
        obtain ⟨hP1, hK1, hD1⟩ := hB
        rw [ht] at hP1
        obtain ⟨hw1, hw2⟩ := hw
        rw [hw2] at hP1 hD1
        rw [hw1]
        have hD2 := hD1.weaken (B := A) (fun _ q _ h => hFc q.1 h)
        have hP := hP1
        have hD := hD2
        generalize H1 = H at hP hS ⊢
        have p1 := F_m_reduced_p x a 9 (by omega) (by omega) (Or.inl rfl) lt sn ic hrw (hs a.toNat (by omega)) mz sh
        have q9 : (F_m_reduced x a ((9 : Int))).1 = -3 ∨ (F_m_reduced x a ((9 : Int))).1 = 0 := by
          rcases p1 with ⟨e, _⟩ | ⟨e, _⟩
          · exact Or.inl (congrArg Prod.fst e)
          · exact Or.inr e
        refine lv_istore_n (lv' := [(3, .int (iI ((F_m_reduced (x) (a) ((9 : Int))).1))), (0, .ref (h)), (1, .int (iI (a))), (2, .int (iI (b)))]) hx hb dX12_like_23 rfl hl (by decide) rfl (fun ls hl => ?_)
        refine lv_iload_n hx hb dX12_like_24 rfl (lv_at hl 0 rfl) ?_
        refine wi_if_ge (tgt := 32) hx hb (by unfold iR; omega) dX12_like_25 (by decide) (fun c_25 => ?_) (fun c_25 => ?_)
        · skip
          rw [if_pos c_25] at hres
          obtain ⟨e0, s0, s1, u0, k9, rs⟩ := p1.resolve_left (fun h9 => by have h8 := congrArg Prod.fst h9.1; have h7 : (F_m_reduced x a ((9 : Int))).1 = -3 := h8; omega)
          have y0 : (F_m_reduced x a ((9 : Int))).2.1 0 = x.1 0 := (rc_LR s1).2.2.2.1
          have y6 : (F_m_reduced x a ((9 : Int))).2.1 6 = x.1 6 := (rc_LR s1).2.2.2.2.1
          have y27 : (F_m_reduced x a ((9 : Int))).2.1 27 = x.1 27 := (rc_LR s1).2.2.2.2.2
          have lty : 1 ≤ (F_m_reduced x a ((9 : Int))).2.1 0 ∧ (F_m_reduced x a ((9 : Int))).2.1 0 ≤ 4 := by rw [y0]; exact lt
          have sny : iR ((F_m_reduced x a ((9 : Int))).2.1 6) := by rw [y6]; exact sn
          have icy : (F_m_reduced x a ((9 : Int))).2.1 27 = 0 ∨ (F_m_reduced x a ((9 : Int))).2.1 27 = 1 := by rw [y27]; exact ic
          have hsy : slH (F_m_reduced x a ((9 : Int))).2 b.toNat := rc_slH s1 (by omega) (hs b.toNat (by omega))
          have mzy : ¬ (F_m_reduced x a ((9 : Int))).2.1 6 = -9 → ¬ (F_m_reduced x a ((9 : Int))).2.1 27 = 0 → mzH (F_m_reduced x a ((9 : Int))).2 := by rw [y6, y27]; exact fun h1 h2 => rc_mz s1 (mz h1 h2)
          have shy : ¬ (F_m_reduced x a ((9 : Int))).2.1 6 = -9 → snH (F_m_reduced x a ((9 : Int))).2 := by rw [y6]; exact fun h1 => rc_sn s1 (sh h1)
          refine lv_aload_n hx hb dX12_like_32 rfl (lv_at hl 1 rfl) ?_
          refine lv_iload_n hx hb dX12_like_33 rfl (lv_at hl 3 rfl) ?_
          refine lv_bipush (v := iI (10 : Int)) hx hb dX12_like_34 (by decide) ?_
          have hFc : ∀ q, va_A (mW h ad cI cJ cZ ((F_m_reduced (x) (a) ((9 : Int))).2)) H.size q → A q := fun q hq => Or.elim hq (fun ⟨k, e, hk⟩ => hD.2 k (q, e) hk) (fun hk => hA q (Nat.le_trans hS.1 hk))
          refine va_calli (va_runV (As := [.int (iI (b)), .int (iI ((10 : Int)))]) (rest := []) ⟨hx, hb, hml, hown, hts⟩ (c_m_reduced l dC dI h ad cI cJ cZ H.size ((F_m_reduced (x) (a) ((9 : Int))).2) (b) ((10 : Int)) (by omega) (by omega) (Or.inr rfl) lty sny icy s1.2.1 hsy mzy shy) (cwV 2 hts gX12_like_X12_reduced rfl rfl rfl (by decide +kernel) ⟨Nat.le_of_ble_eq_true rfl, Nat.le_of_ble_eq_true rfl⟩) ⟨fun a U g mk q => by obtain ⟨q0, q1, qP, qK, qD⟩ := q; exact ⟨q0, q1, qP, va_K.moved (u := U) (U := U.calling g mk a) (Vm.Alike.refl U.vm) qK, qD⟩, va_recv hK hP (ci := 12) (q0 := 0) rfl rfl, fun U hU hW => ⟨rfl, by rw [hU], by rw [hU]; exact hP, va_K.moved hW.alike hK, hD.weaken (fun _ _ _ _ => trivial)⟩⟩ rfl rfl hl.1 rfl (lv_room (Nat.le_of_ble_eq_true rfl)) dX12_like_36 ⟨Nat.le_of_ble_eq_true rfl, Nat.le_of_ble_eq_true rfl⟩) hS (fun q _ h => hFc q h) hFc (fun r9 u9 t H1 locs ht hvm hw hB hz1 hk1 hS => ?_)
          obtain ⟨hP1, hK1, hD1⟩ := hB
          rw [ht] at hP1
          obtain ⟨hw1, hw2⟩ := hw
          rw [hw2] at hP1 hD1
          rw [hw1]
          have hD2 := hD1.weaken (B := A) (fun _ q _ h => hFc q.1 h)
          have hP := hP1
          have hD := hD2
          generalize H1 = H at hP hS ⊢
          have p2 := F_m_reduced_p (F_m_reduced x a ((9 : Int))).2 b 10 (by omega) (by omega) (Or.inr rfl) lty sny icy s1.2.1 hsy mzy shy
          have q8 : (F_m_reduced (F_m_reduced x a ((9 : Int))).2 b ((10 : Int))).1 = -3 ∨ (F_m_reduced (F_m_reduced x a ((9 : Int))).2 b ((10 : Int))).1 = 0 := by
            rcases p2 with ⟨e, _⟩ | ⟨e, _⟩
            · exact Or.inl (congrArg Prod.fst e)
            · exact Or.inr e
          refine lv_istore_n (lv' := [(3, .int (iI ((F_m_reduced ((F_m_reduced (x) (a) ((9 : Int))).2) (b) ((10 : Int))).1))), (0, .ref (h)), (1, .int (iI (a))), (2, .int (iI (b)))]) hx hb dX12_like_39 rfl hl (by decide) rfl (fun ls hl => ?_)
          refine lv_iload_n hx hb dX12_like_40 rfl (lv_at hl 0 rfl) ?_
          refine wi_if_ge (tgt := 48) hx hb (by unfold iR; omega) dX12_like_41 (by decide) (fun c_41 => ?_) (fun c_41 => ?_)
          · skip
            rw [if_pos c_41] at hres
            obtain ⟨e2, s2, s3, v0, k10, rs2⟩ := p2.resolve_left (fun h9 => by have h8 := congrArg Prod.fst h9.1; have h7 : (F_m_reduced (F_m_reduced x a ((9 : Int))).2 b ((10 : Int))).1 = -3 := h8; omega)
            have k99 := rc_keep9 s3 k9
            have z9 : (F_m_reduced (F_m_reduced x a ((9 : Int))).2 b ((10 : Int))).2.2 1 ((9 : Int)).toNat = (u0.length : Int) := k99.1
            have z10 : (F_m_reduced (F_m_reduced x a ((9 : Int))).2 b ((10 : Int))).2.2 1 ((10 : Int)).toNat = (v0.length : Int) := k10.1
            have zl9 := k99.2.2.2
            have zl10 := k10.2.2.2
            have is := isSame_x (x := (F_m_reduced (F_m_reduced x a ((9 : Int))).2 b ((10 : Int))).2) (a := 9) (b := 10) (by rw [k99.1]; omega) (by rw [k99.1]; omega) (by rw [show (F_m_reduced (F_m_reduced x a ((9 : Int))).2 b ((10 : Int))).2.2 1 10 = (v0.length : Int) from k10.1]; omega)
            have is01 : (F_m_isSame (F_m_reduced (F_m_reduced x a ((9 : Int))).2 b ((10 : Int))).2 ((9 : Int)) ((10 : Int))).1 = 1 ∨ (F_m_isSame (F_m_reduced (F_m_reduced x a ((9 : Int))).2 b ((10 : Int))).2 ((9 : Int)) ((10 : Int))).1 = 0 := by rcases is with ⟨h9, _⟩ | ⟨h9, _⟩; exact Or.inl h9; exact Or.inr h9
            refine lv_aload_n hx hb dX12_like_48 rfl (lv_at hl 1 rfl) ?_
            refine lv_bipush (v := iI (9 : Int)) hx hb dX12_like_49 (by decide) ?_
            refine lv_bipush (v := iI (10 : Int)) hx hb dX12_like_51 (by decide) ?_
            have hFc : ∀ q, va_A (mW h ad cI cJ cZ ((F_m_reduced ((F_m_reduced (x) (a) ((9 : Int))).2) (b) ((10 : Int))).2)) H.size q → A q := fun q hq => Or.elim hq (fun ⟨k, e, hk⟩ => hD.2 k (q, e) hk) (fun hk => hA q (Nat.le_trans hS.1 hk))
            refine va_calli (va_runV (As := [.int (iI ((9 : Int))), .int (iI ((10 : Int)))]) (rest := []) ⟨hx, hb, hml, hown, hts⟩ (c_m_isSame l dC dI h ad cI cJ cZ H.size ((F_m_reduced ((F_m_reduced (x) (a) ((9 : Int))).2) (b) ((10 : Int))).2) ((9 : Int)) ((10 : Int)) (by decide) (by decide) (by decide) (by decide) (by omega) (by omega) (by unfold iR; omega) s3.2.1) (cwV 2 hts gX12_like_X12_isSame rfl rfl rfl (by decide +kernel) ⟨Nat.le_of_ble_eq_true rfl, Nat.le_of_ble_eq_true rfl⟩) ⟨fun a U g mk q => by obtain ⟨q0, q1, qP, qK, qD⟩ := q; exact ⟨q0, q1, qP, va_K.moved (u := U) (U := U.calling g mk a) (Vm.Alike.refl U.vm) qK, qD⟩, va_recv hK hP (ci := 12) (q0 := 0) rfl rfl, fun U hU hW => ⟨rfl, by rw [hU], by rw [hU]; exact hP, va_K.moved hW.alike hK, hD.weaken (fun _ _ _ _ => trivial)⟩⟩ rfl rfl hl.1 rfl (lv_room (Nat.le_of_ble_eq_true rfl)) dX12_like_53 ⟨Nat.le_of_ble_eq_true rfl, Nat.le_of_ble_eq_true rfl⟩) hS (fun q _ h => hFc q h) hFc (fun r9 u9 t H1 locs ht hvm hw hB hz1 hk1 hS => ?_)
            obtain ⟨hP1, hK1, hD1⟩ := hB
            rw [ht] at hP1
            obtain ⟨hw1, hw2⟩ := hw
            rw [hw2] at hP1 hD1
            rw [hw1]
            rw [F_m_isSame_2] at hP1 hD1
            have hD2 := hD1.weaken (B := A) (fun _ q _ h => hFc q.1 h)
            have hP := hP1
            have hD := hD2
            generalize H1 = H at hP hS ⊢
            refine wi_if_eq (tgt := 63) hx hb (by unfold iR; omega) dX12_like_56 (by decide) (fun c_56 => ?_) (fun c_56 => ?_)
            · skip
              rw [if_pos c_56] at hres
              refine lv_iconst (v := iI (0 : Int)) hx hb dX12_like_63 (by decide) ?_
              exact W.iret (v := iI ((0 : Int))) hx hb hr (fun t ht hW => ⟨⟨iI ((0 : Int)), (F_m_reduced ((F_m_reduced (x) (a) ((9 : Int))).2) (b) ((10 : Int))).2, rfl, ⟨(by have h9 := congrArg (fun z : Int × MS => iI z.1) hres; exact h9), (by have h9 := congrArg (fun z : Int × MS => z.2) hres; exact h9)⟩, by rw [ht]; exact hP, va_K.moved hW.alike hK, hD⟩, hS.F ht⟩) hS.2.2 dX12_like_64
            · skip
              rw [if_neg c_56] at hres
              refine lv_iconst (v := iI (1 : Int)) hx hb dX12_like_59 (by decide) ?_
              refine lv_goto (tgt := 64) hx hb dX12_like_60 (by decide) ?_
              exact W.iret (v := iI ((1 : Int))) hx hb hr (fun t ht hW => ⟨⟨iI ((1 : Int)), (F_m_reduced ((F_m_reduced (x) (a) ((9 : Int))).2) (b) ((10 : Int))).2, rfl, ⟨(by have h9 := congrArg (fun z : Int × MS => iI z.1) hres; exact h9), (by have h9 := congrArg (fun z : Int × MS => z.2) hres; exact h9)⟩, by rw [ht]; exact hP, va_K.moved hW.alike hK, hD⟩, hS.F ht⟩) hS.2.2 dX12_like_64
          · skip
            rw [if_neg c_41] at hres
            refine lv_iload_n hx hb dX12_like_44 rfl (lv_at hl 0 rfl) ?_
            refine lv_goto (tgt := 64) hx hb dX12_like_45 (by decide) ?_
            exact W.iret (v := iI ((F_m_reduced ((F_m_reduced (x) (a) ((9 : Int))).2) (b) ((10 : Int))).1)) hx hb hr (fun t ht hW => ⟨⟨iI ((F_m_reduced ((F_m_reduced (x) (a) ((9 : Int))).2) (b) ((10 : Int))).1), (F_m_reduced ((F_m_reduced (x) (a) ((9 : Int))).2) (b) ((10 : Int))).2, rfl, ⟨(by have h9 := congrArg (fun z : Int × MS => iI z.1) hres; exact h9), (by have h9 := congrArg (fun z : Int × MS => z.2) hres; exact h9)⟩, by rw [ht]; exact hP, va_K.moved hW.alike hK, hD⟩, hS.F ht⟩) hS.2.2 dX12_like_64
        · skip
          rw [if_neg c_25] at hres
          refine lv_iload_n hx hb dX12_like_28 rfl (lv_at hl 0 rfl) ?_
          refine lv_goto (tgt := 39) hx hb dX12_like_29 (by decide) ?_
          skip
          refine lv_istore_n (lv' := [(3, .int (iI ((F_m_reduced (x) (a) ((9 : Int))).1))), (0, .ref (h)), (1, .int (iI (a))), (2, .int (iI (b)))]) hx hb dX12_like_39 rfl hl (by decide) rfl (fun ls hl => ?_)
          refine lv_iload_n hx hb dX12_like_40 rfl (lv_at hl 0 rfl) ?_
          refine wi_if_ge (tgt := 48) hx hb (by unfold iR; omega) dX12_like_41 (by decide) (fun c_41 => ?_) (fun c_41 => ?_)
          · skip
            rw [if_pos c_41] at hres
            exfalso; omega
          · skip
            rw [if_neg c_41] at hres
            refine lv_iload_n hx hb dX12_like_44 rfl (lv_at hl 0 rfl) ?_
            refine lv_goto (tgt := 64) hx hb dX12_like_45 (by decide) ?_
            exact W.iret (v := iI ((F_m_reduced (x) (a) ((9 : Int))).1)) hx hb hr (fun t ht hW => ⟨⟨iI ((F_m_reduced (x) (a) ((9 : Int))).1), (F_m_reduced (x) (a) ((9 : Int))).2, rfl, ⟨(by have h9 := congrArg (fun z : Int × MS => iI z.1) hres; exact h9), (by have h9 := congrArg (fun z : Int × MS => z.2) hres; exact h9)⟩, by rw [ht]; exact hP, va_K.moved hW.alike hK, hD⟩, hS.F ht⟩) hS.2.2 dX12_like_64
      · skip
        rw [if_pos c_11] at hres
        refine lv_iconst (v := iI (-1 : Int)) hx hb dX12_like_14 (by decide) ?_
        exact W.iret (v := iI ((-1 : Int))) hx hb hr (fun t ht hW => ⟨⟨iI ((-1 : Int)), x, rfl, ⟨(by have h9 := congrArg (fun z : Int × MS => iI z.1) hres; exact h9), (by have h9 := congrArg (fun z : Int × MS => z.2) hres; exact h9)⟩, by rw [ht]; exact hP, va_K.moved hW.alike hK, hD⟩, hS.F ht⟩) hS.2.2 dX12_like_15
  exact key _ _ hP hS
theorem F_m_like_fr (x : MS) (a : Int) (b : Int) : same [10] [1, 2, 9, 11, 26] x (F_m_like (x) (a) (b)).2 := by
  unfold F_m_like
  by_cases hc : ((F_m_isSlot (x) (a)).1) = (0)
  · rw [if_pos hc]
    exact (sm_rf _ _ _)
  · rw [if_neg hc]
    by_cases hc : ((F_m_isSlot (x) (b)).1) = (0)
    · rw [if_pos hc]
      exact (sm_rf _ _ _)
    · rw [if_neg hc]
      by_cases hc : (0) ≤ ((F_m_reduced (x) (a) ((9 : Int))).1)
      · rw [if_pos hc]
        by_cases hc : (0) ≤ ((F_m_reduced ((F_m_reduced (x) (a) ((9 : Int))).2) (b) ((10 : Int))).1)
        · rw [if_pos hc]
          by_cases hc : ((F_m_isSame ((F_m_reduced ((F_m_reduced (x) (a) ((9 : Int))).2) (b) ((10 : Int))).2) ((9 : Int)) ((10 : Int))).1) = (0)
          · rw [if_pos hc]
            exact (sm_tr (sm_tr (sm_rf _ _ _) (sm_mono (by decide) (by decide) (F_m_reduced_fr (x) (a) ((9 : Int))))) (sm_mono (by decide) (by decide) (F_m_reduced_fr ((F_m_reduced (x) (a) ((9 : Int))).2) (b) ((10 : Int)))))
          · rw [if_neg hc]
            exact (sm_tr (sm_tr (sm_rf _ _ _) (sm_mono (by decide) (by decide) (F_m_reduced_fr (x) (a) ((9 : Int))))) (sm_mono (by decide) (by decide) (F_m_reduced_fr ((F_m_reduced (x) (a) ((9 : Int))).2) (b) ((10 : Int)))))
        · rw [if_neg hc]
          exact (sm_tr (sm_tr (sm_rf _ _ _) (sm_mono (by decide) (by decide) (F_m_reduced_fr (x) (a) ((9 : Int))))) (sm_mono (by decide) (by decide) (F_m_reduced_fr ((F_m_reduced (x) (a) ((9 : Int))).2) (b) ((10 : Int)))))
      · rw [if_neg hc]
        by_cases hc : (0) ≤ ((F_m_reduced (x) (a) ((9 : Int))).1)
        · rw [if_pos hc]
          by_cases hc : ((F_m_isSame ((F_m_reduced (x) (a) ((9 : Int))).2) ((9 : Int)) ((10 : Int))).1) = (0)
          · rw [if_pos hc]
            exact (sm_tr (sm_rf _ _ _) (sm_mono (by decide) (by decide) (F_m_reduced_fr (x) (a) ((9 : Int)))))
          · rw [if_neg hc]
            exact (sm_tr (sm_rf _ _ _) (sm_mono (by decide) (by decide) (F_m_reduced_fr (x) (a) ((9 : Int)))))
        · rw [if_neg hc]
          exact (sm_tr (sm_rf _ _ _) (sm_mono (by decide) (by decide) (F_m_reduced_fr (x) (a) ((9 : Int)))))
set_option maxHeartbeats 4000000 in
theorem F_m_like_p (x : MS) (a : Int) (b : Int) (ra : iR a) (rb : iR b) (lt : 1 ≤ x.1 0 ∧ x.1 0 ≤ 4) (sn : iR (x.1 6)) (ic : x.1 27 = 0 ∨ x.1 27 = 1) (hrw : rwR x) (hs : ∀ k : Nat, k < 9 → slH x k) (mz : ¬ x.1 6 = -9 → ¬ x.1 27 = 0 → mzH x) (sh : ¬ x.1 6 = -9 → snH x) : lkQ x a b (F_m_like (x) (a) (b)) := by
  unfold F_m_like
  by_cases c_4 : ((F_m_isSlot (x) (a)).1) = (0)
  · rw [if_pos c_4]
    exact Or.inl ⟨by first | (have h9 := F_in_00 (by rw [← F_m_isSlot_1 x b]; exact c_11); omega) | (have h9 := F_in_00 (by rw [← F_m_isSlot_1 x a]; exact c_4); omega), rfl⟩
  · rw [if_neg c_4]
    by_cases c_11 : ((F_m_isSlot (x) (b)).1) = (0)
    · rw [if_pos c_11]
      exact Or.inl ⟨by first | (have h9 := F_in_00 (by rw [← F_m_isSlot_1 x b]; exact c_11); omega) | (have h9 := F_in_00 (by rw [← F_m_isSlot_1 x a]; exact c_4); omega), rfl⟩
    · rw [if_neg c_11]
      obtain ⟨a0, a1⟩ := F_in_1 (by rw [← F_m_isSlot_1 x a]; exact c_4)
      obtain ⟨b0, b1⟩ := F_in_1 (by rw [← F_m_isSlot_1 x b]; exact c_11)
      have p1 := F_m_reduced_p x a 9 (by omega) (by omega) (Or.inl rfl) lt sn ic hrw (hs a.toNat (by omega)) mz sh
      have q9 : (F_m_reduced x a ((9 : Int))).1 = -3 ∨ (F_m_reduced x a ((9 : Int))).1 = 0 := by
        rcases p1 with ⟨e, _⟩ | ⟨e, _⟩
        · exact Or.inl (congrArg Prod.fst e)
        · exact Or.inr e
      by_cases c_25 : (0) ≤ ((F_m_reduced (x) (a) ((9 : Int))).1)
      · rw [if_pos c_25]
        obtain ⟨e0, s0, s1, u0, k9, rs⟩ := p1.resolve_left (fun h9 => by have h8 := congrArg Prod.fst h9.1; have h7 : (F_m_reduced x a ((9 : Int))).1 = -3 := h8; omega)
        have y0 : (F_m_reduced x a ((9 : Int))).2.1 0 = x.1 0 := (rc_LR s1).2.2.2.1
        have y6 : (F_m_reduced x a ((9 : Int))).2.1 6 = x.1 6 := (rc_LR s1).2.2.2.2.1
        have y27 : (F_m_reduced x a ((9 : Int))).2.1 27 = x.1 27 := (rc_LR s1).2.2.2.2.2
        have lty : 1 ≤ (F_m_reduced x a ((9 : Int))).2.1 0 ∧ (F_m_reduced x a ((9 : Int))).2.1 0 ≤ 4 := by rw [y0]; exact lt
        have sny : iR ((F_m_reduced x a ((9 : Int))).2.1 6) := by rw [y6]; exact sn
        have icy : (F_m_reduced x a ((9 : Int))).2.1 27 = 0 ∨ (F_m_reduced x a ((9 : Int))).2.1 27 = 1 := by rw [y27]; exact ic
        have hsy : slH (F_m_reduced x a ((9 : Int))).2 b.toNat := rc_slH s1 (by omega) (hs b.toNat (by omega))
        have mzy : ¬ (F_m_reduced x a ((9 : Int))).2.1 6 = -9 → ¬ (F_m_reduced x a ((9 : Int))).2.1 27 = 0 → mzH (F_m_reduced x a ((9 : Int))).2 := by rw [y6, y27]; exact fun h1 h2 => rc_mz s1 (mz h1 h2)
        have shy : ¬ (F_m_reduced x a ((9 : Int))).2.1 6 = -9 → snH (F_m_reduced x a ((9 : Int))).2 := by rw [y6]; exact fun h1 => rc_sn s1 (sh h1)
        have p2 := F_m_reduced_p (F_m_reduced x a ((9 : Int))).2 b 10 (by omega) (by omega) (Or.inr rfl) lty sny icy s1.2.1 hsy mzy shy
        have q8 : (F_m_reduced (F_m_reduced x a ((9 : Int))).2 b ((10 : Int))).1 = -3 ∨ (F_m_reduced (F_m_reduced x a ((9 : Int))).2 b ((10 : Int))).1 = 0 := by
          rcases p2 with ⟨e, _⟩ | ⟨e, _⟩
          · exact Or.inl (congrArg Prod.fst e)
          · exact Or.inr e
        by_cases c_41 : (0) ≤ ((F_m_reduced ((F_m_reduced (x) (a) ((9 : Int))).2) (b) ((10 : Int))).1)
        · rw [if_pos c_41]
          obtain ⟨e2, s2, s3, v0, k10, rs2⟩ := p2.resolve_left (fun h9 => by have h8 := congrArg Prod.fst h9.1; have h7 : (F_m_reduced (F_m_reduced x a ((9 : Int))).2 b ((10 : Int))).1 = -3 := h8; omega)
          have k99 := rc_keep9 s3 k9
          have z9 : (F_m_reduced (F_m_reduced x a ((9 : Int))).2 b ((10 : Int))).2.2 1 ((9 : Int)).toNat = (u0.length : Int) := k99.1
          have z10 : (F_m_reduced (F_m_reduced x a ((9 : Int))).2 b ((10 : Int))).2.2 1 ((10 : Int)).toNat = (v0.length : Int) := k10.1
          have zl9 := k99.2.2.2
          have zl10 := k10.2.2.2
          have is := isSame_x (x := (F_m_reduced (F_m_reduced x a ((9 : Int))).2 b ((10 : Int))).2) (a := 9) (b := 10) (by rw [k99.1]; omega) (by rw [k99.1]; omega) (by rw [show (F_m_reduced (F_m_reduced x a ((9 : Int))).2 b ((10 : Int))).2.2 1 10 = (v0.length : Int) from k10.1]; omega)
          have is01 : (F_m_isSame (F_m_reduced (F_m_reduced x a ((9 : Int))).2 b ((10 : Int))).2 ((9 : Int)) ((10 : Int))).1 = 1 ∨ (F_m_isSame (F_m_reduced (F_m_reduced x a ((9 : Int))).2 b ((10 : Int))).2 ((9 : Int)) ((10 : Int))).1 = 0 := by rcases is with ⟨h9, _⟩ | ⟨h9, _⟩; exact Or.inl h9; exact Or.inr h9
          by_cases c_56 : ((F_m_isSame ((F_m_reduced ((F_m_reduced (x) (a) ((9 : Int))).2) (b) ((10 : Int))).2) ((9 : Int)) ((10 : Int))).1) = (0)
          · rw [if_pos c_56]
            exact lk_5 lt.1 (hs b.toNat (by omega)) sh (by omega) (by omega) s0 s1 rs s2 s3 rs2 k99 k10 (by first | exact Or.inl ⟨rfl, (is.resolve_right (fun h9 => by have h8 : (F_m_isSame (F_m_reduced (F_m_reduced x a ((9 : Int))).2 b ((10 : Int))).2 ((9 : Int)) ((10 : Int))).1 = 0 := h9.1; omega)).2⟩ | exact Or.inr ⟨rfl, (is.resolve_left (fun h9 => by have h8 : (F_m_isSame (F_m_reduced (F_m_reduced x a ((9 : Int))).2 b ((10 : Int))).2 ((9 : Int)) ((10 : Int))).1 = 1 := h9.1; omega)).2⟩)
          · rw [if_neg c_56]
            exact lk_5 lt.1 (hs b.toNat (by omega)) sh (by omega) (by omega) s0 s1 rs s2 s3 rs2 k99 k10 (by first | exact Or.inl ⟨rfl, (is.resolve_right (fun h9 => by have h8 : (F_m_isSame (F_m_reduced (F_m_reduced x a ((9 : Int))).2 b ((10 : Int))).2 ((9 : Int)) ((10 : Int))).1 = 0 := h9.1; omega)).2⟩ | exact Or.inr ⟨rfl, (is.resolve_left (fun h9 => by have h8 : (F_m_isSame (F_m_reduced (F_m_reduced x a ((9 : Int))).2 b ((10 : Int))).2 ((9 : Int)) ((10 : Int))).1 = 1 := h9.1; omega)).2⟩)
        · rw [if_neg c_41]
          exact lk_4 lt.1 (hs b.toNat (by omega)) sh (by omega) (by omega) s0 s1 p2 (by omega)
      · rw [if_neg c_25]
        skip
        by_cases c_41 : (0) ≤ ((F_m_reduced (x) (a) ((9 : Int))).1)
        · rw [if_pos c_41]
          exfalso; omega
        · rw [if_neg c_41]
          exact lk_3 hrw (by omega) (by omega) p1 (by omega)
