theorem pk_1 : ∀ n : Nat, (∀ (y : MS) (a b c d e f g h : Int), (F_m_pick_s n 1 y a b c d e f g h).2.2 1 = y.2 1) ∧ (∀ (y : MS) (a b c d e f g h : Int), (F_m_pick_s n 2 y a b c d e f g h).2.2 1 = y.2 1) := by
  intro n
  induction n with
  | zero => exact ⟨fun _ _ _ _ _ _ _ _ _ => rfl, fun _ _ _ _ _ _ _ _ _ => rfl⟩
  | succ n ih =>
    obtain ⟨i1, i2⟩ := ih
    refine ⟨?_, ?_⟩
    · intro y a b c d e f g h
      rw [F_m_pick_e1]
      split
      · rfl
      · exact i2 _ _ _ _ _ _ _ _ _
    · intro y a b c d e f g h
      rw [F_m_pick_e2]
      split
      · exact i1 _ _ _ _ _ _ _ _ _
      · exact i2 _ _ _ _ _ _ _ _ _
theorem pk_0 : ∀ (n : Nat) (y : MS) (a b c d e f g h : Int), 0 ≤ d → (F_m_pick_s n 0 y a b c d e f g h).1 = 0 ∨ (0 ≤ (F_m_pick_s n 0 y a b c d e f g h).2.2 1 b.toNat ∧ (F_m_pick_s n 0 y a b c d e f g h).2.2 1 b.toNat ≤ 30) := by
  intro n
  induction n with
  | zero => intro y a b c d e f g h _; exact Or.inl rfl
  | succ n ih =>
    intro y a b c d e f g h d0
    rw [F_m_pick_e0]
    have key : d ≤ 30 → ∀ v : Int, (F_m_pick_s n 1 (aU (y) 1 (b).toNat (d)) a b v d 0 0 0 0).2.2 1 b.toNat = d := by
      intro hd v
      rw [(pk_1 n).1]
      exact iU_s
    by_cases c1 : 30 < d
    · rw [if_pos c1, if_neg (by omega)]; exact Or.inl rfl
    · rw [if_neg c1]
      by_cases c2 : iC c ((y.2 28) d.toNat) < 0
      · rw [if_pos c2, if_pos (by omega)]
        exact Or.inr ⟨by rw [key (by omega)]; exact d0, by rw [key (by omega)]; omega⟩
      · rw [if_neg c2]; exact ih _ _ _ _ _ _ _ _ _ (by omega)
theorem F_m_pick_b (x : MS) (i o : Int) : (F_m_pick x i o).1 = 0 ∨ (0 ≤ (F_m_pick x i o).2.2 1 o.toNat ∧ (F_m_pick x i o).2.2 1 o.toNat ≤ 30) := pk_0 1000 x i o i 0 0 0 0 0 (by omega)
theorem pk_01 : ∀ n : Nat, (∀ (y : MS) (a b c d e f g h : Int), (F_m_pick_s n 0 y a b c d e f g h).1 = 0 ∨ (F_m_pick_s n 0 y a b c d e f g h).1 = 1) ∧ (∀ (y : MS) (a b c d e f g h : Int), (F_m_pick_s n 1 y a b c d e f g h).1 = 0 ∨ (F_m_pick_s n 1 y a b c d e f g h).1 = 1) ∧ (∀ (y : MS) (a b c d e f g h : Int), (F_m_pick_s n 2 y a b c d e f g h).1 = 0 ∨ (F_m_pick_s n 2 y a b c d e f g h).1 = 1) := by
  intro n
  induction n with
  | zero => exact ⟨fun _ _ _ _ _ _ _ _ _ => Or.inl rfl, fun _ _ _ _ _ _ _ _ _ => Or.inl rfl, fun _ _ _ _ _ _ _ _ _ => Or.inl rfl⟩
  | succ n ih =>
    obtain ⟨i0, i1, i2⟩ := ih
    refine ⟨?_, ?_, ?_⟩
    · intro y a b c d e f g h
      rw [F_m_pick_e0]
      repeat' split
      all_goals first | exact Or.inl rfl | exact i1 _ _ _ _ _ _ _ _ _ | exact i0 _ _ _ _ _ _ _ _ _
    · intro y a b c d e f g h
      rw [F_m_pick_e1]
      split
      · exact Or.inr rfl
      · exact i2 _ _ _ _ _ _ _ _ _
    · intro y a b c d e f g h
      rw [F_m_pick_e2]
      split
      · exact i1 _ _ _ _ _ _ _ _ _
      · exact i2 _ _ _ _ _ _ _ _ _
theorem F_m_pick_01 (x : MS) (i o : Int) : (F_m_pick x i o).1 = 0 ∨ (F_m_pick x i o).1 = 1 := (pk_01 1000).1 x i o i 0 0 0 0 0
def F_m_nth (x : MS) (i0 : Int) (k : Int) : Int × MS := (if ((F_m_isSlot (x) (k)).1) = (0) then ((-1 : Int), x) else (if (0) ≤ (iC (i0) ((0 : Int))) then (if ((F_m_isMachine (x)).1) = (0) then ((-3 : Int), x) else (if ((F_m_pick (x) (i0) ((9 : Int))).1) = (0) then ((-9 : Int), (F_m_pick (x) (i0) ((9 : Int))).2) else ((((F_m_copy ((F_m_pick (x) (i0) ((9 : Int))).2) ((9 : Int)) (k)).2).2 1) (k).toNat, (F_m_copy ((F_m_pick (x) (i0) ((9 : Int))).2) ((9 : Int)) (k)).2))) else ((-2 : Int), x)))
set_option maxHeartbeats 4000000 in
set_option maxRecDepth 100000 in
/-- nth -/
theorem c_m_nth (l : Launch) (dC : Nat → ClassId) (dI : Nat → Nat → Nat) (h : Nat) (ad : Nat → Nat) (cI cJ cZ : ClassId) (sz : Nat) (x : MS) (i0 : Int) (k : Int) (sn : iR (x.1 6)) (ic : x.1 27 = 0 ∨ x.1 27 = 1) (ri : iRL i0) (rk : iR k) (au : auOK x) (st1 : 1 ≤ x.1 24) (hwy : wyR x) (hok : wyOK x) : Met l yX12_nth wsX12_nth ({ frames := 3, cells := 0, slots := 0, locals := 78 }) (mPc dC dI h ad cI cJ cZ sz x [.ref h, .long (iL i0), .int (iI k)]) (va_Qi (fun (r : Int32) (u : MS) => r = iI (F_m_nth (x) (i0) (k)).1 ∧ u = (F_m_nth (x) (i0) (k)).2) (mAt dC dI h ad cI cJ cZ (va_A (mW h ad cI cJ cZ (x)) sz)) (va_A (mW h ad cI cJ cZ (x)) sz)) 0 0 (va_A (mW h ad cI cJ cZ (x)) sz) := by
  refine Met.ofW (cc := cX12_nth) (maxL := 4) (ret := (some .int)) (by decide) rfl ?_
  intro p e s m args below meth c s₁ B hml hv
  obtain ⟨rfl, hsz, hP, hK, hD0⟩ := hv
  have hx := B.exec
  have hb := B.bytes
  have hr := B.returns
  have hts := atoms_spec (ws := wsX12_nth) B.pre
  have hown : s.vm.findClass RX12 = some m.cls := findClass_of_methodNamed B.named
  have hlocks := B.notSynchronized
  have hin : ∀ w ∈ u_ws RX12 TX12 34, w ∈ wsX12_nth := by decide +kernel
  subst hsz
  have hD := hD0.self (sz := s.heap.size)
  generalize hAe : va_A (mW h ad cI cJ cZ (x)) s.heap.size = A at hD ⊢
  have hA : ∀ q : Nat, s.heap.size ≤ q → A q := fun q h => by rw [← hAe]; exact Or.inr h
  have hS : va_S A s.heap s.heap [] := va_S.rf
  have hl := lv_entry ([.ref h, .long (iL i0), .int (iI k)]) (n := 4) (Nat.le_of_ble_eq_true rfl)
  rw [lg_entry_eq]
  generalize (lg_sl ([.ref h, .long (iL i0), .int (iI k)]) ++ List.replicate (4 - (lg_sl ([.ref h, .long (iL i0), .int (iI k)])).length) Slot.unset).toArray = ls at hl ⊢
  have hl : lv_has ls 4 [(0, .ref (h)), (1, .long (iL (i0))), (3, .int (iI (k)))] := hl
  have key : ∀ (H : Heap) (locs : List Loc), va_P (dC, dI) vwCl (mW h ad cI cJ cZ (x)) H → va_S A s.heap H locs → W p l e (headSpec wsX12_nth ({ frames := 3, cells := 0, slots := 0, locals := 78 })).room s m ([.ref h, .long (iL i0), .int (iI k)] : List Value).toArray below meth c H locs 0 0 (MQ below (va_Qi (fun (r : Int32) (u : MS) => r = iI (F_m_nth (x) (i0) (k)).1 ∧ u = (F_m_nth (x) (i0) (k)).2) (mAt dC dI h ad cI cJ cZ A) A) ([.ref h, .long (iL i0), .int (iI k)] : List Value).toArray s 0 0 A) (F0 m 0 ls []) := by
    intro H locs hP hS
    have hres : (if ((F_m_isSlot (x) (k)).1) = (0) then ((-1 : Int), x) else (if (0) ≤ (iC (i0) ((0 : Int))) then (if ((F_m_isMachine (x)).1) = (0) then ((-3 : Int), x) else (if ((F_m_pick (x) (i0) ((9 : Int))).1) = (0) then ((-9 : Int), (F_m_pick (x) (i0) ((9 : Int))).2) else ((((F_m_copy ((F_m_pick (x) (i0) ((9 : Int))).2) ((9 : Int)) (k)).2).2 1) (k).toNat, (F_m_copy ((F_m_pick (x) (i0) ((9 : Int))).2) ((9 : Int)) (k)).2))) else ((-2 : Int), x))) = F_m_nth (x) (i0) (k) := rfl
    refine lv_iload_n hx hb dX12_nth_0 rfl (lv_at hl 2 rfl) ?_
    have hFc : ∀ q, va_A (mW h ad cI cJ cZ (x)) H.size q → A q := fun q hq => Or.elim hq (fun ⟨k, e, hk⟩ => hD.2 k (q, e) hk) (fun hk => hA q (Nat.le_trans hS.1 hk))
    refine va_calli (va_runS (As := [.int (iI (k))]) (rest := []) ⟨hx, hb, hml, hown, hts⟩ (c_m_isSlot l dC dI h ad cI cJ cZ H.size (x) (k) (by first | assumption | exact iR_L (by assumption) | exact ⟨by decide, by decide⟩ | omega | (unfold iR; omega) | (unfold iRL; omega))) (va_cwS 1 hts gX12_nth_X12_isSlot rfl rfl rfl (by decide +kernel) ⟨Nat.le_of_ble_eq_true rfl, Nat.le_of_ble_eq_true rfl⟩) ⟨fun a U g mk q => by obtain ⟨q0, q1, qP, qK, qD⟩ := q; exact ⟨q0, q1, qP, va_K.moved (u := U) (U := U.calling g mk a) (Vm.Alike.refl U.vm) qK, qD⟩, fun U hU hW => ⟨rfl, by rw [hU], by rw [hU]; exact hP, va_K.moved hW.alike hK, hD.weaken (fun _ _ _ _ => trivial)⟩⟩ rfl rfl hl.1 rfl (lv_room (Nat.le_of_ble_eq_true rfl)) dX12_nth_1 ⟨Nat.le_of_ble_eq_true rfl, Nat.le_of_ble_eq_true rfl⟩) hS (fun q _ h => hFc q h) hFc (fun r9 u9 t H1 locs ht hvm hw hB hz1 hk1 hS => ?_)
    obtain ⟨hP1, hK1, hD1⟩ := hB
    rw [ht] at hP1
    obtain ⟨hw1, hw2⟩ := hw
    rw [hw2] at hP1 hD1
    rw [hw1]
    rw [F_m_isSlot_2] at hP1 hD1
    have hD2 := hD1.weaken (B := A) (fun _ q _ h => hFc q.1 h)
    have hP := hP1
    have hD := hD2
    generalize H1 = H at hP hS ⊢
    refine wi_if_ne (tgt := 9) hx hb (by rw [F_m_isSlot_1]; exact F_R01 (F_in_01 _ _ _)) dX12_nth_4 (by decide) (fun c_4 => ?_) (fun c_4 => ?_)
    · skip
      rw [if_neg c_4] at hres
      obtain ⟨k0, k1⟩ := F_in_1 (by rw [← F_m_isSlot_1 x k]; exact c_4)
      refine lv_lload_n hx hb dX12_nth_9 rfl (lv_at hl 1 rfl) ?_
      refine lv_lconst (v := iL 0) hx hb dX12_nth_10 (by decide) ?_
      refine wi_lcmp hx hb (by first | assumption | exact iR_L (by assumption) | (unfold iRL; omega)) ⟨by decide, by decide⟩ dX12_nth_11 ?_
      refine wi_if_ge (tgt := 18) hx hb iC_R dX12_nth_12 (by decide) (fun c_12 => ?_) (fun c_12 => ?_)
      · skip
        rw [if_pos c_12] at hres
        have ii0 : 0 ≤ i0 := by rcases Int.lt_trichotomy i0 0 with q9 | q9 | q9 <;> first | omega | (exfalso; have := (iC_lt (a := i0) (b := 0)).mpr q9; omega)
        refine lv_aload_n hx hb dX12_nth_18 rfl (lv_at hl 0 rfl) ?_
        have hFc : ∀ q, va_A (mW h ad cI cJ cZ (x)) H.size q → A q := fun q hq => Or.elim hq (fun ⟨k, e, hk⟩ => hD.2 k (q, e) hk) (fun hk => hA q (Nat.le_trans hS.1 hk))
        refine va_calli (va_runV (As := []) (rest := []) ⟨hx, hb, hml, hown, hts⟩ (c_m_isMachine l dC dI h ad cI cJ cZ H.size (x)  sn ic) (cwV 0 hts gX12_nth_X12_isMachine rfl rfl rfl (by decide +kernel) ⟨Nat.le_of_ble_eq_true rfl, Nat.le_of_ble_eq_true rfl⟩) ⟨fun a U g mk q => by obtain ⟨q0, q1, qP, qK, qD⟩ := q; exact ⟨q0, q1, qP, va_K.moved (u := U) (U := U.calling g mk a) (Vm.Alike.refl U.vm) qK, qD⟩, va_recv hK hP (ci := 12) (q0 := 0) rfl rfl, fun U hU hW => ⟨rfl, by rw [hU], by rw [hU]; exact hP, va_K.moved hW.alike hK, hD.weaken (fun _ _ _ _ => trivial)⟩⟩ rfl rfl hl.1 rfl (lv_room (Nat.le_of_ble_eq_true rfl)) dX12_nth_19 ⟨Nat.le_of_ble_eq_true rfl, Nat.le_of_ble_eq_true rfl⟩) hS (fun q _ h => hFc q h) hFc (fun r9 u9 t H1 locs ht hvm hw hB hz1 hk1 hS => ?_)
        obtain ⟨hP1, hK1, hD1⟩ := hB
        rw [ht] at hP1
        obtain ⟨hw1, hw2⟩ := hw
        rw [hw2] at hP1 hD1
        rw [hw1]
        rw [F_m_isMachine_2] at hP1 hD1
        have hD2 := hD1.weaken (B := A) (fun _ q _ h => hFc q.1 h)
        have hP := hP1
        have hD := hD2
        generalize H1 = H at hP hS ⊢
        refine wi_if_ne (tgt := 28) hx hb (F_R01 (F_m_isMachine_01 x)) dX12_nth_22 (by decide) (fun c_22 => ?_) (fun c_22 => ?_)
        · skip
          rw [if_neg c_22] at hres
          refine lv_aload_n hx hb dX12_nth_28 rfl (lv_at hl 0 rfl) ?_
          refine lv_lload_n hx hb dX12_nth_29 rfl (lv_at hl 1 rfl) ?_
          refine lv_bipush (v := iI (9 : Int)) hx hb dX12_nth_30 (by decide) ?_
          have hFc : ∀ q, va_A (mW h ad cI cJ cZ (x)) H.size q → A q := fun q hq => Or.elim hq (fun ⟨k, e, hk⟩ => hD.2 k (q, e) hk) (fun hk => hA q (Nat.le_trans hS.1 hk))
          refine va_calli (va_runV (As := [.long (iL (i0)), .int (iI ((9 : Int)))]) (rest := []) ⟨hx, hb, hml, hown, hts⟩ (c_m_pick l dC dI h ad cI cJ cZ H.size (x) (i0) ((9 : Int)) ri ii0 (by omega) (by omega) au st1 hwy hok) (cwV 2 hts gX12_nth_X12_pick rfl rfl rfl (by decide +kernel) ⟨Nat.le_of_ble_eq_true rfl, Nat.le_of_ble_eq_true rfl⟩) ⟨fun a U g mk q => by obtain ⟨q0, q1, qP, qK, qD⟩ := q; exact ⟨q0, q1, qP, va_K.moved (u := U) (U := U.calling g mk a) (Vm.Alike.refl U.vm) qK, qD⟩, va_recv hK hP (ci := 12) (q0 := 0) rfl rfl, fun U hU hW => ⟨rfl, by rw [hU], by rw [hU]; exact hP, va_K.moved hW.alike hK, hD.weaken (fun _ _ _ _ => trivial)⟩⟩ rfl rfl hl.1 rfl (lv_room (Nat.le_of_ble_eq_true rfl)) dX12_nth_32 ⟨Nat.le_of_ble_eq_true rfl, Nat.le_of_ble_eq_true rfl⟩) hS (fun q _ h => hFc q h) hFc (fun r9 u9 t H1 locs ht hvm hw hB hz1 hk1 hS => ?_)
          obtain ⟨hP1, hK1, hD1⟩ := hB
          rw [ht] at hP1
          obtain ⟨hw1, hw2⟩ := hw
          rw [hw2] at hP1 hD1
          rw [hw1]
          have hD2 := hD1.weaken (B := A) (fun _ q _ h => hFc q.1 h)
          have hP := hP1
          have hD := hD2
          generalize H1 = H at hP hS ⊢
          refine wi_if_ne (tgt := 41) hx hb (F_R01 (F_m_pick_01 _ _ _)) dX12_nth_35 (by decide) (fun c_35 => ?_) (fun c_35 => ?_)
          · skip
            rw [if_neg c_35] at hres
            have pb := (F_m_pick_b x i0 9).resolve_left c_35
            refine lv_aload_n hx hb dX12_nth_41 rfl (lv_at hl 0 rfl) ?_
            refine lv_bipush (v := iI (9 : Int)) hx hb dX12_nth_42 (by decide) ?_
            refine lv_iload_n hx hb dX12_nth_44 rfl (lv_at hl 2 rfl) ?_
            have hFc : ∀ q, va_A (mW h ad cI cJ cZ ((F_m_pick (x) (i0) ((9 : Int))).2)) H.size q → A q := fun q hq => Or.elim hq (fun ⟨k, e, hk⟩ => hD.2 k (q, e) hk) (fun hk => hA q (Nat.le_trans hS.1 hk))
            refine va_callv (va_runV (As := [.int (iI ((9 : Int))), .int (iI (k))]) (rest := []) ⟨hx, hb, hml, hown, hts⟩ (c_m_copy l dC dI h ad cI cJ cZ H.size ((F_m_pick (x) (i0) ((9 : Int))).2) ((9 : Int)) (k) (by omega) (by omega) (by omega) (by omega) pb.1 (by have := pb.2; omega)) (cwV 2 hts gX12_nth_X12_copy rfl rfl rfl (by decide +kernel) ⟨Nat.le_of_ble_eq_true rfl, Nat.le_of_ble_eq_true rfl⟩) ⟨fun a U g mk q => by obtain ⟨q0, q1, qP, qK, qD⟩ := q; exact ⟨q0, q1, qP, va_K.moved (u := U) (U := U.calling g mk a) (Vm.Alike.refl U.vm) qK, qD⟩, va_recv hK hP (ci := 12) (q0 := 0) rfl rfl, fun U hU hW => ⟨rfl, by rw [hU], by rw [hU]; exact hP, va_K.moved hW.alike hK, hD.weaken (fun _ _ _ _ => trivial)⟩⟩ rfl rfl hl.1 rfl (lv_room (Nat.le_of_ble_eq_true rfl)) dX12_nth_45 ⟨Nat.le_of_ble_eq_true rfl, Nat.le_of_ble_eq_true rfl⟩) hS (fun q _ h => hFc q h) hFc (fun u9 t H1 locs ht hvm hw hB hz1 hk1 hS => ?_)
            obtain ⟨hP1, hK1, hD1⟩ := hB
            rw [ht] at hP1
            rw [hw] at hP1 hD1
            have hD2 := hD1.weaken (B := A) (fun _ q _ h => hFc q.1 h)
            have hP := hP1
            have hD := hD2
            generalize H1 = H at hP hS ⊢
            refine lv_aload_n hx hb dX12_nth_48 rfl (lv_at hl 0 rfl) ?_
            refine va_get (D := (dC, dI)) (ci := 12) (v := .ref (ad 1)) (C := RX12) (T := TX12) (N := 34) hx hb hts hin hown hK hP 0 rfl rfl 1 (by decide) (hts (.fieldLink RX12 13 "LikeWordsModel" "size" "[I") (by decide +kernel)) (fun _ h9 => h9) rfl dX12_nth_49 ?_
            refine lv_iload_n hx hb dX12_nth_52 rfl (lv_at hl 2 rfl) ?_
            refine wi_iald (f := ((F_m_copy ((F_m_pick (x) (i0) ((9 : Int))).2) ((9 : Int)) (k)).2).2 1) hx hb hK hP 1 0 rfl rfl (i := k) (by omega) (by omega) (by decide) dX12_nth_53 ?_
            exact W.iret (v := iI ((((F_m_copy ((F_m_pick (x) (i0) ((9 : Int))).2) ((9 : Int)) (k)).2).2 1) (k).toNat)) hx hb hr (fun t ht hW => ⟨⟨iI ((((F_m_copy ((F_m_pick (x) (i0) ((9 : Int))).2) ((9 : Int)) (k)).2).2 1) (k).toNat), (F_m_copy ((F_m_pick (x) (i0) ((9 : Int))).2) ((9 : Int)) (k)).2, rfl, ⟨(by have h9 := congrArg (fun z : Int × MS => iI z.1) hres; exact h9), (by have h9 := congrArg (fun z : Int × MS => z.2) hres; exact h9)⟩, by rw [ht]; exact hP, va_K.moved hW.alike hK, hD⟩, hS.F ht⟩) hS.2.2 dX12_nth_54
          · skip
            rw [if_pos c_35] at hres
            refine lv_bipush (v := iI (-9 : Int)) hx hb dX12_nth_38 (by decide) ?_
            exact W.iret (v := iI ((-9 : Int))) hx hb hr (fun t ht hW => ⟨⟨iI ((-9 : Int)), (F_m_pick (x) (i0) ((9 : Int))).2, rfl, ⟨(by have h9 := congrArg (fun z : Int × MS => iI z.1) hres; exact h9), (by have h9 := congrArg (fun z : Int × MS => z.2) hres; exact h9)⟩, by rw [ht]; exact hP, va_K.moved hW.alike hK, hD⟩, hS.F ht⟩) hS.2.2 dX12_nth_40
        · skip
          rw [if_pos c_22] at hres
          refine lv_bipush (v := iI (-3 : Int)) hx hb dX12_nth_25 (by decide) ?_
          exact W.iret (v := iI ((-3 : Int))) hx hb hr (fun t ht hW => ⟨⟨iI ((-3 : Int)), x, rfl, ⟨(by have h9 := congrArg (fun z : Int × MS => iI z.1) hres; exact h9), (by have h9 := congrArg (fun z : Int × MS => z.2) hres; exact h9)⟩, by rw [ht]; exact hP, va_K.moved hW.alike hK, hD⟩, hS.F ht⟩) hS.2.2 dX12_nth_27
      · skip
        rw [if_neg c_12] at hres
        refine lv_bipush (v := iI (-2 : Int)) hx hb dX12_nth_15 (by decide) ?_
        exact W.iret (v := iI ((-2 : Int))) hx hb hr (fun t ht hW => ⟨⟨iI ((-2 : Int)), x, rfl, ⟨(by have h9 := congrArg (fun z : Int × MS => iI z.1) hres; exact h9), (by have h9 := congrArg (fun z : Int × MS => z.2) hres; exact h9)⟩, by rw [ht]; exact hP, va_K.moved hW.alike hK, hD⟩, hS.F ht⟩) hS.2.2 dX12_nth_17
    · skip
      rw [if_pos c_4] at hres
      refine lv_iconst (v := iI (-1 : Int)) hx hb dX12_nth_7 (by decide) ?_
      exact W.iret (v := iI ((-1 : Int))) hx hb hr (fun t ht hW => ⟨⟨iI ((-1 : Int)), x, rfl, ⟨(by have h9 := congrArg (fun z : Int × MS => iI z.1) hres; exact h9), (by have h9 := congrArg (fun z : Int × MS => z.2) hres; exact h9)⟩, by rw [ht]; exact hP, va_K.moved hW.alike hK, hD⟩, hS.F ht⟩) hS.2.2 dX12_nth_8
  exact key _ _ hP hS
theorem F_m_nth_fr (x : MS) (i0 : Int) (k : Int) : same [] [1, 2] x (F_m_nth (x) (i0) (k)).2 := by
  unfold F_m_nth
  by_cases hc : ((F_m_isSlot (x) (k)).1) = (0)
  · rw [if_pos hc]
    exact (sm_rf _ _ _)
  · rw [if_neg hc]
    by_cases hc : (0) ≤ (iC (i0) ((0 : Int)))
    · rw [if_pos hc]
      by_cases hc : ((F_m_isMachine (x)).1) = (0)
      · rw [if_pos hc]
        exact (sm_rf _ _ _)
      · rw [if_neg hc]
        by_cases hc : ((F_m_pick (x) (i0) ((9 : Int))).1) = (0)
        · rw [if_pos hc]
          exact (sm_tr (sm_rf _ _ _) (sm_mono (by decide) (by decide) (F_m_pick_fr (x) (i0) ((9 : Int)))))
        · rw [if_neg hc]
          exact (sm_tr (sm_tr (sm_rf _ _ _) (sm_mono (by decide) (by decide) (F_m_pick_fr (x) (i0) ((9 : Int))))) (sm_mono (by decide) (by decide) (F_m_copy_fr ((F_m_pick (x) (i0) ((9 : Int))).2) ((9 : Int)) (k))))
    · rw [if_neg hc]
      exact (sm_rf _ _ _)
