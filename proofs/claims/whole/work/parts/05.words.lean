section WJ
variable {p : Program} {l : Launch} {e : Env} {R : Room} {s : State} {m : MethodId} {args : Array Value} {below : List Frame} {meth : Method} {c : Code} {H : Heap} {locs : List Loc} {cells slots : Nat} {Q : State → Prop} {cc : ByteArray} {pc : Nat} {ls : Array Slot} {rest : List Value}
theorem iL_i {z : Int} (h : iR z) : (iL z).toInt32 = iI z := by
  rw [← iI_l h, Int32.toInt32_toInt64]
theorem wi_l2i (hx : p.tables.exec = Jvm.exec) (hb : c.code = cc) {a : Int} (ha : iR a) (hdg : decode cc pc = .ok (.l2i, 1)) (k : W p l e R s m args below meth c H locs cells slots Q (F0 m (pc + 1) ls (.int (iI a) :: rest))) : W p l e R s m args below meth c H locs cells slots Q (F0 m pc ls (.long (iL a) :: rest)) := lv_l2i hx hb hdg (iL_i ha) k
end WJ
def F_m_letter (x : MS) (z : Int) : Int × MS := (if ((F_m_in (x) (z) ((0 : Int)) (((x).1 0) - ((1 : Int)))).1) = (0) then ((-1 : Int), x) else (if (((x).2 1) ((8 : Int)).toNat) = ((60 : Int)) then ((-4 : Int), x) else ((iU ((x).2 1) ((8 : Int)).toNat ((((x).2 1) ((8 : Int)).toNat) + ((1 : Int)))) ((8 : Int)).toNat, aU (aU (x) 2 (((1024 : Int)) + (((x).2 1) ((8 : Int)).toNat)).toNat (z)) 1 ((8 : Int)).toNat ((((x).2 1) ((8 : Int)).toNat) + ((1 : Int))))))
set_option maxHeartbeats 4000000 in
set_option maxRecDepth 100000 in
/-- letter -/
theorem c_m_letter (l : Launch) (dC : Nat → ClassId) (dI : Nat → Nat → Nat) (h : Nat) (ad : Nat → Nat) (cI cJ cZ : ClassId) (sz : Nat) (x : MS) (z : Int) (rc : iR z) (lt : 1 ≤ x.1 0 ∧ x.1 0 ≤ 4) (zs : ∀ k : Nat, k < 13 → 0 ≤ x.2 1 k ∧ x.2 1 k ≤ 60) : Met l yX12_letter wsX12_letter ({ frames := 1, cells := 0, slots := 0, locals := 25 }) (mPc dC dI h ad cI cJ cZ sz x [.ref h, .int (iI z)]) (va_Qi (fun (r : Int32) (u : MS) => r = iI (F_m_letter (x) (z)).1 ∧ u = (F_m_letter (x) (z)).2) (mAt dC dI h ad cI cJ cZ (va_A (mW h ad cI cJ cZ (x)) sz)) (va_A (mW h ad cI cJ cZ (x)) sz)) 0 0 (va_A (mW h ad cI cJ cZ (x)) sz) := by
  refine Met.ofW (cc := cX12_letter) (maxL := 2) (ret := (some .int)) (by decide) rfl ?_
  intro p e s m args below meth c s₁ B hml hv
  obtain ⟨rfl, hsz, hP, hK, hD0⟩ := hv
  have hx := B.exec
  have hb := B.bytes
  have hr := B.returns
  have hts := atoms_spec (ws := wsX12_letter) B.pre
  have hown : s.vm.findClass RX12 = some m.cls := findClass_of_methodNamed B.named
  have hlocks := B.notSynchronized
  have hin : ∀ w ∈ u_ws RX12 TX12 34, w ∈ wsX12_letter := by decide +kernel
  subst hsz
  have hD := hD0.self (sz := s.heap.size)
  generalize hAe : va_A (mW h ad cI cJ cZ (x)) s.heap.size = A at hD ⊢
  have hA : ∀ q : Nat, s.heap.size ≤ q → A q := fun q h => by rw [← hAe]; exact Or.inr h
  have hS : va_S A s.heap s.heap [] := va_S.rf
  have hl := lv_entry ([.ref h, .int (iI z)]) (n := 2) (Nat.le_of_ble_eq_true rfl)
  rw [lg_entry_eq]
  generalize (lg_sl ([.ref h, .int (iI z)]) ++ List.replicate (2 - (lg_sl ([.ref h, .int (iI z)])).length) Slot.unset).toArray = ls at hl ⊢
  have hl : lv_has ls 2 [(0, .ref (h)), (1, .int (iI (z)))] := hl
  have key : ∀ (H : Heap) (locs : List Loc), va_P (dC, dI) vwCl (mW h ad cI cJ cZ (x)) H → va_S A s.heap H locs → W p l e (headSpec wsX12_letter ({ frames := 1, cells := 0, slots := 0, locals := 25 })).room s m ([.ref h, .int (iI z)] : List Value).toArray below meth c H locs 0 0 (MQ below (va_Qi (fun (r : Int32) (u : MS) => r = iI (F_m_letter (x) (z)).1 ∧ u = (F_m_letter (x) (z)).2) (mAt dC dI h ad cI cJ cZ A) A) ([.ref h, .int (iI z)] : List Value).toArray s 0 0 A) (F0 m 0 ls []) := by
    intro H locs hP hS
    have hres : (if ((F_m_in (x) (z) ((0 : Int)) (((x).1 0) - ((1 : Int)))).1) = (0) then ((-1 : Int), x) else (if (((x).2 1) ((8 : Int)).toNat) = ((60 : Int)) then ((-4 : Int), x) else ((iU ((x).2 1) ((8 : Int)).toNat ((((x).2 1) ((8 : Int)).toNat) + ((1 : Int)))) ((8 : Int)).toNat, aU (aU (x) 2 (((1024 : Int)) + (((x).2 1) ((8 : Int)).toNat)).toNat (z)) 1 ((8 : Int)).toNat ((((x).2 1) ((8 : Int)).toNat) + ((1 : Int)))))) = F_m_letter (x) (z) := rfl
    obtain ⟨z0, z1⟩ := zs 8 (by omega)
    obtain ⟨l0, l1⟩ := lt
    refine lv_iload_n hx hb dX12_letter_0 rfl (lv_at hl 1 rfl) ?_
    refine wi_i2l hx hb (by first | assumption | (unfold iR; omega) | exact F_R01 (by assumption)) dX12_letter_1 ?_
    refine lv_lconst (v := iL 0) hx hb dX12_letter_2 (by decide) ?_
    refine lv_aload_n hx hb dX12_letter_3 rfl (lv_at hl 0 rfl) ?_
    refine va_get (D := (dC, dI)) (ci := 12) (v := .int (iI ((x).1 0))) (C := RX12) (T := TX12) (N := 34) hx hb hts hin hown hK hP 0 rfl rfl 0 (by decide) (hts (.fieldLink RX12 7 "LikeWordsModel" "letters" "I") (by decide +kernel)) (fun _ h9 => h9) rfl dX12_letter_4 ?_
    refine lv_iconst (v := iI (1 : Int)) hx hb dX12_letter_7 (by decide) ?_
    refine wi_isub hx hb dX12_letter_8 ?_
    refine wi_i2l hx hb (by unfold iR; omega) dX12_letter_9 ?_
    have hFc : ∀ q, va_A (mW h ad cI cJ cZ (x)) H.size q → A q := fun q hq => Or.elim hq (fun ⟨k, e, hk⟩ => hD.2 k (q, e) hk) (fun hk => hA q (Nat.le_trans hS.1 hk))
    refine va_calli (va_runS (As := [.long (iL (z)), .long (iL ((0 : Int))), .long (iL (((x).1 0) - ((1 : Int))))]) (rest := []) ⟨hx, hb, hml, hown, hts⟩ (c_m_in l dC dI h ad cI cJ cZ H.size (x) (z) ((0 : Int)) (((x).1 0) - ((1 : Int))) (iR_L rc) ⟨by decide, by decide⟩ (by unfold iRL; omega)) (va_cwS 3 hts gX12_letter_X12_in rfl rfl rfl (by decide +kernel) ⟨Nat.le_of_ble_eq_true rfl, Nat.le_of_ble_eq_true rfl⟩) ⟨fun a U g mk q => by obtain ⟨q0, q1, qP, qK, qD⟩ := q; exact ⟨q0, q1, qP, va_K.moved (u := U) (U := U.calling g mk a) (Vm.Alike.refl U.vm) qK, qD⟩, fun U hU hW => ⟨rfl, by rw [hU], by rw [hU]; exact hP, va_K.moved hW.alike hK, hD.weaken (fun _ _ _ _ => trivial)⟩⟩ rfl rfl hl.1 rfl (lv_room (Nat.le_of_ble_eq_true rfl)) dX12_letter_10 ⟨Nat.le_of_ble_eq_true rfl, Nat.le_of_ble_eq_true rfl⟩) hS (fun q _ h => hFc q h) hFc (fun r9 u9 t H1 locs ht hvm hw hB hz1 hk1 hS => ?_)
    obtain ⟨hP1, hK1, hD1⟩ := hB
    rw [ht] at hP1
    obtain ⟨hw1, hw2⟩ := hw
    rw [hw2] at hP1 hD1
    rw [hw1]
    rw [F_m_in_2] at hP1 hD1
    have hD2 := hD1.weaken (B := A) (fun _ q _ h => hFc q.1 h)
    have hP := hP1
    have hD := hD2
    generalize H1 = H at hP hS ⊢
    refine wi_if_ne (tgt := 18) hx hb (by rw [F_m_in_1]; exact F_R01 (F_in_01 _ _ _)) dX12_letter_13 (by decide) (fun c_13 => ?_) (fun c_13 => ?_)
    · skip
      rw [if_neg c_13] at hres
      have e8 : ((x).2 1) ((8 : Int)).toNat = x.2 1 8 := rfl
      refine lv_aload_n hx hb dX12_letter_18 rfl (lv_at hl 0 rfl) ?_
      refine va_get (D := (dC, dI)) (ci := 12) (v := .ref (ad 1)) (C := RX12) (T := TX12) (N := 34) hx hb hts hin hown hK hP 0 rfl rfl 1 (by decide) (hts (.fieldLink RX12 13 "LikeWordsModel" "size" "[I") (by decide +kernel)) (fun _ h9 => h9) rfl dX12_letter_19 ?_
      refine lv_bipush (v := iI (8 : Int)) hx hb dX12_letter_22 (by decide) ?_
      refine wi_iald (f := (x).2 1) hx hb hK hP 1 0 rfl rfl (i := (8 : Int)) (by omega) (by omega) (by decide) dX12_letter_24 ?_
      refine lv_bipush (v := iI (60 : Int)) hx hb dX12_letter_25 (by decide) ?_
      refine wi_icmp_ne (tgt := 33) hx hb (by first | assumption | (unfold iR; omega) | exact F_R01 (by assumption)) ⟨by decide, by decide⟩ dX12_letter_27 (by decide) (fun c_27 => ?_) (fun c_27 => ?_)
      · skip
        rw [if_neg c_27] at hres
        have e8 : ((x).2 1) ((8 : Int)).toNat = x.2 1 8 := rfl
        refine lv_aload_n hx hb dX12_letter_33 rfl (lv_at hl 0 rfl) ?_
        refine va_get (D := (dC, dI)) (ci := 12) (v := .ref (ad 2)) (C := RX12) (T := TX12) (N := 34) hx hb hts hin hown hK hP 0 rfl rfl 2 (by decide) (hts (.fieldLink RX12 17 "LikeWordsModel" "row" "[I") (by decide +kernel)) (fun _ h9 => h9) rfl dX12_letter_34 ?_
        refine lv_sipush (v := iI (1024 : Int)) hx hb dX12_letter_37 (by decide) ?_
        refine lv_aload_n hx hb dX12_letter_40 rfl (lv_at hl 0 rfl) ?_
        refine va_get (D := (dC, dI)) (ci := 12) (v := .ref (ad 1)) (C := RX12) (T := TX12) (N := 34) hx hb hts hin hown hK hP 0 rfl rfl 1 (by decide) (hts (.fieldLink RX12 13 "LikeWordsModel" "size" "[I") (by decide +kernel)) (fun _ h9 => h9) rfl dX12_letter_41 ?_
        refine lv_bipush (v := iI (8 : Int)) hx hb dX12_letter_44 (by decide) ?_
        refine wi_iald (f := (x).2 1) hx hb hK hP 1 0 rfl rfl (i := (8 : Int)) (by omega) (by omega) (by decide) dX12_letter_46 ?_
        refine wi_iadd hx hb dX12_letter_47 ?_
        refine lv_iload_n hx hb dX12_letter_48 rfl (lv_at hl 1 rfl) ?_
        refine wi_iast (f := (x).2 2) hx hb hK hP hD hS 2 0 rfl rfl (i := ((1024 : Int)) + (((x).2 1) ((8 : Int)).toNat)) (x := z) (by omega) (by omega) (by decide) dX12_letter_49 (fun H locs hP hD hS => ?_)
        rw [mW_a2] at hP hD
        refine lv_aload_n hx hb dX12_letter_50 rfl (lv_at hl 0 rfl) ?_
        refine va_get (D := (dC, dI)) (ci := 12) (v := .ref (ad 1)) (C := RX12) (T := TX12) (N := 34) hx hb hts hin hown hK hP 0 rfl rfl 1 (by decide) (hts (.fieldLink RX12 13 "LikeWordsModel" "size" "[I") (by decide +kernel)) (fun _ h9 => h9) rfl dX12_letter_51 ?_
        refine lv_bipush (v := iI (8 : Int)) hx hb dX12_letter_54 (by decide) ?_
        refine lv_dup2_11 hx hb dX12_letter_56 rfl rfl ?_
        refine wi_iald (f := (x).2 1) hx hb hK hP 1 0 rfl rfl (i := (8 : Int)) (by omega) (by omega) (by decide) dX12_letter_57 ?_
        refine lv_iconst (v := iI (1 : Int)) hx hb dX12_letter_58 (by decide) ?_
        refine wi_iadd hx hb dX12_letter_59 ?_
        refine wi_iast (f := (aU (x) 2 (((1024 : Int)) + (((x).2 1) ((8 : Int)).toNat)).toNat (z)).2 1) hx hb hK hP hD hS 1 0 rfl rfl (i := (8 : Int)) (x := (((x).2 1) ((8 : Int)).toNat) + ((1 : Int))) (by omega) (by omega) (by decide) dX12_letter_60 (fun H locs hP hD hS => ?_)
        rw [mW_a1] at hP hD
        refine lv_aload_n hx hb dX12_letter_61 rfl (lv_at hl 0 rfl) ?_
        refine va_get (D := (dC, dI)) (ci := 12) (v := .ref (ad 1)) (C := RX12) (T := TX12) (N := 34) hx hb hts hin hown hK hP 0 rfl rfl 1 (by decide) (hts (.fieldLink RX12 13 "LikeWordsModel" "size" "[I") (by decide +kernel)) (fun _ h9 => h9) rfl dX12_letter_62 ?_
        refine lv_bipush (v := iI (8 : Int)) hx hb dX12_letter_65 (by decide) ?_
        refine wi_iald (f := iU ((x).2 1) ((8 : Int)).toNat ((((x).2 1) ((8 : Int)).toNat) + ((1 : Int)))) hx hb hK hP 1 0 rfl rfl (i := (8 : Int)) (by omega) (by omega) (by decide) dX12_letter_67 ?_
        exact W.iret (v := iI ((iU ((x).2 1) ((8 : Int)).toNat ((((x).2 1) ((8 : Int)).toNat) + ((1 : Int)))) ((8 : Int)).toNat)) hx hb hr (fun t ht hW => ⟨⟨iI ((iU ((x).2 1) ((8 : Int)).toNat ((((x).2 1) ((8 : Int)).toNat) + ((1 : Int)))) ((8 : Int)).toNat), aU (aU (x) 2 (((1024 : Int)) + (((x).2 1) ((8 : Int)).toNat)).toNat (z)) 1 ((8 : Int)).toNat ((((x).2 1) ((8 : Int)).toNat) + ((1 : Int))), rfl, ⟨(by have h9 := congrArg (fun z : Int × MS => iI z.1) hres; exact h9), (by have h9 := congrArg (fun z : Int × MS => z.2) hres; exact h9)⟩, by rw [ht]; exact hP, va_K.moved hW.alike hK, hD⟩, hS.F ht⟩) hS.2.2 dX12_letter_68
      · skip
        rw [if_pos c_27] at hres
        refine lv_bipush (v := iI (-4 : Int)) hx hb dX12_letter_30 (by decide) ?_
        exact W.iret (v := iI ((-4 : Int))) hx hb hr (fun t ht hW => ⟨⟨iI ((-4 : Int)), x, rfl, ⟨(by have h9 := congrArg (fun z : Int × MS => iI z.1) hres; exact h9), (by have h9 := congrArg (fun z : Int × MS => z.2) hres; exact h9)⟩, by rw [ht]; exact hP, va_K.moved hW.alike hK, hD⟩, hS.F ht⟩) hS.2.2 dX12_letter_32
    · skip
      rw [if_pos c_13] at hres
      refine lv_iconst (v := iI (-1 : Int)) hx hb dX12_letter_16 (by decide) ?_
      exact W.iret (v := iI ((-1 : Int))) hx hb hr (fun t ht hW => ⟨⟨iI ((-1 : Int)), x, rfl, ⟨(by have h9 := congrArg (fun z : Int × MS => iI z.1) hres; exact h9), (by have h9 := congrArg (fun z : Int × MS => z.2) hres; exact h9)⟩, by rw [ht]; exact hP, va_K.moved hW.alike hK, hD⟩, hS.F ht⟩) hS.2.2 dX12_letter_17
  exact key _ _ hP hS
theorem F_m_letter_fr (x : MS) (z : Int) : same [] [1, 2] x (F_m_letter (x) (z)).2 := by
  unfold F_m_letter
  by_cases hc : ((F_m_in (x) (z) ((0 : Int)) (((x).1 0) - ((1 : Int)))).1) = (0)
  · rw [if_pos hc]
    exact (sm_rf _ _ _)
  · rw [if_neg hc]
    by_cases hc : (((x).2 1) ((8 : Int)).toNat) = ((60 : Int))
    · rw [if_pos hc]
      exact (sm_rf _ _ _)
    · rw [if_neg hc]
      exact (sm_a (by decide) (sm_a (by decide) (sm_rf _ _ _)))
def F_m_slot (x : MS) (k : Int) : Int × MS := (if ((F_m_isSlot (x) (k)).1) = (0) then ((-1 : Int), x) else ((iU (((F_m_copy (x) ((8 : Int)) (k)).2).2 1) ((8 : Int)).toNat ((0 : Int))) (k).toNat, aU ((F_m_copy (x) ((8 : Int)) (k)).2) 1 ((8 : Int)).toNat ((0 : Int))))
set_option maxHeartbeats 4000000 in
set_option maxRecDepth 100000 in
/-- slot -/
theorem c_m_slot (l : Launch) (dC : Nat → ClassId) (dI : Nat → Nat → Nat) (h : Nat) (ad : Nat → Nat) (cI cJ cZ : ClassId) (sz : Nat) (x : MS) (k : Int) (rk : iR k) (zs : ∀ k : Nat, k < 13 → 0 ≤ x.2 1 k ∧ x.2 1 k ≤ 60) : Met l yX12_slot wsX12_slot ({ frames := 2, cells := 0, slots := 0, locals := 45 }) (mPc dC dI h ad cI cJ cZ sz x [.ref h, .int (iI k)]) (va_Qi (fun (r : Int32) (u : MS) => r = iI (F_m_slot (x) (k)).1 ∧ u = (F_m_slot (x) (k)).2) (mAt dC dI h ad cI cJ cZ (va_A (mW h ad cI cJ cZ (x)) sz)) (va_A (mW h ad cI cJ cZ (x)) sz)) 0 0 (va_A (mW h ad cI cJ cZ (x)) sz) := by
  refine Met.ofW (cc := cX12_slot) (maxL := 2) (ret := (some .int)) (by decide) rfl ?_
  intro p e s m args below meth c s₁ B hml hv
  obtain ⟨rfl, hsz, hP, hK, hD0⟩ := hv
  have hx := B.exec
  have hb := B.bytes
  have hr := B.returns
  have hts := atoms_spec (ws := wsX12_slot) B.pre
  have hown : s.vm.findClass RX12 = some m.cls := findClass_of_methodNamed B.named
  have hlocks := B.notSynchronized
  have hin : ∀ w ∈ u_ws RX12 TX12 34, w ∈ wsX12_slot := by decide +kernel
  subst hsz
  have hD := hD0.self (sz := s.heap.size)
  generalize hAe : va_A (mW h ad cI cJ cZ (x)) s.heap.size = A at hD ⊢
  have hA : ∀ q : Nat, s.heap.size ≤ q → A q := fun q h => by rw [← hAe]; exact Or.inr h
  have hS : va_S A s.heap s.heap [] := va_S.rf
  have hl := lv_entry ([.ref h, .int (iI k)]) (n := 2) (Nat.le_of_ble_eq_true rfl)
  rw [lg_entry_eq]
  generalize (lg_sl ([.ref h, .int (iI k)]) ++ List.replicate (2 - (lg_sl ([.ref h, .int (iI k)])).length) Slot.unset).toArray = ls at hl ⊢
  have hl : lv_has ls 2 [(0, .ref (h)), (1, .int (iI (k)))] := hl
  have key : ∀ (H : Heap) (locs : List Loc), va_P (dC, dI) vwCl (mW h ad cI cJ cZ (x)) H → va_S A s.heap H locs → W p l e (headSpec wsX12_slot ({ frames := 2, cells := 0, slots := 0, locals := 45 })).room s m ([.ref h, .int (iI k)] : List Value).toArray below meth c H locs 0 0 (MQ below (va_Qi (fun (r : Int32) (u : MS) => r = iI (F_m_slot (x) (k)).1 ∧ u = (F_m_slot (x) (k)).2) (mAt dC dI h ad cI cJ cZ A) A) ([.ref h, .int (iI k)] : List Value).toArray s 0 0 A) (F0 m 0 ls []) := by
    intro H locs hP hS
    have hres : (if ((F_m_isSlot (x) (k)).1) = (0) then ((-1 : Int), x) else ((iU (((F_m_copy (x) ((8 : Int)) (k)).2).2 1) ((8 : Int)).toNat ((0 : Int))) (k).toNat, aU ((F_m_copy (x) ((8 : Int)) (k)).2) 1 ((8 : Int)).toNat ((0 : Int)))) = F_m_slot (x) (k) := rfl
    refine lv_iload_n hx hb dX12_slot_0 rfl (lv_at hl 1 rfl) ?_
    have hFc : ∀ q, va_A (mW h ad cI cJ cZ (x)) H.size q → A q := fun q hq => Or.elim hq (fun ⟨k, e, hk⟩ => hD.2 k (q, e) hk) (fun hk => hA q (Nat.le_trans hS.1 hk))
    refine va_calli (va_runS (As := [.int (iI (k))]) (rest := []) ⟨hx, hb, hml, hown, hts⟩ (c_m_isSlot l dC dI h ad cI cJ cZ H.size (x) (k) (by first | assumption | exact iR_L (by assumption) | exact ⟨by decide, by decide⟩ | omega | (unfold iR; omega) | (unfold iRL; omega))) (va_cwS 1 hts gX12_slot_X12_isSlot rfl rfl rfl (by decide +kernel) ⟨Nat.le_of_ble_eq_true rfl, Nat.le_of_ble_eq_true rfl⟩) ⟨fun a U g mk q => by obtain ⟨q0, q1, qP, qK, qD⟩ := q; exact ⟨q0, q1, qP, va_K.moved (u := U) (U := U.calling g mk a) (Vm.Alike.refl U.vm) qK, qD⟩, fun U hU hW => ⟨rfl, by rw [hU], by rw [hU]; exact hP, va_K.moved hW.alike hK, hD.weaken (fun _ _ _ _ => trivial)⟩⟩ rfl rfl hl.1 rfl (lv_room (Nat.le_of_ble_eq_true rfl)) dX12_slot_1 ⟨Nat.le_of_ble_eq_true rfl, Nat.le_of_ble_eq_true rfl⟩) hS (fun q _ h => hFc q h) hFc (fun r9 u9 t H1 locs ht hvm hw hB hz1 hk1 hS => ?_)
    obtain ⟨hP1, hK1, hD1⟩ := hB
    rw [ht] at hP1
    obtain ⟨hw1, hw2⟩ := hw
    rw [hw2] at hP1 hD1
    rw [hw1]
    rw [F_m_isSlot_2] at hP1 hD1
    have hD2 := hD1.weaken (B := A) (fun _ q _ h => hFc q.1 h)
    have hP := hP1
    have hD := hD2
    generalize H1 = H at hP hS ⊢
    refine wi_if_ne (tgt := 9) hx hb (by rw [F_m_isSlot_1]; exact F_R01 (F_in_01 _ _ _)) dX12_slot_4 (by decide) (fun c_4 => ?_) (fun c_4 => ?_)
    · skip
      rw [if_neg c_4] at hres
      obtain ⟨k0, k1⟩ := F_in_1 (by rw [← F_m_isSlot_1 x k]; exact c_4)
      obtain ⟨z0, z1⟩ := zs 8 (by omega)
      refine lv_aload_n hx hb dX12_slot_9 rfl (lv_at hl 0 rfl) ?_
      refine lv_bipush (v := iI (8 : Int)) hx hb dX12_slot_10 (by decide) ?_
      refine lv_iload_n hx hb dX12_slot_12 rfl (lv_at hl 1 rfl) ?_
      have hFc : ∀ q, va_A (mW h ad cI cJ cZ (x)) H.size q → A q := fun q hq => Or.elim hq (fun ⟨k, e, hk⟩ => hD.2 k (q, e) hk) (fun hk => hA q (Nat.le_trans hS.1 hk))
      refine va_callv (va_runV (As := [.int (iI ((8 : Int))), .int (iI (k))]) (rest := []) ⟨hx, hb, hml, hown, hts⟩ (c_m_copy l dC dI h ad cI cJ cZ H.size (x) ((8 : Int)) (k) (by omega) (by omega) (by omega) (by omega) z0 (by show x.2 1 8 ≤ 128; omega)) (cwV 2 hts gX12_slot_X12_copy rfl rfl rfl (by decide +kernel) ⟨Nat.le_of_ble_eq_true rfl, Nat.le_of_ble_eq_true rfl⟩) ⟨fun a U g mk q => by obtain ⟨q0, q1, qP, qK, qD⟩ := q; exact ⟨q0, q1, qP, va_K.moved (u := U) (U := U.calling g mk a) (Vm.Alike.refl U.vm) qK, qD⟩, va_recv hK hP (ci := 12) (q0 := 0) rfl rfl, fun U hU hW => ⟨rfl, by rw [hU], by rw [hU]; exact hP, va_K.moved hW.alike hK, hD.weaken (fun _ _ _ _ => trivial)⟩⟩ rfl rfl hl.1 rfl (lv_room (Nat.le_of_ble_eq_true rfl)) dX12_slot_13 ⟨Nat.le_of_ble_eq_true rfl, Nat.le_of_ble_eq_true rfl⟩) hS (fun q _ h => hFc q h) hFc (fun u9 t H1 locs ht hvm hw hB hz1 hk1 hS => ?_)
      obtain ⟨hP1, hK1, hD1⟩ := hB
      rw [ht] at hP1
      rw [hw] at hP1 hD1
      have hD2 := hD1.weaken (B := A) (fun _ q _ h => hFc q.1 h)
      have hP := hP1
      have hD := hD2
      generalize H1 = H at hP hS ⊢
      refine lv_aload_n hx hb dX12_slot_16 rfl (lv_at hl 0 rfl) ?_
      refine va_get (D := (dC, dI)) (ci := 12) (v := .ref (ad 1)) (C := RX12) (T := TX12) (N := 34) hx hb hts hin hown hK hP 0 rfl rfl 1 (by decide) (hts (.fieldLink RX12 13 "LikeWordsModel" "size" "[I") (by decide +kernel)) (fun _ h9 => h9) rfl dX12_slot_17 ?_
      refine lv_bipush (v := iI (8 : Int)) hx hb dX12_slot_20 (by decide) ?_
      refine lv_iconst (v := iI (0 : Int)) hx hb dX12_slot_22 (by decide) ?_
      refine wi_iast (f := ((F_m_copy (x) ((8 : Int)) (k)).2).2 1) hx hb hK hP hD hS 1 0 rfl rfl (i := (8 : Int)) (x := (0 : Int)) (by omega) (by omega) (by decide) dX12_slot_23 (fun H locs hP hD hS => ?_)
      rw [mW_a1] at hP hD
      refine lv_aload_n hx hb dX12_slot_24 rfl (lv_at hl 0 rfl) ?_
      refine va_get (D := (dC, dI)) (ci := 12) (v := .ref (ad 1)) (C := RX12) (T := TX12) (N := 34) hx hb hts hin hown hK hP 0 rfl rfl 1 (by decide) (hts (.fieldLink RX12 13 "LikeWordsModel" "size" "[I") (by decide +kernel)) (fun _ h9 => h9) rfl dX12_slot_25 ?_
      refine lv_iload_n hx hb dX12_slot_28 rfl (lv_at hl 1 rfl) ?_
      refine wi_iald (f := iU (((F_m_copy (x) ((8 : Int)) (k)).2).2 1) ((8 : Int)).toNat ((0 : Int))) hx hb hK hP 1 0 rfl rfl (i := k) (by omega) (by omega) (by decide) dX12_slot_29 ?_
      exact W.iret (v := iI ((iU (((F_m_copy (x) ((8 : Int)) (k)).2).2 1) ((8 : Int)).toNat ((0 : Int))) (k).toNat)) hx hb hr (fun t ht hW => ⟨⟨iI ((iU (((F_m_copy (x) ((8 : Int)) (k)).2).2 1) ((8 : Int)).toNat ((0 : Int))) (k).toNat), aU ((F_m_copy (x) ((8 : Int)) (k)).2) 1 ((8 : Int)).toNat ((0 : Int)), rfl, ⟨(by have h9 := congrArg (fun z : Int × MS => iI z.1) hres; exact h9), (by have h9 := congrArg (fun z : Int × MS => z.2) hres; exact h9)⟩, by rw [ht]; exact hP, va_K.moved hW.alike hK, hD⟩, hS.F ht⟩) hS.2.2 dX12_slot_30
    · skip
      rw [if_pos c_4] at hres
      refine lv_iconst (v := iI (-1 : Int)) hx hb dX12_slot_7 (by decide) ?_
      exact W.iret (v := iI ((-1 : Int))) hx hb hr (fun t ht hW => ⟨⟨iI ((-1 : Int)), x, rfl, ⟨(by have h9 := congrArg (fun z : Int × MS => iI z.1) hres; exact h9), (by have h9 := congrArg (fun z : Int × MS => z.2) hres; exact h9)⟩, by rw [ht]; exact hP, va_K.moved hW.alike hK, hD⟩, hS.F ht⟩) hS.2.2 dX12_slot_8
  exact key _ _ hP hS
theorem F_m_slot_fr (x : MS) (k : Int) : same [] [1, 2] x (F_m_slot (x) (k)).2 := by
  unfold F_m_slot
  by_cases hc : ((F_m_isSlot (x) (k)).1) = (0)
  · rw [if_pos hc]
    exact (sm_rf _ _ _)
  · rw [if_neg hc]
    exact (sm_a (by decide) (sm_tr (sm_rf _ _ _) (sm_mono (by decide) (by decide) (F_m_copy_fr (x) ((8 : Int)) (k)))))
def F_m_free (x : MS)  : Int × MS := ((x).1 3, sU (sU (x) 3 ((0 : Int))) 6 ((-9 : Int)))
set_option maxHeartbeats 4000000 in
set_option maxRecDepth 100000 in
/-- free -/
theorem c_m_free (l : Launch) (dC : Nat → ClassId) (dI : Nat → Nat → Nat) (h : Nat) (ad : Nat → Nat) (cI cJ cZ : ClassId) (sz : Nat) (x : MS)   : Met l yX12_free wsX12_free ({ frames := 0, cells := 0, slots := 0, locals := 0 }) (mPc dC dI h ad cI cJ cZ sz x [.ref h]) (va_Qi (fun (r : Int32) (u : MS) => r = iI (F_m_free (x)).1 ∧ u = (F_m_free (x)).2) (mAt dC dI h ad cI cJ cZ (va_A (mW h ad cI cJ cZ (x)) sz)) (va_A (mW h ad cI cJ cZ (x)) sz)) 0 0 (va_A (mW h ad cI cJ cZ (x)) sz) := by
  refine Met.ofW (cc := cX12_free) (maxL := 2) (ret := (some .int)) (by decide) rfl ?_
  intro p e s m args below meth c s₁ B hml hv
  obtain ⟨rfl, hsz, hP, hK, hD0⟩ := hv
  have hx := B.exec
  have hb := B.bytes
  have hr := B.returns
  have hts := atoms_spec (ws := wsX12_free) B.pre
  have hown : s.vm.findClass RX12 = some m.cls := findClass_of_methodNamed B.named
  have hlocks := B.notSynchronized
  have hin : ∀ w ∈ u_ws RX12 TX12 34, w ∈ wsX12_free := by decide +kernel
  subst hsz
  have hD := hD0.self (sz := s.heap.size)
  generalize hAe : va_A (mW h ad cI cJ cZ (x)) s.heap.size = A at hD ⊢
  have hA : ∀ q : Nat, s.heap.size ≤ q → A q := fun q h => by rw [← hAe]; exact Or.inr h
  have hS : va_S A s.heap s.heap [] := va_S.rf
  have hl := lv_entry ([.ref h]) (n := 2) (Nat.le_of_ble_eq_true rfl)
  rw [lg_entry_eq]
  generalize (lg_sl ([.ref h]) ++ List.replicate (2 - (lg_sl ([.ref h])).length) Slot.unset).toArray = ls at hl ⊢
  have hl : lv_has ls 2 [(0, .ref (h))] := hl
  have key : ∀ (H : Heap) (locs : List Loc), va_P (dC, dI) vwCl (mW h ad cI cJ cZ (x)) H → va_S A s.heap H locs → W p l e (headSpec wsX12_free ({ frames := 0, cells := 0, slots := 0, locals := 0 })).room s m ([.ref h] : List Value).toArray below meth c H locs 0 0 (MQ below (va_Qi (fun (r : Int32) (u : MS) => r = iI (F_m_free (x)).1 ∧ u = (F_m_free (x)).2) (mAt dC dI h ad cI cJ cZ A) A) ([.ref h] : List Value).toArray s 0 0 A) (F0 m 0 ls []) := by
    intro H locs hP hS
    have hres : ((x).1 3, sU (sU (x) 3 ((0 : Int))) 6 ((-9 : Int))) = F_m_free (x) := rfl
    refine lv_aload_n hx hb dX12_free_0 rfl (lv_at hl 0 rfl) ?_
    refine va_get (D := (dC, dI)) (ci := 12) (v := .int (iI ((x).1 3))) (C := RX12) (T := TX12) (N := 34) hx hb hts hin hown hK hP 0 rfl rfl 3 (by decide) (hts (.fieldLink RX12 99 "LikeWordsModel" "laws" "I") (by decide +kernel)) (fun _ h9 => h9) rfl dX12_free_1 ?_
    refine lv_istore_n (lv' := [(1, .int (iI ((x).1 3))), (0, .ref (h))]) hx hb dX12_free_4 rfl hl (by decide) rfl (fun ls hl => ?_)
    refine lv_aload_n hx hb dX12_free_5 rfl (lv_at hl 1 rfl) ?_
    refine lv_iconst (v := iI (0 : Int)) hx hb dX12_free_6 (by decide) ?_
    refine va_put (D := (dC, dI)) (ci := 12) (v := .int (iI ((0 : Int)))) (ty := .int) (C := RX12) (T := TX12) (N := 34) hx hb hts hin tyX12 tyX12_ok nmX12 hown hK hP hD hS 0 rfl rfl 3 (by decide) (hts (.fieldLink RX12 99 "LikeWordsModel" "laws" "I") (by decide +kernel)) (fun _ h9 => h9) rfl (by decide +kernel) rfl rfl (Nat.le_of_ble_eq_true rfl) dX12_free_7 (fun H locs hP hD hS => ?_)
    rw [mW_s3] at hP hD
    refine lv_aload_n hx hb dX12_free_10 rfl (lv_at hl 1 rfl) ?_
    refine lv_bipush (v := iI (-9 : Int)) hx hb dX12_free_11 (by decide) ?_
    refine va_put (D := (dC, dI)) (ci := 12) (v := .int (iI ((-9 : Int)))) (ty := .int) (C := RX12) (T := TX12) (N := 34) hx hb hts hin tyX12 tyX12_ok nmX12 hown hK hP hD hS 0 rfl rfl 6 (by decide) (hts (.fieldLink RX12 26 "LikeWordsModel" "seen" "I") (by decide +kernel)) (fun _ h9 => h9) rfl (by decide +kernel) rfl rfl (Nat.le_of_ble_eq_true rfl) dX12_free_13 (fun H locs hP hD hS => ?_)
    rw [mW_s6] at hP hD
    refine lv_iload_n hx hb dX12_free_16 rfl (lv_at hl 0 rfl) ?_
    exact W.iret (v := iI ((x).1 3)) hx hb hr (fun t ht hW => ⟨⟨iI ((x).1 3), sU (sU (x) 3 ((0 : Int))) 6 ((-9 : Int)), rfl, ⟨(by have h9 := congrArg (fun z : Int × MS => iI z.1) hres; exact h9), (by have h9 := congrArg (fun z : Int × MS => z.2) hres; exact h9)⟩, by rw [ht]; exact hP, va_K.moved hW.alike hK, hD⟩, hS.F ht⟩) hS.2.2 dX12_free_17
  exact key _ _ hP hS
theorem F_m_free_fr (x : MS)  : same [3, 6] [] x (F_m_free (x)).2 := by
  unfold F_m_free
  exact (sm_s (by decide) (sm_s (by decide) (sm_rf _ _ _)))
def F_m_seen (x : MS)  : Int × MS := ((x).1 6, x)
set_option maxHeartbeats 4000000 in
set_option maxRecDepth 100000 in
/-- seen -/
theorem c_m_seen (l : Launch) (dC : Nat → ClassId) (dI : Nat → Nat → Nat) (h : Nat) (ad : Nat → Nat) (cI cJ cZ : ClassId) (sz : Nat) (x : MS)   : Met l yX12_seen wsX12_seen ({ frames := 0, cells := 0, slots := 0, locals := 0 }) (mPc dC dI h ad cI cJ cZ sz x [.ref h]) (va_Qi (fun (r : Int32) (u : MS) => r = iI (F_m_seen (x)).1 ∧ u = (F_m_seen (x)).2) (mAt dC dI h ad cI cJ cZ (va_A (mW h ad cI cJ cZ (x)) sz)) (va_A (mW h ad cI cJ cZ (x)) sz)) 0 0 (va_A (mW h ad cI cJ cZ (x)) sz) := by
  refine Met.ofW (cc := cX12_seen) (maxL := 1) (ret := (some .int)) (by decide) rfl ?_
  intro p e s m args below meth c s₁ B hml hv
  obtain ⟨rfl, hsz, hP, hK, hD0⟩ := hv
  have hx := B.exec
  have hb := B.bytes
  have hr := B.returns
  have hts := atoms_spec (ws := wsX12_seen) B.pre
  have hown : s.vm.findClass RX12 = some m.cls := findClass_of_methodNamed B.named
  have hlocks := B.notSynchronized
  have hin : ∀ w ∈ u_ws RX12 TX12 34, w ∈ wsX12_seen := by decide +kernel
  subst hsz
  have hD := hD0.self (sz := s.heap.size)
  generalize hAe : va_A (mW h ad cI cJ cZ (x)) s.heap.size = A at hD ⊢
  have hA : ∀ q : Nat, s.heap.size ≤ q → A q := fun q h => by rw [← hAe]; exact Or.inr h
  have hS : va_S A s.heap s.heap [] := va_S.rf
  have hl := lv_entry ([.ref h]) (n := 1) (Nat.le_of_ble_eq_true rfl)
  rw [lg_entry_eq]
  generalize (lg_sl ([.ref h]) ++ List.replicate (1 - (lg_sl ([.ref h])).length) Slot.unset).toArray = ls at hl ⊢
  have hl : lv_has ls 1 [(0, .ref (h))] := hl
  have key : ∀ (H : Heap) (locs : List Loc), va_P (dC, dI) vwCl (mW h ad cI cJ cZ (x)) H → va_S A s.heap H locs → W p l e (headSpec wsX12_seen ({ frames := 0, cells := 0, slots := 0, locals := 0 })).room s m ([.ref h] : List Value).toArray below meth c H locs 0 0 (MQ below (va_Qi (fun (r : Int32) (u : MS) => r = iI (F_m_seen (x)).1 ∧ u = (F_m_seen (x)).2) (mAt dC dI h ad cI cJ cZ A) A) ([.ref h] : List Value).toArray s 0 0 A) (F0 m 0 ls []) := by
    intro H locs hP hS
    have hres : ((x).1 6, x) = F_m_seen (x) := rfl
    refine lv_aload_n hx hb dX12_seen_0 rfl (lv_at hl 0 rfl) ?_
    refine va_get (D := (dC, dI)) (ci := 12) (v := .int (iI ((x).1 6))) (C := RX12) (T := TX12) (N := 34) hx hb hts hin hown hK hP 0 rfl rfl 6 (by decide) (hts (.fieldLink RX12 26 "LikeWordsModel" "seen" "I") (by decide +kernel)) (fun _ h9 => h9) rfl dX12_seen_1 ?_
    exact W.iret (v := iI ((x).1 6)) hx hb hr (fun t ht hW => ⟨⟨iI ((x).1 6), x, rfl, ⟨(by have h9 := congrArg (fun z : Int × MS => iI z.1) hres; exact h9), (by have h9 := congrArg (fun z : Int × MS => z.2) hres; exact h9)⟩, by rw [ht]; exact hP, va_K.moved hW.alike hK, hD⟩, hS.F ht⟩) hS.2.2 dX12_seen_4
  exact key _ _ hP hS
theorem F_m_seen_fr (x : MS)  : same [] [] x (F_m_seen (x)).2 := by
  unfold F_m_seen
  exact (sm_rf _ _ _)
theorem F_m_seen_2 (x : MS)  : (F_m_seen (x)).2 = x := sm_nil (F_m_seen_fr x)
def F_m_isLeast (x : MS) (w : Int) : Int × MS := (if (((x).2 9) (w).toNat) = (w) then ((1 : Int), x) else ((0 : Int), x))
set_option maxHeartbeats 4000000 in
set_option maxRecDepth 100000 in
/-- isLeast -/
theorem c_m_isLeast (l : Launch) (dC : Nat → ClassId) (dI : Nat → Nat → Nat) (h : Nat) (ad : Nat → Nat) (cI cJ cZ : ClassId) (sz : Nat) (x : MS) (w : Int) (w0 : 0 ≤ w) (w1 : w < 10001) (rj : iR (x.2 9 w.toNat)) : Met l yX12_isLeast wsX12_isLeast ({ frames := 0, cells := 0, slots := 0, locals := 0 }) (mPc dC dI h ad cI cJ cZ sz x [.ref h, .int (iI w)]) (va_Qi (fun (r : Int32) (u : MS) => r = iI (F_m_isLeast (x) (w)).1 ∧ u = (F_m_isLeast (x) (w)).2) (mAt dC dI h ad cI cJ cZ (va_A (mW h ad cI cJ cZ (x)) sz)) (va_A (mW h ad cI cJ cZ (x)) sz)) 0 0 (va_A (mW h ad cI cJ cZ (x)) sz) := by
  refine Met.ofW (cc := cX12_isLeast) (maxL := 2) (ret := (some .boolean)) (by decide) rfl ?_
  intro p e s m args below meth c s₁ B hml hv
  obtain ⟨rfl, hsz, hP, hK, hD0⟩ := hv
  have hx := B.exec
  have hb := B.bytes
  have hr := B.returns
  have hts := atoms_spec (ws := wsX12_isLeast) B.pre
  have hown : s.vm.findClass RX12 = some m.cls := findClass_of_methodNamed B.named
  have hlocks := B.notSynchronized
  have hin : ∀ w ∈ u_ws RX12 TX12 34, w ∈ wsX12_isLeast := by decide +kernel
  subst hsz
  have hD := hD0.self (sz := s.heap.size)
  generalize hAe : va_A (mW h ad cI cJ cZ (x)) s.heap.size = A at hD ⊢
  have hA : ∀ q : Nat, s.heap.size ≤ q → A q := fun q h => by rw [← hAe]; exact Or.inr h
  have hS : va_S A s.heap s.heap [] := va_S.rf
  have hl := lv_entry ([.ref h, .int (iI w)]) (n := 2) (Nat.le_of_ble_eq_true rfl)
  rw [lg_entry_eq]
  generalize (lg_sl ([.ref h, .int (iI w)]) ++ List.replicate (2 - (lg_sl ([.ref h, .int (iI w)])).length) Slot.unset).toArray = ls at hl ⊢
  have hl : lv_has ls 2 [(0, .ref (h)), (1, .int (iI (w)))] := hl
  have key : ∀ (H : Heap) (locs : List Loc), va_P (dC, dI) vwCl (mW h ad cI cJ cZ (x)) H → va_S A s.heap H locs → W p l e (headSpec wsX12_isLeast ({ frames := 0, cells := 0, slots := 0, locals := 0 })).room s m ([.ref h, .int (iI w)] : List Value).toArray below meth c H locs 0 0 (MQ below (va_Qi (fun (r : Int32) (u : MS) => r = iI (F_m_isLeast (x) (w)).1 ∧ u = (F_m_isLeast (x) (w)).2) (mAt dC dI h ad cI cJ cZ A) A) ([.ref h, .int (iI w)] : List Value).toArray s 0 0 A) (F0 m 0 ls []) := by
    intro H locs hP hS
    have hres : (if (((x).2 9) (w).toNat) = (w) then ((1 : Int), x) else ((0 : Int), x)) = F_m_isLeast (x) (w) := rfl
    refine lv_aload_n hx hb dX12_isLeast_0 rfl (lv_at hl 0 rfl) ?_
    refine va_get (D := (dC, dI)) (ci := 12) (v := .ref (ad 9)) (C := RX12) (T := TX12) (N := 34) hx hb hts hin hown hK hP 0 rfl rfl 9 (by decide) (hts (.fieldLink RX12 32 "LikeWordsModel" "joined" "[I") (by decide +kernel)) (fun _ h9 => h9) rfl dX12_isLeast_1 ?_
    refine lv_iload_n hx hb dX12_isLeast_4 rfl (lv_at hl 1 rfl) ?_
    refine wi_iald (f := (x).2 9) hx hb hK hP 6 0 rfl rfl (i := w) (by omega) (by omega) (by decide) dX12_isLeast_5 ?_
    refine lv_iload_n hx hb dX12_isLeast_6 rfl (lv_at hl 1 rfl) ?_
    refine wi_icmp_ne (tgt := 14) hx hb (by first | assumption | (unfold iR; omega) | exact F_R01 (by assumption)) (by first | assumption | (unfold iR; omega) | exact F_R01 (by assumption)) dX12_isLeast_7 (by decide) (fun c_7 => ?_) (fun c_7 => ?_)
    · skip
      rw [if_neg c_7] at hres
      refine lv_iconst (v := iI (0 : Int)) hx hb dX12_isLeast_14 (by decide) ?_
      exact W.zret (v := iI ((0 : Int))) hx hb hr (by rfl) (fun t ht hW => ⟨⟨iI ((0 : Int)), x, rfl, ⟨(by have h9 := congrArg (fun z : Int × MS => iI z.1) hres; exact h9), (by have h9 := congrArg (fun z : Int × MS => z.2) hres; exact h9)⟩, by rw [ht]; exact hP, va_K.moved hW.alike hK, hD⟩, hS.F ht⟩) hS.2.2 dX12_isLeast_15
    · skip
      rw [if_pos c_7] at hres
      refine lv_iconst (v := iI (1 : Int)) hx hb dX12_isLeast_10 (by decide) ?_
      refine lv_goto (tgt := 15) hx hb dX12_isLeast_11 (by decide) ?_
      exact W.zret (v := iI ((1 : Int))) hx hb hr (by rfl) (fun t ht hW => ⟨⟨iI ((1 : Int)), x, rfl, ⟨(by have h9 := congrArg (fun z : Int × MS => iI z.1) hres; exact h9), (by have h9 := congrArg (fun z : Int × MS => z.2) hres; exact h9)⟩, by rw [ht]; exact hP, va_K.moved hW.alike hK, hD⟩, hS.F ht⟩) hS.2.2 dX12_isLeast_15
  exact key _ _ hP hS
theorem F_m_isLeast_fr (x : MS) (w : Int) : same [] [] x (F_m_isLeast (x) (w)).2 := by
  unfold F_m_isLeast
  by_cases hc : (((x).2 9) (w).toNat) = (w)
  · rw [if_pos hc]
    exact (sm_rf _ _ _)
  · rw [if_neg hc]
    exact (sm_rf _ _ _)
theorem F_m_isLeast_2 (x : MS) (w : Int) : (F_m_isLeast (x) (w)).2 = x := sm_nil (F_m_isLeast_fr x w)
def F_m_powerOf_s : Nat → Nat → MS → Int → Int → Int → Int × MS
  | 0, _, x, _, _, _ => (0, x)
  | n + 1, t, x, p0, p1, p2 => match t with
    | 0 => (fun (k : Int) (q : Int) (i : Int) => (if (k) ≤ (i) then (q, x) else F_m_powerOf_s n 0 (x) (k) ((q) * ((x).1 0)) ((i) + (1 : Int)))) p0 p1 p2
    | _ => (0, x)
theorem F_m_powerOf_e0 (n : Nat) (x : MS) (k : Int) (q : Int) (i : Int) : F_m_powerOf_s (n + 1) 0 x k q i = (if (k) ≤ (i) then (q, x) else F_m_powerOf_s n 0 (x) (k) ((q) * ((x).1 0)) ((i) + (1 : Int))) := rfl
def F_m_powerOf (x : MS) (k : Int) : Int × MS := F_m_powerOf_s 1002 0 (x) (k) ((1 : Int)) ((0 : Int))
set_option maxHeartbeats 4000000 in
set_option maxRecDepth 100000 in
/-- powerOf -/
theorem c_m_powerOf (l : Launch) (dC : Nat → ClassId) (dI : Nat → Nat → Nat) (h : Nat) (ad : Nat → Nat) (cI cJ cZ : ClassId) (sz : Nat) (x : MS) (k : Int) (k1 : k ≤ 1000) (rk : iR k) : Met l yX12_powerOf wsX12_powerOf ({ frames := 0, cells := 0, slots := 0, locals := 0 }) (mPc dC dI h ad cI cJ cZ sz x [.ref h, .int (iI k)]) (va_Qi (fun (r : Int32) (u : MS) => r = iI (F_m_powerOf (x) (k)).1 ∧ u = (F_m_powerOf (x) (k)).2) (mAt dC dI h ad cI cJ cZ (va_A (mW h ad cI cJ cZ (x)) sz)) (va_A (mW h ad cI cJ cZ (x)) sz)) 0 0 (va_A (mW h ad cI cJ cZ (x)) sz) := by
  refine Met.ofW (cc := cX12_powerOf) (maxL := 4) (ret := (some .int)) (by decide) rfl ?_
  intro p e s m args below meth c s₁ B hml hv
  obtain ⟨rfl, hsz, hP, hK, hD0⟩ := hv
  have hx := B.exec
  have hb := B.bytes
  have hr := B.returns
  have hts := atoms_spec (ws := wsX12_powerOf) B.pre
  have hown : s.vm.findClass RX12 = some m.cls := findClass_of_methodNamed B.named
  have hlocks := B.notSynchronized
  have hin : ∀ w ∈ u_ws RX12 TX12 34, w ∈ wsX12_powerOf := by decide +kernel
  subst hsz
  have hD := hD0.self (sz := s.heap.size)
  generalize hAe : va_A (mW h ad cI cJ cZ (x)) s.heap.size = A at hD ⊢
  have hA : ∀ q : Nat, s.heap.size ≤ q → A q := fun q h => by rw [← hAe]; exact Or.inr h
  have hS : va_S A s.heap s.heap [] := va_S.rf
  have hl := lv_entry ([.ref h, .int (iI k)]) (n := 4) (Nat.le_of_ble_eq_true rfl)
  rw [lg_entry_eq]
  generalize (lg_sl ([.ref h, .int (iI k)]) ++ List.replicate (4 - (lg_sl ([.ref h, .int (iI k)])).length) Slot.unset).toArray = ls at hl ⊢
  have hl : lv_has ls 4 [(0, .ref (h)), (1, .int (iI (k)))] := hl
  have L : ∀ n : Nat, (∀ (q : Int) (i : Int), (0 ≤ i) → (i ≤ 1000) → (1000 - i < n) → F_m_powerOf_s n 0 x k q i = F_m_powerOf (x) (k) → ∀ (H : Heap) (locs : List Loc) (ls : Array Slot), va_P (dC, dI) vwCl (mW h ad cI cJ cZ (x)) H → va_D A (mW h ad cI cJ cZ (x)) → va_S A s.heap H locs → lv_has ls 4 [(0, .ref (h)), (1, .int (iI (k))), (2, .int (iI (q))), (3, .int (iI (i)))] → W p l e (headSpec wsX12_powerOf ({ frames := 0, cells := 0, slots := 0, locals := 0 })).room s m ([.ref h, .int (iI k)] : List Value).toArray below meth c H locs 0 0 (MQ below (va_Qi (fun (r : Int32) (u : MS) => r = iI (F_m_powerOf (x) (k)).1 ∧ u = (F_m_powerOf (x) (k)).2) (mAt dC dI h ad cI cJ cZ A) A) ([.ref h, .int (iI k)] : List Value).toArray s 0 0 A) (F0 m 4 ls [])) := by
    intro n
    induction n with
    | zero =>
      skip
      · intro q i i0 i1 fu hres
        exact absurd fu (by omega)
    | succ n ih =>
      skip
      · intro q i i0 i1 fu hres H locs ls hP hD hS hl
        rw [F_m_powerOf_e0] at hres
        refine lv_iload_n hx hb dX12_powerOf_4 rfl (lv_at hl 3 rfl) ?_
        refine lv_iload_n hx hb dX12_powerOf_5 rfl (lv_at hl 1 rfl) ?_
        refine wi_icmp_ge (tgt := 22) hx hb (by first | assumption | (unfold iR; omega) | exact F_R01 (by assumption)) (by first | assumption | (unfold iR; omega) | exact F_R01 (by assumption)) dX12_powerOf_6 (by decide) (fun c_6 => ?_) (fun c_6 => ?_)
        · skip
          rw [if_pos c_6] at hres
          refine lv_iload_n hx hb dX12_powerOf_22 rfl (lv_at hl 2 rfl) ?_
          exact W.iret (v := iI (q)) hx hb hr (fun t ht hW => ⟨⟨iI (q), x, rfl, ⟨(by have h9 := congrArg (fun z : Int × MS => iI z.1) hres; exact h9), (by have h9 := congrArg (fun z : Int × MS => z.2) hres; exact h9)⟩, by rw [ht]; exact hP, va_K.moved hW.alike hK, hD⟩, hS.F ht⟩) hS.2.2 dX12_powerOf_23
        · skip
          rw [if_neg c_6] at hres
          refine lv_iload_n hx hb dX12_powerOf_9 rfl (lv_at hl 2 rfl) ?_
          refine lv_aload_n hx hb dX12_powerOf_10 rfl (lv_at hl 0 rfl) ?_
          refine va_get (D := (dC, dI)) (ci := 12) (v := .int (iI ((x).1 0))) (C := RX12) (T := TX12) (N := 34) hx hb hts hin hown hK hP 0 rfl rfl 0 (by decide) (hts (.fieldLink RX12 7 "LikeWordsModel" "letters" "I") (by decide +kernel)) (fun _ h9 => h9) rfl dX12_powerOf_11 ?_
          refine wi_imul hx hb dX12_powerOf_14 ?_
          refine lv_istore_n (lv' := [(2, .int (iI ((q) * ((x).1 0)))), (0, .ref (h)), (1, .int (iI (k))), (3, .int (iI (i)))]) hx hb dX12_powerOf_15 rfl hl (by decide) rfl (fun ls hl => ?_)
          refine lv_iinc (v := iI ((i) + (1 : Int))) (lv' := [(3, .int (iI ((i) + (1 : Int)))), (2, .int (iI ((q) * ((x).1 0)))), (0, .ref (h)), (1, .int (iI (k)))]) hx hb dX12_powerOf_16 hl (k := 3) rfl (iI_add _ _) (by decide) rfl (fun ls hl => ?_)
          refine lv_goto (tgt := 4) hx hb dX12_powerOf_19 (by decide) ?_
          exact ih  ((q) * ((x).1 0)) ((i) + (1 : Int)) (by omega) (by omega) (by omega) hres _ _ ls hP hD hS (lv_sub hl [2, 3, 1, 0] rfl)
  have key : ∀ (H : Heap) (locs : List Loc), va_P (dC, dI) vwCl (mW h ad cI cJ cZ (x)) H → va_S A s.heap H locs → W p l e (headSpec wsX12_powerOf ({ frames := 0, cells := 0, slots := 0, locals := 0 })).room s m ([.ref h, .int (iI k)] : List Value).toArray below meth c H locs 0 0 (MQ below (va_Qi (fun (r : Int32) (u : MS) => r = iI (F_m_powerOf (x) (k)).1 ∧ u = (F_m_powerOf (x) (k)).2) (mAt dC dI h ad cI cJ cZ A) A) ([.ref h, .int (iI k)] : List Value).toArray s 0 0 A) (F0 m 0 ls []) := by
    intro H locs hP hS
    have hres : F_m_powerOf_s 1002 0 (x) (k) ((1 : Int)) ((0 : Int)) = F_m_powerOf (x) (k) := rfl
    refine lv_iconst (v := iI (1 : Int)) hx hb dX12_powerOf_0 (by decide) ?_
    refine lv_istore_n (lv' := [(2, .int (iI ((1 : Int)))), (0, .ref (h)), (1, .int (iI (k)))]) hx hb dX12_powerOf_1 rfl hl (by decide) rfl (fun ls hl => ?_)
    refine lv_iconst (v := iI (0 : Int)) hx hb dX12_powerOf_2 (by decide) ?_
    refine lv_istore_n (lv' := [(3, .int (iI ((0 : Int)))), (2, .int (iI ((1 : Int)))), (0, .ref (h)), (1, .int (iI (k)))]) hx hb dX12_powerOf_3 rfl hl (by decide) rfl (fun ls hl => ?_)
    exact (L (1002))  ((1 : Int)) ((0 : Int)) (by omega) (by omega) (by omega) hres _ _ ls hP hD hS (lv_sub hl [2, 3, 1, 0] rfl)
  exact key _ _ hP hS
theorem F_m_powerOf_sfr : ∀ n : Nat, (∀ (y : MS) (v0 : Int) (v1 : Int) (v2 : Int), same [] [] y (F_m_powerOf_s n 0 y v0 v1 v2).2) := by
  intro n
  induction n with
  | zero => exact fun y _ _ _ => sm_rf _ _ _
  | succ n ih =>
    skip
    · intro y k q i
      rw [F_m_powerOf_e0]
      by_cases hc : (k) ≤ (i)
      · rw [if_pos hc]
        exact (sm_rf _ _ _)
      · rw [if_neg hc]
        exact sm_tr ((sm_rf _ _ _)) (ih (y) (k) ((q) * ((y).1 0)) ((i) + (1 : Int)))
theorem F_m_powerOf_fr (x : MS) (k : Int) : same [] [] x (F_m_powerOf (x) (k)).2 := by
  unfold F_m_powerOf
  exact sm_tr ((sm_rf _ _ _)) ((F_m_powerOf_sfr 1002) (x) (k) ((1 : Int)) ((0 : Int)))
theorem F_m_powerOf_2 (x : MS) (k : Int) : (F_m_powerOf (x) (k)).2 = x := sm_nil (F_m_powerOf_fr x k)
/-- the rows of joined lead down -/
def jOK (x : MS) : Prop := ∀ j : Nat, j < 10001 → 0 ≤ x.2 9 j ∧ x.2 9 j ≤ j
theorem jOK_up {y : MS} (h : jOK y) {r : Nat} {v : Int} (h0 : 0 ≤ v) (h1 : v ≤ r) : jOK (aU y 9 r v) := by
  intro j hj
  show 0 ≤ iU (y.2 9) r v j ∧ iU (y.2 9) r v j ≤ j
  unfold iU
  split
  · subst_vars; exact ⟨h0, h1⟩
  · exact h j hj
def F_m_root_s : Nat → Nat → MS → Int → Int → Int × MS
  | 0, _, x, _, _ => (0, x)
  | n + 1, t, x, p0, p1 => match t with
    | 0 => (fun (w : Int) (r : Int) => (if (((x).2 9) (r).toNat) = (r) then (r, x) else F_m_root_s n 0 (aU (x) 9 (r).toNat (((x).2 9) (((x).2 9) (r).toNat).toNat)) (w) ((iU ((x).2 9) (r).toNat (((x).2 9) (((x).2 9) (r).toNat).toNat)) (r).toNat))) p0 p1
    | _ => (0, x)
theorem F_m_root_e0 (n : Nat) (x : MS) (w : Int) (r : Int) : F_m_root_s (n + 1) 0 x w r = (if (((x).2 9) (r).toNat) = (r) then (r, x) else F_m_root_s n 0 (aU (x) 9 (r).toNat (((x).2 9) (((x).2 9) (r).toNat).toNat)) (w) ((iU ((x).2 9) (r).toNat (((x).2 9) (((x).2 9) (r).toNat).toNat)) (r).toNat)) := rfl
def F_m_root (x : MS) (w : Int) : Int × MS := F_m_root_s 10002 0 (x) (w) (w)
set_option maxHeartbeats 4000000 in
set_option maxRecDepth 100000 in
/-- root -/
theorem c_m_root (l : Launch) (dC : Nat → ClassId) (dI : Nat → Nat → Nat) (h : Nat) (ad : Nat → Nat) (cI cJ cZ : ClassId) (sz : Nat) (x : MS) (w : Int) (w0 : 0 ≤ w) (w1 : w < 10001) (hj : jOK x) : Met l yX12_root wsX12_root ({ frames := 0, cells := 0, slots := 0, locals := 0 }) (mPc dC dI h ad cI cJ cZ sz x [.ref h, .int (iI w)]) (va_Qi (fun (r : Int32) (u : MS) => r = iI (F_m_root (x) (w)).1 ∧ u = (F_m_root (x) (w)).2) (mAt dC dI h ad cI cJ cZ (va_A (mW h ad cI cJ cZ (x)) sz)) (va_A (mW h ad cI cJ cZ (x)) sz)) 0 0 (va_A (mW h ad cI cJ cZ (x)) sz) := by
  refine Met.ofW (cc := cX12_root) (maxL := 3) (ret := (some .int)) (by decide) rfl ?_
  intro p e s m args below meth c s₁ B hml hv
  obtain ⟨rfl, hsz, hP, hK, hD0⟩ := hv
  have hx := B.exec
  have hb := B.bytes
  have hr := B.returns
  have hts := atoms_spec (ws := wsX12_root) B.pre
  have hown : s.vm.findClass RX12 = some m.cls := findClass_of_methodNamed B.named
  have hlocks := B.notSynchronized
  have hin : ∀ w ∈ u_ws RX12 TX12 34, w ∈ wsX12_root := by decide +kernel
  subst hsz
  have hD := hD0.self (sz := s.heap.size)
  generalize hAe : va_A (mW h ad cI cJ cZ (x)) s.heap.size = A at hD ⊢
  have hA : ∀ q : Nat, s.heap.size ≤ q → A q := fun q h => by rw [← hAe]; exact Or.inr h
  have hS : va_S A s.heap s.heap [] := va_S.rf
  have hl := lv_entry ([.ref h, .int (iI w)]) (n := 3) (Nat.le_of_ble_eq_true rfl)
  rw [lg_entry_eq]
  generalize (lg_sl ([.ref h, .int (iI w)]) ++ List.replicate (3 - (lg_sl ([.ref h, .int (iI w)])).length) Slot.unset).toArray = ls at hl ⊢
  have hl : lv_has ls 3 [(0, .ref (h)), (1, .int (iI (w)))] := hl
  have L : ∀ n : Nat, (∀ (y : MS) (r : Int), (0 ≤ r) → (r < 10001) → (jOK y) → (r < n) → F_m_root_s n 0 y w r = F_m_root (x) (w) → ∀ (H : Heap) (locs : List Loc) (ls : Array Slot), va_P (dC, dI) vwCl (mW h ad cI cJ cZ (y)) H → va_D A (mW h ad cI cJ cZ (y)) → va_S A s.heap H locs → lv_has ls 3 [(0, .ref (h)), (1, .int (iI (w))), (2, .int (iI (r)))] → W p l e (headSpec wsX12_root ({ frames := 0, cells := 0, slots := 0, locals := 0 })).room s m ([.ref h, .int (iI w)] : List Value).toArray below meth c H locs 0 0 (MQ below (va_Qi (fun (r : Int32) (u : MS) => r = iI (F_m_root (x) (w)).1 ∧ u = (F_m_root (x) (w)).2) (mAt dC dI h ad cI cJ cZ A) A) ([.ref h, .int (iI w)] : List Value).toArray s 0 0 A) (F0 m 2 ls [])) := by
    intro n
    induction n with
    | zero =>
      skip
      · intro y r r0 r1 hjy fu hres
        exact absurd fu (by omega)
    | succ n ih =>
      skip
      · intro y r r0 r1 hjy fu hres H locs ls hP hD hS hl
        rw [F_m_root_e0] at hres
        obtain ⟨g0, g1⟩ := hjy r.toNat (by omega)
        obtain ⟨g2, g3⟩ := hjy ((y.2 9) r.toNat).toNat (by omega)
        refine lv_aload_n hx hb dX12_root_2 rfl (lv_at hl 0 rfl) ?_
        refine va_get (D := (dC, dI)) (ci := 12) (v := .ref (ad 9)) (C := RX12) (T := TX12) (N := 34) hx hb hts hin hown hK hP 0 rfl rfl 9 (by decide) (hts (.fieldLink RX12 32 "LikeWordsModel" "joined" "[I") (by decide +kernel)) (fun _ h9 => h9) rfl dX12_root_3 ?_
        refine lv_iload_n hx hb dX12_root_6 rfl (lv_at hl 2 rfl) ?_
        refine wi_iald (f := (y).2 9) hx hb hK hP 6 0 rfl rfl (i := r) (by omega) (by omega) (by decide) dX12_root_7 ?_
        refine lv_iload_n hx hb dX12_root_8 rfl (lv_at hl 2 rfl) ?_
        refine wi_icmp_eq (tgt := 39) hx hb (by first | assumption | (unfold iR; omega) | exact F_R01 (by assumption)) (by first | assumption | (unfold iR; omega) | exact F_R01 (by assumption)) dX12_root_9 (by decide) (fun c_9 => ?_) (fun c_9 => ?_)
        · skip
          rw [if_pos c_9] at hres
          refine lv_iload_n hx hb dX12_root_39 rfl (lv_at hl 2 rfl) ?_
          exact W.iret (v := iI (r)) hx hb hr (fun t ht hW => ⟨⟨iI (r), y, rfl, ⟨(by have h9 := congrArg (fun z : Int × MS => iI z.1) hres; exact h9), (by have h9 := congrArg (fun z : Int × MS => z.2) hres; exact h9)⟩, by rw [ht]; exact hP, va_K.moved hW.alike hK, hD⟩, hS.F ht⟩) hS.2.2 dX12_root_40
        · skip
          rw [if_neg c_9] at hres
          refine lv_aload_n hx hb dX12_root_12 rfl (lv_at hl 0 rfl) ?_
          refine va_get (D := (dC, dI)) (ci := 12) (v := .ref (ad 9)) (C := RX12) (T := TX12) (N := 34) hx hb hts hin hown hK hP 0 rfl rfl 9 (by decide) (hts (.fieldLink RX12 32 "LikeWordsModel" "joined" "[I") (by decide +kernel)) (fun _ h9 => h9) rfl dX12_root_13 ?_
          refine lv_iload_n hx hb dX12_root_16 rfl (lv_at hl 2 rfl) ?_
          refine lv_aload_n hx hb dX12_root_17 rfl (lv_at hl 0 rfl) ?_
          refine va_get (D := (dC, dI)) (ci := 12) (v := .ref (ad 9)) (C := RX12) (T := TX12) (N := 34) hx hb hts hin hown hK hP 0 rfl rfl 9 (by decide) (hts (.fieldLink RX12 32 "LikeWordsModel" "joined" "[I") (by decide +kernel)) (fun _ h9 => h9) rfl dX12_root_18 ?_
          refine lv_aload_n hx hb dX12_root_21 rfl (lv_at hl 0 rfl) ?_
          refine va_get (D := (dC, dI)) (ci := 12) (v := .ref (ad 9)) (C := RX12) (T := TX12) (N := 34) hx hb hts hin hown hK hP 0 rfl rfl 9 (by decide) (hts (.fieldLink RX12 32 "LikeWordsModel" "joined" "[I") (by decide +kernel)) (fun _ h9 => h9) rfl dX12_root_22 ?_
          refine lv_iload_n hx hb dX12_root_25 rfl (lv_at hl 2 rfl) ?_
          refine wi_iald (f := (y).2 9) hx hb hK hP 6 0 rfl rfl (i := r) (by omega) (by omega) (by decide) dX12_root_26 ?_
          refine wi_iald (f := (y).2 9) hx hb hK hP 6 0 rfl rfl (i := ((y).2 9) (r).toNat) (by omega) (by omega) (by decide) dX12_root_27 ?_
          refine wi_iast (f := (y).2 9) hx hb hK hP hD hS 6 0 rfl rfl (i := r) (x := ((y).2 9) (((y).2 9) (r).toNat).toNat) (by omega) (by omega) (by decide) dX12_root_28 (fun H locs hP hD hS => ?_)
          rw [mW_a9] at hP hD
          refine lv_aload_n hx hb dX12_root_29 rfl (lv_at hl 0 rfl) ?_
          refine va_get (D := (dC, dI)) (ci := 12) (v := .ref (ad 9)) (C := RX12) (T := TX12) (N := 34) hx hb hts hin hown hK hP 0 rfl rfl 9 (by decide) (hts (.fieldLink RX12 32 "LikeWordsModel" "joined" "[I") (by decide +kernel)) (fun _ h9 => h9) rfl dX12_root_30 ?_
          refine lv_iload_n hx hb dX12_root_33 rfl (lv_at hl 2 rfl) ?_
          refine wi_iald (f := iU ((y).2 9) (r).toNat (((y).2 9) (((y).2 9) (r).toNat).toNat)) hx hb hK hP 6 0 rfl rfl (i := r) (by omega) (by omega) (by decide) dX12_root_34 ?_
          refine lv_istore_n (lv' := [(2, .int (iI ((iU ((y).2 9) (r).toNat (((y).2 9) (((y).2 9) (r).toNat).toNat)) (r).toNat))), (0, .ref (h)), (1, .int (iI (w)))]) hx hb dX12_root_35 rfl hl (by decide) rfl (fun ls hl => ?_)
          refine lv_goto (tgt := 2) hx hb dX12_root_36 (by decide) ?_
          exact ih (aU (y) 9 (r).toNat (((y).2 9) (((y).2 9) (r).toNat).toNat)) ((iU ((y).2 9) (r).toNat (((y).2 9) (((y).2 9) (r).toNat).toNat)) (r).toNat) (by rw [iU_s]; omega) (by rw [iU_s]; omega) (jOK_up hjy g2 (by omega)) (by rw [iU_s]; omega) hres _ _ ls hP hD hS (lv_sub hl [1, 2, 0] rfl)
  have key : ∀ (H : Heap) (locs : List Loc), va_P (dC, dI) vwCl (mW h ad cI cJ cZ (x)) H → va_S A s.heap H locs → W p l e (headSpec wsX12_root ({ frames := 0, cells := 0, slots := 0, locals := 0 })).room s m ([.ref h, .int (iI w)] : List Value).toArray below meth c H locs 0 0 (MQ below (va_Qi (fun (r : Int32) (u : MS) => r = iI (F_m_root (x) (w)).1 ∧ u = (F_m_root (x) (w)).2) (mAt dC dI h ad cI cJ cZ A) A) ([.ref h, .int (iI w)] : List Value).toArray s 0 0 A) (F0 m 0 ls []) := by
    intro H locs hP hS
    have hres : F_m_root_s 10002 0 (x) (w) (w) = F_m_root (x) (w) := rfl
    refine lv_iload_n hx hb dX12_root_0 rfl (lv_at hl 1 rfl) ?_
    refine lv_istore_n (lv' := [(2, .int (iI (w))), (0, .ref (h)), (1, .int (iI (w)))]) hx hb dX12_root_1 rfl hl (by decide) rfl (fun ls hl => ?_)
    exact (L (10002)) (x) (w) (w0) (w1) (hj) (by omega) hres _ _ ls hP hD hS (lv_sub hl [1, 2, 0] rfl)
  exact key _ _ hP hS
theorem F_m_root_sfr : ∀ n : Nat, (∀ (y : MS) (v0 : Int) (v1 : Int), same [] [9] y (F_m_root_s n 0 y v0 v1).2) := by
  intro n
  induction n with
  | zero => exact fun y _ _ => sm_rf _ _ _
  | succ n ih =>
    skip
    · intro y w r
      rw [F_m_root_e0]
      by_cases hc : (((y).2 9) (r).toNat) = (r)
      · rw [if_pos hc]
        exact (sm_rf _ _ _)
      · rw [if_neg hc]
        exact sm_tr ((sm_a (by decide) (sm_rf _ _ _))) (ih (aU (y) 9 (r).toNat (((y).2 9) (((y).2 9) (r).toNat).toNat)) (w) ((iU ((y).2 9) (r).toNat (((y).2 9) (((y).2 9) (r).toNat).toNat)) (r).toNat))
theorem F_m_root_fr (x : MS) (w : Int) : same [] [9] x (F_m_root (x) (w)).2 := by
  unfold F_m_root
  exact sm_tr ((sm_rf _ _ _)) ((F_m_root_sfr 10002) (x) (w) (w))
