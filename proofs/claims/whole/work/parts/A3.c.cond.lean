-- deps: A3.b
set_option maxHeartbeats 4000000 in
set_option maxRecDepth 100000 in
/-- least -/
theorem d_m_least (l : Launch) (dC : Nat → ClassId) (dI : Nat → Nat → Nat) (h : Nat) (ad : Nat → Nat) (cI cJ cZ : ClassId) (sz : Nat) (x : MS)  (sn : iR (x.1 6)) (hj : jOK x) (aa : ¬ x.1 6 = -9 → (0 ≤ x.1 7 ∧ x.1 7 ≤ 10001)) : Met l yX12_least wsX12_least ({ frames := 1, cells := 0, slots := 0, locals := 21 }) (mPc dC dI h ad cI cJ cZ sz x [.ref h]) (va_Qi (fun (r : Int32) (u : MS) => r = iI (F_m_least (x)).1 ∧ u = (F_m_least (x)).2) (mAt dC dI h ad cI cJ cZ (va_A (mW h ad cI cJ cZ (x)) sz)) (va_A (mW h ad cI cJ cZ (x)) sz)) 0 0 (va_A (mW h ad cI cJ cZ (x)) sz) := by
  refine Met.ofW (cc := cX12_least) (maxL := 3) (ret := (some .int)) (by decide) rfl ?_
  intro p e s m args below meth c s₁ B hml hv
  obtain ⟨rfl, hsz, hP, hK, hD0⟩ := hv
  have hx := B.exec
  have hb := B.bytes
  have hr := B.returns
  have hts := atoms_spec (ws := wsX12_least) B.pre
  have hown : s.vm.findClass RX12 = some m.cls := findClass_of_methodNamed B.named
  have hlocks := B.notSynchronized
  have hin : ∀ w ∈ u_ws RX12 TX12 34, w ∈ wsX12_least := by decide +kernel
  subst hsz
  have hD := hD0.self (sz := s.heap.size)
  generalize hAe : va_A (mW h ad cI cJ cZ (x)) s.heap.size = A at hD ⊢
  have hA : ∀ q : Nat, s.heap.size ≤ q → A q := fun q h => by rw [← hAe]; exact Or.inr h
  have hS : va_S A s.heap s.heap [] := va_S.rf
  have hl := lv_entry ([.ref h]) (n := 3) (Nat.le_of_ble_eq_true rfl)
  rw [lg_entry_eq]
  generalize (lg_sl ([.ref h]) ++ List.replicate (3 - (lg_sl ([.ref h])).length) Slot.unset).toArray = ls at hl ⊢
  have hl : lv_has ls 3 [(0, .ref (h))] := hl
  have L : ∀ n : Nat, (∀ (q : Int) (w : Int), (0 ≤ w) → (w ≤ 10001) → (0 ≤ x.1 7) → (x.1 7 ≤ 10001) → (10001 - w < n) → F_m_least_s n 0 x q w = F_m_least (x) → ∀ (H : Heap) (locs : List Loc) (ls : Array Slot), va_P (dC, dI) vwCl (mW h ad cI cJ cZ (x)) H → va_D A (mW h ad cI cJ cZ (x)) → va_S A s.heap H locs → lv_has ls 3 [(0, .ref (h)), (1, .int (iI (q))), (2, .int (iI (w)))] → W p l e (headSpec wsX12_least ({ frames := 1, cells := 0, slots := 0, locals := 21 })).room s m ([.ref h] : List Value).toArray below meth c H locs 0 0 (MQ below (va_Qi (fun (r : Int32) (u : MS) => r = iI (F_m_least (x)).1 ∧ u = (F_m_least (x)).2) (mAt dC dI h ad cI cJ cZ A) A) ([.ref h] : List Value).toArray s 0 0 A) (F0 m 16 ls [])) := by
    intro n
    induction n with
    | zero =>
      skip
      · intro q w w0 w1 a0 a1 fu hres
        exact absurd fu (by omega)
    | succ n ih =>
      skip
      · intro q w w0 w1 a0 a1 fu hres H locs ls hP hD hS hl
        rw [F_m_least_e0] at hres
        refine lv_iload_n hx hb dX12_least_16 rfl (lv_at hl 2 rfl) ?_
        refine lv_aload_n hx hb dX12_least_17 rfl (lv_at hl 0 rfl) ?_
        refine va_get (D := (dC, dI)) (ci := 12) (v := .int (iI ((x).1 7))) (C := RX12) (T := TX12) (N := 34) hx hb hts hin hown hK hP 0 rfl rfl 7 (by decide) (hts (.fieldLink RX12 122 "LikeWordsModel" "all" "I") (by decide +kernel)) (fun _ h9 => h9) rfl dX12_least_18 ?_
        refine wi_icmp_ge (tgt := 46) hx hb (by first | assumption | (unfold iR; omega) | exact F_R01 (by assumption)) (by first | assumption | (unfold iR; omega) | exact F_R01 (by assumption)) dX12_least_21 (by decide) (fun c_21 => ?_) (fun c_21 => ?_)
        · skip
          rw [if_pos c_21] at hres
          refine lv_iload_n hx hb dX12_least_46 rfl (lv_at hl 1 rfl) ?_
          exact W.iret (v := iI (q)) hx hb hr (fun t ht hW => ⟨⟨iI (q), x, rfl, ⟨(by have h9 := congrArg (fun z : Int × MS => iI z.1) hres; exact h9), (by have h9 := congrArg (fun z : Int × MS => z.2) hres; exact h9)⟩, by rw [ht]; exact hP, va_K.moved hW.alike hK, hD⟩, hS.F ht⟩) hS.2.2 dX12_least_47
        · skip
          rw [if_neg c_21] at hres
          refine lv_iload_n hx hb dX12_least_24 rfl (lv_at hl 1 rfl) ?_
          refine lv_aload_n hx hb dX12_least_25 rfl (lv_at hl 0 rfl) ?_
          refine lv_iload_n hx hb dX12_least_26 rfl (lv_at hl 2 rfl) ?_
          have hFc : ∀ q, va_A (mW h ad cI cJ cZ (x)) H.size q → A q := fun q hq => Or.elim hq (fun ⟨k, e, hk⟩ => hD.2 k (q, e) hk) (fun hk => hA q (Nat.le_trans hS.1 hk))
          refine va_calli (va_runV (As := [.int (iI (w))]) (rest := [.int (iI (q))]) ⟨hx, hb, hml, hown, hts⟩ (c_m_isLeast l dC dI h ad cI cJ cZ H.size (x) (w) (by omega) (by omega) (by have := hj w.toNat (by omega); unfold iR; omega)) (cwV 1 hts gX12_least_X12_isLeast rfl rfl rfl (by decide +kernel) ⟨Nat.le_of_ble_eq_true rfl, Nat.le_of_ble_eq_true rfl⟩) ⟨fun a U g mk q => by obtain ⟨q0, q1, qP, qK, qD⟩ := q; exact ⟨q0, q1, qP, va_K.moved (u := U) (U := U.calling g mk a) (Vm.Alike.refl U.vm) qK, qD⟩, va_recv hK hP (ci := 12) (q0 := 0) rfl rfl, fun U hU hW => ⟨rfl, by rw [hU], by rw [hU]; exact hP, va_K.moved hW.alike hK, hD.weaken (fun _ _ _ _ => trivial)⟩⟩ rfl rfl hl.1 rfl (lv_room (Nat.le_of_ble_eq_true rfl)) dX12_least_27 ⟨Nat.le_of_ble_eq_true rfl, Nat.le_of_ble_eq_true rfl⟩) hS (fun q _ h => hFc q h) hFc (fun r9 u9 t H1 locs ht hvm hw hB hz1 hk1 hS => ?_)
          obtain ⟨hP1, hK1, hD1⟩ := hB
          rw [ht] at hP1
          obtain ⟨hw1, hw2⟩ := hw
          rw [hw2] at hP1 hD1
          rw [hw1]
          rw [F_m_isLeast_2] at hP1 hD1
          have hD2 := hD1.weaken (B := A) (fun _ q _ h => hFc q.1 h)
          have hP := hP1
          have hD := hD2
          generalize H1 = H at hP hS ⊢
          refine wi_if_eq (tgt := 37) hx hb (F_R01 (F_m_isLeast_01 _ _)) dX12_least_30 (by decide) (fun c_30 => ?_) (fun c_30 => ?_)
          · skip
            rw [if_pos c_30] at hres
            refine lv_iconst (v := iI (0 : Int)) hx hb dX12_least_37 (by decide) ?_
            refine wi_iadd hx hb dX12_least_38 ?_
            refine lv_istore_n (lv' := [(1, .int (iI ((q) + ((0 : Int))))), (0, .ref (h)), (2, .int (iI (w)))]) hx hb dX12_least_39 rfl hl (by decide) rfl (fun ls hl => ?_)
            refine lv_iinc (v := iI ((w) + (1 : Int))) (lv' := [(2, .int (iI ((w) + (1 : Int)))), (1, .int (iI ((q) + ((0 : Int))))), (0, .ref (h))]) hx hb dX12_least_40 hl (k := 2) rfl (iI_add _ _) (by decide) rfl (fun ls hl => ?_)
            refine lv_goto (tgt := 16) hx hb dX12_least_43 (by decide) ?_
            exact ih  ((q) + ((0 : Int))) ((w) + (1 : Int)) (by omega) (by omega) (a0) (a1) (by omega) hres _ _ ls hP hD hS (lv_sub hl [2, 1, 0] rfl)
          · skip
            rw [if_neg c_30] at hres
            refine lv_iconst (v := iI (1 : Int)) hx hb dX12_least_33 (by decide) ?_
            refine lv_goto (tgt := 38) hx hb dX12_least_34 (by decide) ?_
            refine wi_iadd hx hb dX12_least_38 ?_
            refine lv_istore_n (lv' := [(1, .int (iI ((q) + ((1 : Int))))), (0, .ref (h)), (2, .int (iI (w)))]) hx hb dX12_least_39 rfl hl (by decide) rfl (fun ls hl => ?_)
            refine lv_iinc (v := iI ((w) + (1 : Int))) (lv' := [(2, .int (iI ((w) + (1 : Int)))), (1, .int (iI ((q) + ((1 : Int))))), (0, .ref (h))]) hx hb dX12_least_40 hl (k := 2) rfl (iI_add _ _) (by decide) rfl (fun ls hl => ?_)
            refine lv_goto (tgt := 16) hx hb dX12_least_43 (by decide) ?_
            exact ih  ((q) + ((1 : Int))) ((w) + (1 : Int)) (by omega) (by omega) (a0) (a1) (by omega) hres _ _ ls hP hD hS (lv_sub hl [2, 1, 0] rfl)
  have key : ∀ (H : Heap) (locs : List Loc), va_P (dC, dI) vwCl (mW h ad cI cJ cZ (x)) H → va_S A s.heap H locs → W p l e (headSpec wsX12_least ({ frames := 1, cells := 0, slots := 0, locals := 21 })).room s m ([.ref h] : List Value).toArray below meth c H locs 0 0 (MQ below (va_Qi (fun (r : Int32) (u : MS) => r = iI (F_m_least (x)).1 ∧ u = (F_m_least (x)).2) (mAt dC dI h ad cI cJ cZ A) A) ([.ref h] : List Value).toArray s 0 0 A) (F0 m 0 ls []) := by
    intro H locs hP hS
    have hres : (if ((x).1 6) = ((-9 : Int)) then ((-3 : Int), x) else F_m_least_s 10010 0 (x) ((0 : Int)) ((0 : Int))) = F_m_least (x) := rfl
    refine lv_aload_n hx hb dX12_least_0 rfl (lv_at hl 0 rfl) ?_
    refine va_get (D := (dC, dI)) (ci := 12) (v := .int (iI ((x).1 6))) (C := RX12) (T := TX12) (N := 34) hx hb hts hin hown hK hP 0 rfl rfl 6 (by decide) (hts (.fieldLink RX12 26 "LikeWordsModel" "seen" "I") (by decide +kernel)) (fun _ h9 => h9) rfl dX12_least_1 ?_
    refine lv_bipush (v := iI (-9 : Int)) hx hb dX12_least_4 (by decide) ?_
    refine wi_icmp_ne (tgt := 12) hx hb (by first | assumption | (unfold iR; omega) | exact F_R01 (by assumption)) ⟨by decide, by decide⟩ dX12_least_6 (by decide) (fun c_6 => ?_) (fun c_6 => ?_)
    · skip
      rw [if_neg c_6] at hres
      have aa9 := aa c_6
      refine lv_iconst (v := iI (0 : Int)) hx hb dX12_least_12 (by decide) ?_
      refine lv_istore_n (lv' := [(1, .int (iI ((0 : Int)))), (0, .ref (h))]) hx hb dX12_least_13 rfl hl (by decide) rfl (fun ls hl => ?_)
      refine lv_iconst (v := iI (0 : Int)) hx hb dX12_least_14 (by decide) ?_
      refine lv_istore_n (lv' := [(2, .int (iI ((0 : Int)))), (1, .int (iI ((0 : Int)))), (0, .ref (h))]) hx hb dX12_least_15 rfl hl (by decide) rfl (fun ls hl => ?_)
      exact (L (10010))  ((0 : Int)) ((0 : Int)) (by omega) (by omega) ((aa c_6).1) ((aa c_6).2) (by omega) hres _ _ ls hP hD hS (lv_sub hl [2, 1, 0] rfl)
    · skip
      rw [if_pos c_6] at hres
      refine lv_bipush (v := iI (-3 : Int)) hx hb dX12_least_9 (by decide) ?_
      exact W.iret (v := iI ((-3 : Int))) hx hb hr (fun t ht hW => ⟨⟨iI ((-3 : Int)), x, rfl, ⟨(by have h9 := congrArg (fun z : Int × MS => iI z.1) hres; exact h9), (by have h9 := congrArg (fun z : Int × MS => z.2) hres; exact h9)⟩, by rw [ht]; exact hP, va_K.moved hW.alike hK, hD⟩, hS.F ht⟩) hS.2.2 dX12_least_11
  exact key _ _ hP hS
set_option maxHeartbeats 4000000 in
set_option maxRecDepth 100000 in
/-- rule -/
theorem d_m_rule (l : Launch) (dC : Nat → ClassId) (dI : Nat → Nat → Nat) (h : Nat) (ad : Nat → Nat) (cI cJ cZ : ClassId) (sz : Nat) (x : MS) (g : Int) (b : Int) (i : Int) (sn : iR (x.1 6)) (rg : iR g) (b01 : b = 0 ∨ b = 1) (ri : iR i) (rr : ¬ x.1 6 = -9 → (0 ≤ x.1 12 ∧ x.1 12 ≤ 40)) (zz : ¬ x.1 6 = -9 → ∀ k : Nat, (k : Int) < x.1 12 → 0 ≤ x.2 13 k ∧ x.2 13 k ≤ 24 ∧ 0 ≤ x.2 15 k ∧ x.2 15 k ≤ 24) : Met l yX12_rule wsX12_rule ({ frames := 1, cells := 0, slots := 0, locals := 25 }) (mPc dC dI h ad cI cJ cZ sz x [.ref h, .int (iI g), .int (iI b), .int (iI i)]) (va_Qi (fun (r : Int32) (u : MS) => r = iI (F_m_rule (x) (g) (b) (i)).1 ∧ u = (F_m_rule (x) (g) (b) (i)).2) (mAt dC dI h ad cI cJ cZ (va_A (mW h ad cI cJ cZ (x)) sz)) (va_A (mW h ad cI cJ cZ (x)) sz)) 0 0 (va_A (mW h ad cI cJ cZ (x)) sz) := by
  refine Met.ofW (cc := cX12_rule) (maxL := 5) (ret := (some .int)) (by decide) rfl ?_
  intro p e s m args below meth c s₁ B hml hv
  obtain ⟨rfl, hsz, hP, hK, hD0⟩ := hv
  have hx := B.exec
  have hb := B.bytes
  have hr := B.returns
  have hts := atoms_spec (ws := wsX12_rule) B.pre
  have hown : s.vm.findClass RX12 = some m.cls := findClass_of_methodNamed B.named
  have hlocks := B.notSynchronized
  have hin : ∀ w ∈ u_ws RX12 TX12 34, w ∈ wsX12_rule := by decide +kernel
  subst hsz
  have hD := hD0.self (sz := s.heap.size)
  generalize hAe : va_A (mW h ad cI cJ cZ (x)) s.heap.size = A at hD ⊢
  have hA : ∀ q : Nat, s.heap.size ≤ q → A q := fun q h => by rw [← hAe]; exact Or.inr h
  have hS : va_S A s.heap s.heap [] := va_S.rf
  have hl := lv_entry ([.ref h, .int (iI g), .int (iI b), .int (iI i)]) (n := 5) (Nat.le_of_ble_eq_true rfl)
  rw [lg_entry_eq]
  generalize (lg_sl ([.ref h, .int (iI g), .int (iI b), .int (iI i)]) ++ List.replicate (5 - (lg_sl ([.ref h, .int (iI g), .int (iI b), .int (iI i)])).length) Slot.unset).toArray = ls at hl ⊢
  have hl : lv_has ls 5 [(0, .ref (h)), (1, .int (iI (g))), (2, .int (iI (b))), (3, .int (iI (i)))] := hl
  have key : ∀ (H : Heap) (locs : List Loc), va_P (dC, dI) vwCl (mW h ad cI cJ cZ (x)) H → va_S A s.heap H locs → W p l e (headSpec wsX12_rule ({ frames := 1, cells := 0, slots := 0, locals := 25 })).room s m ([.ref h, .int (iI g), .int (iI b), .int (iI i)] : List Value).toArray below meth c H locs 0 0 (MQ below (va_Qi (fun (r : Int32) (u : MS) => r = iI (F_m_rule (x) (g) (b) (i)).1 ∧ u = (F_m_rule (x) (g) (b) (i)).2) (mAt dC dI h ad cI cJ cZ A) A) ([.ref h, .int (iI g), .int (iI b), .int (iI i)] : List Value).toArray s 0 0 A) (F0 m 0 ls []) := by
    intro H locs hP hS
    have hres : (if ((x).1 6) = ((-9 : Int)) then ((-3 : Int), x) else (if ((F_m_in (x) (g) ((0 : Int)) (((x).1 12) - ((1 : Int)))).1) = (0) then ((-1 : Int), x) else (if (b) = (0) then (if ((F_m_in (x) (i) ((0 : Int)) ((((x).2 15) (g).toNat) - ((1 : Int)))).1) = (0) then ((-9 : Int), x) else (if (b) = (0) then (((x).2 16) ((((24 : Int)) * (g)) + (i)).toNat, x) else (((x).2 14) ((((24 : Int)) * (g)) + (i)).toNat, x))) else (if ((F_m_in (x) (i) ((0 : Int)) ((((x).2 13) (g).toNat) - ((1 : Int)))).1) = (0) then ((-9 : Int), x) else (if (b) = (0) then (((x).2 16) ((((24 : Int)) * (g)) + (i)).toNat, x) else (((x).2 14) ((((24 : Int)) * (g)) + (i)).toNat, x)))))) = F_m_rule (x) (g) (b) (i) := rfl
    refine lv_aload_n hx hb dX12_rule_0 rfl (lv_at hl 0 rfl) ?_
    refine va_get (D := (dC, dI)) (ci := 12) (v := .int (iI ((x).1 6))) (C := RX12) (T := TX12) (N := 34) hx hb hts hin hown hK hP 0 rfl rfl 6 (by decide) (hts (.fieldLink RX12 26 "LikeWordsModel" "seen" "I") (by decide +kernel)) (fun _ h9 => h9) rfl dX12_rule_1 ?_
    refine lv_bipush (v := iI (-9 : Int)) hx hb dX12_rule_4 (by decide) ?_
    refine wi_icmp_ne (tgt := 12) hx hb (by first | assumption | (unfold iR; omega) | exact F_R01 (by assumption)) ⟨by decide, by decide⟩ dX12_rule_6 (by decide) (fun c_6 => ?_) (fun c_6 => ?_)
    · skip
      rw [if_neg c_6] at hres
      obtain ⟨r0, r1⟩ := rr c_6
      refine lv_iload_n hx hb dX12_rule_12 rfl (lv_at hl 1 rfl) ?_
      refine wi_i2l hx hb rg dX12_rule_13 ?_
      refine lv_lconst (v := iL 0) hx hb dX12_rule_14 (by decide) ?_
      refine lv_aload_n hx hb dX12_rule_15 rfl (lv_at hl 0 rfl) ?_
      refine va_get (D := (dC, dI)) (ci := 12) (v := .int (iI ((x).1 12))) (C := RX12) (T := TX12) (N := 34) hx hb hts hin hown hK hP 0 rfl rfl 12 (by decide) (hts (.fieldLink RX12 139 "LikeWordsModel" "rules" "I") (by decide +kernel)) (fun _ h9 => h9) rfl dX12_rule_16 ?_
      refine lv_iconst (v := iI (1 : Int)) hx hb dX12_rule_19 (by decide) ?_
      refine wi_isub hx hb dX12_rule_20 ?_
      refine wi_i2l hx hb (by unfold iR; omega) dX12_rule_21 ?_
      have hFc : ∀ q, va_A (mW h ad cI cJ cZ (x)) H.size q → A q := fun q hq => Or.elim hq (fun ⟨k, e, hk⟩ => hD.2 k (q, e) hk) (fun hk => hA q (Nat.le_trans hS.1 hk))
      refine va_calli (va_runS (As := [.long (iL (g)), .long (iL ((0 : Int))), .long (iL (((x).1 12) - ((1 : Int))))]) (rest := []) ⟨hx, hb, hml, hown, hts⟩ (c_m_in l dC dI h ad cI cJ cZ H.size (x) (g) ((0 : Int)) (((x).1 12) - ((1 : Int))) (iR_L rg) ⟨by decide, by decide⟩ (by unfold iRL; omega)) (va_cwS 3 hts gX12_rule_X12_in rfl rfl rfl (by decide +kernel) ⟨Nat.le_of_ble_eq_true rfl, Nat.le_of_ble_eq_true rfl⟩) ⟨fun a U g mk q => by obtain ⟨q0, q1, qP, qK, qD⟩ := q; exact ⟨q0, q1, qP, va_K.moved (u := U) (U := U.calling g mk a) (Vm.Alike.refl U.vm) qK, qD⟩, fun U hU hW => ⟨rfl, by rw [hU], by rw [hU]; exact hP, va_K.moved hW.alike hK, hD.weaken (fun _ _ _ _ => trivial)⟩⟩ rfl rfl hl.1 rfl (lv_room (Nat.le_of_ble_eq_true rfl)) dX12_rule_22 ⟨Nat.le_of_ble_eq_true rfl, Nat.le_of_ble_eq_true rfl⟩) hS (fun q _ h => hFc q h) hFc (fun r9 u9 t H1 locs ht hvm hw hB hz1 hk1 hS => ?_)
      obtain ⟨hP1, hK1, hD1⟩ := hB
      rw [ht] at hP1
      obtain ⟨hw1, hw2⟩ := hw
      rw [hw2] at hP1 hD1
      rw [hw1]
      rw [F_m_in_2] at hP1 hD1
      have hD2 := hD1.weaken (B := A) (fun _ q _ h => hFc q.1 h)
      have hP := hP1
      have hD := hD2
      generalize H1 = H at hP hS ⊢
      refine wi_if_ne (tgt := 30) hx hb (by rw [F_m_in_1]; exact F_R01 (F_in_01 _ _ _)) dX12_rule_25 (by decide) (fun c_25 => ?_) (fun c_25 => ?_)
      · skip
        rw [if_neg c_25] at hres
        rw [F_m_in_1] at c_25
        obtain ⟨g0, g1⟩ := F_in_1 c_25
        obtain ⟨y0, y1, y2, y3⟩ := zz c_6 g.toNat (by omega)
        refine lv_iload_n hx hb dX12_rule_30 rfl (lv_at hl 2 rfl) ?_
        refine wi_if_eq (tgt := 43) hx hb (F_R01 b01) dX12_rule_31 (by decide) (fun c_31 => ?_) (fun c_31 => ?_)
        · skip
          rw [if_pos c_31] at hres
          refine lv_aload_n hx hb dX12_rule_43 rfl (lv_at hl 0 rfl) ?_
          refine va_get (D := (dC, dI)) (ci := 12) (v := .ref (ad 15)) (C := RX12) (T := TX12) (N := 34) hx hb hts hin hown hK hP 0 rfl rfl 15 (by decide) (hts (.fieldLink RX12 44 "LikeWordsModel" "rightSize" "[I") (by decide +kernel)) (fun _ h9 => h9) rfl dX12_rule_44 ?_
          refine lv_iload_n hx hb dX12_rule_47 rfl (lv_at hl 1 rfl) ?_
          refine wi_iald (f := (x).2 15) hx hb hK hP 10 0 rfl rfl (i := g) (by omega) (by omega) (by decide) dX12_rule_48 ?_
          refine lv_istore (lv' := [(4, .int (iI (((x).2 15) (g).toNat))), (0, .ref (h)), (1, .int (iI (g))), (2, .int (iI (b))), (3, .int (iI (i)))]) hx hb dX12_rule_49 hl (by decide) rfl (fun ls hl => ?_)
          refine lv_iload_n hx hb dX12_rule_51 rfl (lv_at hl 4 rfl) ?_
          refine wi_i2l hx hb ri dX12_rule_52 ?_
          refine lv_lconst (v := iL 0) hx hb dX12_rule_53 (by decide) ?_
          refine lv_iload hx hb dX12_rule_54 (lv_at hl 0 rfl) ?_
          refine lv_iconst (v := iI (1 : Int)) hx hb dX12_rule_56 (by decide) ?_
          refine wi_isub hx hb dX12_rule_57 ?_
          refine wi_i2l hx hb (by unfold iR; omega) dX12_rule_58 ?_
          have hFc : ∀ q, va_A (mW h ad cI cJ cZ (x)) H.size q → A q := fun q hq => Or.elim hq (fun ⟨k, e, hk⟩ => hD.2 k (q, e) hk) (fun hk => hA q (Nat.le_trans hS.1 hk))
          refine va_calli (va_runS (As := [.long (iL (i)), .long (iL ((0 : Int))), .long (iL ((((x).2 15) (g).toNat) - ((1 : Int))))]) (rest := []) ⟨hx, hb, hml, hown, hts⟩ (c_m_in l dC dI h ad cI cJ cZ H.size (x) (i) ((0 : Int)) ((((x).2 15) (g).toNat) - ((1 : Int))) (iR_L ri) ⟨by decide, by decide⟩ (by unfold iRL; omega)) (va_cwS 3 hts gX12_rule_X12_in rfl rfl rfl (by decide +kernel) ⟨Nat.le_of_ble_eq_true rfl, Nat.le_of_ble_eq_true rfl⟩) ⟨fun a U g mk q => by obtain ⟨q0, q1, qP, qK, qD⟩ := q; exact ⟨q0, q1, qP, va_K.moved (u := U) (U := U.calling g mk a) (Vm.Alike.refl U.vm) qK, qD⟩, fun U hU hW => ⟨rfl, by rw [hU], by rw [hU]; exact hP, va_K.moved hW.alike hK, hD.weaken (fun _ _ _ _ => trivial)⟩⟩ rfl rfl hl.1 rfl (lv_room (Nat.le_of_ble_eq_true rfl)) dX12_rule_59 ⟨Nat.le_of_ble_eq_true rfl, Nat.le_of_ble_eq_true rfl⟩) hS (fun q _ h => hFc q h) hFc (fun r9 u9 t H1 locs ht hvm hw hB hz1 hk1 hS => ?_)
          obtain ⟨hP1, hK1, hD1⟩ := hB
          rw [ht] at hP1
          obtain ⟨hw1, hw2⟩ := hw
          rw [hw2] at hP1 hD1
          rw [hw1]
          rw [F_m_in_2] at hP1 hD1
          have hD2 := hD1.weaken (B := A) (fun _ q _ h => hFc q.1 h)
          have hP := hP1
          have hD := hD2
          generalize H1 = H at hP hS ⊢
          refine wi_if_ne (tgt := 70) hx hb (by rw [F_m_in_1]; exact F_R01 (F_in_01 _ _ _)) dX12_rule_62 (by decide) (fun c_62 => ?_) (fun c_62 => ?_)
          · skip
            rw [if_neg c_62] at hres
            rw [F_m_in_1] at c_62
            obtain ⟨i0, i1⟩ := F_in_1 c_62
            refine lv_iload_n hx hb dX12_rule_70 rfl (lv_at hl 3 rfl) ?_
            refine wi_if_eq (tgt := 88) hx hb (F_R01 b01) dX12_rule_71 (by decide) (fun c_71 => ?_) (fun c_71 => ?_)
            · skip
              rw [if_pos c_71] at hres
              have q9 : i < 24 := by rcases b01 with hb9 | hb9 <;> omega
              refine lv_aload_n hx hb dX12_rule_88 rfl (lv_at hl 1 rfl) ?_
              refine va_get (D := (dC, dI)) (ci := 12) (v := .ref (ad 16)) (C := RX12) (T := TX12) (N := 34) hx hb hts hin hown hK hP 0 rfl rfl 16 (by decide) (hts (.fieldLink RX12 47 "LikeWordsModel" "right" "[I") (by decide +kernel)) (fun _ h9 => h9) rfl dX12_rule_89 ?_
              refine lv_bipush (v := iI (24 : Int)) hx hb dX12_rule_92 (by decide) ?_
              refine lv_iload_n hx hb dX12_rule_94 rfl (lv_at hl 2 rfl) ?_
              refine wi_imul hx hb dX12_rule_95 ?_
              refine lv_iload_n hx hb dX12_rule_96 rfl (lv_at hl 4 rfl) ?_
              refine wi_iadd hx hb dX12_rule_97 ?_
              refine wi_iald (f := (x).2 16) hx hb hK hP 11 0 rfl rfl (i := (((24 : Int)) * (g)) + (i)) (by omega) (by omega) (by decide) dX12_rule_98 ?_
              exact W.iret (v := iI (((x).2 16) ((((24 : Int)) * (g)) + (i)).toNat)) hx hb hr (fun t ht hW => ⟨⟨iI (((x).2 16) ((((24 : Int)) * (g)) + (i)).toNat), x, rfl, ⟨(by have h9 := congrArg (fun z : Int × MS => iI z.1) hres; exact h9), (by have h9 := congrArg (fun z : Int × MS => z.2) hres; exact h9)⟩, by rw [ht]; exact hP, va_K.moved hW.alike hK, hD⟩, hS.F ht⟩) hS.2.2 dX12_rule_99
            · skip
              rw [if_neg c_71] at hres
              have q9 : i < 24 := by rcases b01 with hb9 | hb9 <;> omega
              refine lv_aload_n hx hb dX12_rule_74 rfl (lv_at hl 1 rfl) ?_
              refine va_get (D := (dC, dI)) (ci := 12) (v := .ref (ad 14)) (C := RX12) (T := TX12) (N := 34) hx hb hts hin hown hK hP 0 rfl rfl 14 (by decide) (hts (.fieldLink RX12 41 "LikeWordsModel" "left" "[I") (by decide +kernel)) (fun _ h9 => h9) rfl dX12_rule_75 ?_
              refine lv_bipush (v := iI (24 : Int)) hx hb dX12_rule_78 (by decide) ?_
              refine lv_iload_n hx hb dX12_rule_80 rfl (lv_at hl 2 rfl) ?_
              refine wi_imul hx hb dX12_rule_81 ?_
              refine lv_iload_n hx hb dX12_rule_82 rfl (lv_at hl 4 rfl) ?_
              refine wi_iadd hx hb dX12_rule_83 ?_
              refine wi_iald (f := (x).2 14) hx hb hK hP 9 0 rfl rfl (i := (((24 : Int)) * (g)) + (i)) (by omega) (by omega) (by decide) dX12_rule_84 ?_
              refine lv_goto (tgt := 99) hx hb dX12_rule_85 (by decide) ?_
              exact W.iret (v := iI (((x).2 14) ((((24 : Int)) * (g)) + (i)).toNat)) hx hb hr (fun t ht hW => ⟨⟨iI (((x).2 14) ((((24 : Int)) * (g)) + (i)).toNat), x, rfl, ⟨(by have h9 := congrArg (fun z : Int × MS => iI z.1) hres; exact h9), (by have h9 := congrArg (fun z : Int × MS => z.2) hres; exact h9)⟩, by rw [ht]; exact hP, va_K.moved hW.alike hK, hD⟩, hS.F ht⟩) hS.2.2 dX12_rule_99
          · skip
            rw [if_pos c_62] at hres
            refine lv_bipush (v := iI (-9 : Int)) hx hb dX12_rule_65 (by decide) ?_
            refine lv_goto (tgt := 99) hx hb dX12_rule_67 (by decide) ?_
            exact W.iret (v := iI ((-9 : Int))) hx hb hr (fun t ht hW => ⟨⟨iI ((-9 : Int)), x, rfl, ⟨(by have h9 := congrArg (fun z : Int × MS => iI z.1) hres; exact h9), (by have h9 := congrArg (fun z : Int × MS => z.2) hres; exact h9)⟩, by rw [ht]; exact hP, va_K.moved hW.alike hK, hD⟩, hS.F ht⟩) hS.2.2 dX12_rule_99
        · skip
          rw [if_neg c_31] at hres
          refine lv_aload_n hx hb dX12_rule_34 rfl (lv_at hl 0 rfl) ?_
          refine va_get (D := (dC, dI)) (ci := 12) (v := .ref (ad 13)) (C := RX12) (T := TX12) (N := 34) hx hb hts hin hown hK hP 0 rfl rfl 13 (by decide) (hts (.fieldLink RX12 38 "LikeWordsModel" "leftSize" "[I") (by decide +kernel)) (fun _ h9 => h9) rfl dX12_rule_35 ?_
          refine lv_iload_n hx hb dX12_rule_38 rfl (lv_at hl 1 rfl) ?_
          refine wi_iald (f := (x).2 13) hx hb hK hP 8 0 rfl rfl (i := g) (by omega) (by omega) (by decide) dX12_rule_39 ?_
          refine lv_goto (tgt := 49) hx hb dX12_rule_40 (by decide) ?_
          refine lv_istore (lv' := [(4, .int (iI (((x).2 13) (g).toNat))), (0, .ref (h)), (1, .int (iI (g))), (2, .int (iI (b))), (3, .int (iI (i)))]) hx hb dX12_rule_49 hl (by decide) rfl (fun ls hl => ?_)
          refine lv_iload_n hx hb dX12_rule_51 rfl (lv_at hl 4 rfl) ?_
          refine wi_i2l hx hb ri dX12_rule_52 ?_
          refine lv_lconst (v := iL 0) hx hb dX12_rule_53 (by decide) ?_
          refine lv_iload hx hb dX12_rule_54 (lv_at hl 0 rfl) ?_
          refine lv_iconst (v := iI (1 : Int)) hx hb dX12_rule_56 (by decide) ?_
          refine wi_isub hx hb dX12_rule_57 ?_
          refine wi_i2l hx hb (by unfold iR; omega) dX12_rule_58 ?_
          have hFc : ∀ q, va_A (mW h ad cI cJ cZ (x)) H.size q → A q := fun q hq => Or.elim hq (fun ⟨k, e, hk⟩ => hD.2 k (q, e) hk) (fun hk => hA q (Nat.le_trans hS.1 hk))
          refine va_calli (va_runS (As := [.long (iL (i)), .long (iL ((0 : Int))), .long (iL ((((x).2 13) (g).toNat) - ((1 : Int))))]) (rest := []) ⟨hx, hb, hml, hown, hts⟩ (c_m_in l dC dI h ad cI cJ cZ H.size (x) (i) ((0 : Int)) ((((x).2 13) (g).toNat) - ((1 : Int))) (iR_L ri) ⟨by decide, by decide⟩ (by unfold iRL; omega)) (va_cwS 3 hts gX12_rule_X12_in rfl rfl rfl (by decide +kernel) ⟨Nat.le_of_ble_eq_true rfl, Nat.le_of_ble_eq_true rfl⟩) ⟨fun a U g mk q => by obtain ⟨q0, q1, qP, qK, qD⟩ := q; exact ⟨q0, q1, qP, va_K.moved (u := U) (U := U.calling g mk a) (Vm.Alike.refl U.vm) qK, qD⟩, fun U hU hW => ⟨rfl, by rw [hU], by rw [hU]; exact hP, va_K.moved hW.alike hK, hD.weaken (fun _ _ _ _ => trivial)⟩⟩ rfl rfl hl.1 rfl (lv_room (Nat.le_of_ble_eq_true rfl)) dX12_rule_59 ⟨Nat.le_of_ble_eq_true rfl, Nat.le_of_ble_eq_true rfl⟩) hS (fun q _ h => hFc q h) hFc (fun r9 u9 t H1 locs ht hvm hw hB hz1 hk1 hS => ?_)
          obtain ⟨hP1, hK1, hD1⟩ := hB
          rw [ht] at hP1
          obtain ⟨hw1, hw2⟩ := hw
          rw [hw2] at hP1 hD1
          rw [hw1]
          rw [F_m_in_2] at hP1 hD1
          have hD2 := hD1.weaken (B := A) (fun _ q _ h => hFc q.1 h)
          have hP := hP1
          have hD := hD2
          generalize H1 = H at hP hS ⊢
          refine wi_if_ne (tgt := 70) hx hb (by rw [F_m_in_1]; exact F_R01 (F_in_01 _ _ _)) dX12_rule_62 (by decide) (fun c_62 => ?_) (fun c_62 => ?_)
          · skip
            rw [if_neg c_62] at hres
            rw [F_m_in_1] at c_62
            obtain ⟨i0, i1⟩ := F_in_1 c_62
            refine lv_iload_n hx hb dX12_rule_70 rfl (lv_at hl 3 rfl) ?_
            refine wi_if_eq (tgt := 88) hx hb (F_R01 b01) dX12_rule_71 (by decide) (fun c_71 => ?_) (fun c_71 => ?_)
            · skip
              rw [if_pos c_71] at hres
              have q9 : i < 24 := by rcases b01 with hb9 | hb9 <;> omega
              refine lv_aload_n hx hb dX12_rule_88 rfl (lv_at hl 1 rfl) ?_
              refine va_get (D := (dC, dI)) (ci := 12) (v := .ref (ad 16)) (C := RX12) (T := TX12) (N := 34) hx hb hts hin hown hK hP 0 rfl rfl 16 (by decide) (hts (.fieldLink RX12 47 "LikeWordsModel" "right" "[I") (by decide +kernel)) (fun _ h9 => h9) rfl dX12_rule_89 ?_
              refine lv_bipush (v := iI (24 : Int)) hx hb dX12_rule_92 (by decide) ?_
              refine lv_iload_n hx hb dX12_rule_94 rfl (lv_at hl 2 rfl) ?_
              refine wi_imul hx hb dX12_rule_95 ?_
              refine lv_iload_n hx hb dX12_rule_96 rfl (lv_at hl 4 rfl) ?_
              refine wi_iadd hx hb dX12_rule_97 ?_
              refine wi_iald (f := (x).2 16) hx hb hK hP 11 0 rfl rfl (i := (((24 : Int)) * (g)) + (i)) (by omega) (by omega) (by decide) dX12_rule_98 ?_
              exact W.iret (v := iI (((x).2 16) ((((24 : Int)) * (g)) + (i)).toNat)) hx hb hr (fun t ht hW => ⟨⟨iI (((x).2 16) ((((24 : Int)) * (g)) + (i)).toNat), x, rfl, ⟨(by have h9 := congrArg (fun z : Int × MS => iI z.1) hres; exact h9), (by have h9 := congrArg (fun z : Int × MS => z.2) hres; exact h9)⟩, by rw [ht]; exact hP, va_K.moved hW.alike hK, hD⟩, hS.F ht⟩) hS.2.2 dX12_rule_99
            · skip
              rw [if_neg c_71] at hres
              have q9 : i < 24 := by rcases b01 with hb9 | hb9 <;> omega
              refine lv_aload_n hx hb dX12_rule_74 rfl (lv_at hl 1 rfl) ?_
              refine va_get (D := (dC, dI)) (ci := 12) (v := .ref (ad 14)) (C := RX12) (T := TX12) (N := 34) hx hb hts hin hown hK hP 0 rfl rfl 14 (by decide) (hts (.fieldLink RX12 41 "LikeWordsModel" "left" "[I") (by decide +kernel)) (fun _ h9 => h9) rfl dX12_rule_75 ?_
              refine lv_bipush (v := iI (24 : Int)) hx hb dX12_rule_78 (by decide) ?_
              refine lv_iload_n hx hb dX12_rule_80 rfl (lv_at hl 2 rfl) ?_
              refine wi_imul hx hb dX12_rule_81 ?_
              refine lv_iload_n hx hb dX12_rule_82 rfl (lv_at hl 4 rfl) ?_
              refine wi_iadd hx hb dX12_rule_83 ?_
              refine wi_iald (f := (x).2 14) hx hb hK hP 9 0 rfl rfl (i := (((24 : Int)) * (g)) + (i)) (by omega) (by omega) (by decide) dX12_rule_84 ?_
              refine lv_goto (tgt := 99) hx hb dX12_rule_85 (by decide) ?_
              exact W.iret (v := iI (((x).2 14) ((((24 : Int)) * (g)) + (i)).toNat)) hx hb hr (fun t ht hW => ⟨⟨iI (((x).2 14) ((((24 : Int)) * (g)) + (i)).toNat), x, rfl, ⟨(by have h9 := congrArg (fun z : Int × MS => iI z.1) hres; exact h9), (by have h9 := congrArg (fun z : Int × MS => z.2) hres; exact h9)⟩, by rw [ht]; exact hP, va_K.moved hW.alike hK, hD⟩, hS.F ht⟩) hS.2.2 dX12_rule_99
          · skip
            rw [if_pos c_62] at hres
            refine lv_bipush (v := iI (-9 : Int)) hx hb dX12_rule_65 (by decide) ?_
            refine lv_goto (tgt := 99) hx hb dX12_rule_67 (by decide) ?_
            exact W.iret (v := iI ((-9 : Int))) hx hb hr (fun t ht hW => ⟨⟨iI ((-9 : Int)), x, rfl, ⟨(by have h9 := congrArg (fun z : Int × MS => iI z.1) hres; exact h9), (by have h9 := congrArg (fun z : Int × MS => z.2) hres; exact h9)⟩, by rw [ht]; exact hP, va_K.moved hW.alike hK, hD⟩, hS.F ht⟩) hS.2.2 dX12_rule_99
      · skip
        rw [if_pos c_25] at hres
        refine lv_iconst (v := iI (-1 : Int)) hx hb dX12_rule_28 (by decide) ?_
        exact W.iret (v := iI ((-1 : Int))) hx hb hr (fun t ht hW => ⟨⟨iI ((-1 : Int)), x, rfl, ⟨(by have h9 := congrArg (fun z : Int × MS => iI z.1) hres; exact h9), (by have h9 := congrArg (fun z : Int × MS => z.2) hres; exact h9)⟩, by rw [ht]; exact hP, va_K.moved hW.alike hK, hD⟩, hS.F ht⟩) hS.2.2 dX12_rule_29
    · skip
      rw [if_pos c_6] at hres
      refine lv_bipush (v := iI (-3 : Int)) hx hb dX12_rule_9 (by decide) ?_
      exact W.iret (v := iI ((-3 : Int))) hx hb hr (fun t ht hW => ⟨⟨iI ((-3 : Int)), x, rfl, ⟨(by have h9 := congrArg (fun z : Int × MS => iI z.1) hres; exact h9), (by have h9 := congrArg (fun z : Int × MS => z.2) hres; exact h9)⟩, by rw [ht]; exact hP, va_K.moved hW.alike hK, hD⟩, hS.F ht⟩) hS.2.2 dX12_rule_11
  exact key _ _ hP hS
set_option maxHeartbeats 4000000 in
set_option maxRecDepth 100000 in
/-- leads -/
theorem d_m_leads (l : Launch) (dC : Nat → ClassId) (dI : Nat → Nat → Nat) (h : Nat) (ad : Nat → Nat) (cI cJ cZ : ClassId) (sz : Nat) (x : MS) (g : Int) (c0 : Int) (sn : iR (x.1 6)) (ic : x.1 27 = 0 ∨ x.1 27 = 1) (rg : iR g) (rc : iR c0) (lt : 1 ≤ x.1 0 ∧ x.1 0 ≤ 4) (nn : ¬ (F_m_isMachine x).1 = 0 → (0 ≤ x.1 24 ∧ x.1 24 ≤ 850)) (hn : ¬ (F_m_isMachine x).1 = 0 → 0 ≤ g → g < x.1 24 → 0 ≤ c0 → c0 < x.1 0 → 0 ≤ x.2 25 g.toNat ∧ x.2 25 g.toNat < 850 ∧ 0 ≤ (x.2 19) ((4 * (x.2 25 g.toNat)) + c0).toNat ∧ (x.2 19) ((4 * (x.2 25 g.toNat)) + c0).toNat < 850 ∧ iR ((x.2 21) ((x.2 19) ((4 * (x.2 25 g.toNat)) + c0).toNat).toNat)) : Met l yX12_leads wsX12_leads ({ frames := 1, cells := 0, slots := 0, locals := 25 }) (mPc dC dI h ad cI cJ cZ sz x [.ref h, .int (iI g), .int (iI c0)]) (va_Qi (fun (r : Int32) (u : MS) => r = iI (F_m_leads (x) (g) (c0)).1 ∧ u = (F_m_leads (x) (g) (c0)).2) (mAt dC dI h ad cI cJ cZ (va_A (mW h ad cI cJ cZ (x)) sz)) (va_A (mW h ad cI cJ cZ (x)) sz)) 0 0 (va_A (mW h ad cI cJ cZ (x)) sz) := by
  refine Met.ofW (cc := cX12_leads) (maxL := 3) (ret := (some .int)) (by decide) rfl ?_
  intro p e s m args below meth c s₁ B hml hv
  obtain ⟨rfl, hsz, hP, hK, hD0⟩ := hv
  have hx := B.exec
  have hb := B.bytes
  have hr := B.returns
  have hts := atoms_spec (ws := wsX12_leads) B.pre
  have hown : s.vm.findClass RX12 = some m.cls := findClass_of_methodNamed B.named
  have hlocks := B.notSynchronized
  have hin : ∀ w ∈ u_ws RX12 TX12 34, w ∈ wsX12_leads := by decide +kernel
  subst hsz
  have hD := hD0.self (sz := s.heap.size)
  generalize hAe : va_A (mW h ad cI cJ cZ (x)) s.heap.size = A at hD ⊢
  have hA : ∀ q : Nat, s.heap.size ≤ q → A q := fun q h => by rw [← hAe]; exact Or.inr h
  have hS : va_S A s.heap s.heap [] := va_S.rf
  have hl := lv_entry ([.ref h, .int (iI g), .int (iI c0)]) (n := 3) (Nat.le_of_ble_eq_true rfl)
  rw [lg_entry_eq]
  generalize (lg_sl ([.ref h, .int (iI g), .int (iI c0)]) ++ List.replicate (3 - (lg_sl ([.ref h, .int (iI g), .int (iI c0)])).length) Slot.unset).toArray = ls at hl ⊢
  have hl : lv_has ls 3 [(0, .ref (h)), (1, .int (iI (g))), (2, .int (iI (c0)))] := hl
  have l0 := lt.1
  have l1 := lt.2
  have key : ∀ (H : Heap) (locs : List Loc), va_P (dC, dI) vwCl (mW h ad cI cJ cZ (x)) H → va_S A s.heap H locs → W p l e (headSpec wsX12_leads ({ frames := 1, cells := 0, slots := 0, locals := 25 })).room s m ([.ref h, .int (iI g), .int (iI c0)] : List Value).toArray below meth c H locs 0 0 (MQ below (va_Qi (fun (r : Int32) (u : MS) => r = iI (F_m_leads (x) (g) (c0)).1 ∧ u = (F_m_leads (x) (g) (c0)).2) (mAt dC dI h ad cI cJ cZ A) A) ([.ref h, .int (iI g), .int (iI c0)] : List Value).toArray s 0 0 A) (F0 m 0 ls []) := by
    intro H locs hP hS
    have hres : (if ((F_m_isMachine (x)).1) = (0) then ((-3 : Int), x) else (if ((F_m_in (x) (g) ((0 : Int)) (((x).1 24) - ((1 : Int)))).1) = (0) then ((-1 : Int), x) else (if ((F_m_in (x) (c0) ((0 : Int)) (((x).1 0) - ((1 : Int)))).1) = (0) then ((-1 : Int), x) else ((F_m_next (x) (g) (c0)).1, x)))) = F_m_leads (x) (g) (c0) := rfl
    refine lv_aload_n hx hb dX12_leads_0 rfl (lv_at hl 0 rfl) ?_
    have hFc : ∀ q, va_A (mW h ad cI cJ cZ (x)) H.size q → A q := fun q hq => Or.elim hq (fun ⟨k, e, hk⟩ => hD.2 k (q, e) hk) (fun hk => hA q (Nat.le_trans hS.1 hk))
    refine va_calli (va_runV (As := []) (rest := []) ⟨hx, hb, hml, hown, hts⟩ (c_m_isMachine l dC dI h ad cI cJ cZ H.size (x)  sn ic) (cwV 0 hts gX12_leads_X12_isMachine rfl rfl rfl (by decide +kernel) ⟨Nat.le_of_ble_eq_true rfl, Nat.le_of_ble_eq_true rfl⟩) ⟨fun a U g mk q => by obtain ⟨q0, q1, qP, qK, qD⟩ := q; exact ⟨q0, q1, qP, va_K.moved (u := U) (U := U.calling g mk a) (Vm.Alike.refl U.vm) qK, qD⟩, va_recv hK hP (ci := 12) (q0 := 0) rfl rfl, fun U hU hW => ⟨rfl, by rw [hU], by rw [hU]; exact hP, va_K.moved hW.alike hK, hD.weaken (fun _ _ _ _ => trivial)⟩⟩ rfl rfl hl.1 rfl (lv_room (Nat.le_of_ble_eq_true rfl)) dX12_leads_1 ⟨Nat.le_of_ble_eq_true rfl, Nat.le_of_ble_eq_true rfl⟩) hS (fun q _ h => hFc q h) hFc (fun r9 u9 t H1 locs ht hvm hw hB hz1 hk1 hS => ?_)
    obtain ⟨hP1, hK1, hD1⟩ := hB
    rw [ht] at hP1
    obtain ⟨hw1, hw2⟩ := hw
    rw [hw2] at hP1 hD1
    rw [hw1]
    rw [F_m_isMachine_2] at hP1 hD1
    have hD2 := hD1.weaken (B := A) (fun _ q _ h => hFc q.1 h)
    have hP := hP1
    have hD := hD2
    generalize H1 = H at hP hS ⊢
    refine wi_if_ne (tgt := 10) hx hb (F_R01 (F_m_isMachine_01 x)) dX12_leads_4 (by decide) (fun c_4 => ?_) (fun c_4 => ?_)
    · skip
      rw [if_neg c_4] at hres
      obtain ⟨n0, n1⟩ := nn c_4
      refine lv_iload_n hx hb dX12_leads_10 rfl (lv_at hl 1 rfl) ?_
      refine wi_i2l hx hb rg dX12_leads_11 ?_
      refine lv_lconst (v := iL 0) hx hb dX12_leads_12 (by decide) ?_
      refine lv_aload_n hx hb dX12_leads_13 rfl (lv_at hl 0 rfl) ?_
      refine va_get (D := (dC, dI)) (ci := 12) (v := .int (iI ((x).1 24))) (C := RX12) (T := TX12) (N := 34) hx hb hts hin hown hK hP 0 rfl rfl 24 (by decide) (hts (.fieldLink RX12 164 "LikeWordsModel" "states" "I") (by decide +kernel)) (fun _ h9 => h9) rfl dX12_leads_14 ?_
      refine lv_iconst (v := iI (1 : Int)) hx hb dX12_leads_17 (by decide) ?_
      refine wi_isub hx hb dX12_leads_18 ?_
      refine wi_i2l hx hb (by unfold iR; omega) dX12_leads_19 ?_
      have hFc : ∀ q, va_A (mW h ad cI cJ cZ (x)) H.size q → A q := fun q hq => Or.elim hq (fun ⟨k, e, hk⟩ => hD.2 k (q, e) hk) (fun hk => hA q (Nat.le_trans hS.1 hk))
      refine va_calli (va_runS (As := [.long (iL (g)), .long (iL ((0 : Int))), .long (iL (((x).1 24) - ((1 : Int))))]) (rest := []) ⟨hx, hb, hml, hown, hts⟩ (c_m_in l dC dI h ad cI cJ cZ H.size (x) (g) ((0 : Int)) (((x).1 24) - ((1 : Int))) (iR_L rg) ⟨by decide, by decide⟩ (by unfold iRL; omega)) (va_cwS 3 hts gX12_leads_X12_in rfl rfl rfl (by decide +kernel) ⟨Nat.le_of_ble_eq_true rfl, Nat.le_of_ble_eq_true rfl⟩) ⟨fun a U g mk q => by obtain ⟨q0, q1, qP, qK, qD⟩ := q; exact ⟨q0, q1, qP, va_K.moved (u := U) (U := U.calling g mk a) (Vm.Alike.refl U.vm) qK, qD⟩, fun U hU hW => ⟨rfl, by rw [hU], by rw [hU]; exact hP, va_K.moved hW.alike hK, hD.weaken (fun _ _ _ _ => trivial)⟩⟩ rfl rfl hl.1 rfl (lv_room (Nat.le_of_ble_eq_true rfl)) dX12_leads_20 ⟨Nat.le_of_ble_eq_true rfl, Nat.le_of_ble_eq_true rfl⟩) hS (fun q _ h => hFc q h) hFc (fun r9 u9 t H1 locs ht hvm hw hB hz1 hk1 hS => ?_)
      obtain ⟨hP1, hK1, hD1⟩ := hB
      rw [ht] at hP1
      obtain ⟨hw1, hw2⟩ := hw
      rw [hw2] at hP1 hD1
      rw [hw1]
      rw [F_m_in_2] at hP1 hD1
      have hD2 := hD1.weaken (B := A) (fun _ q _ h => hFc q.1 h)
      have hP := hP1
      have hD := hD2
      generalize H1 = H at hP hS ⊢
      refine wi_if_eq (tgt := 51) hx hb (by rw [F_m_in_1]; exact F_R01 (F_in_01 _ _ _)) dX12_leads_23 (by decide) (fun c_23 => ?_) (fun c_23 => ?_)
      · skip
        rw [if_pos c_23] at hres
        refine lv_iconst (v := iI (-1 : Int)) hx hb dX12_leads_51 (by decide) ?_
        exact W.iret (v := iI ((-1 : Int))) hx hb hr (fun t ht hW => ⟨⟨iI ((-1 : Int)), x, rfl, ⟨(by have h9 := congrArg (fun z : Int × MS => iI z.1) hres; exact h9), (by have h9 := congrArg (fun z : Int × MS => z.2) hres; exact h9)⟩, by rw [ht]; exact hP, va_K.moved hW.alike hK, hD⟩, hS.F ht⟩) hS.2.2 dX12_leads_52
      · skip
        rw [if_neg c_23] at hres
        rw [F_m_in_1] at c_23
        obtain ⟨g0, g1⟩ := F_in_1 c_23
        refine lv_iload_n hx hb dX12_leads_26 rfl (lv_at hl 2 rfl) ?_
        refine wi_i2l hx hb rc dX12_leads_27 ?_
        refine lv_lconst (v := iL 0) hx hb dX12_leads_28 (by decide) ?_
        refine lv_aload_n hx hb dX12_leads_29 rfl (lv_at hl 0 rfl) ?_
        refine va_get (D := (dC, dI)) (ci := 12) (v := .int (iI ((x).1 0))) (C := RX12) (T := TX12) (N := 34) hx hb hts hin hown hK hP 0 rfl rfl 0 (by decide) (hts (.fieldLink RX12 7 "LikeWordsModel" "letters" "I") (by decide +kernel)) (fun _ h9 => h9) rfl dX12_leads_30 ?_
        refine lv_iconst (v := iI (1 : Int)) hx hb dX12_leads_33 (by decide) ?_
        refine wi_isub hx hb dX12_leads_34 ?_
        refine wi_i2l hx hb (by unfold iR; omega) dX12_leads_35 ?_
        have hFc : ∀ q, va_A (mW h ad cI cJ cZ (x)) H.size q → A q := fun q hq => Or.elim hq (fun ⟨k, e, hk⟩ => hD.2 k (q, e) hk) (fun hk => hA q (Nat.le_trans hS.1 hk))
        refine va_calli (va_runS (As := [.long (iL (c0)), .long (iL ((0 : Int))), .long (iL (((x).1 0) - ((1 : Int))))]) (rest := []) ⟨hx, hb, hml, hown, hts⟩ (c_m_in l dC dI h ad cI cJ cZ H.size (x) (c0) ((0 : Int)) (((x).1 0) - ((1 : Int))) (iR_L rc) ⟨by decide, by decide⟩ (by unfold iRL; omega)) (va_cwS 3 hts gX12_leads_X12_in rfl rfl rfl (by decide +kernel) ⟨Nat.le_of_ble_eq_true rfl, Nat.le_of_ble_eq_true rfl⟩) ⟨fun a U g mk q => by obtain ⟨q0, q1, qP, qK, qD⟩ := q; exact ⟨q0, q1, qP, va_K.moved (u := U) (U := U.calling g mk a) (Vm.Alike.refl U.vm) qK, qD⟩, fun U hU hW => ⟨rfl, by rw [hU], by rw [hU]; exact hP, va_K.moved hW.alike hK, hD.weaken (fun _ _ _ _ => trivial)⟩⟩ rfl rfl hl.1 rfl (lv_room (Nat.le_of_ble_eq_true rfl)) dX12_leads_36 ⟨Nat.le_of_ble_eq_true rfl, Nat.le_of_ble_eq_true rfl⟩) hS (fun q _ h => hFc q h) hFc (fun r9 u9 t H1 locs ht hvm hw hB hz1 hk1 hS => ?_)
        obtain ⟨hP1, hK1, hD1⟩ := hB
        rw [ht] at hP1
        obtain ⟨hw1, hw2⟩ := hw
        rw [hw2] at hP1 hD1
        rw [hw1]
        rw [F_m_in_2] at hP1 hD1
        have hD2 := hD1.weaken (B := A) (fun _ q _ h => hFc q.1 h)
        have hP := hP1
        have hD := hD2
        generalize H1 = H at hP hS ⊢
        refine wi_if_eq (tgt := 51) hx hb (by rw [F_m_in_1]; exact F_R01 (F_in_01 _ _ _)) dX12_leads_39 (by decide) (fun c_39 => ?_) (fun c_39 => ?_)
        · skip
          rw [if_pos c_39] at hres
          refine lv_iconst (v := iI (-1 : Int)) hx hb dX12_leads_51 (by decide) ?_
          exact W.iret (v := iI ((-1 : Int))) hx hb hr (fun t ht hW => ⟨⟨iI ((-1 : Int)), x, rfl, ⟨(by have h9 := congrArg (fun z : Int × MS => iI z.1) hres; exact h9), (by have h9 := congrArg (fun z : Int × MS => z.2) hres; exact h9)⟩, by rw [ht]; exact hP, va_K.moved hW.alike hK, hD⟩, hS.F ht⟩) hS.2.2 dX12_leads_52
        · skip
          rw [if_neg c_39] at hres
          rw [F_m_in_1] at c_39
          obtain ⟨c1, c2⟩ := F_in_1 c_39
          obtain ⟨d0, d1, e0, e1, e2⟩ := hn c_4 (by omega) (by omega) (by omega) (by omega)
          refine lv_aload_n hx hb dX12_leads_42 rfl (lv_at hl 0 rfl) ?_
          refine lv_iload_n hx hb dX12_leads_43 rfl (lv_at hl 1 rfl) ?_
          refine lv_iload_n hx hb dX12_leads_44 rfl (lv_at hl 2 rfl) ?_
          have hFc : ∀ q, va_A (mW h ad cI cJ cZ (x)) H.size q → A q := fun q hq => Or.elim hq (fun ⟨k, e, hk⟩ => hD.2 k (q, e) hk) (fun hk => hA q (Nat.le_trans hS.1 hk))
          refine va_calli (va_runV (As := [.int (iI (g)), .int (iI (c0))]) (rest := []) ⟨hx, hb, hml, hown, hts⟩ (c_m_next l dC dI h ad cI cJ cZ H.size (x) (g) (c0) (by omega) (by omega) (by omega) (by omega) d0 d1 e0 e1 e2) (cwV 2 hts gX12_leads_X12_next rfl rfl rfl (by decide +kernel) ⟨Nat.le_of_ble_eq_true rfl, Nat.le_of_ble_eq_true rfl⟩) ⟨fun a U g mk q => by obtain ⟨q0, q1, qP, qK, qD⟩ := q; exact ⟨q0, q1, qP, va_K.moved (u := U) (U := U.calling g mk a) (Vm.Alike.refl U.vm) qK, qD⟩, va_recv hK hP (ci := 12) (q0 := 0) rfl rfl, fun U hU hW => ⟨rfl, by rw [hU], by rw [hU]; exact hP, va_K.moved hW.alike hK, hD.weaken (fun _ _ _ _ => trivial)⟩⟩ rfl rfl hl.1 rfl (lv_room (Nat.le_of_ble_eq_true rfl)) dX12_leads_45 ⟨Nat.le_of_ble_eq_true rfl, Nat.le_of_ble_eq_true rfl⟩) hS (fun q _ h => hFc q h) hFc (fun r9 u9 t H1 locs ht hvm hw hB hz1 hk1 hS => ?_)
          obtain ⟨hP1, hK1, hD1⟩ := hB
          rw [ht] at hP1
          obtain ⟨hw1, hw2⟩ := hw
          rw [hw2] at hP1 hD1
          rw [hw1]
          rw [F_m_next_2] at hP1 hD1
          have hD2 := hD1.weaken (B := A) (fun _ q _ h => hFc q.1 h)
          have hP := hP1
          have hD := hD2
          generalize H1 = H at hP hS ⊢
          refine lv_goto (tgt := 52) hx hb dX12_leads_48 (by decide) ?_
          exact W.iret (v := iI ((F_m_next (x) (g) (c0)).1)) hx hb hr (fun t ht hW => ⟨⟨iI ((F_m_next (x) (g) (c0)).1), x, rfl, ⟨(by have h9 := congrArg (fun z : Int × MS => iI z.1) hres; exact h9), (by have h9 := congrArg (fun z : Int × MS => z.2) hres; exact h9)⟩, by rw [ht]; exact hP, va_K.moved hW.alike hK, hD⟩, hS.F ht⟩) hS.2.2 dX12_leads_52
    · skip
      rw [if_pos c_4] at hres
      refine lv_bipush (v := iI (-3 : Int)) hx hb dX12_leads_7 (by decide) ?_
      exact W.iret (v := iI ((-3 : Int))) hx hb hr (fun t ht hW => ⟨⟨iI ((-3 : Int)), x, rfl, ⟨(by have h9 := congrArg (fun z : Int × MS => iI z.1) hres; exact h9), (by have h9 := congrArg (fun z : Int × MS => z.2) hres; exact h9)⟩, by rw [ht]; exact hP, va_K.moved hW.alike hK, hD⟩, hS.F ht⟩) hS.2.2 dX12_leads_9
  exact key _ _ hP hS
set_option maxHeartbeats 4000000 in
set_option maxRecDepth 100000 in
/-- size -/
theorem d_m_size (l : Launch) (dC : Nat → ClassId) (dI : Nat → Nat → Nat) (h : Nat) (ad : Nat → Nat) (cI cJ cZ : ClassId) (sz : Nat) (x : MS)  (sn : iR (x.1 6)) (ic : x.1 27 = 0 ∨ x.1 27 = 1) (au : ¬ (F_m_isMachine x).1 = 0 → auOK x) (h29 : ∀ j : Nat, j < 850 → x.2 29 j = 0 ∨ x.2 29 j = 1) (h30 : ∀ j : Nat, j < 850 → x.2 30 j = 0 ∨ x.2 30 j = 1) : Met l yX12_size wsX12_size ({ frames := 2, cells := 0, slots := 0, locals := 48 }) (mPc dC dI h ad cI cJ cZ sz x [.ref h]) (va_Ql (fun (r : Int64) (u : MS) => r = iL (F_m_size (x)).1 ∧ u = (F_m_size (x)).2) (mAt dC dI h ad cI cJ cZ (va_A (mW h ad cI cJ cZ (x)) sz)) (va_A (mW h ad cI cJ cZ (x)) sz)) 0 0 (va_A (mW h ad cI cJ cZ (x)) sz) := by
  refine Met.ofW (cc := cX12_size) (maxL := 5) (ret := (some .long)) (by decide) rfl ?_
  intro p e s m args below meth c s₁ B hml hv
  obtain ⟨rfl, hsz, hP, hK, hD0⟩ := hv
  have hx := B.exec
  have hb := B.bytes
  have hr := B.returns
  have hts := atoms_spec (ws := wsX12_size) B.pre
  have hown : s.vm.findClass RX12 = some m.cls := findClass_of_methodNamed B.named
  have hlocks := B.notSynchronized
  have hin : ∀ w ∈ u_ws RX12 TX12 34, w ∈ wsX12_size := by decide +kernel
  subst hsz
  have hD := hD0.self (sz := s.heap.size)
  generalize hAe : va_A (mW h ad cI cJ cZ (x)) s.heap.size = A at hD ⊢
  have hA : ∀ q : Nat, s.heap.size ≤ q → A q := fun q h => by rw [← hAe]; exact Or.inr h
  have hS : va_S A s.heap s.heap [] := va_S.rf
  have hl := lv_entry ([.ref h]) (n := 5) (Nat.le_of_ble_eq_true rfl)
  rw [lg_entry_eq]
  generalize (lg_sl ([.ref h]) ++ List.replicate (5 - (lg_sl ([.ref h])).length) Slot.unset).toArray = ls at hl ⊢
  have hl : lv_has ls 5 [(0, .ref (h))] := hl
  have L : ∀ n : Nat, (∀ (y : MS) (g : Int) (q : Int) (k : Int), (-9 ≤ g) → (g ≤ 30) → (0 ≤ k) → (k ≤ 31) → (31 - k < n) → F_m_size_s n 0 y g q k = F_m_size (x) → ∀ (H : Heap) (locs : List Loc) (ls : Array Slot), va_P (dC, dI) vwCl (mW h ad cI cJ cZ (y)) H → va_D A (mW h ad cI cJ cZ (y)) → va_S A s.heap H locs → lv_has ls 5 [(0, .ref (h)), (1, .int (iI (g))), (2, .long (iL (q))), (4, .int (iI (k)))] → W p l e (headSpec wsX12_size ({ frames := 2, cells := 0, slots := 0, locals := 48 })).room s m ([.ref h] : List Value).toArray below meth c H locs 0 0 (MQ below (va_Ql (fun (r : Int64) (u : MS) => r = iL (F_m_size (x)).1 ∧ u = (F_m_size (x)).2) (mAt dC dI h ad cI cJ cZ A) A) ([.ref h] : List Value).toArray s 0 0 A) (F0 m 49 ls [])) := by
    intro n
    induction n with
    | zero =>
      skip
      · intro y g q k g0 g1 k0 k1 fu hres
        exact absurd fu (by omega)
    | succ n ih =>
      skip
      · intro y g q k g0 g1 k0 k1 fu hres H locs ls hP hD hS hl
        rw [F_m_size_e0] at hres
        refine lv_iload hx hb dX12_size_49 (lv_at hl 3 rfl) ?_
        refine lv_iload_n hx hb dX12_size_51 rfl (lv_at hl 1 rfl) ?_
        refine wi_icmp_gt (tgt := 71) hx hb (by first | assumption | (unfold iR; omega) | exact F_R01 (by assumption)) (by first | assumption | (unfold iR; omega) | exact F_R01 (by assumption)) dX12_size_52 (by decide) (fun c_52 => ?_) (fun c_52 => ?_)
        · skip
          rw [if_pos c_52] at hres
          refine lv_lload_n hx hb dX12_size_71 rfl (lv_at hl 2 rfl) ?_
          exact W.lret (v := iL (q)) hx hb hr (fun t ht hW => ⟨⟨iL (q), y, rfl, ⟨(by have h9 := congrArg (fun z : Int × MS => iL z.1) hres; exact h9), (by have h9 := congrArg (fun z : Int × MS => z.2) hres; exact h9)⟩, by rw [ht]; exact hP, va_K.moved hW.alike hK, hD⟩, hS.F ht⟩) hS.2.2 dX12_size_72
        · skip
          rw [if_neg c_52] at hres
          refine lv_lload_n hx hb dX12_size_55 rfl (lv_at hl 2 rfl) ?_
          refine lv_aload_n hx hb dX12_size_56 rfl (lv_at hl 0 rfl) ?_
          refine va_get (D := (dC, dI)) (ci := 12) (v := .ref (ad 28)) (C := RX12) (T := TX12) (N := 34) hx hb hts hin hown hK hP 0 rfl rfl 28 (by decide) (hts (.fieldLink RX12 74 "LikeWordsModel" "way" "[J") (by decide +kernel)) (fun _ h9 => h9) rfl dX12_size_57 ?_
          refine lv_iload hx hb dX12_size_60 (lv_at hl 3 rfl) ?_
          refine wi_lald (f := (y).2 28) hx hb hK hP 20 1 rfl rfl (i := k) (by omega) (by omega) (by decide) dX12_size_62 ?_
          refine wi_ladd hx hb dX12_size_63 ?_
          refine lv_lstore_n (lv' := [(2, .long (iL ((q) + (((y).2 28) (k).toNat)))), (0, .ref (h)), (1, .int (iI (g))), (4, .int (iI (k)))]) hx hb dX12_size_64 rfl hl (by decide) rfl (fun ls hl => ?_)
          refine lv_iinc (v := iI ((k) + (1 : Int))) (lv' := [(4, .int (iI ((k) + (1 : Int)))), (2, .long (iL ((q) + (((y).2 28) (k).toNat)))), (0, .ref (h)), (1, .int (iI (g)))]) hx hb dX12_size_65 hl (k := 3) rfl (iI_add _ _) (by decide) rfl (fun ls hl => ?_)
          refine lv_goto (tgt := 49) hx hb dX12_size_68 (by decide) ?_
          exact ih (y) (g) ((q) + (((y).2 28) (k).toNat)) ((k) + (1 : Int)) (by omega) (by omega) (by omega) (by omega) (by omega) hres _ _ ls hP hD hS (lv_sub hl [2, 3, 1, 0] rfl)
  have key : ∀ (H : Heap) (locs : List Loc), va_P (dC, dI) vwCl (mW h ad cI cJ cZ (x)) H → va_S A s.heap H locs → W p l e (headSpec wsX12_size ({ frames := 2, cells := 0, slots := 0, locals := 48 })).room s m ([.ref h] : List Value).toArray below meth c H locs 0 0 (MQ below (va_Ql (fun (r : Int64) (u : MS) => r = iL (F_m_size (x)).1 ∧ u = (F_m_size (x)).2) (mAt dC dI h ad cI cJ cZ A) A) ([.ref h] : List Value).toArray s 0 0 A) (F0 m 0 ls []) := by
    intro H locs hP hS
    have hres : (if ((F_m_isMachine (x)).1) = (0) then ((-3 : Int), x) else (if ((F_m_longest (x)).1) = ((-9 : Int)) then (if ((F_m_longest (x)).1) = ((-9 : Int)) then ((-9 : Int), (F_m_longest (x)).2) else ((-4 : Int), (F_m_longest (x)).2)) else (if ((F_m_longest (x)).1) ≤ ((30 : Int)) then F_m_size_s 100 0 ((F_m_longest (x)).2) ((F_m_longest (x)).1) ((0 : Int)) ((0 : Int)) else (if ((F_m_longest (x)).1) = ((-9 : Int)) then ((-9 : Int), (F_m_longest (x)).2) else ((-4 : Int), (F_m_longest (x)).2))))) = F_m_size (x) := rfl
    refine lv_aload_n hx hb dX12_size_0 rfl (lv_at hl 0 rfl) ?_
    have hFc : ∀ q, va_A (mW h ad cI cJ cZ (x)) H.size q → A q := fun q hq => Or.elim hq (fun ⟨k, e, hk⟩ => hD.2 k (q, e) hk) (fun hk => hA q (Nat.le_trans hS.1 hk))
    refine va_calli (va_runV (As := []) (rest := []) ⟨hx, hb, hml, hown, hts⟩ (c_m_isMachine l dC dI h ad cI cJ cZ H.size (x)  sn ic) (cwV 0 hts gX12_size_X12_isMachine rfl rfl rfl (by decide +kernel) ⟨Nat.le_of_ble_eq_true rfl, Nat.le_of_ble_eq_true rfl⟩) ⟨fun a U g mk q => by obtain ⟨q0, q1, qP, qK, qD⟩ := q; exact ⟨q0, q1, qP, va_K.moved (u := U) (U := U.calling g mk a) (Vm.Alike.refl U.vm) qK, qD⟩, va_recv hK hP (ci := 12) (q0 := 0) rfl rfl, fun U hU hW => ⟨rfl, by rw [hU], by rw [hU]; exact hP, va_K.moved hW.alike hK, hD.weaken (fun _ _ _ _ => trivial)⟩⟩ rfl rfl hl.1 rfl (lv_room (Nat.le_of_ble_eq_true rfl)) dX12_size_1 ⟨Nat.le_of_ble_eq_true rfl, Nat.le_of_ble_eq_true rfl⟩) hS (fun q _ h => hFc q h) hFc (fun r9 u9 t H1 locs ht hvm hw hB hz1 hk1 hS => ?_)
    obtain ⟨hP1, hK1, hD1⟩ := hB
    rw [ht] at hP1
    obtain ⟨hw1, hw2⟩ := hw
    rw [hw2] at hP1 hD1
    rw [hw1]
    rw [F_m_isMachine_2] at hP1 hD1
    have hD2 := hD1.weaken (B := A) (fun _ q _ h => hFc q.1 h)
    have hP := hP1
    have hD := hD2
    generalize H1 = H at hP hS ⊢
    refine wi_if_ne (tgt := 11) hx hb (F_R01 (F_m_isMachine_01 x)) dX12_size_4 (by decide) (fun c_4 => ?_) (fun c_4 => ?_)
    · skip
      rw [if_neg c_4] at hres
      refine lv_aload_n hx hb dX12_size_11 rfl (lv_at hl 0 rfl) ?_
      have hFc : ∀ q, va_A (mW h ad cI cJ cZ (x)) H.size q → A q := fun q hq => Or.elim hq (fun ⟨k, e, hk⟩ => hD.2 k (q, e) hk) (fun hk => hA q (Nat.le_trans hS.1 hk))
      refine va_calli (va_runV (As := []) (rest := []) ⟨hx, hb, hml, hown, hts⟩ (c_m_longest l dC dI h ad cI cJ cZ H.size (x)  (au c_4) h29 h30) (cwV 0 hts gX12_size_X12_longest rfl rfl rfl (by decide +kernel) ⟨Nat.le_of_ble_eq_true rfl, Nat.le_of_ble_eq_true rfl⟩) ⟨fun a U g mk q => by obtain ⟨q0, q1, qP, qK, qD⟩ := q; exact ⟨q0, q1, qP, va_K.moved (u := U) (U := U.calling g mk a) (Vm.Alike.refl U.vm) qK, qD⟩, va_recv hK hP (ci := 12) (q0 := 0) rfl rfl, fun U hU hW => ⟨rfl, by rw [hU], by rw [hU]; exact hP, va_K.moved hW.alike hK, hD.weaken (fun _ _ _ _ => trivial)⟩⟩ rfl rfl hl.1 rfl (lv_room (Nat.le_of_ble_eq_true rfl)) dX12_size_12 ⟨Nat.le_of_ble_eq_true rfl, Nat.le_of_ble_eq_true rfl⟩) hS (fun q _ h => hFc q h) hFc (fun r9 u9 t H1 locs ht hvm hw hB hz1 hk1 hS => ?_)
      obtain ⟨hP1, hK1, hD1⟩ := hB
      rw [ht] at hP1
      obtain ⟨hw1, hw2⟩ := hw
      rw [hw2] at hP1 hD1
      rw [hw1]
      have hD2 := hD1.weaken (B := A) (fun _ q _ h => hFc q.1 h)
      have hP := hP1
      have hD := hD2
      generalize H1 = H at hP hS ⊢
      have lb := F_m_longest_b x (au c_4).1.2.1
      refine lv_istore_n (lv' := [(1, .int (iI ((F_m_longest (x)).1))), (0, .ref (h))]) hx hb dX12_size_15 rfl hl (by decide) rfl (fun ls hl => ?_)
      refine lv_iload_n hx hb dX12_size_16 rfl (lv_at hl 0 rfl) ?_
      refine lv_bipush (v := iI (-9 : Int)) hx hb dX12_size_17 (by decide) ?_
      refine wi_icmp_eq (tgt := 28) hx hb (by first | assumption | (unfold iR; omega) | exact F_R01 (by assumption)) ⟨by decide, by decide⟩ dX12_size_19 (by decide) (fun c_19 => ?_) (fun c_19 => ?_)
      · skip
        rw [if_pos c_19] at hres
        refine lv_iload_n hx hb dX12_size_28 rfl (lv_at hl 0 rfl) ?_
        refine lv_bipush (v := iI (-9 : Int)) hx hb dX12_size_29 (by decide) ?_
        refine wi_icmp_ne (tgt := 40) hx hb (by first | assumption | (unfold iR; omega) | exact F_R01 (by assumption)) ⟨by decide, by decide⟩ dX12_size_31 (by decide) (fun c_31 => ?_) (fun c_31 => ?_)
        · skip
          rw [if_neg c_31] at hres
          refine lv_ldc2 (v := iL (-4 : Int)) hx hb hown (hts (.constantLong RX12 243 (-4)) (by decide +kernel)) dX12_size_40 ?_
          exact W.lret (v := iL ((-4 : Int))) hx hb hr (fun t ht hW => ⟨⟨iL ((-4 : Int)), (F_m_longest (x)).2, rfl, ⟨(by have h9 := congrArg (fun z : Int × MS => iL z.1) hres; exact h9), (by have h9 := congrArg (fun z : Int × MS => z.2) hres; exact h9)⟩, by rw [ht]; exact hP, va_K.moved hW.alike hK, hD⟩, hS.F ht⟩) hS.2.2 dX12_size_43
        · skip
          rw [if_pos c_31] at hres
          refine lv_ldc2 (v := iL (-9 : Int)) hx hb hown (hts (.constantLong RX12 241 (-9)) (by decide +kernel)) dX12_size_34 ?_
          refine lv_goto (tgt := 43) hx hb dX12_size_37 (by decide) ?_
          exact W.lret (v := iL ((-9 : Int))) hx hb hr (fun t ht hW => ⟨⟨iL ((-9 : Int)), (F_m_longest (x)).2, rfl, ⟨(by have h9 := congrArg (fun z : Int × MS => iL z.1) hres; exact h9), (by have h9 := congrArg (fun z : Int × MS => z.2) hres; exact h9)⟩, by rw [ht]; exact hP, va_K.moved hW.alike hK, hD⟩, hS.F ht⟩) hS.2.2 dX12_size_43
      · skip
        rw [if_neg c_19] at hres
        refine lv_iload_n hx hb dX12_size_22 rfl (lv_at hl 0 rfl) ?_
        refine lv_bipush (v := iI (30 : Int)) hx hb dX12_size_23 (by decide) ?_
        refine wi_icmp_le (tgt := 44) hx hb (by first | assumption | (unfold iR; omega) | exact F_R01 (by assumption)) ⟨by decide, by decide⟩ dX12_size_25 (by decide) (fun c_25 => ?_) (fun c_25 => ?_)
        · skip
          rw [if_pos c_25] at hres
          refine lv_lconst (v := iL 0) hx hb dX12_size_44 (by decide) ?_
          refine lv_lstore_n (lv' := [(2, .long (iL ((0 : Int)))), (1, .int (iI ((F_m_longest (x)).1))), (0, .ref (h))]) hx hb dX12_size_45 rfl hl (by decide) rfl (fun ls hl => ?_)
          refine lv_iconst (v := iI (0 : Int)) hx hb dX12_size_46 (by decide) ?_
          refine lv_istore (lv' := [(4, .int (iI ((0 : Int)))), (2, .long (iL ((0 : Int)))), (1, .int (iI ((F_m_longest (x)).1))), (0, .ref (h))]) hx hb dX12_size_47 hl (by decide) rfl (fun ls hl => ?_)
          exact (L (100)) ((F_m_longest (x)).2) ((F_m_longest (x)).1) ((0 : Int)) ((0 : Int)) (by omega) (by omega) (by omega) (by omega) (by omega) hres _ _ ls hP hD hS (lv_sub hl [3, 2, 1, 0] rfl)
        · skip
          rw [if_neg c_25] at hres
          refine lv_iload_n hx hb dX12_size_28 rfl (lv_at hl 0 rfl) ?_
          refine lv_bipush (v := iI (-9 : Int)) hx hb dX12_size_29 (by decide) ?_
          refine wi_icmp_ne (tgt := 40) hx hb (by first | assumption | (unfold iR; omega) | exact F_R01 (by assumption)) ⟨by decide, by decide⟩ dX12_size_31 (by decide) (fun c_31 => ?_) (fun c_31 => ?_)
          · skip
            rw [if_neg c_31] at hres
            refine lv_ldc2 (v := iL (-4 : Int)) hx hb hown (hts (.constantLong RX12 243 (-4)) (by decide +kernel)) dX12_size_40 ?_
            exact W.lret (v := iL ((-4 : Int))) hx hb hr (fun t ht hW => ⟨⟨iL ((-4 : Int)), (F_m_longest (x)).2, rfl, ⟨(by have h9 := congrArg (fun z : Int × MS => iL z.1) hres; exact h9), (by have h9 := congrArg (fun z : Int × MS => z.2) hres; exact h9)⟩, by rw [ht]; exact hP, va_K.moved hW.alike hK, hD⟩, hS.F ht⟩) hS.2.2 dX12_size_43
          · skip
            rw [if_pos c_31] at hres
            refine lv_ldc2 (v := iL (-9 : Int)) hx hb hown (hts (.constantLong RX12 241 (-9)) (by decide +kernel)) dX12_size_34 ?_
            refine lv_goto (tgt := 43) hx hb dX12_size_37 (by decide) ?_
            exact W.lret (v := iL ((-9 : Int))) hx hb hr (fun t ht hW => ⟨⟨iL ((-9 : Int)), (F_m_longest (x)).2, rfl, ⟨(by have h9 := congrArg (fun z : Int × MS => iL z.1) hres; exact h9), (by have h9 := congrArg (fun z : Int × MS => z.2) hres; exact h9)⟩, by rw [ht]; exact hP, va_K.moved hW.alike hK, hD⟩, hS.F ht⟩) hS.2.2 dX12_size_43
    · skip
      rw [if_pos c_4] at hres
      refine lv_ldc2 (v := iL (-3 : Int)) hx hb hown (hts (.constantLong RX12 236 (-3)) (by decide +kernel)) dX12_size_7 ?_
      exact W.lret (v := iL ((-3 : Int))) hx hb hr (fun t ht hW => ⟨⟨iL ((-3 : Int)), x, rfl, ⟨(by have h9 := congrArg (fun z : Int × MS => iL z.1) hres; exact h9), (by have h9 := congrArg (fun z : Int × MS => z.2) hres; exact h9)⟩, by rw [ht]; exact hP, va_K.moved hW.alike hK, hD⟩, hS.F ht⟩) hS.2.2 dX12_size_10
  exact key _ _ hP hS
set_option maxHeartbeats 4000000 in
set_option maxRecDepth 100000 in
/-- nth -/
theorem d_m_nth (l : Launch) (dC : Nat → ClassId) (dI : Nat → Nat → Nat) (h : Nat) (ad : Nat → Nat) (cI cJ cZ : ClassId) (sz : Nat) (x : MS) (i0 : Int) (k : Int) (sn : iR (x.1 6)) (ic : x.1 27 = 0 ∨ x.1 27 = 1) (ri : iRL i0) (rk : iR k) (au : ¬ (F_m_isMachine x).1 = 0 → (auOK x)) (st1 : ¬ (F_m_isMachine x).1 = 0 → (1 ≤ x.1 24)) (hwy : wyR x) (hok : ¬ (F_m_isMachine x).1 = 0 → (wyOK x)) : Met l yX12_nth wsX12_nth ({ frames := 3, cells := 0, slots := 0, locals := 78 }) (mPc dC dI h ad cI cJ cZ sz x [.ref h, .long (iL i0), .int (iI k)]) (va_Qi (fun (r : Int32) (u : MS) => r = iI (F_m_nth (x) (i0) (k)).1 ∧ u = (F_m_nth (x) (i0) (k)).2) (mAt dC dI h ad cI cJ cZ (va_A (mW h ad cI cJ cZ (x)) sz)) (va_A (mW h ad cI cJ cZ (x)) sz)) 0 0 (va_A (mW h ad cI cJ cZ (x)) sz) := by
  refine Met.ofW (cc := cX12_nth) (maxL := 4) (ret := (some .int)) (by decide) rfl ?_
  intro p e s m args below meth c s₁ B hml hv
  obtain ⟨rfl, hsz, hP, hK, hD0⟩ := hv
  have hx := B.exec
  have hb := B.bytes
  have hr := B.returns
  have hts := atoms_spec (ws := wsX12_nth) B.pre
  have hown : s.vm.findClass RX12 = some m.cls := findClass_of_methodNamed B.named
  have hlocks := B.notSynchronized
  have hin : ∀ w ∈ u_ws RX12 TX12 34, w ∈ wsX12_nth := by decide +kernel
  subst hsz
  have hD := hD0.self (sz := s.heap.size)
  generalize hAe : va_A (mW h ad cI cJ cZ (x)) s.heap.size = A at hD ⊢
  have hA : ∀ q : Nat, s.heap.size ≤ q → A q := fun q h => by rw [← hAe]; exact Or.inr h
  have hS : va_S A s.heap s.heap [] := va_S.rf
  have hl := lv_entry ([.ref h, .long (iL i0), .int (iI k)]) (n := 4) (Nat.le_of_ble_eq_true rfl)
  rw [lg_entry_eq]
  generalize (lg_sl ([.ref h, .long (iL i0), .int (iI k)]) ++ List.replicate (4 - (lg_sl ([.ref h, .long (iL i0), .int (iI k)])).length) Slot.unset).toArray = ls at hl ⊢
  have hl : lv_has ls 4 [(0, .ref (h)), (1, .long (iL (i0))), (3, .int (iI (k)))] := hl
  have key : ∀ (H : Heap) (locs : List Loc), va_P (dC, dI) vwCl (mW h ad cI cJ cZ (x)) H → va_S A s.heap H locs → W p l e (headSpec wsX12_nth ({ frames := 3, cells := 0, slots := 0, locals := 78 })).room s m ([.ref h, .long (iL i0), .int (iI k)] : List Value).toArray below meth c H locs 0 0 (MQ below (va_Qi (fun (r : Int32) (u : MS) => r = iI (F_m_nth (x) (i0) (k)).1 ∧ u = (F_m_nth (x) (i0) (k)).2) (mAt dC dI h ad cI cJ cZ A) A) ([.ref h, .long (iL i0), .int (iI k)] : List Value).toArray s 0 0 A) (F0 m 0 ls []) := by
    intro H locs hP hS
    have hres : (if ((F_m_isSlot (x) (k)).1) = (0) then ((-1 : Int), x) else (if (0) ≤ (iC (i0) ((0 : Int))) then (if ((F_m_isMachine (x)).1) = (0) then ((-3 : Int), x) else (if ((F_m_pick (x) (i0) ((9 : Int))).1) = (0) then ((-9 : Int), (F_m_pick (x) (i0) ((9 : Int))).2) else ((((F_m_copy ((F_m_pick (x) (i0) ((9 : Int))).2) ((9 : Int)) (k)).2).2 1) (k).toNat, (F_m_copy ((F_m_pick (x) (i0) ((9 : Int))).2) ((9 : Int)) (k)).2))) else ((-2 : Int), x))) = F_m_nth (x) (i0) (k) := rfl
    refine lv_iload_n hx hb dX12_nth_0 rfl (lv_at hl 2 rfl) ?_
    have hFc : ∀ q, va_A (mW h ad cI cJ cZ (x)) H.size q → A q := fun q hq => Or.elim hq (fun ⟨k, e, hk⟩ => hD.2 k (q, e) hk) (fun hk => hA q (Nat.le_trans hS.1 hk))
    refine va_calli (va_runS (As := [.int (iI (k))]) (rest := []) ⟨hx, hb, hml, hown, hts⟩ (c_m_isSlot l dC dI h ad cI cJ cZ H.size (x) (k) (by first | assumption | exact iR_L (by assumption) | exact ⟨by decide, by decide⟩ | omega | (unfold iR; omega) | (unfold iRL; omega))) (va_cwS 1 hts gX12_nth_X12_isSlot rfl rfl rfl (by decide +kernel) ⟨Nat.le_of_ble_eq_true rfl, Nat.le_of_ble_eq_true rfl⟩) ⟨fun a U g mk q => by obtain ⟨q0, q1, qP, qK, qD⟩ := q; exact ⟨q0, q1, qP, va_K.moved (u := U) (U := U.calling g mk a) (Vm.Alike.refl U.vm) qK, qD⟩, fun U hU hW => ⟨rfl, by rw [hU], by rw [hU]; exact hP, va_K.moved hW.alike hK, hD.weaken (fun _ _ _ _ => trivial)⟩⟩ rfl rfl hl.1 rfl (lv_room (Nat.le_of_ble_eq_true rfl)) dX12_nth_1 ⟨Nat.le_of_ble_eq_true rfl, Nat.le_of_ble_eq_true rfl⟩) hS (fun q _ h => hFc q h) hFc (fun r9 u9 t H1 locs ht hvm hw hB hz1 hk1 hS => ?_)
    obtain ⟨hP1, hK1, hD1⟩ := hB
    rw [ht] at hP1
    obtain ⟨hw1, hw2⟩ := hw
    rw [hw2] at hP1 hD1
    rw [hw1]
    rw [F_m_isSlot_2] at hP1 hD1
    have hD2 := hD1.weaken (B := A) (fun _ q _ h => hFc q.1 h)
    have hP := hP1
    have hD := hD2
    generalize H1 = H at hP hS ⊢
    refine wi_if_ne (tgt := 9) hx hb (by rw [F_m_isSlot_1]; exact F_R01 (F_in_01 _ _ _)) dX12_nth_4 (by decide) (fun c_4 => ?_) (fun c_4 => ?_)
    · skip
      rw [if_neg c_4] at hres
      obtain ⟨k0, k1⟩ := F_in_1 (by rw [← F_m_isSlot_1 x k]; exact c_4)
      refine lv_lload_n hx hb dX12_nth_9 rfl (lv_at hl 1 rfl) ?_
      refine lv_lconst (v := iL 0) hx hb dX12_nth_10 (by decide) ?_
      refine wi_lcmp hx hb (by first | assumption | exact iR_L (by assumption) | (unfold iRL; omega)) ⟨by decide, by decide⟩ dX12_nth_11 ?_
      refine wi_if_ge (tgt := 18) hx hb iC_R dX12_nth_12 (by decide) (fun c_12 => ?_) (fun c_12 => ?_)
      · skip
        rw [if_pos c_12] at hres
        have ii0 : 0 ≤ i0 := by rcases Int.lt_trichotomy i0 0 with q9 | q9 | q9 <;> first | omega | (exfalso; have := (iC_lt (a := i0) (b := 0)).mpr q9; omega)
        refine lv_aload_n hx hb dX12_nth_18 rfl (lv_at hl 0 rfl) ?_
        have hFc : ∀ q, va_A (mW h ad cI cJ cZ (x)) H.size q → A q := fun q hq => Or.elim hq (fun ⟨k, e, hk⟩ => hD.2 k (q, e) hk) (fun hk => hA q (Nat.le_trans hS.1 hk))
        refine va_calli (va_runV (As := []) (rest := []) ⟨hx, hb, hml, hown, hts⟩ (c_m_isMachine l dC dI h ad cI cJ cZ H.size (x)  sn ic) (cwV 0 hts gX12_nth_X12_isMachine rfl rfl rfl (by decide +kernel) ⟨Nat.le_of_ble_eq_true rfl, Nat.le_of_ble_eq_true rfl⟩) ⟨fun a U g mk q => by obtain ⟨q0, q1, qP, qK, qD⟩ := q; exact ⟨q0, q1, qP, va_K.moved (u := U) (U := U.calling g mk a) (Vm.Alike.refl U.vm) qK, qD⟩, va_recv hK hP (ci := 12) (q0 := 0) rfl rfl, fun U hU hW => ⟨rfl, by rw [hU], by rw [hU]; exact hP, va_K.moved hW.alike hK, hD.weaken (fun _ _ _ _ => trivial)⟩⟩ rfl rfl hl.1 rfl (lv_room (Nat.le_of_ble_eq_true rfl)) dX12_nth_19 ⟨Nat.le_of_ble_eq_true rfl, Nat.le_of_ble_eq_true rfl⟩) hS (fun q _ h => hFc q h) hFc (fun r9 u9 t H1 locs ht hvm hw hB hz1 hk1 hS => ?_)
        obtain ⟨hP1, hK1, hD1⟩ := hB
        rw [ht] at hP1
        obtain ⟨hw1, hw2⟩ := hw
        rw [hw2] at hP1 hD1
        rw [hw1]
        rw [F_m_isMachine_2] at hP1 hD1
        have hD2 := hD1.weaken (B := A) (fun _ q _ h => hFc q.1 h)
        have hP := hP1
        have hD := hD2
        generalize H1 = H at hP hS ⊢
        refine wi_if_ne (tgt := 28) hx hb (F_R01 (F_m_isMachine_01 x)) dX12_nth_22 (by decide) (fun c_22 => ?_) (fun c_22 => ?_)
        · skip
          rw [if_neg c_22] at hres
          refine lv_aload_n hx hb dX12_nth_28 rfl (lv_at hl 0 rfl) ?_
          refine lv_lload_n hx hb dX12_nth_29 rfl (lv_at hl 1 rfl) ?_
          refine lv_bipush (v := iI (9 : Int)) hx hb dX12_nth_30 (by decide) ?_
          have hFc : ∀ q, va_A (mW h ad cI cJ cZ (x)) H.size q → A q := fun q hq => Or.elim hq (fun ⟨k, e, hk⟩ => hD.2 k (q, e) hk) (fun hk => hA q (Nat.le_trans hS.1 hk))
          refine va_calli (va_runV (As := [.long (iL (i0)), .int (iI ((9 : Int)))]) (rest := []) ⟨hx, hb, hml, hown, hts⟩ (c_m_pick l dC dI h ad cI cJ cZ H.size (x) (i0) ((9 : Int)) ri ii0 (by omega) (by omega) (au c_22) (st1 c_22) hwy (hok c_22)) (cwV 2 hts gX12_nth_X12_pick rfl rfl rfl (by decide +kernel) ⟨Nat.le_of_ble_eq_true rfl, Nat.le_of_ble_eq_true rfl⟩) ⟨fun a U g mk q => by obtain ⟨q0, q1, qP, qK, qD⟩ := q; exact ⟨q0, q1, qP, va_K.moved (u := U) (U := U.calling g mk a) (Vm.Alike.refl U.vm) qK, qD⟩, va_recv hK hP (ci := 12) (q0 := 0) rfl rfl, fun U hU hW => ⟨rfl, by rw [hU], by rw [hU]; exact hP, va_K.moved hW.alike hK, hD.weaken (fun _ _ _ _ => trivial)⟩⟩ rfl rfl hl.1 rfl (lv_room (Nat.le_of_ble_eq_true rfl)) dX12_nth_32 ⟨Nat.le_of_ble_eq_true rfl, Nat.le_of_ble_eq_true rfl⟩) hS (fun q _ h => hFc q h) hFc (fun r9 u9 t H1 locs ht hvm hw hB hz1 hk1 hS => ?_)
          obtain ⟨hP1, hK1, hD1⟩ := hB
          rw [ht] at hP1
          obtain ⟨hw1, hw2⟩ := hw
          rw [hw2] at hP1 hD1
          rw [hw1]
          have hD2 := hD1.weaken (B := A) (fun _ q _ h => hFc q.1 h)
          have hP := hP1
          have hD := hD2
          generalize H1 = H at hP hS ⊢
          refine wi_if_ne (tgt := 41) hx hb (F_R01 (F_m_pick_01 _ _ _)) dX12_nth_35 (by decide) (fun c_35 => ?_) (fun c_35 => ?_)
          · skip
            rw [if_neg c_35] at hres
            have pb := (F_m_pick_b x i0 9).resolve_left c_35
            refine lv_aload_n hx hb dX12_nth_41 rfl (lv_at hl 0 rfl) ?_
            refine lv_bipush (v := iI (9 : Int)) hx hb dX12_nth_42 (by decide) ?_
            refine lv_iload_n hx hb dX12_nth_44 rfl (lv_at hl 2 rfl) ?_
            have hFc : ∀ q, va_A (mW h ad cI cJ cZ ((F_m_pick (x) (i0) ((9 : Int))).2)) H.size q → A q := fun q hq => Or.elim hq (fun ⟨k, e, hk⟩ => hD.2 k (q, e) hk) (fun hk => hA q (Nat.le_trans hS.1 hk))
            refine va_callv (va_runV (As := [.int (iI ((9 : Int))), .int (iI (k))]) (rest := []) ⟨hx, hb, hml, hown, hts⟩ (c_m_copy l dC dI h ad cI cJ cZ H.size ((F_m_pick (x) (i0) ((9 : Int))).2) ((9 : Int)) (k) (by omega) (by omega) (by omega) (by omega) pb.1 (by have := pb.2; omega)) (cwV 2 hts gX12_nth_X12_copy rfl rfl rfl (by decide +kernel) ⟨Nat.le_of_ble_eq_true rfl, Nat.le_of_ble_eq_true rfl⟩) ⟨fun a U g mk q => by obtain ⟨q0, q1, qP, qK, qD⟩ := q; exact ⟨q0, q1, qP, va_K.moved (u := U) (U := U.calling g mk a) (Vm.Alike.refl U.vm) qK, qD⟩, va_recv hK hP (ci := 12) (q0 := 0) rfl rfl, fun U hU hW => ⟨rfl, by rw [hU], by rw [hU]; exact hP, va_K.moved hW.alike hK, hD.weaken (fun _ _ _ _ => trivial)⟩⟩ rfl rfl hl.1 rfl (lv_room (Nat.le_of_ble_eq_true rfl)) dX12_nth_45 ⟨Nat.le_of_ble_eq_true rfl, Nat.le_of_ble_eq_true rfl⟩) hS (fun q _ h => hFc q h) hFc (fun u9 t H1 locs ht hvm hw hB hz1 hk1 hS => ?_)
            obtain ⟨hP1, hK1, hD1⟩ := hB
            rw [ht] at hP1
            rw [hw] at hP1 hD1
            have hD2 := hD1.weaken (B := A) (fun _ q _ h => hFc q.1 h)
            have hP := hP1
            have hD := hD2
            generalize H1 = H at hP hS ⊢
            refine lv_aload_n hx hb dX12_nth_48 rfl (lv_at hl 0 rfl) ?_
            refine va_get (D := (dC, dI)) (ci := 12) (v := .ref (ad 1)) (C := RX12) (T := TX12) (N := 34) hx hb hts hin hown hK hP 0 rfl rfl 1 (by decide) (hts (.fieldLink RX12 13 "LikeWordsModel" "size" "[I") (by decide +kernel)) (fun _ h9 => h9) rfl dX12_nth_49 ?_
            refine lv_iload_n hx hb dX12_nth_52 rfl (lv_at hl 2 rfl) ?_
            refine wi_iald (f := ((F_m_copy ((F_m_pick (x) (i0) ((9 : Int))).2) ((9 : Int)) (k)).2).2 1) hx hb hK hP 1 0 rfl rfl (i := k) (by omega) (by omega) (by decide) dX12_nth_53 ?_
            exact W.iret (v := iI ((((F_m_copy ((F_m_pick (x) (i0) ((9 : Int))).2) ((9 : Int)) (k)).2).2 1) (k).toNat)) hx hb hr (fun t ht hW => ⟨⟨iI ((((F_m_copy ((F_m_pick (x) (i0) ((9 : Int))).2) ((9 : Int)) (k)).2).2 1) (k).toNat), (F_m_copy ((F_m_pick (x) (i0) ((9 : Int))).2) ((9 : Int)) (k)).2, rfl, ⟨(by have h9 := congrArg (fun z : Int × MS => iI z.1) hres; exact h9), (by have h9 := congrArg (fun z : Int × MS => z.2) hres; exact h9)⟩, by rw [ht]; exact hP, va_K.moved hW.alike hK, hD⟩, hS.F ht⟩) hS.2.2 dX12_nth_54
          · skip
            rw [if_pos c_35] at hres
            refine lv_bipush (v := iI (-9 : Int)) hx hb dX12_nth_38 (by decide) ?_
            exact W.iret (v := iI ((-9 : Int))) hx hb hr (fun t ht hW => ⟨⟨iI ((-9 : Int)), (F_m_pick (x) (i0) ((9 : Int))).2, rfl, ⟨(by have h9 := congrArg (fun z : Int × MS => iI z.1) hres; exact h9), (by have h9 := congrArg (fun z : Int × MS => z.2) hres; exact h9)⟩, by rw [ht]; exact hP, va_K.moved hW.alike hK, hD⟩, hS.F ht⟩) hS.2.2 dX12_nth_40
        · skip
          rw [if_pos c_22] at hres
          refine lv_bipush (v := iI (-3 : Int)) hx hb dX12_nth_25 (by decide) ?_
          exact W.iret (v := iI ((-3 : Int))) hx hb hr (fun t ht hW => ⟨⟨iI ((-3 : Int)), x, rfl, ⟨(by have h9 := congrArg (fun z : Int × MS => iI z.1) hres; exact h9), (by have h9 := congrArg (fun z : Int × MS => z.2) hres; exact h9)⟩, by rw [ht]; exact hP, va_K.moved hW.alike hK, hD⟩, hS.F ht⟩) hS.2.2 dX12_nth_27
      · skip
        rw [if_neg c_12] at hres
        refine lv_bipush (v := iI (-2 : Int)) hx hb dX12_nth_15 (by decide) ?_
        exact W.iret (v := iI ((-2 : Int))) hx hb hr (fun t ht hW => ⟨⟨iI ((-2 : Int)), x, rfl, ⟨(by have h9 := congrArg (fun z : Int × MS => iI z.1) hres; exact h9), (by have h9 := congrArg (fun z : Int × MS => z.2) hres; exact h9)⟩, by rw [ht]; exact hP, va_K.moved hW.alike hK, hD⟩, hS.F ht⟩) hS.2.2 dX12_nth_17
    · skip
      rw [if_pos c_4] at hres
      refine lv_iconst (v := iI (-1 : Int)) hx hb dX12_nth_7 (by decide) ?_
      exact W.iret (v := iI ((-1 : Int))) hx hb hr (fun t ht hW => ⟨⟨iI ((-1 : Int)), x, rfl, ⟨(by have h9 := congrArg (fun z : Int × MS => iI z.1) hres; exact h9), (by have h9 := congrArg (fun z : Int × MS => z.2) hres; exact h9)⟩, by rw [ht]; exact hP, va_K.moved hW.alike hK, hD⟩, hS.F ht⟩) hS.2.2 dX12_nth_8
  exact key _ _ hP hS
