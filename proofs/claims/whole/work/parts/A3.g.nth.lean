-- deps: A3.f
set_option maxHeartbeats 4000000 in
set_option maxRecDepth 100000 in
/-- LikeWords, nth -/
theorem d_t_nth (l : Launch) (dC : Nat → ClassId) (dI : Nat → Nat → Nat) (ad : Nat → Nat) (cI cJ cZ cR : ClassId) (M wl sz : Nat) (x : KS) (nn : Int) (k : Int) (hM : 87 ≤ M) (s0 : 0 ≤ x.1 0 15) (s1 : x.1 0 15 ≤ 20) (p01 : x.1 0 16 = 0 ∨ x.1 0 16 = 1) (ma : maR x) (l2 : 1 ≤ x.1 1 2 ∧ x.1 1 2 ≤ 4) (ms : (F_t_isProved x).1 = 1 → maS x) (d9 : dz x) (hh0 : (F_t_isProved x).1 = 1 → 1 ≤ x.1 64 7) (rc : ∀ j : Nat, 0 ≤ x.2 69 j ∧ x.2 69 j ≤ 4611686018427387904) (su : ∀ j : Int, 0 ≤ j → j < 8 → 0 ≤ x.1 (7 + 2 * j.toNat) 1 ∧ x.1 (7 + 2 * j.toNat) 1 ≤ 60) (rk : iR k) (qq1 : iRL nn) : Met l yX11_nth wsX11_nth ({ frames := 4, cells := 0, slots := 0, locals := 99 }) (kPc dC dI ad cI cJ cZ cR M wl sz x [.ref (ad 0), .long (iL nn), .int (iI k)]) (va_Qi (fun (r : Int32) (u : KS) => r = iI (F_t_nth x nn k).1 ∧ u = (F_t_nth x nn k).2) (kAt dC dI ad cI cJ cZ cR M wl (va_A (kWd cI cJ cZ cR wl ad M (x)) sz)) (va_A (kWd cI cJ cZ cR wl ad M (x)) sz)) 0 0 (va_A (kWd cI cJ cZ cR wl ad M (x)) sz) := by
  refine Met.ofW (cc := cX11_nth) (maxL := 4) (ret := (some .int)) (by decide) rfl ?_
  intro p e s m args below meth c s₁ B hml hv
  obtain ⟨rfl, hsz, hP, hK, hD0, hNw⟩ := hv
  have hx := B.exec
  have hb := B.bytes
  have hr := B.returns
  have hts := atoms_spec (ws := wsX11_nth) B.pre
  have hown : s.vm.findClass RX11 = some m.cls := findClass_of_methodNamed B.named
  have hlocks := B.notSynchronized
  have hinX10 : ∀ w ∈ u_ws RX10 TX10 2, w ∈ wsX11_nth := by decide +kernel
  have hinX11 : ∀ w ∈ u_ws RX11 TX11 17, w ∈ wsX11_nth := by decide +kernel
  subst hsz
  have hD := hD0.self (sz := s.heap.size)
  generalize hAe : va_A (kWd cI cJ cZ cR wl ad M (x)) s.heap.size = A at hD ⊢
  have hA : ∀ q : Nat, s.heap.size ≤ q → A q := fun q h => by rw [← hAe]; exact Or.inr h
  have hS : va_S A s.heap s.heap [] := va_S.rf
  have hl := lv_entry ([.ref (ad 0), .long (iL nn), .int (iI k)]) (n := 4) (Nat.le_of_ble_eq_true rfl)
  rw [lg_entry_eq]
  generalize (lg_sl ([.ref (ad 0), .long (iL nn), .int (iI k)]) ++ List.replicate (4 - (lg_sl ([.ref (ad 0), .long (iL nn), .int (iI k)])).length) Slot.unset).toArray = ls at hl ⊢
  have hl : lv_has ls 4 [(0, .ref (ad (0))), (1, .long (iL (nn))), (3, .int (iI (k)))] := hl
  have key : ∀ (H : Heap) (locs : List Loc), va_P (dC, dI) vwCl (kWd cI cJ cZ cR wl ad M (x)) H → va_S A s.heap H locs → W p l e (headSpec wsX11_nth ({ frames := 4, cells := 0, slots := 0, locals := 99 })).room s m ([.ref (ad 0), .long (iL nn), .int (iI k)] : List Value).toArray below meth c H locs 0 0 (MQ below (va_Qi (fun (r : Int32) (u : KS) => r = iI (F_t_nth x nn k).1 ∧ u = (F_t_nth x nn k).2) (kAt dC dI ad cI cJ cZ cR M wl A) A) ([.ref (ad 0), .long (iL nn), .int (iI k)] : List Value).toArray s 0 0 A) (F0 m 0 ls []) := by
    intro H locs hP hS
    have hres : (if ((F_t_isSlot (x) (k)).1) = (0) then ((-1 : Int), x) else (if (0) ≤ (iC (nn) ((0 : Int))) then (if ((F_t_isProved (x)).1) = (0) then ((-3 : Int), x) else (if ((F_a_writeNumber (x) (7 + 2 * (k).toNat) (nn)).1) = (0) then ((-9 : Int), (F_a_writeNumber (x) (7 + 2 * (k).toNat) (nn)).2) else (((F_a_writeNumber (x) (7 + 2 * (k).toNat) (nn)).2).1 (7 + 2 * (k).toNat) 1, (F_a_writeNumber (x) (7 + 2 * (k).toNat) (nn)).2))) else ((-2 : Int), x))) = F_t_nth x nn k := rfl
    refine lv_aload_n hx hb dX11_nth_0 rfl (lv_at hl 0 rfl) ?_
    refine lv_iload_n hx hb dX11_nth_1 rfl (lv_at hl 2 rfl) ?_
    have hFc : ∀ q, va_A (kWd cI cJ cZ cR wl ad M (x)) H.size q → A q := fun q hq => Or.elim hq (fun ⟨k, e, hk⟩ => hD.2 k (q, e) hk) (fun hk => hA q (Nat.le_trans hS.1 hk))
    refine va_calli (va_runV (b := ad (0)) (As := [.int (iI (k))]) (rest := []) ⟨hx, hb, hml, hown, hts⟩ (c_t_isSlot l dC dI ad cI cJ cZ cR M wl H.size (x)  (k) hM rk) (cwV 1 hts gX11_nth_X11_isSlot rfl rfl rfl (by decide +kernel) ⟨Nat.le_of_ble_eq_true rfl, Nat.le_of_ble_eq_true rfl⟩) ⟨fun a U g mk q => by obtain ⟨q0, q1, qP, qK, qD, qN⟩ := q; exact ⟨q0, q1, qP, va_K.moved (u := U) (U := U.calling g mk a) (Vm.Alike.refl U.vm) qK, qD, kNw.same (u := U) (U := U.calling g mk a) rfl qN⟩, va_recv hK hP (ci := 11) (q0 := 0) rfl (kg0 (by omega)), fun U hU hW => ⟨rfl, by rw [hU], by rw [hU]; exact hP, va_K.moved hW.alike hK, hD.weaken (fun _ _ _ _ => trivial), kNw.warm hW hNw⟩⟩ rfl rfl hl.1 rfl (lv_room (Nat.le_of_ble_eq_true rfl)) dX11_nth_2 ⟨Nat.le_of_ble_eq_true rfl, Nat.le_of_ble_eq_true rfl⟩) hS (fun q _ h => hFc q h) hFc (fun r9 u9 t H1 locs ht hvm hw hB hz1 hk1 hS => ?_)
    obtain ⟨hP1, hK1, hD1⟩ := hB
    rw [ht] at hP1
    obtain ⟨hw1, hw2⟩ := hw
    rw [hw2] at hP1 hD1
    rw [hw1]
    rw [F_t_isSlot_2] at hP1 hD1
    have hD2 := hD1.weaken (B := A) (fun _ q _ h => hFc q.1 h)
    have hP := hP1
    have hD := hD2
    generalize H1 = H at hP hS ⊢
    refine wi_if_ne (tgt := 10) hx hb (kR01 (F_t_isSlot_01 _ _)) dX11_nth_5 (by decide) (fun c_5 => ?_) (fun c_5 => ?_)
    · skip
      rw [if_neg c_5] at hres
      obtain ⟨k0, k1⟩ := F_t_isSlot_1 c_5
      refine lv_lload_n hx hb dX11_nth_10 rfl (lv_at hl 1 rfl) ?_
      refine lv_lconst (v := iL 0) hx hb dX11_nth_11 (by decide) ?_
      refine wi_lcmp hx hb (by first | assumption | exact kR_L (by assumption) | (unfold iRL; omega)) ⟨by decide, by decide⟩ dX11_nth_12 ?_
      refine wi_if_ge (tgt := 19) hx hb iC_R dX11_nth_13 (by decide) (fun c_13 => ?_) (fun c_13 => ?_)
      · skip
        rw [if_pos c_13] at hres
        refine lv_aload_n hx hb dX11_nth_19 rfl (lv_at hl 0 rfl) ?_
        have hFc : ∀ q, va_A (kWd cI cJ cZ cR wl ad M (x)) H.size q → A q := fun q hq => Or.elim hq (fun ⟨k, e, hk⟩ => hD.2 k (q, e) hk) (fun hk => hA q (Nat.le_trans hS.1 hk))
        refine va_calli (va_runV (b := ad (0)) (As := []) (rest := []) ⟨hx, hb, hml, hown, hts⟩ (c_t_isProved l dC dI ad cI cJ cZ cR M wl H.size (x)   hM s0 s1 p01) (cwV 0 hts gX11_nth_X11_isProved rfl rfl rfl (by decide +kernel) ⟨Nat.le_of_ble_eq_true rfl, Nat.le_of_ble_eq_true rfl⟩) ⟨fun a U g mk q => by obtain ⟨q0, q1, qP, qK, qD, qN⟩ := q; exact ⟨q0, q1, qP, va_K.moved (u := U) (U := U.calling g mk a) (Vm.Alike.refl U.vm) qK, qD, kNw.same (u := U) (U := U.calling g mk a) rfl qN⟩, va_recv hK hP (ci := 11) (q0 := 0) rfl (kg0 (by omega)), fun U hU hW => ⟨rfl, by rw [hU], by rw [hU]; exact hP, va_K.moved hW.alike hK, hD.weaken (fun _ _ _ _ => trivial), kNw.warm hW hNw⟩⟩ rfl rfl hl.1 rfl (lv_room (Nat.le_of_ble_eq_true rfl)) dX11_nth_20 ⟨Nat.le_of_ble_eq_true rfl, Nat.le_of_ble_eq_true rfl⟩) hS (fun q _ h => hFc q h) hFc (fun r9 u9 t H1 locs ht hvm hw hB hz1 hk1 hS => ?_)
        obtain ⟨hP1, hK1, hD1⟩ := hB
        rw [ht] at hP1
        obtain ⟨hw1, hw2⟩ := hw
        rw [hw2] at hP1 hD1
        rw [hw1]
        rw [F_t_isProved_2] at hP1 hD1
        have hD2 := hD1.weaken (B := A) (fun _ q _ h => hFc q.1 h)
        have hP := hP1
        have hD := hD2
        generalize H1 = H at hP hS ⊢
        refine wi_if_ne (tgt := 29) hx hb (kR01 (F_t_isProved_01 _)) dX11_nth_23 (by decide) (fun c_23 => ?_) (fun c_23 => ?_)
        · skip
          rw [if_neg c_23] at hres
          refine lv_aload_n hx hb dX11_nth_29 rfl (lv_at hl 0 rfl) ?_
          refine va_get (D := (dC, dI)) (ci := 11) (v := .ref (ad (64))) (C := RX11) (T := TX11) (N := 17) hx hb hts hinX11 hown hK hP (0) (kg0 (by omega)) rfl 6 (by decide) (hts (.fieldLink RX11 53 "LikeWords" "machine" "LLikeWords$Machine;") (by decide +kernel)) (fun _ h9 => h9) rfl dX11_nth_30 ?_
          refine lv_lload_n hx hb dX11_nth_33 rfl (lv_at hl 1 rfl) ?_
          refine lv_aload_n hx hb dX11_nth_34 rfl (lv_at hl 0 rfl) ?_
          refine va_get (D := (dC, dI)) (ci := 11) (v := .ref (ad (6))) (C := RX11) (T := TX11) (N := 17) hx hb hts hinX11 hown hK hP (0) (kg0 (by omega)) rfl 2 (by decide) (hts (.fieldLink RX11 25 "LikeWords" "slots" "[LLikeWords$Word;") (by decide +kernel)) (fun _ h9 => h9) rfl dX11_nth_35 ?_
          refine lv_iload_n hx hb dX11_nth_38 rfl (lv_at hl 2 rfl) ?_
          refine va_aldq (C := "LikeWords$Word") (n := 8) (f := fun j => some (ad (7 + 2 * j))) hx hb hK hP 6 3 (kget (by omega)) rfl (iI_in (z := k) (by omega) (by omega) (by decide)) dX11_nth_39 ?_
          rw [iI_clamp ⟨by omega, by omega⟩]
          refine W.eq (g2 := F0 m 40 ls [.ref (ad (7 + 2 * (k).toNat)), .long (iL (nn)), .ref (ad (64))]) rfl ?_
          have hFc : ∀ q, va_A (kWd cI cJ cZ cR wl ad M (x)) H.size q → A q := fun q hq => Or.elim hq (fun ⟨k, e, hk⟩ => hD.2 k (q, e) hk) (fun hk => hA q (Nat.le_trans hS.1 hk))
          refine va_calli (va_runV (b := ad (64)) (As := [.long (iL (nn)), .ref (ad (7 + 2 * (k).toNat))]) (rest := []) ⟨hx, hb, hml, hown, hts⟩ (c_a_writeNumber l dC dI ad cI cJ cZ cR M wl H.size (x) (7 + 2 * (k).toNat) (nn) hM (kW_slot (by omega) (by omega)) (by omega) ma l2 (ms ((F_t_isProved_01 x).resolve_left c_23)) d9 (hh0 ((F_t_isProved_01 x).resolve_left c_23)) rc (su k k0 k1).1 (by rw [kL_slot k0 k1]; exact (su k k0 k1).2) (by rcases Int.lt_or_le nn 0 with h9 | h9; exact absurd (kiC_lt.mpr h9) (by omega); exact h9) qq1) (cwV 2 hts gX11_nth_X3_writeNumber rfl rfl rfl (by decide +kernel) ⟨Nat.le_of_ble_eq_true rfl, Nat.le_of_ble_eq_true rfl⟩) ⟨fun a U g mk q => by obtain ⟨q0, q1, qP, qK, qD, qN⟩ := q; exact ⟨q0, q1, qP, va_K.moved (u := U) (U := U.calling g mk a) (Vm.Alike.refl U.vm) qK, qD, kNw.same (u := U) (U := U.calling g mk a) rfl qN⟩, va_recv hK hP (ci := 3) (q0 := 64) rfl (kg64 (by omega)), fun U hU hW => ⟨rfl, by rw [hU], by rw [hU]; exact hP, va_K.moved hW.alike hK, hD.weaken (fun _ _ _ _ => trivial), kNw.warm hW hNw⟩⟩ rfl rfl hl.1 rfl (lv_room (Nat.le_of_ble_eq_true rfl)) dX11_nth_40 ⟨Nat.le_of_ble_eq_true rfl, Nat.le_of_ble_eq_true rfl⟩) hS (fun q _ h => hFc q h) hFc (fun r9 u9 t H1 locs ht hvm hw hB hz1 hk1 hS => ?_)
          obtain ⟨hP1, hK1, hD1⟩ := hB
          rw [ht] at hP1
          obtain ⟨hw1, hw2⟩ := hw
          rw [hw2] at hP1 hD1
          rw [hw1]
          have hD2 := hD1.weaken (B := A) (fun _ q _ h => hFc q.1 h)
          have hP := hP1
          have hD := hD2
          generalize H1 = H at hP hS ⊢
          refine wi_if_eq (tgt := 58) hx hb (kR01 (F_a_writeNumber_01 _ _ _)) dX11_nth_43 (by decide) (fun c_43 => ?_) (fun c_43 => ?_)
          · skip
            rw [if_pos c_43] at hres
            refine lv_bipush (v := iI (-9 : Int)) hx hb dX11_nth_58 (by decide) ?_
            exact W.iret (v := iI ((-9 : Int))) hx hb hr (fun t ht hW => ⟨⟨iI ((-9 : Int)), (F_a_writeNumber (x) (7 + 2 * (k).toNat) (nn)).2, rfl, ⟨(by have h9 := congrArg (fun z : Int × KS => iI z.1) hres; exact h9), (by have h9 := congrArg (fun z : Int × KS => z.2) hres; exact h9)⟩, by rw [ht]; exact hP, va_K.moved hW.alike hK, hD⟩, hS.F ht⟩) hS.2.2 dX11_nth_60
          · skip
            rw [if_neg c_43] at hres
            refine lv_aload_n hx hb dX11_nth_46 rfl (lv_at hl 0 rfl) ?_
            refine va_get (D := (dC, dI)) (ci := 11) (v := .ref (ad (6))) (C := RX11) (T := TX11) (N := 17) hx hb hts hinX11 hown hK hP (0) (kg0 (by omega)) rfl 2 (by decide) (hts (.fieldLink RX11 25 "LikeWords" "slots" "[LLikeWords$Word;") (by decide +kernel)) (fun _ h9 => h9) rfl dX11_nth_47 ?_
            refine lv_iload_n hx hb dX11_nth_50 rfl (lv_at hl 2 rfl) ?_
            refine va_aldq (C := "LikeWords$Word") (n := 8) (f := fun j => some (ad (7 + 2 * j))) hx hb hK hP 6 3 (kget (by omega)) rfl (iI_in (z := k) (by omega) (by omega) (by decide)) dX11_nth_51 ?_
            rw [iI_clamp ⟨by omega, by omega⟩]
            refine W.eq (g2 := F0 m 52 ls [.ref (ad (7 + 2 * (k).toNat))]) rfl ?_
            refine va_get (D := (dC, dI)) (ci := 10) (v := .int (iI (((F_a_writeNumber (x) (7 + 2 * (k).toNat) (nn)).2).1 (7 + 2 * (k).toNat) 1))) (C := RX10) (T := TX10) (N := 2) hx hb hts hinX10 hown hK hP (7 + 2 * (k).toNat) (kgw (kW_slot (by omega) (by omega)) (by omega)) rfl 1 (by decide) (hts (.fieldLink RX11 123 "LikeWords$Word" "used" "I") (by decide +kernel)) (fun _ h9 => h9) rfl dX11_nth_52 ?_
            refine lv_goto (tgt := 60) hx hb dX11_nth_55 (by decide) ?_
            exact W.iret (v := iI (((F_a_writeNumber (x) (7 + 2 * (k).toNat) (nn)).2).1 (7 + 2 * (k).toNat) 1)) hx hb hr (fun t ht hW => ⟨⟨iI (((F_a_writeNumber (x) (7 + 2 * (k).toNat) (nn)).2).1 (7 + 2 * (k).toNat) 1), (F_a_writeNumber (x) (7 + 2 * (k).toNat) (nn)).2, rfl, ⟨(by have h9 := congrArg (fun z : Int × KS => iI z.1) hres; exact h9), (by have h9 := congrArg (fun z : Int × KS => z.2) hres; exact h9)⟩, by rw [ht]; exact hP, va_K.moved hW.alike hK, hD⟩, hS.F ht⟩) hS.2.2 dX11_nth_60
        · skip
          rw [if_pos c_23] at hres
          refine lv_bipush (v := iI (-3 : Int)) hx hb dX11_nth_26 (by decide) ?_
          exact W.iret (v := iI ((-3 : Int))) hx hb hr (fun t ht hW => ⟨⟨iI ((-3 : Int)), x, rfl, ⟨(by have h9 := congrArg (fun z : Int × KS => iI z.1) hres; exact h9), (by have h9 := congrArg (fun z : Int × KS => z.2) hres; exact h9)⟩, by rw [ht]; exact hP, va_K.moved hW.alike hK, hD⟩, hS.F ht⟩) hS.2.2 dX11_nth_28
      · skip
        rw [if_neg c_13] at hres
        refine lv_bipush (v := iI (-2 : Int)) hx hb dX11_nth_16 (by decide) ?_
        exact W.iret (v := iI ((-2 : Int))) hx hb hr (fun t ht hW => ⟨⟨iI ((-2 : Int)), x, rfl, ⟨(by have h9 := congrArg (fun z : Int × KS => iI z.1) hres; exact h9), (by have h9 := congrArg (fun z : Int × KS => z.2) hres; exact h9)⟩, by rw [ht]; exact hP, va_K.moved hW.alike hK, hD⟩, hS.F ht⟩) hS.2.2 dX11_nth_18
    · skip
      rw [if_pos c_5] at hres
      refine lv_iconst (v := iI (-1 : Int)) hx hb dX11_nth_8 (by decide) ?_
      exact W.iret (v := iI ((-1 : Int))) hx hb hr (fun t ht hW => ⟨⟨iI ((-1 : Int)), x, rfl, ⟨(by have h9 := congrArg (fun z : Int × KS => iI z.1) hres; exact h9), (by have h9 := congrArg (fun z : Int × KS => z.2) hres; exact h9)⟩, by rw [ht]; exact hP, va_K.moved hW.alike hK, hD⟩, hS.F ht⟩) hS.2.2 dX11_nth_9
  exact key _ _ hP hS
