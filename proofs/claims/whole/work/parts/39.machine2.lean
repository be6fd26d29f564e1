-- deps: 30 31 32 33 34 36 37 38
theorem F_u_withLeft_b {x : KS} (ru : ruR x) (v : Int) : -41 ≤ (F_u_withLeft x v).1 ∧ (F_u_withLeft x v).1 < 40 := by
  have r := ru.1
  have := F_t_placeOf_b (a1 := 59) (v := v) r.1 x
  unfold F_u_withLeft
  show -41 ≤ (F_t_placeOf x 59 (x.1 58 6) v).1 ∧ (F_t_placeOf x 59 (x.1 58 6) v).1 < 40
  omega
theorem F_a_step_b {x : KS} (ma : maR x) (s z : Int) : -1000 ≤ (F_a_step x s z).1 ∧ (F_a_step x s z).1 < 320 := by
  unfold F_a_step
  repeat' split
  all_goals first | exact ma.2.2 _ | exact ⟨by show (-1000 : Int) ≤ 0; decide, by show (0 : Int) < 320; decide⟩
def F_a_endOf_s  : Nat → Nat → KS → Int → Int → Int → Int × KS
  | 0, _, x, _, _, _ => (0, x)
  | n + 1, t, x, p0, p1, p2 => match t with
    | 0 => (fun (g : Int) (v : Int) (k : Int) => (if (k) ≤ (0) then F_a_endOf_s n 1 (x) (g) (v) (g) else (if ((F_u_withLeft (x) (((F_s_firstOf (x) (k)).1) + ((v) % ((F_s_powerOf (x) (k)).1)))).1) < (0) then F_a_endOf_s n 0 (x) (g) (v) ((k) + (-1 : Int)) else (((-1 : Int)) - ((F_u_withLeft (x) (((F_s_firstOf (x) (k)).1) + ((v) % ((F_s_powerOf (x) (k)).1)))).1), x)))) p0 p1 p2
    | 1 => (fun (g : Int) (v : Int) (k : Int) => (if (k) ≤ (0) then ((0 : Int), x) else (if ((F_t_placeOf (x) (65) ((x).1 (64) 7) (((F_s_firstOf (x) (k)).1) + ((v) % ((F_s_powerOf (x) (k)).1)))).1) < (0) then F_a_endOf_s n 1 (x) (g) (v) ((k) + (-1 : Int)) else ((F_t_placeOf (x) (65) ((x).1 (64) 7) (((F_s_firstOf (x) (k)).1) + ((v) % ((F_s_powerOf (x) (k)).1)))).1, x)))) p0 p1 p2
    | _ => (0, x)
theorem F_a_endOf_e0  (n : Nat) (x : KS) (g : Int) (v : Int) (k : Int) : F_a_endOf_s (n + 1) 0 x g v k = (if (k) ≤ (0) then F_a_endOf_s n 1 (x) (g) (v) (g) else (if ((F_u_withLeft (x) (((F_s_firstOf (x) (k)).1) + ((v) % ((F_s_powerOf (x) (k)).1)))).1) < (0) then F_a_endOf_s n 0 (x) (g) (v) ((k) + (-1 : Int)) else (((-1 : Int)) - ((F_u_withLeft (x) (((F_s_firstOf (x) (k)).1) + ((v) % ((F_s_powerOf (x) (k)).1)))).1), x))) := rfl
theorem F_a_endOf_e1  (n : Nat) (x : KS) (g : Int) (v : Int) (k : Int) : F_a_endOf_s (n + 1) 1 x g v k = (if (k) ≤ (0) then ((0 : Int), x) else (if ((F_t_placeOf (x) (65) ((x).1 (64) 7) (((F_s_firstOf (x) (k)).1) + ((v) % ((F_s_powerOf (x) (k)).1)))).1) < (0) then F_a_endOf_s n 1 (x) (g) (v) ((k) + (-1 : Int)) else ((F_t_placeOf (x) (65) ((x).1 (64) 7) (((F_s_firstOf (x) (k)).1) + ((v) % ((F_s_powerOf (x) (k)).1)))).1, x))) := rfl
def F_a_endOf (x : KS) (g : Int) (v : Int) : Int × KS := F_a_endOf_s 100 0 (x) (g) (v) (g)
set_option maxHeartbeats 4000000 in
set_option maxRecDepth 100000 in
/-- LikeWords$Machine, endOf -/
theorem c_a_endOf (l : Launch) (dC : Nat → ClassId) (dI : Nat → Nat → Nat) (ad : Nat → Nat) (cI cJ cZ cR : ClassId) (M wl sz : Nat) (x : KS) (g : Int) (v : Int) (hM : 87 ≤ M) (sx : scX x) (ru : ruR x) (ma : maR x) (g0 : 0 ≤ g) (g1 : g ≤ 30) (v0 : 0 ≤ v) (v1 : v ≤ 200000) : Met l yX3_endOf wsX3_endOf ({ frames := 3, cells := 0, slots := 0, locals := 67 }) (kPc dC dI ad cI cJ cZ cR M wl sz x [.ref (ad 64), .int (iI g), .int (iI v)]) (va_Qi (fun (r : Int32) (u : KS) => r = iI (F_a_endOf x g v).1 ∧ u = (F_a_endOf x g v).2) (kAt dC dI ad cI cJ cZ cR M wl (va_A (kWd cI cJ cZ cR wl ad M (x)) sz)) (va_A (kWd cI cJ cZ cR wl ad M (x)) sz)) 0 0 (va_A (kWd cI cJ cZ cR wl ad M (x)) sz) := by
  refine Met.ofW (cc := cX3_endOf) (maxL := 5) (ret := (some .int)) (by decide) rfl ?_
  intro p e s m args below meth c s₁ B hml hv
  obtain ⟨rfl, hsz, hP, hK, hD0, hNw⟩ := hv
  have hx := B.exec
  have hb := B.bytes
  have hr := B.returns
  have hts := atoms_spec (ws := wsX3_endOf) B.pre
  have hown : s.vm.findClass RX3 = some m.cls := findClass_of_methodNamed B.named
  have hlocks := B.notSynchronized
  have hinX3 : ∀ w ∈ u_ws RX3 TX3 10, w ∈ wsX3_endOf := by decide +kernel
  subst hsz
  have hD := hD0.self (sz := s.heap.size)
  generalize hAe : va_A (kWd cI cJ cZ cR wl ad M (x)) s.heap.size = A at hD ⊢
  have hA : ∀ q : Nat, s.heap.size ≤ q → A q := fun q h => by rw [← hAe]; exact Or.inr h
  have hS : va_S A s.heap s.heap [] := va_S.rf
  have hl := lv_entry ([.ref (ad 64), .int (iI g), .int (iI v)]) (n := 5) (Nat.le_of_ble_eq_true rfl)
  rw [lg_entry_eq]
  generalize (lg_sl ([.ref (ad 64), .int (iI g), .int (iI v)]) ++ List.replicate (5 - (lg_sl ([.ref (ad 64), .int (iI g), .int (iI v)])).length) Slot.unset).toArray = ls at hl ⊢
  have hl : lv_has ls 5 [(0, .ref (ad (64))), (1, .int (iI (g))), (2, .int (iI (v)))] := hl
  have sc := sx.1
  obtain ⟨ma1, ma2, ma3⟩ := id ma
  have L : ∀ n : Nat, (∀ (k : Int), (0 ≤ k) → (k ≤ g) → (k + 40 < n) → F_a_endOf_s n 0 x g v k = F_a_endOf x g v → ∀ (H : Heap) (locs : List Loc) (ls : Array Slot), va_P (dC, dI) vwCl (kWd cI cJ cZ cR wl ad M (x)) H → va_D A (kWd cI cJ cZ cR wl ad M (x)) → va_S A s.heap H locs → lv_has ls 5 [(0, .ref (ad (64))), (1, .int (iI (g))), (2, .int (iI (v))), (3, .int (iI (k)))] → W p l e (headSpec wsX3_endOf ({ frames := 3, cells := 0, slots := 0, locals := 67 })).room s m ([.ref (ad 64), .int (iI g), .int (iI v)] : List Value).toArray below meth c H locs 0 0 (MQ below (va_Qi (fun (r : Int32) (u : KS) => r = iI (F_a_endOf x g v).1 ∧ u = (F_a_endOf x g v).2) (kAt dC dI ad cI cJ cZ cR M wl A) A) ([.ref (ad 64), .int (iI g), .int (iI v)] : List Value).toArray s 0 0 A) (F0 m 2 ls [])) ∧ (∀ (k : Int), (0 ≤ k) → (k ≤ g) → (k < n) → F_a_endOf_s n 1 x g v k = F_a_endOf x g v → ∀ (H : Heap) (locs : List Loc) (ls : Array Slot), va_P (dC, dI) vwCl (kWd cI cJ cZ cR wl ad M (x)) H → va_D A (kWd cI cJ cZ cR wl ad M (x)) → va_S A s.heap H locs → lv_has ls 5 [(0, .ref (ad (64))), (1, .int (iI (g))), (2, .int (iI (v))), (3, .int (iI (k)))] → W p l e (headSpec wsX3_endOf ({ frames := 3, cells := 0, slots := 0, locals := 67 })).room s m ([.ref (ad 64), .int (iI g), .int (iI v)] : List Value).toArray below meth c H locs 0 0 (MQ below (va_Qi (fun (r : Int32) (u : KS) => r = iI (F_a_endOf x g v).1 ∧ u = (F_a_endOf x g v).2) (kAt dC dI ad cI cJ cZ cR M wl A) A) ([.ref (ad 64), .int (iI g), .int (iI v)] : List Value).toArray s 0 0 A) (F0 m 52 ls [])) := by
    intro n
    induction n with
    | zero =>
      refine ⟨?_, ?_⟩
      · intro k k0 k1 fu hres
        exact absurd fu (by omega)
      · intro k k0 k1 fu hres
        exact absurd fu (by omega)
    | succ n ih =>
      refine ⟨?_, ?_⟩
      · intro k k0 k1 fu hres H locs ls hP hD hS hl
        rw [F_a_endOf_e0] at hres
        have pb := F_s_powerOf_b sc k
        have p1 := F_s_powerOf_1 sx k
        have fb := F_s_firstOf_b sc k
        have m0 := Int.emod_nonneg v (show (F_s_powerOf x k).1 ≠ 0 by omega)
        have m1 := Int.emod_lt_of_pos v (show 0 < (F_s_powerOf x k).1 by omega)
        refine lv_iload_n hx hb dX3_endOf_2 rfl (lv_at hl 3 rfl) ?_
        refine wi_if_le (tgt := 50) hx hb (by first | assumption | (unfold iR; omega) | exact kR01 (by assumption)) dX3_endOf_3 (by decide) (fun c_3 => ?_) (fun c_3 => ?_)
        · skip
          rw [if_pos c_3] at hres
          refine lv_iload_n hx hb dX3_endOf_50 rfl (lv_at hl 1 rfl) ?_
          refine lv_istore_n (lv' := [(3, .int (iI (g))), (0, .ref (ad (64))), (1, .int (iI (g))), (2, .int (iI (v)))]) hx hb dX3_endOf_51 rfl hl (by decide) rfl (fun ls hl => ?_)
          exact ih.2  (g) (by omega) (by omega) (by omega) hres _ _ ls hP hD hS (lv_sub hl [1, 2, 3, 0] rfl)
        · skip
          rw [if_neg c_3] at hres
          refine lv_aload_n hx hb dX3_endOf_6 rfl (lv_at hl 0 rfl) ?_
          refine va_get (D := (dC, dI)) (ci := 3) (v := .ref (ad (58))) (C := RX3) (T := TX3) (N := 10) hx hb hts hinX3 hown hK hP (64) (kg64 (by omega)) rfl 1 (by decide) (hts (.fieldLink RX3 15 "LikeWords$Machine" "rules" "LLikeWords$Rules;") (by decide +kernel)) (fun _ h9 => h9) rfl dX3_endOf_7 ?_
          refine lv_aload_n hx hb dX3_endOf_10 rfl (lv_at hl 0 rfl) ?_
          refine va_get (D := (dC, dI)) (ci := 3) (v := .ref (ad (1))) (C := RX3) (T := TX3) (N := 10) hx hb hts hinX3 hown hK hP (64) (kg64 (by omega)) rfl 0 (by decide) (hts (.fieldLink RX3 9 "LikeWords$Machine" "scale" "LLikeWords$Scale;") (by decide +kernel)) (fun _ h9 => h9) rfl dX3_endOf_11 ?_
          refine lv_iload_n hx hb dX3_endOf_14 rfl (lv_at hl 3 rfl) ?_
          have hFc : ∀ q, va_A (kWd cI cJ cZ cR wl ad M (x)) H.size q → A q := fun q hq => Or.elim hq (fun ⟨k, e, hk⟩ => hD.2 k (q, e) hk) (fun hk => hA q (Nat.le_trans hS.1 hk))
          refine va_calli (va_runV (b := ad (1)) (As := [.int (iI (k))]) (rest := [.ref (ad (58))]) ⟨hx, hb, hml, hown, hts⟩ (c_s_firstOf l dC dI ad cI cJ cZ cR M wl H.size (x)  (k) hM sc (by unfold iR; omega)) (cwV 1 hts gX3_endOf_X8_firstOf rfl rfl rfl (by decide +kernel) ⟨Nat.le_of_ble_eq_true rfl, Nat.le_of_ble_eq_true rfl⟩) ⟨fun a U g mk q => by obtain ⟨q0, q1, qP, qK, qD, qN⟩ := q; exact ⟨q0, q1, qP, va_K.moved (u := U) (U := U.calling g mk a) (Vm.Alike.refl U.vm) qK, qD, kNw.same (u := U) (U := U.calling g mk a) rfl qN⟩, va_recv hK hP (ci := 8) (q0 := 1) rfl (kg1 (by omega)), fun U hU hW => ⟨rfl, by rw [hU], by rw [hU]; exact hP, va_K.moved hW.alike hK, hD.weaken (fun _ _ _ _ => trivial), kNw.warm hW hNw⟩⟩ rfl rfl hl.1 rfl (lv_room (Nat.le_of_ble_eq_true rfl)) dX3_endOf_15 ⟨Nat.le_of_ble_eq_true rfl, Nat.le_of_ble_eq_true rfl⟩) hS (fun q _ h => hFc q h) hFc (fun r9 u9 t H1 locs ht hvm hw hB hz1 hk1 hS => ?_)
          obtain ⟨hP1, hK1, hD1⟩ := hB
          rw [ht] at hP1
          obtain ⟨hw1, hw2⟩ := hw
          rw [hw2] at hP1 hD1
          rw [hw1]
          rw [F_s_firstOf_2] at hP1 hD1
          have hD2 := hD1.weaken (B := A) (fun _ q _ h => hFc q.1 h)
          have hP := hP1
          have hD := hD2
          generalize H1 = H at hP hS ⊢
          refine lv_iload_n hx hb dX3_endOf_18 rfl (lv_at hl 2 rfl) ?_
          refine lv_aload_n hx hb dX3_endOf_19 rfl (lv_at hl 0 rfl) ?_
          refine va_get (D := (dC, dI)) (ci := 3) (v := .ref (ad (1))) (C := RX3) (T := TX3) (N := 10) hx hb hts hinX3 hown hK hP (64) (kg64 (by omega)) rfl 0 (by decide) (hts (.fieldLink RX3 9 "LikeWords$Machine" "scale" "LLikeWords$Scale;") (by decide +kernel)) (fun _ h9 => h9) rfl dX3_endOf_20 ?_
          refine lv_iload_n hx hb dX3_endOf_23 rfl (lv_at hl 3 rfl) ?_
          have hFc : ∀ q, va_A (kWd cI cJ cZ cR wl ad M (x)) H.size q → A q := fun q hq => Or.elim hq (fun ⟨k, e, hk⟩ => hD.2 k (q, e) hk) (fun hk => hA q (Nat.le_trans hS.1 hk))
          refine va_calli (va_runV (b := ad (1)) (As := [.int (iI (k))]) (rest := [.int (iI (v)), .int (iI ((F_s_firstOf (x) (k)).1)), .ref (ad (58))]) ⟨hx, hb, hml, hown, hts⟩ (c_s_powerOf l dC dI ad cI cJ cZ cR M wl H.size (x)  (k) hM sc (by unfold iR; omega)) (cwV 1 hts gX3_endOf_X8_powerOf rfl rfl rfl (by decide +kernel) ⟨Nat.le_of_ble_eq_true rfl, Nat.le_of_ble_eq_true rfl⟩) ⟨fun a U g mk q => by obtain ⟨q0, q1, qP, qK, qD, qN⟩ := q; exact ⟨q0, q1, qP, va_K.moved (u := U) (U := U.calling g mk a) (Vm.Alike.refl U.vm) qK, qD, kNw.same (u := U) (U := U.calling g mk a) rfl qN⟩, va_recv hK hP (ci := 8) (q0 := 1) rfl (kg1 (by omega)), fun U hU hW => ⟨rfl, by rw [hU], by rw [hU]; exact hP, va_K.moved hW.alike hK, hD.weaken (fun _ _ _ _ => trivial), kNw.warm hW hNw⟩⟩ rfl rfl hl.1 rfl (lv_room (Nat.le_of_ble_eq_true rfl)) dX3_endOf_24 ⟨Nat.le_of_ble_eq_true rfl, Nat.le_of_ble_eq_true rfl⟩) hS (fun q _ h => hFc q h) hFc (fun r9 u9 t H1 locs ht hvm hw hB hz1 hk1 hS => ?_)
          obtain ⟨hP1, hK1, hD1⟩ := hB
          rw [ht] at hP1
          obtain ⟨hw1, hw2⟩ := hw
          rw [hw2] at hP1 hD1
          rw [hw1]
          rw [F_s_powerOf_2] at hP1 hD1
          have hD2 := hD1.weaken (B := A) (fun _ q _ h => hFc q.1 h)
          have hP := hP1
          have hD := hD2
          generalize H1 = H at hP hS ⊢
          refine wi_irem hx hb (by first | assumption | (unfold iR; omega) | exact kR01 (by assumption)) (by first | assumption | (unfold iR; omega) | exact kR01 (by assumption)) (by omega) (by omega) dX3_endOf_27 ?_
          refine wi_iadd hx hb dX3_endOf_28 ?_
          have hFc : ∀ q, va_A (kWd cI cJ cZ cR wl ad M (x)) H.size q → A q := fun q hq => Or.elim hq (fun ⟨k, e, hk⟩ => hD.2 k (q, e) hk) (fun hk => hA q (Nat.le_trans hS.1 hk))
          refine va_calli (va_runV (b := ad (58)) (As := [.int (iI (((F_s_firstOf (x) (k)).1) + ((v) % ((F_s_powerOf (x) (k)).1))))]) (rest := []) ⟨hx, hb, hml, hown, hts⟩ (c_u_withLeft l dC dI ad cI cJ cZ cR M wl H.size (x)  (((F_s_firstOf (x) (k)).1) + ((v) % ((F_s_powerOf (x) (k)).1))) hM (by unfold iR; omega) ru) (cwV 1 hts gX3_endOf_X7_withLeft rfl rfl rfl (by decide +kernel) ⟨Nat.le_of_ble_eq_true rfl, Nat.le_of_ble_eq_true rfl⟩) ⟨fun a U g mk q => by obtain ⟨q0, q1, qP, qK, qD, qN⟩ := q; exact ⟨q0, q1, qP, va_K.moved (u := U) (U := U.calling g mk a) (Vm.Alike.refl U.vm) qK, qD, kNw.same (u := U) (U := U.calling g mk a) rfl qN⟩, va_recv hK hP (ci := 7) (q0 := 58) rfl (kg58 (by omega)), fun U hU hW => ⟨rfl, by rw [hU], by rw [hU]; exact hP, va_K.moved hW.alike hK, hD.weaken (fun _ _ _ _ => trivial), kNw.warm hW hNw⟩⟩ rfl rfl hl.1 rfl (lv_room (Nat.le_of_ble_eq_true rfl)) dX3_endOf_29 ⟨Nat.le_of_ble_eq_true rfl, Nat.le_of_ble_eq_true rfl⟩) hS (fun q _ h => hFc q h) hFc (fun r9 u9 t H1 locs ht hvm hw hB hz1 hk1 hS => ?_)
          obtain ⟨hP1, hK1, hD1⟩ := hB
          rw [ht] at hP1
          obtain ⟨hw1, hw2⟩ := hw
          rw [hw2] at hP1 hD1
          rw [hw1]
          rw [F_u_withLeft_2] at hP1 hD1
          have hD2 := hD1.weaken (B := A) (fun _ q _ h => hFc q.1 h)
          have hP := hP1
          have hD := hD2
          generalize H1 = H at hP hS ⊢
          refine lv_istore (lv' := [(4, .int (iI ((F_u_withLeft (x) (((F_s_firstOf (x) (k)).1) + ((v) % ((F_s_powerOf (x) (k)).1)))).1))), (0, .ref (ad (64))), (1, .int (iI (g))), (2, .int (iI (v))), (3, .int (iI (k)))]) hx hb dX3_endOf_32 hl (by decide) rfl (fun ls hl => ?_)
          have wb := F_u_withLeft_b ru ((F_s_firstOf x k).1 + v % (F_s_powerOf x k).1)
          refine lv_iload hx hb dX3_endOf_34 (lv_at hl 0 rfl) ?_
          refine wi_if_lt (tgt := 44) hx hb (by first | assumption | (unfold iR; omega) | exact kR01 (by assumption)) dX3_endOf_36 (by decide) (fun c_36 => ?_) (fun c_36 => ?_)
          · skip
            rw [if_pos c_36] at hres
            refine lv_iinc (v := iI ((k) + (-1 : Int))) (lv' := [(3, .int (iI ((k) + (-1 : Int)))), (4, .int (iI ((F_u_withLeft (x) (((F_s_firstOf (x) (k)).1) + ((v) % ((F_s_powerOf (x) (k)).1)))).1))), (0, .ref (ad (64))), (1, .int (iI (g))), (2, .int (iI (v)))]) hx hb dX3_endOf_44 hl (k := 4) rfl (iI_add _ _) (by decide) rfl (fun ls hl => ?_)
            refine lv_goto (tgt := 2) hx hb dX3_endOf_47 (by decide) ?_
            exact ih.1  ((k) + (-1 : Int)) (by omega) (by omega) (by omega) hres _ _ ls hP hD hS (lv_sub hl [2, 3, 4, 0] rfl)
          · skip
            rw [if_neg c_36] at hres
            refine lv_iconst (v := iI (-1 : Int)) hx hb dX3_endOf_39 (by decide) ?_
            refine lv_iload hx hb dX3_endOf_40 (lv_at hl 0 rfl) ?_
            refine wi_isub hx hb dX3_endOf_42 ?_
            exact W.iret (v := iI (((-1 : Int)) - ((F_u_withLeft (x) (((F_s_firstOf (x) (k)).1) + ((v) % ((F_s_powerOf (x) (k)).1)))).1))) hx hb hr (fun t ht hW => ⟨⟨iI (((-1 : Int)) - ((F_u_withLeft (x) (((F_s_firstOf (x) (k)).1) + ((v) % ((F_s_powerOf (x) (k)).1)))).1)), x, rfl, ⟨(by have h9 := congrArg (fun z : Int × KS => iI z.1) hres; exact h9), (by have h9 := congrArg (fun z : Int × KS => z.2) hres; exact h9)⟩, by rw [ht]; exact hP, va_K.moved hW.alike hK, hD⟩, hS.F ht⟩) hS.2.2 dX3_endOf_43
      · intro k k0 k1 fu hres H locs ls hP hD hS hl
        rw [F_a_endOf_e1] at hres
        have pb := F_s_powerOf_b sc k
        have p1 := F_s_powerOf_1 sx k
        have fb := F_s_firstOf_b sc k
        have m0 := Int.emod_nonneg v (show (F_s_powerOf x k).1 ≠ 0 by omega)
        have m1 := Int.emod_lt_of_pos v (show 0 < (F_s_powerOf x k).1 by omega)
        refine lv_iload_n hx hb dX3_endOf_52 rfl (lv_at hl 3 rfl) ?_
        refine wi_if_le (tgt := 102) hx hb (by first | assumption | (unfold iR; omega) | exact kR01 (by assumption)) dX3_endOf_53 (by decide) (fun c_53 => ?_) (fun c_53 => ?_)
        · skip
          rw [if_pos c_53] at hres
          refine lv_iconst (v := iI (0 : Int)) hx hb dX3_endOf_102 (by decide) ?_
          exact W.iret (v := iI ((0 : Int))) hx hb hr (fun t ht hW => ⟨⟨iI ((0 : Int)), x, rfl, ⟨(by have h9 := congrArg (fun z : Int × KS => iI z.1) hres; exact h9), (by have h9 := congrArg (fun z : Int × KS => z.2) hres; exact h9)⟩, by rw [ht]; exact hP, va_K.moved hW.alike hK, hD⟩, hS.F ht⟩) hS.2.2 dX3_endOf_103
        · skip
          rw [if_neg c_53] at hres
          refine lv_aload_n hx hb dX3_endOf_56 rfl (lv_at hl 0 rfl) ?_
          refine va_get (D := (dC, dI)) (ci := 3) (v := .ref (ad (65))) (C := RX3) (T := TX3) (N := 10) hx hb hts hinX3 hown hK hP (64) (kg64 (by omega)) rfl 2 (by decide) (hts (.fieldLink RX3 19 "LikeWords$Machine" "numbers" "[I") (by decide +kernel)) (fun _ h9 => h9) rfl dX3_endOf_57 ?_
          refine lv_aload_n hx hb dX3_endOf_60 rfl (lv_at hl 0 rfl) ?_
          refine va_get (D := (dC, dI)) (ci := 3) (v := .int (iI ((x).1 (64) 7))) (C := RX3) (T := TX3) (N := 10) hx hb hts hinX3 hown hK hP (64) (kg64 (by omega)) rfl 7 (by decide) (hts (.fieldLink RX3 36 "LikeWords$Machine" "held" "I") (by decide +kernel)) (fun _ h9 => h9) rfl dX3_endOf_61 ?_
          refine lv_aload_n hx hb dX3_endOf_64 rfl (lv_at hl 0 rfl) ?_
          refine va_get (D := (dC, dI)) (ci := 3) (v := .ref (ad (1))) (C := RX3) (T := TX3) (N := 10) hx hb hts hinX3 hown hK hP (64) (kg64 (by omega)) rfl 0 (by decide) (hts (.fieldLink RX3 9 "LikeWords$Machine" "scale" "LLikeWords$Scale;") (by decide +kernel)) (fun _ h9 => h9) rfl dX3_endOf_65 ?_
          refine lv_iload_n hx hb dX3_endOf_68 rfl (lv_at hl 3 rfl) ?_
          have hFc : ∀ q, va_A (kWd cI cJ cZ cR wl ad M (x)) H.size q → A q := fun q hq => Or.elim hq (fun ⟨k, e, hk⟩ => hD.2 k (q, e) hk) (fun hk => hA q (Nat.le_trans hS.1 hk))
          refine va_calli (va_runV (b := ad (1)) (As := [.int (iI (k))]) (rest := [.int (iI ((x).1 (64) 7)), .ref (ad (65))]) ⟨hx, hb, hml, hown, hts⟩ (c_s_firstOf l dC dI ad cI cJ cZ cR M wl H.size (x)  (k) hM sc (by unfold iR; omega)) (cwV 1 hts gX3_endOf_X8_firstOf rfl rfl rfl (by decide +kernel) ⟨Nat.le_of_ble_eq_true rfl, Nat.le_of_ble_eq_true rfl⟩) ⟨fun a U g mk q => by obtain ⟨q0, q1, qP, qK, qD, qN⟩ := q; exact ⟨q0, q1, qP, va_K.moved (u := U) (U := U.calling g mk a) (Vm.Alike.refl U.vm) qK, qD, kNw.same (u := U) (U := U.calling g mk a) rfl qN⟩, va_recv hK hP (ci := 8) (q0 := 1) rfl (kg1 (by omega)), fun U hU hW => ⟨rfl, by rw [hU], by rw [hU]; exact hP, va_K.moved hW.alike hK, hD.weaken (fun _ _ _ _ => trivial), kNw.warm hW hNw⟩⟩ rfl rfl hl.1 rfl (lv_room (Nat.le_of_ble_eq_true rfl)) dX3_endOf_69 ⟨Nat.le_of_ble_eq_true rfl, Nat.le_of_ble_eq_true rfl⟩) hS (fun q _ h => hFc q h) hFc (fun r9 u9 t H1 locs ht hvm hw hB hz1 hk1 hS => ?_)
          obtain ⟨hP1, hK1, hD1⟩ := hB
          rw [ht] at hP1
          obtain ⟨hw1, hw2⟩ := hw
          rw [hw2] at hP1 hD1
          rw [hw1]
          rw [F_s_firstOf_2] at hP1 hD1
          have hD2 := hD1.weaken (B := A) (fun _ q _ h => hFc q.1 h)
          have hP := hP1
          have hD := hD2
          generalize H1 = H at hP hS ⊢
          refine lv_iload_n hx hb dX3_endOf_72 rfl (lv_at hl 2 rfl) ?_
          refine lv_aload_n hx hb dX3_endOf_73 rfl (lv_at hl 0 rfl) ?_
          refine va_get (D := (dC, dI)) (ci := 3) (v := .ref (ad (1))) (C := RX3) (T := TX3) (N := 10) hx hb hts hinX3 hown hK hP (64) (kg64 (by omega)) rfl 0 (by decide) (hts (.fieldLink RX3 9 "LikeWords$Machine" "scale" "LLikeWords$Scale;") (by decide +kernel)) (fun _ h9 => h9) rfl dX3_endOf_74 ?_
          refine lv_iload_n hx hb dX3_endOf_77 rfl (lv_at hl 3 rfl) ?_
          have hFc : ∀ q, va_A (kWd cI cJ cZ cR wl ad M (x)) H.size q → A q := fun q hq => Or.elim hq (fun ⟨k, e, hk⟩ => hD.2 k (q, e) hk) (fun hk => hA q (Nat.le_trans hS.1 hk))
          refine va_calli (va_runV (b := ad (1)) (As := [.int (iI (k))]) (rest := [.int (iI (v)), .int (iI ((F_s_firstOf (x) (k)).1)), .int (iI ((x).1 (64) 7)), .ref (ad (65))]) ⟨hx, hb, hml, hown, hts⟩ (c_s_powerOf l dC dI ad cI cJ cZ cR M wl H.size (x)  (k) hM sc (by unfold iR; omega)) (cwV 1 hts gX3_endOf_X8_powerOf rfl rfl rfl (by decide +kernel) ⟨Nat.le_of_ble_eq_true rfl, Nat.le_of_ble_eq_true rfl⟩) ⟨fun a U g mk q => by obtain ⟨q0, q1, qP, qK, qD, qN⟩ := q; exact ⟨q0, q1, qP, va_K.moved (u := U) (U := U.calling g mk a) (Vm.Alike.refl U.vm) qK, qD, kNw.same (u := U) (U := U.calling g mk a) rfl qN⟩, va_recv hK hP (ci := 8) (q0 := 1) rfl (kg1 (by omega)), fun U hU hW => ⟨rfl, by rw [hU], by rw [hU]; exact hP, va_K.moved hW.alike hK, hD.weaken (fun _ _ _ _ => trivial), kNw.warm hW hNw⟩⟩ rfl rfl hl.1 rfl (lv_room (Nat.le_of_ble_eq_true rfl)) dX3_endOf_78 ⟨Nat.le_of_ble_eq_true rfl, Nat.le_of_ble_eq_true rfl⟩) hS (fun q _ h => hFc q h) hFc (fun r9 u9 t H1 locs ht hvm hw hB hz1 hk1 hS => ?_)
          obtain ⟨hP1, hK1, hD1⟩ := hB
          rw [ht] at hP1
          obtain ⟨hw1, hw2⟩ := hw
          rw [hw2] at hP1 hD1
          rw [hw1]
          rw [F_s_powerOf_2] at hP1 hD1
          have hD2 := hD1.weaken (B := A) (fun _ q _ h => hFc q.1 h)
          have hP := hP1
          have hD := hD2
          generalize H1 = H at hP hS ⊢
          refine wi_irem hx hb (by first | assumption | (unfold iR; omega) | exact kR01 (by assumption)) (by first | assumption | (unfold iR; omega) | exact kR01 (by assumption)) (by omega) (by omega) dX3_endOf_81 ?_
          refine wi_iadd hx hb dX3_endOf_82 ?_
          have hFc : ∀ q, va_A (kWd cI cJ cZ cR wl ad M (x)) H.size q → A q := fun q hq => Or.elim hq (fun ⟨k, e, hk⟩ => hD.2 k (q, e) hk) (fun hk => hA q (Nat.le_trans hS.1 hk))
          refine va_calli (va_runSN (As := [.ref (ad (65)), .int (iI ((x).1 (64) 7)), .int (iI (((F_s_firstOf (x) (k)).1) + ((v) % ((F_s_powerOf (x) (k)).1))))]) (rest := []) ⟨hx, hb, hml, hown, hts⟩ (c_t_placeOf l dC dI ad cI cJ cZ cR M wl H.size (x) (65) ((x).1 (64) 7) (((F_s_firstOf (x) (k)).1) + ((v) % ((F_s_powerOf (x) (k)).1))) hM kC65 (by omega) ma1.1 (by omega) (by unfold iR; omega) (fun j => by have := ma2 j; unfold iR; omega) (by decide)) ⟨va_cnB 3 hts gX3_endOf_X11_placeOf_n69 rfl rfl rfl hNw.2.1 (hts (.initialized RX11) (by decide +kernel)) (by decide +kernel) ⟨Nat.le_of_ble_eq_true rfl, Nat.le_of_ble_eq_true rfl⟩, hts (.static yX11_placeOf) (by decide +kernel), trivial⟩ ⟨fun a U g mk q => by obtain ⟨q0, q1, qP, qK, qD, qN⟩ := q; exact ⟨q0, q1, qP, va_K.moved (u := U) (U := U.calling g mk a) (Vm.Alike.refl U.vm) qK, qD, kNw.same (u := U) (U := U.calling g mk a) rfl qN⟩, fun U hU hW => ⟨rfl, by rw [hU], by rw [hU]; exact hP, va_K.moved hW.alike hK, hD.weaken (fun _ _ _ _ => trivial), kNw.warm hW hNw⟩⟩ rfl rfl hl.1 rfl (lv_room (Nat.le_of_ble_eq_true rfl)) dX3_endOf_83 ⟨Nat.le_of_ble_eq_true rfl, Nat.le_of_ble_eq_true rfl⟩) hS (fun q _ h => hFc q h) hFc (fun r9 u9 t H1 locs ht hvm hw hB hz1 hk1 hS => ?_)
          obtain ⟨hP1, hK1, hD1⟩ := hB
          rw [ht] at hP1
          obtain ⟨hw1, hw2⟩ := hw
          rw [hw2] at hP1 hD1
          rw [hw1]
          rw [F_t_placeOf_2] at hP1 hD1
          have hD2 := hD1.weaken (B := A) (fun _ q _ h => hFc q.1 h)
          have hP := hP1
          have hD := hD2
          generalize H1 = H at hP hS ⊢
          refine lv_istore (lv' := [(4, .int (iI ((F_t_placeOf (x) (65) ((x).1 (64) 7) (((F_s_firstOf (x) (k)).1) + ((v) % ((F_s_powerOf (x) (k)).1)))).1))), (0, .ref (ad (64))), (1, .int (iI (g))), (2, .int (iI (v))), (3, .int (iI (k)))]) hx hb dX3_endOf_86 hl (by decide) rfl (fun ls hl => ?_)
          have wb := F_t_placeOf_b (a1 := 65) (v := (F_s_firstOf x k).1 + v % (F_s_powerOf x k).1) ma1.1 x
          refine lv_iload hx hb dX3_endOf_88 (lv_at hl 0 rfl) ?_
          refine wi_if_lt (tgt := 96) hx hb (by first | assumption | (unfold iR; omega) | exact kR01 (by assumption)) dX3_endOf_90 (by decide) (fun c_90 => ?_) (fun c_90 => ?_)
          · skip
            rw [if_pos c_90] at hres
            refine lv_iinc (v := iI ((k) + (-1 : Int))) (lv' := [(3, .int (iI ((k) + (-1 : Int)))), (4, .int (iI ((F_t_placeOf (x) (65) ((x).1 (64) 7) (((F_s_firstOf (x) (k)).1) + ((v) % ((F_s_powerOf (x) (k)).1)))).1))), (0, .ref (ad (64))), (1, .int (iI (g))), (2, .int (iI (v)))]) hx hb dX3_endOf_96 hl (k := 4) rfl (iI_add _ _) (by decide) rfl (fun ls hl => ?_)
            refine lv_goto (tgt := 52) hx hb dX3_endOf_99 (by decide) ?_
            exact ih.2  ((k) + (-1 : Int)) (by omega) (by omega) (by omega) hres _ _ ls hP hD hS (lv_sub hl [2, 3, 4, 0] rfl)
          · skip
            rw [if_neg c_90] at hres
            refine lv_iload hx hb dX3_endOf_93 (lv_at hl 0 rfl) ?_
            exact W.iret (v := iI ((F_t_placeOf (x) (65) ((x).1 (64) 7) (((F_s_firstOf (x) (k)).1) + ((v) % ((F_s_powerOf (x) (k)).1)))).1)) hx hb hr (fun t ht hW => ⟨⟨iI ((F_t_placeOf (x) (65) ((x).1 (64) 7) (((F_s_firstOf (x) (k)).1) + ((v) % ((F_s_powerOf (x) (k)).1)))).1), x, rfl, ⟨(by have h9 := congrArg (fun z : Int × KS => iI z.1) hres; exact h9), (by have h9 := congrArg (fun z : Int × KS => z.2) hres; exact h9)⟩, by rw [ht]; exact hP, va_K.moved hW.alike hK, hD⟩, hS.F ht⟩) hS.2.2 dX3_endOf_95
  have key : ∀ (H : Heap) (locs : List Loc), va_P (dC, dI) vwCl (kWd cI cJ cZ cR wl ad M (x)) H → va_S A s.heap H locs → W p l e (headSpec wsX3_endOf ({ frames := 3, cells := 0, slots := 0, locals := 67 })).room s m ([.ref (ad 64), .int (iI g), .int (iI v)] : List Value).toArray below meth c H locs 0 0 (MQ below (va_Qi (fun (r : Int32) (u : KS) => r = iI (F_a_endOf x g v).1 ∧ u = (F_a_endOf x g v).2) (kAt dC dI ad cI cJ cZ cR M wl A) A) ([.ref (ad 64), .int (iI g), .int (iI v)] : List Value).toArray s 0 0 A) (F0 m 0 ls []) := by
    intro H locs hP hS
    have hres : F_a_endOf_s 100 0 (x) (g) (v) (g) = F_a_endOf x g v := rfl
    refine lv_iload_n hx hb dX3_endOf_0 rfl (lv_at hl 1 rfl) ?_
    refine lv_istore_n (lv' := [(3, .int (iI (g))), (0, .ref (ad (64))), (1, .int (iI (g))), (2, .int (iI (v)))]) hx hb dX3_endOf_1 rfl hl (by decide) rfl (fun ls hl => ?_)
    exact (L (100)).1  (g) (by omega) (by omega) (by omega) hres _ _ ls hP hD hS (lv_sub hl [1, 2, 3, 0] rfl)
  exact key _ _ hP hS
theorem F_a_endOf_sfr  : ∀ n : Nat, (∀ (y : KS) (v0 : Int) (v1 : Int) (v2 : Int), ksame [] [] y (F_a_endOf_s n 0 y v0 v1 v2).2) ∧ (∀ (y : KS) (v0 : Int) (v1 : Int) (v2 : Int), ksame [] [] y (F_a_endOf_s n 1 y v0 v1 v2).2) := by
  intro n
  induction n with
  | zero => exact ⟨fun y _ _ _ => km_rf _ _ _, fun y _ _ _ => km_rf _ _ _⟩
  | succ n ih =>
    refine ⟨?_, ?_⟩
    · intro y g v k
      rw [F_a_endOf_e0]
      by_cases hc : (k) ≤ (0)
      · rw [if_pos hc]
        exact km_tr ((km_rf _ _ _)) (ih.2 (y) (g) (v) (g))
      · rw [if_neg hc]
        by_cases hc : ((F_u_withLeft (y) (((F_s_firstOf (y) (k)).1) + ((v) % ((F_s_powerOf (y) (k)).1)))).1) < (0)
        · rw [if_pos hc]
          exact km_tr ((km_rf _ _ _)) (ih.1 (y) (g) (v) ((k) + (-1 : Int)))
        · rw [if_neg hc]
          exact (km_rf _ _ _)
    · intro y g v k
      rw [F_a_endOf_e1]
      by_cases hc : (k) ≤ (0)
      · rw [if_pos hc]
        exact (km_rf _ _ _)
      · rw [if_neg hc]
        by_cases hc : ((F_t_placeOf (y) (65) ((y).1 (64) 7) (((F_s_firstOf (y) (k)).1) + ((v) % ((F_s_powerOf (y) (k)).1)))).1) < (0)
        · rw [if_pos hc]
          exact km_tr ((km_rf _ _ _)) (ih.2 (y) (g) (v) ((k) + (-1 : Int)))
        · rw [if_neg hc]
          exact (km_rf _ _ _)
theorem F_a_endOf_fr (x : KS) (g : Int) (v : Int) : ksame [] [] x (F_a_endOf x g v).2 := by
  unfold F_a_endOf
  exact km_tr ((km_rf _ _ _)) ((F_a_endOf_sfr  (100)).1 (x) (g) (v) (g))
theorem F_a_endOf_2 (x : KS) (g : Int) (v : Int) : (F_a_endOf x g v).2 = x := km_nil (F_a_endOf_fr x g v)
theorem F_a_endOf_s_b {x : KS} (ru : ruR x) (ma : maR x) : ∀ n : Nat, (∀ g v k : Int, -41 ≤ (F_a_endOf_s n 0 x g v k).1 ∧ (F_a_endOf_s n 0 x g v k).1 < max (x.1 64 7) 1) ∧ (∀ g v k : Int, -41 ≤ (F_a_endOf_s n 1 x g v k).1 ∧ (F_a_endOf_s n 1 x g v k).1 < max (x.1 64 7) 1) := by
  have m1 := ma.1
  intro n
  induction n with
  | zero => exact ⟨fun g v k => ⟨by show (-41 : Int) ≤ 0; decide, by show (0 : Int) < _; omega⟩, fun g v k => ⟨by show (-41 : Int) ≤ 0; decide, by show (0 : Int) < _; omega⟩⟩
  | succ n ih =>
    refine ⟨fun g v k => ?_, fun g v k => ?_⟩
    · rw [F_a_endOf_e0]
      have wb := F_u_withLeft_b ru ((F_s_firstOf x k).1 + v % (F_s_powerOf x k).1)
      repeat' split
      all_goals first | exact ih.1 _ _ _ | exact ih.2 _ _ _ | (constructor <;> (show _ ; omega))
    · rw [F_a_endOf_e1]
      have wb := F_t_placeOf_b (a1 := 65) (v := (F_s_firstOf x k).1 + v % (F_s_powerOf x k).1) m1.1 x
      repeat' split
      all_goals first | exact ih.2 _ _ _ | (constructor <;> (show _ ; omega))
theorem F_a_endOf_b {x : KS} (ru : ruR x) (ma : maR x) (g v : Int) : -41 ≤ (F_a_endOf x g v).1 ∧ (F_a_endOf x g v).1 < max (x.1 64 7) 1 := (F_a_endOf_s_b ru ma 100).1 g v g
def F_a_goesOn_s  : Nat → Nat → KS → Int → Int → Int × KS
  | 0, _, x, _, _ => (0, x)
  | n + 1, t, x, p0, p1 => match t with
    | 0 => (fun (s0 : Int) (z : Int) => (if ((x).1 (1) 2) ≤ (z) then ((0 : Int), x) else (if ((F_a_step (x) (s0) (z)).1) < (0) then F_a_goesOn_s n 0 (x) (s0) ((z) + (1 : Int)) else (if (iC (((x).2 (kWs ((x).1 (64) 4))) ((F_a_step (x) (s0) (z)).1).toNat) ((0 : Int))) ≤ (0) then F_a_goesOn_s n 0 (x) (s0) ((z) + (1 : Int)) else ((1 : Int), x))))) p0 p1
    | _ => (0, x)
theorem F_a_goesOn_e0  (n : Nat) (x : KS) (s0 : Int) (z : Int) : F_a_goesOn_s (n + 1) 0 x s0 z = (if ((x).1 (1) 2) ≤ (z) then ((0 : Int), x) else (if ((F_a_step (x) (s0) (z)).1) < (0) then F_a_goesOn_s n 0 (x) (s0) ((z) + (1 : Int)) else (if (iC (((x).2 (kWs ((x).1 (64) 4))) ((F_a_step (x) (s0) (z)).1).toNat) ((0 : Int))) ≤ (0) then F_a_goesOn_s n 0 (x) (s0) ((z) + (1 : Int)) else ((1 : Int), x)))) := rfl
def F_a_goesOn (x : KS) (s0 : Int) : Int × KS := F_a_goesOn_s 10 0 (x) (s0) ((0 : Int))
set_option maxHeartbeats 4000000 in
set_option maxRecDepth 100000 in
/-- LikeWords$Machine, goesOn -/
theorem c_a_goesOn (l : Launch) (dC : Nat → ClassId) (dI : Nat → Nat → Nat) (ad : Nat → Nat) (cI cJ cZ cR : ClassId) (M wl sz : Nat) (x : KS) (s0 : Int) (hM : 87 ≤ M) (s1 : -100000 ≤ s0) (s2 : s0 ≤ 100000) (ma : maR x) (l2 : 1 ≤ x.1 1 2 ∧ x.1 1 2 ≤ 4) (rw : ∀ j : Nat, iRL (x.2 (kWs (x.1 64 4)) j)) : Met l yX3_goesOn wsX3_goesOn ({ frames := 1, cells := 0, slots := 0, locals := 23 }) (kPc dC dI ad cI cJ cZ cR M wl sz x [.ref (ad 64), .int (iI s0)]) (va_Qi (fun (r : Int32) (u : KS) => r = iI (F_a_goesOn x s0).1 ∧ u = (F_a_goesOn x s0).2) (kAt dC dI ad cI cJ cZ cR M wl (va_A (kWd cI cJ cZ cR wl ad M (x)) sz)) (va_A (kWd cI cJ cZ cR wl ad M (x)) sz)) 0 0 (va_A (kWd cI cJ cZ cR wl ad M (x)) sz) := by
  refine Met.ofW (cc := cX3_goesOn) (maxL := 4) (ret := (some .boolean)) (by decide) rfl ?_
  intro p e s m args below meth c s₁ B hml hv
  obtain ⟨rfl, hsz, hP, hK, hD0, hNw⟩ := hv
  have hx := B.exec
  have hb := B.bytes
  have hr := B.returns
  have hts := atoms_spec (ws := wsX3_goesOn) B.pre
  have hown : s.vm.findClass RX3 = some m.cls := findClass_of_methodNamed B.named
  have hlocks := B.notSynchronized
  have hinX3 : ∀ w ∈ u_ws RX3 TX3 10, w ∈ wsX3_goesOn := by decide +kernel
  have hinX8 : ∀ w ∈ u_ws RX8 TX8 4, w ∈ wsX3_goesOn := by decide +kernel
  subst hsz
  have hD := hD0.self (sz := s.heap.size)
  generalize hAe : va_A (kWd cI cJ cZ cR wl ad M (x)) s.heap.size = A at hD ⊢
  have hA : ∀ q : Nat, s.heap.size ≤ q → A q := fun q h => by rw [← hAe]; exact Or.inr h
  have hS : va_S A s.heap s.heap [] := va_S.rf
  have hl := lv_entry ([.ref (ad 64), .int (iI s0)]) (n := 4) (Nat.le_of_ble_eq_true rfl)
  rw [lg_entry_eq]
  generalize (lg_sl ([.ref (ad 64), .int (iI s0)]) ++ List.replicate (4 - (lg_sl ([.ref (ad 64), .int (iI s0)])).length) Slot.unset).toArray = ls at hl ⊢
  have hl : lv_has ls 4 [(0, .ref (ad (64))), (1, .int (iI (s0)))] := hl
  have L : ∀ n : Nat, (∀ (z : Int), (0 ≤ z) → (z ≤ 4) → (4 - z < n) → F_a_goesOn_s n 0 x s0 z = F_a_goesOn x s0 → ∀ (H : Heap) (locs : List Loc) (ls : Array Slot), va_P (dC, dI) vwCl (kWd cI cJ cZ cR wl ad M (x)) H → va_D A (kWd cI cJ cZ cR wl ad M (x)) → va_S A s.heap H locs → lv_has ls 4 [(0, .ref (ad (64))), (1, .int (iI (s0))), (2, .int (iI (z)))] → W p l e (headSpec wsX3_goesOn ({ frames := 1, cells := 0, slots := 0, locals := 23 })).room s m ([.ref (ad 64), .int (iI s0)] : List Value).toArray below meth c H locs 0 0 (MQ below (va_Qi (fun (r : Int32) (u : KS) => r = iI (F_a_goesOn x s0).1 ∧ u = (F_a_goesOn x s0).2) (kAt dC dI ad cI cJ cZ cR M wl A) A) ([.ref (ad 64), .int (iI s0)] : List Value).toArray s 0 0 A) (F0 m 2 ls [])) := by
    intro n
    induction n with
    | zero =>
      skip
      · intro z z0 z1 fu hres
        exact absurd fu (by omega)
    | succ n ih =>
      skip
      · intro z z0 z1 fu hres H locs ls hP hD hS hl
        rw [F_a_goesOn_e0] at hres
        have sb := F_a_step_b ma s0 z
        refine lv_iload_n hx hb dX3_goesOn_2 rfl (lv_at hl 2 rfl) ?_
        refine lv_aload_n hx hb dX3_goesOn_3 rfl (lv_at hl 0 rfl) ?_
        refine va_get (D := (dC, dI)) (ci := 3) (v := .ref (ad (1))) (C := RX3) (T := TX3) (N := 10) hx hb hts hinX3 hown hK hP (64) (kg64 (by omega)) rfl 0 (by decide) (hts (.fieldLink RX3 9 "LikeWords$Machine" "scale" "LLikeWords$Scale;") (by decide +kernel)) (fun _ h9 => h9) rfl dX3_goesOn_4 ?_
        refine va_get (D := (dC, dI)) (ci := 8) (v := .int (iI ((x).1 (1) 2))) (C := RX8) (T := TX8) (N := 4) hx hb hts hinX8 hown hK hP (1) (kg1 (by omega)) rfl 2 (by decide) (hts (.fieldLink RX3 40 "LikeWords$Scale" "letterCount" "I") (by decide +kernel)) (fun _ h9 => h9) rfl dX3_goesOn_7 ?_
        refine wi_icmp_ge (tgt := 43) hx hb (by first | assumption | (unfold iR; omega) | exact kR01 (by assumption)) (by first | assumption | (unfold iR; omega) | exact kR01 (by assumption)) dX3_goesOn_10 (by decide) (fun c_10 => ?_) (fun c_10 => ?_)
        · skip
          rw [if_pos c_10] at hres
          refine lv_iconst (v := iI (0 : Int)) hx hb dX3_goesOn_43 (by decide) ?_
          exact W.zret (v := iI ((0 : Int))) hx hb hr (kz _ (by first | assumption | omega)) (fun t ht hW => ⟨⟨iI ((0 : Int)), x, rfl, ⟨(by have h9 := congrArg (fun z : Int × KS => iI z.1) hres; exact h9), (by have h9 := congrArg (fun z : Int × KS => z.2) hres; exact h9)⟩, by rw [ht]; exact hP, va_K.moved hW.alike hK, hD⟩, hS.F ht⟩) hS.2.2 dX3_goesOn_44
        · skip
          rw [if_neg c_10] at hres
          refine lv_aload_n hx hb dX3_goesOn_13 rfl (lv_at hl 0 rfl) ?_
          refine lv_iload_n hx hb dX3_goesOn_14 rfl (lv_at hl 1 rfl) ?_
          refine lv_iload_n hx hb dX3_goesOn_15 rfl (lv_at hl 2 rfl) ?_
          have hFc : ∀ q, va_A (kWd cI cJ cZ cR wl ad M (x)) H.size q → A q := fun q hq => Or.elim hq (fun ⟨k, e, hk⟩ => hD.2 k (q, e) hk) (fun hk => hA q (Nat.le_trans hS.1 hk))
          refine va_calli (va_runV (b := ad (64)) (As := [.int (iI (s0)), .int (iI (z))]) (rest := []) ⟨hx, hb, hml, hown, hts⟩ (c_a_step l dC dI ad cI cJ cZ cR M wl H.size (x)  (s0) (z) hM s1 s2 (by omega) (by omega) ma l2) (cwV 2 hts gX3_goesOn_X3_step rfl rfl rfl (by decide +kernel) ⟨Nat.le_of_ble_eq_true rfl, Nat.le_of_ble_eq_true rfl⟩) ⟨fun a U g mk q => by obtain ⟨q0, q1, qP, qK, qD, qN⟩ := q; exact ⟨q0, q1, qP, va_K.moved (u := U) (U := U.calling g mk a) (Vm.Alike.refl U.vm) qK, qD, kNw.same (u := U) (U := U.calling g mk a) rfl qN⟩, va_recv hK hP (ci := 3) (q0 := 64) rfl (kg64 (by omega)), fun U hU hW => ⟨rfl, by rw [hU], by rw [hU]; exact hP, va_K.moved hW.alike hK, hD.weaken (fun _ _ _ _ => trivial), kNw.warm hW hNw⟩⟩ rfl rfl hl.1 rfl (lv_room (Nat.le_of_ble_eq_true rfl)) dX3_goesOn_16 ⟨Nat.le_of_ble_eq_true rfl, Nat.le_of_ble_eq_true rfl⟩) hS (fun q _ h => hFc q h) hFc (fun r9 u9 t H1 locs ht hvm hw hB hz1 hk1 hS => ?_)
          obtain ⟨hP1, hK1, hD1⟩ := hB
          rw [ht] at hP1
          obtain ⟨hw1, hw2⟩ := hw
          rw [hw2] at hP1 hD1
          rw [hw1]
          rw [F_a_step_2] at hP1 hD1
          have hD2 := hD1.weaken (B := A) (fun _ q _ h => hFc q.1 h)
          have hP := hP1
          have hD := hD2
          generalize H1 = H at hP hS ⊢
          refine lv_istore_n (lv' := [(3, .int (iI ((F_a_step (x) (s0) (z)).1))), (0, .ref (ad (64))), (1, .int (iI (s0))), (2, .int (iI (z)))]) hx hb dX3_goesOn_19 rfl hl (by decide) rfl (fun ls hl => ?_)
          refine lv_iload_n hx hb dX3_goesOn_20 rfl (lv_at hl 0 rfl) ?_
          refine wi_if_lt (tgt := 37) hx hb (by first | assumption | (unfold iR; omega) | exact kR01 (by assumption)) dX3_goesOn_21 (by decide) (fun c_21 => ?_) (fun c_21 => ?_)
          · skip
            rw [if_pos c_21] at hres
            refine lv_iinc (v := iI ((z) + (1 : Int))) (lv' := [(2, .int (iI ((z) + (1 : Int)))), (3, .int (iI ((F_a_step (x) (s0) (z)).1))), (0, .ref (ad (64))), (1, .int (iI (s0)))]) hx hb dX3_goesOn_37 hl (k := 3) rfl (iI_add _ _) (by decide) rfl (fun ls hl => ?_)
            refine lv_goto (tgt := 2) hx hb dX3_goesOn_40 (by decide) ?_
            exact ih  ((z) + (1 : Int)) (by omega) (by omega) (by omega) hres _ _ ls hP hD hS (lv_sub hl [2, 3, 0] rfl)
          · skip
            rw [if_neg c_21] at hres
            refine lv_aload_n hx hb dX3_goesOn_24 rfl (lv_at hl 1 rfl) ?_
            refine va_get (D := (dC, dI)) (ci := 3) (v := .ref (ad (kWs ((x).1 (64) 4)))) (C := RX3) (T := TX3) (N := 10) hx hb hts hinX3 hown hK hP (64) (kg64 (by omega)) rfl 4 (by decide) (hts (.fieldLink RX3 26 "LikeWords$Machine" "ways" "[J") (by decide +kernel)) (fun _ h9 => h9) rfl dX3_goesOn_25 ?_
            refine lv_iload_n hx hb dX3_goesOn_28 rfl (lv_at hl 0 rfl) ?_
            refine wi_lald (f := (x).2 (kWs ((x).1 (64) 4))) (n := kLen (kWs ((x).1 (64) 4))) hx hb hK hP (kWs ((x).1 (64) 4)) 1 (kgj (kJ_ws _) (kWs_lt hM) rfl) rfl (i := (F_a_step (x) (s0) (z)).1) (by omega) (by rw [kLen_ws]; exact (by omega)) (kLen_lt _) dX3_goesOn_29 ?_
            refine lv_lconst (v := iL 0) hx hb dX3_goesOn_30 (by decide) ?_
            refine wi_lcmp hx hb (rw _) ⟨by decide, by decide⟩ dX3_goesOn_31 ?_
            refine wi_if_le (tgt := 37) hx hb iC_R dX3_goesOn_32 (by decide) (fun c_32 => ?_) (fun c_32 => ?_)
            · skip
              rw [if_pos c_32] at hres
              refine lv_iinc (v := iI ((z) + (1 : Int))) (lv' := [(2, .int (iI ((z) + (1 : Int)))), (3, .int (iI ((F_a_step (x) (s0) (z)).1))), (0, .ref (ad (64))), (1, .int (iI (s0)))]) hx hb dX3_goesOn_37 hl (k := 3) rfl (iI_add _ _) (by decide) rfl (fun ls hl => ?_)
              refine lv_goto (tgt := 2) hx hb dX3_goesOn_40 (by decide) ?_
              exact ih  ((z) + (1 : Int)) (by omega) (by omega) (by omega) hres _ _ ls hP hD hS (lv_sub hl [2, 3, 0] rfl)
            · skip
              rw [if_neg c_32] at hres
              refine lv_iconst (v := iI (1 : Int)) hx hb dX3_goesOn_35 (by decide) ?_
              exact W.zret (v := iI ((1 : Int))) hx hb hr (kz _ (by first | assumption | omega)) (fun t ht hW => ⟨⟨iI ((1 : Int)), x, rfl, ⟨(by have h9 := congrArg (fun z : Int × KS => iI z.1) hres; exact h9), (by have h9 := congrArg (fun z : Int × KS => z.2) hres; exact h9)⟩, by rw [ht]; exact hP, va_K.moved hW.alike hK, hD⟩, hS.F ht⟩) hS.2.2 dX3_goesOn_36
  have key : ∀ (H : Heap) (locs : List Loc), va_P (dC, dI) vwCl (kWd cI cJ cZ cR wl ad M (x)) H → va_S A s.heap H locs → W p l e (headSpec wsX3_goesOn ({ frames := 1, cells := 0, slots := 0, locals := 23 })).room s m ([.ref (ad 64), .int (iI s0)] : List Value).toArray below meth c H locs 0 0 (MQ below (va_Qi (fun (r : Int32) (u : KS) => r = iI (F_a_goesOn x s0).1 ∧ u = (F_a_goesOn x s0).2) (kAt dC dI ad cI cJ cZ cR M wl A) A) ([.ref (ad 64), .int (iI s0)] : List Value).toArray s 0 0 A) (F0 m 0 ls []) := by
    intro H locs hP hS
    have hres : F_a_goesOn_s 10 0 (x) (s0) ((0 : Int)) = F_a_goesOn x s0 := rfl
    refine lv_iconst (v := iI (0 : Int)) hx hb dX3_goesOn_0 (by decide) ?_
    refine lv_istore_n (lv' := [(2, .int (iI ((0 : Int)))), (0, .ref (ad (64))), (1, .int (iI (s0)))]) hx hb dX3_goesOn_1 rfl hl (by decide) rfl (fun ls hl => ?_)
    exact (L (10))  ((0 : Int)) (by omega) (by omega) (by omega) hres _ _ ls hP hD hS (lv_sub hl [1, 2, 0] rfl)
  exact key _ _ hP hS
theorem F_a_goesOn_sfr  : ∀ n : Nat, (∀ (y : KS) (v0 : Int) (v1 : Int), ksame [] [] y (F_a_goesOn_s n 0 y v0 v1).2) := by
  intro n
  induction n with
  | zero => exact fun y _ _ => km_rf _ _ _
  | succ n ih =>
    skip
    · intro y s0 z
      rw [F_a_goesOn_e0]
      by_cases hc : ((y).1 (1) 2) ≤ (z)
      · rw [if_pos hc]
        exact (km_rf _ _ _)
      · rw [if_neg hc]
        by_cases hc : ((F_a_step (y) (s0) (z)).1) < (0)
        · rw [if_pos hc]
          exact km_tr ((km_rf _ _ _)) (ih (y) (s0) ((z) + (1 : Int)))
        · rw [if_neg hc]
          by_cases hc : (iC (((y).2 (kWs ((y).1 (64) 4))) ((F_a_step (y) (s0) (z)).1).toNat) ((0 : Int))) ≤ (0)
          · rw [if_pos hc]
            exact km_tr ((km_rf _ _ _)) (ih (y) (s0) ((z) + (1 : Int)))
          · rw [if_neg hc]
            exact (km_rf _ _ _)
theorem F_a_goesOn_fr (x : KS) (s0 : Int) : ksame [] [] x (F_a_goesOn x s0).2 := by
  unfold F_a_goesOn
  exact km_tr ((km_rf _ _ _)) ((F_a_goesOn_sfr  (10)) (x) (s0) ((0 : Int)))
theorem F_a_goesOn_2 (x : KS) (s0 : Int) : (F_a_goesOn x s0).2 = x := km_nil (F_a_goesOn_fr x s0)
theorem F_a_goesOn_s_01 : ∀ (n : Nat) (x : KS) (s z : Int), (F_a_goesOn_s n 0 x s z).1 = 0 ∨ (F_a_goesOn_s n 0 x s z).1 = 1 := by
  intro n
  induction n with
  | zero => intro x s z; exact Or.inl rfl
  | succ n ih =>
    intro x s z
    rw [F_a_goesOn_e0]
    repeat' split
    all_goals first | exact Or.inl rfl | exact Or.inr rfl | exact ih _ _ _
theorem F_a_goesOn_01 (x : KS) (s : Int) : (F_a_goesOn x s).1 = 0 ∨ (F_a_goesOn x s).1 = 1 := F_a_goesOn_s_01 _ _ _ _
/-- but for ways and spare all is as it was -/
theorem ks67 {x y : KS} (sm : ksame [] [67, 68] x y) : y.1 = x.1 ∧ ∀ q, q ≠ 67 → q ≠ 68 → y.2 q = x.2 q := ⟨funext fun c => funext fun k => sm.1 c k List.not_mem_nil, fun q h1 h2 => sm.2 q (fun h => by rcases List.mem_cons.mp h with e | e; exact h1 e; rcases List.mem_cons.mp e with e | e; exact h2 e; exact List.not_mem_nil e)⟩
theorem maR_of {S : List (Nat × Nat)} {A : List Nat} {x y : KS} (h : ksame S A x y) (h1 : (64, 7) ∉ S) (h2 : 65 ∉ A) (h3 : 66 ∉ A) (ma : maR x) : maR y := by
  unfold maR
  rw [h.1 64 7 h1, h.2 65 h2, h.2 66 h3]
  exact ma
theorem l2_of {S : List (Nat × Nat)} {A : List Nat} {x y : KS} (h : ksame S A x y) (h1 : (1, 2) ∉ S) (l2 : 1 ≤ x.1 1 2 ∧ x.1 1 2 ≤ 4) : 1 ≤ y.1 1 2 ∧ y.1 1 2 ≤ 4 := by rw [h.1 1 2 h1]; exact l2
theorem rw_up {y : KS} {i : Nat} {v : Int} (hv : iRL v) (h : ∀ j : Nat, iRL (y.2 (kWs (y.1 64 4)) j)) : ∀ j : Nat, iRL ((kA y (kWs (y.1 64 4)) i v).2 (kWs ((kA y (kWs (y.1 64 4)) i v).1 64 4)) j) := by
  show ∀ j : Nat, iRL ((kA y (kWs (y.1 64 4)) i v).2 (kWs (y.1 64 4)) j)
  rw [kA_s]
  exact iU_all hv h
def F_a_isEndless_s  : Nat → Nat → KS → Int → Int → Int → Int × KS
  | 0, _, x, _, _, _ => (0, x)
  | n + 1, t, x, p0, p1, p2 => match t with
    | 0 => (fun (i : Int) => (if ((x).1 (64) 7) ≤ (i) then F_a_isEndless_s n 1 (x) ((1 : Int)) ((0 : Int)) (0) else F_a_isEndless_s n 0 (kA (x) (kWs ((x).1 (64) 4)) (i).toNat ((1 : Int))) ((i) + (1 : Int)) (0) (0))) p0
    | 1 => (fun (b : Int) (d : Int) => (if ((x).1 (64) 7) < (d) then (if (iC (((x).2 (kWs ((x).1 (64) 4))) ((0 : Int)).toNat) ((0 : Int))) ≤ (0) then ((0 : Int), x) else ((1 : Int), x)) else (if (b) = (0) then (if (iC (((x).2 (kWs ((x).1 (64) 4))) ((0 : Int)).toNat) ((0 : Int))) ≤ (0) then ((0 : Int), x) else ((1 : Int), x)) else F_a_isEndless_s n 2 (x) ((0 : Int)) (d) ((0 : Int))))) p0 p1
    | 2 => (fun (b : Int) (d : Int) (i : Int) => (if ((x).1 (64) 7) ≤ (i) then F_a_isEndless_s n 1 (x) (b) ((d) + (1 : Int)) (0) else (if (iC (((x).2 (kWs ((x).1 (64) 4))) (i).toNat) ((0 : Int))) ≤ (0) then F_a_isEndless_s n 2 (x) (b) (d) ((i) + (1 : Int)) else (if ((F_a_goesOn (x) (i)).1) = (0) then F_a_isEndless_s n 2 (kA (x) (kWs ((x).1 (64) 4)) (i).toNat ((0 : Int))) ((1 : Int)) (d) ((i) + (1 : Int)) else F_a_isEndless_s n 2 (x) (b) (d) ((i) + (1 : Int)))))) p0 p1 p2
    | _ => (0, x)
theorem F_a_isEndless_e0  (n : Nat) (x : KS) (i : Int) (q0 : Int) (q1 : Int) : F_a_isEndless_s (n + 1) 0 x i q0 q1 = (if ((x).1 (64) 7) ≤ (i) then F_a_isEndless_s n 1 (x) ((1 : Int)) ((0 : Int)) (0) else F_a_isEndless_s n 0 (kA (x) (kWs ((x).1 (64) 4)) (i).toNat ((1 : Int))) ((i) + (1 : Int)) (0) (0)) := rfl
theorem F_a_isEndless_e1  (n : Nat) (x : KS) (b : Int) (d : Int) (q0 : Int) : F_a_isEndless_s (n + 1) 1 x b d q0 = (if ((x).1 (64) 7) < (d) then (if (iC (((x).2 (kWs ((x).1 (64) 4))) ((0 : Int)).toNat) ((0 : Int))) ≤ (0) then ((0 : Int), x) else ((1 : Int), x)) else (if (b) = (0) then (if (iC (((x).2 (kWs ((x).1 (64) 4))) ((0 : Int)).toNat) ((0 : Int))) ≤ (0) then ((0 : Int), x) else ((1 : Int), x)) else F_a_isEndless_s n 2 (x) ((0 : Int)) (d) ((0 : Int)))) := rfl
theorem F_a_isEndless_e2  (n : Nat) (x : KS) (b : Int) (d : Int) (i : Int) : F_a_isEndless_s (n + 1) 2 x b d i = (if ((x).1 (64) 7) ≤ (i) then F_a_isEndless_s n 1 (x) (b) ((d) + (1 : Int)) (0) else (if (iC (((x).2 (kWs ((x).1 (64) 4))) (i).toNat) ((0 : Int))) ≤ (0) then F_a_isEndless_s n 2 (x) (b) (d) ((i) + (1 : Int)) else (if ((F_a_goesOn (x) (i)).1) = (0) then F_a_isEndless_s n 2 (kA (x) (kWs ((x).1 (64) 4)) (i).toNat ((0 : Int))) ((1 : Int)) (d) ((i) + (1 : Int)) else F_a_isEndless_s n 2 (x) (b) (d) ((i) + (1 : Int))))) := rfl
def F_a_isEndless (x : KS)  : Int × KS := F_a_isEndless_s 201000 0 (x) ((0 : Int)) (0) (0)
set_option maxHeartbeats 4000000 in
set_option maxRecDepth 100000 in
/-- LikeWords$Machine, isEndless -/
theorem c_a_isEndless (l : Launch) (dC : Nat → ClassId) (dI : Nat → Nat → Nat) (ad : Nat → Nat) (cI cJ cZ cR : ClassId) (M wl sz : Nat) (x : KS)  (hM : 87 ≤ M) (ma : maR x) (l2 : 1 ≤ x.1 1 2 ∧ x.1 1 2 ≤ 4) (rw : ∀ j : Nat, iRL (x.2 (kWs (x.1 64 4)) j)) : Met l yX3_isEndless wsX3_isEndless ({ frames := 2, cells := 0, slots := 0, locals := 46 }) (kPc dC dI ad cI cJ cZ cR M wl sz x [.ref (ad 64)]) (va_Qi (fun (r : Int32) (u : KS) => r = iI (F_a_isEndless x).1 ∧ u = (F_a_isEndless x).2) (kAt dC dI ad cI cJ cZ cR M wl (va_A (kWd cI cJ cZ cR wl ad M (x)) sz)) (va_A (kWd cI cJ cZ cR wl ad M (x)) sz)) 0 0 (va_A (kWd cI cJ cZ cR wl ad M (x)) sz) := by
  refine Met.ofW (cc := cX3_isEndless) (maxL := 4) (ret := (some .boolean)) (by decide) rfl ?_
  intro p e s m args below meth c s₁ B hml hv
  obtain ⟨rfl, hsz, hP, hK, hD0, hNw⟩ := hv
  have hx := B.exec
  have hb := B.bytes
  have hr := B.returns
  have hts := atoms_spec (ws := wsX3_isEndless) B.pre
  have hown : s.vm.findClass RX3 = some m.cls := findClass_of_methodNamed B.named
  have hlocks := B.notSynchronized
  have hinX3 : ∀ w ∈ u_ws RX3 TX3 10, w ∈ wsX3_isEndless := by decide +kernel
  subst hsz
  have hD := hD0.self (sz := s.heap.size)
  generalize hAe : va_A (kWd cI cJ cZ cR wl ad M (x)) s.heap.size = A at hD ⊢
  have hA : ∀ q : Nat, s.heap.size ≤ q → A q := fun q h => by rw [← hAe]; exact Or.inr h
  have hS : va_S A s.heap s.heap [] := va_S.rf
  have hl := lv_entry ([.ref (ad 64)]) (n := 4) (Nat.le_of_ble_eq_true rfl)
  rw [lg_entry_eq]
  generalize (lg_sl ([.ref (ad 64)]) ++ List.replicate (4 - (lg_sl ([.ref (ad 64)])).length) Slot.unset).toArray = ls at hl ⊢
  have hl : lv_has ls 4 [(0, .ref (ad (64)))] := hl
  have ma1 := ma.1
  have L : ∀ n : Nat, (∀ (y : KS) (i : Int), (ksame [] [67, 68] x y) → (∀ j : Nat, iRL (y.2 (kWs (y.1 64 4)) j)) → (0 ≤ i) → (i ≤ 320) → (200000 + 320 - i < n) → F_a_isEndless_s n 0 y i 0 0 = F_a_isEndless x → ∀ (H : Heap) (locs : List Loc) (ls : Array Slot), va_P (dC, dI) vwCl (kWd cI cJ cZ cR wl ad M (y)) H → va_D A (kWd cI cJ cZ cR wl ad M (y)) → va_S A s.heap H locs → lv_has ls 4 [(0, .ref (ad (64))), (1, .int (iI (i)))] → W p l e (headSpec wsX3_isEndless ({ frames := 2, cells := 0, slots := 0, locals := 46 })).room s m ([.ref (ad 64)] : List Value).toArray below meth c H locs 0 0 (MQ below (va_Qi (fun (r : Int32) (u : KS) => r = iI (F_a_isEndless x).1 ∧ u = (F_a_isEndless x).2) (kAt dC dI ad cI cJ cZ cR M wl A) A) ([.ref (ad 64)] : List Value).toArray s 0 0 A) (F0 m 2 ls [])) ∧ (∀ (y : KS) (b : Int) (d : Int), (ksame [] [67, 68] x y) → (∀ j : Nat, iRL (y.2 (kWs (y.1 64 4)) j)) → (b = 0 ∨ b = 1) → (0 ≤ d) → (d ≤ 321) → ((321 - d) * 400 + 390 < n) → F_a_isEndless_s n 1 y b d 0 = F_a_isEndless x → ∀ (H : Heap) (locs : List Loc) (ls : Array Slot), va_P (dC, dI) vwCl (kWd cI cJ cZ cR wl ad M (y)) H → va_D A (kWd cI cJ cZ cR wl ad M (y)) → va_S A s.heap H locs → lv_has ls 4 [(0, .ref (ad (64))), (1, .int (iI (b))), (2, .int (iI (d)))] → W p l e (headSpec wsX3_isEndless ({ frames := 2, cells := 0, slots := 0, locals := 46 })).room s m ([.ref (ad 64)] : List Value).toArray below meth c H locs 0 0 (MQ below (va_Qi (fun (r : Int32) (u : KS) => r = iI (F_a_isEndless x).1 ∧ u = (F_a_isEndless x).2) (kAt dC dI ad cI cJ cZ cR M wl A) A) ([.ref (ad 64)] : List Value).toArray s 0 0 A) (F0 m 27 ls [])) ∧ (∀ (y : KS) (b : Int) (d : Int) (i : Int), (ksame [] [67, 68] x y) → (∀ j : Nat, iRL (y.2 (kWs (y.1 64 4)) j)) → (b = 0 ∨ b = 1) → (0 ≤ d) → (d ≤ 320) → (0 ≤ i) → (i ≤ 320) → ((321 - d) * 400 + 321 - i < n) → F_a_isEndless_s n 2 y b d i = F_a_isEndless x → ∀ (H : Heap) (locs : List Loc) (ls : Array Slot), va_P (dC, dI) vwCl (kWd cI cJ cZ cR wl ad M (y)) H → va_D A (kWd cI cJ cZ cR wl ad M (y)) → va_S A s.heap H locs → lv_has ls 4 [(0, .ref (ad (64))), (1, .int (iI (b))), (2, .int (iI (d))), (3, .int (iI (i)))] → W p l e (headSpec wsX3_isEndless ({ frames := 2, cells := 0, slots := 0, locals := 46 })).room s m ([.ref (ad 64)] : List Value).toArray below meth c H locs 0 0 (MQ below (va_Qi (fun (r : Int32) (u : KS) => r = iI (F_a_isEndless x).1 ∧ u = (F_a_isEndless x).2) (kAt dC dI ad cI cJ cZ cR M wl A) A) ([.ref (ad 64)] : List Value).toArray s 0 0 A) (F0 m 43 ls [])) := by
    intro n
    induction n with
    | zero =>
      refine ⟨?_, ?_, ?_⟩
      · intro y i sm rwy i0 i1 fu hres
        exact absurd fu (by omega)
      · intro y b d sm rwy b01 d0 d1 fu hres
        exact absurd fu (by omega)
      · intro y b d i sm rwy b01 d0 d1 i0 i1 fu hres
        exact absurd fu (by omega)
    | succ n ih =>
      refine ⟨?_, ?_, ?_⟩
      · intro y i sm rwy i0 i1 fu hres H locs ls hP hD hS hl
        rw [F_a_isEndless_e0] at hres
        have may := maR_of sm (by decide) (by decide) (by decide) ma
        have l2y := l2_of sm (by decide) l2
        have may1 := may.1
        refine lv_iload_n hx hb dX3_isEndless_2 rfl (lv_at hl 1 rfl) ?_
        refine lv_aload_n hx hb dX3_isEndless_3 rfl (lv_at hl 0 rfl) ?_
        refine va_get (D := (dC, dI)) (ci := 3) (v := .int (iI ((y).1 (64) 7))) (C := RX3) (T := TX3) (N := 10) hx hb hts hinX3 hown hK hP (64) (kg64 (by omega)) rfl 7 (by decide) (hts (.fieldLink RX3 36 "LikeWords$Machine" "held" "I") (by decide +kernel)) (fun _ h9 => h9) rfl dX3_isEndless_4 ?_
        refine wi_icmp_ge (tgt := 23) hx hb (by first | assumption | (unfold iR; omega) | exact kR01 (by assumption)) (by first | assumption | (unfold iR; omega) | exact kR01 (by assumption)) dX3_isEndless_7 (by decide) (fun c_7 => ?_) (fun c_7 => ?_)
        · skip
          rw [if_pos c_7] at hres
          refine lv_iconst (v := iI (1 : Int)) hx hb dX3_isEndless_23 (by decide) ?_
          refine lv_istore_n (lv' := [(1, .int (iI ((1 : Int)))), (0, .ref (ad (64)))]) hx hb dX3_isEndless_24 rfl hl (by decide) rfl (fun ls hl => ?_)
          refine lv_iconst (v := iI (0 : Int)) hx hb dX3_isEndless_25 (by decide) ?_
          refine lv_istore_n (lv' := [(2, .int (iI ((0 : Int)))), (1, .int (iI ((1 : Int)))), (0, .ref (ad (64)))]) hx hb dX3_isEndless_26 rfl hl (by decide) rfl (fun ls hl => ?_)
          exact ih.2.1 (y) ((1 : Int)) ((0 : Int)) (sm) (rwy) (by first | assumption | omega) (by omega) (by omega) (by omega) hres _ _ ls hP hD hS (lv_sub hl [2, 1, 0] rfl)
        · skip
          rw [if_neg c_7] at hres
          refine lv_aload_n hx hb dX3_isEndless_10 rfl (lv_at hl 0 rfl) ?_
          refine va_get (D := (dC, dI)) (ci := 3) (v := .ref (ad (kWs ((y).1 (64) 4)))) (C := RX3) (T := TX3) (N := 10) hx hb hts hinX3 hown hK hP (64) (kg64 (by omega)) rfl 4 (by decide) (hts (.fieldLink RX3 26 "LikeWords$Machine" "ways" "[J") (by decide +kernel)) (fun _ h9 => h9) rfl dX3_isEndless_11 ?_
          refine lv_iload_n hx hb dX3_isEndless_14 rfl (lv_at hl 1 rfl) ?_
          refine lv_lconst (v := iL 1) hx hb dX3_isEndless_15 (by decide) ?_
          refine wi_last (f := (y).2 (kWs ((y).1 (64) 4))) (n := kLen (kWs ((y).1 (64) 4))) hx hb hK hP hD hS (kWs ((y).1 (64) 4)) 1 (kgj (kJ_ws _) (kWs_lt hM) rfl) rfl (i := i) (x := (1 : Int)) (by omega) (by rw [kLen_ws]; exact (by omega)) (kLen_lt _) dX3_isEndless_16 (fun H locs hP hD hS => ?_)
          rw [ksj (kJ_ws _)] at hP hD
          refine lv_iinc (v := iI ((i) + (1 : Int))) (lv' := [(1, .int (iI ((i) + (1 : Int)))), (0, .ref (ad (64)))]) hx hb dX3_isEndless_17 hl (k := 1) rfl (iI_add _ _) (by decide) rfl (fun ls hl => ?_)
          refine lv_goto (tgt := 2) hx hb dX3_isEndless_20 (by decide) ?_
          exact ih.1 (kA (y) (kWs ((y).1 (64) 4)) (i).toNat ((1 : Int))) ((i) + (1 : Int)) ((km_tr sm (km_a (kWs_in (List.Mem.head _) (List.Mem.tail _ (List.Mem.head _))) (km_rf _ _ _)))) ((rw_up ⟨by decide, by decide⟩ rwy)) (by omega) (by omega) (by omega) hres _ _ ls hP hD hS (lv_sub hl [1, 0] rfl)
      · intro y b d sm rwy b01 d0 d1 fu hres H locs ls hP hD hS hl
        rw [F_a_isEndless_e1] at hres
        have may := maR_of sm (by decide) (by decide) (by decide) ma
        have l2y := l2_of sm (by decide) l2
        have may1 := may.1
        refine lv_iload_n hx hb dX3_isEndless_27 rfl (lv_at hl 2 rfl) ?_
        refine lv_aload_n hx hb dX3_isEndless_28 rfl (lv_at hl 0 rfl) ?_
        refine va_get (D := (dC, dI)) (ci := 3) (v := .int (iI ((y).1 (64) 7))) (C := RX3) (T := TX3) (N := 10) hx hb hts hinX3 hown hK hP (64) (kg64 (by omega)) rfl 7 (by decide) (hts (.fieldLink RX3 36 "LikeWords$Machine" "held" "I") (by decide +kernel)) (fun _ h9 => h9) rfl dX3_isEndless_29 ?_
        refine wi_icmp_gt (tgt := 91) hx hb (by first | assumption | (unfold iR; omega) | exact kR01 (by assumption)) (by first | assumption | (unfold iR; omega) | exact kR01 (by assumption)) dX3_isEndless_32 (by decide) (fun c_32 => ?_) (fun c_32 => ?_)
        · skip
          rw [if_pos c_32] at hres
          refine lv_aload_n hx hb dX3_isEndless_91 rfl (lv_at hl 0 rfl) ?_
          refine va_get (D := (dC, dI)) (ci := 3) (v := .ref (ad (kWs ((y).1 (64) 4)))) (C := RX3) (T := TX3) (N := 10) hx hb hts hinX3 hown hK hP (64) (kg64 (by omega)) rfl 4 (by decide) (hts (.fieldLink RX3 26 "LikeWords$Machine" "ways" "[J") (by decide +kernel)) (fun _ h9 => h9) rfl dX3_isEndless_92 ?_
          refine lv_iconst (v := iI (0 : Int)) hx hb dX3_isEndless_95 (by decide) ?_
          refine wi_lald (f := (y).2 (kWs ((y).1 (64) 4))) (n := kLen (kWs ((y).1 (64) 4))) hx hb hK hP (kWs ((y).1 (64) 4)) 1 (kgj (kJ_ws _) (kWs_lt hM) rfl) rfl (i := (0 : Int)) (by omega) (by rw [kLen_ws]; exact (by omega)) (kLen_lt _) dX3_isEndless_96 ?_
          refine lv_lconst (v := iL 0) hx hb dX3_isEndless_97 (by decide) ?_
          refine wi_lcmp hx hb (rwy _) ⟨by decide, by decide⟩ dX3_isEndless_98 ?_
          refine wi_if_le (tgt := 106) hx hb iC_R dX3_isEndless_99 (by decide) (fun c_99 => ?_) (fun c_99 => ?_)
          · skip
            rw [if_pos c_99] at hres
            refine lv_iconst (v := iI (0 : Int)) hx hb dX3_isEndless_106 (by decide) ?_
            exact W.zret (v := iI ((0 : Int))) hx hb hr (kz _ (by first | assumption | omega)) (fun t ht hW => ⟨⟨iI ((0 : Int)), y, rfl, ⟨(by have h9 := congrArg (fun z : Int × KS => iI z.1) hres; exact h9), (by have h9 := congrArg (fun z : Int × KS => z.2) hres; exact h9)⟩, by rw [ht]; exact hP, va_K.moved hW.alike hK, hD⟩, hS.F ht⟩) hS.2.2 dX3_isEndless_107
          · skip
            rw [if_neg c_99] at hres
            refine lv_iconst (v := iI (1 : Int)) hx hb dX3_isEndless_102 (by decide) ?_
            refine lv_goto (tgt := 107) hx hb dX3_isEndless_103 (by decide) ?_
            exact W.zret (v := iI ((1 : Int))) hx hb hr (kz _ (by first | assumption | omega)) (fun t ht hW => ⟨⟨iI ((1 : Int)), y, rfl, ⟨(by have h9 := congrArg (fun z : Int × KS => iI z.1) hres; exact h9), (by have h9 := congrArg (fun z : Int × KS => z.2) hres; exact h9)⟩, by rw [ht]; exact hP, va_K.moved hW.alike hK, hD⟩, hS.F ht⟩) hS.2.2 dX3_isEndless_107
        · skip
          rw [if_neg c_32] at hres
          refine lv_iload_n hx hb dX3_isEndless_35 rfl (lv_at hl 1 rfl) ?_
          refine wi_if_eq (tgt := 91) hx hb (kR01 b01) dX3_isEndless_36 (by decide) (fun c_36 => ?_) (fun c_36 => ?_)
          · skip
            rw [if_pos c_36] at hres
            refine lv_aload_n hx hb dX3_isEndless_91 rfl (lv_at hl 0 rfl) ?_
            refine va_get (D := (dC, dI)) (ci := 3) (v := .ref (ad (kWs ((y).1 (64) 4)))) (C := RX3) (T := TX3) (N := 10) hx hb hts hinX3 hown hK hP (64) (kg64 (by omega)) rfl 4 (by decide) (hts (.fieldLink RX3 26 "LikeWords$Machine" "ways" "[J") (by decide +kernel)) (fun _ h9 => h9) rfl dX3_isEndless_92 ?_
            refine lv_iconst (v := iI (0 : Int)) hx hb dX3_isEndless_95 (by decide) ?_
            refine wi_lald (f := (y).2 (kWs ((y).1 (64) 4))) (n := kLen (kWs ((y).1 (64) 4))) hx hb hK hP (kWs ((y).1 (64) 4)) 1 (kgj (kJ_ws _) (kWs_lt hM) rfl) rfl (i := (0 : Int)) (by omega) (by rw [kLen_ws]; exact (by omega)) (kLen_lt _) dX3_isEndless_96 ?_
            refine lv_lconst (v := iL 0) hx hb dX3_isEndless_97 (by decide) ?_
            refine wi_lcmp hx hb (rwy _) ⟨by decide, by decide⟩ dX3_isEndless_98 ?_
            refine wi_if_le (tgt := 106) hx hb iC_R dX3_isEndless_99 (by decide) (fun c_99 => ?_) (fun c_99 => ?_)
            · skip
              rw [if_pos c_99] at hres
              refine lv_iconst (v := iI (0 : Int)) hx hb dX3_isEndless_106 (by decide) ?_
              exact W.zret (v := iI ((0 : Int))) hx hb hr (kz _ (by first | assumption | omega)) (fun t ht hW => ⟨⟨iI ((0 : Int)), y, rfl, ⟨(by have h9 := congrArg (fun z : Int × KS => iI z.1) hres; exact h9), (by have h9 := congrArg (fun z : Int × KS => z.2) hres; exact h9)⟩, by rw [ht]; exact hP, va_K.moved hW.alike hK, hD⟩, hS.F ht⟩) hS.2.2 dX3_isEndless_107
            · skip
              rw [if_neg c_99] at hres
              refine lv_iconst (v := iI (1 : Int)) hx hb dX3_isEndless_102 (by decide) ?_
              refine lv_goto (tgt := 107) hx hb dX3_isEndless_103 (by decide) ?_
              exact W.zret (v := iI ((1 : Int))) hx hb hr (kz _ (by first | assumption | omega)) (fun t ht hW => ⟨⟨iI ((1 : Int)), y, rfl, ⟨(by have h9 := congrArg (fun z : Int × KS => iI z.1) hres; exact h9), (by have h9 := congrArg (fun z : Int × KS => z.2) hres; exact h9)⟩, by rw [ht]; exact hP, va_K.moved hW.alike hK, hD⟩, hS.F ht⟩) hS.2.2 dX3_isEndless_107
          · skip
            rw [if_neg c_36] at hres
            refine lv_iconst (v := iI (0 : Int)) hx hb dX3_isEndless_39 (by decide) ?_
            refine lv_istore_n (lv' := [(1, .int (iI ((0 : Int)))), (0, .ref (ad (64))), (2, .int (iI (d)))]) hx hb dX3_isEndless_40 rfl hl (by decide) rfl (fun ls hl => ?_)
            refine lv_iconst (v := iI (0 : Int)) hx hb dX3_isEndless_41 (by decide) ?_
            refine lv_istore_n (lv' := [(3, .int (iI ((0 : Int)))), (1, .int (iI ((0 : Int)))), (0, .ref (ad (64))), (2, .int (iI (d)))]) hx hb dX3_isEndless_42 rfl hl (by decide) rfl (fun ls hl => ?_)
            exact ih.2.2 (y) ((0 : Int)) (d) ((0 : Int)) (sm) (rwy) (by first | assumption | omega) (by omega) (by omega) (by omega) (by omega) (by omega) hres _ _ ls hP hD hS (lv_sub hl [2, 1, 3, 0] rfl)
      · intro y b d i sm rwy b01 d0 d1 i0 i1 fu hres H locs ls hP hD hS hl
        rw [F_a_isEndless_e2] at hres
        have may := maR_of sm (by decide) (by decide) (by decide) ma
        have l2y := l2_of sm (by decide) l2
        have may1 := may.1
        refine lv_iload_n hx hb dX3_isEndless_43 rfl (lv_at hl 3 rfl) ?_
        refine lv_aload_n hx hb dX3_isEndless_44 rfl (lv_at hl 0 rfl) ?_
        refine va_get (D := (dC, dI)) (ci := 3) (v := .int (iI ((y).1 (64) 7))) (C := RX3) (T := TX3) (N := 10) hx hb hts hinX3 hown hK hP (64) (kg64 (by omega)) rfl 7 (by decide) (hts (.fieldLink RX3 36 "LikeWords$Machine" "held" "I") (by decide +kernel)) (fun _ h9 => h9) rfl dX3_isEndless_45 ?_
        refine wi_icmp_ge (tgt := 85) hx hb (by first | assumption | (unfold iR; omega) | exact kR01 (by assumption)) (by first | assumption | (unfold iR; omega) | exact kR01 (by assumption)) dX3_isEndless_48 (by decide) (fun c_48 => ?_) (fun c_48 => ?_)
        · skip
          rw [if_pos c_48] at hres
          refine lv_iinc (v := iI ((d) + (1 : Int))) (lv' := [(2, .int (iI ((d) + (1 : Int)))), (0, .ref (ad (64))), (1, .int (iI (b))), (3, .int (iI (i)))]) hx hb dX3_isEndless_85 hl (k := 2) rfl (iI_add _ _) (by decide) rfl (fun ls hl => ?_)
          refine lv_goto (tgt := 27) hx hb dX3_isEndless_88 (by decide) ?_
          exact ih.2.1 (y) (b) ((d) + (1 : Int)) (sm) (rwy) (by first | assumption | omega) (by omega) (by omega) (by omega) hres _ _ ls hP hD hS (lv_sub hl [1, 2, 0] rfl)
        · skip
          rw [if_neg c_48] at hres
          refine lv_aload_n hx hb dX3_isEndless_51 rfl (lv_at hl 0 rfl) ?_
          refine va_get (D := (dC, dI)) (ci := 3) (v := .ref (ad (kWs ((y).1 (64) 4)))) (C := RX3) (T := TX3) (N := 10) hx hb hts hinX3 hown hK hP (64) (kg64 (by omega)) rfl 4 (by decide) (hts (.fieldLink RX3 26 "LikeWords$Machine" "ways" "[J") (by decide +kernel)) (fun _ h9 => h9) rfl dX3_isEndless_52 ?_
          refine lv_iload_n hx hb dX3_isEndless_55 rfl (lv_at hl 3 rfl) ?_
          refine wi_lald (f := (y).2 (kWs ((y).1 (64) 4))) (n := kLen (kWs ((y).1 (64) 4))) hx hb hK hP (kWs ((y).1 (64) 4)) 1 (kgj (kJ_ws _) (kWs_lt hM) rfl) rfl (i := i) (by omega) (by rw [kLen_ws]; exact (by omega)) (kLen_lt _) dX3_isEndless_56 ?_
          refine lv_lconst (v := iL 0) hx hb dX3_isEndless_57 (by decide) ?_
          refine wi_lcmp hx hb (rwy _) ⟨by decide, by decide⟩ dX3_isEndless_58 ?_
          refine wi_if_le (tgt := 79) hx hb iC_R dX3_isEndless_59 (by decide) (fun c_59 => ?_) (fun c_59 => ?_)
          · skip
            rw [if_pos c_59] at hres
            refine lv_iinc (v := iI ((i) + (1 : Int))) (lv' := [(3, .int (iI ((i) + (1 : Int)))), (0, .ref (ad (64))), (1, .int (iI (b))), (2, .int (iI (d)))]) hx hb dX3_isEndless_79 hl (k := 3) rfl (iI_add _ _) (by decide) rfl (fun ls hl => ?_)
            refine lv_goto (tgt := 43) hx hb dX3_isEndless_82 (by decide) ?_
            exact ih.2.2 (y) (b) (d) ((i) + (1 : Int)) (sm) (rwy) (by first | assumption | omega) (by omega) (by omega) (by omega) (by omega) (by omega) hres _ _ ls hP hD hS (lv_sub hl [1, 2, 3, 0] rfl)
          · skip
            rw [if_neg c_59] at hres
            refine lv_aload_n hx hb dX3_isEndless_62 rfl (lv_at hl 0 rfl) ?_
            refine lv_iload_n hx hb dX3_isEndless_63 rfl (lv_at hl 3 rfl) ?_
            have hFc : ∀ q, va_A (kWd cI cJ cZ cR wl ad M (y)) H.size q → A q := fun q hq => Or.elim hq (fun ⟨k, e, hk⟩ => hD.2 k (q, e) hk) (fun hk => hA q (Nat.le_trans hS.1 hk))
            refine va_calli (va_runV (b := ad (64)) (As := [.int (iI (i))]) (rest := []) ⟨hx, hb, hml, hown, hts⟩ (c_a_goesOn l dC dI ad cI cJ cZ cR M wl H.size (y)  (i) hM (by omega) (by omega) may l2y rwy) (cwV 1 hts gX3_isEndless_X3_goesOn rfl rfl rfl (by decide +kernel) ⟨Nat.le_of_ble_eq_true rfl, Nat.le_of_ble_eq_true rfl⟩) ⟨fun a U g mk q => by obtain ⟨q0, q1, qP, qK, qD, qN⟩ := q; exact ⟨q0, q1, qP, va_K.moved (u := U) (U := U.calling g mk a) (Vm.Alike.refl U.vm) qK, qD, kNw.same (u := U) (U := U.calling g mk a) rfl qN⟩, va_recv hK hP (ci := 3) (q0 := 64) rfl (kg64 (by omega)), fun U hU hW => ⟨rfl, by rw [hU], by rw [hU]; exact hP, va_K.moved hW.alike hK, hD.weaken (fun _ _ _ _ => trivial), kNw.warm hW hNw⟩⟩ rfl rfl hl.1 rfl (lv_room (Nat.le_of_ble_eq_true rfl)) dX3_isEndless_64 ⟨Nat.le_of_ble_eq_true rfl, Nat.le_of_ble_eq_true rfl⟩) hS (fun q _ h => hFc q h) hFc (fun r9 u9 t H1 locs ht hvm hw hB hz1 hk1 hS => ?_)
            obtain ⟨hP1, hK1, hD1⟩ := hB
            rw [ht] at hP1
            obtain ⟨hw1, hw2⟩ := hw
            rw [hw2] at hP1 hD1
            rw [hw1]
            rw [F_a_goesOn_2] at hP1 hD1
            have hD2 := hD1.weaken (B := A) (fun _ q _ h => hFc q.1 h)
            have hP := hP1
            have hD := hD2
            generalize H1 = H at hP hS ⊢
            refine wi_if_ne (tgt := 79) hx hb (kR01 (F_a_goesOn_01 _ _)) dX3_isEndless_67 (by decide) (fun c_67 => ?_) (fun c_67 => ?_)
            · skip
              rw [if_neg c_67] at hres
              refine lv_iinc (v := iI ((i) + (1 : Int))) (lv' := [(3, .int (iI ((i) + (1 : Int)))), (0, .ref (ad (64))), (1, .int (iI (b))), (2, .int (iI (d)))]) hx hb dX3_isEndless_79 hl (k := 3) rfl (iI_add _ _) (by decide) rfl (fun ls hl => ?_)
              refine lv_goto (tgt := 43) hx hb dX3_isEndless_82 (by decide) ?_
              exact ih.2.2 (y) (b) (d) ((i) + (1 : Int)) (sm) (rwy) (by first | assumption | omega) (by omega) (by omega) (by omega) (by omega) (by omega) hres _ _ ls hP hD hS (lv_sub hl [1, 2, 3, 0] rfl)
            · skip
              rw [if_pos c_67] at hres
              refine lv_aload_n hx hb dX3_isEndless_70 rfl (lv_at hl 0 rfl) ?_
              refine va_get (D := (dC, dI)) (ci := 3) (v := .ref (ad (kWs ((y).1 (64) 4)))) (C := RX3) (T := TX3) (N := 10) hx hb hts hinX3 hown hK hP (64) (kg64 (by omega)) rfl 4 (by decide) (hts (.fieldLink RX3 26 "LikeWords$Machine" "ways" "[J") (by decide +kernel)) (fun _ h9 => h9) rfl dX3_isEndless_71 ?_
              refine lv_iload_n hx hb dX3_isEndless_74 rfl (lv_at hl 3 rfl) ?_
              refine lv_lconst (v := iL 0) hx hb dX3_isEndless_75 (by decide) ?_
              refine wi_last (f := (y).2 (kWs ((y).1 (64) 4))) (n := kLen (kWs ((y).1 (64) 4))) hx hb hK hP hD hS (kWs ((y).1 (64) 4)) 1 (kgj (kJ_ws _) (kWs_lt hM) rfl) rfl (i := i) (x := (0 : Int)) (by omega) (by rw [kLen_ws]; exact (by omega)) (kLen_lt _) dX3_isEndless_76 (fun H locs hP hD hS => ?_)
              rw [ksj (kJ_ws _)] at hP hD
              refine lv_iconst (v := iI (1 : Int)) hx hb dX3_isEndless_77 (by decide) ?_
              refine lv_istore_n (lv' := [(1, .int (iI ((1 : Int)))), (0, .ref (ad (64))), (2, .int (iI (d))), (3, .int (iI (i)))]) hx hb dX3_isEndless_78 rfl hl (by decide) rfl (fun ls hl => ?_)
              refine lv_iinc (v := iI ((i) + (1 : Int))) (lv' := [(3, .int (iI ((i) + (1 : Int)))), (1, .int (iI ((1 : Int)))), (0, .ref (ad (64))), (2, .int (iI (d)))]) hx hb dX3_isEndless_79 hl (k := 3) rfl (iI_add _ _) (by decide) rfl (fun ls hl => ?_)
              refine lv_goto (tgt := 43) hx hb dX3_isEndless_82 (by decide) ?_
              exact ih.2.2 (kA (y) (kWs ((y).1 (64) 4)) (i).toNat ((0 : Int))) ((1 : Int)) (d) ((i) + (1 : Int)) ((km_tr sm (km_a (kWs_in (List.Mem.head _) (List.Mem.tail _ (List.Mem.head _))) (km_rf _ _ _)))) ((rw_up ⟨by decide, by decide⟩ rwy)) (by first | assumption | omega) (by omega) (by omega) (by omega) (by omega) (by omega) hres _ _ ls hP hD hS (lv_sub hl [2, 1, 3, 0] rfl)
  have key : ∀ (H : Heap) (locs : List Loc), va_P (dC, dI) vwCl (kWd cI cJ cZ cR wl ad M (x)) H → va_S A s.heap H locs → W p l e (headSpec wsX3_isEndless ({ frames := 2, cells := 0, slots := 0, locals := 46 })).room s m ([.ref (ad 64)] : List Value).toArray below meth c H locs 0 0 (MQ below (va_Qi (fun (r : Int32) (u : KS) => r = iI (F_a_isEndless x).1 ∧ u = (F_a_isEndless x).2) (kAt dC dI ad cI cJ cZ cR M wl A) A) ([.ref (ad 64)] : List Value).toArray s 0 0 A) (F0 m 0 ls []) := by
    intro H locs hP hS
    have hres : F_a_isEndless_s 201000 0 (x) ((0 : Int)) (0) (0) = F_a_isEndless x := rfl
    refine lv_iconst (v := iI (0 : Int)) hx hb dX3_isEndless_0 (by decide) ?_
    refine lv_istore_n (lv' := [(1, .int (iI ((0 : Int)))), (0, .ref (ad (64)))]) hx hb dX3_isEndless_1 rfl hl (by decide) rfl (fun ls hl => ?_)
    exact (L (201000)).1 (x) ((0 : Int)) (km_rf _ _ _) (rw) (by omega) (by omega) (by omega) hres _ _ ls hP hD hS (lv_sub hl [1, 0] rfl)
  exact key _ _ hP hS
theorem F_a_isEndless_sfr  : ∀ n : Nat, (∀ (y : KS) (v0 : Int) (v1 : Int) (v2 : Int), ksame [] [67, 68] y (F_a_isEndless_s n 0 y v0 v1 v2).2) ∧ (∀ (y : KS) (v0 : Int) (v1 : Int) (v2 : Int), ksame [] [67, 68] y (F_a_isEndless_s n 1 y v0 v1 v2).2) ∧ (∀ (y : KS) (v0 : Int) (v1 : Int) (v2 : Int), ksame [] [67, 68] y (F_a_isEndless_s n 2 y v0 v1 v2).2) := by
  intro n
  induction n with
  | zero => exact ⟨fun y _ _ _ => km_rf _ _ _, fun y _ _ _ => km_rf _ _ _, fun y _ _ _ => km_rf _ _ _⟩
  | succ n ih =>
    refine ⟨?_, ?_, ?_⟩
    · intro y i q0 q1
      rw [F_a_isEndless_e0]
      by_cases hc : ((y).1 (64) 7) ≤ (i)
      · rw [if_pos hc]
        exact km_tr ((km_rf _ _ _)) (ih.2.1 (y) ((1 : Int)) ((0 : Int)) (0))
      · rw [if_neg hc]
        exact km_tr ((km_a (kWs_in (List.Mem.head _) (List.Mem.tail _ (List.Mem.head _))) (km_rf _ _ _))) (ih.1 (kA (y) (kWs ((y).1 (64) 4)) (i).toNat ((1 : Int))) ((i) + (1 : Int)) (0) (0))
    · intro y b d q0
      rw [F_a_isEndless_e1]
      by_cases hc : ((y).1 (64) 7) < (d)
      · rw [if_pos hc]
        by_cases hc : (iC (((y).2 (kWs ((y).1 (64) 4))) ((0 : Int)).toNat) ((0 : Int))) ≤ (0)
        · rw [if_pos hc]
          exact (km_rf _ _ _)
        · rw [if_neg hc]
          exact (km_rf _ _ _)
      · rw [if_neg hc]
        by_cases hc : (b) = (0)
        · rw [if_pos hc]
          by_cases hc : (iC (((y).2 (kWs ((y).1 (64) 4))) ((0 : Int)).toNat) ((0 : Int))) ≤ (0)
          · rw [if_pos hc]
            exact (km_rf _ _ _)
          · rw [if_neg hc]
            exact (km_rf _ _ _)
        · rw [if_neg hc]
          exact km_tr ((km_rf _ _ _)) (ih.2.2 (y) ((0 : Int)) (d) ((0 : Int)))
    · intro y b d i
      rw [F_a_isEndless_e2]
      by_cases hc : ((y).1 (64) 7) ≤ (i)
      · rw [if_pos hc]
        exact km_tr ((km_rf _ _ _)) (ih.2.1 (y) (b) ((d) + (1 : Int)) (0))
      · rw [if_neg hc]
        by_cases hc : (iC (((y).2 (kWs ((y).1 (64) 4))) (i).toNat) ((0 : Int))) ≤ (0)
        · rw [if_pos hc]
          exact km_tr ((km_rf _ _ _)) (ih.2.2 (y) (b) (d) ((i) + (1 : Int)))
        · rw [if_neg hc]
          by_cases hc : ((F_a_goesOn (y) (i)).1) = (0)
          · rw [if_pos hc]
            exact km_tr ((km_a (kWs_in (List.Mem.head _) (List.Mem.tail _ (List.Mem.head _))) (km_rf _ _ _))) (ih.2.2 (kA (y) (kWs ((y).1 (64) 4)) (i).toNat ((0 : Int))) ((1 : Int)) (d) ((i) + (1 : Int)))
          · rw [if_neg hc]
            exact km_tr ((km_rf _ _ _)) (ih.2.2 (y) (b) (d) ((i) + (1 : Int)))
theorem F_a_isEndless_fr (x : KS)  : ksame [] [67, 68] x (F_a_isEndless x).2 := by
  unfold F_a_isEndless
  exact km_tr ((km_rf _ _ _)) ((F_a_isEndless_sfr  (201000)).1 (x) ((0 : Int)) (0) (0))
theorem F_a_isEndless_q (x : KS)   : kq [] [67, 68] x (F_a_isEndless x).2 := kq_of (F_a_isEndless_fr x) kq_m (kq_c (Or.inr (by decide)) (kq_c (Or.inr (by decide)) kq_n))
theorem F_a_isEndless_s_01 : ∀ n : Nat, (∀ (x : KS) (a b c : Int), (F_a_isEndless_s n 0 x a b c).1 = 0 ∨ (F_a_isEndless_s n 0 x a b c).1 = 1) ∧ (∀ (x : KS) (a b c : Int), (F_a_isEndless_s n 1 x a b c).1 = 0 ∨ (F_a_isEndless_s n 1 x a b c).1 = 1) ∧ (∀ (x : KS) (a b c : Int), (F_a_isEndless_s n 2 x a b c).1 = 0 ∨ (F_a_isEndless_s n 2 x a b c).1 = 1) := by
  intro n
  induction n with
  | zero => exact ⟨fun _ _ _ _ => Or.inl rfl, fun _ _ _ _ => Or.inl rfl, fun _ _ _ _ => Or.inl rfl⟩
  | succ n ih =>
    obtain ⟨i0, i1, i2⟩ := ih
    refine ⟨?_, ?_, ?_⟩
    · intro x a b c
      rw [F_a_isEndless_e0]
      repeat' split
      all_goals first | exact Or.inl rfl | exact Or.inr rfl | exact i0 _ _ _ _ | exact i1 _ _ _ _ | exact i2 _ _ _ _
    · intro x a b c
      rw [F_a_isEndless_e1]
      repeat' split
      all_goals first | exact Or.inl rfl | exact Or.inr rfl | exact i0 _ _ _ _ | exact i1 _ _ _ _ | exact i2 _ _ _ _
    · intro x a b c
      rw [F_a_isEndless_e2]
      repeat' split
      all_goals first | exact Or.inl rfl | exact Or.inr rfl | exact i0 _ _ _ _ | exact i1 _ _ _ _ | exact i2 _ _ _ _
theorem F_a_isEndless_01 (x : KS) : (F_a_isEndless x).1 = 0 ∨ (F_a_isEndless x).1 = 1 := (F_a_isEndless_s_01 _).1 _ _ _ _
def F_a_lengthen_s  : Nat → Nat → KS → Int → Int → Int → Int × KS
  | 0, _, x, _, _, _ => (0, x)
  | n + 1, t, x, p0, p1, p2 => match t with
    | 0 => (fun (i : Int) => (if ((x).1 (64) 7) ≤ (i) then (0, kS (kS (x) (64) 4 ((x).1 (64) 5)) (64) 5 ((x).1 (64) 4)) else F_a_lengthen_s n 1 (x) (i) ((0 : Int)) ((0 : Int)))) p0
    | 1 => (fun (i : Int) (q : Int) (z : Int) => (if ((x).1 (1) 2) ≤ (z) then F_a_lengthen_s n 0 (kA (x) (kWs ((x).1 (64) 5)) (i).toNat (q)) ((i) + (1 : Int)) (0) (0) else (if ((F_a_step (x) (i) (z)).1) < (0) then F_a_lengthen_s n 1 (x) (i) (q) ((z) + (1 : Int)) else F_a_lengthen_s n 1 (x) (i) ((q) + (((x).2 (kWs ((x).1 (64) 4))) ((F_a_step (x) (i) (z)).1).toNat)) ((z) + (1 : Int))))) p0 p1 p2
    | _ => (0, x)
theorem F_a_lengthen_e0  (n : Nat) (x : KS) (i : Int) (q0 : Int) (q1 : Int) : F_a_lengthen_s (n + 1) 0 x i q0 q1 = (if ((x).1 (64) 7) ≤ (i) then (0, kS (kS (x) (64) 4 ((x).1 (64) 5)) (64) 5 ((x).1 (64) 4)) else F_a_lengthen_s n 1 (x) (i) ((0 : Int)) ((0 : Int))) := rfl
theorem F_a_lengthen_e1  (n : Nat) (x : KS) (i : Int) (q : Int) (z : Int) : F_a_lengthen_s (n + 1) 1 x i q z = (if ((x).1 (1) 2) ≤ (z) then F_a_lengthen_s n 0 (kA (x) (kWs ((x).1 (64) 5)) (i).toNat (q)) ((i) + (1 : Int)) (0) (0) else (if ((F_a_step (x) (i) (z)).1) < (0) then F_a_lengthen_s n 1 (x) (i) (q) ((z) + (1 : Int)) else F_a_lengthen_s n 1 (x) (i) ((q) + (((x).2 (kWs ((x).1 (64) 4))) ((F_a_step (x) (i) (z)).1).toNat)) ((z) + (1 : Int)))) := rfl
def F_a_lengthen (x : KS)  : Int × KS := F_a_lengthen_s 4000 0 (x) ((0 : Int)) (0) (0)
set_option maxHeartbeats 4000000 in
set_option maxRecDepth 100000 in
/-- LikeWords$Machine, lengthen -/
theorem c_a_lengthen (l : Launch) (dC : Nat → ClassId) (dI : Nat → Nat → Nat) (ad : Nat → Nat) (cI cJ cZ cR : ClassId) (M wl sz : Nat) (x : KS)  (hM : 87 ≤ M) (ma : maR x) (l2 : 1 ≤ x.1 1 2 ∧ x.1 1 2 ≤ 4) : Met l yX3_lengthen wsX3_lengthen ({ frames := 1, cells := 0, slots := 0, locals := 23 }) (kPc dC dI ad cI cJ cZ cR M wl sz x [.ref (ad 64)]) (va_Qv (fun u : KS => u = (F_a_lengthen x).2) (kAt dC dI ad cI cJ cZ cR M wl (va_A (kWd cI cJ cZ cR wl ad M (x)) sz)) (va_A (kWd cI cJ cZ cR wl ad M (x)) sz)) 0 0 (va_A (kWd cI cJ cZ cR wl ad M (x)) sz) := by
  refine Met.ofW (cc := cX3_lengthen) (maxL := 6) (ret := none) (by decide) rfl ?_
  intro p e s m args below meth c s₁ B hml hv
  obtain ⟨rfl, hsz, hP, hK, hD0, hNw⟩ := hv
  have hx := B.exec
  have hb := B.bytes
  have hr := B.returns
  have hts := atoms_spec (ws := wsX3_lengthen) B.pre
  have hown : s.vm.findClass RX3 = some m.cls := findClass_of_methodNamed B.named
  have hlocks := B.notSynchronized
  have hinX3 : ∀ w ∈ u_ws RX3 TX3 10, w ∈ wsX3_lengthen := by decide +kernel
  have hinX8 : ∀ w ∈ u_ws RX8 TX8 4, w ∈ wsX3_lengthen := by decide +kernel
  subst hsz
  have hD := hD0.self (sz := s.heap.size)
  generalize hAe : va_A (kWd cI cJ cZ cR wl ad M (x)) s.heap.size = A at hD ⊢
  have hA : ∀ q : Nat, s.heap.size ≤ q → A q := fun q h => by rw [← hAe]; exact Or.inr h
  have hS : va_S A s.heap s.heap [] := va_S.rf
  have hl := lv_entry ([.ref (ad 64)]) (n := 6) (Nat.le_of_ble_eq_true rfl)
  rw [lg_entry_eq]
  generalize (lg_sl ([.ref (ad 64)]) ++ List.replicate (6 - (lg_sl ([.ref (ad 64)])).length) Slot.unset).toArray = ls at hl ⊢
  have hl : lv_has ls 6 [(0, .ref (ad (64)))] := hl
  have ma1 := ma.1
  have L : ∀ n : Nat, (∀ (y : KS) (i : Int), (ksame [] [67, 68] x y) → (0 ≤ i) → (i ≤ 320) → ((320 - i) * 10 + 8 < n) → F_a_lengthen_s n 0 y i 0 0 = F_a_lengthen x → ∀ (H : Heap) (locs : List Loc) (ls : Array Slot), va_P (dC, dI) vwCl (kWd cI cJ cZ cR wl ad M (y)) H → va_D A (kWd cI cJ cZ cR wl ad M (y)) → va_S A s.heap H locs → lv_has ls 6 [(0, .ref (ad (64))), (1, .int (iI (i)))] → W p l e (headSpec wsX3_lengthen ({ frames := 1, cells := 0, slots := 0, locals := 23 })).room s m ([.ref (ad 64)] : List Value).toArray below meth c H locs 0 0 (MQ below (va_Qv (fun u : KS => u = (F_a_lengthen x).2) (kAt dC dI ad cI cJ cZ cR M wl A) A) ([.ref (ad 64)] : List Value).toArray s 0 0 A) (F0 m 2 ls [])) ∧ (∀ (y : KS) (i : Int) (q : Int) (z : Int), (ksame [] [67, 68] x y) → (0 ≤ i) → (i < y.1 64 7) → (i < 320) → (0 ≤ z) → (z ≤ 4) → ((320 - i) * 10 + 6 - z < n) → F_a_lengthen_s n 1 y i q z = F_a_lengthen x → ∀ (H : Heap) (locs : List Loc) (ls : Array Slot), va_P (dC, dI) vwCl (kWd cI cJ cZ cR wl ad M (y)) H → va_D A (kWd cI cJ cZ cR wl ad M (y)) → va_S A s.heap H locs → lv_has ls 6 [(0, .ref (ad (64))), (1, .int (iI (i))), (2, .long (iL (q))), (4, .int (iI (z)))] → W p l e (headSpec wsX3_lengthen ({ frames := 1, cells := 0, slots := 0, locals := 23 })).room s m ([.ref (ad 64)] : List Value).toArray below meth c H locs 0 0 (MQ below (va_Qv (fun u : KS => u = (F_a_lengthen x).2) (kAt dC dI ad cI cJ cZ cR M wl A) A) ([.ref (ad 64)] : List Value).toArray s 0 0 A) (F0 m 15 ls [])) := by
    intro n
    induction n with
    | zero =>
      refine ⟨?_, ?_⟩
      · intro y i sm i0 i1 fu hres
        exact absurd fu (by omega)
      · intro y i q z sm i0 i1 i2 z0 z1 fu hres
        exact absurd fu (by omega)
    | succ n ih =>
      refine ⟨?_, ?_⟩
      · intro y i sm i0 i1 fu hres H locs ls hP hD hS hl
        rw [F_a_lengthen_e0] at hres
        have may := maR_of sm (by decide) (by decide) (by decide) ma
        have l2y := l2_of sm (by decide) l2
        have may1 := may.1
        refine lv_iload_n hx hb dX3_lengthen_2 rfl (lv_at hl 1 rfl) ?_
        refine lv_aload_n hx hb dX3_lengthen_3 rfl (lv_at hl 0 rfl) ?_
        refine va_get (D := (dC, dI)) (ci := 3) (v := .int (iI ((y).1 (64) 7))) (C := RX3) (T := TX3) (N := 10) hx hb hts hinX3 hown hK hP (64) (kg64 (by omega)) rfl 7 (by decide) (hts (.fieldLink RX3 36 "LikeWords$Machine" "held" "I") (by decide +kernel)) (fun _ h9 => h9) rfl dX3_lengthen_4 ?_
        refine wi_icmp_ge (tgt := 70) hx hb (by first | assumption | (unfold iR; omega) | exact kR01 (by assumption)) (by first | assumption | (unfold iR; omega) | exact kR01 (by assumption)) dX3_lengthen_7 (by decide) (fun c_7 => ?_) (fun c_7 => ?_)
        · skip
          rw [if_pos c_7] at hres
          refine lv_aload_n hx hb dX3_lengthen_70 rfl (lv_at hl 0 rfl) ?_
          refine va_get (D := (dC, dI)) (ci := 3) (v := .ref (ad (kWs ((y).1 (64) 4)))) (C := RX3) (T := TX3) (N := 10) hx hb hts hinX3 hown hK hP (64) (kg64 (by omega)) rfl 4 (by decide) (hts (.fieldLink RX3 26 "LikeWords$Machine" "ways" "[J") (by decide +kernel)) (fun _ h9 => h9) rfl dX3_lengthen_71 ?_
          refine lv_astore_n (lv' := [(1, .ref (ad (kWs ((y).1 (64) 4)))), (0, .ref (ad (64)))]) hx hb dX3_lengthen_74 rfl hl (by decide) rfl (fun ls hl => ?_)
          refine lv_aload_n hx hb dX3_lengthen_75 rfl (lv_at hl 1 rfl) ?_
          refine lv_aload_n hx hb dX3_lengthen_76 rfl (lv_at hl 1 rfl) ?_
          refine va_get (D := (dC, dI)) (ci := 3) (v := .ref (ad (kWs ((y).1 (64) 5)))) (C := RX3) (T := TX3) (N := 10) hx hb hts hinX3 hown hK hP (64) (kg64 (by omega)) rfl 5 (by decide) (hts (.fieldLink RX3 30 "LikeWords$Machine" "spare" "[J") (by decide +kernel)) (fun _ h9 => h9) rfl dX3_lengthen_77 ?_
          refine va_put (D := (dC, dI)) (ci := 3) (v := .ref (ad (kWs ((y).1 (64) 5)))) (ty := (.array .long)) (C := RX3) (T := TX3) (N := 10) hx hb hts hinX3 tyX3 tyX3_ok nmX3 hown hK hP hD hS (64) (kg64 (by omega)) rfl 4 (by decide) (hts (.fieldLink RX3 26 "LikeWords$Machine" "ways" "[J") (by decide +kernel)) (fun _ h9 => h9) rfl (by decide +kernel) rfl rfl (Nat.le_of_ble_eq_true rfl) dX3_lengthen_80 (fun H locs hP hD hS => ?_)
          rw [ks64_4] at hP hD
          refine lv_aload_n hx hb dX3_lengthen_83 rfl (lv_at hl 1 rfl) ?_
          refine lv_aload_n hx hb dX3_lengthen_84 rfl (lv_at hl 0 rfl) ?_
          refine va_put (D := (dC, dI)) (ci := 3) (v := .ref (ad (kWs ((y).1 (64) 4)))) (ty := (.array .long)) (C := RX3) (T := TX3) (N := 10) hx hb hts hinX3 tyX3 tyX3_ok nmX3 hown hK hP hD hS (64) (kg64 (by omega)) rfl 5 (by decide) (hts (.fieldLink RX3 30 "LikeWords$Machine" "spare" "[J") (by decide +kernel)) (fun _ h9 => h9) rfl (by decide +kernel) rfl rfl (Nat.le_of_ble_eq_true rfl) dX3_lengthen_85 (fun H locs hP hD hS => ?_)
          rw [ks64_5] at hP hD
          exact W.vret hx hb hr (fun t ht hW => ⟨⟨kS (kS (y) (64) 4 ((y).1 (64) 5)) (64) 5 ((y).1 (64) 4), rfl, (by have h9 := congrArg (fun z : Int × KS => z.2) hres; exact h9), by rw [ht]; exact hP, va_K.moved hW.alike hK, hD⟩, hS.F ht⟩) hS.2.2 dX3_lengthen_88
        · skip
          rw [if_neg c_7] at hres
          refine lv_lconst (v := iL 0) hx hb dX3_lengthen_10 (by decide) ?_
          refine lv_lstore_n (lv' := [(2, .long (iL ((0 : Int)))), (0, .ref (ad (64))), (1, .int (iI (i)))]) hx hb dX3_lengthen_11 rfl hl (by decide) rfl (fun ls hl => ?_)
          refine lv_iconst (v := iI (0 : Int)) hx hb dX3_lengthen_12 (by decide) ?_
          refine lv_istore (lv' := [(4, .int (iI ((0 : Int)))), (2, .long (iL ((0 : Int)))), (0, .ref (ad (64))), (1, .int (iI (i)))]) hx hb dX3_lengthen_13 hl (by decide) rfl (fun ls hl => ?_)
          exact ih.2 (y) (i) ((0 : Int)) ((0 : Int)) (sm) (by omega) (by omega) (by omega) (by omega) (by omega) (by omega) hres _ _ ls hP hD hS (lv_sub hl [2, 3, 1, 0] rfl)
      · intro y i q z sm i0 i1 i2 z0 z1 fu hres H locs ls hP hD hS hl
        rw [F_a_lengthen_e1] at hres
        have may := maR_of sm (by decide) (by decide) (by decide) ma
        have l2y := l2_of sm (by decide) l2
        have may1 := may.1
        have sb := F_a_step_b may i z
        refine lv_iload hx hb dX3_lengthen_15 (lv_at hl 3 rfl) ?_
        refine lv_aload_n hx hb dX3_lengthen_17 rfl (lv_at hl 0 rfl) ?_
        refine va_get (D := (dC, dI)) (ci := 3) (v := .ref (ad (1))) (C := RX3) (T := TX3) (N := 10) hx hb hts hinX3 hown hK hP (64) (kg64 (by omega)) rfl 0 (by decide) (hts (.fieldLink RX3 9 "LikeWords$Machine" "scale" "LLikeWords$Scale;") (by decide +kernel)) (fun _ h9 => h9) rfl dX3_lengthen_18 ?_
        refine va_get (D := (dC, dI)) (ci := 8) (v := .int (iI ((y).1 (1) 2))) (C := RX8) (T := TX8) (N := 4) hx hb hts hinX8 hown hK hP (1) (kg1 (by omega)) rfl 2 (by decide) (hts (.fieldLink RX3 40 "LikeWords$Scale" "letterCount" "I") (by decide +kernel)) (fun _ h9 => h9) rfl dX3_lengthen_21 ?_
        refine wi_icmp_ge (tgt := 57) hx hb (by first | assumption | (unfold iR; omega) | exact kR01 (by assumption)) (by first | assumption | (unfold iR; omega) | exact kR01 (by assumption)) dX3_lengthen_24 (by decide) (fun c_24 => ?_) (fun c_24 => ?_)
        · skip
          rw [if_pos c_24] at hres
          refine lv_aload_n hx hb dX3_lengthen_57 rfl (lv_at hl 0 rfl) ?_
          refine va_get (D := (dC, dI)) (ci := 3) (v := .ref (ad (kWs ((y).1 (64) 5)))) (C := RX3) (T := TX3) (N := 10) hx hb hts hinX3 hown hK hP (64) (kg64 (by omega)) rfl 5 (by decide) (hts (.fieldLink RX3 30 "LikeWords$Machine" "spare" "[J") (by decide +kernel)) (fun _ h9 => h9) rfl dX3_lengthen_58 ?_
          refine lv_iload_n hx hb dX3_lengthen_61 rfl (lv_at hl 1 rfl) ?_
          refine lv_lload_n hx hb dX3_lengthen_62 rfl (lv_at hl 2 rfl) ?_
          refine wi_last (f := (y).2 (kWs ((y).1 (64) 5))) (n := kLen (kWs ((y).1 (64) 5))) hx hb hK hP hD hS (kWs ((y).1 (64) 5)) 1 (kgj (kJ_ws _) (kWs_lt hM) rfl) rfl (i := i) (x := q) (by omega) (by rw [kLen_ws]; exact (by omega)) (kLen_lt _) dX3_lengthen_63 (fun H locs hP hD hS => ?_)
          rw [ksj (kJ_ws _)] at hP hD
          refine lv_iinc (v := iI ((i) + (1 : Int))) (lv' := [(1, .int (iI ((i) + (1 : Int)))), (0, .ref (ad (64))), (2, .long (iL (q))), (4, .int (iI (z)))]) hx hb dX3_lengthen_64 hl (k := 1) rfl (iI_add _ _) (by decide) rfl (fun ls hl => ?_)
          refine lv_goto (tgt := 2) hx hb dX3_lengthen_67 (by decide) ?_
          exact ih.1 (kA (y) (kWs ((y).1 (64) 5)) (i).toNat (q)) ((i) + (1 : Int)) ((km_tr sm (km_a (kWs_in (List.Mem.head _) (List.Mem.tail _ (List.Mem.head _))) (km_rf _ _ _)))) (by omega) (by omega) (by omega) hres _ _ ls hP hD hS (lv_sub hl [1, 0] rfl)
        · skip
          rw [if_neg c_24] at hres
          refine lv_aload_n hx hb dX3_lengthen_27 rfl (lv_at hl 0 rfl) ?_
          refine lv_iload_n hx hb dX3_lengthen_28 rfl (lv_at hl 1 rfl) ?_
          refine lv_iload hx hb dX3_lengthen_29 (lv_at hl 3 rfl) ?_
          have hFc : ∀ q, va_A (kWd cI cJ cZ cR wl ad M (y)) H.size q → A q := fun q hq => Or.elim hq (fun ⟨k, e, hk⟩ => hD.2 k (q, e) hk) (fun hk => hA q (Nat.le_trans hS.1 hk))
          refine va_calli (va_runV (b := ad (64)) (As := [.int (iI (i)), .int (iI (z))]) (rest := []) ⟨hx, hb, hml, hown, hts⟩ (c_a_step l dC dI ad cI cJ cZ cR M wl H.size (y)  (i) (z) hM (by omega) (by omega) (by omega) (by omega) may l2y) (cwV 2 hts gX3_lengthen_X3_step rfl rfl rfl (by decide +kernel) ⟨Nat.le_of_ble_eq_true rfl, Nat.le_of_ble_eq_true rfl⟩) ⟨fun a U g mk q => by obtain ⟨q0, q1, qP, qK, qD, qN⟩ := q; exact ⟨q0, q1, qP, va_K.moved (u := U) (U := U.calling g mk a) (Vm.Alike.refl U.vm) qK, qD, kNw.same (u := U) (U := U.calling g mk a) rfl qN⟩, va_recv hK hP (ci := 3) (q0 := 64) rfl (kg64 (by omega)), fun U hU hW => ⟨rfl, by rw [hU], by rw [hU]; exact hP, va_K.moved hW.alike hK, hD.weaken (fun _ _ _ _ => trivial), kNw.warm hW hNw⟩⟩ rfl rfl hl.1 rfl (lv_room (Nat.le_of_ble_eq_true rfl)) dX3_lengthen_31 ⟨Nat.le_of_ble_eq_true rfl, Nat.le_of_ble_eq_true rfl⟩) hS (fun q _ h => hFc q h) hFc (fun r9 u9 t H1 locs ht hvm hw hB hz1 hk1 hS => ?_)
          obtain ⟨hP1, hK1, hD1⟩ := hB
          rw [ht] at hP1
          obtain ⟨hw1, hw2⟩ := hw
          rw [hw2] at hP1 hD1
          rw [hw1]
          rw [F_a_step_2] at hP1 hD1
          have hD2 := hD1.weaken (B := A) (fun _ q _ h => hFc q.1 h)
          have hP := hP1
          have hD := hD2
          generalize H1 = H at hP hS ⊢
          refine lv_istore (lv' := [(5, .int (iI ((F_a_step (y) (i) (z)).1))), (0, .ref (ad (64))), (1, .int (iI (i))), (2, .long (iL (q))), (4, .int (iI (z)))]) hx hb dX3_lengthen_34 hl (by decide) rfl (fun ls hl => ?_)
          refine lv_iload hx hb dX3_lengthen_36 (lv_at hl 0 rfl) ?_
          refine wi_if_lt (tgt := 51) hx hb (by first | assumption | (unfold iR; omega) | exact kR01 (by assumption)) dX3_lengthen_38 (by decide) (fun c_38 => ?_) (fun c_38 => ?_)
          · skip
            rw [if_pos c_38] at hres
            refine lv_iinc (v := iI ((z) + (1 : Int))) (lv' := [(4, .int (iI ((z) + (1 : Int)))), (5, .int (iI ((F_a_step (y) (i) (z)).1))), (0, .ref (ad (64))), (1, .int (iI (i))), (2, .long (iL (q)))]) hx hb dX3_lengthen_51 hl (k := 4) rfl (iI_add _ _) (by decide) rfl (fun ls hl => ?_)
            refine lv_goto (tgt := 15) hx hb dX3_lengthen_54 (by decide) ?_
            exact ih.2 (y) (i) (q) ((z) + (1 : Int)) (sm) (by omega) (by omega) (by omega) (by omega) (by omega) (by omega) hres _ _ ls hP hD hS (lv_sub hl [2, 3, 4, 0] rfl)
          · skip
            rw [if_neg c_38] at hres
            refine lv_lload_n hx hb dX3_lengthen_41 rfl (lv_at hl 3 rfl) ?_
            refine lv_aload_n hx hb dX3_lengthen_42 rfl (lv_at hl 1 rfl) ?_
            refine va_get (D := (dC, dI)) (ci := 3) (v := .ref (ad (kWs ((y).1 (64) 4)))) (C := RX3) (T := TX3) (N := 10) hx hb hts hinX3 hown hK hP (64) (kg64 (by omega)) rfl 4 (by decide) (hts (.fieldLink RX3 26 "LikeWords$Machine" "ways" "[J") (by decide +kernel)) (fun _ h9 => h9) rfl dX3_lengthen_43 ?_
            refine lv_iload hx hb dX3_lengthen_46 (lv_at hl 0 rfl) ?_
            refine wi_lald (f := (y).2 (kWs ((y).1 (64) 4))) (n := kLen (kWs ((y).1 (64) 4))) hx hb hK hP (kWs ((y).1 (64) 4)) 1 (kgj (kJ_ws _) (kWs_lt hM) rfl) rfl (i := (F_a_step (y) (i) (z)).1) (by omega) (by rw [kLen_ws]; exact (by omega)) (kLen_lt _) dX3_lengthen_48 ?_
            refine wi_ladd hx hb dX3_lengthen_49 ?_
            refine lv_lstore_n (lv' := [(2, .long (iL ((q) + (((y).2 (kWs ((y).1 (64) 4))) ((F_a_step (y) (i) (z)).1).toNat)))), (5, .int (iI ((F_a_step (y) (i) (z)).1))), (0, .ref (ad (64))), (1, .int (iI (i))), (4, .int (iI (z)))]) hx hb dX3_lengthen_50 rfl hl (by decide) rfl (fun ls hl => ?_)
            refine lv_iinc (v := iI ((z) + (1 : Int))) (lv' := [(4, .int (iI ((z) + (1 : Int)))), (2, .long (iL ((q) + (((y).2 (kWs ((y).1 (64) 4))) ((F_a_step (y) (i) (z)).1).toNat)))), (5, .int (iI ((F_a_step (y) (i) (z)).1))), (0, .ref (ad (64))), (1, .int (iI (i)))]) hx hb dX3_lengthen_51 hl (k := 4) rfl (iI_add _ _) (by decide) rfl (fun ls hl => ?_)
            refine lv_goto (tgt := 15) hx hb dX3_lengthen_54 (by decide) ?_
            exact ih.2 (y) (i) ((q) + (((y).2 (kWs ((y).1 (64) 4))) ((F_a_step (y) (i) (z)).1).toNat)) ((z) + (1 : Int)) (sm) (by omega) (by omega) (by omega) (by omega) (by omega) (by omega) hres _ _ ls hP hD hS (lv_sub hl [3, 4, 1, 0] rfl)
  have key : ∀ (H : Heap) (locs : List Loc), va_P (dC, dI) vwCl (kWd cI cJ cZ cR wl ad M (x)) H → va_S A s.heap H locs → W p l e (headSpec wsX3_lengthen ({ frames := 1, cells := 0, slots := 0, locals := 23 })).room s m ([.ref (ad 64)] : List Value).toArray below meth c H locs 0 0 (MQ below (va_Qv (fun u : KS => u = (F_a_lengthen x).2) (kAt dC dI ad cI cJ cZ cR M wl A) A) ([.ref (ad 64)] : List Value).toArray s 0 0 A) (F0 m 0 ls []) := by
    intro H locs hP hS
    have hres : F_a_lengthen_s 4000 0 (x) ((0 : Int)) (0) (0) = F_a_lengthen x := rfl
    refine lv_iconst (v := iI (0 : Int)) hx hb dX3_lengthen_0 (by decide) ?_
    refine lv_istore_n (lv' := [(1, .int (iI ((0 : Int)))), (0, .ref (ad (64)))]) hx hb dX3_lengthen_1 rfl hl (by decide) rfl (fun ls hl => ?_)
    exact (L (4000)).1 (x) ((0 : Int)) (km_rf _ _ _) (by omega) (by omega) (by omega) hres _ _ ls hP hD hS (lv_sub hl [1, 0] rfl)
  exact key _ _ hP hS
theorem F_a_lengthen_sfr  : ∀ n : Nat, (∀ (y : KS) (v0 : Int) (v1 : Int) (v2 : Int), ksame [(64, 4), (64, 5)] [67, 68] y (F_a_lengthen_s n 0 y v0 v1 v2).2) ∧ (∀ (y : KS) (v0 : Int) (v1 : Int) (v2 : Int), ksame [(64, 4), (64, 5)] [67, 68] y (F_a_lengthen_s n 1 y v0 v1 v2).2) := by
  intro n
  induction n with
  | zero => exact ⟨fun y _ _ _ => km_rf _ _ _, fun y _ _ _ => km_rf _ _ _⟩
  | succ n ih =>
    refine ⟨?_, ?_⟩
    · intro y i q0 q1
      rw [F_a_lengthen_e0]
      by_cases hc : ((y).1 (64) 7) ≤ (i)
      · rw [if_pos hc]
        exact (km_s (List.Mem.tail _ (List.Mem.head _)) (km_s (List.Mem.head _) (km_rf _ _ _)))
      · rw [if_neg hc]
        exact km_tr ((km_rf _ _ _)) (ih.2 (y) (i) ((0 : Int)) ((0 : Int)))
    · intro y i q z
      rw [F_a_lengthen_e1]
      by_cases hc : ((y).1 (1) 2) ≤ (z)
      · rw [if_pos hc]
        exact km_tr ((km_a (kWs_in (List.Mem.head _) (List.Mem.tail _ (List.Mem.head _))) (km_rf _ _ _))) (ih.1 (kA (y) (kWs ((y).1 (64) 5)) (i).toNat (q)) ((i) + (1 : Int)) (0) (0))
      · rw [if_neg hc]
        by_cases hc : ((F_a_step (y) (i) (z)).1) < (0)
        · rw [if_pos hc]
          exact km_tr ((km_rf _ _ _)) (ih.2 (y) (i) (q) ((z) + (1 : Int)))
        · rw [if_neg hc]
          exact km_tr ((km_rf _ _ _)) (ih.2 (y) (i) ((q) + (((y).2 (kWs ((y).1 (64) 4))) ((F_a_step (y) (i) (z)).1).toNat)) ((z) + (1 : Int)))
theorem F_a_lengthen_fr (x : KS)  : ksame [(64, 4), (64, 5)] [67, 68] x (F_a_lengthen x).2 := by
  unfold F_a_lengthen
  exact km_tr ((km_rf _ _ _)) ((F_a_lengthen_sfr  (4000)).1 (x) ((0 : Int)) (0) (0))
theorem F_a_lengthen_q (x : KS)   : kq [64] [67, 68] x (F_a_lengthen x).2 := kq_of (F_a_lengthen_fr x) (kq_c (Or.inr (by decide)) (kq_c (Or.inr (by decide)) kq_m)) (kq_c (Or.inr (by decide)) (kq_c (Or.inr (by decide)) kq_n))
def F_a_countWays_s  : Nat → Nat → KS → Int → Int → Int × KS
  | 0, _, x, _, _ => (0, x)
  | n + 1, t, x, p0, p1 => match t with
    | 0 => (fun (v : Int) (i : Int) => (if ((x).1 (64) 7) ≤ (i) then F_a_countWays_s n 1 (x) (v) ((0 : Int)) else F_a_countWays_s n 0 (kA (x) (kWs ((x).1 (64) 4)) (i).toNat ((1 : Int))) (v) ((i) + (1 : Int)))) p0 p1
    | 1 => (fun (v : Int) (i : Int) => (if (v) ≤ (i) then (0, x) else F_a_countWays_s n 1 ((F_a_lengthen (x)).2) (v) ((i) + (1 : Int)))) p0 p1
    | _ => (0, x)
theorem F_a_countWays_e0  (n : Nat) (x : KS) (v : Int) (i : Int) : F_a_countWays_s (n + 1) 0 x v i = (if ((x).1 (64) 7) ≤ (i) then F_a_countWays_s n 1 (x) (v) ((0 : Int)) else F_a_countWays_s n 0 (kA (x) (kWs ((x).1 (64) 4)) (i).toNat ((1 : Int))) (v) ((i) + (1 : Int))) := rfl
theorem F_a_countWays_e1  (n : Nat) (x : KS) (v : Int) (i : Int) : F_a_countWays_s (n + 1) 1 x v i = (if (v) ≤ (i) then (0, x) else F_a_countWays_s n 1 ((F_a_lengthen (x)).2) (v) ((i) + (1 : Int))) := rfl
def F_a_countWays (x : KS) (v : Int) : Int × KS := F_a_countWays_s 500 0 (x) (v) ((0 : Int))
set_option maxHeartbeats 4000000 in
set_option maxRecDepth 100000 in
/-- LikeWords$Machine, countWays -/
theorem c_a_countWays (l : Launch) (dC : Nat → ClassId) (dI : Nat → Nat → Nat) (ad : Nat → Nat) (cI cJ cZ cR : ClassId) (M wl sz : Nat) (x : KS) (v : Int) (hM : 87 ≤ M) (ma : maR x) (l2 : 1 ≤ x.1 1 2 ∧ x.1 1 2 ≤ 4) (v0 : -10 ≤ v) (v1 : v ≤ 100) : Met l yX3_countWays wsX3_countWays ({ frames := 2, cells := 0, slots := 0, locals := 48 }) (kPc dC dI ad cI cJ cZ cR M wl sz x [.ref (ad 64), .int (iI v)]) (va_Qv (fun u : KS => u = (F_a_countWays x v).2) (kAt dC dI ad cI cJ cZ cR M wl (va_A (kWd cI cJ cZ cR wl ad M (x)) sz)) (va_A (kWd cI cJ cZ cR wl ad M (x)) sz)) 0 0 (va_A (kWd cI cJ cZ cR wl ad M (x)) sz) := by
  refine Met.ofW (cc := cX3_countWays) (maxL := 3) (ret := none) (by decide) rfl ?_
  intro p e s m args below meth c s₁ B hml hv
  obtain ⟨rfl, hsz, hP, hK, hD0, hNw⟩ := hv
  have hx := B.exec
  have hb := B.bytes
  have hr := B.returns
  have hts := atoms_spec (ws := wsX3_countWays) B.pre
  have hown : s.vm.findClass RX3 = some m.cls := findClass_of_methodNamed B.named
  have hlocks := B.notSynchronized
  have hinX3 : ∀ w ∈ u_ws RX3 TX3 10, w ∈ wsX3_countWays := by decide +kernel
  subst hsz
  have hD := hD0.self (sz := s.heap.size)
  generalize hAe : va_A (kWd cI cJ cZ cR wl ad M (x)) s.heap.size = A at hD ⊢
  have hA : ∀ q : Nat, s.heap.size ≤ q → A q := fun q h => by rw [← hAe]; exact Or.inr h
  have hS : va_S A s.heap s.heap [] := va_S.rf
  have hl := lv_entry ([.ref (ad 64), .int (iI v)]) (n := 3) (Nat.le_of_ble_eq_true rfl)
  rw [lg_entry_eq]
  generalize (lg_sl ([.ref (ad 64), .int (iI v)]) ++ List.replicate (3 - (lg_sl ([.ref (ad 64), .int (iI v)])).length) Slot.unset).toArray = ls at hl ⊢
  have hl : lv_has ls 3 [(0, .ref (ad (64))), (1, .int (iI (v)))] := hl
  have ma1 := ma.1
  have L : ∀ n : Nat, (∀ (y : KS) (i : Int), (maR y) → (1 ≤ y.1 1 2 ∧ y.1 1 2 ≤ 4) → (0 ≤ i) → (i ≤ 320) → (110 + 320 - i < n) → F_a_countWays_s n 0 y v i = F_a_countWays x v → ∀ (H : Heap) (locs : List Loc) (ls : Array Slot), va_P (dC, dI) vwCl (kWd cI cJ cZ cR wl ad M (y)) H → va_D A (kWd cI cJ cZ cR wl ad M (y)) → va_S A s.heap H locs → lv_has ls 3 [(0, .ref (ad (64))), (1, .int (iI (v))), (2, .int (iI (i)))] → W p l e (headSpec wsX3_countWays ({ frames := 2, cells := 0, slots := 0, locals := 48 })).room s m ([.ref (ad 64), .int (iI v)] : List Value).toArray below meth c H locs 0 0 (MQ below (va_Qv (fun u : KS => u = (F_a_countWays x v).2) (kAt dC dI ad cI cJ cZ cR M wl A) A) ([.ref (ad 64), .int (iI v)] : List Value).toArray s 0 0 A) (F0 m 2 ls [])) ∧ (∀ (y : KS) (i : Int), (maR y) → (1 ≤ y.1 1 2 ∧ y.1 1 2 ≤ 4) → (0 ≤ i) → (i ≤ 100) → (100 - i < n) → F_a_countWays_s n 1 y v i = F_a_countWays x v → ∀ (H : Heap) (locs : List Loc) (ls : Array Slot), va_P (dC, dI) vwCl (kWd cI cJ cZ cR wl ad M (y)) H → va_D A (kWd cI cJ cZ cR wl ad M (y)) → va_S A s.heap H locs → lv_has ls 3 [(0, .ref (ad (64))), (1, .int (iI (v))), (2, .int (iI (i)))] → W p l e (headSpec wsX3_countWays ({ frames := 2, cells := 0, slots := 0, locals := 48 })).room s m ([.ref (ad 64), .int (iI v)] : List Value).toArray below meth c H locs 0 0 (MQ below (va_Qv (fun u : KS => u = (F_a_countWays x v).2) (kAt dC dI ad cI cJ cZ cR M wl A) A) ([.ref (ad 64), .int (iI v)] : List Value).toArray s 0 0 A) (F0 m 25 ls [])) := by
    intro n
    induction n with
    | zero =>
      refine ⟨?_, ?_⟩
      · intro y i may l2y i0 i1 fu hres
        exact absurd fu (by omega)
      · intro y i may l2y i0 i1 fu hres
        exact absurd fu (by omega)
    | succ n ih =>
      refine ⟨?_, ?_⟩
      · intro y i may l2y i0 i1 fu hres H locs ls hP hD hS hl
        rw [F_a_countWays_e0] at hres
        have may1 := may.1
        refine lv_iload_n hx hb dX3_countWays_2 rfl (lv_at hl 2 rfl) ?_
        refine lv_aload_n hx hb dX3_countWays_3 rfl (lv_at hl 0 rfl) ?_
        refine va_get (D := (dC, dI)) (ci := 3) (v := .int (iI ((y).1 (64) 7))) (C := RX3) (T := TX3) (N := 10) hx hb hts hinX3 hown hK hP (64) (kg64 (by omega)) rfl 7 (by decide) (hts (.fieldLink RX3 36 "LikeWords$Machine" "held" "I") (by decide +kernel)) (fun _ h9 => h9) rfl dX3_countWays_4 ?_
        refine wi_icmp_ge (tgt := 23) hx hb (by first | assumption | (unfold iR; omega) | exact kR01 (by assumption)) (by first | assumption | (unfold iR; omega) | exact kR01 (by assumption)) dX3_countWays_7 (by decide) (fun c_7 => ?_) (fun c_7 => ?_)
        · skip
          rw [if_pos c_7] at hres
          refine lv_iconst (v := iI (0 : Int)) hx hb dX3_countWays_23 (by decide) ?_
          refine lv_istore_n (lv' := [(2, .int (iI ((0 : Int)))), (0, .ref (ad (64))), (1, .int (iI (v)))]) hx hb dX3_countWays_24 rfl hl (by decide) rfl (fun ls hl => ?_)
          exact ih.2 (y) ((0 : Int)) (may) (l2y) (by omega) (by omega) (by omega) hres _ _ ls hP hD hS (lv_sub hl [1, 2, 0] rfl)
        · skip
          rw [if_neg c_7] at hres
          refine lv_aload_n hx hb dX3_countWays_10 rfl (lv_at hl 0 rfl) ?_
          refine va_get (D := (dC, dI)) (ci := 3) (v := .ref (ad (kWs ((y).1 (64) 4)))) (C := RX3) (T := TX3) (N := 10) hx hb hts hinX3 hown hK hP (64) (kg64 (by omega)) rfl 4 (by decide) (hts (.fieldLink RX3 26 "LikeWords$Machine" "ways" "[J") (by decide +kernel)) (fun _ h9 => h9) rfl dX3_countWays_11 ?_
          refine lv_iload_n hx hb dX3_countWays_14 rfl (lv_at hl 2 rfl) ?_
          refine lv_lconst (v := iL 1) hx hb dX3_countWays_15 (by decide) ?_
          refine wi_last (f := (y).2 (kWs ((y).1 (64) 4))) (n := kLen (kWs ((y).1 (64) 4))) hx hb hK hP hD hS (kWs ((y).1 (64) 4)) 1 (kgj (kJ_ws _) (kWs_lt hM) rfl) rfl (i := i) (x := (1 : Int)) (by omega) (by rw [kLen_ws]; exact (by omega)) (kLen_lt _) dX3_countWays_16 (fun H locs hP hD hS => ?_)
          rw [ksj (kJ_ws _)] at hP hD
          refine lv_iinc (v := iI ((i) + (1 : Int))) (lv' := [(2, .int (iI ((i) + (1 : Int)))), (0, .ref (ad (64))), (1, .int (iI (v)))]) hx hb dX3_countWays_17 hl (k := 2) rfl (iI_add _ _) (by decide) rfl (fun ls hl => ?_)
          refine lv_goto (tgt := 2) hx hb dX3_countWays_20 (by decide) ?_
          exact ih.1 (kA (y) (kWs ((y).1 (64) 4)) (i).toNat ((1 : Int))) ((i) + (1 : Int)) ((maR_of (S := []) (A := [67, 68]) (id (km_a (kWs_in (List.Mem.head _) (List.Mem.tail _ (List.Mem.head _))) (km_rf _ _ _))) (by decide) (by decide) (by decide) may)) (l2y) (by omega) (by omega) (by omega) hres _ _ ls hP hD hS (lv_sub hl [1, 2, 0] rfl)
      · intro y i may l2y i0 i1 fu hres H locs ls hP hD hS hl
        rw [F_a_countWays_e1] at hres
        refine lv_iload_n hx hb dX3_countWays_25 rfl (lv_at hl 2 rfl) ?_
        refine lv_iload_n hx hb dX3_countWays_26 rfl (lv_at hl 1 rfl) ?_
        refine wi_icmp_ge (tgt := 40) hx hb (by first | assumption | (unfold iR; omega) | exact kR01 (by assumption)) (by first | assumption | (unfold iR; omega) | exact kR01 (by assumption)) dX3_countWays_27 (by decide) (fun c_27 => ?_) (fun c_27 => ?_)
        · skip
          rw [if_pos c_27] at hres
          exact W.vret hx hb hr (fun t ht hW => ⟨⟨y, rfl, (by have h9 := congrArg (fun z : Int × KS => z.2) hres; exact h9), by rw [ht]; exact hP, va_K.moved hW.alike hK, hD⟩, hS.F ht⟩) hS.2.2 dX3_countWays_40
        · skip
          rw [if_neg c_27] at hres
          refine lv_aload_n hx hb dX3_countWays_30 rfl (lv_at hl 0 rfl) ?_
          have hFc : ∀ q, va_A (kWd cI cJ cZ cR wl ad M (y)) H.size q → A q := fun q hq => Or.elim hq (fun ⟨k, e, hk⟩ => hD.2 k (q, e) hk) (fun hk => hA q (Nat.le_trans hS.1 hk))
          refine va_callv (va_runV (b := ad (64)) (As := []) (rest := []) ⟨hx, hb, hml, hown, hts⟩ (c_a_lengthen l dC dI ad cI cJ cZ cR M wl H.size (y)   hM may l2y) (cwV 0 hts gX3_countWays_X3_lengthen rfl rfl rfl (by decide +kernel) ⟨Nat.le_of_ble_eq_true rfl, Nat.le_of_ble_eq_true rfl⟩) ⟨fun a U g mk q => by obtain ⟨q0, q1, qP, qK, qD, qN⟩ := q; exact ⟨q0, q1, qP, va_K.moved (u := U) (U := U.calling g mk a) (Vm.Alike.refl U.vm) qK, qD, kNw.same (u := U) (U := U.calling g mk a) rfl qN⟩, va_recv hK hP (ci := 3) (q0 := 64) rfl (kg64 (by omega)), fun U hU hW => ⟨rfl, by rw [hU], by rw [hU]; exact hP, va_K.moved hW.alike hK, hD.weaken (fun _ _ _ _ => trivial), kNw.warm hW hNw⟩⟩ rfl rfl hl.1 rfl (lv_room (Nat.le_of_ble_eq_true rfl)) dX3_countWays_31 ⟨Nat.le_of_ble_eq_true rfl, Nat.le_of_ble_eq_true rfl⟩) hS (fun q _ h => hFc q h) hFc (fun u9 t H1 locs ht hvm hw hB hz1 hk1 hS => ?_)
          obtain ⟨hP1, hK1, hD1⟩ := hB
          rw [ht] at hP1
          rw [hw] at hP1 hD1
          have hD2 := hD1.weaken (B := A) (fun _ q _ h => hFc q.1 h)
          have hP := hP1
          have hD := hD2
          generalize H1 = H at hP hS ⊢
          refine lv_iinc (v := iI ((i) + (1 : Int))) (lv' := [(2, .int (iI ((i) + (1 : Int)))), (0, .ref (ad (64))), (1, .int (iI (v)))]) hx hb dX3_countWays_34 hl (k := 2) rfl (iI_add _ _) (by decide) rfl (fun ls hl => ?_)
          refine lv_goto (tgt := 25) hx hb dX3_countWays_37 (by decide) ?_
          exact ih.2 ((F_a_lengthen (y)).2) ((i) + (1 : Int)) ((maR_of (F_a_lengthen_fr _) (by decide) (by decide) (by decide) may)) ((l2_of (F_a_lengthen_fr _) (by decide) l2y)) (by omega) (by omega) (by omega) hres _ _ ls hP hD hS (lv_sub hl [1, 2, 0] rfl)
  have key : ∀ (H : Heap) (locs : List Loc), va_P (dC, dI) vwCl (kWd cI cJ cZ cR wl ad M (x)) H → va_S A s.heap H locs → W p l e (headSpec wsX3_countWays ({ frames := 2, cells := 0, slots := 0, locals := 48 })).room s m ([.ref (ad 64), .int (iI v)] : List Value).toArray below meth c H locs 0 0 (MQ below (va_Qv (fun u : KS => u = (F_a_countWays x v).2) (kAt dC dI ad cI cJ cZ cR M wl A) A) ([.ref (ad 64), .int (iI v)] : List Value).toArray s 0 0 A) (F0 m 0 ls []) := by
    intro H locs hP hS
    have hres : F_a_countWays_s 500 0 (x) (v) ((0 : Int)) = F_a_countWays x v := rfl
    refine lv_iconst (v := iI (0 : Int)) hx hb dX3_countWays_0 (by decide) ?_
    refine lv_istore_n (lv' := [(2, .int (iI ((0 : Int)))), (0, .ref (ad (64))), (1, .int (iI (v)))]) hx hb dX3_countWays_1 rfl hl (by decide) rfl (fun ls hl => ?_)
    exact (L (500)).1 (x) ((0 : Int)) (ma) (l2) (by omega) (by omega) (by omega) hres _ _ ls hP hD hS (lv_sub hl [1, 2, 0] rfl)
  exact key _ _ hP hS
theorem F_a_countWays_sfr  : ∀ n : Nat, (∀ (y : KS) (v0 : Int) (v1 : Int), ksame [(64, 4), (64, 5)] [67, 68] y (F_a_countWays_s n 0 y v0 v1).2) ∧ (∀ (y : KS) (v0 : Int) (v1 : Int), ksame [(64, 4), (64, 5)] [67, 68] y (F_a_countWays_s n 1 y v0 v1).2) := by
  intro n
  induction n with
  | zero => exact ⟨fun y _ _ => km_rf _ _ _, fun y _ _ => km_rf _ _ _⟩
  | succ n ih =>
    refine ⟨?_, ?_⟩
    · intro y v i
      rw [F_a_countWays_e0]
      by_cases hc : ((y).1 (64) 7) ≤ (i)
      · rw [if_pos hc]
        exact km_tr ((km_rf _ _ _)) (ih.2 (y) (v) ((0 : Int)))
      · rw [if_neg hc]
        exact km_tr ((km_a (kWs_in (List.Mem.head _) (List.Mem.tail _ (List.Mem.head _))) (km_rf _ _ _))) (ih.1 (kA (y) (kWs ((y).1 (64) 4)) (i).toNat ((1 : Int))) (v) ((i) + (1 : Int)))
    · intro y v i
      rw [F_a_countWays_e1]
      by_cases hc : (v) ≤ (i)
      · rw [if_pos hc]
        exact (km_rf _ _ _)
      · rw [if_neg hc]
        exact km_tr ((km_tr (km_rf _ _ _) (km_mono (km1 (List.Mem.head _) (km1 (List.Mem.tail _ (List.Mem.head _)) km0)) (km1 (List.Mem.head _) (km1 (List.Mem.tail _ (List.Mem.head _)) km0)) (F_a_lengthen_fr (y))))) (ih.2 ((F_a_lengthen (y)).2) (v) ((i) + (1 : Int)))
theorem F_a_countWays_fr (x : KS) (v : Int) : ksame [(64, 4), (64, 5)] [67, 68] x (F_a_countWays x v).2 := by
  unfold F_a_countWays
  exact km_tr ((km_rf _ _ _)) ((F_a_countWays_sfr  (500)).1 (x) (v) ((0 : Int)))
theorem F_a_countWays_q (x : KS) (v : Int)  : kq [64] [67, 68] x (F_a_countWays x v).2 := kq_of (F_a_countWays_fr x v) (kq_c (Or.inr (by decide)) (kq_c (Or.inr (by decide)) kq_m)) (kq_c (Or.inr (by decide)) (kq_c (Or.inr (by decide)) kq_n))
def F_a_waysBy (x : KS) (s0 : Int) (z : Int) : Int × KS := (if ((F_a_step (x) (s0) (z)).1) < (0) then ((0 : Int), x) else (((x).2 (kWs ((x).1 (64) 4))) ((F_a_step (x) (s0) (z)).1).toNat, x))
set_option maxHeartbeats 4000000 in
set_option maxRecDepth 100000 in
/-- LikeWords$Machine, waysBy -/
theorem c_a_waysBy (l : Launch) (dC : Nat → ClassId) (dI : Nat → Nat → Nat) (ad : Nat → Nat) (cI cJ cZ cR : ClassId) (M wl sz : Nat) (x : KS) (s0 : Int) (z : Int) (hM : 87 ≤ M) (s1 : -100000 ≤ s0) (s2 : s0 ≤ 100000) (z1 : -100000 ≤ z) (z2 : z ≤ 100000) (ma : maR x) (l2 : 1 ≤ x.1 1 2 ∧ x.1 1 2 ≤ 4) : Met l yX3_waysBy wsX3_waysBy ({ frames := 1, cells := 0, slots := 0, locals := 23 }) (kPc dC dI ad cI cJ cZ cR M wl sz x [.ref (ad 64), .int (iI s0), .int (iI z)]) (va_Ql (fun (r : Int64) (u : KS) => r = iL (F_a_waysBy x s0 z).1 ∧ u = (F_a_waysBy x s0 z).2) (kAt dC dI ad cI cJ cZ cR M wl (va_A (kWd cI cJ cZ cR wl ad M (x)) sz)) (va_A (kWd cI cJ cZ cR wl ad M (x)) sz)) 0 0 (va_A (kWd cI cJ cZ cR wl ad M (x)) sz) := by
  refine Met.ofW (cc := cX3_waysBy) (maxL := 4) (ret := (some .long)) (by decide) rfl ?_
  intro p e s m args below meth c s₁ B hml hv
  obtain ⟨rfl, hsz, hP, hK, hD0, hNw⟩ := hv
  have hx := B.exec
  have hb := B.bytes
  have hr := B.returns
  have hts := atoms_spec (ws := wsX3_waysBy) B.pre
  have hown : s.vm.findClass RX3 = some m.cls := findClass_of_methodNamed B.named
  have hlocks := B.notSynchronized
  have hinX3 : ∀ w ∈ u_ws RX3 TX3 10, w ∈ wsX3_waysBy := by decide +kernel
  subst hsz
  have hD := hD0.self (sz := s.heap.size)
  generalize hAe : va_A (kWd cI cJ cZ cR wl ad M (x)) s.heap.size = A at hD ⊢
  have hA : ∀ q : Nat, s.heap.size ≤ q → A q := fun q h => by rw [← hAe]; exact Or.inr h
  have hS : va_S A s.heap s.heap [] := va_S.rf
  have hl := lv_entry ([.ref (ad 64), .int (iI s0), .int (iI z)]) (n := 4) (Nat.le_of_ble_eq_true rfl)
  rw [lg_entry_eq]
  generalize (lg_sl ([.ref (ad 64), .int (iI s0), .int (iI z)]) ++ List.replicate (4 - (lg_sl ([.ref (ad 64), .int (iI s0), .int (iI z)])).length) Slot.unset).toArray = ls at hl ⊢
  have hl : lv_has ls 4 [(0, .ref (ad (64))), (1, .int (iI (s0))), (2, .int (iI (z)))] := hl
  have sb := F_a_step_b ma s0 z
  have key : ∀ (H : Heap) (locs : List Loc), va_P (dC, dI) vwCl (kWd cI cJ cZ cR wl ad M (x)) H → va_S A s.heap H locs → W p l e (headSpec wsX3_waysBy ({ frames := 1, cells := 0, slots := 0, locals := 23 })).room s m ([.ref (ad 64), .int (iI s0), .int (iI z)] : List Value).toArray below meth c H locs 0 0 (MQ below (va_Ql (fun (r : Int64) (u : KS) => r = iL (F_a_waysBy x s0 z).1 ∧ u = (F_a_waysBy x s0 z).2) (kAt dC dI ad cI cJ cZ cR M wl A) A) ([.ref (ad 64), .int (iI s0), .int (iI z)] : List Value).toArray s 0 0 A) (F0 m 0 ls []) := by
    intro H locs hP hS
    have hres : (if ((F_a_step (x) (s0) (z)).1) < (0) then ((0 : Int), x) else (((x).2 (kWs ((x).1 (64) 4))) ((F_a_step (x) (s0) (z)).1).toNat, x)) = F_a_waysBy x s0 z := rfl
    refine lv_aload_n hx hb dX3_waysBy_0 rfl (lv_at hl 0 rfl) ?_
    refine lv_iload_n hx hb dX3_waysBy_1 rfl (lv_at hl 1 rfl) ?_
    refine lv_iload_n hx hb dX3_waysBy_2 rfl (lv_at hl 2 rfl) ?_
    have hFc : ∀ q, va_A (kWd cI cJ cZ cR wl ad M (x)) H.size q → A q := fun q hq => Or.elim hq (fun ⟨k, e, hk⟩ => hD.2 k (q, e) hk) (fun hk => hA q (Nat.le_trans hS.1 hk))
    refine va_calli (va_runV (b := ad (64)) (As := [.int (iI (s0)), .int (iI (z))]) (rest := []) ⟨hx, hb, hml, hown, hts⟩ (c_a_step l dC dI ad cI cJ cZ cR M wl H.size (x)  (s0) (z) hM s1 s2 z1 z2 ma l2) (cwV 2 hts gX3_waysBy_X3_step rfl rfl rfl (by decide +kernel) ⟨Nat.le_of_ble_eq_true rfl, Nat.le_of_ble_eq_true rfl⟩) ⟨fun a U g mk q => by obtain ⟨q0, q1, qP, qK, qD, qN⟩ := q; exact ⟨q0, q1, qP, va_K.moved (u := U) (U := U.calling g mk a) (Vm.Alike.refl U.vm) qK, qD, kNw.same (u := U) (U := U.calling g mk a) rfl qN⟩, va_recv hK hP (ci := 3) (q0 := 64) rfl (kg64 (by omega)), fun U hU hW => ⟨rfl, by rw [hU], by rw [hU]; exact hP, va_K.moved hW.alike hK, hD.weaken (fun _ _ _ _ => trivial), kNw.warm hW hNw⟩⟩ rfl rfl hl.1 rfl (lv_room (Nat.le_of_ble_eq_true rfl)) dX3_waysBy_3 ⟨Nat.le_of_ble_eq_true rfl, Nat.le_of_ble_eq_true rfl⟩) hS (fun q _ h => hFc q h) hFc (fun r9 u9 t H1 locs ht hvm hw hB hz1 hk1 hS => ?_)
    obtain ⟨hP1, hK1, hD1⟩ := hB
    rw [ht] at hP1
    obtain ⟨hw1, hw2⟩ := hw
    rw [hw2] at hP1 hD1
    rw [hw1]
    rw [F_a_step_2] at hP1 hD1
    have hD2 := hD1.weaken (B := A) (fun _ q _ h => hFc q.1 h)
    have hP := hP1
    have hD := hD2
    generalize H1 = H at hP hS ⊢
    refine lv_istore_n (lv' := [(3, .int (iI ((F_a_step (x) (s0) (z)).1))), (0, .ref (ad (64))), (1, .int (iI (s0))), (2, .int (iI (z)))]) hx hb dX3_waysBy_6 rfl hl (by decide) rfl (fun ls hl => ?_)
    refine lv_iload_n hx hb dX3_waysBy_7 rfl (lv_at hl 0 rfl) ?_
    refine wi_if_lt (tgt := 20) hx hb (by first | assumption | (unfold iR; omega) | exact kR01 (by assumption)) dX3_waysBy_8 (by decide) (fun c_8 => ?_) (fun c_8 => ?_)
    · skip
      rw [if_pos c_8] at hres
      refine lv_lconst (v := iL 0) hx hb dX3_waysBy_20 (by decide) ?_
      exact W.lret (v := iL ((0 : Int))) hx hb hr (fun t ht hW => ⟨⟨iL ((0 : Int)), x, rfl, ⟨(by have h9 := congrArg (fun z : Int × KS => iL z.1) hres; exact h9), (by have h9 := congrArg (fun z : Int × KS => z.2) hres; exact h9)⟩, by rw [ht]; exact hP, va_K.moved hW.alike hK, hD⟩, hS.F ht⟩) hS.2.2 dX3_waysBy_21
    · skip
      rw [if_neg c_8] at hres
      refine lv_aload_n hx hb dX3_waysBy_11 rfl (lv_at hl 1 rfl) ?_
      refine va_get (D := (dC, dI)) (ci := 3) (v := .ref (ad (kWs ((x).1 (64) 4)))) (C := RX3) (T := TX3) (N := 10) hx hb hts hinX3 hown hK hP (64) (kg64 (by omega)) rfl 4 (by decide) (hts (.fieldLink RX3 26 "LikeWords$Machine" "ways" "[J") (by decide +kernel)) (fun _ h9 => h9) rfl dX3_waysBy_12 ?_
      refine lv_iload_n hx hb dX3_waysBy_15 rfl (lv_at hl 0 rfl) ?_
      refine wi_lald (f := (x).2 (kWs ((x).1 (64) 4))) (n := kLen (kWs ((x).1 (64) 4))) hx hb hK hP (kWs ((x).1 (64) 4)) 1 (kgj (kJ_ws _) (kWs_lt hM) rfl) rfl (i := (F_a_step (x) (s0) (z)).1) (by omega) (by rw [kLen_ws]; exact (by omega)) (kLen_lt _) dX3_waysBy_16 ?_
      refine lv_goto (tgt := 21) hx hb dX3_waysBy_17 (by decide) ?_
      exact W.lret (v := iL (((x).2 (kWs ((x).1 (64) 4))) ((F_a_step (x) (s0) (z)).1).toNat)) hx hb hr (fun t ht hW => ⟨⟨iL (((x).2 (kWs ((x).1 (64) 4))) ((F_a_step (x) (s0) (z)).1).toNat), x, rfl, ⟨(by have h9 := congrArg (fun z : Int × KS => iL z.1) hres; exact h9), (by have h9 := congrArg (fun z : Int × KS => z.2) hres; exact h9)⟩, by rw [ht]; exact hP, va_K.moved hW.alike hK, hD⟩, hS.F ht⟩) hS.2.2 dX3_waysBy_21
  exact key _ _ hP hS
theorem F_a_waysBy_fr (x : KS) (s0 : Int) (z : Int) : ksame [] [] x (F_a_waysBy x s0 z).2 := by
  unfold F_a_waysBy
  by_cases hc : ((F_a_step (x) (s0) (z)).1) < (0)
  · rw [if_pos hc]
    exact (km_rf _ _ _)
  · rw [if_neg hc]
    exact (km_rf _ _ _)
theorem F_a_waysBy_2 (x : KS) (s0 : Int) (z : Int) : (F_a_waysBy x s0 z).2 = x := km_nil (F_a_waysBy_fr x s0 z)
def F_a_countBelow_s  : Nat → Nat → KS → Int → Int → Int → Int × KS
  | 0, _, x, _, _, _ => (0, x)
  | n + 1, t, x, p0, p1, p2 => match t with
    | 0 => (fun (v : Int) (q : Int) (i : Int) => (if (v) ≤ (i) then (q, x) else (if ((32 : Int)) ≤ (i) then (q, x) else F_a_countBelow_s n 0 (x) (v) ((q) + (((x).2 (69)) (i).toNat)) ((i) + (1 : Int))))) p0 p1 p2
    | _ => (0, x)
theorem F_a_countBelow_e0  (n : Nat) (x : KS) (v : Int) (q : Int) (i : Int) : F_a_countBelow_s (n + 1) 0 x v q i = (if (v) ≤ (i) then (q, x) else (if ((32 : Int)) ≤ (i) then (q, x) else F_a_countBelow_s n 0 (x) (v) ((q) + (((x).2 (69)) (i).toNat)) ((i) + (1 : Int)))) := rfl
def F_a_countBelow (x : KS) (v : Int) : Int × KS := F_a_countBelow_s 50 0 (x) (v) ((0 : Int)) ((0 : Int))
set_option maxHeartbeats 4000000 in
set_option maxRecDepth 100000 in
/-- LikeWords$Machine, countBelow -/
theorem c_a_countBelow (l : Launch) (dC : Nat → ClassId) (dI : Nat → Nat → Nat) (ad : Nat → Nat) (cI cJ cZ cR : ClassId) (M wl sz : Nat) (x : KS) (v : Int) (hM : 87 ≤ M) (v0 : -100 ≤ v) (v1 : v ≤ 1000) : Met l yX3_countBelow wsX3_countBelow ({ frames := 0, cells := 0, slots := 0, locals := 0 }) (kPc dC dI ad cI cJ cZ cR M wl sz x [.ref (ad 64), .int (iI v)]) (va_Ql (fun (r : Int64) (u : KS) => r = iL (F_a_countBelow x v).1 ∧ u = (F_a_countBelow x v).2) (kAt dC dI ad cI cJ cZ cR M wl (va_A (kWd cI cJ cZ cR wl ad M (x)) sz)) (va_A (kWd cI cJ cZ cR wl ad M (x)) sz)) 0 0 (va_A (kWd cI cJ cZ cR wl ad M (x)) sz) := by
  refine Met.ofW (cc := cX3_countBelow) (maxL := 5) (ret := (some .long)) (by decide) rfl ?_
  intro p e s m args below meth c s₁ B hml hv
  obtain ⟨rfl, hsz, hP, hK, hD0, hNw⟩ := hv
  have hx := B.exec
  have hb := B.bytes
  have hr := B.returns
  have hts := atoms_spec (ws := wsX3_countBelow) B.pre
  have hown : s.vm.findClass RX3 = some m.cls := findClass_of_methodNamed B.named
  have hlocks := B.notSynchronized
  have hinX3 : ∀ w ∈ u_ws RX3 TX3 10, w ∈ wsX3_countBelow := by decide +kernel
  subst hsz
  have hD := hD0.self (sz := s.heap.size)
  generalize hAe : va_A (kWd cI cJ cZ cR wl ad M (x)) s.heap.size = A at hD ⊢
  have hA : ∀ q : Nat, s.heap.size ≤ q → A q := fun q h => by rw [← hAe]; exact Or.inr h
  have hS : va_S A s.heap s.heap [] := va_S.rf
  have hl := lv_entry ([.ref (ad 64), .int (iI v)]) (n := 5) (Nat.le_of_ble_eq_true rfl)
  rw [lg_entry_eq]
  generalize (lg_sl ([.ref (ad 64), .int (iI v)]) ++ List.replicate (5 - (lg_sl ([.ref (ad 64), .int (iI v)])).length) Slot.unset).toArray = ls at hl ⊢
  have hl : lv_has ls 5 [(0, .ref (ad (64))), (1, .int (iI (v)))] := hl
  have L : ∀ n : Nat, (∀ (q : Int) (i : Int), (0 ≤ i) → (i ≤ 32) → (32 - i < n) → F_a_countBelow_s n 0 x v q i = F_a_countBelow x v → ∀ (H : Heap) (locs : List Loc) (ls : Array Slot), va_P (dC, dI) vwCl (kWd cI cJ cZ cR wl ad M (x)) H → va_D A (kWd cI cJ cZ cR wl ad M (x)) → va_S A s.heap H locs → lv_has ls 5 [(0, .ref (ad (64))), (1, .int (iI (v))), (2, .long (iL (q))), (4, .int (iI (i)))] → W p l e (headSpec wsX3_countBelow ({ frames := 0, cells := 0, slots := 0, locals := 0 })).room s m ([.ref (ad 64), .int (iI v)] : List Value).toArray below meth c H locs 0 0 (MQ below (va_Ql (fun (r : Int64) (u : KS) => r = iL (F_a_countBelow x v).1 ∧ u = (F_a_countBelow x v).2) (kAt dC dI ad cI cJ cZ cR M wl A) A) ([.ref (ad 64), .int (iI v)] : List Value).toArray s 0 0 A) (F0 m 5 ls [])) := by
    intro n
    induction n with
    | zero =>
      skip
      · intro q i i0 i1 fu hres
        exact absurd fu (by omega)
    | succ n ih =>
      skip
      · intro q i i0 i1 fu hres H locs ls hP hD hS hl
        rw [F_a_countBelow_e0] at hres
        refine lv_iload hx hb dX3_countBelow_5 (lv_at hl 3 rfl) ?_
        refine lv_iload_n hx hb dX3_countBelow_7 rfl (lv_at hl 1 rfl) ?_
        refine wi_icmp_ge (tgt := 37) hx hb (by first | assumption | (unfold iR; omega) | exact kR01 (by assumption)) (by first | assumption | (unfold iR; omega) | exact kR01 (by assumption)) dX3_countBelow_8 (by decide) (fun c_8 => ?_) (fun c_8 => ?_)
        · skip
          rw [if_pos c_8] at hres
          refine lv_lload_n hx hb dX3_countBelow_37 rfl (lv_at hl 2 rfl) ?_
          exact W.lret (v := iL (q)) hx hb hr (fun t ht hW => ⟨⟨iL (q), x, rfl, ⟨(by have h9 := congrArg (fun z : Int × KS => iL z.1) hres; exact h9), (by have h9 := congrArg (fun z : Int × KS => z.2) hres; exact h9)⟩, by rw [ht]; exact hP, va_K.moved hW.alike hK, hD⟩, hS.F ht⟩) hS.2.2 dX3_countBelow_38
        · skip
          rw [if_neg c_8] at hres
          refine lv_iload hx hb dX3_countBelow_11 (lv_at hl 3 rfl) ?_
          refine lv_aload_n hx hb dX3_countBelow_13 rfl (lv_at hl 0 rfl) ?_
          refine va_get (D := (dC, dI)) (ci := 3) (v := .ref (ad (69))) (C := RX3) (T := TX3) (N := 10) hx hb hts hinX3 hown hK hP (64) (kg64 (by omega)) rfl 6 (by decide) (hts (.fieldLink RX3 33 "LikeWords$Machine" "counts" "[J") (by decide +kernel)) (fun _ h9 => h9) rfl dX3_countBelow_14 ?_
          refine va_alen (v := iI ((32 : Int))) hx hb hK hP (69) 1 (kgj kC69 (by omega) rfl) rfl (iI_nat _) dX3_countBelow_17 ?_
          refine wi_icmp_ge (tgt := 37) hx hb (by first | assumption | (unfold iR; omega) | exact kR01 (by assumption)) ⟨by decide, by decide⟩ dX3_countBelow_18 (by decide) (fun c_18 => ?_) (fun c_18 => ?_)
          · skip
            rw [if_pos c_18] at hres
            refine lv_lload_n hx hb dX3_countBelow_37 rfl (lv_at hl 2 rfl) ?_
            exact W.lret (v := iL (q)) hx hb hr (fun t ht hW => ⟨⟨iL (q), x, rfl, ⟨(by have h9 := congrArg (fun z : Int × KS => iL z.1) hres; exact h9), (by have h9 := congrArg (fun z : Int × KS => z.2) hres; exact h9)⟩, by rw [ht]; exact hP, va_K.moved hW.alike hK, hD⟩, hS.F ht⟩) hS.2.2 dX3_countBelow_38
          · skip
            rw [if_neg c_18] at hres
            refine lv_lload_n hx hb dX3_countBelow_21 rfl (lv_at hl 2 rfl) ?_
            refine lv_aload_n hx hb dX3_countBelow_22 rfl (lv_at hl 0 rfl) ?_
            refine va_get (D := (dC, dI)) (ci := 3) (v := .ref (ad (69))) (C := RX3) (T := TX3) (N := 10) hx hb hts hinX3 hown hK hP (64) (kg64 (by omega)) rfl 6 (by decide) (hts (.fieldLink RX3 33 "LikeWords$Machine" "counts" "[J") (by decide +kernel)) (fun _ h9 => h9) rfl dX3_countBelow_23 ?_
            refine lv_iload hx hb dX3_countBelow_26 (lv_at hl 3 rfl) ?_
            refine wi_lald (f := (x).2 (69)) (n := kLen (69)) hx hb hK hP (69) 1 (kgj kC69 (by omega) rfl) rfl (i := i) (by omega) (by show _ < ((32 : Nat) : Int); exact (by omega)) (kLen_lt _) dX3_countBelow_28 ?_
            refine wi_ladd hx hb dX3_countBelow_29 ?_
            refine lv_lstore_n (lv' := [(2, .long (iL ((q) + (((x).2 (69)) (i).toNat)))), (0, .ref (ad (64))), (1, .int (iI (v))), (4, .int (iI (i)))]) hx hb dX3_countBelow_30 rfl hl (by decide) rfl (fun ls hl => ?_)
            refine lv_iinc (v := iI ((i) + (1 : Int))) (lv' := [(4, .int (iI ((i) + (1 : Int)))), (2, .long (iL ((q) + (((x).2 (69)) (i).toNat)))), (0, .ref (ad (64))), (1, .int (iI (v)))]) hx hb dX3_countBelow_31 hl (k := 3) rfl (iI_add _ _) (by decide) rfl (fun ls hl => ?_)
            refine lv_goto (tgt := 5) hx hb dX3_countBelow_34 (by decide) ?_
            exact ih  ((q) + (((x).2 (69)) (i).toNat)) ((i) + (1 : Int)) (by omega) (by omega) (by omega) hres _ _ ls hP hD hS (lv_sub hl [2, 3, 1, 0] rfl)
  have key : ∀ (H : Heap) (locs : List Loc), va_P (dC, dI) vwCl (kWd cI cJ cZ cR wl ad M (x)) H → va_S A s.heap H locs → W p l e (headSpec wsX3_countBelow ({ frames := 0, cells := 0, slots := 0, locals := 0 })).room s m ([.ref (ad 64), .int (iI v)] : List Value).toArray below meth c H locs 0 0 (MQ below (va_Ql (fun (r : Int64) (u : KS) => r = iL (F_a_countBelow x v).1 ∧ u = (F_a_countBelow x v).2) (kAt dC dI ad cI cJ cZ cR M wl A) A) ([.ref (ad 64), .int (iI v)] : List Value).toArray s 0 0 A) (F0 m 0 ls []) := by
    intro H locs hP hS
    have hres : F_a_countBelow_s 50 0 (x) (v) ((0 : Int)) ((0 : Int)) = F_a_countBelow x v := rfl
    refine lv_lconst (v := iL 0) hx hb dX3_countBelow_0 (by decide) ?_
    refine lv_lstore_n (lv' := [(2, .long (iL ((0 : Int)))), (0, .ref (ad (64))), (1, .int (iI (v)))]) hx hb dX3_countBelow_1 rfl hl (by decide) rfl (fun ls hl => ?_)
    refine lv_iconst (v := iI (0 : Int)) hx hb dX3_countBelow_2 (by decide) ?_
    refine lv_istore (lv' := [(4, .int (iI ((0 : Int)))), (2, .long (iL ((0 : Int)))), (0, .ref (ad (64))), (1, .int (iI (v)))]) hx hb dX3_countBelow_3 hl (by decide) rfl (fun ls hl => ?_)
    exact (L (50))  ((0 : Int)) ((0 : Int)) (by omega) (by omega) (by omega) hres _ _ ls hP hD hS (lv_sub hl [2, 3, 1, 0] rfl)
  exact key _ _ hP hS
theorem F_a_countBelow_sfr  : ∀ n : Nat, (∀ (y : KS) (v0 : Int) (v1 : Int) (v2 : Int), ksame [] [] y (F_a_countBelow_s n 0 y v0 v1 v2).2) := by
  intro n
  induction n with
  | zero => exact fun y _ _ _ => km_rf _ _ _
  | succ n ih =>
    skip
    · intro y v q i
      rw [F_a_countBelow_e0]
      by_cases hc : (v) ≤ (i)
      · rw [if_pos hc]
        exact (km_rf _ _ _)
      · rw [if_neg hc]
        by_cases hc : ((32 : Int)) ≤ (i)
        · rw [if_pos hc]
          exact (km_rf _ _ _)
        · rw [if_neg hc]
          exact km_tr ((km_rf _ _ _)) (ih (y) (v) ((q) + (((y).2 (69)) (i).toNat)) ((i) + (1 : Int)))
theorem F_a_countBelow_fr (x : KS) (v : Int) : ksame [] [] x (F_a_countBelow x v).2 := by
  unfold F_a_countBelow
  exact km_tr ((km_rf _ _ _)) ((F_a_countBelow_sfr  (50)) (x) (v) ((0 : Int)) ((0 : Int)))
theorem F_a_countBelow_2 (x : KS) (v : Int) : (F_a_countBelow x v).2 = x := km_nil (F_a_countBelow_fr x v)
