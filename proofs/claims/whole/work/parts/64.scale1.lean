-- deps: 03 30 60 63
def z0 : MS := (fun _ => 0, fun _ _ => 0)
def zY (n0 : Int) : MS := (F_z_setLetters z0 n0).2
set_option maxHeartbeats 4000000 in
set_option maxRecDepth 100000 in
/-- LikeWords$Scale.init -/
theorem n_s_init (l : Launch) (dC : Nat → ClassId) (dI : Nat → Nat → Nat) (h : Nat) (cI cJ cZ : ClassId) (sz : Nat)  (n0 : Int) (n1 : 1 ≤ n0) (n4 : n0 ≤ 4) : Met l yX8_init wsX8_init ({ frames := 2, cells := 2, slots := 43, locals := 45 }) (va_Pc [.ref (h), .int (iI (n0))] (fun U => U.heap.size = sz ∧ va_P (dC, dI) vwCl [(h, .inr (8, [.null, .null, .int (iI 0), .int (iI 0)]))] U.heap ∧ va_K (dC, dI) vwCl [(cI, .int), (cJ, .long), (cZ, .boolean)] U ∧ va_D (fun _ => True) [(h, .inr (8, [.null, .null, .int (iI 0), .int (iI 0)]))])) (va_Qv (fun _ : Nat → Nat => True) (fun u t => va_P (dC, dI) vwCl [(h, .inr (8, [.ref (u 0), .ref (u 1), .int (iI ((zY n0).1 2)), .int (iI ((zY n0).1 3))])), ((u 0), .inl (cI, 21, .inl (iA ((zY n0).2 0)))), ((u 1), .inl (cI, 22, .inl (iA ((zY n0).2 1))))] t.heap ∧ va_K (dC, dI) vwCl [(cI, .int), (cJ, .long), (cZ, .boolean)] t ∧ va_D (va_A [(h, .inr (8, [.null, .null, .int (iI 0), .int (iI 0)]))] sz) [(h, .inr (8, [.ref (u 0), .ref (u 1), .int (iI ((zY n0).1 2)), .int (iI ((zY n0).1 3))])), ((u 0), .inl (cI, 21, .inl (iA ((zY n0).2 0)))), ((u 1), .inl (cI, 22, .inl (iA ((zY n0).2 1))))]) (va_A [(h, .inr (8, [.null, .null, .int (iI 0), .int (iI 0)]))] sz)) 2 (43) (va_A [(h, .inr (8, [.null, .null, .int (iI 0), .int (iI 0)]))] sz) := by
  refine Met.ofW (cc := cX8_init) (maxL := 2) (ret := none) (by decide) rfl ?_
  intro p e s m args below meth c s₁ B hml hv
  obtain ⟨rfl, hsz, hP, hK, hD0⟩ := hv
  have hx := B.exec
  have hb := B.bytes
  have hr := B.returns
  have hts := atoms_spec (ws := wsX8_init) B.pre
  have hown : s.vm.findClass RX8 = some m.cls := findClass_of_methodNamed B.named
  have hlocks := B.notSynchronized
  have hin2 : meth.name = "<init>" := (name_of_methodNamed B.named B.method).1
  have hinX : ∀ w ∈ u_ws RX8 TX8 4, w ∈ wsX8_init := by decide +kernel
  subst hsz
  have hD := hD0.self (sz := s.heap.size)
  generalize hAe : va_A [(h, .inr (8, [.null, .null, .int (iI 0), .int (iI 0)]))] s.heap.size = A at hD ⊢
  have hA : ∀ q : Nat, s.heap.size ≤ q → A q := fun q h => by rw [← hAe]; exact Or.inr h
  have hS : va_S A s.heap s.heap [] := va_S.rf
  have hl := lv_entry ([.ref (h), .int (iI (n0))]) (n := 2) (Nat.le_of_ble_eq_true rfl)
  rw [lg_entry_eq]
  generalize (lg_sl ([.ref (h), .int (iI (n0))]) ++ List.replicate (2 - (lg_sl ([.ref (h), .int (iI (n0))])).length) Slot.unset).toArray = ls at hl ⊢
  have hl : lv_has ls 2 [(0, .ref (h)), (1, .int (iI (n0)))] := hl
  have hP : va_P (dC, dI) vwCl [(h, .inr (8, [.null, .null, .int (iI 0), .int (iI 0)]))] s.heap := hP
  refine lv_aload_n hx hb dX8_init_0 rfl (lv_at hl 0 rfl) ?_
  refine W.objInit hx hb hown (hts (.methodLink RX8 3 objectInit) (by decide +kernel)) (hts (.instanceMethod objectInit) (by decide +kernel)) (hts (.code objectInit ⟨#[0xb1]⟩ 1 none) (by decide +kernel)) rfl (by rw [hml]; exact hl.1) rfl dX8_init_1 (Nat.le_of_ble_eq_true rfl) (Nat.le_of_ble_eq_true rfl) ?_
  refine W.eq (g2 := F0 m 4 ls []) rfl ?_
  refine lv_aload_n hx hb dX8_init_4 rfl (lv_at hl 0 rfl) ?_
  refine lv_bipush (v := iI (21 : Int)) hx hb dX8_init_5 (by decide) ?_
  refine wk_newI (N' := 21) (n := (21 : Int)) hx hb (hts (.arrayClass .int) (by decide +kernel)) hK hP hD hS hA 0 rfl (by decide) (by omega) (show _ ≤ 2 by omega) (show _ ≤ (43) by omega) dX8_init_7 (fun q7_5 H hP hD hS => ?_)
  have hP : va_P (dC, dI) vwCl [(h, .inr (8, [.null, .null, .int (iI 0), .int (iI 0)])), (q7_5, .inl (cI, 21, .inl (iA (fun _ => 0))))] H := hP
  have hD : va_D A [(h, .inr (8, [.null, .null, .int (iI 0), .int (iI 0)])), (q7_5, .inl (cI, 21, .inl (iA (fun _ => 0))))] := hD
  refine W.widen (k := 1) (n := 21) (by omega) (by omega) ?_
  refine va_putF (D := (dC, dI)) (ci := 8) (v := .ref (q7_5)) (ty := (.array .int)) (C := RX8) (T := TX8) (N := 4) hx hb hts hinX tyX8 tyX8_ok nmX8 hown hK hP hD hS 0 rfl rfl 0 (by decide) (hts (.fieldLink RX8 9 "LikeWords$Scale" "powers" "[I") (by decide +kernel)) (fun _ h9 => h9) rfl hin2 rfl (by decide +kernel) rfl rfl (Nat.le_of_ble_eq_true rfl) dX8_init_9 (fun H locs hP hD hS => ?_)
  have hP : va_P (dC, dI) vwCl [(h, .inr (8, [.ref (q7_5), .null, .int (iI 0), .int (iI 0)])), (q7_5, .inl (cI, 21, .inl (iA (fun _ => 0))))] H := hP
  have hD : va_D A [(h, .inr (8, [.ref (q7_5), .null, .int (iI 0), .int (iI 0)])), (q7_5, .inl (cI, 21, .inl (iA (fun _ => 0))))] := hD
  refine lv_aload_n hx hb dX8_init_12 rfl (lv_at hl 0 rfl) ?_
  refine lv_bipush (v := iI (22 : Int)) hx hb dX8_init_13 (by decide) ?_
  refine wk_newI (N' := 22) (n := (22 : Int)) hx hb (hts (.arrayClass .int) (by decide +kernel)) hK hP hD hS hA 0 rfl (by decide) (by omega) (show _ ≤ 2 by omega) (show _ ≤ (43) by omega) dX8_init_15 (fun q15_9 H hP hD hS => ?_)
  have hP : va_P (dC, dI) vwCl [(h, .inr (8, [.ref (q7_5), .null, .int (iI 0), .int (iI 0)])), (q7_5, .inl (cI, 21, .inl (iA (fun _ => 0)))), (q15_9, .inl (cI, 22, .inl (iA (fun _ => 0))))] H := hP
  have hD : va_D A [(h, .inr (8, [.ref (q7_5), .null, .int (iI 0), .int (iI 0)])), (q7_5, .inl (cI, 21, .inl (iA (fun _ => 0)))), (q15_9, .inl (cI, 22, .inl (iA (fun _ => 0))))] := hD
  refine W.widen (k := 2) (n := 43) (by omega) (by omega) ?_
  refine va_putF (D := (dC, dI)) (ci := 8) (v := .ref (q15_9)) (ty := (.array .int)) (C := RX8) (T := TX8) (N := 4) hx hb hts hinX tyX8 tyX8_ok nmX8 hown hK hP hD hS 0 rfl rfl 1 (by decide) (hts (.fieldLink RX8 15 "LikeWords$Scale" "firsts" "[I") (by decide +kernel)) (fun _ h9 => h9) rfl hin2 rfl (by decide +kernel) rfl rfl (Nat.le_of_ble_eq_true rfl) dX8_init_17 (fun H locs hP hD hS => ?_)
  have hP : va_P (dC, dI) vwCl [(h, .inr (8, [.ref (q7_5), .ref (q15_9), .int (iI 0), .int (iI 0)])), (q7_5, .inl (cI, 21, .inl (iA (fun _ => 0)))), (q15_9, .inl (cI, 22, .inl (iA (fun _ => 0))))] H := hP
  have hD : va_D A [(h, .inr (8, [.ref (q7_5), .ref (q15_9), .int (iI 0), .int (iI 0)])), (q7_5, .inl (cI, 21, .inl (iA (fun _ => 0)))), (q15_9, .inl (cI, 22, .inl (iA (fun _ => 0))))] := hD
  refine lv_aload_n hx hb dX8_init_20 rfl (lv_at hl 0 rfl) ?_
  refine lv_iload_n hx hb dX8_init_21 rfl (lv_at hl 1 rfl) ?_
  have hPc : va_P (dC, dI) vwCl (zW h (fun k => if k = 0 then q7_5 else q15_9) cI cJ cZ z0) H := hP
  have hDc : va_D A (zW h (fun k => if k = 0 then q7_5 else q15_9) cI cJ cZ z0) := hD
  have hFc : ∀ q, va_A (zW h (fun k => if k = 0 then q7_5 else q15_9) cI cJ cZ z0) H.size q → A q := fun q hq => Or.elim hq (fun ⟨k, e, hk⟩ => hDc.2 k (q, e) hk) (fun hk => hA q (Nat.le_trans hS.1 hk))
  refine va_callv (va_runV (b := h) (As := [.int (iI (n0))]) (rest := []) ⟨hx, hb, hml, hown, hts⟩ (c_z_setLetters l dC dI h (fun k => if k = 0 then q7_5 else q15_9) cI cJ cZ H.size z0 (n0) n1 n4) (cwV 1 hts gX8_init_X8_setLetters rfl rfl rfl (by decide +kernel) ⟨Nat.le_of_ble_eq_true rfl, Nat.le_of_ble_eq_true rfl⟩) ⟨fun a U g mk q => by obtain ⟨q0, q1, qP, qK, qD⟩ := q; exact ⟨q0, q1, qP, va_K.moved (u := U) (U := U.calling g mk a) (Vm.Alike.refl U.vm) qK, qD⟩, va_recv hK hP (ci := 8) (q0 := 0) rfl rfl, fun U hU hW => ⟨rfl, by rw [hU], by rw [hU]; exact hPc, va_K.moved hW.alike hK, hDc.weaken (fun _ _ _ _ => trivial)⟩⟩ rfl rfl hl.1 rfl (lv_room (Nat.le_of_ble_eq_true rfl)) dX8_init_22 ⟨Nat.le_of_ble_eq_true rfl, Nat.le_of_ble_eq_true rfl⟩) hS (fun q _ h => hFc q h) hFc (fun u9 t H1 locs ht hvm hw hB hz1 hk1 hS => ?_)
  obtain ⟨hP1, hK1, hD1⟩ := hB
  rw [ht] at hP1
  rw [hw] at hP1 hD1
  have hP := hP1
  have hD := hD1.weaken (B := A) (fun _ q _ h => hFc q.1 h)
  generalize H1 = H at hP hS ⊢
  have hP : va_P (dC, dI) vwCl [(h, .inr (8, [.ref (q7_5), .ref (q15_9), .int (iI ((zY n0).1 2)), .int (iI ((zY n0).1 3))])), (q7_5, .inl (cI, 21, .inl (iA ((zY n0).2 0)))), (q15_9, .inl (cI, 22, .inl (iA ((zY n0).2 1))))] H := hP
  have hD : va_D A [(h, .inr (8, [.ref (q7_5), .ref (q15_9), .int (iI ((zY n0).1 2)), .int (iI ((zY n0).1 3))])), (q7_5, .inl (cI, 21, .inl (iA ((zY n0).2 0)))), (q15_9, .inl (cI, 22, .inl (iA ((zY n0).2 1))))] := hD
  have hP9 := hP.sub (ws' := [(h, .inr (8, [.ref (q7_5), .ref (q15_9), .int (iI ((zY n0).1 2)), .int (iI ((zY n0).1 3))])), (q7_5, .inl (cI, 21, .inl (iA ((zY n0).2 0)))), (q15_9, .inl (cI, 22, .inl (iA ((zY n0).2 1))))]) [0, 1, 2] rfl
  have hD9 := hD.sub (ws' := [(h, .inr (8, [.ref (q7_5), .ref (q15_9), .int (iI ((zY n0).1 2)), .int (iI ((zY n0).1 3))])), (q7_5, .inl (cI, 21, .inl (iA ((zY n0).2 0)))), (q15_9, .inl (cI, 22, .inl (iA ((zY n0).2 1))))]) [0, 1, 2] (by decide) rfl
  exact W.vret hx hb hr (fun t ht hW => ⟨⟨(fun k9 => if k9 = 0 then q7_5 else if k9 = 1 then q15_9 else 0), rfl, trivial, by rw [ht]; exact hP9, va_K.moved hW.alike hK, hD9⟩, hS.F ht⟩) hS.2.2 dX8_init_25
