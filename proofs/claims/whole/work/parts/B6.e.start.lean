-- deps: B6.d
theorem tw_app {D : va_G} {cl : List vw_C} {A : Nat → Prop} {wa wb : va_W} {H : Heap} (hP : va_P D cl (wa ++ wb) H) (hD : va_D A (wa ++ wb)) : tw D cl A wa wb H := by
  have ga : ∀ (k : Nat) (q : Nat × va_E), wa[k]? = some q → (wa ++ wb)[k]? = some q := fun k q hk => by
    rw [List.getElem?_append_left (List.getElem?_eq_some_iff.mp hk).1]; exact hk
  have gb : ∀ (k : Nat) (q : Nat × va_E), wb[k]? = some q → (wa ++ wb)[wa.length + k]? = some q := fun k q hk => by
    rw [List.getElem?_append_right (by omega), Nat.add_sub_cancel_left]; exact hk
  refine ⟨⟨fun k q hk => hP k q (ga k q hk), fun i j p q hp hq e9 => hD.1 i j p q (ga i p hp) (ga j q hq) e9, fun k q hk => hD.2 k q (ga k q hk)⟩, ⟨fun k q hk => hP _ q (gb k q hk), fun i j p q hp hq e9 => ?_, fun k q hk => hD.2 _ q (gb k q hk)⟩, fun i j p q hp hq e9 => ?_⟩
  · have := hD.1 _ _ p q (gb i p hp) (gb j q hq) e9
    omega
  · have h1 := hD.1 _ _ p q (ga i p hp) (gb j q hq) e9
    have h2 := (List.getElem?_eq_some_iff.mp hp).1
    omega
theorem arr_K {ty : FieldType} {args : Array Value} {s : State} (h : (Cond.arrayClass ty).before args s = true) : ∃ cA : ClassId, ArrOfT s cA ty ∧ s.vm.findClass ("[" ++ ty.toString) = some cA := by
  obtain ⟨c, k, comp, h1, h2, h3⟩ := Cond.arrayClass_spec h
  exact ⟨c, fun n z => ⟨fun k h => (by cases h), k, h2, comp, h3⟩, h1⟩
set_option maxHeartbeats 4000000 in
theorem lw_known {args : Array Value} {s : State} (hts : ∀ w ∈ lw_tbl, w.before args s = true) : ∃ (dC : Nat → ClassId) (dI : Nat → Nat → Nat), ∀ (k : Nat) (q : vw_C), vwCl[k]? = some q → u_Kn s q.1 q.2.1 q.2.2 (dC k) (dI k) := by
  obtain ⟨c0, i0, k0⟩ := u_known (C := RX0) (T := TX0) (N := 15) (n := 15) hts iT_0 (hts _ we_k0)
  obtain ⟨c1, i1, k1⟩ := u_known (C := RX1) (T := TX1) (N := 3) (n := 3) hts iT_1 (hts _ we_k1)
  obtain ⟨c2, i2, k2⟩ := u_known (C := RX2) (T := TX2) (N := 7) (n := 7) hts iT_2 (hts _ we_k2)
  obtain ⟨c3, i3, k3⟩ := u_known (C := RX3) (T := TX3) (N := 10) (n := 10) hts iT_3 (hts _ we_k3)
  obtain ⟨c4, i4, k4⟩ := u_known (C := RX4) (T := TX4) (N := 3) (n := 3) hts iT_4 (hts _ we_k4)
  obtain ⟨c5, i5, k5⟩ := u_known (C := RX5) (T := TX5) (N := 4) (n := 4) hts iT_5 (hts _ we_k5)
  obtain ⟨c6, i6, k6⟩ := u_known (C := RX6) (T := TX6) (N := 6) (n := 6) hts iT_6 (hts _ we_k6)
  obtain ⟨c7, i7, k7⟩ := u_known (C := RX7) (T := TX7) (N := 7) (n := 7) hts iT_7 (hts _ we_k7)
  obtain ⟨c8, i8, k8⟩ := u_known (C := RX8) (T := TX8) (N := 4) (n := 4) hts iT_8 (hts _ we_k8)
  obtain ⟨c9, i9, k9⟩ := u_known (C := RX9) (T := TX9) (N := 3) (n := 3) hts iT_9 (hts _ we_k9)
  obtain ⟨c10, i10, k10⟩ := u_known (C := RX10) (T := TX10) (N := 2) (n := 2) hts iT_10 (hts _ we_k10)
  obtain ⟨c11, i11, k11⟩ := u_known (C := RX11) (T := TX11) (N := 17) (n := 17) hts iT_11 (hts _ we_k11)
  obtain ⟨c12, i12, k12⟩ := u_known (C := RX12) (T := TX12) (N := 34) (n := 34) hts iT_12 (hts _ we_k12)
  refine ⟨fun k => match k with | 0 => c0 | 1 => c1 | 2 => c2 | 3 => c3 | 4 => c4 | 5 => c5 | 6 => c6 | 7 => c7 | 8 => c8 | 9 => c9 | 10 => c10 | 11 => c11 | _ => c12, fun k => match k with | 0 => i0 | 1 => i1 | 2 => i2 | 3 => i3 | 4 => i4 | 5 => i5 | 6 => i6 | 7 => i7 | 8 => i8 | 9 => i9 | 10 => i10 | 11 => i11 | _ => i12, ?_⟩
  intro k q hq
  match k, hq with
  | 0, hq => cases hq; exact k0
  | 1, hq => cases hq; exact k1
  | 2, hq => cases hq; exact k2
  | 3, hq => cases hq; exact k3
  | 4, hq => cases hq; exact k4
  | 5, hq => cases hq; exact k5
  | 6, hq => cases hq; exact k6
  | 7, hq => cases hq; exact k7
  | 8, hq => cases hq; exact k8
  | 9, hq => cases hq; exact k9
  | 10, hq => cases hq; exact k10
  | 11, hq => cases hq; exact k11
  | 12, hq => cases hq; exact k12
  | k + 13, hq => exact absurd (List.getElem?_eq_some_iff.mp hq).1 (by show ¬ k + 13 < 13; omega)
theorem kX0_M (Y : MS) : kM (kX0 Y) = 87 := by
  unfold kM
  exact if_pos rfl
theorem kX0_W (Y : MS) : kWl (kX0 Y) = 0 := rfl
theorem kX0_ce (Y : MS) : lwc (kX0 Y) = 112 := by
  unfold lwc kPo
  rw [if_pos (show (kX0 Y).1 70 5 = 0 from rfl)]
theorem kX0_sl (Y : MS) : lws (kX0 Y) = 85347 := by
  unfold lws kPs
  rw [if_pos (show (kX0 Y).1 70 5 = 0 from rfl)]
set_option maxHeartbeats 4000000 in
set_option maxRecDepth 100000 in
/-- THE LAW, from its entry -/
theorem whole_start {p : Program} {e : Env} {s : State} {m : MethodId} {below : List Frame} {meth : Method} {c : Code} (l : Launch) {b L : Nat} {xs : Nat → Int32} (hL : L ≤ 2048) (C0 : lw_At p s m meth c b L xs) : W p l e room_1 s m #[Value.ref b] below meth c s.heap [] 0 0 (lw_Z below #[Value.ref b] s) (entryFrame m ([Value.ref b] : List Value).toArray 4) := by
  obtain ⟨hx, hb, hr, hml, hown, hts0, hX, hbl, hlocks, hgv⟩ := id C0
  have hb : c.code = cL_law := hb
  have hown : s.vm.findClass RL = some m.cls := hown
  have hts := hts0
  have hA : ∀ q : Nat, s.heap.size ≤ q → lwFr s q := fun _ h => h
  have hNw : kNw s := ⟨va_Nw.of rfl (hts0 _ we_h0), va_Nw.of rfl (hts0 _ we_h3), va_Nw.of rfl (hts0 _ we_h7)⟩
  have hAO : va_AO RX10 s := va_AO.of (hts0 _ we_ao)
  obtain ⟨dC, dI, hKn⟩ := lw_known hts0
  obtain ⟨cI, hI1, hI2⟩ := arr_K (hts0 _ we_aI)
  obtain ⟨cJ, hJ1, hJ2⟩ := arr_K (hts0 _ we_aJ)
  obtain ⟨cZ, hZ1, hZ2⟩ := arr_K (hts0 _ we_aZ)
  have hK : va_K (dC, dI) vwCl [(cI, .int), (cJ, .long), (cZ, .boolean)] s := ⟨hKn, fun k q hq => by
    match k, hq with
    | 0, hq => cases hq; exact ⟨hI1, hI2⟩
    | 1, hq => cases hq; exact ⟨hJ1, hJ2⟩
    | 2, hq => cases hq; exact ⟨hZ1, hZ2⟩
    | k + 3, hq => simp at hq⟩
  have hK0 : va_K (dC, dI) vwCl [] s := hK.sub (tys' := []) [] rfl
  have hS : va_S (lwFr s) s.heap s.heap [] := va_S.rf
  have hP : va_P (dC, dI) vwCl [] s.heap := fun k q h => by simp at h
  have hD : va_D (lwFr s) [] := ⟨fun i j p q h => by simp at h, fun k q h => by simp at h⟩
  have hl := lv_entry ([.ref b]) (n := 4) (Nat.le_of_ble_eq_true rfl)
  rw [lg_entry_eq]
  generalize (lg_sl ([.ref b]) ++ List.replicate (4 - (lg_sl ([.ref b])).length) Slot.unset).toArray = ls at hl ⊢
  have hl : lv_has ls 4 [(0, .ref b)] := hl
  refine va_new (ci := 11) (fs := [.null, .null, .null, .null, .null, .null, .null, .null, .null, .null, .null, .null, .null, .null, .int (iI 0), .int (iI 0), .int (iI 0)]) (C := RX11) (T := TX11) (N := 17) hx hb hts0 iT_11 tyX11 tyX11_ok hown (hts _ we_n11) (hts _ we_k11) (hts _ we_z11) hK hP hD hS hA rfl (fun j hj => by (rcases (show j = 0 ∨ j = 1 ∨ j = 2 ∨ j = 3 ∨ j = 4 ∨ j = 5 ∨ j = 6 ∨ j = 7 ∨ j = 8 ∨ j = 9 ∨ j = 10 ∨ j = 11 ∨ j = 12 ∨ j = 13 ∨ j = 14 ∨ j = 15 ∨ j = 16 by omega) with rfl | rfl | rfl | rfl | rfl | rfl | rfl | rfl | rfl | rfl | rfl | rfl | rfl | rfl | rfl | rfl | rfl) <;> rfl) (show _ ≤ 600000 by omega) (show _ ≤ 7302250 by omega) dL_law_0 (fun q0 H hP hD hS => ?_)
  have hP : va_P (dC, dI) vwCl [(q0, .inr (11, [.null, .null, .null, .null, .null, .null, .null, .null, .null, .null, .null, .null, .null, .null, .int (iI 0), .int (iI 0), .int (iI 0)]))] H := hP
  have hD : va_D (lwFr s) [(q0, .inr (11, [.null, .null, .null, .null, .null, .null, .null, .null, .null, .null, .null, .null, .null, .null, .int (iI 0), .int (iI 0), .int (iI 0)]))] := hD
  refine lv_dup hx hb dL_law_3 rfl ?_
  have hFc : ∀ q, va_A [(q0, .inr (11, [.null, .null, .null, .null, .null, .null, .null, .null, .null, .null, .null, .null, .null, .null, .int (iI 0), .int (iI 0), .int (iI 0)]))] H.size q → lwFr s q := va_free hD hS hA [0] rfl
  refine va_callv (va_runI (As := []) (rest := [.ref q0]) ⟨hx, hb, hml, hown, hts⟩ (n_t_init l dC dI q0 cI cJ cZ H.size) (cwI 0 hts gL_law_X11_init rfl rfl rfl (hts _ we_z11) (hts _ we_m11) (hts _ we_o11) rfl (by decide +kernel) ⟨Nat.le_of_ble_eq_true rfl, Nat.le_of_ble_eq_true rfl⟩) ⟨fun a U g mk q => by obtain ⟨q0, q1, qP, qK, qD, qO⟩ := q; exact ⟨q0, q1, qP, va_K.moved (u := U) (U := U.calling g mk a) (Vm.Alike.refl U.vm) qK, qD, va_AO.moved (u := U) (U := U.calling g mk a) (Vm.Alike.refl U.vm) qO⟩, fun U hU hW => ⟨rfl, by rw [hU], by rw [hU]; exact hP, va_K.moved hW.alike hK, hD.weaken (fun _ _ _ _ => trivial), va_AO.moved hW.alike hAO⟩⟩ rfl rfl hl.1 rfl (lv_room (Nat.le_of_ble_eq_true rfl)) dL_law_4 ⟨(show _ ≤ 600000 by omega), (show _ ≤ 7302250 by omega)⟩) hS (fun q _ h => hFc q h) hFc (fun u1 t H1 locs ht hvm hw hB hz1 hk1 hS => ?_)
  obtain ⟨hP1, hK1, hD1⟩ := hB
  rw [ht] at hP1
  have hK4 : va_K (dC, dI) vwCl (kTy cI cJ cZ u1.2) s := va_K.moved hvm.symm hK1
  have hPk : va_P (dC, dI) vwCl (kL0 cI cJ cZ u1.2 q0 u1.1 (zY 2)) H1 := hP1
  have hDk : va_D (va_A [(q0, .inr (11, [.null, .null, .null, .null, .null, .null, .null, .null, .null, .null, .null, .null, .null, .null, .int (iI 0), .int (iI 0), .int (iI 0)]))] H.size) (kL0 cI cJ cZ u1.2 q0 u1.1 (zY 2)) := hD1
  obtain ⟨hPw, hDv⟩ := kW_new hPk hDk
  have hDw := hDv.weaken (B := lwFr s) (fun _ q _ h => hFc q.1 h)
  clear hP1 hD1 hPk hDk hDv hP hD hFc
  refine lv_astore_n (lv' := [(1, .ref q0), (0, .ref b)]) hx hb dL_law_7 rfl hl (by decide) rfl (fun ls hl => ?_)
  refine va_new (ci := 12) (fs := [.int 0, .null, .null, .int 0, .null, .null, .int 0, .int 0, .null, .null, .int 0, .null, .int 0, .null, .null, .null, .null, .int 0, .null, .null, .null, .null, .null, .null, .int 0, .null, .null, .int 0, .null, .null, .null, .int 0, .null, .null]) (C := RX12) (T := TX12) (N := 34) hx hb hts0 iT_12 tyX12 tyX12_ok hown (hts _ we_n12) (hts _ we_k12) (hts _ we_z12) hK4 hPw hDw hS hA rfl (fun j hj => by (rcases (show j = 0 ∨ j = 1 ∨ j = 2 ∨ j = 3 ∨ j = 4 ∨ j = 5 ∨ j = 6 ∨ j = 7 ∨ j = 8 ∨ j = 9 ∨ j = 10 ∨ j = 11 ∨ j = 12 ∨ j = 13 ∨ j = 14 ∨ j = 15 ∨ j = 16 ∨ j = 17 ∨ j = 18 ∨ j = 19 ∨ j = 20 ∨ j = 21 ∨ j = 22 ∨ j = 23 ∨ j = 24 ∨ j = 25 ∨ j = 26 ∨ j = 27 ∨ j = 28 ∨ j = 29 ∨ j = 30 ∨ j = 31 ∨ j = 32 ∨ j = 33 by omega) with rfl | rfl | rfl | rfl | rfl | rfl | rfl | rfl | rfl | rfl | rfl | rfl | rfl | rfl | rfl | rfl | rfl | rfl | rfl | rfl | rfl | rfl | rfl | rfl | rfl | rfl | rfl | rfl | rfl | rfl | rfl | rfl | rfl | rfl) <;> rfl) (show _ ≤ 600000 by omega) (show _ ≤ 7302250 by omega) dL_law_8 (fun h H hP hD hS => ?_)
  have J := tw_sw (tw_app hP hD)
  clear hP hD hPw hDw
  refine lv_dup hx hb dL_law_11 rfl ?_
  have hFc := tw_F J hS
  have hP := J.1.1
  have hD := J.1.2
  refine va_callv (va_runI (As := []) (rest := [.ref h]) ⟨hx, hb, hml, hown, hts⟩ (c_m_init l dC dI h H.size) (cwI 0 hts gL_law_X12_init rfl rfl rfl (hts _ we_z12) (hts _ we_m12) (hts _ we_o12) rfl (by decide +kernel) ⟨Nat.le_of_ble_eq_true rfl, Nat.le_of_ble_eq_true rfl⟩) ⟨fun a U g mk q => by obtain ⟨q0, q1, qP, qK, qD⟩ := q; exact ⟨q0, q1, qP, va_K.moved (u := U) (U := U.calling g mk a) (Vm.Alike.refl U.vm) qK, qD⟩, fun U hU hW => ⟨rfl, by rw [hU], by rw [hU]; exact hP, va_K.moved hW.alike hK0, hD.weaken (fun _ _ _ _ => trivial)⟩⟩ rfl rfl hl.1 rfl (lv_room (Nat.le_of_ble_eq_true rfl)) dL_law_12 ⟨(show _ ≤ 600000 by omega), (show _ ≤ 7302250 by omega)⟩) hS (fun q _ h => hFc q h) hFc (fun u2 t H1 locs ht hvm hw hB hz1 hk1 hS => ?_)
  obtain ⟨hP1, hK1, hD1⟩ := hB
  rw [ht] at hP1
  have hKm : va_K (dC, dI) vwCl (mTy u2.2.1 u2.2.2.1 u2.2.2.2) s := va_K.moved hvm.symm hK1
  have J2 := tw_sw (tw_to J hk1 hFc hP1 hD1)
  refine lv_astore_n (lv' := [(2, .ref h), (1, .ref q0), (0, .ref b)]) hx hb dL_law_15 rfl hl (by decide) rfl (fun ls hl => ?_)
  refine lv_iconst (v := iI 0) hx hb dL_law_16 (by decide) ?_
  refine lv_istore_n (lv' := [(3, .int (iI 0)), (2, .ref h), (1, .ref q0), (0, .ref b)]) hx hb dL_law_17 rfl hl (by decide) rfl (fun ls hl => ?_)
  have hl4 : lv_has ls 4 [(0, .ref b), (1, .ref q0), (2, .ref h), (3, .int (iI 0))] := lv_sub hl [3, 2, 1, 0] rfl
  refine W.widen (k := lwc (kX0 (zY 2))) (n := lws (kX0 (zY 2))) (by have := kX0_ce (zY 2); omega) (by have := kX0_sl (zY 2); omega) ?_
  have C1 : lwC p s m c dC dI cI cJ cZ u1.2 u2.2.1 u2.2.2.1 u2.2.2.2 b L xs := ⟨⟨hx, hb, hml, hown, hts⟩, ⟨hX, hbl, hL⟩, hK4, hKm, hNw⟩
  refine lw_loop (h := h) (am := u2.1) C1 hr hlocks (L + 1) 0 (Nat.zero_le L) (by omega) (kX0 (zY 2)) mX0 (kAd q0 u1.1) H1 locs ls Rel_0 ?_ hS hl4
  rw [kX0_M, kX0_W]
  exact J2
