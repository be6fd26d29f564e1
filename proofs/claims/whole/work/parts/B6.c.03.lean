-- deps: B6.b
section LW
variable {p : Program} {l : Launch} {e : Env} {s : State} {m : MethodId} {below : List Frame} {meth : Method} {c : Code} {dC : Nat → ClassId} {dI : Nat → Nat → Nat} {cI cJ cZ cR eI eJ eZ : ClassId} {b L : Nat} {xs : Nat → Int32} {h : Nat} {am ad : Nat → Nat} {X : KS} {Y : MS} {H : Heap} {locs : List Loc} {ls : Array Slot} {Q : State → Prop} {i : Nat}
set_option maxHeartbeats 4000000 in
set_option maxRecDepth 100000 in
theorem lc_states (C0 : lwC p s m c dC dI cI cJ cZ cR eI eJ eZ b L xs) (R : Rel X Y) (J : tw (dC, dI) vwCl (lwFr s) (kWd cI cJ cZ cR (kWl X) ad (kM X) X) (mW h am eI eJ eZ Y) H) (hS : va_S (lwFr s) s.heap H locs) (hi : i + 4 ≤ L) (hl : lv_has ls 4 [(0, .ref b), (1, .ref (ad 0)), (2, .ref h), (3, .int (iI (i : Int)))]) (kk : lwK p l e s m below meth c dC dI cI cJ cZ cR eI eJ eZ b h am ls Q (ad 0)) : W p l e room_1 s m #[Value.ref b] below meth c H locs (lwc X) (lws X) Q (F0 m 523 ls []) := by
  have E : (F_t_states X ).1 = (F_m_states Y ).1 ∧ Rel (F_t_states X ).2 (F_m_states Y ).2 := ⟨states_1 R, by rw [F_t_states_2, F_m_states_2]; exact R⟩
  have G : kG X (F_t_states X ).2 := kG_of (F_t_states_fr X ) (by first | decide | (intro h9; simp at h9; done) | (intro h9; simp at h9; omega)) (by first | decide | (intro h9; simp at h9; done) | (intro h9; simp at h9; omega))
  refine lv_aload_n C0.1.1 C0.1.2.1 dL_law_523 rfl (lv_at hl 1 rfl) ?_
  refine lc_ti (X := X) (Z := (F_t_states X ).2) (r := (F_t_states X ).1) (As := []) (rest := []) C0 J hS hl.1 (kQ_i (c_t_states l dC dI ad cI cJ cZ cR (kM X) (kWl X) H.size X  (kM_ge X) (R_s R).1 (R_s R).2 (R_p R)) rfl rfl G) (cwV 0 C0.1.2.2.2.2 gL_law_X11_states rfl rfl rfl (by decide +kernel) ⟨Nat.le_of_ble_eq_true rfl, Nat.le_of_ble_eq_true rfl⟩) rfl rfl (Nat.le_of_ble_eq_true rfl) dL_law_524 (lwc_G G) (lws_G G) (fun H locs ad1 h0 J hS => ?_)
  refine lv_aload_n C0.1.1 C0.1.2.1 dL_law_527 rfl (lv_at hl 2 rfl) ?_
  refine lc_mi (V := (F_m_states Y ).2) (r := (F_m_states Y ).1) (As := []) (rest := [.int (iI (F_t_states X ).1)]) C0 J hS hl.1 (Nat.le_trans (lwc_le _) (by decide)) (Nat.le_trans (lws_le _) (by decide)) (c_m_states l dC dI h am eI eJ eZ H.size Y  (M_sn R) (M_ic R)) (cwV 0 C0.1.2.2.2.2 gL_law_X12_states rfl rfl rfl (by decide +kernel) ⟨Nat.le_of_ble_eq_true rfl, Nat.le_of_ble_eq_true rfl⟩) rfl rfl (Nat.le_of_ble_eq_true rfl) dL_law_528 (fun H locs J hS => ?_)
  rw [← E.1]
  refine lc_eq C0 dL_law_531 (by decide) ?_
  exact kk _ _ ad1 H locs E.2 h0 J hS
set_option maxHeartbeats 4000000 in
set_option maxRecDepth 100000 in
theorem lc_leads (C0 : lwC p s m c dC dI cI cJ cZ cR eI eJ eZ b L xs) (R : Rel X Y) (J : tw (dC, dI) vwCl (lwFr s) (kWd cI cJ cZ cR (kWl X) ad (kM X) X) (mW h am eI eJ eZ Y) H) (hS : va_S (lwFr s) s.heap H locs) (hi : i + 4 ≤ L) (hl : lv_has ls 4 [(0, .ref b), (1, .ref (ad 0)), (2, .ref h), (3, .int (iI (i : Int)))]) (kk : lwK p l e s m below meth c dC dI cI cJ cZ cR eI eJ eZ b h am ls Q (ad 0)) : W p l e room_1 s m #[Value.ref b] below meth c H locs (lwc X) (lws X) Q (F0 m 536 ls []) := by
  have E : (F_t_leads X (sc xs (i + 1)) (sc xs (i + 2))).1 = (F_m_leads Y (sc xs (i + 1)) (sc xs (i + 2))).1 ∧ Rel (F_t_leads X (sc xs (i + 1)) (sc xs (i + 2))).2 (F_m_leads Y (sc xs (i + 1)) (sc xs (i + 2))).2 := ⟨leads_1 R _ _, by rw [F_t_leads_2, F_m_leads_2]; exact R⟩
  have G : kG X (F_t_leads X (sc xs (i + 1)) (sc xs (i + 2))).2 := kG_of (F_t_leads_fr X (sc xs (i + 1)) (sc xs (i + 2))) (by first | decide | (intro h9; simp at h9; done) | (intro h9; simp at h9; omega)) (by first | decide | (intro h9; simp at h9; done) | (intro h9; simp at h9; omega))
  refine lv_aload_n C0.1.1 C0.1.2.1 dL_law_536 rfl (lv_at hl 1 rfl) ?_
  refine lc_ld C0 hS hl (k := 1) rfl (by omega) dL_law_537 dL_law_538 dL_law_539 dL_law_540 dL_law_541 ?_
  refine lc_ld C0 hS hl (k := 2) rfl (by omega) dL_law_542 dL_law_543 dL_law_544 dL_law_545 dL_law_546 ?_
  refine lc_ti (X := X) (Z := (F_t_leads X (sc xs (i + 1)) (sc xs (i + 2))).2) (r := (F_t_leads X (sc xs (i + 1)) (sc xs (i + 2))).1) (As := [.int (iI (sc xs (i + 1))), .int (iI (sc xs (i + 2)))]) (rest := []) C0 J hS hl.1 (kQ_i (c_t_leads l dC dI ad cI cJ cZ cR (kM X) (kWl X) H.size X (sc xs (i + 1)) (sc xs (i + 2)) (kM_ge X) (R_s R).1 (R_s R).2 (R_p R) (R_ma R) (R_l2 R) (sc_R _ _) (sc_R _ _)) rfl rfl G) (cwV 2 C0.1.2.2.2.2 gL_law_X11_leads rfl rfl rfl (by decide +kernel) ⟨Nat.le_of_ble_eq_true rfl, Nat.le_of_ble_eq_true rfl⟩) rfl rfl (Nat.le_of_ble_eq_true rfl) dL_law_547 (lwc_G G) (lws_G G) (fun H locs ad1 h0 J hS => ?_)
  refine lv_aload_n C0.1.1 C0.1.2.1 dL_law_550 rfl (lv_at hl 2 rfl) ?_
  refine lc_ld C0 hS hl (k := 1) rfl (by omega) dL_law_551 dL_law_552 dL_law_553 dL_law_554 dL_law_555 ?_
  refine lc_ld C0 hS hl (k := 2) rfl (by omega) dL_law_556 dL_law_557 dL_law_558 dL_law_559 dL_law_560 ?_
  refine lc_mi (V := (F_m_leads Y (sc xs (i + 1)) (sc xs (i + 2))).2) (r := (F_m_leads Y (sc xs (i + 1)) (sc xs (i + 2))).1) (As := [.int (iI (sc xs (i + 1))), .int (iI (sc xs (i + 2)))]) (rest := [.int (iI (F_t_leads X (sc xs (i + 1)) (sc xs (i + 2))).1)]) C0 J hS hl.1 (Nat.le_trans (lwc_le _) (by decide)) (Nat.le_trans (lws_le _) (by decide)) (d_m_leads l dC dI h am eI eJ eZ H.size Y (sc xs (i + 1)) (sc xs (i + 2)) (M_sn R) (M_ic R) (sc_R _ _) (sc_R _ _) (M_lt R) (M_nn R) (fun q9 g0 g1 c0 c1 => ((M_au R q9).2 _ _ g0 g1 c0 c1).1)) (cwV 2 C0.1.2.2.2.2 gL_law_X12_leads rfl rfl rfl (by decide +kernel) ⟨Nat.le_of_ble_eq_true rfl, Nat.le_of_ble_eq_true rfl⟩) rfl rfl (Nat.le_of_ble_eq_true rfl) dL_law_561 (fun H locs J hS => ?_)
  rw [← E.1]
  refine lc_eq C0 dL_law_564 (by decide) ?_
  exact kk _ _ ad1 H locs E.2 h0 J hS
set_option maxHeartbeats 4000000 in
set_option maxRecDepth 100000 in
theorem lc_count (C0 : lwC p s m c dC dI cI cJ cZ cR eI eJ eZ b L xs) (R : Rel X Y) (J : tw (dC, dI) vwCl (lwFr s) (kWd cI cJ cZ cR (kWl X) ad (kM X) X) (mW h am eI eJ eZ Y) H) (hS : va_S (lwFr s) s.heap H locs) (hi : i + 4 ≤ L) (hl : lv_has ls 4 [(0, .ref b), (1, .ref (ad 0)), (2, .ref h), (3, .int (iI (i : Int)))]) (kk : lwK p l e s m below meth c dC dI cI cJ cZ cR eI eJ eZ b h am ls Q (ad 0)) : W p l e room_1 s m #[Value.ref b] below meth c H locs (lwc X) (lws X) Q (F0 m 569 ls []) := by
  have E : (F_t_count X (sc xs (i + 1))).1 = (F_m_count Y (sc xs (i + 1))).1 ∧ Rel (F_t_count X (sc xs (i + 1))).2 (F_m_count Y (sc xs (i + 1))).2 := ⟨count_1 R _, by rw [F_t_count_2, F_m_count_2]; exact R⟩
  have G : kG X (F_t_count X (sc xs (i + 1))).2 := kG_of (F_t_count_fr X (sc xs (i + 1))) (by first | decide | (intro h9; simp at h9; done) | (intro h9; simp at h9; omega)) (by first | decide | (intro h9; simp at h9; done) | (intro h9; simp at h9; omega))
  refine lv_aload_n C0.1.1 C0.1.2.1 dL_law_569 rfl (lv_at hl 1 rfl) ?_
  refine lc_ld C0 hS hl (k := 1) rfl (by omega) dL_law_570 dL_law_571 dL_law_572 dL_law_573 dL_law_574 ?_
  refine lc_tl (X := X) (Z := (F_t_count X (sc xs (i + 1))).2) (r := (F_t_count X (sc xs (i + 1))).1) (As := [.int (iI (sc xs (i + 1)))]) (rest := []) C0 J hS hl.1 (kQ_l (c_t_count l dC dI ad cI cJ cZ cR (kM X) (kWl X) H.size X (sc xs (i + 1)) (kM_ge X) (R_s R).1 (R_s R).2 (R_p R) (sc_R _ _)) rfl rfl G) (cwV 1 C0.1.2.2.2.2 gL_law_X11_count rfl rfl rfl (by decide +kernel) ⟨Nat.le_of_ble_eq_true rfl, Nat.le_of_ble_eq_true rfl⟩) rfl rfl (Nat.le_of_ble_eq_true rfl) dL_law_575 (lwc_G G) (lws_G G) (fun H locs ad1 h0 J hS => ?_)
  refine lv_aload_n C0.1.1 C0.1.2.1 dL_law_578 rfl (lv_at hl 2 rfl) ?_
  refine lc_ld C0 hS hl (k := 1) rfl (by omega) dL_law_579 dL_law_580 dL_law_581 dL_law_582 dL_law_583 ?_
  refine lc_ml (V := (F_m_count Y (sc xs (i + 1))).2) (r := (F_m_count Y (sc xs (i + 1))).1) (As := [.int (iI (sc xs (i + 1)))]) (rest := [.long (iL (F_t_count X (sc xs (i + 1))).1)]) C0 J hS hl.1 (Nat.le_trans (lwc_le _) (by decide)) (Nat.le_trans (lws_le _) (by decide)) (c_m_count l dC dI h am eI eJ eZ H.size Y (sc xs (i + 1)) (M_sn R) (M_ic R) (sc_R _ _)) (cwV 1 C0.1.2.2.2.2 gL_law_X12_count rfl rfl rfl (by decide +kernel) ⟨Nat.le_of_ble_eq_true rfl, Nat.le_of_ble_eq_true rfl⟩) rfl rfl (Nat.le_of_ble_eq_true rfl) dL_law_584 (fun H locs J hS => ?_)
  rw [← E.1]
  refine lc_leq C0 dL_law_587 dL_law_588 (by decide) ?_
  exact kk _ _ ad1 H locs E.2 h0 J hS
set_option maxHeartbeats 4000000 in
set_option maxRecDepth 100000 in
theorem lc_size (C0 : lwC p s m c dC dI cI cJ cZ cR eI eJ eZ b L xs) (R : Rel X Y) (J : tw (dC, dI) vwCl (lwFr s) (kWd cI cJ cZ cR (kWl X) ad (kM X) X) (mW h am eI eJ eZ Y) H) (hS : va_S (lwFr s) s.heap H locs) (hi : i + 4 ≤ L) (hl : lv_has ls 4 [(0, .ref b), (1, .ref (ad 0)), (2, .ref h), (3, .int (iI (i : Int)))]) (kk : lwK p l e s m below meth c dC dI cI cJ cZ cR eI eJ eZ b h am ls Q (ad 0)) : W p l e room_1 s m #[Value.ref b] below meth c H locs (lwc X) (lws X) Q (F0 m 593 ls []) := by
  have E : (F_t_size X ).1 = (F_m_size Y ).1 ∧ Rel (F_t_size X ).2 (F_m_size Y ).2 := ⟨size_1 R, by rw [F_t_size_2]; exact size_R R⟩
  have G : kG X (F_t_size X ).2 := kG_of (F_t_size_fr X ) (by first | decide | (intro h9; simp at h9; done) | (intro h9; simp at h9; omega)) (by first | decide | (intro h9; simp at h9; done) | (intro h9; simp at h9; omega))
  refine lv_aload_n C0.1.1 C0.1.2.1 dL_law_593 rfl (lv_at hl 1 rfl) ?_
  refine lc_tl (X := X) (Z := (F_t_size X ).2) (r := (F_t_size X ).1) (As := []) (rest := []) C0 J hS hl.1 (kQ_l (c_t_size l dC dI ad cI cJ cZ cR (kM X) (kWl X) H.size X  (kM_ge X) (R_s R).1 (R_s R).2 (R_p R) (R_j R).2.2.2.2 (R_rc R)) rfl rfl G) (cwV 0 C0.1.2.2.2.2 gL_law_X11_size rfl rfl rfl (by decide +kernel) ⟨Nat.le_of_ble_eq_true rfl, Nat.le_of_ble_eq_true rfl⟩) rfl rfl (Nat.le_of_ble_eq_true rfl) dL_law_594 (lwc_G G) (lws_G G) (fun H locs ad1 h0 J hS => ?_)
  refine lv_aload_n C0.1.1 C0.1.2.1 dL_law_597 rfl (lv_at hl 2 rfl) ?_
  refine lc_ml (V := (F_m_size Y ).2) (r := (F_m_size Y ).1) (As := []) (rest := [.long (iL (F_t_size X ).1)]) C0 J hS hl.1 (Nat.le_trans (lwc_le _) (by decide)) (Nat.le_trans (lws_le _) (by decide)) (d_m_size l dC dI h am eI eJ eZ H.size Y  (M_sn R) (M_ic R) (M_au R) R.2.1.2.2.1.1 R.2.1.2.2.1.2) (cwV 0 C0.1.2.2.2.2 gL_law_X12_size rfl rfl rfl (by decide +kernel) ⟨Nat.le_of_ble_eq_true rfl, Nat.le_of_ble_eq_true rfl⟩) rfl rfl (Nat.le_of_ble_eq_true rfl) dL_law_598 (fun H locs J hS => ?_)
  rw [← E.1]
  refine lc_leq C0 dL_law_601 dL_law_602 (by decide) ?_
  exact kk _ _ ad1 H locs E.2 h0 J hS
set_option maxHeartbeats 4000000 in
set_option maxRecDepth 100000 in
theorem lc_nth (C0 : lwC p s m c dC dI cI cJ cZ cR eI eJ eZ b L xs) (R : Rel X Y) (J : tw (dC, dI) vwCl (lwFr s) (kWd cI cJ cZ cR (kWl X) ad (kM X) X) (mW h am eI eJ eZ Y) H) (hS : va_S (lwFr s) s.heap H locs) (hi : i + 4 ≤ L) (hl : lv_has ls 4 [(0, .ref b), (1, .ref (ad 0)), (2, .ref h), (3, .int (iI (i : Int)))]) (kk : lwK p l e s m below meth c dC dI cI cJ cZ cR eI eJ eZ b h am ls Q (ad 0)) : W p l e room_1 s m #[Value.ref b] below meth c H locs (lwc X) (lws X) Q (F0 m 607 ls []) := by
  have E : (F_t_nth X (sn2 xs (i + 1) (i + 2)) (sc xs (i + 3))).1 = (F_m_nth Y (sn2 xs (i + 1) (i + 2)) (sc xs (i + 3))).1 ∧ Rel (F_t_nth X (sn2 xs (i + 1) (i + 2)) (sc xs (i + 3))).2 (F_m_nth Y (sn2 xs (i + 1) (i + 2)) (sc xs (i + 3))).2 := nth_R R (sn2_R _ _ _)
  have G : kG X (F_t_nth X (sn2 xs (i + 1) (i + 2)) (sc xs (i + 3))).2 := kG_of (F_t_nth_fr X (sn2 xs (i + 1) (i + 2)) (sc xs (i + 3))) (by first | decide | (intro h9; simp at h9; done) | (intro h9; simp at h9; omega)) (by first | decide | (intro h9; simp at h9; done) | (intro h9; simp at h9; omega))
  refine lv_aload_n C0.1.1 C0.1.2.1 dL_law_607 rfl (lv_at hl 1 rfl) ?_
  refine lc_ld C0 hS hl (k := 1) rfl (by omega) dL_law_608 dL_law_609 dL_law_610 dL_law_611 dL_law_612 ?_
  refine wi_i2l C0.1.1 C0.1.2.1 (sc_R _ _) dL_law_613 ?_
  refine lv_bipush (v := iI 32) C0.1.1 C0.1.2.1 dL_law_614 (by decide) ?_
  refine wk_lshl C0.1.1 C0.1.2.1 dL_law_616 ?_
  refine lc_ld C0 hS hl (k := 2) rfl (by omega) dL_law_617 dL_law_618 dL_law_619 dL_law_620 dL_law_621 ?_
  refine wi_i2l C0.1.1 C0.1.2.1 (sc_R _ _) dL_law_622 ?_
  refine lv_ldc2 (v := iL 4294967295) C0.1.1 C0.1.2.1 C0.1.2.2.2.1 (C0.1.2.2.2.2 _ we_c) dL_law_623 ?_
  refine wk_land C0.1.1 C0.1.2.1 dL_law_626 ?_
  refine wk_lor C0.1.1 C0.1.2.1 dL_law_627 ?_
  refine lc_ld C0 hS hl (k := 3) rfl (by omega) dL_law_628 dL_law_629 dL_law_630 dL_law_631 dL_law_632 ?_
  refine lc_ti (X := X) (Z := (F_t_nth X (sn2 xs (i + 1) (i + 2)) (sc xs (i + 3))).2) (r := (F_t_nth X (sn2 xs (i + 1) (i + 2)) (sc xs (i + 3))).1) (As := [.long (iL (sn2 xs (i + 1) (i + 2))), .int (iI (sc xs (i + 3)))]) (rest := []) C0 J hS hl.1 (kQ_i (d_t_nth l dC dI ad cI cJ cZ cR (kM X) (kWl X) H.size X (sn2 xs (i + 1) (i + 2)) (sc xs (i + 3)) (kM_ge X) (R_s R).1 (R_s R).2 (R_p R) (R_ma R) (R_l2 R) (fun q9 => stE_ms (R_mc R q9).2.2.1) (R_j R).2.2.1 (R_h0 R) (R_j R).2.2.2.1 (KI_su2 R.1) (sc_R _ _) (sn2_R _ _ _)) rfl rfl G) (cwV 2 C0.1.2.2.2.2 gL_law_X11_nth rfl rfl rfl (by decide +kernel) ⟨Nat.le_of_ble_eq_true rfl, Nat.le_of_ble_eq_true rfl⟩) rfl rfl (Nat.le_of_ble_eq_true rfl) dL_law_633 (lwc_G G) (lws_G G) (fun H locs ad1 h0 J hS => ?_)
  refine lv_aload_n C0.1.1 C0.1.2.1 dL_law_636 rfl (lv_at hl 2 rfl) ?_
  refine lc_ld C0 hS hl (k := 1) rfl (by omega) dL_law_637 dL_law_638 dL_law_639 dL_law_640 dL_law_641 ?_
  refine wi_i2l C0.1.1 C0.1.2.1 (sc_R _ _) dL_law_642 ?_
  refine lv_bipush (v := iI 32) C0.1.1 C0.1.2.1 dL_law_643 (by decide) ?_
  refine wk_lshl C0.1.1 C0.1.2.1 dL_law_645 ?_
  refine lc_ld C0 hS hl (k := 2) rfl (by omega) dL_law_646 dL_law_647 dL_law_648 dL_law_649 dL_law_650 ?_
  refine wi_i2l C0.1.1 C0.1.2.1 (sc_R _ _) dL_law_651 ?_
  refine lv_ldc2 (v := iL 4294967295) C0.1.1 C0.1.2.1 C0.1.2.2.2.1 (C0.1.2.2.2.2 _ we_c) dL_law_652 ?_
  refine wk_land C0.1.1 C0.1.2.1 dL_law_655 ?_
  refine wk_lor C0.1.1 C0.1.2.1 dL_law_656 ?_
  refine lc_ld C0 hS hl (k := 3) rfl (by omega) dL_law_657 dL_law_658 dL_law_659 dL_law_660 dL_law_661 ?_
  refine lc_mi (V := (F_m_nth Y (sn2 xs (i + 1) (i + 2)) (sc xs (i + 3))).2) (r := (F_m_nth Y (sn2 xs (i + 1) (i + 2)) (sc xs (i + 3))).1) (As := [.long (iL (sn2 xs (i + 1) (i + 2))), .int (iI (sc xs (i + 3)))]) (rest := [.int (iI (F_t_nth X (sn2 xs (i + 1) (i + 2)) (sc xs (i + 3))).1)]) C0 J hS hl.1 (Nat.le_trans (lwc_le _) (by decide)) (Nat.le_trans (lws_le _) (by decide)) (d_m_nth l dC dI h am eI eJ eZ H.size Y (sn2 xs (i + 1) (i + 2)) (sc xs (i + 3)) (M_sn R) (M_ic R) (sn2_R _ _ _) (sc_R _ _) (M_au R) (M_st1 R) (M_wy R) (M_ok R)) (cwV 2 C0.1.2.2.2.2 gL_law_X12_nth rfl rfl rfl (by decide +kernel) ⟨Nat.le_of_ble_eq_true rfl, Nat.le_of_ble_eq_true rfl⟩) rfl rfl (Nat.le_of_ble_eq_true rfl) dL_law_662 (fun H locs J hS => ?_)
  rw [← E.1]
  refine lc_eq C0 dL_law_665 (by decide) ?_
  exact kk _ _ ad1 H locs E.2 h0 J hS
end LW
