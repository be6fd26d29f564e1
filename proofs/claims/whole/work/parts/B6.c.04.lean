-- deps: B6.b
section LW
variable {p : Program} {l : Launch} {e : Env} {s : State} {m : MethodId} {below : List Frame} {meth : Method} {c : Code} {dC : Nat → ClassId} {dI : Nat → Nat → Nat} {cI cJ cZ cR eI eJ eZ : ClassId} {b L : Nat} {xs : Nat → Int32} {h : Nat} {am ad : Nat → Nat} {X : KS} {Y : MS} {H : Heap} {locs : List Loc} {ls : Array Slot} {Q : State → Prop} {i : Nat}
set_option maxHeartbeats 4000000 in
set_option maxRecDepth 100000 in
theorem lc_rank (C0 : lwC p s m c dC dI cI cJ cZ cR eI eJ eZ b L xs) (R : Rel X Y) (J : tw (dC, dI) vwCl (lwFr s) (kWd cI cJ cZ cR (kWl X) ad (kM X) X) (mW h am eI eJ eZ Y) H) (hS : va_S (lwFr s) s.heap H locs) (hi : i + 4 ≤ L) (hl : lv_has ls 4 [(0, .ref b), (1, .ref (ad 0)), (2, .ref h), (3, .int (iI (i : Int)))]) (kk : lwK p l e s m below meth c dC dI cI cJ cZ cR eI eJ eZ b h am ls Q (ad 0)) : W p l e room_1 s m #[Value.ref b] below meth c H locs (lwc X) (lws X) Q (F0 m 670 ls []) := by
  have E : (F_t_rank X (sc xs (i + 1))).1 = (F_m_rank Y (sc xs (i + 1))).1 ∧ Rel (F_t_rank X (sc xs (i + 1))).2 (F_m_rank Y (sc xs (i + 1))).2 := rank_R R (sc_R _ _)
  refine lv_aload_n C0.1.1 C0.1.2.1 dL_law_670 rfl (lv_at hl 1 rfl) ?_
  refine lc_ld C0 hS hl (k := 1) rfl (by omega) dL_law_671 dL_law_672 dL_law_673 dL_law_674 dL_law_675 ?_
  refine lc_tl (X := X) (Z := (F_t_rank X (sc xs (i + 1))).2) (r := (F_t_rank X (sc xs (i + 1))).1) (As := [.int (iI (sc xs (i + 1)))]) (rest := []) C0 J hS hl.1 (c_t_rank l dC dI ad cI cJ cZ cR (kM X) (kWl X) H.size X (sc xs (i + 1)) (kM_ge X) rfl rfl (sc_R _ _) (KI_bd R.1) (KI_su R.1) (R_d R).1) (cwV 1 C0.1.2.2.2.2 gL_law_X11_rank rfl rfl rfl (by decide +kernel) ⟨Nat.le_of_ble_eq_true rfl, Nat.le_of_ble_eq_true rfl⟩) rfl rfl (Nat.le_of_ble_eq_true rfl) dL_law_676 (lwc_Le (F_t_rank_le X (sc xs (i + 1)))) (lws_Le (F_t_rank_le X (sc xs (i + 1)))) (fun H locs ad1 h0 J hS => ?_)
  refine lv_aload_n C0.1.1 C0.1.2.1 dL_law_679 rfl (lv_at hl 2 rfl) ?_
  refine lc_ld C0 hS hl (k := 1) rfl (by omega) dL_law_680 dL_law_681 dL_law_682 dL_law_683 dL_law_684 ?_
  refine lc_ml (V := (F_m_rank Y (sc xs (i + 1))).2) (r := (F_m_rank Y (sc xs (i + 1))).1) (As := [.int (iI (sc xs (i + 1)))]) (rest := [.long (iL (F_t_rank X (sc xs (i + 1))).1)]) C0 J hS hl.1 (Nat.le_trans (lwc_le _) (by decide)) (Nat.le_trans (lws_le _) (by decide)) (c_m_rank l dC dI h am eI eJ eZ H.size Y (sc xs (i + 1)) (sc_R _ _) (M_sn R) (M_ic R) (M_mz R) (M_rw R) R.2.1.2.1 (M_cy R)) (cwV 1 C0.1.2.2.2.2 gL_law_X12_rank rfl rfl rfl (by decide +kernel) ⟨Nat.le_of_ble_eq_true rfl, Nat.le_of_ble_eq_true rfl⟩) rfl rfl (Nat.le_of_ble_eq_true rfl) dL_law_685 (fun H locs J hS => ?_)
  rw [← E.1]
  refine lc_leq C0 dL_law_688 dL_law_689 (by decide) ?_
  exact kk _ _ ad1 H locs E.2 h0 J hS
set_option maxHeartbeats 4000000 in
set_option maxRecDepth 100000 in
theorem lc_power (C0 : lwC p s m c dC dI cI cJ cZ cR eI eJ eZ b L xs) (R : Rel X Y) (J : tw (dC, dI) vwCl (lwFr s) (kWd cI cJ cZ cR (kWl X) ad (kM X) X) (mW h am eI eJ eZ Y) H) (hS : va_S (lwFr s) s.heap H locs) (hi : i + 4 ≤ L) (hl : lv_has ls 4 [(0, .ref b), (1, .ref (ad 0)), (2, .ref h), (3, .int (iI (i : Int)))]) (kk : lwK p l e s m below meth c dC dI cI cJ cZ cR eI eJ eZ b h am ls Q (ad 0)) : W p l e room_1 s m #[Value.ref b] below meth c H locs (lwc X) (lws X) Q (F0 m 694 ls []) := by
  have E : (F_t_power X (sc xs (i + 1)) (sc xs (i + 2)) (sc xs (i + 3))).1 = (F_m_power Y (sc xs (i + 1)) (sc xs (i + 2)) (sc xs (i + 3))).1 ∧ Rel (F_t_power X (sc xs (i + 1)) (sc xs (i + 2)) (sc xs (i + 3))).2 (F_m_power Y (sc xs (i + 1)) (sc xs (i + 2)) (sc xs (i + 3))).2 := power_R R (sc_R _ _) (sc_R _ _) (sc_R _ _)
  refine lv_aload_n C0.1.1 C0.1.2.1 dL_law_694 rfl (lv_at hl 1 rfl) ?_
  refine lc_ld C0 hS hl (k := 1) rfl (by omega) dL_law_695 dL_law_696 dL_law_697 dL_law_698 dL_law_699 ?_
  refine lc_ld C0 hS hl (k := 2) rfl (by omega) dL_law_700 dL_law_701 dL_law_702 dL_law_703 dL_law_704 ?_
  refine lc_ld C0 hS hl (k := 3) rfl (by omega) dL_law_705 dL_law_706 dL_law_707 dL_law_708 dL_law_709 ?_
  refine lc_ti (X := X) (Z := (F_t_power X (sc xs (i + 1)) (sc xs (i + 2)) (sc xs (i + 3))).2) (r := (F_t_power X (sc xs (i + 1)) (sc xs (i + 2)) (sc xs (i + 3))).1) (As := [.int (iI (sc xs (i + 1))), .int (iI (sc xs (i + 2))), .int (iI (sc xs (i + 3)))]) (rest := []) C0 J hS hl.1 (c_t_power l dC dI ad cI cJ cZ cR (kM X) (kWl X) H.size X (sc xs (i + 1)) (sc xs (i + 2)) (sc xs (i + 3)) (kM_ge X) rfl rfl (sc_R _ _) (sc_R _ _) (sc_R _ _) (KI_bd R.1) (KI_su R.1) (R_d R).1 (R_d R).2.2) (cwV 3 C0.1.2.2.2.2 gL_law_X11_power rfl rfl rfl (by decide +kernel) ⟨Nat.le_of_ble_eq_true rfl, Nat.le_of_ble_eq_true rfl⟩) rfl rfl (Nat.le_of_ble_eq_true rfl) dL_law_710 (lwc_Le (F_t_power_le X (sc xs (i + 1)) (sc xs (i + 2)) (sc xs (i + 3)))) (lws_Le (F_t_power_le X (sc xs (i + 1)) (sc xs (i + 2)) (sc xs (i + 3)))) (fun H locs ad1 h0 J hS => ?_)
  refine lv_aload_n C0.1.1 C0.1.2.1 dL_law_713 rfl (lv_at hl 2 rfl) ?_
  refine lc_ld C0 hS hl (k := 1) rfl (by omega) dL_law_714 dL_law_715 dL_law_716 dL_law_717 dL_law_718 ?_
  refine lc_ld C0 hS hl (k := 2) rfl (by omega) dL_law_719 dL_law_720 dL_law_721 dL_law_722 dL_law_723 ?_
  refine lc_ld C0 hS hl (k := 3) rfl (by omega) dL_law_724 dL_law_725 dL_law_726 dL_law_727 dL_law_728 ?_
  refine lc_mi (V := (F_m_power Y (sc xs (i + 1)) (sc xs (i + 2)) (sc xs (i + 3))).2) (r := (F_m_power Y (sc xs (i + 1)) (sc xs (i + 2)) (sc xs (i + 3))).1) (As := [.int (iI (sc xs (i + 1))), .int (iI (sc xs (i + 2))), .int (iI (sc xs (i + 3)))]) (rest := [.int (iI (F_t_power X (sc xs (i + 1)) (sc xs (i + 2)) (sc xs (i + 3))).1)]) C0 J hS hl.1 (Nat.le_trans (lwc_le _) (by decide)) (Nat.le_trans (lws_le _) (by decide)) (c_m_power l dC dI h am eI eJ eZ H.size Y (sc xs (i + 1)) (sc xs (i + 2)) (sc xs (i + 3)) (sc_R _ _) (sc_R _ _) (sc_R _ _) (M_sn R) (M_ic R) (M_mz R) (M_rw R) R.2.1.2.1) (cwV 3 C0.1.2.2.2.2 gL_law_X12_power rfl rfl rfl (by decide +kernel) ⟨Nat.le_of_ble_eq_true rfl, Nat.le_of_ble_eq_true rfl⟩) rfl rfl (Nat.le_of_ble_eq_true rfl) dL_law_729 (fun H locs J hS => ?_)
  rw [← E.1]
  refine lc_eq C0 dL_law_732 (by decide) ?_
  exact kk _ _ ad1 H locs E.2 h0 J hS
set_option maxHeartbeats 4000000 in
set_option maxRecDepth 100000 in
theorem lc_order (C0 : lwC p s m c dC dI cI cJ cZ cR eI eJ eZ b L xs) (R : Rel X Y) (J : tw (dC, dI) vwCl (lwFr s) (kWd cI cJ cZ cR (kWl X) ad (kM X) X) (mW h am eI eJ eZ Y) H) (hS : va_S (lwFr s) s.heap H locs) (hi : i + 4 ≤ L) (hl : lv_has ls 4 [(0, .ref b), (1, .ref (ad 0)), (2, .ref h), (3, .int (iI (i : Int)))]) (kk : lwK p l e s m below meth c dC dI cI cJ cZ cR eI eJ eZ b h am ls Q (ad 0)) : W p l e room_1 s m #[Value.ref b] below meth c H locs (lwc X) (lws X) Q (F0 m 737 ls []) := by
  have E : (F_t_order X (sc xs (i + 1))).1 = (F_m_order Y (sc xs (i + 1))).1 ∧ Rel (F_t_order X (sc xs (i + 1))).2 (F_m_order Y (sc xs (i + 1))).2 := order_R R (sc_R _ _)
  refine lv_aload_n C0.1.1 C0.1.2.1 dL_law_737 rfl (lv_at hl 1 rfl) ?_
  refine lc_ld C0 hS hl (k := 1) rfl (by omega) dL_law_738 dL_law_739 dL_law_740 dL_law_741 dL_law_742 ?_
  refine lc_ti (X := X) (Z := (F_t_order X (sc xs (i + 1))).2) (r := (F_t_order X (sc xs (i + 1))).1) (As := [.int (iI (sc xs (i + 1)))]) (rest := []) C0 J hS hl.1 (c_t_order l dC dI ad cI cJ cZ cR (kM X) (kWl X) H.size X (sc xs (i + 1)) (kM_ge X) rfl rfl (sc_R _ _) (KI_bd R.1) (KI_su R.1) (R_d R).1 (R_d R).2.2) (cwV 1 C0.1.2.2.2.2 gL_law_X11_order rfl rfl rfl (by decide +kernel) ⟨Nat.le_of_ble_eq_true rfl, Nat.le_of_ble_eq_true rfl⟩) rfl rfl (Nat.le_of_ble_eq_true rfl) dL_law_743 (lwc_Le (F_t_order_le X (sc xs (i + 1)))) (lws_Le (F_t_order_le X (sc xs (i + 1)))) (fun H locs ad1 h0 J hS => ?_)
  refine lv_aload_n C0.1.1 C0.1.2.1 dL_law_746 rfl (lv_at hl 2 rfl) ?_
  refine lc_ld C0 hS hl (k := 1) rfl (by omega) dL_law_747 dL_law_748 dL_law_749 dL_law_750 dL_law_751 ?_
  refine lc_mi (V := (F_m_order Y (sc xs (i + 1))).2) (r := (F_m_order Y (sc xs (i + 1))).1) (As := [.int (iI (sc xs (i + 1)))]) (rest := [.int (iI (F_t_order X (sc xs (i + 1))).1)]) C0 J hS hl.1 (Nat.le_trans (lwc_le _) (by decide)) (Nat.le_trans (lws_le _) (by decide)) (c_m_order l dC dI h am eI eJ eZ H.size Y (sc xs (i + 1)) (sc_R _ _) (M_sn R) (M_ic R) (M_mz R) (M_rw R) R.2.1.2.1) (cwV 1 C0.1.2.2.2.2 gL_law_X12_order rfl rfl rfl (by decide +kernel) ⟨Nat.le_of_ble_eq_true rfl, Nat.le_of_ble_eq_true rfl⟩) rfl rfl (Nat.le_of_ble_eq_true rfl) dL_law_752 (fun H locs J hS => ?_)
  rw [← E.1]
  refine lc_eq C0 dL_law_755 (by decide) ?_
  exact kk _ _ ad1 H locs E.2 h0 J hS
set_option maxHeartbeats 4000000 in
set_option maxRecDepth 100000 in
theorem lc_inverse (C0 : lwC p s m c dC dI cI cJ cZ cR eI eJ eZ b L xs) (R : Rel X Y) (J : tw (dC, dI) vwCl (lwFr s) (kWd cI cJ cZ cR (kWl X) ad (kM X) X) (mW h am eI eJ eZ Y) H) (hS : va_S (lwFr s) s.heap H locs) (hi : i + 4 ≤ L) (hl : lv_has ls 4 [(0, .ref b), (1, .ref (ad 0)), (2, .ref h), (3, .int (iI (i : Int)))]) (kk : lwK p l e s m below meth c dC dI cI cJ cZ cR eI eJ eZ b h am ls Q (ad 0)) : W p l e room_1 s m #[Value.ref b] below meth c H locs (lwc X) (lws X) Q (F0 m 760 ls []) := by
  have E : (F_t_inverse X (sc xs (i + 1)) (sc xs (i + 2))).1 = (F_m_inverse Y (sc xs (i + 1)) (sc xs (i + 2))).1 ∧ Rel (F_t_inverse X (sc xs (i + 1)) (sc xs (i + 2))).2 (F_m_inverse Y (sc xs (i + 1)) (sc xs (i + 2))).2 := inverse_R R (sc_R _ _) (sc_R _ _)
  refine lv_aload_n C0.1.1 C0.1.2.1 dL_law_760 rfl (lv_at hl 1 rfl) ?_
  refine lc_ld C0 hS hl (k := 1) rfl (by omega) dL_law_761 dL_law_762 dL_law_763 dL_law_764 dL_law_765 ?_
  refine lc_ld C0 hS hl (k := 2) rfl (by omega) dL_law_766 dL_law_767 dL_law_768 dL_law_769 dL_law_770 ?_
  refine lc_ti (X := X) (Z := (F_t_inverse X (sc xs (i + 1)) (sc xs (i + 2))).2) (r := (F_t_inverse X (sc xs (i + 1)) (sc xs (i + 2))).1) (As := [.int (iI (sc xs (i + 1))), .int (iI (sc xs (i + 2)))]) (rest := []) C0 J hS hl.1 (c_t_inverse l dC dI ad cI cJ cZ cR (kM X) (kWl X) H.size X (sc xs (i + 1)) (sc xs (i + 2)) (kM_ge X) rfl rfl (sc_R _ _) (sc_R _ _) (KI_bd R.1) (KI_su R.1) (R_d R).1 (R_d R).2.2 (R_j R).2.1 (fun q9 => ⟨_, (R_mc0 R q9).2.2.1⟩)) (cwV 2 C0.1.2.2.2.2 gL_law_X11_inverse rfl rfl rfl (by decide +kernel) ⟨Nat.le_of_ble_eq_true rfl, Nat.le_of_ble_eq_true rfl⟩) rfl rfl (Nat.le_of_ble_eq_true rfl) dL_law_771 (lwc_Le (F_t_inverse_le X (sc xs (i + 1)) (sc xs (i + 2)))) (lws_Le (F_t_inverse_le X (sc xs (i + 1)) (sc xs (i + 2)))) (fun H locs ad1 h0 J hS => ?_)
  refine lv_aload_n C0.1.1 C0.1.2.1 dL_law_774 rfl (lv_at hl 2 rfl) ?_
  refine lc_ld C0 hS hl (k := 1) rfl (by omega) dL_law_775 dL_law_776 dL_law_777 dL_law_778 dL_law_779 ?_
  refine lc_ld C0 hS hl (k := 2) rfl (by omega) dL_law_780 dL_law_781 dL_law_782 dL_law_783 dL_law_784 ?_
  refine lc_mi (V := (F_m_inverse Y (sc xs (i + 1)) (sc xs (i + 2))).2) (r := (F_m_inverse Y (sc xs (i + 1)) (sc xs (i + 2))).1) (As := [.int (iI (sc xs (i + 1))), .int (iI (sc xs (i + 2)))]) (rest := [.int (iI (F_t_inverse X (sc xs (i + 1)) (sc xs (i + 2))).1)]) C0 J hS hl.1 (Nat.le_trans (lwc_le _) (by decide)) (Nat.le_trans (lws_le _) (by decide)) (c_m_inverse l dC dI h am eI eJ eZ H.size Y (sc xs (i + 1)) (sc xs (i + 2)) (sc_R _ _) (sc_R _ _) (M_sn R) (M_ic R) (M_mz R) (M_rw R) R.2.1.2.1 (M_cy R) (M_wy R)) (cwV 2 C0.1.2.2.2.2 gL_law_X12_inverse rfl rfl rfl (by decide +kernel) ⟨Nat.le_of_ble_eq_true rfl, Nat.le_of_ble_eq_true rfl⟩) rfl rfl (Nat.le_of_ble_eq_true rfl) dL_law_785 (fun H locs J hS => ?_)
  rw [← E.1]
  refine lc_eq C0 dL_law_788 (by decide) ?_
  exact kk _ _ ad1 H locs E.2 h0 J hS
set_option maxHeartbeats 4000000 in
set_option maxRecDepth 100000 in
theorem lc_makes (C0 : lwC p s m c dC dI cI cJ cZ cR eI eJ eZ b L xs) (R : Rel X Y) (J : tw (dC, dI) vwCl (lwFr s) (kWd cI cJ cZ cR (kWl X) ad (kM X) X) (mW h am eI eJ eZ Y) H) (hS : va_S (lwFr s) s.heap H locs) (hi : i + 4 ≤ L) (hl : lv_has ls 4 [(0, .ref b), (1, .ref (ad 0)), (2, .ref h), (3, .int (iI (i : Int)))]) (kk : lwK p l e s m below meth c dC dI cI cJ cZ cR eI eJ eZ b h am ls Q (ad 0)) : W p l e room_1 s m #[Value.ref b] below meth c H locs (lwc X) (lws X) Q (F0 m 793 ls []) := by
  have E : (F_t_makes X (sc xs (i + 1)) (sc xs (i + 2))).1 = (F_m_makes Y (sc xs (i + 1)) (sc xs (i + 2))).1 ∧ Rel (F_t_makes X (sc xs (i + 1)) (sc xs (i + 2))).2 (F_m_makes Y (sc xs (i + 1)) (sc xs (i + 2))).2 := makes_R R (sc_R _ _) (sc_R _ _)
  refine lv_aload_n C0.1.1 C0.1.2.1 dL_law_793 rfl (lv_at hl 1 rfl) ?_
  refine lc_ld C0 hS hl (k := 1) rfl (by omega) dL_law_794 dL_law_795 dL_law_796 dL_law_797 dL_law_798 ?_
  refine lc_ld C0 hS hl (k := 2) rfl (by omega) dL_law_799 dL_law_800 dL_law_801 dL_law_802 dL_law_803 ?_
  refine lc_ti (X := X) (Z := (F_t_makes X (sc xs (i + 1)) (sc xs (i + 2))).2) (r := (F_t_makes X (sc xs (i + 1)) (sc xs (i + 2))).1) (As := [.int (iI (sc xs (i + 1))), .int (iI (sc xs (i + 2)))]) (rest := []) C0 J hS hl.1 (c_t_makes l dC dI ad cI cJ cZ cR (kM X) (kWl X) H.size X (sc xs (i + 1)) (sc xs (i + 2)) (kM_ge X) rfl rfl (sc_R _ _) (sc_R _ _) (KI_bd R.1) (KI_su R.1) (R_d R).1 (R_d R).2.1 (R_d R).2.2 (R_j R).1) (cwV 2 C0.1.2.2.2.2 gL_law_X11_makes rfl rfl rfl (by decide +kernel) ⟨Nat.le_of_ble_eq_true rfl, Nat.le_of_ble_eq_true rfl⟩) rfl rfl (Nat.le_of_ble_eq_true rfl) dL_law_804 (lwc_Le (F_t_makes_le X (sc xs (i + 1)) (sc xs (i + 2)))) (lws_Le (F_t_makes_le X (sc xs (i + 1)) (sc xs (i + 2)))) (fun H locs ad1 h0 J hS => ?_)
  refine lv_aload_n C0.1.1 C0.1.2.1 dL_law_807 rfl (lv_at hl 2 rfl) ?_
  refine lc_ld C0 hS hl (k := 1) rfl (by omega) dL_law_808 dL_law_809 dL_law_810 dL_law_811 dL_law_812 ?_
  refine lc_ld C0 hS hl (k := 2) rfl (by omega) dL_law_813 dL_law_814 dL_law_815 dL_law_816 dL_law_817 ?_
  refine lc_mi (V := (F_m_makes Y (sc xs (i + 1)) (sc xs (i + 2))).2) (r := (F_m_makes Y (sc xs (i + 1)) (sc xs (i + 2))).1) (As := [.int (iI (sc xs (i + 1))), .int (iI (sc xs (i + 2)))]) (rest := [.int (iI (F_t_makes X (sc xs (i + 1)) (sc xs (i + 2))).1)]) C0 J hS hl.1 (Nat.le_trans (lwc_le _) (by decide)) (Nat.le_trans (lws_le _) (by decide)) (c_m_makes l dC dI h am eI eJ eZ H.size Y (sc xs (i + 1)) (sc xs (i + 2)) (sc_R _ _) (sc_R _ _) (M_sn R) (M_ic R) (M_mz R) (M_rw R) R.2.1.2.1 R.2.1.2.2.2.1.1 R.2.1.2.2.2.1.2) (cwV 2 C0.1.2.2.2.2 gL_law_X12_makes rfl rfl rfl (by decide +kernel) ⟨Nat.le_of_ble_eq_true rfl, Nat.le_of_ble_eq_true rfl⟩) rfl rfl (Nat.le_of_ble_eq_true rfl) dL_law_818 (fun H locs J hS => ?_)
  rw [← E.1]
  refine lc_eq C0 dL_law_821 (by decide) ?_
  exact kk _ _ ad1 H locs E.2 h0 J hS
end LW
