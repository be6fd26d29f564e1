-- deps: B6.b
section LW
variable {p : Program} {l : Launch} {e : Env} {s : State} {m : MethodId} {below : List Frame} {meth : Method} {c : Code} {dC : Nat → ClassId} {dI : Nat → Nat → Nat} {cI cJ cZ cR eI eJ eZ : ClassId} {b L : Nat} {xs : Nat → Int32} {h : Nat} {am ad : Nat → Nat} {X : KS} {Y : MS} {H : Heap} {locs : List Loc} {ls : Array Slot} {Q : State → Prop} {i : Nat}
set_option maxHeartbeats 4000000 in
set_option maxRecDepth 100000 in
theorem lc_least (C0 : lwC p s m c dC dI cI cJ cZ cR eI eJ eZ b L xs) (R : Rel X Y) (J : tw (dC, dI) vwCl (lwFr s) (kWd cI cJ cZ cR (kWl X) ad (kM X) X) (mW h am eI eJ eZ Y) H) (hS : va_S (lwFr s) s.heap H locs) (hi : i + 4 ≤ L) (hl : lv_has ls 4 [(0, .ref b), (1, .ref (ad 0)), (2, .ref h), (3, .int (iI (i : Int)))]) (kk : lwK p l e s m below meth c dC dI cI cJ cZ cR eI eJ eZ b h am ls Q (ad 0)) : W p l e room_1 s m #[Value.ref b] below meth c H locs (lwc X) (lws X) Q (F0 m 372 ls []) := by
  have E : (F_t_least X ).1 = (F_m_least Y ).1 ∧ Rel (F_t_least X ).2 (F_m_least Y ).2 := ⟨least_1 R, by rw [F_t_least_2, F_m_least_2]; exact R⟩
  have G : kG X (F_t_least X ).2 := kG_of (F_t_least_fr X ) (by first | decide | (intro h9; simp at h9; done) | (intro h9; simp at h9; omega)) (by first | decide | (intro h9; simp at h9; done) | (intro h9; simp at h9; omega))
  refine lv_aload_n C0.1.1 C0.1.2.1 dL_law_372 rfl (lv_at hl 1 rfl) ?_
  refine lc_ti (X := X) (Z := (F_t_least X ).2) (r := (F_t_least X ).1) (As := []) (rest := []) C0 J hS hl.1 (kQ_i (c_t_least l dC dI ad cI cJ cZ cR (kM X) (kWl X) H.size X  (kM_ge X) (R_s R).1 (R_s R).2) rfl rfl G) (cwV 0 C0.1.2.2.2.2 gL_law_X11_least rfl rfl rfl (by decide +kernel) ⟨Nat.le_of_ble_eq_true rfl, Nat.le_of_ble_eq_true rfl⟩) rfl rfl (Nat.le_of_ble_eq_true rfl) dL_law_373 (lwc_G G) (lws_G G) (fun H locs ad1 h0 J hS => ?_)
  refine lv_aload_n C0.1.1 C0.1.2.1 dL_law_376 rfl (lv_at hl 2 rfl) ?_
  refine lc_mi (V := (F_m_least Y ).2) (r := (F_m_least Y ).1) (As := []) (rest := [.int (iI (F_t_least X ).1)]) C0 J hS hl.1 (Nat.le_trans (lwc_le _) (by decide)) (Nat.le_trans (lws_le _) (by decide)) (d_m_least l dC dI h am eI eJ eZ H.size Y  (M_sn R) (M_j R) (M_aa R)) (cwV 0 C0.1.2.2.2.2 gL_law_X12_least rfl rfl rfl (by decide +kernel) ⟨Nat.le_of_ble_eq_true rfl, Nat.le_of_ble_eq_true rfl⟩) rfl rfl (Nat.le_of_ble_eq_true rfl) dL_law_377 (fun H locs J hS => ?_)
  rw [← E.1]
  refine lc_eq C0 dL_law_380 (by decide) ?_
  exact kk _ _ ad1 H locs E.2 h0 J hS
set_option maxHeartbeats 4000000 in
set_option maxRecDepth 100000 in
theorem lc_rule (C0 : lwC p s m c dC dI cI cJ cZ cR eI eJ eZ b L xs) (R : Rel X Y) (J : tw (dC, dI) vwCl (lwFr s) (kWd cI cJ cZ cR (kWl X) ad (kM X) X) (mW h am eI eJ eZ Y) H) (hS : va_S (lwFr s) s.heap H locs) (hi : i + 4 ≤ L) (hl : lv_has ls 4 [(0, .ref b), (1, .ref (ad 0)), (2, .ref h), (3, .int (iI (i : Int)))]) (kk : lwK p l e s m below meth c dC dI cI cJ cZ cR eI eJ eZ b h am ls Q (ad 0)) : W p l e room_1 s m #[Value.ref b] below meth c H locs (lwc X) (lws X) Q (F0 m 385 ls []) := by
  have E : (F_t_rule X (sc xs (i + 1)) (sb (sc xs (i + 2))) (sc xs (i + 3))).1 = (F_m_rule Y (sc xs (i + 1)) (sb (sc xs (i + 2))) (sc xs (i + 3))).1 ∧ Rel (F_t_rule X (sc xs (i + 1)) (sb (sc xs (i + 2))) (sc xs (i + 3))).2 (F_m_rule Y (sc xs (i + 1)) (sb (sc xs (i + 2))) (sc xs (i + 3))).2 := ⟨rule_1 R (sb_1 _), by rw [F_t_rule_2, F_m_rule_2]; exact R⟩
  have G : kG X (F_t_rule X (sc xs (i + 1)) (sb (sc xs (i + 2))) (sc xs (i + 3))).2 := kG_of (F_t_rule_fr X (sc xs (i + 1)) (sb (sc xs (i + 2))) (sc xs (i + 3))) (by first | decide | (intro h9; simp at h9; done) | (intro h9; simp at h9; omega)) (by first | decide | (intro h9; simp at h9; done) | (intro h9; simp at h9; omega))
  refine lv_aload_n C0.1.1 C0.1.2.1 dL_law_385 rfl (lv_at hl 1 rfl) ?_
  refine lc_ld C0 hS hl (k := 1) rfl (by omega) dL_law_386 dL_law_387 dL_law_388 dL_law_389 dL_law_390 ?_
  refine lc_ld C0 hS hl (k := 2) rfl (by omega) dL_law_391 dL_law_392 dL_law_393 dL_law_394 dL_law_395 ?_
  refine lc_b C0 (sc_R _ _) dL_law_396 dL_law_399 dL_law_400 dL_law_403 ?_
  refine lc_ld C0 hS hl (k := 3) rfl (by omega) dL_law_404 dL_law_405 dL_law_406 dL_law_407 dL_law_408 ?_
  refine lc_ti (X := X) (Z := (F_t_rule X (sc xs (i + 1)) (sb (sc xs (i + 2))) (sc xs (i + 3))).2) (r := (F_t_rule X (sc xs (i + 1)) (sb (sc xs (i + 2))) (sc xs (i + 3))).1) (As := [.int (iI (sc xs (i + 1))), .int (iI (sb (sc xs (i + 2)))), .int (iI (sc xs (i + 3)))]) (rest := []) C0 J hS hl.1 (kQ_i (c_t_rule l dC dI ad cI cJ cZ cR (kM X) (kWl X) H.size X (sc xs (i + 1)) (sb (sc xs (i + 2))) (sc xs (i + 3)) (kM_ge X) (R_s R).1 (R_s R).2 (R_ru R) (sc_R _ _) (sb_1 _) (sc_R _ _)) rfl rfl G) (cwV 3 C0.1.2.2.2.2 gL_law_X11_rule rfl rfl rfl (by decide +kernel) ⟨Nat.le_of_ble_eq_true rfl, Nat.le_of_ble_eq_true rfl⟩) rfl rfl (Nat.le_of_ble_eq_true rfl) dL_law_409 (lwc_G G) (lws_G G) (fun H locs ad1 h0 J hS => ?_)
  refine lv_aload_n C0.1.1 C0.1.2.1 dL_law_412 rfl (lv_at hl 2 rfl) ?_
  refine lc_ld C0 hS hl (k := 1) rfl (by omega) dL_law_413 dL_law_414 dL_law_415 dL_law_416 dL_law_417 ?_
  refine lc_ld C0 hS hl (k := 2) rfl (by omega) dL_law_418 dL_law_419 dL_law_420 dL_law_421 dL_law_422 ?_
  refine lc_b C0 (sc_R _ _) dL_law_423 dL_law_426 dL_law_427 dL_law_430 ?_
  refine lc_ld C0 hS hl (k := 3) rfl (by omega) dL_law_431 dL_law_432 dL_law_433 dL_law_434 dL_law_435 ?_
  refine lc_mi (V := (F_m_rule Y (sc xs (i + 1)) (sb (sc xs (i + 2))) (sc xs (i + 3))).2) (r := (F_m_rule Y (sc xs (i + 1)) (sb (sc xs (i + 2))) (sc xs (i + 3))).1) (As := [.int (iI (sc xs (i + 1))), .int (iI (sb (sc xs (i + 2)))), .int (iI (sc xs (i + 3)))]) (rest := [.int (iI (F_t_rule X (sc xs (i + 1)) (sb (sc xs (i + 2))) (sc xs (i + 3))).1)]) C0 J hS hl.1 (Nat.le_trans (lwc_le _) (by decide)) (Nat.le_trans (lws_le _) (by decide)) (d_m_rule l dC dI h am eI eJ eZ H.size Y (sc xs (i + 1)) (sb (sc xs (i + 2))) (sc xs (i + 3)) (M_sn R) (sc_R _ _) (sb_1 _) (sc_R _ _) (M_rr R) (M_zz R)) (cwV 3 C0.1.2.2.2.2 gL_law_X12_rule rfl rfl rfl (by decide +kernel) ⟨Nat.le_of_ble_eq_true rfl, Nat.le_of_ble_eq_true rfl⟩) rfl rfl (Nat.le_of_ble_eq_true rfl) dL_law_436 (fun H locs J hS => ?_)
  rw [← E.1]
  refine lc_eq C0 dL_law_439 (by decide) ?_
  exact kk _ _ ad1 H locs E.2 h0 J hS
set_option maxHeartbeats 4000000 in
set_option maxRecDepth 100000 in
theorem lc_closed (C0 : lwC p s m c dC dI cI cJ cZ cR eI eJ eZ b L xs) (R : Rel X Y) (J : tw (dC, dI) vwCl (lwFr s) (kWd cI cJ cZ cR (kWl X) ad (kM X) X) (mW h am eI eJ eZ Y) H) (hS : va_S (lwFr s) s.heap H locs) (hi : i + 4 ≤ L) (hl : lv_has ls 4 [(0, .ref b), (1, .ref (ad 0)), (2, .ref h), (3, .int (iI (i : Int)))]) (kk : lwK p l e s m below meth c dC dI cI cJ cZ cR eI eJ eZ b h am ls Q (ad 0)) : W p l e room_1 s m #[Value.ref b] below meth c H locs (lwc X) (lws X) Q (F0 m 444 ls []) := by
  have E : (F_t_closed X ).1 = (F_m_closed Y ).1 ∧ Rel (F_t_closed X ).2 (F_m_closed Y ).2 := ⟨closed_1 R, by rw [F_t_closed_2, F_m_closed_2]; exact R⟩
  have G : kG X (F_t_closed X ).2 := kG_of (F_t_closed_fr X ) (by first | decide | (intro h9; simp at h9; done) | (intro h9; simp at h9; omega)) (by first | decide | (intro h9; simp at h9; done) | (intro h9; simp at h9; omega))
  refine lv_aload_n C0.1.1 C0.1.2.1 dL_law_444 rfl (lv_at hl 1 rfl) ?_
  refine lc_ti (X := X) (Z := (F_t_closed X ).2) (r := (F_t_closed X ).1) (As := []) (rest := []) C0 J hS hl.1 (kQ_i (c_t_closed l dC dI ad cI cJ cZ cR (kM X) (kWl X) H.size X  (kM_ge X) (R_s R).1 (R_s R).2 (R_p R)) rfl rfl G) (cwV 0 C0.1.2.2.2.2 gL_law_X11_closed rfl rfl rfl (by decide +kernel) ⟨Nat.le_of_ble_eq_true rfl, Nat.le_of_ble_eq_true rfl⟩) rfl rfl (Nat.le_of_ble_eq_true rfl) dL_law_445 (lwc_G G) (lws_G G) (fun H locs ad1 h0 J hS => ?_)
  refine lv_aload_n C0.1.1 C0.1.2.1 dL_law_448 rfl (lv_at hl 2 rfl) ?_
  refine lc_mi (V := (F_m_closed Y ).2) (r := (F_m_closed Y ).1) (As := []) (rest := [.int (iI (F_t_closed X ).1)]) C0 J hS hl.1 (Nat.le_trans (lwc_le _) (by decide)) (Nat.le_trans (lws_le _) (by decide)) (c_m_closed l dC dI h am eI eJ eZ H.size Y  (M_sn R) (M_ic R)) (cwV 0 C0.1.2.2.2.2 gL_law_X12_closed rfl rfl rfl (by decide +kernel) ⟨Nat.le_of_ble_eq_true rfl, Nat.le_of_ble_eq_true rfl⟩) rfl rfl (Nat.le_of_ble_eq_true rfl) dL_law_449 (fun H locs J hS => ?_)
  rw [← E.1]
  refine lc_eq C0 dL_law_452 (by decide) ?_
  exact kk _ _ ad1 H locs E.2 h0 J hS
set_option maxHeartbeats 4000000 in
set_option maxRecDepth 100000 in
theorem lc_reduce (C0 : lwC p s m c dC dI cI cJ cZ cR eI eJ eZ b L xs) (R : Rel X Y) (J : tw (dC, dI) vwCl (lwFr s) (kWd cI cJ cZ cR (kWl X) ad (kM X) X) (mW h am eI eJ eZ Y) H) (hS : va_S (lwFr s) s.heap H locs) (hi : i + 4 ≤ L) (hl : lv_has ls 4 [(0, .ref b), (1, .ref (ad 0)), (2, .ref h), (3, .int (iI (i : Int)))]) (kk : lwK p l e s m below meth c dC dI cI cJ cZ cR eI eJ eZ b h am ls Q (ad 0)) : W p l e room_1 s m #[Value.ref b] below meth c H locs (lwc X) (lws X) Q (F0 m 457 ls []) := by
  have E : (F_t_reduce X (sc xs (i + 1)) (sc xs (i + 2))).1 = (F_m_reduce Y (sc xs (i + 1)) (sc xs (i + 2))).1 ∧ Rel (F_t_reduce X (sc xs (i + 1)) (sc xs (i + 2))).2 (F_m_reduce Y (sc xs (i + 1)) (sc xs (i + 2))).2 := reduce_R R (sc_R _ _) (sc_R _ _)
  refine lv_aload_n C0.1.1 C0.1.2.1 dL_law_457 rfl (lv_at hl 1 rfl) ?_
  refine lc_ld C0 hS hl (k := 1) rfl (by omega) dL_law_458 dL_law_459 dL_law_460 dL_law_461 dL_law_462 ?_
  refine lc_ld C0 hS hl (k := 2) rfl (by omega) dL_law_463 dL_law_464 dL_law_465 dL_law_466 dL_law_467 ?_
  refine lc_ti (X := X) (Z := (F_t_reduce X (sc xs (i + 1)) (sc xs (i + 2))).2) (r := (F_t_reduce X (sc xs (i + 1)) (sc xs (i + 2))).1) (As := [.int (iI (sc xs (i + 1))), .int (iI (sc xs (i + 2)))]) (rest := []) C0 J hS hl.1 (c_t_reduce l dC dI ad cI cJ cZ cR (kM X) (kWl X) H.size X (sc xs (i + 1)) (sc xs (i + 2)) (kM_ge X) rfl rfl (sc_R _ _) (sc_R _ _) (KI_bd R.1) (KI_su R.1) (R_d R).1) (cwV 2 C0.1.2.2.2.2 gL_law_X11_reduce rfl rfl rfl (by decide +kernel) ⟨Nat.le_of_ble_eq_true rfl, Nat.le_of_ble_eq_true rfl⟩) rfl rfl (Nat.le_of_ble_eq_true rfl) dL_law_468 (lwc_Le (F_t_reduce_le X (sc xs (i + 1)) (sc xs (i + 2)))) (lws_Le (F_t_reduce_le X (sc xs (i + 1)) (sc xs (i + 2)))) (fun H locs ad1 h0 J hS => ?_)
  refine lv_aload_n C0.1.1 C0.1.2.1 dL_law_471 rfl (lv_at hl 2 rfl) ?_
  refine lc_ld C0 hS hl (k := 1) rfl (by omega) dL_law_472 dL_law_473 dL_law_474 dL_law_475 dL_law_476 ?_
  refine lc_ld C0 hS hl (k := 2) rfl (by omega) dL_law_477 dL_law_478 dL_law_479 dL_law_480 dL_law_481 ?_
  refine lc_mi (V := (F_m_reduce Y (sc xs (i + 1)) (sc xs (i + 2))).2) (r := (F_m_reduce Y (sc xs (i + 1)) (sc xs (i + 2))).1) (As := [.int (iI (sc xs (i + 1))), .int (iI (sc xs (i + 2)))]) (rest := [.int (iI (F_t_reduce X (sc xs (i + 1)) (sc xs (i + 2))).1)]) C0 J hS hl.1 (Nat.le_trans (lwc_le _) (by decide)) (Nat.le_trans (lws_le _) (by decide)) (c_m_reduce l dC dI h am eI eJ eZ H.size Y (sc xs (i + 1)) (sc xs (i + 2)) (sc_R _ _) (sc_R _ _) (M_lt R) (M_sn R) (M_ic R) (M_rw R) R.2.1.2.1 (Rel_mz R).1 (Rel_mz R).2) (cwV 2 C0.1.2.2.2.2 gL_law_X12_reduce rfl rfl rfl (by decide +kernel) ⟨Nat.le_of_ble_eq_true rfl, Nat.le_of_ble_eq_true rfl⟩) rfl rfl (Nat.le_of_ble_eq_true rfl) dL_law_482 (fun H locs J hS => ?_)
  rw [← E.1]
  refine lc_eq C0 dL_law_485 (by decide) ?_
  exact kk _ _ ad1 H locs E.2 h0 J hS
set_option maxHeartbeats 4000000 in
set_option maxRecDepth 100000 in
theorem lc_like (C0 : lwC p s m c dC dI cI cJ cZ cR eI eJ eZ b L xs) (R : Rel X Y) (J : tw (dC, dI) vwCl (lwFr s) (kWd cI cJ cZ cR (kWl X) ad (kM X) X) (mW h am eI eJ eZ Y) H) (hS : va_S (lwFr s) s.heap H locs) (hi : i + 4 ≤ L) (hl : lv_has ls 4 [(0, .ref b), (1, .ref (ad 0)), (2, .ref h), (3, .int (iI (i : Int)))]) (kk : lwK p l e s m below meth c dC dI cI cJ cZ cR eI eJ eZ b h am ls Q (ad 0)) : W p l e room_1 s m #[Value.ref b] below meth c H locs (lwc X) (lws X) Q (F0 m 490 ls []) := by
  have E : (F_t_like X (sc xs (i + 1)) (sc xs (i + 2))).1 = (F_m_like Y (sc xs (i + 1)) (sc xs (i + 2))).1 ∧ Rel (F_t_like X (sc xs (i + 1)) (sc xs (i + 2))).2 (F_m_like Y (sc xs (i + 1)) (sc xs (i + 2))).2 := like_R R (sc_R _ _) (sc_R _ _)
  refine lv_aload_n C0.1.1 C0.1.2.1 dL_law_490 rfl (lv_at hl 1 rfl) ?_
  refine lc_ld C0 hS hl (k := 1) rfl (by omega) dL_law_491 dL_law_492 dL_law_493 dL_law_494 dL_law_495 ?_
  refine lc_ld C0 hS hl (k := 2) rfl (by omega) dL_law_496 dL_law_497 dL_law_498 dL_law_499 dL_law_500 ?_
  refine lc_ti (X := X) (Z := (F_t_like X (sc xs (i + 1)) (sc xs (i + 2))).2) (r := (F_t_like X (sc xs (i + 1)) (sc xs (i + 2))).1) (As := [.int (iI (sc xs (i + 1))), .int (iI (sc xs (i + 2)))]) (rest := []) C0 J hS hl.1 (c_t_like l dC dI ad cI cJ cZ cR (kM X) (kWl X) H.size X (sc xs (i + 1)) (sc xs (i + 2)) (kM_ge X) rfl rfl (sc_R _ _) (sc_R _ _) (KI_bd R.1) (KI_su R.1) (R_d R).1 (R_d R).2.1) (cwV 2 C0.1.2.2.2.2 gL_law_X11_like rfl rfl rfl (by decide +kernel) ⟨Nat.le_of_ble_eq_true rfl, Nat.le_of_ble_eq_true rfl⟩) rfl rfl (Nat.le_of_ble_eq_true rfl) dL_law_501 (lwc_Le (F_t_like_le X (sc xs (i + 1)) (sc xs (i + 2)))) (lws_Le (F_t_like_le X (sc xs (i + 1)) (sc xs (i + 2)))) (fun H locs ad1 h0 J hS => ?_)
  refine lv_aload_n C0.1.1 C0.1.2.1 dL_law_504 rfl (lv_at hl 2 rfl) ?_
  refine lc_ld C0 hS hl (k := 1) rfl (by omega) dL_law_505 dL_law_506 dL_law_507 dL_law_508 dL_law_509 ?_
  refine lc_ld C0 hS hl (k := 2) rfl (by omega) dL_law_510 dL_law_511 dL_law_512 dL_law_513 dL_law_514 ?_
  refine lc_mi (V := (F_m_like Y (sc xs (i + 1)) (sc xs (i + 2))).2) (r := (F_m_like Y (sc xs (i + 1)) (sc xs (i + 2))).1) (As := [.int (iI (sc xs (i + 1))), .int (iI (sc xs (i + 2)))]) (rest := [.int (iI (F_t_like X (sc xs (i + 1)) (sc xs (i + 2))).1)]) C0 J hS hl.1 (Nat.le_trans (lwc_le _) (by decide)) (Nat.le_trans (lws_le _) (by decide)) (c_m_like l dC dI h am eI eJ eZ H.size Y (sc xs (i + 1)) (sc xs (i + 2)) (sc_R _ _) (sc_R _ _) (M_lt R) (M_sn R) (M_ic R) (M_rw R) R.2.1.2.1 (Rel_mz R).1 (Rel_mz R).2) (cwV 2 C0.1.2.2.2.2 gL_law_X12_like rfl rfl rfl (by decide +kernel) ⟨Nat.le_of_ble_eq_true rfl, Nat.le_of_ble_eq_true rfl⟩) rfl rfl (Nat.le_of_ble_eq_true rfl) dL_law_515 (fun H locs J hS => ?_)
  rw [← E.1]
  refine lc_eq C0 dL_law_518 (by decide) ?_
  exact kk _ _ ad1 H locs E.2 h0 J hS
end LW
