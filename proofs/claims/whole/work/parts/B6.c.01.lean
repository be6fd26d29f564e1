-- deps: B6.b
section LW
variable {p : Program} {l : Launch} {e : Env} {s : State} {m : MethodId} {below : List Frame} {meth : Method} {c : Code} {dC : Nat → ClassId} {dI : Nat → Nat → Nat} {cI cJ cZ cR eI eJ eZ : ClassId} {b L : Nat} {xs : Nat → Int32} {h : Nat} {am ad : Nat → Nat} {X : KS} {Y : MS} {H : Heap} {locs : List Loc} {ls : Array Slot} {Q : State → Prop} {i : Nat}
set_option maxHeartbeats 4000000 in
set_option maxRecDepth 100000 in
theorem lc_length (C0 : lwC p s m c dC dI cI cJ cZ cR eI eJ eZ b L xs) (R : Rel X Y) (J : tw (dC, dI) vwCl (lwFr s) (kWd cI cJ cZ cR (kWl X) ad (kM X) X) (mW h am eI eJ eZ Y) H) (hS : va_S (lwFr s) s.heap H locs) (hi : i + 4 ≤ L) (hl : lv_has ls 4 [(0, .ref b), (1, .ref (ad 0)), (2, .ref h), (3, .int (iI (i : Int)))]) (kk : lwK p l e s m below meth c dC dI cI cJ cZ cR eI eJ eZ b h am ls Q (ad 0)) : W p l e room_1 s m #[Value.ref b] below meth c H locs (lwc X) (lws X) Q (F0 m 267 ls []) := by
  have E : (F_t_length X (sc xs (i + 1))).1 = (F_m_length Y (sc xs (i + 1))).1 ∧ Rel (F_t_length X (sc xs (i + 1))).2 (F_m_length Y (sc xs (i + 1))).2 := ⟨length_1 R _, by rw [F_t_length_2, F_m_length_2]; exact R⟩
  have G : kG X (F_t_length X (sc xs (i + 1))).2 := kG_of (F_t_length_fr X (sc xs (i + 1))) (by first | decide | (intro h9; simp at h9; done) | (intro h9; simp at h9; omega)) (by first | decide | (intro h9; simp at h9; done) | (intro h9; simp at h9; omega))
  refine lv_aload_n C0.1.1 C0.1.2.1 dL_law_267 rfl (lv_at hl 1 rfl) ?_
  refine lc_ld C0 hS hl (k := 1) rfl (by omega) dL_law_268 dL_law_269 dL_law_270 dL_law_271 dL_law_272 ?_
  refine lc_ti (X := X) (Z := (F_t_length X (sc xs (i + 1))).2) (r := (F_t_length X (sc xs (i + 1))).1) (As := [.int (iI (sc xs (i + 1)))]) (rest := []) C0 J hS hl.1 (kQ_i (c_t_length l dC dI ad cI cJ cZ cR (kM X) (kWl X) H.size X (sc xs (i + 1)) (kM_ge X) (sc_R _ _)) rfl rfl G) (cwV 1 C0.1.2.2.2.2 gL_law_X11_length rfl rfl rfl (by decide +kernel) ⟨Nat.le_of_ble_eq_true rfl, Nat.le_of_ble_eq_true rfl⟩) rfl rfl (Nat.le_of_ble_eq_true rfl) dL_law_273 (lwc_G G) (lws_G G) (fun H locs ad1 h0 J hS => ?_)
  refine lv_aload_n C0.1.1 C0.1.2.1 dL_law_276 rfl (lv_at hl 2 rfl) ?_
  refine lc_ld C0 hS hl (k := 1) rfl (by omega) dL_law_277 dL_law_278 dL_law_279 dL_law_280 dL_law_281 ?_
  refine lc_mi (V := (F_m_length Y (sc xs (i + 1))).2) (r := (F_m_length Y (sc xs (i + 1))).1) (As := [.int (iI (sc xs (i + 1)))]) (rest := [.int (iI (F_t_length X (sc xs (i + 1))).1)]) C0 J hS hl.1 (Nat.le_trans (lwc_le _) (by decide)) (Nat.le_trans (lws_le _) (by decide)) (c_m_length l dC dI h am eI eJ eZ H.size Y (sc xs (i + 1)) (sc_R _ _)) (cwV 1 C0.1.2.2.2.2 gL_law_X12_length rfl rfl rfl (by decide +kernel) ⟨Nat.le_of_ble_eq_true rfl, Nat.le_of_ble_eq_true rfl⟩) rfl rfl (Nat.le_of_ble_eq_true rfl) dL_law_282 (fun H locs J hS => ?_)
  rw [← E.1]
  refine lc_eq C0 dL_law_285 (by decide) ?_
  exact kk _ _ ad1 H locs E.2 h0 J hS
set_option maxHeartbeats 4000000 in
set_option maxRecDepth 100000 in
theorem lc_law (C0 : lwC p s m c dC dI cI cJ cZ cR eI eJ eZ b L xs) (R : Rel X Y) (J : tw (dC, dI) vwCl (lwFr s) (kWd cI cJ cZ cR (kWl X) ad (kM X) X) (mW h am eI eJ eZ Y) H) (hS : va_S (lwFr s) s.heap H locs) (hi : i + 4 ≤ L) (hl : lv_has ls 4 [(0, .ref b), (1, .ref (ad 0)), (2, .ref h), (3, .int (iI (i : Int)))]) (kk : lwK p l e s m below meth c dC dI cI cJ cZ cR eI eJ eZ b h am ls Q (ad 0)) : W p l e room_1 s m #[Value.ref b] below meth c H locs (lwc X) (lws X) Q (F0 m 290 ls []) := by
  have E : (F_t_law X (sc xs (i + 1)) (sc xs (i + 2))).1 = (F_m_law Y (sc xs (i + 1)) (sc xs (i + 2))).1 ∧ Rel (F_t_law X (sc xs (i + 1)) (sc xs (i + 2))).2 (F_m_law Y (sc xs (i + 1)) (sc xs (i + 2))).2 := law_R R _ _
  have G : kG X (F_t_law X (sc xs (i + 1)) (sc xs (i + 2))).2 := kG_of (F_t_law_fr X (sc xs (i + 1)) (sc xs (i + 2))) (by first | decide | (intro h9; simp at h9; done) | (intro h9; simp at h9; omega)) (by first | decide | (intro h9; simp at h9; done) | (intro h9; simp at h9; omega))
  refine lv_aload_n C0.1.1 C0.1.2.1 dL_law_290 rfl (lv_at hl 1 rfl) ?_
  refine lc_ld C0 hS hl (k := 1) rfl (by omega) dL_law_291 dL_law_292 dL_law_293 dL_law_294 dL_law_295 ?_
  refine lc_ld C0 hS hl (k := 2) rfl (by omega) dL_law_296 dL_law_297 dL_law_298 dL_law_299 dL_law_300 ?_
  refine lc_ti (X := X) (Z := (F_t_law X (sc xs (i + 1)) (sc xs (i + 2))).2) (r := (F_t_law X (sc xs (i + 1)) (sc xs (i + 2))).1) (As := [.int (iI (sc xs (i + 1))), .int (iI (sc xs (i + 2)))]) (rest := []) C0 J hS hl.1 (kQ_i (c_t_law l dC dI ad cI cJ cZ cR (kM X) (kWl X) H.size X (sc xs (i + 1)) (sc xs (i + 2)) (kM_ge X) (sc_R _ _) (sc_R _ _) (KI_su2 R.1) (R_h R).1 (R_h R).2) rfl rfl G) (cwV 2 C0.1.2.2.2.2 gL_law_X11_law rfl rfl rfl (by decide +kernel) ⟨Nat.le_of_ble_eq_true rfl, Nat.le_of_ble_eq_true rfl⟩) rfl rfl (Nat.le_of_ble_eq_true rfl) dL_law_301 (lwc_G G) (lws_G G) (fun H locs ad1 h0 J hS => ?_)
  refine lv_aload_n C0.1.1 C0.1.2.1 dL_law_304 rfl (lv_at hl 2 rfl) ?_
  refine lc_ld C0 hS hl (k := 1) rfl (by omega) dL_law_305 dL_law_306 dL_law_307 dL_law_308 dL_law_309 ?_
  refine lc_ld C0 hS hl (k := 2) rfl (by omega) dL_law_310 dL_law_311 dL_law_312 dL_law_313 dL_law_314 ?_
  refine lc_mi (V := (F_m_law Y (sc xs (i + 1)) (sc xs (i + 2))).2) (r := (F_m_law Y (sc xs (i + 1)) (sc xs (i + 2))).1) (As := [.int (iI (sc xs (i + 1))), .int (iI (sc xs (i + 2)))]) (rest := [.int (iI (F_t_law X (sc xs (i + 1)) (sc xs (i + 2))).1)]) C0 J hS hl.1 (Nat.le_trans (lwc_le _) (by decide)) (Nat.le_trans (lws_le _) (by decide)) (d_m_law l dC dI h am eI eJ eZ H.size Y (sc xs (i + 1)) (sc xs (i + 2)) (sc_R _ _) (sc_R _ _) (M_zs R) (M_law R).1 (M_law R).2) (cwV 2 C0.1.2.2.2.2 gL_law_X12_law rfl rfl rfl (by decide +kernel) ⟨Nat.le_of_ble_eq_true rfl, Nat.le_of_ble_eq_true rfl⟩) rfl rfl (Nat.le_of_ble_eq_true rfl) dL_law_315 (fun H locs J hS => ?_)
  rw [← E.1]
  refine lc_eq C0 dL_law_318 (by decide) ?_
  exact kk _ _ ad1 H locs E.2 h0 J hS
set_option maxHeartbeats 4000000 in
set_option maxRecDepth 100000 in
theorem lc_free (C0 : lwC p s m c dC dI cI cJ cZ cR eI eJ eZ b L xs) (R : Rel X Y) (J : tw (dC, dI) vwCl (lwFr s) (kWd cI cJ cZ cR (kWl X) ad (kM X) X) (mW h am eI eJ eZ Y) H) (hS : va_S (lwFr s) s.heap H locs) (hi : i + 4 ≤ L) (hl : lv_has ls 4 [(0, .ref b), (1, .ref (ad 0)), (2, .ref h), (3, .int (iI (i : Int)))]) (kk : lwK p l e s m below meth c dC dI cI cJ cZ cR eI eJ eZ b h am ls Q (ad 0)) : W p l e room_1 s m #[Value.ref b] below meth c H locs (lwc X) (lws X) Q (F0 m 323 ls []) := by
  have E : (F_t_free X ).1 = (F_m_free Y ).1 ∧ Rel (F_t_free X ).2 (F_m_free Y ).2 := free_R R
  have G : kG X (F_t_free X ).2 := kG_of (F_t_free_fr X ) (by first | decide | (intro h9; simp at h9; done) | (intro h9; simp at h9; omega)) (by first | decide | (intro h9; simp at h9; done) | (intro h9; simp at h9; omega))
  refine lv_aload_n C0.1.1 C0.1.2.1 dL_law_323 rfl (lv_at hl 1 rfl) ?_
  refine lc_ti (X := X) (Z := (F_t_free X ).2) (r := (F_t_free X ).1) (As := []) (rest := []) C0 J hS hl.1 (kQ_i (c_t_free l dC dI ad cI cJ cZ cR (kM X) (kWl X) H.size X  (kM_ge X) ) rfl rfl G) (cwV 0 C0.1.2.2.2.2 gL_law_X11_free rfl rfl rfl (by decide +kernel) ⟨Nat.le_of_ble_eq_true rfl, Nat.le_of_ble_eq_true rfl⟩) rfl rfl (Nat.le_of_ble_eq_true rfl) dL_law_324 (lwc_G G) (lws_G G) (fun H locs ad1 h0 J hS => ?_)
  refine lv_aload_n C0.1.1 C0.1.2.1 dL_law_327 rfl (lv_at hl 2 rfl) ?_
  refine lc_mi (V := (F_m_free Y ).2) (r := (F_m_free Y ).1) (As := []) (rest := [.int (iI (F_t_free X ).1)]) C0 J hS hl.1 (Nat.le_trans (lwc_le _) (by decide)) (Nat.le_trans (lws_le _) (by decide)) (c_m_free l dC dI h am eI eJ eZ H.size Y  ) (cwV 0 C0.1.2.2.2.2 gL_law_X12_free rfl rfl rfl (by decide +kernel) ⟨Nat.le_of_ble_eq_true rfl, Nat.le_of_ble_eq_true rfl⟩) rfl rfl (Nat.le_of_ble_eq_true rfl) dL_law_328 (fun H locs J hS => ?_)
  rw [← E.1]
  refine lc_eq C0 dL_law_331 (by decide) ?_
  exact kk _ _ ad1 H locs E.2 h0 J hS
set_option maxHeartbeats 4000000 in
set_option maxRecDepth 100000 in
theorem lc_see (C0 : lwC p s m c dC dI cI cJ cZ cR eI eJ eZ b L xs) (R : Rel X Y) (J : tw (dC, dI) vwCl (lwFr s) (kWd cI cJ cZ cR (kWl X) ad (kM X) X) (mW h am eI eJ eZ Y) H) (hS : va_S (lwFr s) s.heap H locs) (hi : i + 4 ≤ L) (hl : lv_has ls 4 [(0, .ref b), (1, .ref (ad 0)), (2, .ref h), (3, .int (iI (i : Int)))]) (kk : lwK p l e s m below meth c dC dI cI cJ cZ cR eI eJ eZ b h am ls Q (ad 0)) : W p l e room_1 s m #[Value.ref b] below meth c H locs (lwc X) (lws X) Q (F0 m 336 ls []) := by
  have R0 := nrm_Rel R
  have sp := R0.2.1
  have R := R0.1
  have J := tw_nrm J
  refine W.widen (k := lwc (nrm X)) (n := lws (nrm X)) (lwc_G (nrm_G X)) (lws_G (nrm_G X)) ?_
  have E : (F_t_see (nrm X) (sc xs (i + 1))).1 = (F_m_see Y (sc xs (i + 1))).1 ∧ Rel (F_t_see (nrm X) (sc xs (i + 1))).2 (F_m_see Y (sc xs (i + 1))).2 := see_R R sp (sc_R _ _)
  refine lv_aload_n C0.1.1 C0.1.2.1 dL_law_336 rfl (lv_at hl 1 rfl) ?_
  refine lc_ld C0 hS hl (k := 1) rfl (by omega) dL_law_337 dL_law_338 dL_law_339 dL_law_340 dL_law_341 ?_
  refine lc_ti (X := (nrm X)) (Z := (F_t_see (nrm X) (sc xs (i + 1))).2) (r := (F_t_see (nrm X) (sc xs (i + 1))).1) (As := [.int (iI (sc xs (i + 1)))]) (rest := []) C0 J hS hl.1 (c_t_see l dC dI ad cI cJ cZ cR (kM (nrm X)) (kWl (nrm X)) H.size (nrm X) (sc xs (i + 1)) (kM_ge (nrm X)) rfl rfl (sc_R _ _) sp) (cwV 1 C0.1.2.2.2.2 gL_law_X11_see rfl rfl rfl (by decide +kernel) ⟨Nat.le_of_ble_eq_true rfl, Nat.le_of_ble_eq_true rfl⟩) rfl rfl (Nat.le_of_ble_eq_true rfl) dL_law_342 (lwc_Le (F_t_see_le (nrm X) (sc xs (i + 1)))) (lws_Le (F_t_see_le (nrm X) (sc xs (i + 1)))) (fun H locs ad1 h0 J hS => ?_)
  refine lv_aload_n C0.1.1 C0.1.2.1 dL_law_345 rfl (lv_at hl 2 rfl) ?_
  refine lc_ld C0 hS hl (k := 1) rfl (by omega) dL_law_346 dL_law_347 dL_law_348 dL_law_349 dL_law_350 ?_
  refine lc_mi (V := (F_m_see Y (sc xs (i + 1))).2) (r := (F_m_see Y (sc xs (i + 1))).1) (As := [.int (iI (sc xs (i + 1)))]) (rest := [.int (iI (F_t_see (nrm X) (sc xs (i + 1))).1)]) C0 J hS hl.1 (Nat.le_trans (lwc_le _) (by decide)) (Nat.le_trans (lws_le _) (by decide)) (c_m_see l dC dI h am eI eJ eZ H.size Y (sc xs (i + 1)) (sc_R _ _) R.2.1.1) (cwV 1 C0.1.2.2.2.2 gL_law_X12_see rfl rfl rfl (by decide +kernel) ⟨Nat.le_of_ble_eq_true rfl, Nat.le_of_ble_eq_true rfl⟩) rfl rfl (Nat.le_of_ble_eq_true rfl) dL_law_351 (fun H locs J hS => ?_)
  rw [← E.1]
  refine lc_eq C0 dL_law_354 (by decide) ?_
  exact kk _ _ ad1 H locs E.2 h0 J hS
set_option maxHeartbeats 4000000 in
set_option maxRecDepth 100000 in
theorem lc_seen (C0 : lwC p s m c dC dI cI cJ cZ cR eI eJ eZ b L xs) (R : Rel X Y) (J : tw (dC, dI) vwCl (lwFr s) (kWd cI cJ cZ cR (kWl X) ad (kM X) X) (mW h am eI eJ eZ Y) H) (hS : va_S (lwFr s) s.heap H locs) (hi : i + 4 ≤ L) (hl : lv_has ls 4 [(0, .ref b), (1, .ref (ad 0)), (2, .ref h), (3, .int (iI (i : Int)))]) (kk : lwK p l e s m below meth c dC dI cI cJ cZ cR eI eJ eZ b h am ls Q (ad 0)) : W p l e room_1 s m #[Value.ref b] below meth c H locs (lwc X) (lws X) Q (F0 m 359 ls []) := by
  have E : (F_t_seen X ).1 = (F_m_seen Y ).1 ∧ Rel (F_t_seen X ).2 (F_m_seen Y ).2 := ⟨seen_1 R, by rw [F_t_seen_2, F_m_seen_2]; exact R⟩
  have G : kG X (F_t_seen X ).2 := kG_of (F_t_seen_fr X ) (by first | decide | (intro h9; simp at h9; done) | (intro h9; simp at h9; omega)) (by first | decide | (intro h9; simp at h9; done) | (intro h9; simp at h9; omega))
  refine lv_aload_n C0.1.1 C0.1.2.1 dL_law_359 rfl (lv_at hl 1 rfl) ?_
  refine lc_ti (X := X) (Z := (F_t_seen X ).2) (r := (F_t_seen X ).1) (As := []) (rest := []) C0 J hS hl.1 (kQ_i (c_t_seen l dC dI ad cI cJ cZ cR (kM X) (kWl X) H.size X  (kM_ge X) (R_s R).1 (R_s R).2) rfl rfl G) (cwV 0 C0.1.2.2.2.2 gL_law_X11_seen rfl rfl rfl (by decide +kernel) ⟨Nat.le_of_ble_eq_true rfl, Nat.le_of_ble_eq_true rfl⟩) rfl rfl (Nat.le_of_ble_eq_true rfl) dL_law_360 (lwc_G G) (lws_G G) (fun H locs ad1 h0 J hS => ?_)
  refine lv_aload_n C0.1.1 C0.1.2.1 dL_law_363 rfl (lv_at hl 2 rfl) ?_
  refine lc_mi (V := (F_m_seen Y ).2) (r := (F_m_seen Y ).1) (As := []) (rest := [.int (iI (F_t_seen X ).1)]) C0 J hS hl.1 (Nat.le_trans (lwc_le _) (by decide)) (Nat.le_trans (lws_le _) (by decide)) (c_m_seen l dC dI h am eI eJ eZ H.size Y  ) (cwV 0 C0.1.2.2.2.2 gL_law_X12_seen rfl rfl rfl (by decide +kernel) ⟨Nat.le_of_ble_eq_true rfl, Nat.le_of_ble_eq_true rfl⟩) rfl rfl (Nat.le_of_ble_eq_true rfl) dL_law_364 (fun H locs J hS => ?_)
  rw [← E.1]
  refine lc_eq C0 dL_law_367 (by decide) ?_
  exact kk _ _ ad1 H locs E.2 h0 J hS
end LW
