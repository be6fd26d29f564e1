-- deps: B6.b
section LW
variable {p : Program} {l : Launch} {e : Env} {s : State} {m : MethodId} {below : List Frame} {meth : Method} {c : Code} {dC : Nat → ClassId} {dI : Nat → Nat → Nat} {cI cJ cZ cR eI eJ eZ : ClassId} {b L : Nat} {xs : Nat → Int32} {h : Nat} {am ad : Nat → Nat} {X : KS} {Y : MS} {H : Heap} {locs : List Loc} {ls : Array Slot} {Q : State → Prop} {i : Nat}
set_option maxHeartbeats 4000000 in
set_option maxRecDepth 100000 in
theorem lc_total (C0 : lwC p s m c dC dI cI cJ cZ cR eI eJ eZ b L xs) (R : Rel X Y) (J : tw (dC, dI) vwCl (lwFr s) (kWd cI cJ cZ cR (kWl X) ad (kM X) X) (mW h am eI eJ eZ Y) H) (hS : va_S (lwFr s) s.heap H locs) (hi : i + 4 ≤ L) (hl : lv_has ls 4 [(0, .ref b), (1, .ref (ad 0)), (2, .ref h), (3, .int (iI (i : Int)))]) (kk : lwK p l e s m below meth c dC dI cI cJ cZ cR eI eJ eZ b h am ls Q (ad 0)) : W p l e room_1 s m #[Value.ref b] below meth c H locs (lwc X) (lws X) Q (F0 m 826 ls []) := by
  have E : (F_t_total X (sc xs (i + 1))).1 = (F_m_total Y (sc xs (i + 1))).1 ∧ Rel (F_t_total X (sc xs (i + 1))).2 (F_m_total Y (sc xs (i + 1))).2 := ⟨total_1 R _, by rw [F_t_total_2, F_m_total_2]; exact R⟩
  have G : kG X (F_t_total X (sc xs (i + 1))).2 := kG_of (F_t_total_fr X (sc xs (i + 1))) (by first | decide | (intro h9; simp at h9; done) | (intro h9; simp at h9; omega)) (by first | decide | (intro h9; simp at h9; done) | (intro h9; simp at h9; omega))
  refine lv_aload_n C0.1.1 C0.1.2.1 dL_law_826 rfl (lv_at hl 1 rfl) ?_
  refine lc_ld C0 hS hl (k := 1) rfl (by omega) dL_law_827 dL_law_828 dL_law_829 dL_law_830 dL_law_831 ?_
  refine lc_ti (X := X) (Z := (F_t_total X (sc xs (i + 1))).2) (r := (F_t_total X (sc xs (i + 1))).1) (As := [.int (iI (sc xs (i + 1)))]) (rest := []) C0 J hS hl.1 (kQ_i (c_t_total l dC dI ad cI cJ cZ cR (kM X) (kWl X) H.size X (sc xs (i + 1)) (kM_ge X) (R_s R).1 (R_s R).2 (sc_R _ _)) rfl rfl G) (cwV 1 C0.1.2.2.2.2 gL_law_X11_total rfl rfl rfl (by decide +kernel) ⟨Nat.le_of_ble_eq_true rfl, Nat.le_of_ble_eq_true rfl⟩) rfl rfl (Nat.le_of_ble_eq_true rfl) dL_law_832 (lwc_G G) (lws_G G) (fun H locs ad1 h0 J hS => ?_)
  refine lv_aload_n C0.1.1 C0.1.2.1 dL_law_835 rfl (lv_at hl 2 rfl) ?_
  refine lc_ld C0 hS hl (k := 1) rfl (by omega) dL_law_836 dL_law_837 dL_law_838 dL_law_839 dL_law_840 ?_
  refine lc_mi (V := (F_m_total Y (sc xs (i + 1))).2) (r := (F_m_total Y (sc xs (i + 1))).1) (As := [.int (iI (sc xs (i + 1)))]) (rest := [.int (iI (F_t_total X (sc xs (i + 1))).1)]) C0 J hS hl.1 (Nat.le_trans (lwc_le _) (by decide)) (Nat.le_trans (lws_le _) (by decide)) (c_m_total l dC dI h am eI eJ eZ H.size Y (sc xs (i + 1)) (sc_R _ _) (M_sn R)) (cwV 1 C0.1.2.2.2.2 gL_law_X12_total rfl rfl rfl (by decide +kernel) ⟨Nat.le_of_ble_eq_true rfl, Nat.le_of_ble_eq_true rfl⟩) rfl rfl (Nat.le_of_ble_eq_true rfl) dL_law_841 (fun H locs J hS => ?_)
  rw [← E.1]
  refine lc_eq C0 dL_law_844 (by decide) ?_
  exact kk _ _ ad1 H locs E.2 h0 J hS
end LW
