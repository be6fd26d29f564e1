-- deps: B6.b
section LW
variable {p : Program} {l : Launch} {e : Env} {s : State} {m : MethodId} {below : List Frame} {meth : Method} {c : Code} {dC : Nat → ClassId} {dI : Nat → Nat → Nat} {cI cJ cZ cR eI eJ eZ : ClassId} {b L : Nat} {xs : Nat → Int32} {h : Nat} {am ad : Nat → Nat} {X : KS} {Y : MS} {H : Heap} {locs : List Loc} {ls : Array Slot} {Q : State → Prop} {i : Nat}
set_option maxHeartbeats 4000000 in
set_option maxRecDepth 100000 in
theorem lc_letters (C0 : lwC p s m c dC dI cI cJ cZ cR eI eJ eZ b L xs) (R : Rel X Y) (J : tw (dC, dI) vwCl (lwFr s) (kWd cI cJ cZ cR (kWl X) ad (kM X) X) (mW h am eI eJ eZ Y) H) (hS : va_S (lwFr s) s.heap H locs) (hi : i + 4 ≤ L) (hl : lv_has ls 4 [(0, .ref b), (1, .ref (ad 0)), (2, .ref h), (3, .int (iI (i : Int)))]) (kk : lwK p l e s m below meth c dC dI cI cJ cZ cR eI eJ eZ b h am ls Q (ad 0)) : W p l e room_1 s m #[Value.ref b] below meth c H locs (lwc X) (lws X) Q (F0 m 152 ls []) := by
  have E : (F_t_letters X (sc xs (i + 1))).1 = (F_m_letters Y (sc xs (i + 1))).1 ∧ Rel (F_t_letters X (sc xs (i + 1))).2 (F_m_letters Y (sc xs (i + 1))).2 := letters_R R _
  have G : kG X (F_t_letters X (sc xs (i + 1))).2 := kG_of (F_t_letters_fr X (sc xs (i + 1))) (by first | decide | (intro h9; simp at h9; done) | (intro h9; simp at h9; omega)) (by first | decide | (intro h9; simp at h9; done) | (intro h9; simp at h9; omega))
  refine lv_aload_n C0.1.1 C0.1.2.1 dL_law_152 rfl (lv_at hl 1 rfl) ?_
  refine lc_ld C0 hS hl (k := 1) rfl (by omega) dL_law_153 dL_law_154 dL_law_155 dL_law_156 dL_law_157 ?_
  refine lc_ti (X := X) (Z := (F_t_letters X (sc xs (i + 1))).2) (r := (F_t_letters X (sc xs (i + 1))).1) (As := [.int (iI (sc xs (i + 1)))]) (rest := []) C0 J hS hl.1 (kQ_i (c_t_letters l dC dI ad cI cJ cZ cR (kM X) (kWl X) H.size X (sc xs (i + 1)) (kM_ge X) (sc_R _ _)) rfl rfl G) (cwV 1 C0.1.2.2.2.2 gL_law_X11_letters rfl rfl rfl (by decide +kernel) ⟨Nat.le_of_ble_eq_true rfl, Nat.le_of_ble_eq_true rfl⟩) rfl rfl (Nat.le_of_ble_eq_true rfl) dL_law_158 (lwc_G G) (lws_G G) (fun H locs ad1 h0 J hS => ?_)
  refine lv_aload_n C0.1.1 C0.1.2.1 dL_law_161 rfl (lv_at hl 2 rfl) ?_
  refine lc_ld C0 hS hl (k := 1) rfl (by omega) dL_law_162 dL_law_163 dL_law_164 dL_law_165 dL_law_166 ?_
  refine lc_mi (V := (F_m_letters Y (sc xs (i + 1))).2) (r := (F_m_letters Y (sc xs (i + 1))).1) (As := [.int (iI (sc xs (i + 1)))]) (rest := [.int (iI (F_t_letters X (sc xs (i + 1))).1)]) C0 J hS hl.1 (Nat.le_trans (lwc_le _) (by decide)) (Nat.le_trans (lws_le _) (by decide)) (c_m_letters l dC dI h am eI eJ eZ H.size Y (sc xs (i + 1)) (sc_R _ _)) (cwV 1 C0.1.2.2.2.2 gL_law_X12_letters rfl rfl rfl (by decide +kernel) ⟨Nat.le_of_ble_eq_true rfl, Nat.le_of_ble_eq_true rfl⟩) rfl rfl (Nat.le_of_ble_eq_true rfl) dL_law_167 (fun H locs J hS => ?_)
  rw [← E.1]
  refine lc_eq C0 dL_law_170 (by decide) ?_
  exact kk _ _ ad1 H locs E.2 h0 J hS
set_option maxHeartbeats 4000000 in
set_option maxRecDepth 100000 in
theorem lc_letter (C0 : lwC p s m c dC dI cI cJ cZ cR eI eJ eZ b L xs) (R : Rel X Y) (J : tw (dC, dI) vwCl (lwFr s) (kWd cI cJ cZ cR (kWl X) ad (kM X) X) (mW h am eI eJ eZ Y) H) (hS : va_S (lwFr s) s.heap H locs) (hi : i + 4 ≤ L) (hl : lv_has ls 4 [(0, .ref b), (1, .ref (ad 0)), (2, .ref h), (3, .int (iI (i : Int)))]) (kk : lwK p l e s m below meth c dC dI cI cJ cZ cR eI eJ eZ b h am ls Q (ad 0)) : W p l e room_1 s m #[Value.ref b] below meth c H locs (lwc X) (lws X) Q (F0 m 175 ls []) := by
  have E : (F_t_letter X (sc xs (i + 1))).1 = (F_m_letter Y (sc xs (i + 1))).1 ∧ Rel (F_t_letter X (sc xs (i + 1))).2 (F_m_letter Y (sc xs (i + 1))).2 := letter_R R _
  have G : kG X (F_t_letter X (sc xs (i + 1))).2 := kG_of (F_t_letter_fr X (sc xs (i + 1))) (by first | decide | (intro h9; simp at h9; done) | (intro h9; simp at h9; omega)) (by first | decide | (intro h9; simp at h9; done) | (intro h9; simp at h9; omega))
  refine lv_aload_n C0.1.1 C0.1.2.1 dL_law_175 rfl (lv_at hl 1 rfl) ?_
  refine lc_ld C0 hS hl (k := 1) rfl (by omega) dL_law_176 dL_law_177 dL_law_178 dL_law_179 dL_law_180 ?_
  refine lc_ti (X := X) (Z := (F_t_letter X (sc xs (i + 1))).2) (r := (F_t_letter X (sc xs (i + 1))).1) (As := [.int (iI (sc xs (i + 1)))]) (rest := []) C0 J hS hl.1 (kQ_i (c_t_letter l dC dI ad cI cJ cZ cR (kM X) (kWl X) H.size X (sc xs (i + 1)) (kM_ge X) (sc_R _ _) (R_l2 R) (R_u4 R).1 (R_u4 R).2) rfl rfl G) (cwV 1 C0.1.2.2.2.2 gL_law_X11_letter rfl rfl rfl (by decide +kernel) ⟨Nat.le_of_ble_eq_true rfl, Nat.le_of_ble_eq_true rfl⟩) rfl rfl (Nat.le_of_ble_eq_true rfl) dL_law_181 (lwc_G G) (lws_G G) (fun H locs ad1 h0 J hS => ?_)
  refine lv_aload_n C0.1.1 C0.1.2.1 dL_law_184 rfl (lv_at hl 2 rfl) ?_
  refine lc_ld C0 hS hl (k := 1) rfl (by omega) dL_law_185 dL_law_186 dL_law_187 dL_law_188 dL_law_189 ?_
  refine lc_mi (V := (F_m_letter Y (sc xs (i + 1))).2) (r := (F_m_letter Y (sc xs (i + 1))).1) (As := [.int (iI (sc xs (i + 1)))]) (rest := [.int (iI (F_t_letter X (sc xs (i + 1))).1)]) C0 J hS hl.1 (Nat.le_trans (lwc_le _) (by decide)) (Nat.le_trans (lws_le _) (by decide)) (d_m_letter l dC dI h am eI eJ eZ H.size Y (sc xs (i + 1)) (sc_R _ _) (M_lt R) (M_zs R)) (cwV 1 C0.1.2.2.2.2 gL_law_X12_letter rfl rfl rfl (by decide +kernel) ⟨Nat.le_of_ble_eq_true rfl, Nat.le_of_ble_eq_true rfl⟩) rfl rfl (Nat.le_of_ble_eq_true rfl) dL_law_190 (fun H locs J hS => ?_)
  rw [← E.1]
  refine lc_eq C0 dL_law_193 (by decide) ?_
  exact kk _ _ ad1 H locs E.2 h0 J hS
set_option maxHeartbeats 4000000 in
set_option maxRecDepth 100000 in
theorem lc_clear (C0 : lwC p s m c dC dI cI cJ cZ cR eI eJ eZ b L xs) (R : Rel X Y) (J : tw (dC, dI) vwCl (lwFr s) (kWd cI cJ cZ cR (kWl X) ad (kM X) X) (mW h am eI eJ eZ Y) H) (hS : va_S (lwFr s) s.heap H locs) (hi : i + 4 ≤ L) (hl : lv_has ls 4 [(0, .ref b), (1, .ref (ad 0)), (2, .ref h), (3, .int (iI (i : Int)))]) (kk : lwK p l e s m below meth c dC dI cI cJ cZ cR eI eJ eZ b h am ls Q (ad 0)) : W p l e room_1 s m #[Value.ref b] below meth c H locs (lwc X) (lws X) Q (F0 m 198 ls []) := by
  have E : (F_t_clear X ).1 = (F_m_clear Y ).1 ∧ Rel (F_t_clear X ).2 (F_m_clear Y ).2 := clear_R R
  have G : kG X (F_t_clear X ).2 := kG_of (F_t_clear_fr X ) (by first | decide | (intro h9; simp at h9; done) | (intro h9; simp at h9; omega)) (by first | decide | (intro h9; simp at h9; done) | (intro h9; simp at h9; omega))
  refine lv_aload_n C0.1.1 C0.1.2.1 dL_law_198 rfl (lv_at hl 1 rfl) ?_
  refine lc_ti (X := X) (Z := (F_t_clear X ).2) (r := (F_t_clear X ).1) (As := []) (rest := []) C0 J hS hl.1 (kQ_i (c_t_clear l dC dI ad cI cJ cZ cR (kM X) (kWl X) H.size X  (kM_ge X) ) rfl rfl G) (cwV 0 C0.1.2.2.2.2 gL_law_X11_clear rfl rfl rfl (by decide +kernel) ⟨Nat.le_of_ble_eq_true rfl, Nat.le_of_ble_eq_true rfl⟩) rfl rfl (Nat.le_of_ble_eq_true rfl) dL_law_199 (lwc_G G) (lws_G G) (fun H locs ad1 h0 J hS => ?_)
  refine lv_aload_n C0.1.1 C0.1.2.1 dL_law_202 rfl (lv_at hl 2 rfl) ?_
  refine lc_mi (V := (F_m_clear Y ).2) (r := (F_m_clear Y ).1) (As := []) (rest := [.int (iI (F_t_clear X ).1)]) C0 J hS hl.1 (Nat.le_trans (lwc_le _) (by decide)) (Nat.le_trans (lws_le _) (by decide)) (c_m_clear l dC dI h am eI eJ eZ H.size Y  ) (cwV 0 C0.1.2.2.2.2 gL_law_X12_clear rfl rfl rfl (by decide +kernel) ⟨Nat.le_of_ble_eq_true rfl, Nat.le_of_ble_eq_true rfl⟩) rfl rfl (Nat.le_of_ble_eq_true rfl) dL_law_203 (fun H locs J hS => ?_)
  rw [← E.1]
  refine lc_eq C0 dL_law_206 (by decide) ?_
  exact kk _ _ ad1 H locs E.2 h0 J hS
set_option maxHeartbeats 4000000 in
set_option maxRecDepth 100000 in
theorem lc_slot (C0 : lwC p s m c dC dI cI cJ cZ cR eI eJ eZ b L xs) (R : Rel X Y) (J : tw (dC, dI) vwCl (lwFr s) (kWd cI cJ cZ cR (kWl X) ad (kM X) X) (mW h am eI eJ eZ Y) H) (hS : va_S (lwFr s) s.heap H locs) (hi : i + 4 ≤ L) (hl : lv_has ls 4 [(0, .ref b), (1, .ref (ad 0)), (2, .ref h), (3, .int (iI (i : Int)))]) (kk : lwK p l e s m below meth c dC dI cI cJ cZ cR eI eJ eZ b h am ls Q (ad 0)) : W p l e room_1 s m #[Value.ref b] below meth c H locs (lwc X) (lws X) Q (F0 m 211 ls []) := by
  have E : (F_t_slot X (sc xs (i + 1))).1 = (F_m_slot Y (sc xs (i + 1))).1 ∧ Rel (F_t_slot X (sc xs (i + 1))).2 (F_m_slot Y (sc xs (i + 1))).2 := slot_R R _
  have G : kG X (F_t_slot X (sc xs (i + 1))).2 := kG_of (F_t_slot_fr X (sc xs (i + 1))) (by first | decide | (intro h9; simp at h9; done) | (intro h9; simp at h9; omega)) (by first | decide | (intro h9; simp at h9; done) | (intro h9; simp at h9; omega))
  refine lv_aload_n C0.1.1 C0.1.2.1 dL_law_211 rfl (lv_at hl 1 rfl) ?_
  refine lc_ld C0 hS hl (k := 1) rfl (by omega) dL_law_212 dL_law_213 dL_law_214 dL_law_215 dL_law_216 ?_
  refine lc_ti (X := X) (Z := (F_t_slot X (sc xs (i + 1))).2) (r := (F_t_slot X (sc xs (i + 1))).1) (As := [.int (iI (sc xs (i + 1)))]) (rest := []) C0 J hS hl.1 (kQ_i (c_t_slot l dC dI ad cI cJ cZ cR (kM X) (kWl X) H.size X (sc xs (i + 1)) (kM_ge X) (sc_R _ _) (R_u4 R).1 (R_u4 R).2) rfl rfl G) (cwV 1 C0.1.2.2.2.2 gL_law_X11_slot rfl rfl rfl (by decide +kernel) ⟨Nat.le_of_ble_eq_true rfl, Nat.le_of_ble_eq_true rfl⟩) rfl rfl (Nat.le_of_ble_eq_true rfl) dL_law_217 (lwc_G G) (lws_G G) (fun H locs ad1 h0 J hS => ?_)
  refine lv_aload_n C0.1.1 C0.1.2.1 dL_law_220 rfl (lv_at hl 2 rfl) ?_
  refine lc_ld C0 hS hl (k := 1) rfl (by omega) dL_law_221 dL_law_222 dL_law_223 dL_law_224 dL_law_225 ?_
  refine lc_mi (V := (F_m_slot Y (sc xs (i + 1))).2) (r := (F_m_slot Y (sc xs (i + 1))).1) (As := [.int (iI (sc xs (i + 1)))]) (rest := [.int (iI (F_t_slot X (sc xs (i + 1))).1)]) C0 J hS hl.1 (Nat.le_trans (lwc_le _) (by decide)) (Nat.le_trans (lws_le _) (by decide)) (d_m_slot l dC dI h am eI eJ eZ H.size Y (sc xs (i + 1)) (sc_R _ _) (M_zs R)) (cwV 1 C0.1.2.2.2.2 gL_law_X12_slot rfl rfl rfl (by decide +kernel) ⟨Nat.le_of_ble_eq_true rfl, Nat.le_of_ble_eq_true rfl⟩) rfl rfl (Nat.le_of_ble_eq_true rfl) dL_law_226 (fun H locs J hS => ?_)
  rw [← E.1]
  refine lc_eq C0 dL_law_229 (by decide) ?_
  exact kk _ _ ad1 H locs E.2 h0 J hS
set_option maxHeartbeats 4000000 in
set_option maxRecDepth 100000 in
theorem lc_at (C0 : lwC p s m c dC dI cI cJ cZ cR eI eJ eZ b L xs) (R : Rel X Y) (J : tw (dC, dI) vwCl (lwFr s) (kWd cI cJ cZ cR (kWl X) ad (kM X) X) (mW h am eI eJ eZ Y) H) (hS : va_S (lwFr s) s.heap H locs) (hi : i + 4 ≤ L) (hl : lv_has ls 4 [(0, .ref b), (1, .ref (ad 0)), (2, .ref h), (3, .int (iI (i : Int)))]) (kk : lwK p l e s m below meth c dC dI cI cJ cZ cR eI eJ eZ b h am ls Q (ad 0)) : W p l e room_1 s m #[Value.ref b] below meth c H locs (lwc X) (lws X) Q (F0 m 234 ls []) := by
  have E : (F_t_at X (sc xs (i + 1)) (sc xs (i + 2))).1 = (F_m_at Y (sc xs (i + 1)) (sc xs (i + 2))).1 ∧ Rel (F_t_at X (sc xs (i + 1)) (sc xs (i + 2))).2 (F_m_at Y (sc xs (i + 1)) (sc xs (i + 2))).2 := ⟨at_1 R _ _, by rw [F_t_at_2, F_m_at_2]; exact R⟩
  have G : kG X (F_t_at X (sc xs (i + 1)) (sc xs (i + 2))).2 := kG_of (F_t_at_fr X (sc xs (i + 1)) (sc xs (i + 2))) (by first | decide | (intro h9; simp at h9; done) | (intro h9; simp at h9; omega)) (by first | decide | (intro h9; simp at h9; done) | (intro h9; simp at h9; omega))
  refine lv_aload_n C0.1.1 C0.1.2.1 dL_law_234 rfl (lv_at hl 1 rfl) ?_
  refine lc_ld C0 hS hl (k := 1) rfl (by omega) dL_law_235 dL_law_236 dL_law_237 dL_law_238 dL_law_239 ?_
  refine lc_ld C0 hS hl (k := 2) rfl (by omega) dL_law_240 dL_law_241 dL_law_242 dL_law_243 dL_law_244 ?_
  refine lc_ti (X := X) (Z := (F_t_at X (sc xs (i + 1)) (sc xs (i + 2))).2) (r := (F_t_at X (sc xs (i + 1)) (sc xs (i + 2))).1) (As := [.int (iI (sc xs (i + 1))), .int (iI (sc xs (i + 2)))]) (rest := []) C0 J hS hl.1 (kQ_i (c_t_at l dC dI ad cI cJ cZ cR (kM X) (kWl X) H.size X (sc xs (i + 1)) (sc xs (i + 2)) (kM_ge X) (sc_R _ _) (sc_R _ _) (KI_su2 R.1)) rfl rfl G) (cwV 2 C0.1.2.2.2.2 gL_law_X11_at rfl rfl rfl (by decide +kernel) ⟨Nat.le_of_ble_eq_true rfl, Nat.le_of_ble_eq_true rfl⟩) rfl rfl (Nat.le_of_ble_eq_true rfl) dL_law_245 (lwc_G G) (lws_G G) (fun H locs ad1 h0 J hS => ?_)
  refine lv_aload_n C0.1.1 C0.1.2.1 dL_law_248 rfl (lv_at hl 2 rfl) ?_
  refine lc_ld C0 hS hl (k := 1) rfl (by omega) dL_law_249 dL_law_250 dL_law_251 dL_law_252 dL_law_253 ?_
  refine lc_ld C0 hS hl (k := 2) rfl (by omega) dL_law_254 dL_law_255 dL_law_256 dL_law_257 dL_law_258 ?_
  refine lc_mi (V := (F_m_at Y (sc xs (i + 1)) (sc xs (i + 2))).2) (r := (F_m_at Y (sc xs (i + 1)) (sc xs (i + 2))).1) (As := [.int (iI (sc xs (i + 1))), .int (iI (sc xs (i + 2)))]) (rest := [.int (iI (F_t_at X (sc xs (i + 1)) (sc xs (i + 2))).1)]) C0 J hS hl.1 (Nat.le_trans (lwc_le _) (by decide)) (Nat.le_trans (lws_le _) (by decide)) (d_m_at l dC dI h am eI eJ eZ H.size Y (sc xs (i + 1)) (sc xs (i + 2)) (sc_R _ _) (sc_R _ _) (M_zs R)) (cwV 2 C0.1.2.2.2.2 gL_law_X12_at rfl rfl rfl (by decide +kernel) ⟨Nat.le_of_ble_eq_true rfl, Nat.le_of_ble_eq_true rfl⟩) rfl rfl (Nat.le_of_ble_eq_true rfl) dL_law_259 (fun H locs J hS => ?_)
  rw [← E.1]
  refine lc_eq C0 dL_law_262 (by decide) ?_
  exact kk _ _ ad1 H locs E.2 h0 J hS
end LW
