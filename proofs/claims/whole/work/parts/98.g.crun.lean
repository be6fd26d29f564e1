-- deps: 98.e 98.f
/-! Rewriter.run: the contract -/
theorem kLe_s {y : KS} {c k : Nat} {v : Int} (h1 : (70, 5) ≠ (c, k)) (h2 : (101, 9) ≠ (c, k)) : kLe y (kS y c k v) := kLe_G (kG_s h1 h2 (kG_rf y))
theorem kLe_a {y : KS} {c j : Nat} {v : Int} : kLe y (kA y c j v) := kLe_rf y
theorem F_r_run_le {w2 : Nat} (hw : kW w2 = true) (l : w2 + 1 < 87) (x : KS) (w1 : Nat) : kLe x (F_r_run x w1 w2).2 := by
  have kgr := F_r_ro_G hw x w1
  have n5 : ¬ (rZ x w1 w2).1 70 5 = 0 := by
    unfold rZ
    by_cases c5 : (F_r_ro x w1 w2).2.1 70 5 = 0
    · rw [if_pos c5]; show ¬ (1 : Int) = 0; decide
    · rw [if_neg c5]; exact c5
  have zle : kLe x (rZ x w1 w2) := by
    unfold rZ
    by_cases c5 : (F_r_ro x w1 w2).2.1 70 5 = 0
    · rw [if_pos c5]
      have e5 : x.1 70 5 = 0 := by rw [← kgr.1]; exact c5
      have m5 : ¬ (kNg (F_r_ro x w1 w2).2).1 70 5 = 0 := by show ¬ (1 : Int) = 0; decide
      have m9 : ¬ 262144 ≤ (kNg (F_r_ro x w1 w2).2).1 101 9 := by show ¬ 262144 ≤ (32768 : Int); decide
      unfold kLe kPo kPs kCw kSw
      rw [if_neg m5, if_pos e5, if_neg m9, if_neg m5, if_pos e5, if_neg m9]
      omega
    · rw [if_neg c5]; exact kLe_G kgr
  have fp := F_r_putRestBack_fr (rZ x w1 w2) w2
  have kgp : kG (rZ x w1 w2) (F_r_putRestBack (rZ x w1 w2) w2).2 := kG_of fp (by intro h9; simp at h9) (by intro h9; simp at h9)
  have p5 : ¬ (F_r_putRestBack (rZ x w1 w2) w2).2.1 70 5 = 0 := by rw [kgp.1]; exact n5
  have gle := kLe_g_run hw (by omega) p5
  have go : kLe x (F_r_go (rZ x w1 w2) w2).2 := by
    unfold F_r_go
    repeat' split
    all_goals first | exact kLe_tr zle (kLe_G kgp) | exact kLe_tr (kLe_tr zle (kLe_G kgp)) gle
  unfold F_r_run
  by_cases c1 : (F_r_ro x w1 w2).1 = 0
  · rw [if_pos c1]; exact kLe_G kgr
  · rw [if_neg c1]
    by_cases c2 : 0 < (F_r_ro x w1 w2).2.1 70 4
    · rw [if_pos c2]; exact go
    · rw [if_neg c2]; exact kLe_G kgr
set_option maxHeartbeats 4000000 in
set_option maxRecDepth 100000 in
/-- LikeWords$Rewriter, run -/
theorem c_r_run (l : Launch) (dC : Nat → ClassId) (dI : Nat → Nat → Nat) (ao : Nat → Nat) (cI cJ cZ cR : ClassId) (M wl sz : Nat) (x : KS) (w1 : Nat) (w2 : Nat) (hM : 87 ≤ M) (hw_w1 : kW w1 = true) (hc_w1 : w1 + 1 < 87) (hw_w2 : kW w2 = true) (hc_w2 : w2 + 1 < 87) (hkM : M = kM x) (hkW : wl = kWl x) (ok : rOK x) (g1 : wG x w1) (hL1 : kL w1 = 60) (hL2 : kL w2 = 60) (r2 : r03 (x.2 (w2 + 1))) : Met l yX6_run wsX6_run ({ frames := 4, cells := kPo x - kPo (F_r_run x w1 w2).2, slots := kPs x - kPs (F_r_run x w1 w2).2, locals := 109 }) (kPc dC dI ao cI cJ cZ cR M wl sz x [.ref (ao 70), .ref (ao w1), .ref (ao w2)]) (va_Qi (fun (r : Int32) (u : KS × (Nat → Nat)) => r = iI (F_r_run x w1 w2).1 ∧ u.1 = (F_r_run x w1 w2).2 ∧ (∀ c, c < 87 → u.2 c = ao c)) (fun u t => kAt dC dI u.2 cI cJ cZ cR (kM u.1) (kWl u.1) (va_A (kWd cI cJ cZ cR wl ao M x) sz) u.1 t) (va_A (kWd cI cJ cZ cR wl ao M x) sz)) (kPo x - kPo (F_r_run x w1 w2).2) (kPs x - kPs (F_r_run x w1 w2).2) (va_A (kWd cI cJ cZ cR wl ao M x) sz) := by
  refine Met.ofW (cc := cX6_run) (maxL := 4) (ret := (some .boolean)) (by decide) rfl ?_
  intro p e s m args below meth c s₁ B hml hv
  obtain ⟨rfl, hsz, hP, hK, hD0, hNw⟩ := hv
  have hx := B.exec
  have hb := B.bytes
  have hr := B.returns
  have hts := atoms_spec (ws := wsX6_run) B.pre
  have hown : s.vm.findClass RX6 = some m.cls := findClass_of_methodNamed B.named
  have hlocks := B.notSynchronized
  have hinX10 : ∀ w ∈ u_ws RX10 TX10 2, w ∈ wsX6_run := by decide +kernel
  have hinX6 : ∀ w ∈ u_ws RX6 TX6 6, w ∈ wsX6_run := by decide +kernel
  subst hsz
  have hD := hD0.self (sz := s.heap.size)
  generalize hAe : va_A (kWd cI cJ cZ cR wl ao M x) s.heap.size = A at hD ⊢
  have hA : ∀ q : Nat, s.heap.size ≤ q → A q := fun q h => by rw [← hAe]; exact Or.inr h
  have hS : va_S A s.heap s.heap [] := va_S.rf
  have hl := lv_entry ([.ref (ao 70), .ref (ao w1), .ref (ao w2)]) (n := 4) (Nat.le_of_ble_eq_true rfl)
  rw [lg_entry_eq]
  generalize (lg_sl ([.ref (ao 70), .ref (ao w1), .ref (ao w2)]) ++ List.replicate (4 - (lg_sl ([.ref (ao 70), .ref (ao w1), .ref (ao w2)])).length) Slot.unset).toArray = ls at hl ⊢
  have hl : lv_has ls 4 [(0, .ref (ao (70))), (1, .ref (ao (w1))), (2, .ref (ao (w2)))] := hl
  obtain ⟨wi, sm1, ro1, roX, p2, r71, rw2⟩ := F_r_ro_rest ok hw_w1 hw_w2 hL2 g1 r2
  obtain ⟨z1, z2, z3, z4, z5⟩ := rZ_rest ok hw_w1 hw_w2 hL2 hc_w2 g1 r2
  obtain ⟨rk0, rk1, rk2, rk3⟩ := rOK_run ok hw_w1 hw_w2 hL2 hc_w2 g1 r2
  have mx := ok.1
  have k61 := kL_le w1
  obtain ⟨smc, ⟨u0, r0, ur⟩, ok1, ok2, plc9, nl, rc⟩ := id roX
  have z71 : (rZ x w1 w2).2 71 = (F_r_ro x w1 w2).2.2 71 := z5.2 71 (by decide) (by decide)
  have z72 : (rZ x w1 w2).2 72 = (F_r_ro x w1 w2).2.2 72 := z5.2 72 (by decide) (by decide)
  have zw : (rZ x w1 w2).2 (w2 + 1) = (F_r_ro x w1 w2).2.2 (w2 + 1) := z5.2 (w2 + 1) hc_w2 List.not_mem_nil.elim
  have zu : (rZ x w1 w2).1 w2 1 = (F_r_ro x w1 w2).2.1 w2 1 := z5.1 w2 1 (by omega) (by intro h9; simp at h9)
  have z704 : (rZ x w1 w2).1 70 4 = (F_r_ro x w1 w2).2.1 70 4 := z5.1 70 4 (by decide) (by decide)
  have er : rL (rZ x w1 w2) = rL (F_r_ro x w1 w2).2 := by unfold rL; rw [z71, z704]
  have lw : ((wS (F_r_ro x w1 w2).2 w2).length : Int) = (F_r_ro x w1 w2).2.1 w2 1 := by rw [wS_len]; omega
  have wiZ : rwI (rZ x w1 w2) w2 := ⟨by rw [zu, hL2]; exact ⟨u0, by show _ ≤ (60 : Int); omega⟩, by rw [z704]; omega, by rw [z72]; exact p2.2, by rw [z71]; exact fun j => by have := r71 j; omega⟩
  have pb := F_r_putRestBack_x hw_w2 hL2 z4 (by rw [z704]; exact r0) (by rw [lw, z704]; exact ur)
  rw [er] at pb
  have fp := F_r_putRestBack_fr (rZ x w1 w2) w2
  have rz : r03 ((F_r_putRestBack (rZ x w1 w2) w2).2.2 (w2 + 1)) := F_r_putRestBack_s_r hw_w2 70 (rZ x w1 w2) ((rZ x w1 w2).1 70 4 - 1) (by rw [z71]; exact r71) (by rw [zw]; exact rw2)
  have okS : okL (nL x) (wS (F_r_ro x w1 w2).2 w2 ++ rL (F_r_ro x w1 w2).2) := okL_app.mpr ⟨ok1, ok2⟩
  have lS9 : (wS (F_r_ro x w1 w2).2 w2 ++ rL (F_r_ro x w1 w2).2).length ≤ 60 := by rw [List.length_append, wS_len, rL_len]; omega
  have sme : sM x (F_r_putRestBack (rZ x w1 w2) w2).2 := sM_tr z1.1 (sM_of fp (fun p hp => by rw [List.mem_singleton] at hp; rw [hp]; exact sMs_w hw_w2) (fun a ha => by rw [List.mem_singleton] at ha; rw [ha]; exact sMa_w hw_w2))
  have ge : gR0 x (F_r_putRestBack (rZ x w1 w2) w2).2 := gR0_fr z1 fp sme (by intro h9; simp at h9) (fun q hq h9 => by simp at hq h9; omega)
  have g1r := (F_g_run_x mx hw_w2 (by omega) ge pb.2 rz okS lS9).1
  have p5 : ¬ (F_r_putRestBack (rZ x w1 w2) w2).2.1 70 5 = 0 := by rw [fp.1 70 5 (by intro h9; simp at h9)]; exact z3
  have kgp : kG (rZ x w1 w2) (F_r_putRestBack (rZ x w1 w2) w2).2 := kG_of fp (by intro h9; simp at h9) (by intro h9; simp at h9)
  have kgr : kG x (F_r_ro x w1 w2).2 := F_r_ro_G hw_w2 x w1
  have zle : kLe x (rZ x w1 w2) := by
    unfold rZ
    by_cases c5 : (F_r_ro x w1 w2).2.1 70 5 = 0
    · rw [if_pos c5]
      have e5 : x.1 70 5 = 0 := by rw [← kgr.1]; exact c5
      have n5 : ¬ (kNg (F_r_ro x w1 w2).2).1 70 5 = 0 := by show ¬ (1 : Int) = 0; decide
      have n9 : ¬ 262144 ≤ (kNg (F_r_ro x w1 w2).2).1 101 9 := by show ¬ 262144 ≤ (32768 : Int); decide
      unfold kLe kPo kPs kCw kSw
      rw [if_neg n5, if_pos e5, if_neg n9, if_neg n5, if_pos e5, if_neg n9]
      omega
    · rw [if_neg c5]; exact kLe_G kgr
  have zl1 := zle.1
  have zl2 := zle.2
  have ePo : kPo (rZ x w1 w2) = kCw (F_r_putRestBack (rZ x w1 w2) w2).2 := by rw [← (kG_p kgp).1]; exact if_neg p5
  have ePs : kPs (rZ x w1 w2) = kSw (F_r_putRestBack (rZ x w1 w2) w2).2 := by rw [← (kG_p kgp).2]; exact if_neg p5
  have q5 : ¬ (F_g_run (F_r_putRestBack (rZ x w1 w2) w2).2 w2).2.1 70 5 = 0 := by rw [(F_g_run_fr _ w2).1 70 5 (by intro h9; simp at h9)]; exact p5
  have gle := kLe_g_run hw_w2 (by omega) p5
  have gl1 := gle.1
  have gl2 := gle.2
  have fPo : kPo (F_g_run (F_r_putRestBack (rZ x w1 w2) w2).2 w2).2 = kCw (F_g_run (F_r_putRestBack (rZ x w1 w2) w2).2 w2).2 := if_neg q5
  have fPs : kPs (F_g_run (F_r_putRestBack (rZ x w1 w2) w2).2 w2).2 = kSw (F_g_run (F_r_putRestBack (rZ x w1 w2) w2).2 w2).2 := if_neg q5
  have fM : kM (F_g_run (F_r_putRestBack (rZ x w1 w2) w2).2 w2).2 = 106 := if_neg q5
  have hPo := (kG_p kgp).1
  have hPs := (kG_p kgp).2
  have hFFg : 0 < (F_r_ro x w1 w2).2.1 70 4 → F_r_run x w1 w2 = (1, (F_g_run (F_r_putRestBack (rZ x w1 w2) w2).2 w2).2) := by
    intro c9
    unfold F_r_run
    rw [ro1, if_neg (by decide), if_pos c9]
    show F_r_go (rZ x w1 w2) w2 = _
    unfold F_r_go
    rw [pb.1, if_neg (by decide), g1r, if_neg (by decide)]
  have fle : 0 < (F_r_ro x w1 w2).2.1 70 4 → kPo (F_r_run x w1 w2).2 = kPo (F_g_run (F_r_putRestBack (rZ x w1 w2) w2).2 w2).2 ∧ kPs (F_r_run x w1 w2).2 = kPs (F_g_run (F_r_putRestBack (rZ x w1 w2) w2).2 w2).2 := fun c9 => by rw [hFFg c9]; exact ⟨rfl, rfl⟩
  have fin : 0 < (F_r_ro x w1 w2).2.1 70 4 → ∀ (wl : Nat) (ad : Nat → Nat), wl = kWl (rZ x w1 w2) → (∀ c, c < 87 → ad c = ao c) → ∀ (H : Heap) (locs : List Loc) (ls : Array Slot), va_P (dC, dI) vwCl (kWd cI cJ cZ cR wl ad 106 (rZ x w1 w2)) H → va_D A (kWd cI cJ cZ cR wl ad 106 (rZ x w1 w2)) → va_S A s.heap H locs → lv_has ls 4 [(0, .ref (ad (70))), (2, .ref (ad (w2)))] → W p l e (headSpec wsX6_run ({ frames := 4, cells := kPo x - kPo (F_r_run x w1 w2).2, slots := kPs x - kPs (F_r_run x w1 w2).2, locals := 109 })).room s m ([.ref (ao 70), .ref (ao w1), .ref (ao w2)] : List Value).toArray below meth c H locs (kPo x - kPo (rZ x w1 w2)) (kPs x - kPs (rZ x w1 w2)) (MQ below (va_Qi (fun (r : Int32) (u : KS × (Nat → Nat)) => r = iI (F_r_run x w1 w2).1 ∧ u.1 = (F_r_run x w1 w2).2 ∧ (∀ c, c < 87 → u.2 c = ao c)) (fun u t => kAt dC dI u.2 cI cJ cZ cR (kM u.1) (kWl u.1) (A) u.1 t) (A)) ([.ref (ao 70), .ref (ao w1), .ref (ao w2)] : List Value).toArray s (kPo x - kPo (F_r_run x w1 w2).2) (kPs x - kPs (F_r_run x w1 w2).2) A) (F0 m 98 ls []) := by
    intro c9 wl ad hkW had H locs ls hP hD hS hl
    have hM : 87 ≤ 106 := by decide
    have hG : 106 ≤ 106 := by decide
    have hFF := hFFg c9
    obtain ⟨fl1, fl2⟩ := fle c9
    refine lv_aload_n hx hb dX6_run_98 rfl (lv_at hl 0 rfl) ?_
    refine lv_aload_n hx hb dX6_run_99 rfl (lv_at hl 1 rfl) ?_
    have hFc : ∀ q, va_A (kWd cI cJ cZ cR wl ad 106 (rZ x w1 w2)) H.size q → A q := fun q hq => Or.elim hq (fun ⟨k, e, hk⟩ => hD.2 k (q, e) hk) (fun hk => hA q (Nat.le_trans hS.1 hk))
    refine va_calli (va_runV (b := ad (70)) (As := [.ref (ad (w2))]) (rest := []) ⟨hx, hb, hml, hown, hts⟩ (c_r_putRestBack l dC dI ad cI cJ cZ cR 106 wl H.size (rZ x w1 w2) (w2)  hM hw_w2 (by omega) wiZ) (cwV 1 hts gX6_run_X6_putRestBack rfl rfl rfl (by decide +kernel) ⟨Nat.le_of_ble_eq_true rfl, Nat.le_of_ble_eq_true rfl⟩) ⟨fun a U g mk q => by obtain ⟨q0, q1, qP, qK, qD, qN⟩ := q; exact ⟨q0, q1, qP, va_K.moved (u := U) (U := U.calling g mk a) (Vm.Alike.refl U.vm) qK, qD, kNw.same (u := U) (U := U.calling g mk a) rfl qN⟩, va_recv hK hP (ci := 6) (q0 := 70) rfl (kg70 (by omega)), fun U hU hW => ⟨rfl, by rw [hU], by rw [hU]; exact hP, va_K.moved hW.alike hK, hD.weaken (fun _ _ _ _ => trivial), kNw.warm hW hNw⟩⟩ rfl rfl hl.1 rfl (lv_room (Nat.le_of_ble_eq_true rfl)) dX6_run_100 ⟨(show _ ≤ kPo x - kPo (F_r_run x w1 w2).2 by omega), (show _ ≤ kPs x - kPs (F_r_run x w1 w2).2 by omega)⟩) hS (fun q _ h => hFc q h) hFc (fun r9 u9 t H1 locs ht hvm hw hB hz1 hk1 hS => ?_)
    obtain ⟨hP1, hK1, hD1⟩ := hB
    rw [ht] at hP1
    obtain ⟨hw1, hw2⟩ := hw
    rw [hw2] at hP1 hD1
    rw [hw1]
    have hD2 := hD1.weaken (B := A) (fun _ q _ h => hFc q.1 h)
    have hP := hP1
    have hD := hD2
    generalize H1 = H at hP hS ⊢
    refine wi_if_eq (tgt := 121) hx hb (by first | assumption | (unfold iR; omega) | exact kR01 (by assumption)) dX6_run_103 (by decide) (fun c_103 => ?_) (fun c_103 => ?_)
    · rw [pb.1] at c_103
      exact absurd c_103 (by decide)
    refine lv_aload_n hx hb dX6_run_106 rfl (lv_at hl 0 rfl) ?_
    refine va_get (D := (dC, dI)) (ci := 6) (v := (if (((F_r_putRestBack (rZ x w1 w2) (w2)).2).1 (70) 5) = 0 then Value.null else Value.ref (ad 87))) (C := RX6) (T := TX6) (N := 6) hx hb hts hinX6 hown hK hP (70) (kg70 (by omega)) rfl 5 (by decide) (hts (.fieldLink RX6 26 "LikeWords$Rewriter" "grower" "LLikeWords$Grower;") (by decide +kernel)) (fun _ h9 => h9) rfl dX6_run_107 ?_
    rw [if_neg p5]
    refine lv_aload_n hx hb dX6_run_110 rfl (lv_at hl 1 rfl) ?_
    have hFc : ∀ q, va_A (kWd cI cJ cZ cR wl ad 106 ((F_r_putRestBack (rZ x w1 w2) (w2)).2)) H.size q → A q := fun q hq => Or.elim hq (fun ⟨k, e, hk⟩ => hD.2 k (q, e) hk) (fun hk => hA q (Nat.le_trans hS.1 hk))
    have hwl9 : kWl ((F_r_putRestBack (rZ x w1 w2) (w2)).2) = wl := (kG_W kgp).trans hkW.symm
    refine va_calli (va_runV (b := ad 87) (As := [.ref (ad (w2))]) (rest := []) ⟨hx, hb, hml, hown, hts⟩ (c_g_run l dC dI ad cI cJ cZ cR wl H.size ((F_r_putRestBack (rZ x w1 w2) (w2)).2) w2 hw_w2 (by omega) hL2 x _ mx ge hwl9 pb.2 rz okS lS9) (cwV 1 hts gX6_run_X0_run rfl rfl rfl (by decide +kernel) ⟨Nat.le_of_ble_eq_true rfl, Nat.le_of_ble_eq_true rfl⟩) ⟨fun a U g mk q => by obtain ⟨q0, q1, qP, qK, qD, qN⟩ := q; exact ⟨q0, q1, qP, va_K.moved (u := U) (U := U.calling g mk a) (Vm.Alike.refl U.vm) qK, qD, kNw.same (u := U) (U := U.calling g mk a) rfl qN⟩, va_recv hK hP (ci := 0) (q0 := 87) rfl (kg87 (by decide)), fun U hU hW => ⟨rfl, by rw [hU], by rw [hU]; exact hP, va_K.moved hW.alike hK, hD.weaken (fun _ _ _ _ => trivial), kNw.warm hW hNw⟩⟩ rfl rfl hl.1 rfl (lv_room (Nat.le_of_ble_eq_true rfl)) dX6_run_111 ⟨(show _ ≤ kPo x - kPo (F_r_run x w1 w2).2 by omega), (show _ ≤ kPs x - kPs (F_r_run x w1 w2).2 by omega)⟩) hS (fun q _ h => hFc q h) hFc (fun r9 u9 t H1 locs ht hvm hw hB hz1 hk1 hS => ?_)
    obtain ⟨hP1, hK1, hD1⟩ := hB
    rw [ht] at hP1
    obtain ⟨z9, ad2⟩ := u9
    obtain ⟨hw1, hw2, hw3⟩ := hw
    have hw2 : z9 = (F_g_run (F_r_putRestBack (rZ x w1 w2) w2).2 w2).2 := hw2
    subst hw2
    have hw3 := fun c (hc : c < 87) => (show ad2 c = _ from hw3 c hc)
    rw [hw1, g1r]
    have hP : va_P (dC, dI) vwCl (kWd cI cJ cZ cR (kWl (F_g_run (F_r_putRestBack (rZ x w1 w2) w2).2 w2).2) ad2 106 (F_g_run (F_r_putRestBack (rZ x w1 w2) w2).2 w2).2) H1 := hP1
    have hD : va_D A (kWd cI cJ cZ cR (kWl (F_g_run (F_r_putRestBack (rZ x w1 w2) w2).2 w2).2) ad2 106 (F_g_run (F_r_putRestBack (rZ x w1 w2) w2).2 w2).2) := hD1.weaken (B := A) (fun _ q _ h => hFc q.1 h)
    generalize H1 = H at hP hS ⊢
    refine wi_if_eq (tgt := 121) hx hb ⟨by decide, by decide⟩ dX6_run_114 (by decide) (fun c_114 => ?_) (fun c_114 => ?_)
    · exact absurd c_114 (by decide)
    refine lv_iconst (v := iI (1 : Int)) hx hb dX6_run_117 (by decide) ?_
    refine lv_goto (tgt := 122) hx hb dX6_run_118 (by decide) ?_
    refine W.widen (k := kPo x - kPo (F_r_run x w1 w2).2) (n := kPs x - kPs (F_r_run x w1 w2).2) (by rw [hFF]; show _ ≤ kPo x - kPo (F_g_run (F_r_putRestBack (rZ x w1 w2) w2).2 w2).2; omega) (by rw [hFF]; show _ ≤ kPs x - kPs (F_g_run (F_r_putRestBack (rZ x w1 w2) w2).2 w2).2; omega) ?_
    exact W.zret (v := iI (1 : Int)) hx hb hr (kz _ (Or.inr rfl)) (fun t ht hW => ⟨⟨iI (1 : Int), ((F_g_run (F_r_putRestBack (rZ x w1 w2) w2).2 w2).2, ad2), rfl, ⟨by rw [hFF], by rw [hFF], fun c hc => (hw3 c hc).trans (had c hc)⟩, by rw [ht]; show va_P (dC, dI) vwCl (kWd cI cJ cZ cR (kWl (F_g_run (F_r_putRestBack (rZ x w1 w2) w2).2 w2).2) ad2 (kM (F_g_run (F_r_putRestBack (rZ x w1 w2) w2).2 w2).2) (F_g_run (F_r_putRestBack (rZ x w1 w2) w2).2 w2).2) H; rw [fM]; exact hP, va_K.moved hW.alike hK, by show va_D A (kWd cI cJ cZ cR (kWl (F_g_run (F_r_putRestBack (rZ x w1 w2) w2).2 w2).2) ad2 (kM (F_g_run (F_r_putRestBack (rZ x w1 w2) w2).2 w2).2) (F_g_run (F_r_putRestBack (rZ x w1 w2) w2).2 w2).2); rw [fM]; exact hD⟩, hS.F ht⟩) hS.2.2 dX6_run_122
  have mid : ∀ (ad : Nat → Nat), (∀ c, c < 87 → ad c = ao c) → ∀ (H : Heap) (locs : List Loc) (ls : Array Slot), va_P (dC, dI) vwCl (kWd cI cJ cZ cR wl ad M (F_r_run_s w1 70 (kS x 70 4 0) (min (x.1 w1 1) 60 - 1))) H → va_D A (kWd cI cJ cZ cR wl ad M (F_r_run_s w1 70 (kS x 70 4 0) (min (x.1 w1 1) 60 - 1))) → va_S A s.heap H locs → lv_has ls 4 [(0, .ref (ad (70))), (1, .ref (ad (w1))), (2, .ref (ad (w2)))] → W p l e (headSpec wsX6_run ({ frames := 4, cells := kPo x - kPo (F_r_run x w1 w2).2, slots := kPs x - kPs (F_r_run x w1 w2).2, locals := 109 })).room s m ([.ref (ao 70), .ref (ao w1), .ref (ao w2)] : List Value).toArray below meth c H locs 0 0 (MQ below (va_Qi (fun (r : Int32) (u : KS × (Nat → Nat)) => r = iI (F_r_run x w1 w2).1 ∧ u.1 = (F_r_run x w1 w2).2 ∧ (∀ c, c < 87 → u.2 c = ao c)) (fun u t => kAt dC dI u.2 cI cJ cZ cR (kM u.1) (kWl u.1) (A) u.1 t) (A)) ([.ref (ao 70), .ref (ao w1), .ref (ao w2)] : List Value).toArray s (kPo x - kPo (F_r_run x w1 w2).2) (kPs x - kPs (F_r_run x w1 w2).2) A) (F0 m 49 ls []) := by
    intro ad had H locs ls hP hD hS hl
    have m1 := mcX_sM sm1 mx
    refine lv_aload_n hx hb dX6_run_49 rfl (lv_at hl 2 rfl) ?_
    have hFc : ∀ q, va_A (kWd cI cJ cZ cR wl ad M (F_r_run_s w1 70 (kS x 70 4 0) (min (x.1 w1 1) 60 - 1))) H.size q → A q := fun q hq => Or.elim hq (fun ⟨k, e, hk⟩ => hD.2 k (q, e) hk) (fun hk => hA q (Nat.le_trans hS.1 hk))
    refine va_callv (va_runV (b := ad (w2)) (As := []) (rest := []) ⟨hx, hb, hml, hown, hts⟩ (c_w_wipe l dC dI ad cI cJ cZ cR M wl H.size (F_r_run_s w1 70 (kS x 70 4 0) (min (x.1 w1 1) 60 - 1)) (w2)  hM hw_w2 (by omega) ) (cwV 0 hts gX6_run_X10_wipe rfl rfl rfl (by decide +kernel) ⟨Nat.le_of_ble_eq_true rfl, Nat.le_of_ble_eq_true rfl⟩) ⟨fun a U g mk q => by obtain ⟨q0, q1, qP, qK, qD, qN⟩ := q; exact ⟨q0, q1, qP, va_K.moved (u := U) (U := U.calling g mk a) (Vm.Alike.refl U.vm) qK, qD, kNw.same (u := U) (U := U.calling g mk a) rfl qN⟩, va_recv hK hP (ci := 10) (q0 := w2) rfl (kgw hw_w2 (by omega)), fun U hU hW => ⟨rfl, by rw [hU], by rw [hU]; exact hP, va_K.moved hW.alike hK, hD.weaken (fun _ _ _ _ => trivial), kNw.warm hW hNw⟩⟩ rfl rfl hl.1 rfl (lv_room (Nat.le_of_ble_eq_true rfl)) dX6_run_50 ⟨(show _ ≤ kPo x - kPo (F_r_run x w1 w2).2 by omega), (show _ ≤ kPs x - kPs (F_r_run x w1 w2).2 by omega)⟩) hS (fun q _ h => hFc q h) hFc (fun u9 t H1 locs ht hvm hw hB hz1 hk1 hS => ?_)
    obtain ⟨hP1, hK1, hD1⟩ := hB
    rw [ht] at hP1
    rw [hw] at hP1 hD1
    have hD2 := hD1.weaken (B := A) (fun _ q _ h => hFc q.1 h)
    have hP := hP1
    have hD := hD2
    generalize H1 = H at hP hS ⊢
    refine lv_aload_n hx hb dX6_run_53 rfl (lv_at hl 0 rfl) ?_
    refine lv_aload_n hx hb dX6_run_54 rfl (lv_at hl 2 rfl) ?_
    have hFc : ∀ q, va_A (kWd cI cJ cZ cR wl ad M ((F_w_wipe (F_r_run_s w1 70 (kS x 70 4 0) (min (x.1 w1 1) 60 - 1)) (w2)).2)) H.size q → A q := fun q hq => Or.elim hq (fun ⟨k, e, hk⟩ => hD.2 k (q, e) hk) (fun hk => hA q (Nat.le_trans hS.1 hk))
    refine va_calli (va_runV (b := ad (70)) (As := [.ref (ad (w2))]) (rest := []) ⟨hx, hb, hml, hown, hts⟩ (c_r_readOn l dC dI ad cI cJ cZ cR M wl H.size ((F_w_wipe (F_r_run_s w1 70 (kS x 70 4 0) (min (x.1 w1 1) 60 - 1)) (w2)).2) (w2)  hM hw_w2 (by omega) m1.2.1 m1.2.2.2.2.1 m1.1.1.1 (stV_M sm1 ok.2.1) wi) (cwV 1 hts gX6_run_X6_readOn rfl rfl rfl (by decide +kernel) ⟨Nat.le_of_ble_eq_true rfl, Nat.le_of_ble_eq_true rfl⟩) ⟨fun a U g mk q => by obtain ⟨q0, q1, qP, qK, qD, qN⟩ := q; exact ⟨q0, q1, qP, va_K.moved (u := U) (U := U.calling g mk a) (Vm.Alike.refl U.vm) qK, qD, kNw.same (u := U) (U := U.calling g mk a) rfl qN⟩, va_recv hK hP (ci := 6) (q0 := 70) rfl (kg70 (by omega)), fun U hU hW => ⟨rfl, by rw [hU], by rw [hU]; exact hP, va_K.moved hW.alike hK, hD.weaken (fun _ _ _ _ => trivial), kNw.warm hW hNw⟩⟩ rfl rfl hl.1 rfl (lv_room (Nat.le_of_ble_eq_true rfl)) dX6_run_55 ⟨(show _ ≤ kPo x - kPo (F_r_run x w1 w2).2 by omega), (show _ ≤ kPs x - kPs (F_r_run x w1 w2).2 by omega)⟩) hS (fun q _ h => hFc q h) hFc (fun r9 u9 t H1 locs ht hvm hw hB hz1 hk1 hS => ?_)
    obtain ⟨hP1, hK1, hD1⟩ := hB
    rw [ht] at hP1
    obtain ⟨hw1, hw2⟩ := hw
    rw [hw2] at hP1 hD1
    rw [hw1]
    have hD2 := hD1.weaken (B := A) (fun _ q _ h => hFc q.1 h)
    have hP := hP1
    have hD := hD2
    generalize H1 = H at hP hS ⊢
    have hP : va_P (dC, dI) vwCl (kWd cI cJ cZ cR wl ad M ((F_r_ro x w1 w2).2)) H := hP
    have hD : va_D A (kWd cI cJ cZ cR wl ad M ((F_r_ro x w1 w2).2)) := hD
    have e1 : ((F_r_readOn ((F_w_wipe (F_r_run_s w1 70 (kS x 70 4 0) (min (x.1 w1 1) 60 - 1)) (w2)).2) (w2)).1) = (1 : Int) := ro1
    rw [e1]
    refine wi_if_ne (tgt := 63) hx hb ⟨by decide, by decide⟩ dX6_run_58 (by decide) (fun c_58 => ?_) (fun c_58 => absurd c_58 (by decide))
    refine lv_aload_n hx hb dX6_run_63 rfl (lv_at hl 0 rfl) ?_
    refine va_get (D := (dC, dI)) (ci := 6) (v := .int (iI (((F_r_ro x w1 w2).2).1 (70) 4))) (C := RX6) (T := TX6) (N := 6) hx hb hts hinX6 hown hK hP (70) (kg70 (by omega)) rfl 4 (by decide) (hts (.fieldLink RX6 41 "LikeWords$Rewriter" "restUsed" "I") (by decide +kernel)) (fun _ h9 => h9) rfl dX6_run_64 ?_
    have hM7 := kG_M kgr
    have hW7 := kG_W kgr
    have hp7 := kG_p kgr
    have hp71 := hp7.1
    have hp72 := hp7.2
    refine wi_if_gt (tgt := 72) hx hb (by first | assumption | (unfold iR; omega) | exact kR01 (by assumption)) dX6_run_67 (by decide) (fun c_67 => ?_) (fun c_67 => ?_)
    · skip
      refine lv_aload_n hx hb dX6_run_72 rfl (lv_at hl 0 rfl) ?_
      refine va_get (D := (dC, dI)) (ci := 6) (v := (if (((F_r_ro x w1 w2).2).1 (70) 5) = 0 then Value.null else Value.ref (ad 87))) (C := RX6) (T := TX6) (N := 6) hx hb hts hinX6 hown hK hP (70) (kg70 (by omega)) rfl 5 (by decide) (hts (.fieldLink RX6 26 "LikeWords$Rewriter" "grower" "LLikeWords$Grower;") (by decide +kernel)) (fun _ h9 => h9) rfl dX6_run_73 ?_
      refine wk_ifnonnull (tgt := 98) hx hb dX6_run_76 (by decide) (fun c_76 => ?_) (fun c_76 => ?_)
      · have eZ : rZ x w1 w2 = (F_r_ro x w1 w2).2 := if_neg c_76
        have e106 : M = 106 := by rw [hkM, ← hM7]; exact if_neg c_76
        subst e106
        refine W.widen (k := kPo x - kPo (rZ x w1 w2)) (n := kPs x - kPs (rZ x w1 w2)) (Nat.zero_le _) (Nat.zero_le _) ?_
        refine fin c_67 wl ad (by rw [eZ, hW7]; exact hkW) had _ _ ls ?_ ?_ hS (lv_sub hl [0, 2] rfl)
        · rw [eZ]; exact hP
        · rw [eZ]; exact hD
      · have eZ : rZ x w1 w2 = kNg (F_r_ro x w1 w2).2 := if_pos c_76
        have e87 : M = 87 := by rw [hkM, ← hM7]; exact if_pos c_76
        subst e87
        have e5 : x.1 70 5 = 0 := by rw [← kgr.1]; exact c_76
        have eR1 : kPo x = 23 := if_pos e5
        have eR2 : kPs x = 1180289 := if_pos e5
        have n5 : ¬ (kNg (F_r_ro x w1 w2).2).1 70 5 = 0 := by show ¬ (1 : Int) = 0; decide
        have n9 : ¬ 262144 ≤ (kNg (F_r_ro x w1 w2).2).1 101 9 := by show ¬ 262144 ≤ (32768 : Int); decide
        have eN1 : kPo (rZ x w1 w2) = 4 := by rw [eZ]; unfold kPo kCw; rw [if_neg n5, if_neg n9]
        have eN2 : kPs (rZ x w1 w2) = 1048576 := by rw [eZ]; unfold kPs kSw; rw [if_neg n5, if_neg n9]
        obtain ⟨fl1, fl2⟩ := fle c_67
        refine lv_aload_n hx hb dX6_run_79 rfl (lv_at hl 0 rfl) ?_
        refine va_new (ci := 0) (fs := [.null, .null, .null, .null, .null, .null, .null, .null, .null, .null, .null, .null, .int (iI 0), .int (iI 0), .null]) (C := RX0) (T := TX0) (N := 15) hx hb hts (by decide +kernel) tyX0 tyX0_ok hown (hts (.classLink RX6 31 RX0) (by decide +kernel)) (hts (.instantiable RX0 15) (by decide +kernel)) (hts (.initialized RX0) (by decide +kernel)) hK hP hD hS hA rfl (fun j hj => by (rcases (show j = 0 ∨ j = 1 ∨ j = 2 ∨ j = 3 ∨ j = 4 ∨ j = 5 ∨ j = 6 ∨ j = 7 ∨ j = 8 ∨ j = 9 ∨ j = 10 ∨ j = 11 ∨ j = 12 ∨ j = 13 ∨ j = 14 by omega) with rfl | rfl | rfl | rfl | rfl | rfl | rfl | rfl | rfl | rfl | rfl | rfl | rfl | rfl | rfl) <;> rfl) (show _ ≤ kPo x - kPo (F_r_run x w1 w2).2 by omega) (show _ ≤ kPs x - kPs (F_r_run x w1 w2).2 by omega) dX6_run_80 (fun q80 H hP hD hS => ?_)
        have hP : va_P (dC, dI) vwCl (kWd cI cJ cZ cR wl ad 87 (F_r_ro x w1 w2).2 ++ [(q80, .inr (0, [.null, .null, .null, .null, .null, .null, .null, .null, .null, .null, .null, .null, .int (iI 0), .int (iI 0), .null]))]) H := hP
        have hD : va_D A (kWd cI cJ cZ cR wl ad 87 (F_r_ro x w1 w2).2 ++ [(q80, .inr (0, [.null, .null, .null, .null, .null, .null, .null, .null, .null, .null, .null, .null, .int (iI 0), .int (iI 0), .null]))]) := hD
        have hlen : (kWd cI cJ cZ cR wl ad 87 (F_r_ro x w1 w2).2).length = 87 := kWd_len
        have gl9 : ∀ c9 : Nat, c9 < 87 → (kWd cI cJ cZ cR wl ad 87 (F_r_ro x w1 w2).2 ++ [(q80, .inr (0, [.null, .null, .null, .null, .null, .null, .null, .null, .null, .null, .null, .null, .int (iI 0), .int (iI 0), .null]))])[c9]? = (kWd cI cJ cZ cR wl ad 87 (F_r_ro x w1 w2).2)[c9]? := fun c9 h9 => List.getElem?_append_left (by rw [hlen]; exact h9)
        have gr9 : (kWd cI cJ cZ cR wl ad 87 (F_r_ro x w1 w2).2 ++ [(q80, .inr (0, [.null, .null, .null, .null, .null, .null, .null, .null, .null, .null, .null, .null, .int (iI 0), .int (iI 0), .null]))])[87]? = some (q80, .inr (0, [.null, .null, .null, .null, .null, .null, .null, .null, .null, .null, .null, .null, .int (iI 0), .int (iI 0), .null])) := by rw [List.getElem?_append_right (by rw [hlen]; exact Nat.le_refl _), hlen]; rfl
        refine lv_dup hx hb dX6_run_83 rfl ?_
        refine lv_aload_n hx hb dX6_run_84 rfl (lv_at hl 0 rfl) ?_
        refine va_get (D := (dC, dI)) (ci := 6) (v := .ref (ad (58))) (C := RX6) (T := TX6) (N := 6) hx hb hts hinX6 hown hK hP (70) ((gl9 70 (by decide)).trans (kg70 (by decide))) rfl 0 (by decide) (hts (.fieldLink RX6 9 "LikeWords$Rewriter" "rules" "LLikeWords$Rules;") (by decide +kernel)) (fun _ h9 => h9) rfl dX6_run_85 ?_
        refine lv_aload_n hx hb dX6_run_88 rfl (lv_at hl 0 rfl) ?_
        refine va_get (D := (dC, dI)) (ci := 6) (v := .ref (ad (64))) (C := RX6) (T := TX6) (N := 6) hx hb hts hinX6 hown hK hP (70) ((gl9 70 (by decide)).trans (kg70 (by decide))) rfl 1 (by decide) (hts (.fieldLink RX6 15 "LikeWords$Rewriter" "machine" "LLikeWords$Machine;") (by decide +kernel)) (fun _ h9 => h9) rfl dX6_run_89 ?_
        have hCe : [87].map (fun i => (kWd cI cJ cZ cR wl ad 87 (F_r_ro x w1 w2).2 ++ [(q80, .inr (0, [.null, .null, .null, .null, .null, .null, .null, .null, .null, .null, .null, .null, .int (iI 0), .int (iI 0), .null]))])[i]?) = ([(q80, .inr (0, [.null, .null, .null, .null, .null, .null, .null, .null, .null, .null, .null, .null, .int (iI 0), .int (iI 0), .null]))] : va_W).map some := by show [(kWd cI cJ cZ cR wl ad 87 (F_r_ro x w1 w2).2 ++ [(q80, .inr (0, [.null, .null, .null, .null, .null, .null, .null, .null, .null, .null, .null, .null, .int (iI 0), .int (iI 0), .null]))])[87]?] = _; rw [gr9]; rfl
        have hPc : va_P (dC, dI) vwCl [(q80, .inr (0, [.null, .null, .null, .null, .null, .null, .null, .null, .null, .null, .null, .null, .int (iI 0), .int (iI 0), .null]))] H := hP.sub [87] (by show List.filterMap id [(kWd cI cJ cZ cR wl ad 87 (F_r_ro x w1 w2).2 ++ [(q80, .inr (0, [.null, .null, .null, .null, .null, .null, .null, .null, .null, .null, .null, .null, .int (iI 0), .int (iI 0), .null]))])[87]?] = _; rw [gr9]; rfl)
        have hDc := hD.sub (ws' := [(q80, .inr (0, [.null, .null, .null, .null, .null, .null, .null, .null, .null, .null, .null, .null, .int (iI 0), .int (iI 0), .null]))]) [87] (by decide) hCe
        have hFc := va_free (wc := [(q80, .inr (0, [.null, .null, .null, .null, .null, .null, .null, .null, .null, .null, .null, .null, .int (iI 0), .int (iI 0), .null]))]) hD hS hA [87] hCe
        have hKc := hK.sub (tys' := [(cI, .int), (cJ, .long), (cZ, .boolean)]) [0, 1, 2] rfl
        refine va_callv (va_runI (As := [.ref (ad (58)), .ref (ad (64))]) (rest := [.ref q80, .ref (ad (70))]) ⟨hx, hb, hml, hown, hts⟩ (n_g_init l dC dI q80 cI cJ cZ H.size (ad 58) (ad 64)) (cwI 2 hts gX6_run_X0_init rfl rfl rfl (hts (.initialized RX0) (by decide +kernel)) (hts (.methodLink RX6 64 yX0_init) (by decide +kernel)) (hts (.instanceMethod yX0_init) (by decide +kernel)) rfl (by decide +kernel) ⟨Nat.le_of_ble_eq_true rfl, Nat.le_of_ble_eq_true rfl⟩) ⟨fun a U g mk q => by obtain ⟨q0, q1, qP, qK, qD⟩ := q; exact ⟨q0, q1, qP, va_K.moved (u := U) (U := U.calling g mk a) (Vm.Alike.refl U.vm) qK, qD⟩, fun U hU hW => ⟨rfl, by rw [hU], by rw [hU]; exact hPc, va_K.moved hW.alike hKc, hDc.weaken (fun _ _ _ _ => trivial)⟩⟩ rfl rfl hl.1 rfl (lv_room (Nat.le_of_ble_eq_true rfl)) dX6_run_92 ⟨(show _ ≤ kPo x - kPo (F_r_run x w1 w2).2 by omega), (show _ ≤ kPs x - kPs (F_r_run x w1 w2).2 by omega)⟩) hS (fun q _ h => hFc q h) hFc (fun u9 t H1 locs ht hvm hw hB hz1 hk1 hS => ?_)
        obtain ⟨hP1, hK1, hD1⟩ := hB
        rw [ht] at hP1
        obtain ⟨hP, hD⟩ := va_join (wr := kWd cI cJ cZ cR wl ad 87 (F_r_ro x w1 w2).2) (w1 := gW1 cI cJ cZ ad q80 u9) hP hD [87] (List.range 87) hCe (by
          have e9 : (kWd cI cJ cZ cR wl ad 87 (F_r_ro x w1 w2).2).map some = (List.range 87).map (fun i => (kWd cI cJ cZ cR wl ad 87 (F_r_ro x w1 w2).2 ++ [(q80, .inr (0, [.null, .null, .null, .null, .null, .null, .null, .null, .null, .null, .null, .null, .int (iI 0), .int (iI 0), .null]))])[i]?) := by
            unfold kWd
            rw [List.map_map]
            refine List.map_congr_left fun i hi => ?_
            have hi := List.mem_range.mp hi
            have := (gl9 i hi).trans (kget (M := 87) hi)
            unfold kWd at this
            exact this.symm
          exact e9.symm) (by decide) (fun i hi h9 => by have := List.mem_range.mp hi; rw [List.mem_singleton] at h9; omega) hk1 hFc hP1 hD1
        generalize H1 = H at hP hS ⊢
        have gl8 : ∀ c9 : Nat, c9 < 87 → (kWd cI cJ cZ cR wl ad 87 (F_r_ro x w1 w2).2 ++ gW1 cI cJ cZ ad q80 u9)[c9]? = (kWd cI cJ cZ cR wl ad 87 (F_r_ro x w1 w2).2)[c9]? := fun c9 h9 => List.getElem?_append_left (by rw [hlen]; exact h9)
        refine va_put (D := (dC, dI)) (ci := 6) (v := .ref q80) (ty := (.object "LikeWords$Grower")) (C := RX6) (T := TX6) (N := 6) hx hb hts hinX6 tyX6 tyX6_ok nmX6 hown hK hP hD hS (70) ((gl8 70 (by decide)).trans (kg70 (by decide))) rfl 5 (by decide) (hts (.fieldLink RX6 26 "LikeWords$Rewriter" "grower" "LLikeWords$Grower;") (by decide +kernel)) (fun _ h9 => h9) rfl (by decide +kernel) rfl rfl (Nat.le_of_ble_eq_true rfl) dX6_run_95 (fun H locs hP hD hS => ?_)
        obtain ⟨hP, hD⟩ := kW_grow hP hD
        have ha9 : ∀ c, c < 87 → adG ad q80 u9 c = ad c := adG_lt
        refine W.widen (k := kPo x - kPo (rZ x w1 w2)) (n := kPs x - kPs (rZ x w1 w2)) (by omega) (by omega) ?_
        refine fin c_67 32768 (adG ad q80 u9) (by rw [eZ]; rfl) (fun c hc => (ha9 c hc).trans (had c hc)) _ _ ls ?_ ?_ hS ?_
        · rw [eZ]; exact hP
        · rw [eZ]; exact hD
        · rw [ha9 70 (by decide), ha9 w2 (by omega)]
          exact lv_sub hl [0, 2] rfl
    · skip
      have hFF : F_r_run x w1 w2 = (1, (F_r_ro x w1 w2).2) := by
        unfold F_r_run
        rw [ro1, if_neg (by decide), if_neg c_67]
      refine lv_iconst (v := iI (1 : Int)) hx hb dX6_run_70 (by decide) ?_
      refine W.widen (k := kPo x - kPo (F_r_run x w1 w2).2) (n := kPs x - kPs (F_r_run x w1 w2).2) (by omega) (by omega) ?_
      exact W.zret (v := iI (1 : Int)) hx hb hr (kz _ (Or.inr rfl)) (fun t ht hW => ⟨⟨iI (1 : Int), ((F_r_ro x w1 w2).2, ad), rfl, ⟨by rw [hFF], by rw [hFF], had⟩, by rw [ht]; show va_P (dC, dI) vwCl (kWd cI cJ cZ cR (kWl (F_r_ro x w1 w2).2) ad (kM (F_r_ro x w1 w2).2) (F_r_ro x w1 w2).2) H; rw [hM7, hW7, ← hkM, ← hkW]; exact hP, va_K.moved hW.alike hK, by show va_D A (kWd cI cJ cZ cR (kWl (F_r_ro x w1 w2).2) ad (kM (F_r_ro x w1 w2).2) (F_r_ro x w1 w2).2); rw [hM7, hW7, ← hkM, ← hkW]; exact hD⟩, hS.F ht⟩) hS.2.2 dX6_run_71
  have L : ∀ (n : Nat) (y : KS) (i : Int) (ad : Nat → Nat), (∀ c, c < 87 → ad c = ao c) → F_r_run_s w1 n y i = F_r_run_s w1 70 (kS x 70 4 0) (min (x.1 w1 1) 60 - 1) → ksame [(70, 4)] [71] x y → 0 ≤ y.1 70 4 → -1 ≤ i → i < x.1 w1 1 → y.1 70 4 + i + 1 ≤ 60 → i + 1 < n → ∀ (H : Heap) (locs : List Loc) (ls : Array Slot), va_P (dC, dI) vwCl (kWd cI cJ cZ cR wl ad M (y)) H → va_D A (kWd cI cJ cZ cR wl ad M (y)) → va_S A s.heap H locs → lv_has ls 4 [(0, .ref (ad (70))), (1, .ref (ad (w1))), (2, .ref (ad (w2))), (3, .int (iI (i)))] → W p l e (headSpec wsX6_run ({ frames := 4, cells := kPo x - kPo (F_r_run x w1 w2).2, slots := kPs x - kPs (F_r_run x w1 w2).2, locals := 109 })).room s m ([.ref (ao 70), .ref (ao w1), .ref (ao w2)] : List Value).toArray below meth c H locs 0 0 (MQ below (va_Qi (fun (r : Int32) (u : KS × (Nat → Nat)) => r = iI (F_r_run x w1 w2).1 ∧ u.1 = (F_r_run x w1 w2).2 ∧ (∀ c, c < 87 → u.2 c = ao c)) (fun u t => kAt dC dI u.2 cI cJ cZ cR (kM u.1) (kWl u.1) (A) u.1 t) (A)) ([.ref (ao 70), .ref (ao w1), .ref (ao w2)] : List Value).toArray s (kPo x - kPo (F_r_run x w1 w2).2) (kPs x - kPs (F_r_run x w1 w2).2) A) (F0 m 17 ls []) := by
    intro n
    induction n with
    | zero => intro y i ad had hz f h0 h1 h2 h3 h4; exfalso; omega
    | succ n ih =>
      intro y i ad had hz f h0 h1 h2 h3 h4 H locs ls hP hD hS hl
      have hx1 : x.1 w1 1 ≤ 60 := g1.1.2
      have hkl : x.1 w1 1 ≤ ((kL w1 : Nat) : Int) := by rw [hL1]; exact hx1
      refine lv_iload_n hx hb dX6_run_17 rfl (lv_at hl 3 rfl) ?_
      refine wi_if_lt (tgt := 49) hx hb (by first | assumption | (unfold iR; omega) | exact kR01 (by assumption)) dX6_run_18 (by decide) (fun c_18 => ?_) (fun c_18 => ?_)
      · have e9 : y = F_r_run_s w1 70 (kS x 70 4 0) (min (x.1 w1 1) 60 - 1) := by rw [← hz]; unfold F_r_run_s; rw [if_pos c_18]
        subst e9
        exact mid ad had _ _ ls hP hD hS (lv_sub hl [0, 1, 2] rfl)
      · skip
        refine lv_aload_n hx hb dX6_run_21 rfl (lv_at hl 0 rfl) ?_
        refine va_get (D := (dC, dI)) (ci := 6) (v := .ref (ad (71))) (C := RX6) (T := TX6) (N := 6) hx hb hts hinX6 hown hK hP (70) (kg70 (by omega)) rfl 2 (by decide) (hts (.fieldLink RX6 19 "LikeWords$Rewriter" "rest" "[I") (by decide +kernel)) (fun _ h9 => h9) rfl dX6_run_22 ?_
        refine lv_aload_n hx hb dX6_run_25 rfl (lv_at hl 0 rfl) ?_
        refine lv_dup hx hb dX6_run_26 rfl ?_
        refine va_get (D := (dC, dI)) (ci := 6) (v := .int (iI ((y).1 (70) 4))) (C := RX6) (T := TX6) (N := 6) hx hb hts hinX6 hown hK hP (70) (kg70 (by omega)) rfl 4 (by decide) (hts (.fieldLink RX6 41 "LikeWords$Rewriter" "restUsed" "I") (by decide +kernel)) (fun _ h9 => h9) rfl dX6_run_27 ?_
        refine lv_dup_x1 hx hb dX6_run_30 rfl rfl ?_
        refine lv_iconst (v := iI (1 : Int)) hx hb dX6_run_31 (by decide) ?_
        refine wi_iadd hx hb dX6_run_32 ?_
        refine va_put (D := (dC, dI)) (ci := 6) (v := .int (iI (((y).1 (70) 4) + ((1 : Int))))) (ty := .int) (C := RX6) (T := TX6) (N := 6) hx hb hts hinX6 tyX6 tyX6_ok nmX6 hown hK hP hD hS (70) (kg70 (by omega)) rfl 4 (by decide) (hts (.fieldLink RX6 41 "LikeWords$Rewriter" "restUsed" "I") (by decide +kernel)) (fun _ h9 => h9) rfl (by decide +kernel) rfl rfl (Nat.le_of_ble_eq_true rfl) dX6_run_33 (fun H locs hP hD hS => ?_)
        rw [ks70_4] at hP hD
        refine lv_aload_n hx hb dX6_run_36 rfl (lv_at hl 1 rfl) ?_
        refine va_get (D := (dC, dI)) (ci := 10) (v := .ref (ad ((w1) + 1))) (C := RX10) (T := TX10) (N := 2) hx hb hts hinX10 hown hK hP (w1) (kgw hw_w1 (by omega)) rfl 0 (by decide) (hts (.fieldLink RX6 56 "LikeWords$Word" "signs" "[I") (by decide +kernel)) (fun _ h9 => h9) rfl dX6_run_37 ?_
        refine lv_iload_n hx hb dX6_run_40 rfl (lv_at hl 3 rfl) ?_
        refine wi_iald (f := (y).2 ((w1) + 1)) (n := kLen ((w1) + 1)) hx hb hK hP ((w1) + 1) 0 (kgi (kI_row hw_w1) (by omega) rfl) rfl (i := i) (by omega) (by rw [kLen_row hw_w1]; exact (by omega)) (kLen_lt _) dX6_run_41 ?_
        refine wi_iast (f := (kS (y) (70) 4 (((y).1 (70) 4) + ((1 : Int)))).2 (71)) (n := kLen (71)) hx hb hK hP hD hS (71) 0 (kgi kC71 (by omega) rfl) rfl (i := (y).1 (70) 4) (x := ((y).2 ((w1) + 1)) (i).toNat) (by omega) (by show _ < ((60 : Nat) : Int); exact (by omega)) (kLen_lt _) dX6_run_42 (fun H locs hP hD hS => ?_)
        rw [ksi kC71] at hP hD
        refine lv_iinc (v := iI ((i) + (-1 : Int))) (lv' := [(3, .int (iI ((i) + (-1 : Int)))), (0, .ref (ad (70))), (1, .ref (ad (w1))), (2, .ref (ad (w2)))]) hx hb dX6_run_43 hl (k := 3) rfl (iI_add _ _) (by decide) rfl (fun ls hl => ?_)
        refine lv_goto (tgt := 17) hx hb dX6_run_46 (by decide) ?_
        have hz2 : F_r_run_s w1 n (kA (kS (y) (70) 4 (((y).1 (70) 4) + ((1 : Int)))) (71) ((y).1 (70) 4).toNat (((y).2 ((w1) + 1)) (i).toNat)) ((i) + (-1 : Int)) = F_r_run_s w1 70 (kS x 70 4 0) (min (x.1 w1 1) 60 - 1) := by rw [← hz, show F_r_run_s w1 (n + 1) y i = (if i < 0 then y else F_r_run_s w1 n (kA (kS (y) (70) 4 (((y).1 (70) 4) + ((1 : Int)))) (71) ((y).1 (70) 4).toNat (((y).2 ((w1) + 1)) (i).toNat)) ((i) + (-1 : Int))) from rfl, if_neg c_18]
        have f2 : ksame [(70, 4)] [71] x (kA (kS (y) (70) 4 (((y).1 (70) 4) + ((1 : Int)))) (71) ((y).1 (70) 4).toNat (((y).2 ((w1) + 1)) (i).toNat)) := km_tr f (km_a (by decide) (km_s (by decide) (km_rf _ _ _)))
        have u4 : (kA (kS (y) (70) 4 (((y).1 (70) 4) + ((1 : Int)))) (71) ((y).1 (70) 4).toNat (((y).2 ((w1) + 1)) (i).toNat)).1 70 4 = y.1 70 4 + 1 := by rw [kA_1, kS_s]
        exact ih (kA (kS (y) (70) 4 (((y).1 (70) 4) + ((1 : Int)))) (71) ((y).1 (70) 4).toNat (((y).2 ((w1) + 1)) (i).toNat)) ((i) + (-1 : Int)) ad had hz2 f2 (by rw [u4]; omega) (by omega) (by omega) (by rw [u4]; omega) (by omega) _ _ ls hP hD hS (lv_sub hl [1, 2, 3, 0] rfl)
  have key : ∀ (ad : Nat → Nat), (∀ c, c < 87 → ad c = ao c) → ∀ (H : Heap) (locs : List Loc) (ls : Array Slot), va_P (dC, dI) vwCl (kWd cI cJ cZ cR wl ad M (x)) H → va_D A (kWd cI cJ cZ cR wl ad M (x)) → va_S A s.heap H locs → lv_has ls 4 [(0, .ref (ad (70))), (1, .ref (ad (w1))), (2, .ref (ad (w2)))] → W p l e (headSpec wsX6_run ({ frames := 4, cells := kPo x - kPo (F_r_run x w1 w2).2, slots := kPs x - kPs (F_r_run x w1 w2).2, locals := 109 })).room s m ([.ref (ao 70), .ref (ao w1), .ref (ao w2)] : List Value).toArray below meth c H locs 0 0 (MQ below (va_Qi (fun (r : Int32) (u : KS × (Nat → Nat)) => r = iI (F_r_run x w1 w2).1 ∧ u.1 = (F_r_run x w1 w2).2 ∧ (∀ c, c < 87 → u.2 c = ao c)) (fun u t => kAt dC dI u.2 cI cJ cZ cR (kM u.1) (kWl u.1) (A) u.1 t) (A)) ([.ref (ao 70), .ref (ao w1), .ref (ao w2)] : List Value).toArray s (kPo x - kPo (F_r_run x w1 w2).2) (kPs x - kPs (F_r_run x w1 w2).2) A) (F0 m 0 ls []) := by
    intro ad had H locs ls hP hD hS hl
    have hx0 := g1.1.1
    have hx1 := g1.1.2
    refine lv_aload_n hx hb dX6_run_0 rfl (lv_at hl 0 rfl) ?_
    refine lv_iconst (v := iI (0 : Int)) hx hb dX6_run_1 (by decide) ?_
    refine va_put (D := (dC, dI)) (ci := 6) (v := .int (iI ((0 : Int)))) (ty := .int) (C := RX6) (T := TX6) (N := 6) hx hb hts hinX6 tyX6 tyX6_ok nmX6 hown hK hP hD hS (70) (kg70 (by omega)) rfl 4 (by decide) (hts (.fieldLink RX6 41 "LikeWords$Rewriter" "restUsed" "I") (by decide +kernel)) (fun _ h9 => h9) rfl (by decide +kernel) rfl rfl (Nat.le_of_ble_eq_true rfl) dX6_run_2 (fun H locs hP hD hS => ?_)
    rw [ks70_4] at hP hD
    refine lv_aload_n hx hb dX6_run_5 rfl (lv_at hl 1 rfl) ?_
    refine va_get (D := (dC, dI)) (ci := 10) (v := .int (iI ((x).1 (w1) 1))) (C := RX10) (T := TX10) (N := 2) hx hb hts hinX10 hown hK hP (w1) (kgw hw_w1 (by omega)) rfl 1 (by decide) (hts (.fieldLink RX6 45 "LikeWords$Word" "used" "I") (by decide +kernel)) (fun _ h9 => h9) (congrArg (fun z9 => some (Value.int (iI z9))) (congrFun (kS_c (kW_ne hw_w1 rfl)) 1)) dX6_run_6 ?_
    refine lv_bipush (v := iI (60 : Int)) hx hb dX6_run_9 (by decide) ?_
    refine va_mmin hx hb (by rw [hml]; exact hl.1.symm) hown (hts (.methodLink RX6 50 Lib.Math.min.name) (by decide +kernel)) (hts (.static Lib.Math.min.name) (by decide +kernel)) (hts (.initialized "java/lang/Math") (by decide +kernel)) (hts (.code Lib.Math.min.name Lib.Math.min.code 2 (some .int)) (by decide +kernel)) (Nat.le_of_ble_eq_true rfl) (Nat.le_of_ble_eq_true rfl) (Nat.le_of_ble_eq_true rfl) (Nat.le_of_ble_eq_true rfl) dX6_run_11 ?_
    rw [iI_min (by first | assumption | (unfold iR; omega) | exact kR01 (by assumption)) ⟨by decide, by decide⟩]
    refine lv_iconst (v := iI (1 : Int)) hx hb dX6_run_14 (by decide) ?_
    refine wi_isub hx hb dX6_run_15 ?_
    refine lv_istore_n (lv' := [(3, .int (iI ((min ((x).1 (w1) 1) ((60 : Int))) - ((1 : Int))))), (0, .ref (ad (70))), (1, .ref (ad (w1))), (2, .ref (ad (w2)))]) hx hb dX6_run_16 rfl hl (by decide) rfl (fun ls hl => ?_)
    have f2 : ksame [(70, 4)] [71] x (kS (x) (70) 4 ((0 : Int))) := km_s (by decide) (km_rf _ _ _)
    have u4 : (kS (x) (70) 4 ((0 : Int))).1 70 4 = 0 := kS_s
    exact L 70 (kS (x) (70) 4 ((0 : Int))) ((min ((x).1 (w1) 1) ((60 : Int))) - ((1 : Int))) ad had rfl f2 (by rw [u4]; omega) (by omega) (by omega) (by rw [u4]; omega) (by omega) _ _ ls hP hD hS (lv_sub hl [1, 2, 3, 0] rfl)
  exact key ao (fun _ _ => rfl) _ _ ls hP hD hS hl
