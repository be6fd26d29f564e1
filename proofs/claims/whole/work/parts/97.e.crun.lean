-- deps: 30 31 32 33 34 35 36 37 38 39 40 41 42 43 46 70 71 72 73 74 75 76 77 78 79 80 81 82 83 84 85 86 87 88 89 90 91 92 93 94 95 96 97.a 97.b 97.c 97.d
theorem runF_v : runF = 85070591730234615865843651857942052864 := by unfold runF; decide +kernel
theorem cap_w {a b c d : Nat} (h : c = b) (h2 : b ≤ a) (h3 : d = 0) : a - b + 0 + 0 + c ≤ a - d := by omega
theorem kCw_mono {y z : KS} (h : 262144 ≤ y.1 101 9 → 262144 ≤ z.1 101 9) : kCw z ≤ kCw y := by
  unfold kCw
  by_cases c : 262144 ≤ y.1 101 9
  · rw [if_pos c, if_pos (h c)]; exact Nat.le_refl _
  · rw [if_neg c]; split <;> omega
theorem kSw_mono {y z : KS} (h : 262144 ≤ y.1 101 9 → 262144 ≤ z.1 101 9) : kSw z ≤ kSw y := by
  unfold kSw
  by_cases c : 262144 ≤ y.1 101 9
  · rw [if_pos c, if_pos (h c)]; exact Nat.le_refl _
  · rw [if_neg c]; split <;> omega
theorem kCw_fr {y z : KS} (h : z.1 101 9 = y.1 101 9) : kCw z = kCw y := by unfold kCw; rw [h]
theorem kSw_fr {y z : KS} (h : z.1 101 9 = y.1 101 9) : kSw z = kSw y := by unfold kSw; rw [h]
theorem kWl_fr2 {y z : KS} (h : z.1 101 9 = y.1 101 9) : kWl z = kWl y := by unfold kWl; rw [h]
theorem ksame_tk (y : KS) (w1 : Nat) (h : w1 < 87) : (F_w_take (F_g_growOn y).2 w1 88).2.1 101 9 = y.1 101 9 := by
  rw [(F_w_take_fr (F_g_growOn y).2 w1 88).1 101 9 (by intro h9; simp at h9), (F_g_growOn_fr y).1 101 9 (by decide)]
theorem kwd_w (y : KS) : 262144 ≤ (F_k_widen y).2.1 101 9 := by
  unfold F_k_widen
  by_cases c : 262144 ≤ y.1 101 9
  · rw [if_pos c]; exact c
  · rw [if_neg c]
    show (262144 : Int) ≤ (kZw y 262144).1 101 9
    unfold kZw
    rw [kS_s]
    exact Int.le_refl _
theorem rp_9 (y : KS) (b : Int) : (F_g_replace (F_g_growOn y).2 b).2.1 101 9 = y.1 101 9 := by rw [(F_g_replace_fr (F_g_growOn y).2 b).1 101 9 (by decide), (F_g_growOn_fr y).1 101 9 (by decide)]
theorem F_g_run_s_w (w1 : Nat) : ∀ n : Nat, (∀ (y : KS) (p9 q0 : Int), 262144 ≤ y.1 101 9 → 262144 ≤ (F_g_run_s w1 n 0 y p9 q0).2.1 101 9) ∧ (∀ (y : KS) (p9 t9 : Int), 262144 ≤ y.1 101 9 → 262144 ≤ (F_g_run_s w1 n 1 y p9 t9).2.1 101 9) := by
  intro n
  induction n with
  | zero => exact ⟨fun y _ _ h => h, fun y _ _ h => h⟩
  | succ n ih =>
    refine ⟨fun y p9 q0 h => ?_, fun y p9 t9 h => ?_⟩
    · rw [F_g_run_e0]
      split
      · exact h
      · exact ih.2 _ _ _ h
    · rw [F_g_run_e1]
      split
      · exact ih.1 _ _ _ h
      · split
        · show 262144 ≤ (F_w_take (F_g_growOn y).2 w1 88).2.1 101 9
          rw [(F_w_take_fr (F_g_growOn y).2 w1 88).1 101 9 (by intro h9; simp at h9), (F_g_growOn_fr y).1 101 9 (by decide)]
          exact h
        · split
          · exact ih.2 _ _ _ (kwd_w _)
          · exact ih.2 _ _ _ (by rw [rp_9]; exact h)
theorem ruB_9 {w1 : Nat} (hw : kW w1 = true) (h : w1 < 87) (x : KS) : (ruB x w1).1 101 9 = x.1 101 9 := by
  unfold ruB
  rw [(F_g_await_fr _ _ _ _).1 101 9 (by decide), (F_w_drawFrom_fr _ _ _ _).1 101 9 (by intro h9; simp at h9), kS_c (by decide), kA_1, kS_c (by decide)]
  show (kS (kS x 88 1 0) 90 1 0).1 101 9 = _
  rw [kS_c (by decide), kS_c (by decide)]
theorem ruB_gr {x y : KS} (mx : mcX x) {w1 : Nat} (hw : kW w1 = true) (ne : w1 < 87) {W : List Int} (g : gR0 x y) (h : wL y w1 W) (hr : r03 (y.2 (w1 + 1))) (h60 : W.length ≤ 60) : grR (F_w_drawFrom (kS (kA (kS (F_w_wipe (F_w_wipe y 88).2 90).2 87 12 0) 94 (0 : Int).toNat 0) 87 13 0) 90 w1 0).2 := by
  obtain ⟨sm, gw, ki, kn⟩ := g
  have fd := F_w_drawFrom_fr (kS (kA (kS (F_w_wipe (F_w_wipe y 88).2 90).2 87 12 0) 94 (0 : Int).toNat 0) 87 13 0) 90 w1 0
  have n13 : (87, 13) ∉ [(w1, 1), (90, 1)] := by intro h9; simp at h9
  have n12 : (87, 12) ∉ [(w1, 1), (90, 1)] := by intro h9; simp at h9
  have q : ∀ c, c ≠ 91 → c ≠ 94 → (F_w_drawFrom (kS (kA (kS (F_w_wipe (F_w_wipe y 88).2 90).2 87 12 0) 94 (0 : Int).toNat 0) 87 13 0) 90 w1 0).2.2 c = y.2 c := fun c hc h4 => by
    rw [fd.2 c (by rw [List.mem_singleton]; exact hc), kS_2, kA_c h4]
    rfl
  have q94 : (F_w_drawFrom (kS (kA (kS (F_w_wipe (F_w_wipe y 88).2 90).2 87 12 0) 94 (0 : Int).toNat 0) 87 13 0) 90 w1 0).2.2 94 = iU (y.2 94) (0 : Int).toNat 0 := by
    rw [fd.2 94 (by simp), kS_2, kA_s]
    rfl
  unfold grR
  rw [fd.1 87 13 n13, fd.1 87 12 n12, q 99 (by decide) (by decide), q 100 (by decide) (by decide), q 95 (by decide) (by decide), q 96 (by decide) (by decide), q94]
  refine ⟨by rw [kS_s]; omega, by rw [kS_k (by decide), kA_1, kS_s]; omega, gw.2.2.2.2.2.2.2.2.1, gw.2.2.2.2.2.2.2.2.2, gw.2.2.2.2.1, gw.2.2.2.2.2.1, ?_⟩
  exact iU_all (P := fun z => -1000 ≤ z ∧ z < 320) ⟨by decide, by decide⟩ gw.2.2.2.1
set_option maxHeartbeats 4000000 in
set_option maxRecDepth 100000 in
/-- LikeWords$Grower, run -/
theorem c_g_run (l : Launch) (dC : Nat → ClassId) (dI : Nat → Nat → Nat) (ad : Nat → Nat) (cI cJ cZ cR : ClassId) (wl sz : Nat) (x : KS) (w1 : Nat) (hw_w1 : kW w1 = true) (hc7 : w1 < 87) (hL1 : kL w1 = 60) (x0 : KS) (W0 : List Int) (mx : mcX x0) (g0 : gR0 x0 x) (hwl0 : kWl x = wl) (h0 : wL x w1 W0) (r0 : r03 (x.2 (w1 + 1))) (ok0 : okL (nL x0) W0) (h60 : W0.length ≤ 60) : Met l yX0_run wsX0_run ({ frames := 3, cells := (kCw x - kCw (F_g_run x w1).2), slots := (kSw x - kSw (F_g_run x w1).2), locals := 84 }) (kPc dC dI ad cI cJ cZ cR 106 wl sz x [.ref (ad 87), .ref (ad w1)]) (va_Qi (fun (r : Int32) (u : KS × (Nat → Nat)) => r = iI (F_g_run x w1).1 ∧ u.1 = (F_g_run x w1).2 ∧ ∀ c, c < 87 → u.2 c = ad c) (fun u t => kAt dC dI u.2 cI cJ cZ cR 106 (kWl u.1) (va_A (kWd cI cJ cZ cR wl ad 106 x) sz) u.1 t) (va_A (kWd cI cJ cZ cR wl ad 106 x) sz)) (kCw x - kCw (F_g_run x w1).2) (kSw x - kSw (F_g_run x w1).2) (va_A (kWd cI cJ cZ cR wl ad 106 x) sz) := by
  have hM : 87 ≤ 106 := by decide
  have hG : 106 ≤ 106 := by decide
  have hc_w1 : w1 + 1 < 106 := by omega
  have kn0 := g0.2.2.2
  have n90 : 90 ≠ w1 := by omega
  refine Met.ofW (cc := cX0_run) (maxL := 6) (ret := (some .boolean)) (by decide) rfl ?_
  intro p e s m args below meth c s₁ B hml hv
  obtain ⟨rfl, hsz, hP, hK, hD0, hNw⟩ := hv
  have hx := B.exec
  have hb := B.bytes
  have hr := B.returns
  have hts := atoms_spec (ws := wsX0_run) B.pre
  have hown : s.vm.findClass RX0 = some m.cls := findClass_of_methodNamed B.named
  have hlocks := B.notSynchronized
  have hinX0 : ∀ w ∈ u_ws RX0 TX0 15, w ∈ wsX0_run := by decide +kernel
  subst hsz
  have hD := hD0.self (sz := s.heap.size)
  generalize hAe : va_A (kWd cI cJ cZ cR wl ad 106 x) s.heap.size = A at hD ⊢
  have hA : ∀ q : Nat, s.heap.size ≤ q → A q := fun q h => by rw [← hAe]; exact Or.inr h
  have hS : va_S A s.heap s.heap [] := va_S.rf
  have hl := lv_entry ([.ref (ad 87), .ref (ad w1)]) (n := 6) (Nat.le_of_ble_eq_true rfl)
  rw [lg_entry_eq]
  generalize (lg_sl ([.ref (ad 87), .ref (ad w1)]) ++ List.replicate (6 - (lg_sl ([.ref (ad 87), .ref (ad w1)])).length) Slot.unset).toArray = ls at hl ⊢
  have hl : lv_has ls 6 [(0, .ref (ad (87))), (1, .ref (ad (w1)))] := hl
  obtain ⟨sm0, gw0, ki0, _⟩ := id g0
  have gl0 := h0.1
  have gwr := gw0
  have L : ∀ n : Nat, (∀ (y : KS) (p9 : Int) (S : List Int) (wl9 : Nat) (ad9 : Nat → Nat), gAt x0 W0 y S → 0 ≤ p9 → p9 * 4611686018427387904 + (mO S : Int) ≤ 5316911983139663491615228241121378304 → kWl y = wl9 → (262144 ≤ x.1 101 9 → 262144 ≤ y.1 101 9) → (∀ c, c < 102 → ad9 c = ad c) → 3 * (mO S : Int) + 2 < n → F_g_run_s w1 n 0 y p9 0 = F_g_run x w1 → ∀ (H : Heap) (locs : List Loc) (ls : Array Slot), va_P (dC, dI) vwCl (kWd cI cJ cZ cR wl9 ad9 106 y) H → va_D A (kWd cI cJ cZ cR wl9 ad9 106 y) → va_S A s.heap H locs → lv_has ls 6 [(0, .ref (ad9 (87))), (1, .ref (ad9 (w1))), (2, .long (iL (p9)))] → W p l e (headSpec wsX0_run ({ frames := 3, cells := (kCw x - kCw (F_g_run x w1).2), slots := (kSw x - kSw (F_g_run x w1).2), locals := 84 })).room s m ([.ref (ad 87), .ref (ad w1)] : List Value).toArray below meth c H locs (kCw x - kCw y) (kSw x - kSw y) (MQ below (va_Qi (fun (r : Int32) (u : KS × (Nat → Nat)) => r = iI (F_g_run x w1).1 ∧ u.1 = (F_g_run x w1).2 ∧ ∀ c, c < 87 → u.2 c = ad c) (fun u t => kAt dC dI u.2 cI cJ cZ cR 106 (kWl u.1) (A) u.1 t) (A)) ([.ref (ad 87), .ref (ad w1)] : List Value).toArray s (kCw x - kCw (F_g_run x w1).2) (kSw x - kSw (F_g_run x w1).2) A) (F0 m 51 ls [])) ∧ (∀ (y : KS) (p9 t9 : Int) (S : List Int) (wl9 : Nat) (ad9 : Nat → Nat), gAt x0 W0 y S → 0 ≤ p9 → 0 ≤ t9 → t9 ≤ 4611686018427387904 → p9 * 4611686018427387904 + t9 + (mO S : Int) ≤ 5316911983139663491615228241121378304 → kWl y = wl9 → (262144 ≤ x.1 101 9 → 262144 ≤ y.1 101 9) → (∀ c, c < 102 → ad9 c = ad c) → 3 * (mO S : Int) + 1 + 2 * (t9 / 4611686018427387904) < n → F_g_run_s w1 n 1 y p9 t9 = F_g_run x w1 → ∀ (H : Heap) (locs : List Loc) (ls : Array Slot), va_P (dC, dI) vwCl (kWd cI cJ cZ cR wl9 ad9 106 y) H → va_D A (kWd cI cJ cZ cR wl9 ad9 106 y) → va_S A s.heap H locs → lv_has ls 6 [(0, .ref (ad9 (87))), (1, .ref (ad9 (w1))), (2, .long (iL (p9))), (4, .long (iL (t9)))] → W p l e (headSpec wsX0_run ({ frames := 3, cells := (kCw x - kCw (F_g_run x w1).2), slots := (kSw x - kSw (F_g_run x w1).2), locals := 84 })).room s m ([.ref (ad 87), .ref (ad w1)] : List Value).toArray below meth c H locs (kCw x - kCw y) (kSw x - kSw y) (MQ below (va_Qi (fun (r : Int32) (u : KS × (Nat → Nat)) => r = iI (F_g_run x w1).1 ∧ u.1 = (F_g_run x w1).2 ∧ ∀ c, c < 87 → u.2 c = ad c) (fun u t => kAt dC dI u.2 cI cJ cZ cR 106 (kWl u.1) (A) u.1 t) (A)) ([.ref (ad 87), .ref (ad w1)] : List Value).toArray s (kCw x - kCw (F_g_run x w1).2) (kSw x - kSw (F_g_run x w1).2) A) (F0 m 62 ls [])) := by
    intro n
    induction n with
    | zero => exact ⟨fun y p9 S wl9 ad9 gy p0 bd hw9 mo hAd fu => absurd fu (by omega), fun y p9 t9 S wl9 ad9 gy p0 t0 t1 bd hw9 mo hAd fu => absurd fu (by omega)⟩
    | succ n ih =>
      refine ⟨?_, ?_⟩
      · intro y p9 S wl9 ad9 gy p0 bd hw9 mo hAd fu hres H locs ls hP hD hS hl
        have kfin := (F_g_run_s_w w1 (n + 1)).1 y p9 0
        rw [hres] at kfin
        have hc9 : kCw x - kCw y + 0 ≤ (kCw x - kCw (F_g_run x w1).2) := by have := kCw_mono kfin; omega
        have hs9 : kSw x - kSw y + 0 ≤ (kSw x - kSw (F_g_run x w1).2) := by have := kSw_mono kfin; omega
        rw [F_g_run_e0] at hres
        have hm9 : 0 ≤ (mO S : Int) := by omega
        refine lv_lload_n hx hb dX0_run_51 rfl (lv_at hl 2 rfl) ?_
        refine lv_ldc2 (v := iL (4611686018427387904 : Int)) hx hb hown (hts (.constantLong RX0 83 (4611686018427387904)) (by decide +kernel)) dX0_run_52 ?_
        refine wi_lcmp hx hb (by first | assumption | exact kR_L (by assumption) | (unfold iRL; omega)) ⟨by decide, by decide⟩ dX0_run_55 ?_
        refine wi_if_ge (tgt := 133) hx hb iC_R dX0_run_56 (by decide) (fun c_56 => ?_) (fun c_56 => ?_)
        · skip
          rw [if_pos c_56] at hres
          exfalso
          have h9 := kiC_lt (a := p9) (b := 4611686018427387904)
          omega
        · skip
          rw [if_neg c_56] at hres
          refine lv_lconst (v := iL 0) hx hb dX0_run_59 (by decide) ?_
          refine lv_lstore (lv' := [(4, .long (iL ((0 : Int)))), (0, .ref (ad9 (87))), (1, .ref (ad9 (w1))), (2, .long (iL (p9)))]) hx hb dX0_run_60 hl (by decide) rfl (fun ls hl => ?_)
          exact ih.2 y p9 (0 : Int) S wl9 ad9 gy p0 (by omega) (by omega) (by omega) hw9 mo hAd (by omega) hres _ _ ls hP hD hS (lv_sub hl [1, 2, 3, 0] rfl)
      · intro y p9 t9 S wl9 ad9 gy p0 t0 t1 bd hw9 mo hAd fu hres H locs ls hP hD hS hl
        have kfin := (F_g_run_s_w w1 (n + 1)).2 y p9 t9
        rw [hres] at kfin
        have hc9 : kCw x - kCw y + 0 ≤ (kCw x - kCw (F_g_run x w1).2) := by have := kCw_mono kfin; omega
        have hs9 : kSw x - kSw y + 0 ≤ (kSw x - kSw (F_g_run x w1).2) := by have := kSw_mono kfin; omega
        rw [F_g_run_e1] at hres
        have gok := gAt_ok mx gy
        have gk9 := gok.1
        rw [hw9] at gk9
        have on9 := gAt_on mx gy
        have hg01 : (F_g_growOn y).1 = 0 ∨ (F_g_growOn y).1 = 1 := by rcases on9 with h9 | h9; exact Or.inl h9.1; exact Or.inr h9.1
        have eW9 : kWl (F_g_growOn y).2 = wl9 := (kWl_fr (F_g_growOn_fr y) (by decide)).trans hw9
        have hm9 : 0 ≤ (mO S : Int) := by omega
        refine lv_lload hx hb dX0_run_62 (lv_at hl 3 rfl) ?_
        refine lv_ldc2 (v := iL (4611686018427387904 : Int)) hx hb hown (hts (.constantLong RX0 83 (4611686018427387904)) (by decide +kernel)) dX0_run_64 ?_
        refine wi_lcmp hx hb (by first | assumption | exact kR_L (by assumption) | (unfold iRL; omega)) ⟨by decide, by decide⟩ dX0_run_67 ?_
        refine wi_if_ge (tgt := 126) hx hb iC_R dX0_run_68 (by decide) (fun c_68 => ?_) (fun c_68 => ?_)
        · skip
          rw [if_pos c_68] at hres
          have h68 := kiC_lt (a := t9) (b := 4611686018427387904)
          have h69 : t9 = 4611686018427387904 := by omega
          refine lv_lload_n hx hb dX0_run_126 rfl (lv_at hl 2 rfl) ?_
          refine lv_lconst (v := iL 1) hx hb dX0_run_127 (by decide) ?_
          refine wi_ladd hx hb dX0_run_128 ?_
          refine lv_lstore_n (lv' := [(2, .long (iL ((p9) + ((1 : Int))))), (0, .ref (ad9 (87))), (1, .ref (ad9 (w1))), (4, .long (iL (t9)))]) hx hb dX0_run_129 rfl hl (by decide) rfl (fun ls hl => ?_)
          refine lv_goto (tgt := 51) hx hb dX0_run_130 (by decide) ?_
          exact ih.1 y ((p9) + ((1 : Int))) S wl9 ad9 gy (by omega) (by omega) hw9 mo hAd (by omega) hres _ _ ls hP hD hS (lv_sub hl [1, 2, 0] rfl)
        · skip
          rw [if_neg c_68] at hres
          have h68 := kiC_lt (a := t9) (b := 4611686018427387904)
          have h69 : t9 < 4611686018427387904 := by omega
          refine lv_aload_n hx hb dX0_run_71 rfl (lv_at hl 0 rfl) ?_
          have hFc : ∀ q, va_A (kWd cI cJ cZ cR wl9 ad9 106 (y)) H.size q → A q := fun q hq => Or.elim hq (fun ⟨k, e, hk⟩ => hD.2 k (q, e) hk) (fun hk => hA q (Nat.le_trans hS.1 hk))
          refine va_calli (va_runV (b := ad9 (87)) (As := []) (rest := []) ⟨hx, hb, hml, hown, hts⟩ (c_g_growOn l dC dI ad9 cI cJ cZ cR 106 wl9 H.size (y)   hM hG gk9) (cwV 0 hts gX0_run_X0_growOn rfl rfl rfl (by decide +kernel) ⟨Nat.le_of_ble_eq_true rfl, Nat.le_of_ble_eq_true rfl⟩) ⟨fun a U g mk q => by obtain ⟨q0, q1, qP, qK, qD, qN⟩ := q; exact ⟨q0, q1, qP, va_K.moved (u := U) (U := U.calling g mk a) (Vm.Alike.refl U.vm) qK, qD, kNw.same (u := U) (U := U.calling g mk a) rfl qN⟩, va_recv hK hP (ci := 0) (q0 := 87) rfl (kg87 (by omega)), fun U hU hW => ⟨rfl, by rw [hU], by rw [hU]; exact hP, va_K.moved hW.alike hK, hD.weaken (fun _ _ _ _ => trivial), kNw.warm hW hNw⟩⟩ rfl rfl hl.1 rfl (lv_room (Nat.le_of_ble_eq_true rfl)) dX0_run_72 ⟨hc9, hs9⟩) hS (fun q _ h => hFc q h) hFc (fun r9 u9 t H1 locs ht hvm hw hB hz1 hk1 hS => ?_)
          obtain ⟨hP1, hK1, hD1⟩ := hB
          rw [ht] at hP1
          obtain ⟨hw1, hw2⟩ := hw
          rw [hw2] at hP1 hD1
          rw [hw1]
          have hD2 := hD1.weaken (B := A) (fun _ q _ h => hFc q.1 h)
          have hP := hP1
          have hD := hD2
          generalize H1 = H at hP hS ⊢
          refine wi_if_ne (tgt := 88) hx hb (kR01 hg01) dX0_run_75 (by decide) (fun c_75 => ?_) (fun c_75 => ?_)
          · skip
            rw [if_neg c_75] at hres
            obtain ⟨S9, k29, k39, k49, k59, k69⟩ : ∃ S9, okL 4 S9 ∧ S9.length ≤ 60 ∧ knm S9 < knm S ∧ gF (kWl (F_g_growOn y).2) (F_g_growOn y).2 ((F_g_growOn y).2.2 99 ((F_g_growOn y).2.1 87 13).toNat) ∧ gAt x0 W0 (F_g_replace (F_g_growOn y).2 ((F_g_growOn y).2.2 99 ((F_g_growOn y).2.1 87 13).toNat)).2 S9 := by
              rcases on9 with ⟨k1, _⟩ | ⟨_, k⟩
              · exact absurd k1 c_75
              · exact k
            rw [eW9] at k59
            have gf9 := k59
            have b019 : ((F_g_growOn y).2.2 99 ((F_g_growOn y).2.1 87 13).toNat) = 0 ∨ ((F_g_growOn y).2.2 99 ((F_g_growOn y).2.1 87 13).toNat) = 1 := by obtain ⟨_, _, _, _, _, _, g9⟩ := gf9; exact g9.2.2.2.2.2.2.2
            have hlv : 0 ≤ (F_g_growOn y).2.1 87 13 ∧ (F_g_growOn y).2.1 87 13 ≤ 61 := by obtain ⟨_, _, _, _, _, _, g9⟩ := gf9; exact g9.2.1.2.2.2.2.2.2.2.1
            have hm2 := mO_lt k29 gok.2.1 k49
            refine lv_aload_n hx hb dX0_run_88 rfl (lv_at hl 0 rfl) ?_
            refine lv_aload_n hx hb dX0_run_89 rfl (lv_at hl 0 rfl) ?_
            refine va_get (D := (dC, dI)) (ci := 0) (v := .ref (ad9 (99))) (C := RX0) (T := TX0) (N := 15) hx hb hts hinX0 hown hK hP (87) (kg87 (by omega)) rfl 10 (by decide) (hts (.fieldLink RX0 51 "LikeWords$Grower" "isAhead" "[Z") (by decide +kernel)) (fun _ h9 => h9) rfl dX0_run_90 ?_
            refine lv_aload_n hx hb dX0_run_93 rfl (lv_at hl 0 rfl) ?_
            refine va_get (D := (dC, dI)) (ci := 0) (v := .int (iI (((F_g_growOn (y)).2).1 (87) 13))) (C := RX0) (T := TX0) (N := 15) hx hb hts hinX0 hown hK hP (87) (kg87 (by omega)) rfl 13 (by decide) (hts (.fieldLink RX0 72 "LikeWords$Grower" "level" "I") (by decide +kernel)) (fun _ h9 => h9) rfl dX0_run_94 ?_
            refine wi_zald (f := ((F_g_growOn (y)).2).2 (99)) (n := kLen (99)) hx hb hK hP (99) 2 (kgz kC99 (by omega) rfl) rfl (i := ((F_g_growOn (y)).2).1 (87) 13) (by omega) (by show _ < ((62 : Nat) : Int); exact (by omega)) (kLen_lt _) dX0_run_97 ?_
            have hFc : ∀ q, va_A (kWd cI cJ cZ cR wl9 ad9 106 ((F_g_growOn (y)).2)) H.size q → A q := fun q hq => Or.elim hq (fun ⟨k, e, hk⟩ => hD.2 k (q, e) hk) (fun hk => hA q (Nat.le_trans hS.1 hk))
            refine va_callv (va_runV (b := ad9 (87)) (As := [.int (iI ((((F_g_growOn (y)).2).2 (99)) (((F_g_growOn (y)).2).1 (87) 13).toNat))]) (rest := []) ⟨hx, hb, hml, hown, hts⟩ (c_g_replace l dC dI ad9 cI cJ cZ cR 106 wl9 H.size ((F_g_growOn (y)).2)  ((((F_g_growOn (y)).2).2 (99)) (((F_g_growOn (y)).2).1 (87) 13).toNat) hM hG gf9 b019) (cwV 1 hts gX0_run_X0_replace rfl rfl rfl (by decide +kernel) ⟨Nat.le_of_ble_eq_true rfl, Nat.le_of_ble_eq_true rfl⟩) ⟨fun a U g mk q => by obtain ⟨q0, q1, qP, qK, qD, qN⟩ := q; exact ⟨q0, q1, qP, va_K.moved (u := U) (U := U.calling g mk a) (Vm.Alike.refl U.vm) qK, qD, kNw.same (u := U) (U := U.calling g mk a) rfl qN⟩, va_recv hK hP (ci := 0) (q0 := 87) rfl (kg87 (by omega)), fun U hU hW => ⟨rfl, by rw [hU], by rw [hU]; exact hP, va_K.moved hW.alike hK, hD.weaken (fun _ _ _ _ => trivial), kNw.warm hW hNw⟩⟩ rfl rfl hl.1 rfl (lv_room (Nat.le_of_ble_eq_true rfl)) dX0_run_98 ⟨hc9, hs9⟩) hS (fun q _ h => hFc q h) hFc (fun u9 t H1 locs ht hvm hw hB hz1 hk1 hS => ?_)
            obtain ⟨hP1, hK1, hD1⟩ := hB
            rw [ht] at hP1
            rw [hw] at hP1 hD1
            have hD2 := hD1.weaken (B := A) (fun _ q _ h => hFc q.1 h)
            have hP := hP1
            have hD := hD2
            generalize H1 = H at hP hS ⊢
            have k99 : ((F_g_replace ((F_g_growOn (y)).2) ((((F_g_growOn (y)).2).2 (99)) (((F_g_growOn (y)).2).1 (87) 13).toNat)).2).1 101 9 = y.1 101 9 := rp_9 y _
            have kC9 : kCw ((F_g_replace ((F_g_growOn (y)).2) ((((F_g_growOn (y)).2).2 (99)) (((F_g_growOn (y)).2).1 (87) 13).toNat)).2) = kCw y := kCw_fr k99
            have kS9 : kSw ((F_g_replace ((F_g_growOn (y)).2) ((((F_g_growOn (y)).2).2 (99)) (((F_g_growOn (y)).2).1 (87) 13).toNat)).2) = kSw y := kSw_fr k99
            have kW9 : kWl ((F_g_replace ((F_g_growOn (y)).2) ((((F_g_growOn (y)).2).2 (99)) (((F_g_growOn (y)).2).1 (87) 13).toNat)).2) = kWl y := kWl_fr2 k99
            have kn9 : knR ((F_g_replace ((F_g_growOn (y)).2) ((((F_g_growOn (y)).2).2 (99)) (((F_g_growOn (y)).2).1 (87) 13).toNat)).2) wl9 := by obtain ⟨_, _, _, _, kq, _⟩ := k69; rw [kW9, hw9] at kq; exact kq
            refine lv_lload hx hb dX0_run_101 (lv_at hl 3 rfl) ?_
            refine lv_ldc2 (v := iL (1000000 : Int)) hx hb hown (hts (.constantLong RX0 97 (1000000)) (by decide +kernel)) dX0_run_103 ?_
            refine wi_lcmp hx hb (by first | assumption | exact kR_L (by assumption) | (unfold iRL; omega)) ⟨by decide, by decide⟩ dX0_run_106 ?_
            refine wi_if_ne (tgt := 117) hx hb iC_R dX0_run_107 (by decide) (fun c_107 => ?_) (fun c_107 => ?_)
            · skip
              rw [if_neg c_107] at hres
              refine lv_lload hx hb dX0_run_117 (lv_at hl 3 rfl) ?_
              refine lv_lconst (v := iL 1) hx hb dX0_run_119 (by decide) ?_
              refine wi_ladd hx hb dX0_run_120 ?_
              refine lv_lstore (lv' := [(4, .long (iL ((t9) + ((1 : Int))))), (0, .ref (ad9 (87))), (1, .ref (ad9 (w1))), (2, .long (iL (p9)))]) hx hb dX0_run_121 hl (by decide) rfl (fun ls hl => ?_)
              refine lv_goto (tgt := 62) hx hb dX0_run_123 (by decide) ?_
              refine W.widen (k := kCw x - kCw ((F_g_replace ((F_g_growOn (y)).2) ((((F_g_growOn (y)).2).2 (99)) (((F_g_growOn (y)).2).1 (87) 13).toNat)).2)) (n := kSw x - kSw ((F_g_replace ((F_g_growOn (y)).2) ((((F_g_growOn (y)).2).2 (99)) (((F_g_growOn (y)).2).1 (87) 13).toNat)).2)) (by rw [kC9]; exact Nat.le_refl _) (by rw [kS9]; exact Nat.le_refl _) ?_
              exact ih.2 ((F_g_replace ((F_g_growOn (y)).2) ((((F_g_growOn (y)).2).2 (99)) (((F_g_growOn (y)).2).1 (87) 13).toNat)).2) p9 (t9 + (1 : Int)) S9 wl9 ad9 k69 p0 (by omega) (by omega) (by omega) (kW9.trans hw9) (fun h9 => by rw [k99]; exact mo h9) hAd (by omega) hres _ _ ls hP hD hS (lv_sub hl [1, 2, 3, 0] rfl)
            · skip
              rw [if_pos c_107] at hres
              have kfn := (F_g_run_s_w w1 n).2 (F_k_widen ((F_g_replace ((F_g_growOn (y)).2) ((((F_g_growOn (y)).2).2 (99)) (((F_g_growOn (y)).2).1 (87) 13).toNat)).2)).2 p9 (t9 + (1 : Int)) (kwd_w _)
              have kfn2 : 262144 ≤ (F_g_run x w1).2.1 101 9 := by rw [← hres]; exact kfn
              have kf0 : kCw (F_g_run x w1).2 = 0 := if_pos kfn2
              have kf1 : kSw (F_g_run x w1).2 = 0 := if_pos kfn2
              have ky1 := kCw_mono (y := x) (z := y) mo
              have ky2 := kSw_mono (y := x) (z := y) mo
              have hcw : kCw x - kCw y + 0 + 0 + kCw ((F_g_replace ((F_g_growOn (y)).2) ((((F_g_growOn (y)).2).2 (99)) (((F_g_growOn (y)).2).1 (87) 13).toNat)).2) ≤ kCw x - kCw (F_g_run x w1).2 := cap_w kC9 ky1 kf0
              have hsw : kSw x - kSw y + 0 + 0 + kSw ((F_g_replace ((F_g_growOn (y)).2) ((((F_g_growOn (y)).2).2 (99)) (((F_g_growOn (y)).2).1 (87) 13).toNat)).2) ≤ kSw x - kSw (F_g_run x w1).2 := cap_w kS9 ky2 kf1
              have kz0 : kCw (F_k_widen ((F_g_replace ((F_g_growOn (y)).2) ((((F_g_growOn (y)).2).2 (99)) (((F_g_growOn (y)).2).1 (87) 13).toNat)).2)).2 = 0 := if_pos (kwd_w _)
              have kz1 : kSw (F_k_widen ((F_g_replace ((F_g_growOn (y)).2) ((((F_g_growOn (y)).2).2 (99)) (((F_g_growOn (y)).2).1 (87) 13).toNat)).2)).2 = 0 := if_pos (kwd_w _)
              have hk5 : kCw x - kCw y + 0 + 0 + kCw ((F_g_replace ((F_g_growOn (y)).2) ((((F_g_growOn (y)).2).2 (99)) (((F_g_growOn (y)).2).1 (87) 13).toNat)).2) ≤ kCw x - kCw (F_k_widen ((F_g_replace ((F_g_growOn (y)).2) ((((F_g_growOn (y)).2).2 (99)) (((F_g_growOn (y)).2).1 (87) 13).toNat)).2)).2 := cap_w kC9 ky1 kz0
              have hs5 : kSw x - kSw y + 0 + 0 + kSw ((F_g_replace ((F_g_growOn (y)).2) ((((F_g_growOn (y)).2).2 (99)) (((F_g_growOn (y)).2).1 (87) 13).toNat)).2) ≤ kSw x - kSw (F_k_widen ((F_g_replace ((F_g_growOn (y)).2) ((((F_g_growOn (y)).2).2 (99)) (((F_g_growOn (y)).2).1 (87) 13).toNat)).2)).2 := cap_w kS9 ky2 kz1
              refine lv_aload_n hx hb dX0_run_110 rfl (lv_at hl 0 rfl) ?_
              refine va_get (D := (dC, dI)) (ci := 0) (v := .ref (ad9 (101))) (C := RX0) (T := TX0) (N := 15) hx hb hts hinX0 hown hK hP (87) (kg87 (by omega)) rfl 14 (by decide) (hts (.fieldLink RX0 61 "LikeWords$Grower" "known" "LLikeWords$Known;") (by decide +kernel)) (fun _ h9 => h9) rfl dX0_run_111 ?_
              have kny : knR ((F_g_replace ((F_g_growOn (y)).2) ((((F_g_growOn (y)).2).2 (99)) (((F_g_growOn (y)).2).1 (87) 13).toNat)).2) wl9 := kn9
              have hFc : ∀ q, va_A (kWd cI cJ cZ cR wl9 ad9 106 ((F_g_replace ((F_g_growOn (y)).2) ((((F_g_growOn (y)).2).2 (99)) (((F_g_growOn (y)).2).1 (87) 13).toNat)).2)) H.size q → A q := fun q hq => Or.elim hq (fun ⟨k, e, hk⟩ => hD.2 k (q, e) hk) (fun hk => hA q (Nat.le_trans hS.1 hk))
              refine va_callv (va_runV (b := ad9 101) (As := []) (rest := []) ⟨hx, hb, hml, hown, hts⟩ (c_k_widen l dC dI ad9 cI cJ cZ cR wl9 H.size ((F_g_replace ((F_g_growOn (y)).2) ((((F_g_growOn (y)).2).2 (99)) (((F_g_growOn (y)).2).1 (87) 13).toNat)).2) kny) (cwV 0 hts gX0_run_X2_widen rfl rfl rfl (by decide +kernel) ⟨Nat.le_of_ble_eq_true rfl, Nat.le_of_ble_eq_true rfl⟩) ⟨fun a U g mk q => by obtain ⟨q0, q1, qP, qK, qD, qN⟩ := q; exact ⟨q0, q1, qP, va_K.moved (u := U) (U := U.calling g mk a) (Vm.Alike.refl U.vm) qK, qD, kNw.same (u := U) (U := U.calling g mk a) rfl qN⟩, va_recv hK hP (ci := 2) (q0 := 101) rfl (kg101 (by decide)), fun U hU hW => ⟨rfl, by rw [hU], by rw [hU]; exact hP, va_K.moved hW.alike hK, hD.weaken (fun _ _ _ _ => trivial), kNw.warm hW hNw⟩⟩ rfl rfl hl.1 rfl (lv_room (Nat.le_of_ble_eq_true rfl)) dX0_run_114 ⟨hcw, hsw⟩) hS (fun q _ h => hFc q h) hFc (fun u9 t H1 locs ht hvm hw hB hz1 hk1 hS => ?_)
              obtain ⟨hP1, hK1, hD1⟩ := hB
              rw [ht] at hP1
              obtain ⟨z9, a9⟩ := u9
              obtain ⟨hw1, hw2⟩ := hw
              have hw1 : z9 = (F_k_widen ((F_g_replace ((F_g_growOn (y)).2) ((((F_g_growOn (y)).2).2 (99)) (((F_g_growOn (y)).2).1 (87) 13).toNat)).2)).2 := hw1
              subst hw1
              have hw2 : ∀ c, c < 102 → a9 c = ad9 c := hw2
              have hP := hP1
              have hD := hD1.weaken (B := A) (fun _ q _ h => hFc q.1 h)
              generalize H1 = H at hP hS ⊢
              refine lv_lload hx hb dX0_run_117 (lv_at hl 3 rfl) ?_
              refine lv_lconst (v := iL 1) hx hb dX0_run_119 (by decide) ?_
              refine wi_ladd hx hb dX0_run_120 ?_
              refine lv_lstore (lv' := [(4, .long (iL ((t9) + ((1 : Int))))), (0, .ref (ad9 (87))), (1, .ref (ad9 (w1))), (2, .long (iL (p9)))]) hx hb dX0_run_121 hl (by decide) rfl (fun ls hl => ?_)
              refine lv_goto (tgt := 62) hx hb dX0_run_123 (by decide) ?_
              rw [← hw2 87 (by decide), ← hw2 w1 (by omega)] at hl
              refine W.widen (k := kCw x - kCw ((F_k_widen ((F_g_replace ((F_g_growOn (y)).2) ((((F_g_growOn (y)).2).2 (99)) (((F_g_growOn (y)).2).1 (87) 13).toNat)).2)).2)) (n := kSw x - kSw ((F_k_widen ((F_g_replace ((F_g_growOn (y)).2) ((((F_g_growOn (y)).2).2 (99)) (((F_g_growOn (y)).2).1 (87) 13).toNat)).2)).2)) hk5 hs5 ?_
              exact ih.2 ((F_k_widen ((F_g_replace ((F_g_growOn (y)).2) ((((F_g_growOn (y)).2).2 (99)) (((F_g_growOn (y)).2).1 (87) 13).toNat)).2)).2) p9 (t9 + (1 : Int)) S9 (kWl ((F_k_widen ((F_g_replace ((F_g_growOn (y)).2) ((((F_g_growOn (y)).2).2 (99)) (((F_g_growOn (y)).2).1 (87) 13).toNat)).2)).2)) a9 (gAt_widen k69) p0 (by omega) (by omega) (by omega) rfl (fun _ => kwd_w _) (fun c hc => (hw2 c hc).trans (hAd c hc)) (by omega) hres _ _ ls hP hD hS (lv_sub hl [1, 2, 3, 0] rfl)
          · skip
            rw [if_pos c_75] at hres
            have hz9 : 0 ≤ (F_g_growOn y).2.1 88 1 ∧ (F_g_growOn y).2.1 88 1 ≤ 60 := by
              rcases on9 with ⟨k1, z, ez, k2, k3, k4⟩ | ⟨k1, _⟩
              · rw [← ez, k2.1.2.1.1]
                have := gok.2.2.1
                rw [List.nil_append]
                omega
              · rw [k1] at c_75
                exact absurd c_75 (by decide)
            have hz0 := hz9.1
            have hz1 : (F_g_growOn y).2.1 88 1 ≤ ((kL 88 : Nat) : Int) := hz9.2
            refine lv_aload_n hx hb dX0_run_78 rfl (lv_at hl 1 rfl) ?_
            refine lv_aload_n hx hb dX0_run_79 rfl (lv_at hl 0 rfl) ?_
            refine va_get (D := (dC, dI)) (ci := 0) (v := .ref (ad9 (88))) (C := RX0) (T := TX0) (N := 15) hx hb hts hinX0 hown hK hP (87) (kg87 (by omega)) rfl 2 (by decide) (hts (.fieldLink RX0 24 "LikeWords$Grower" "row" "LLikeWords$Word;") (by decide +kernel)) (fun _ h9 => h9) rfl dX0_run_80 ?_
            have hFc : ∀ q, va_A (kWd cI cJ cZ cR wl9 ad9 106 ((F_g_growOn (y)).2)) H.size q → A q := fun q hq => Or.elim hq (fun ⟨k, e, hk⟩ => hD.2 k (q, e) hk) (fun hk => hA q (Nat.le_trans hS.1 hk))
            refine va_callv (va_runV (b := ad9 (w1)) (As := [.ref (ad9 (88))]) (rest := []) ⟨hx, hb, hml, hown, hts⟩ (c_w_take l dC dI ad9 cI cJ cZ cR 106 wl9 H.size ((F_g_growOn (y)).2) (w1) (88)  hM hw_w1 (by omega) rfl (by omega) hz0 hz1) (cwV 1 hts gX0_run_X10_take rfl rfl rfl (by decide +kernel) ⟨Nat.le_of_ble_eq_true rfl, Nat.le_of_ble_eq_true rfl⟩) ⟨fun a U g mk q => by obtain ⟨q0, q1, qP, qK, qD, qN⟩ := q; exact ⟨q0, q1, qP, va_K.moved (u := U) (U := U.calling g mk a) (Vm.Alike.refl U.vm) qK, qD, kNw.same (u := U) (U := U.calling g mk a) rfl qN⟩, va_recv hK hP (ci := 10) (q0 := w1) rfl (kgw hw_w1 (by omega)), fun U hU hW => ⟨rfl, by rw [hU], by rw [hU]; exact hP, va_K.moved hW.alike hK, hD.weaken (fun _ _ _ _ => trivial), kNw.warm hW hNw⟩⟩ rfl rfl hl.1 rfl (lv_room (Nat.le_of_ble_eq_true rfl)) dX0_run_83 ⟨hc9, hs9⟩) hS (fun q _ h => hFc q h) hFc (fun u9 t H1 locs ht hvm hw hB hz1 hk1 hS => ?_)
            obtain ⟨hP1, hK1, hD1⟩ := hB
            rw [ht] at hP1
            rw [hw] at hP1 hD1
            have hD2 := hD1.weaken (B := A) (fun _ q _ h => hFc q.1 h)
            have hP := hP1
            have hD := hD2
            generalize H1 = H at hP hS ⊢
            refine lv_iconst (v := iI (1 : Int)) hx hb dX0_run_86 (by decide) ?_
            have hF9 : (F_g_run x w1) = ((1 : Int), (F_w_take ((F_g_growOn (y)).2) (w1) (88)).2) := hres.symm
            have eC : kCw (F_g_run x w1).2 = kCw y := by rw [hF9]; exact kCw_fr (ksame_tk y w1 hc7)
            have eS : kSw (F_g_run x w1).2 = kSw y := by rw [hF9]; exact kSw_fr (ksame_tk y w1 hc7)
            have eW : kWl ((F_w_take ((F_g_growOn (y)).2) (w1) (88)).2) = wl9 := (kWl_fr2 (ksame_tk y w1 hc7)).trans hw9
            rw [eC, eS]
            exact W.zret (v := iI ((1 : Int))) hx hb hr (kz _ (Or.inr rfl)) (fun t ht hW => ⟨⟨iI ((1 : Int)), ((F_w_take ((F_g_growOn (y)).2) (w1) (88)).2, ad9), rfl, ⟨(by rw [hF9]), (by rw [hF9]), fun c hc => hAd c (by omega)⟩, by rw [ht]; show va_P (dC, dI) vwCl (kWd cI cJ cZ cR (kWl ((F_w_take ((F_g_growOn (y)).2) (w1) (88)).2)) ad9 106 ((F_w_take ((F_g_growOn (y)).2) (w1) (88)).2)) H; rw [eW]; exact hP, va_K.moved hW.alike hK, by show va_D A (kWd cI cJ cZ cR (kWl ((F_w_take ((F_g_growOn (y)).2) (w1) (88)).2)) ad9 106 ((F_w_take ((F_g_growOn (y)).2) (w1) (88)).2)); rw [eW]; exact hD⟩, hS.F ht⟩) hS.2.2 dX0_run_87
  have key : ∀ (H : Heap) (locs : List Loc), va_P (dC, dI) vwCl (kWd cI cJ cZ cR wl ad 106 x) H → va_S A s.heap H locs → W p l e (headSpec wsX0_run ({ frames := 3, cells := (kCw x - kCw (F_g_run x w1).2), slots := (kSw x - kSw (F_g_run x w1).2), locals := 84 })).room s m ([.ref (ad 87), .ref (ad w1)] : List Value).toArray below meth c H locs 0 0 (MQ below (va_Qi (fun (r : Int32) (u : KS × (Nat → Nat)) => r = iI (F_g_run x w1).1 ∧ u.1 = (F_g_run x w1).2 ∧ ∀ c, c < 87 → u.2 c = ad c) (fun u t => kAt dC dI u.2 cI cJ cZ cR 106 (kWl u.1) (A) u.1 t) (A)) ([.ref (ad 87), .ref (ad w1)] : List Value).toArray s (kCw x - kCw (F_g_run x w1).2) (kSw x - kSw (F_g_run x w1).2) A) (F0 m 0 ls []) := by
    intro H locs hP hS
    have hres : F_g_run_s w1 runF 0 ((F_g_await ((F_w_drawFrom (kS (kA (kS ((F_w_wipe ((F_w_wipe (x) (88)).2) (90)).2) (87) 12 ((0 : Int))) (94) ((0 : Int)).toNat ((0 : Int))) (87) 13 ((0 : Int))) (90) (w1) ((0 : Int))).2) ((0 : Int)) ((F_w_drawFrom (kS (kA (kS ((F_w_wipe ((F_w_wipe (x) (88)).2) (90)).2) (87) 12 ((0 : Int))) (94) ((0 : Int)).toNat ((0 : Int))) (87) 13 ((0 : Int))) (90) (w1) ((0 : Int))).1) ((1 : Int))).2) ((0 : Int)) (0) = F_g_run x w1 := rfl
    refine lv_aload_n hx hb dX0_run_0 rfl (lv_at hl 0 rfl) ?_
    refine va_get (D := (dC, dI)) (ci := 0) (v := .ref (ad (88))) (C := RX0) (T := TX0) (N := 15) hx hb hts hinX0 hown hK hP (87) (kg87 (by omega)) rfl 2 (by decide) (hts (.fieldLink RX0 24 "LikeWords$Grower" "row" "LLikeWords$Word;") (by decide +kernel)) (fun _ h9 => h9) rfl dX0_run_1 ?_
    have hFc : ∀ q, va_A (kWd cI cJ cZ cR wl ad 106 (x)) H.size q → A q := fun q hq => Or.elim hq (fun ⟨k, e, hk⟩ => hD.2 k (q, e) hk) (fun hk => hA q (Nat.le_trans hS.1 hk))
    refine va_callv (va_runV (b := ad (88)) (As := []) (rest := []) ⟨hx, hb, hml, hown, hts⟩ (c_w_wipe l dC dI ad cI cJ cZ cR 106 wl H.size (x) (88)  hM rfl (by omega) ) (cwV 0 hts gX0_run_X10_wipe rfl rfl rfl (by decide +kernel) ⟨Nat.le_of_ble_eq_true rfl, Nat.le_of_ble_eq_true rfl⟩) ⟨fun a U g mk q => by obtain ⟨q0, q1, qP, qK, qD, qN⟩ := q; exact ⟨q0, q1, qP, va_K.moved (u := U) (U := U.calling g mk a) (Vm.Alike.refl U.vm) qK, qD, kNw.same (u := U) (U := U.calling g mk a) rfl qN⟩, va_recv hK hP (ci := 10) (q0 := 88) rfl (kgw rfl (by omega)), fun U hU hW => ⟨rfl, by rw [hU], by rw [hU]; exact hP, va_K.moved hW.alike hK, hD.weaken (fun _ _ _ _ => trivial), kNw.warm hW hNw⟩⟩ rfl rfl hl.1 rfl (lv_room (Nat.le_of_ble_eq_true rfl)) dX0_run_4 ⟨Nat.zero_le _, Nat.zero_le _⟩) hS (fun q _ h => hFc q h) hFc (fun u9 t H1 locs ht hvm hw hB hz1 hk1 hS => ?_)
    obtain ⟨hP1, hK1, hD1⟩ := hB
    rw [ht] at hP1
    rw [hw] at hP1 hD1
    have hD2 := hD1.weaken (B := A) (fun _ q _ h => hFc q.1 h)
    have hP := hP1
    have hD := hD2
    generalize H1 = H at hP hS ⊢
    refine lv_aload_n hx hb dX0_run_7 rfl (lv_at hl 0 rfl) ?_
    refine va_get (D := (dC, dI)) (ci := 0) (v := .ref (ad (90))) (C := RX0) (T := TX0) (N := 15) hx hb hts hinX0 hown hK hP (87) (kg87 (by omega)) rfl 3 (by decide) (hts (.fieldLink RX0 28 "LikeWords$Grower" "behind" "LLikeWords$Word;") (by decide +kernel)) (fun _ h9 => h9) rfl dX0_run_8 ?_
    have hFc : ∀ q, va_A (kWd cI cJ cZ cR wl ad 106 ((F_w_wipe (x) (88)).2)) H.size q → A q := fun q hq => Or.elim hq (fun ⟨k, e, hk⟩ => hD.2 k (q, e) hk) (fun hk => hA q (Nat.le_trans hS.1 hk))
    refine va_callv (va_runV (b := ad (90)) (As := []) (rest := []) ⟨hx, hb, hml, hown, hts⟩ (c_w_wipe l dC dI ad cI cJ cZ cR 106 wl H.size ((F_w_wipe (x) (88)).2) (90)  hM rfl (by omega) ) (cwV 0 hts gX0_run_X10_wipe rfl rfl rfl (by decide +kernel) ⟨Nat.le_of_ble_eq_true rfl, Nat.le_of_ble_eq_true rfl⟩) ⟨fun a U g mk q => by obtain ⟨q0, q1, qP, qK, qD, qN⟩ := q; exact ⟨q0, q1, qP, va_K.moved (u := U) (U := U.calling g mk a) (Vm.Alike.refl U.vm) qK, qD, kNw.same (u := U) (U := U.calling g mk a) rfl qN⟩, va_recv hK hP (ci := 10) (q0 := 90) rfl (kgw rfl (by omega)), fun U hU hW => ⟨rfl, by rw [hU], by rw [hU]; exact hP, va_K.moved hW.alike hK, hD.weaken (fun _ _ _ _ => trivial), kNw.warm hW hNw⟩⟩ rfl rfl hl.1 rfl (lv_room (Nat.le_of_ble_eq_true rfl)) dX0_run_11 ⟨Nat.zero_le _, Nat.zero_le _⟩) hS (fun q _ h => hFc q h) hFc (fun u9 t H1 locs ht hvm hw hB hz1 hk1 hS => ?_)
    obtain ⟨hP1, hK1, hD1⟩ := hB
    rw [ht] at hP1
    rw [hw] at hP1 hD1
    have hD2 := hD1.weaken (B := A) (fun _ q _ h => hFc q.1 h)
    have hP := hP1
    have hD := hD2
    generalize H1 = H at hP hS ⊢
    refine lv_aload_n hx hb dX0_run_14 rfl (lv_at hl 0 rfl) ?_
    refine lv_iconst (v := iI (0 : Int)) hx hb dX0_run_15 (by decide) ?_
    refine va_put (D := (dC, dI)) (ci := 0) (v := .int (iI ((0 : Int)))) (ty := .int) (C := RX0) (T := TX0) (N := 15) hx hb hts hinX0 tyX0 tyX0_ok nmX0 hown hK hP hD hS (87) (kg87 (by omega)) rfl 12 (by decide) (hts (.fieldLink RX0 68 "LikeWords$Grower" "from" "I") (by decide +kernel)) (fun _ h9 => h9) rfl (by decide +kernel) rfl rfl (Nat.le_of_ble_eq_true rfl) dX0_run_16 (fun H locs hP hD hS => ?_)
    rw [ks87_12] at hP hD
    refine lv_aload_n hx hb dX0_run_19 rfl (lv_at hl 0 rfl) ?_
    refine va_get (D := (dC, dI)) (ci := 0) (v := .ref (ad (94))) (C := RX0) (T := TX0) (N := 15) hx hb hts hinX0 hown hK hP (87) (kg87 (by omega)) rfl 5 (by decide) (hts (.fieldLink RX0 34 "LikeWords$Grower" "places" "[I") (by decide +kernel)) (fun _ h9 => h9) rfl dX0_run_20 ?_
    refine lv_aload_n hx hb dX0_run_23 rfl (lv_at hl 0 rfl) ?_
    refine va_get (D := (dC, dI)) (ci := 0) (v := .int (iI ((0 : Int)))) (C := RX0) (T := TX0) (N := 15) hx hb hts hinX0 hown hK hP (87) (kg87 (by omega)) rfl 12 (by decide) (hts (.fieldLink RX0 68 "LikeWords$Grower" "from" "I") (by decide +kernel)) (fun _ h9 => h9) (congrArg (fun z9 => some (Value.int (iI z9))) (kS_s)) dX0_run_24 ?_
    refine lv_iconst (v := iI (0 : Int)) hx hb dX0_run_27 (by decide) ?_
    refine wi_iast (f := (kS ((F_w_wipe ((F_w_wipe (x) (88)).2) (90)).2) (87) 12 ((0 : Int))).2 (94)) (n := kLen (94)) hx hb hK hP hD hS (94) 0 (kgi kC94 (by omega) rfl) rfl (i := (0 : Int)) (x := (0 : Int)) (by omega) (by show _ < ((61 : Nat) : Int); exact (by omega)) (kLen_lt _) dX0_run_28 (fun H locs hP hD hS => ?_)
    rw [ksi kC94] at hP hD
    refine lv_aload_n hx hb dX0_run_29 rfl (lv_at hl 0 rfl) ?_
    refine lv_iconst (v := iI (0 : Int)) hx hb dX0_run_30 (by decide) ?_
    refine va_put (D := (dC, dI)) (ci := 0) (v := .int (iI ((0 : Int)))) (ty := .int) (C := RX0) (T := TX0) (N := 15) hx hb hts hinX0 tyX0 tyX0_ok nmX0 hown hK hP hD hS (87) (kg87 (by omega)) rfl 13 (by decide) (hts (.fieldLink RX0 72 "LikeWords$Grower" "level" "I") (by decide +kernel)) (fun _ h9 => h9) rfl (by decide +kernel) rfl rfl (Nat.le_of_ble_eq_true rfl) dX0_run_31 (fun H locs hP hD hS => ?_)
    rw [ks87_13] at hP hD
    refine lv_aload_n hx hb dX0_run_34 rfl (lv_at hl 0 rfl) ?_
    refine lv_iconst (v := iI (0 : Int)) hx hb dX0_run_35 (by decide) ?_
    refine lv_aload_n hx hb dX0_run_36 rfl (lv_at hl 0 rfl) ?_
    refine va_get (D := (dC, dI)) (ci := 0) (v := .ref (ad (90))) (C := RX0) (T := TX0) (N := 15) hx hb hts hinX0 hown hK hP (87) (kg87 (by omega)) rfl 3 (by decide) (hts (.fieldLink RX0 28 "LikeWords$Grower" "behind" "LLikeWords$Word;") (by decide +kernel)) (fun _ h9 => h9) rfl dX0_run_37 ?_
    refine lv_aload_n hx hb dX0_run_40 rfl (lv_at hl 1 rfl) ?_
    refine lv_iconst (v := iI (0 : Int)) hx hb dX0_run_41 (by decide) ?_
    have hFc : ∀ q, va_A (kWd cI cJ cZ cR wl ad 106 (kS (kA (kS ((F_w_wipe ((F_w_wipe (x) (88)).2) (90)).2) (87) 12 ((0 : Int))) (94) ((0 : Int)).toNat ((0 : Int))) (87) 13 ((0 : Int)))) H.size q → A q := fun q hq => Or.elim hq (fun ⟨k, e, hk⟩ => hD.2 k (q, e) hk) (fun hk => hA q (Nat.le_trans hS.1 hk))
    refine va_calli (va_runV (b := ad (90)) (As := [.ref (ad (w1)), .int (iI ((0 : Int)))]) (rest := [.int (iI ((0 : Int))), .ref (ad (87))]) ⟨hx, hb, hml, hown, hts⟩ (c_w_drawFrom l dC dI ad cI cJ cZ cR 106 wl H.size (kS (kA (kS ((F_w_wipe ((F_w_wipe (x) (88)).2) (90)).2) (87) 12 ((0 : Int))) (94) ((0 : Int)).toNat ((0 : Int))) (87) 13 ((0 : Int))) (90) (w1) ((0 : Int)) hM rfl (by omega) hw_w1 (by omega) (by omega) ⟨by decide, by decide⟩ (by rw [kS_c (by decide), kA_1, kS_c (by decide)]; show 0 ≤ (kS (kS x 88 1 0) 90 1 0).1 90 1; rw [kS_s]; exact Int.le_refl _) (by rw [kS_c (by decide), kA_1, kS_c (by decide)]; show (kS (kS x 88 1 0) 90 1 0).1 90 1 ≤ _; rw [kS_s]; omega) (by rw [kS_c (by omega), kA_1, kS_c (by omega)]; show 0 ≤ (kS (kS x 88 1 0) 90 1 0).1 w1 1; rw [kS_c (by omega), kS_c (by omega), gl0]; omega) (by rw [kS_c (by omega), kA_1, kS_c (by omega)]; show (kS (kS x 88 1 0) 90 1 0).1 w1 1 ≤ _; rw [kS_c (by omega), kS_c (by omega), gl0, hL1]; omega)) (cwV 2 hts gX0_run_X10_drawFrom rfl rfl rfl (by decide +kernel) ⟨Nat.le_of_ble_eq_true rfl, Nat.le_of_ble_eq_true rfl⟩) ⟨fun a U g mk q => by obtain ⟨q0, q1, qP, qK, qD, qN⟩ := q; exact ⟨q0, q1, qP, va_K.moved (u := U) (U := U.calling g mk a) (Vm.Alike.refl U.vm) qK, qD, kNw.same (u := U) (U := U.calling g mk a) rfl qN⟩, va_recv hK hP (ci := 10) (q0 := 90) rfl (kgw rfl (by omega)), fun U hU hW => ⟨rfl, by rw [hU], by rw [hU]; exact hP, va_K.moved hW.alike hK, hD.weaken (fun _ _ _ _ => trivial), kNw.warm hW hNw⟩⟩ rfl rfl hl.1 rfl (lv_room (Nat.le_of_ble_eq_true rfl)) dX0_run_42 ⟨Nat.zero_le _, Nat.zero_le _⟩) hS (fun q _ h => hFc q h) hFc (fun r9 u9 t H1 locs ht hvm hw hB hz1 hk1 hS => ?_)
    obtain ⟨hP1, hK1, hD1⟩ := hB
    rw [ht] at hP1
    obtain ⟨hw1, hw2⟩ := hw
    rw [hw2] at hP1 hD1
    rw [hw1]
    have hD2 := hD1.weaken (B := A) (fun _ q _ h => hFc q.1 h)
    have hP := hP1
    have hD := hD2
    generalize H1 = H at hP hS ⊢
    have b8 : grR ((F_w_drawFrom (kS (kA (kS ((F_w_wipe ((F_w_wipe (x) (88)).2) (90)).2) (87) 12 ((0 : Int))) (94) ((0 : Int)).toNat ((0 : Int))) (87) 13 ((0 : Int))) (90) (w1) ((0 : Int))).2) := ruB_gr mx hw_w1 hc7 g0 h0 r0 h60
    refine lv_iconst (v := iI (1 : Int)) hx hb dX0_run_45 (by decide) ?_
    have hFc : ∀ q, va_A (kWd cI cJ cZ cR wl ad 106 ((F_w_drawFrom (kS (kA (kS ((F_w_wipe ((F_w_wipe (x) (88)).2) (90)).2) (87) 12 ((0 : Int))) (94) ((0 : Int)).toNat ((0 : Int))) (87) 13 ((0 : Int))) (90) (w1) ((0 : Int))).2)) H.size q → A q := fun q hq => Or.elim hq (fun ⟨k, e, hk⟩ => hD.2 k (q, e) hk) (fun hk => hA q (Nat.le_trans hS.1 hk))
    refine va_callv (va_runV (b := ad (87)) (As := [.int (iI ((0 : Int))), .int (iI ((F_w_drawFrom (kS (kA (kS ((F_w_wipe ((F_w_wipe (x) (88)).2) (90)).2) (87) 12 ((0 : Int))) (94) ((0 : Int)).toNat ((0 : Int))) (87) 13 ((0 : Int))) (90) (w1) ((0 : Int))).1)), .int (iI ((1 : Int)))]) (rest := []) ⟨hx, hb, hml, hown, hts⟩ (c_g_await l dC dI ad cI cJ cZ cR 106 wl H.size ((F_w_drawFrom (kS (kA (kS ((F_w_wipe ((F_w_wipe (x) (88)).2) (90)).2) (87) 12 ((0 : Int))) (94) ((0 : Int)).toNat ((0 : Int))) (87) 13 ((0 : Int))) (90) (w1) ((0 : Int))).2)  ((0 : Int)) ((F_w_drawFrom (kS (kA (kS ((F_w_wipe ((F_w_wipe (x) (88)).2) (90)).2) (87) 12 ((0 : Int))) (94) ((0 : Int)).toNat ((0 : Int))) (87) 13 ((0 : Int))) (90) (w1) ((0 : Int))).1) ((1 : Int)) hM hG b8 (Or.inl rfl) (Or.inr rfl)) (cwV 3 hts gX0_run_X0_await rfl rfl rfl (by decide +kernel) ⟨Nat.le_of_ble_eq_true rfl, Nat.le_of_ble_eq_true rfl⟩) ⟨fun a U g mk q => by obtain ⟨q0, q1, qP, qK, qD, qN⟩ := q; exact ⟨q0, q1, qP, va_K.moved (u := U) (U := U.calling g mk a) (Vm.Alike.refl U.vm) qK, qD, kNw.same (u := U) (U := U.calling g mk a) rfl qN⟩, va_recv hK hP (ci := 0) (q0 := 87) rfl (kg87 (by omega)), fun U hU hW => ⟨rfl, by rw [hU], by rw [hU]; exact hP, va_K.moved hW.alike hK, hD.weaken (fun _ _ _ _ => trivial), kNw.warm hW hNw⟩⟩ rfl rfl hl.1 rfl (lv_room (Nat.le_of_ble_eq_true rfl)) dX0_run_46 ⟨Nat.zero_le _, Nat.zero_le _⟩) hS (fun q _ h => hFc q h) hFc (fun u9 t H1 locs ht hvm hw hB hz1 hk1 hS => ?_)
    obtain ⟨hP1, hK1, hD1⟩ := hB
    rw [ht] at hP1
    rw [hw] at hP1 hD1
    have hD2 := hD1.weaken (B := A) (fun _ q _ h => hFc q.1 h)
    have hP := hP1
    have hD := hD2
    generalize H1 = H at hP hS ⊢
    refine lv_lconst (v := iL 0) hx hb dX0_run_49 (by decide) ?_
    refine lv_lstore_n (lv' := [(2, .long (iL ((0 : Int)))), (0, .ref (ad (87))), (1, .ref (ad (w1)))]) hx hb dX0_run_50 rfl hl (by decide) rfl (fun ls hl => ?_)
    have b9 := ruB_x mx hw_w1 hc7 g0 h0 r0 ok0 h60
    refine W.widen (k := kCw x - kCw ((F_g_await ((F_w_drawFrom (kS (kA (kS ((F_w_wipe ((F_w_wipe (x) (88)).2) (90)).2) (87) 12 ((0 : Int))) (94) ((0 : Int)).toNat ((0 : Int))) (87) 13 ((0 : Int))) (90) (w1) ((0 : Int))).2) ((0 : Int)) ((F_w_drawFrom (kS (kA (kS ((F_w_wipe ((F_w_wipe (x) (88)).2) (90)).2) (87) 12 ((0 : Int))) (94) ((0 : Int)).toNat ((0 : Int))) (87) 13 ((0 : Int))) (90) (w1) ((0 : Int))).1) ((1 : Int))).2)) (n := kSw x - kSw ((F_g_await ((F_w_drawFrom (kS (kA (kS ((F_w_wipe ((F_w_wipe (x) (88)).2) (90)).2) (87) 12 ((0 : Int))) (94) ((0 : Int)).toNat ((0 : Int))) (87) 13 ((0 : Int))) (90) (w1) ((0 : Int))).2) ((0 : Int)) ((F_w_drawFrom (kS (kA (kS ((F_w_wipe ((F_w_wipe (x) (88)).2) (90)).2) (87) 12 ((0 : Int))) (94) ((0 : Int)).toNat ((0 : Int))) (87) 13 ((0 : Int))) (90) (w1) ((0 : Int))).1) ((1 : Int))).2)) (Nat.zero_le _) (Nat.zero_le _) ?_
    exact (L runF).1 ((F_g_await ((F_w_drawFrom (kS (kA (kS ((F_w_wipe ((F_w_wipe (x) (88)).2) (90)).2) (87) 12 ((0 : Int))) (94) ((0 : Int)).toNat ((0 : Int))) (87) 13 ((0 : Int))) (90) (w1) ((0 : Int))).2) ((0 : Int)) ((F_w_drawFrom (kS (kA (kS ((F_w_wipe ((F_w_wipe (x) (88)).2) (90)).2) (87) 12 ((0 : Int))) (94) ((0 : Int)).toNat ((0 : Int))) (87) 13 ((0 : Int))) (90) (w1) ((0 : Int))).1) ((1 : Int))).2) 0 W0 wl ad b9.1 (Int.le_refl _) (by have := mO_b (okL4 mx ok0) h60; omega) (b9.2.trans hwl0) (fun h9 => by have e9 : kWl (ruB x w1) = kWl x := b9.2; have e8 := kn0.1; have e7 : ((F_g_await ((F_w_drawFrom (kS (kA (kS ((F_w_wipe ((F_w_wipe (x) (88)).2) (90)).2) (87) 12 ((0 : Int))) (94) ((0 : Int)).toNat ((0 : Int))) (87) 13 ((0 : Int))) (90) (w1) ((0 : Int))).2) ((0 : Int)) ((F_w_drawFrom (kS (kA (kS ((F_w_wipe ((F_w_wipe (x) (88)).2) (90)).2) (87) 12 ((0 : Int))) (94) ((0 : Int)).toNat ((0 : Int))) (87) 13 ((0 : Int))) (90) (w1) ((0 : Int))).1) ((1 : Int))).2).1 101 9 = x.1 101 9 := ruB_9 hw_w1 hc7 x; rw [e7]; exact h9) (fun _ _ => rfl) (by have := mO_b (okL4 mx ok0) h60; have e : runF = 85070591730234615865843651857942052864 := runF_v; rw [e]; omega) hres _ _ ls hP hD hS (lv_sub hl [1, 2, 0] rfl)
  exact key _ _ hP hS
