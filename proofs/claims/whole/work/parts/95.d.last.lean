-- deps: 30 31 32 33 34 35 36 37 38 39 40 41 42 43 46 70 71 72 73 74 75 76 77 78 79 80 81 82 83 84 85 86 87 88 89 90 91 92 93 94 95.a 95.b 95.c
/-! replaceLast: the end of the part is replaced -/
def rl1 (z : KS) (v : Int) : KS := (F_w_append (kS z 88 1 (z.1 87 12 + v)) 88 92).2
def rl2 (z : KS) (v : Int) : Int × KS := F_a_read (rl1 z v) (z.1 87 12 + v) ((rl1 z v).1 88 1)
def rl3 (z : KS) (v h t : Int) : Int × KS := F_g_open (rl2 z v).2 h t
def rl4 (z : KS) (v h t : Int) : Int × KS := F_a_read (kA (rl3 z v h t).2 94 (z.1 87 12 + v).toNat 0) (z.1 87 12 + v) ((rl3 z v h t).2.1 88 1)
theorem replaceLast_e (z : KS) (v h t : Int) : F_g_replaceLast z v h t = if 0 ≤ (rl2 z v).1 then (if 0 ≤ (rl4 z v h t).1 then (0, (F_g_await (F_w_drawFrom (rl4 z v h t).2 90 88 ((rl4 z v h t).2.1 87 12)).2 0 (F_w_drawFrom (rl4 z v h t).2 90 88 ((rl4 z v h t).2.1 87 12)).1 1).2) else (0, (F_g_await (kS (rl4 z v h t).2 87 12 (z.1 87 12 + v)) 1 v (rl3 z v h t).1).2)) else (0, (rl2 z v).2) := rfl
theorem lst0 {x : KS} (mx : mcX x) : (0 : Int) < x.1 64 7 ∧ lsx (lS x) (nR x) [] (stS x (0 : Int).toNat) := by
  have ml := mx.2.2.2.2.2
  refine ⟨by have := ml.2.2.1; omega, ?_⟩
  rw [show (0 : Int).toNat = 0 from rfl, ml.2.2.2.1]
  exact lsx_nil _ _
theorem knm_part {x : KS} (mx : mcX x) {P Q : List Int} (Ah Bh : List Int) (h : led x P Q) : knm (Ah ++ (Q ++ Bh)) < knm (Ah ++ (P ++ Bh)) := (led_ctx mx Ah Bh h).2
theorem F_g_replaceLast_x {x y z : KS} (mx : mcX x) {wl : Nat} {src Ah P B : List Int} {v : Int} (g : grB x y src Ah P B) (rc : rpC x y z 0 P v) (kn : knR y wl) (id : idX y P) : rpE x wl src (Ah ++ (P ++ B.reverse)) (F_g_replaceLast z v ((kH 2 P.reverse : Nat) : Int) ((kT P.reverse : Nat) : Int)).2 := by
  obtain ⟨gy, i0, a0, T0, l0, eP0, nT0, plT, q, aq, hq, h8, eq⟩ := g
  obtain ⟨gz, lz⟩ := grL_rp rc gy
  have gz0 := gz
  have fz := rc.1
  obtain ⟨_, K, T, V, eKT, ev, okV, lKV, wV, r93⟩ := rc
  have eKT' : P.reverse = K ++ T := eKT
  have lX : led x K.reverse V := lKV
  obtain ⟨sm, w88, w90, fr, ok1, ok2, h60, lv, st, low, ki, gw⟩ := gz
  generalize hY : T.reverse = Y at *
  generalize hX : K.reverse = X at *
  have eP : P = Y ++ X := by
    have := congrArg List.reverse eKT'
    rw [List.reverse_reverse, List.reverse_append, hY, hX] at this
    exact this
  have evY : v = (Y.length : Int) := by rw [ev, ← hY, List.length_reverse]
  have hPl : P.length = Y.length + X.length := by rw [eP, List.length_append]
  have lV := led_len mx lX
  have Xne := led_ne lX
  have Pne : P ≠ [] := by rw [eP]; exact fun e => Xne (List.append_eq_nil_iff.mp e).2
  have okP := (okL_app.mp ok1).2
  have okAh := (okL_app.mp ok1).1
  have okY : okL (nL x) Y := by rw [eP] at okP; exact (okL_app.mp okP).1
  have lPQ : led x P (Y ++ V) := by rw [eP]; exact led_l mx Y lX
  have id0 : ∀ j, j ≤ lvl z → z.2 98 j = 0 := fun j hj => by
    rw [lz] at hj
    rw [fz.2 98 (by decide)]
    by_cases c : j = lvl y
    · rw [c]; exact i0
    · exact id.1 j (by omega)
  have okQ : okL (nL x) (Ah ++ (Y ++ V)) := okL_app.mpr ⟨okAh, okL_app.mpr ⟨okY, okV⟩⟩
  -- the row
  have ek : z.1 87 12 + v = ((Ah.length + Y.length : Nat) : Int) := by rw [fr, evY]; push_cast; rfl
  have w1 : wL (kS z 88 1 (z.1 87 12 + v)) 88 (Ah ++ Y) := by
    refine ⟨by rw [kS_s, ek, List.length_append], ?_⟩
    rw [kS_2]
    have h2 := w88.2
    rw [eP, ← List.append_assoc] at h2
    have := congrArg (List.take (Ah ++ Y).length) h2
    rw [tk_take _ (by simp only [List.length_append]; omega), List.take_left] at this
    exact this
  have wV1 : wL (kS z 88 1 (z.1 87 12 + v)) 92 V := wL_fr (S := [(88, 1)]) (A := []) (km_s (by decide) (km_rf _ _ _)) (by decide) (by decide) wV
  have ap := F_w_append_x (w := 88) (q := 92) rfl rfl (by decide) w1 wV1 (by rw [List.length_append]; show _ ≤ 60; omega)
  have wA : wL (rl1 z v) 88 (Ah ++ (Y ++ V)) := by rw [← List.append_assoc]; exact ap.2
  have f1 : ksame [(88, 1)] [89] z (rl1 z v) := km_tr (km_s (by decide) (km_rf _ _ _)) (F_w_append_fr _ _ _)
  have sm1 : sM x (rl1 z v) := sM_tr sm (sM_of f1 (by unfold sMs; decide) (by unfold sMa; decide))
  have gw1 : grW (rl1 z v) := grW_89 gw (fun q hq => f1.2 q (by rw [List.mem_singleton]; exact hq)) (F_w_append_r (w := 88) (q := 92) (by decide) gw.1 gw.2.2.1)
  have hlQ : (Ah ++ (Y ++ V)).length = Ah.length + (Y ++ V).length := List.length_append
  have hlV : (Y ++ V).length = Y.length + V.length := List.length_append
  -- what is read first
  have e94 : (rl1 z v).2 94 = y.2 94 := by rw [f1.2 94 (by decide), fz.2 94 (by decide)]
  obtain ⟨X', lx, eX⟩ := snoc_of X Xne
  have eT0 : T0 = Y ++ X' := by
    have : T0 ++ [l0] = (Y ++ X') ++ [lx] := by rw [← eP0, eP, eX, List.append_assoc]
    exact (List.append_inj' this rfl).1
  have nY : noL (lS x) (nR x) Y := by rw [eT0] at nT0; exact noL_part (a := []) nT0
  have eu88 : (rl1 z v).1 88 1 = ((Ah.length + (Y ++ V).length : Nat) : Int) := by rw [wA.1, hlQ]
  have rd := F_a_read_x (f := Ah.length) (g := Ah.length + (Y ++ V).length) (A := Y) (Z := V) mx okQ sm1 wA (by rw [hlQ, hlV]; omega) List.drop_left (by rw [hlQ]; omega) nY (fun j hj => by
    have := plT j (by rw [eT0, List.length_append]; omega)
    rw [e94]
    unfold plQ at this ⊢
    rw [List.take_append_of_le_length hj]
    rw [eP, List.take_append_of_le_length hj] at this
    exact this) (old_end mx _ _ _ _) (by omega)
  have e2 : rl2 z v = F_a_read (rl1 z v) ((Ah.length + Y.length : Nat) : Int) ((Ah.length + (Y ++ V).length : Nat) : Int) := by unfold rl2; rw [ek, eu88]
  have f2 : ksame [(64, 8)] [94] (rl1 z v) (rl2 z v).2 := F_a_read_fr _ _ _
  have gw2 : grW (rl2 z v).2 := grW_read mx sm1 gw1
  rw [← e2] at rd
  have fz2 : ksame [(88, 1), (64, 8)] [89, 94] z (rl2 z v).2 := km_tr (km_mono (by decide) (by decide) f1) (km_mono (by decide) (by decide) f2)
  have sm2 : sM x (rl2 z v).2 := sM_tr sm (sM_of fz2 (by unfold sMs; decide) (by unfold sMa; decide))
  have wA2 : wL (rl2 z v).2 88 (Ah ++ (Y ++ V)) := wL_fr f2 (by decide) (by decide) wA
  have wB2 : wL (rl2 z v).2 90 B := wL_fr fz2 (by decide) (by decide) w90
  have l2 : lvl (rl2 z v).2 = lvl z := lvl_fr fz2 (by decide)
  have kn2 : knR (rl2 z v).2 wl := knR_of fz2 (by decide) (by decide) (by decide) (by decide) (by decide) (knR_of fz (by decide) (by decide) (by decide) (by decide) (by decide) kn)
  have ki2 : knI x (rl2 z v).2 := knI_of fz2 (by decide) (by decide) (by decide) (by decide) (by decide) ki
  have st2 : stk x (rl2 z v).2 src (lvl (rl2 z v).2) Ah P B.reverse := by rw [l2]; exact stk_cg _ _ _ _ (fun j _ => lvS_of fz2 (by decide) j) st
  have id2 : ∀ j, j ≤ lvl (rl2 z v).2 → (rl2 z v).2.2 98 j = 0 := by rw [l2, fz2.2 98 (by decide)]; exact id0
  have low2 : ∀ j, 1 ≤ j → j < lvl (rl2 z v).2 → 1 ≤ (rl2 z v).2.2 97 j ∧ (rl2 z v).2.2 98 j = 0 := by rw [l2, fz2.2 97 (by decide), fz2.2 98 (by decide)]; exact low
  rw [replaceLast_e]
  rcases rd with ⟨k1, k2, k3⟩ | ⟨j, k1, k2, k3, k4, k5, k6, qq, qa, k7, k8, k9⟩
  · -- no LEFT side: the part is as it is
    rw [k1, if_neg (by decide)]
    show rpE x wl src _ (rl2 z v).2
    refine ⟨Ah, Y ++ V, B, ⟨⟨sm2, wA2, wB2, by rw [fz2.1 87 12 (by decide)]; exact fr, okQ, ok2, by rw [hlV]; omega, by rw [fz2.1 87 13 (by decide)]; exact lv, ?_, low2, ki2, gw2⟩, k2, k3⟩, kn2, ⟨fun j hj => id2 j (by omega), by rw [id2 _ (Nat.le_refl _)]; omega⟩, knm_part mx _ _ lPQ⟩
    exact stk_mono mx _ Ah P (Y ++ V) B.reverse lPQ.1 (fun j _ hj => id2 j hj) st2
  · rw [if_pos (by rw [k1]; omega)]
    have hh : iRL ((kH 2 P.reverse : Nat) : Int) := iRL_n (kH_b (okL4 mx (fun l hl => okP l (List.mem_reverse.mp hl))) (by decide))
    have ht : iRL ((kT P.reverse : Nat) : Int) := iRL_n (Nat.lt_of_lt_of_le (kT_b (okL4 mx (fun l hl => okP l (List.mem_reverse.mp hl))) (by rw [List.length_reverse]; omega)) (by decide))
    have lv2 : 0 ≤ (rl2 z v).2.1 87 13 ∧ (rl2 z v).2.1 87 13 ≤ 61 := by rw [fz2.1 87 13 (by decide)]; exact lv
    have w97z : (rl2 z v).2.2 97 (lvl (rl2 z v).2) = z.2 97 (lvl z) := by rw [l2, fz2.2 97 (by decide)]
    have op := F_g_open_x (y := (rl2 z v).2) (h := ((kH 2 P.reverse : Nat) : Int)) (t := ((kT P.reverse : Nat) : Int)) lv2.1 (fun hc => by
      rw [fz2.1 87 13 (by decide)]
      rw [w97z, l2] at hc
      exact lvl_60 gz0 Pne hc)
    have f3 : ksame [(87, 13)] [95, 96] (rl2 z v).2 (rl3 z v ((kH 2 P.reverse : Nat) : Int) ((kT P.reverse : Nat) : Int)).2 := F_g_open_fr _ _ _
    have gw3 : grW (rl3 z v ((kH 2 P.reverse : Nat) : Int) ((kT P.reverse : Nat) : Int)).2 := grW_open gw2 hh ht
    have e3 : rl3 z v ((kH 2 P.reverse : Nat) : Int) ((kT P.reverse : Nat) : Int) = F_g_open (rl2 z v).2 ((kH 2 P.reverse : Nat) : Int) ((kT P.reverse : Nat) : Int) := rfl
    rw [← e3] at op
    have e4 : rl4 z v ((kH 2 P.reverse : Nat) : Int) ((kT P.reverse : Nat) : Int) = F_a_read (kA (rl3 z v ((kH 2 P.reverse : Nat) : Int) ((kT P.reverse : Nat) : Int)).2 94 (Ah.length + Y.length) 0) ((Ah.length + Y.length : Nat) : Int) ((rl3 z v ((kH 2 P.reverse : Nat) : Int) ((kT P.reverse : Nat) : Int)).2.1 88 1) := by unfold rl4; rw [ek, Int.toNat_natCast]
    generalize rl3 z v ((kH 2 P.reverse : Nat) : Int) ((kT P.reverse : Nat) : Int) = O at op f3 gw3 e3 e4
    generalize rl4 z v ((kH 2 P.reverse : Nat) : Int) ((kT P.reverse : Nat) : Int) = R4 at e4
    have lvo : 0 ≤ O.2.1 87 13 ∧ O.2.1 87 13 ≤ 61 := by
      rcases op.1 with ⟨o0, hc, _⟩ | ⟨o1, _⟩
      · have h60' : (rl2 z v).2.1 87 13 ≤ 60 := by
          rw [fz2.1 87 13 (by decide)]
          rw [w97z, l2] at hc
          exact lvl_60 gz0 Pne hc
        rw [op.2.1 o0]
        omega
      · rw [op.2.2 o1]; exact lv2
    have f3a : ksame [(87, 13)] [95, 96, 94] (rl2 z v).2 (kA O.2 94 (Ah.length + Y.length) 0) := km_a (by decide) (km_mono (by decide) (by decide) f3)
    have sm3 : sM x (kA O.2 94 (Ah.length + Y.length) 0) := sM_tr sm2 (sM_of f3a (by unfold sMs; decide) (by unfold sMa; decide))
    have wA3 : wL (kA O.2 94 (Ah.length + Y.length) 0) 88 (Ah ++ (Y ++ V)) := wL_fr f3a (by decide) (by decide) wA2
    have wB3 : wL (kA O.2 94 (Ah.length + Y.length) 0) 90 B := wL_fr f3a (by decide) (by decide) wB2
    have eO88 : O.2.1 88 1 = (((Ah ++ Y).length + ([] ++ V).length : Nat) : Int) := by rw [f3.1 88 1 (by decide), wA2.1, hlQ, hlV, List.nil_append, List.length_append]; push_cast; omega
    rw [eO88] at e4
    have eAY : (Ah ++ Y).length = Ah.length + Y.length := List.length_append
    have l00 := lst0 mx
    have rd4 := F_a_read_x (f := (Ah ++ Y).length) (g := (Ah ++ Y).length + ([] ++ V).length) (A := []) (Z := V) mx okQ sm3 wA3 (by rw [hlQ, hlV]; omega) (by rw [← List.append_assoc, List.drop_left]; rfl) (by rw [hlQ, hlV, eAY]; omega) (noL_nil mx) (fun j hj => by
      have ej : j = 0 := by simpa using hj
      subst ej
      unfold plQ
      rw [kA_s, eAY, Nat.add_zero, iU_s, List.take_zero]
      exact ⟨⟨Int.le_refl _, l00.1⟩, l00.2⟩) (old_end mx _ _ _ _) (by omega)
    have e4' : R4 = F_a_read (kA O.2 94 (Ah.length + Y.length) 0) (((Ah ++ Y).length + ([] : List Int).length : Nat) : Int) (((Ah ++ Y).length + ([] ++ V).length : Nat) : Int) := by rw [e4, eAY]; rfl
    rw [← e4'] at rd4
    have f4 : ksame [(64, 8)] [94] (kA O.2 94 (Ah.length + Y.length) 0) R4.2 := by rw [e4']; exact F_a_read_fr _ _ _
    have lo4 : ∀ p : Nat, p ≤ Ah.length + Y.length → R4.2.2 94 p = (kA O.2 94 (Ah.length + Y.length) 0).2 94 p := fun p hp => by rw [e4']; exact F_a_read_lo (by rw [eAY]; push_cast; omega)
    have gw4 : grW R4.2 := by rw [e4']; exact grW_read mx sm3 (grW_94 gw3 (by decide) (by decide))
    have f34 : ksame [(87, 13), (64, 8)] [95, 96, 94] (rl2 z v).2 R4.2 := km_tr (km_mono (by decide) (by decide) f3a) (km_mono (by decide) (by decide) f4)
    have fO4 : ksame [(64, 8)] [94] O.2 R4.2 := km_tr (km_a (by decide) (km_rf _ _ _)) f4
    have sm4 : sM x R4.2 := sM_tr sm2 (sM_of f34 (by unfold sMs; decide) (by unfold sMa; decide))
    have wA4 : wL R4.2 88 (Ah ++ (Y ++ V)) := wL_fr f34 (by decide) (by decide) wA2
    have wB4 : wL R4.2 90 B := wL_fr f34 (by decide) (by decide) wB2
    have kn4 : knR R4.2 wl := knR_of f34 (by decide) (by decide) (by decide) (by decide) (by decide) kn2
    have ki4 : knI x R4.2 := knI_of f34 (by decide) (by decide) (by decide) (by decide) (by decide) ki2
    have e12 : R4.2.1 87 12 = (Ah.length : Int) := by rw [f34.1 87 12 (by decide), fz2.1 87 12 (by decide), fr]
    have hKP : ori 2 P.reverse = P := by unfold ori; rw [if_neg (by decide), List.reverse_reverse]
    have okR : okL (nL x) P.reverse := fun l hl => okP l (List.mem_reverse.mp hl)
    have o01 : O.1 = 0 ∨ O.1 = 1 := by
      rcases op.1 with ⟨o, _⟩ | ⟨o, _⟩
      · exact Or.inl o
      · exact Or.inr o
    have fO97 := f3.2 97 (by decide)
    have fO98 := f3.2 98 (by decide)
    have fO99 := f3.2 99 (by decide)
    have fO100 := f3.2 100 (by decide)
    rcases rd4 with ⟨m1, m2, m3⟩ | ⟨j4, m1, m2, m3, m4, m5, m6, m7⟩
    · -- the end of the part stands, LETTERS ahead of it wait
      rw [if_neg (by rw [m1]; decide), ek]
      have n := lvN_of (S := [(64, 8), (87, 12)]) (A := [94]) (a := 1) (m := v) (w := O.1) op.1 fO97 fO98 fO99 fO100 (u := kS R4.2 87 12 ((Ah.length + Y.length : Nat) : Int)) (km_s (by decide) (km_mono (by decide) (by decide) fO4)) (by decide) (by decide)
      have sn := (stk_new (C := V) (Wt := Y) mx gw2 st2 id2 lPQ (Or.inr rfl) okR (by rw [List.length_reverse]; omega) hKP n evY (by
        rcases o01 with o | o
        · exact Or.inr ⟨o, o, Or.inr ⟨rfl, rfl, X, by rw [List.reverse_reverse]; exact eP, lX⟩⟩
        · exact Or.inl o)).2 rfl rfl
      have ll := lvN_low n low2 id2
      have fw := F_g_await_fr (kS R4.2 87 12 ((Ah.length + Y.length : Nat) : Int)) 1 v O.1
      have gwz := grW_await (a := 1) (m := v) (w := O.1) (grW_of (S := [(87, 12)]) (A := []) (z := kS R4.2 87 12 ((Ah.length + Y.length : Nat) : Int)) (km_s (by decide) (km_rf _ _ _)) (by decide) gw4) (Or.inr rfl) o01 (by omega) (by omega)
      have z13 : (F_g_await (kS R4.2 87 12 ((Ah.length + Y.length : Nat) : Int)) 1 v O.1).2.1 87 13 = O.2.1 87 13 := by rw [fw.1 87 13 (by decide), kS_k (by decide), fO4.1 87 13 (by decide)]
      have z12 : (F_g_await (kS R4.2 87 12 ((Ah.length + Y.length : Nat) : Int)) 1 v O.1).2.1 87 12 = ((Ah.length + Y.length : Nat) : Int) := by rw [fw.1 87 12 (by decide), kS_s]
      have fR : ksame [(87, 12)] [99, 97, 100, 98] R4.2 (F_g_await (kS R4.2 87 12 ((Ah.length + Y.length : Nat) : Int)) 1 v O.1).2 := km_tr (km_s (by decide) (km_rf _ _ _)) (km_mono (by decide) (by decide) fw)
      generalize (F_g_await (kS R4.2 87 12 ((Ah.length + Y.length : Nat) : Int)) 1 v O.1).2 = Zz at n sn ll fw gwz z13 z12 fR
      refine ⟨Ah ++ Y, V, B, ⟨⟨sM_tr sm4 (sM_of fR (by unfold sMs; decide) (by unfold sMa; decide)), ?_, wL_fr fR (by decide) (by decide) wB4, by rw [z12, eAY], by rw [List.append_assoc]; exact okQ, ok2, by rw [eAY]; omega, by rw [z13]; exact lvo, sn, ll.1, knI_of fR (by decide) (by decide) (by decide) (by decide) (by decide) ki4, gwz⟩, by rw [List.nil_append] at m2; exact m2, fun j hj => ?_⟩, knR_of fR (by decide) (by decide) (by decide) (by decide) (by decide) kn4, ⟨fun j hj => ll.2 j (by omega), by rw [ll.2 _ (Nat.le_refl _)]; omega⟩, ?_⟩
      · rw [List.append_assoc]; exact wL_fr fR (by decide) (by decide) wA4
      · rw [fR.2 94 (by decide)]
        exact m3 j hj
      · have := knm_part mx Ah B.reverse lPQ
        rw [List.append_assoc Y] at this
        rw [List.append_assoc]
        exact this
    · -- all of it comes back LETTER by LETTER
      rw [if_pos (by rw [m1]; omega), e12]
      have dr := F_w_drawFrom_x (x := R4.2) (w := 90) (q := 88) (P := B) (Q := Ah) (T := Y ++ V) rfl rfl (by decide) wB4 wA4 (by rw [hlV]; show _ ≤ 60; omega)
      have fd := F_w_drawFrom_fr R4.2 90 88 (Ah.length : Int)
      have gwd : grW (F_w_drawFrom R4.2 90 88 (Ah.length : Int)).2 := by
        have r91 := F_w_drawFrom_r (y := R4.2) (w := 90) (q := 88) (f := (Ah.length : Int)) (by decide) gw4.2.1 gw4.1
        unfold grW
        rw [fd.2 89 (by decide), fd.2 93 (by decide), fd.2 94 (by decide), fd.2 95 (by decide), fd.2 96 (by decide), fd.2 97 (by decide), fd.2 98 (by decide), fd.2 99 (by decide), fd.2 100 (by decide)]
        exact ⟨gw4.1, r91, gw4.2.2⟩
      rw [dr.1]
      have n := lvN_of (S := [(64, 8), (88, 1), (90, 1)]) (A := [94, 91]) (a := 0) (m := ((Y ++ V).length : Int)) (w := 1) op.1 fO97 fO98 fO99 fO100 (u := (F_w_drawFrom R4.2 90 88 (Ah.length : Int)).2) (km_tr (km_mono (by decide) (by decide) fO4) (km_mono (by decide) (by decide) fd)) (by decide) (by decide)
      have sn := (stk_new (C := []) (Wt := Y ++ V) mx gw2 st2 id2 lPQ (Or.inr rfl) okR (by rw [List.length_reverse]; omega) hKP n rfl (Or.inl rfl)).1 rfl rfl
      have ll := lvN_low n low2 id2
      have fw := F_g_await_fr (F_w_drawFrom R4.2 90 88 (Ah.length : Int)).2 0 ((Y ++ V).length : Int) 1
      have gwz := grW_await (a := 0) (m := ((Y ++ V).length : Int)) (w := 1) gwd (Or.inl rfl) (Or.inr rfl) (by omega) (by rw [hlV]; omega)
      have fR : ksame [(88, 1), (90, 1)] [91, 99, 97, 100, 98] R4.2 (F_g_await (F_w_drawFrom R4.2 90 88 (Ah.length : Int)).2 0 ((Y ++ V).length : Int) 1).2 := km_tr (km_mono (by decide) (by decide) fd) (km_mono (by decide) (by decide) fw)
      have z13 : (F_g_await (F_w_drawFrom R4.2 90 88 (Ah.length : Int)).2 0 ((Y ++ V).length : Int) 1).2.1 87 13 = O.2.1 87 13 := by rw [fR.1 87 13 (by decide), fO4.1 87 13 (by decide)]
      have wZ8 : wL (F_g_await (F_w_drawFrom R4.2 90 88 (Ah.length : Int)).2 0 ((Y ++ V).length : Int) 1).2 88 Ah := wL_fr fw (by decide) (by decide) dr.2.2
      have wZ9 : wL (F_g_await (F_w_drawFrom R4.2 90 88 (Ah.length : Int)).2 0 ((Y ++ V).length : Int) 1).2 90 (B ++ (Y ++ V).reverse) := wL_fr fw (by decide) (by decide) dr.2.1
      generalize (F_g_await (F_w_drawFrom R4.2 90 88 (Ah.length : Int)).2 0 ((Y ++ V).length : Int) 1).2 = Zz at n sn ll fw gwz z13 fR wZ8 wZ9
      have eB : (B ++ (Y ++ V).reverse).reverse = (Y ++ V) ++ B.reverse := by rw [List.reverse_append, List.reverse_reverse]
      refine ⟨Ah, [], B ++ (Y ++ V).reverse, ⟨⟨sM_tr sm4 (sM_of fR (by unfold sMs; decide) (by unfold sMa; decide)), by rw [List.append_nil]; exact wZ8, wZ9, by rw [fR.1 87 12 (by decide), e12], by rw [List.append_nil]; exact okAh, okL_app.mpr ⟨ok2, fun l hl => (okL_app.mpr ⟨okY, okV⟩) l (List.mem_reverse.mp hl)⟩, by rw [List.length_append, List.length_reverse, hlV]; simp; omega, by rw [z13]; exact lvo, by rw [eB]; exact sn, ll.1, knI_of fR (by decide) (by decide) (by decide) (by decide) (by decide) ki4, gwz⟩, noL_nil mx, fun j hj => ?_⟩, knR_of fR (by decide) (by decide) (by decide) (by decide) (by decide) kn4, ⟨fun j hj => ll.2 j (by omega), by rw [ll.2 _ (Nat.le_refl _)]; omega⟩, ?_⟩
      · have ej : j = 0 := by simpa using hj
        subst ej
        unfold plQ
        rw [fR.2 94 (by decide), Nat.add_zero, lo4 _ (by omega), kA_s, List.take_zero]
        by_cases c : Y.length = 0
        · rw [c, Nat.add_zero, iU_s]
          exact ⟨⟨Int.le_refl _, l00.1⟩, l00.2⟩
        · rw [iU_n (by omega), f3.2 94 (by decide)]
          have := k5 0 (Nat.zero_le _)
          unfold plQ at this
          rw [Nat.add_zero, List.take_zero] at this
          exact this
      · rw [eB, List.nil_append]
        exact knm_part mx Ah B.reverse lPQ
