-- deps: 30 31 32 33 34 35 36 37 38 39 40 41 42 43 46 70 71 72 73 74 75 76 77 78 79 80 81 82 83 84 85 86 87 88 89 90 91 92 93 94 95.a 95.b 95.c 95.d 95.e
/-! replaceFirst: the beginning of the part is replaced -/
theorem F_g_replaceFirst_x {x y z : KS} (mx : mcX x) {wl : Nat} {src Ah P B : List Int} {v : Int} (g : grA x y src Ah P B) (rc : rpC x y z 1 P v) (kn : knR y wl) (id : idX y P) : rpE x wl src (Ah ++ (P ++ B.reverse)) (F_g_replaceFirst z v ((kH 1 P : Nat) : Int) ((kT P : Nat) : Int)).2 := by
  obtain ⟨gy, i0, a0, T0, l0, eP0, nT0, pl0, q, bq, hq, h8, eq, plT⟩ := g
  obtain ⟨gz, lz⟩ := grL_rp rc gy
  have fz := rc.1
  obtain ⟨_, X, Y, V, eKT, ev, okV, lKV, wV, r93, hXq⟩ := rc
  have eP : P = X ++ Y := eKT
  have lX : led x X V := lKV
  have hqX := hXq q h8
  have lV := led_len mx lX
  rw [eP] at gz
  obtain ⟨wA, f2, pLo, pHi, eA12, eSame, gw2⟩ := rf2_x gz wV lV
  rw [← eP] at gz
  have gz0 := gz
  obtain ⟨sm, w88, w90, fr, ok1, ok2, h60, lv, st, low, ki, gw⟩ := gz
  have hPl : P.length = X.length + Y.length := by rw [eP, List.length_append]
  have Xne := led_ne lX
  have Pne : P ≠ [] := by rw [eP]; exact fun e => Xne (List.append_eq_nil_iff.mp e).1
  have okP := (okL_app.mp ok1).2
  have okAh := (okL_app.mp ok1).1
  have okY : okL (nL x) Y := by rw [eP] at okP; exact (okL_app.mp okP).2
  have lPQ : led x P (V ++ Y) := by rw [eP]; exact led_r mx Y lX
  have id0 : ∀ j, j ≤ lvl z → z.2 98 j = 0 := fun j hj => by
    rw [lz] at hj
    rw [fz.2 98 (by decide)]
    by_cases c : j = lvl y
    · rw [c]; exact i0
    · exact id.1 j (by omega)
  have okQ : okL (nL x) (Ah ++ (V ++ Y)) := okL_app.mpr ⟨okAh, okL_app.mpr ⟨okV, okY⟩⟩
  have hlQ : (Ah ++ (V ++ Y)).length = Ah.length + (V ++ Y).length := List.length_append
  have hlV : (V ++ Y).length = V.length + Y.length := List.length_append
  subst ev
  have sm2 : sM x (rf2 z (Y.length : Int)) := sM_tr sm (sM_of f2 (by unfold sMs; decide) (by unfold sMa; decide))
  have e94z : z.2 94 = y.2 94 := fz.2 94 (by decide)
  obtain ⟨c0, X', eX⟩ : ∃ c X', X = c :: X' := by
    cases X with
    | nil => exact absurd rfl Xne
    | cons c X' => exact ⟨c, X', rfl⟩
  have eT0 : T0 = X' ++ Y := by
    have : l0 :: T0 = c0 :: (X' ++ Y) := by rw [← eP0, eP, eX]; rfl
    exact (List.cons.inj this).2
  have hX1 : X.length = X'.length + 1 := by rw [eX, List.length_cons]
  -- what was there before
  have oo : old x ((rf2 z (Y.length : Int)).2 94) Ah.length (Ah.length + V.length) ([] : List Int).length ([] ++ (V ++ Y)) := by
    rw [List.nil_append]
    refine ⟨X', V.length, by omega, by rw [List.drop_left, ← eT0]; exact nT0, fun j h1 _ h3 => ?_⟩
    obtain ⟨i, rfl⟩ : ∃ i, j = V.length + i := ⟨j - V.length, by omega⟩
    rw [hlV] at h3
    have hp := pHi i (by omega)
    rw [show Ah.length + V.length + (i + 1) = Ah.length + (V.length + i + 1) by omega] at hp
    rw [hp, e94z, List.drop_left, show V.length + i + 1 - V.length = i + 1 by omega]
    have hT0l : T0.length = X'.length + Y.length := by rw [eT0, List.length_append]
    have := plT (X.length + i) (by omega) (by omega)
    rw [show Ah.length + (X.length + i + 1) = Ah.length + X.length + (i + 1) by omega, eT0, List.take_append, List.take_of_length_le (by omega), show X.length + i - X'.length = i + 1 by omega] at this
    exact this
  have rd := F_a_read_x (f := Ah.length) (g := Ah.length + V.length) (A := []) (Z := V ++ Y) mx okQ sm2 wA (by rw [hlQ, hlV]; omega) List.drop_left (by rw [hlQ]; omega) (noL_nil mx) (fun j hj => by
    have ej : j = 0 := by simpa using hj
    subst ej
    unfold plQ at pl0 ⊢
    rw [Nat.add_zero] at pl0 ⊢
    rw [pLo Ah.length (by omega), e94z]
    rw [List.take_zero] at pl0 ⊢
    exact pl0) oo (by omega)
  rw [List.nil_append] at rd
  have e3 : rf3 z (Y.length : Int) = F_a_read (rf2 z (Y.length : Int)) ((Ah.length + ([] : List Int).length : Nat) : Int) ((Ah.length + V.length : Nat) : Int) := by unfold rf3; rw [eA12, eSame]; rfl
  rw [← e3] at rd
  have f3 : ksame [(64, 8)] [94] (rf2 z (Y.length : Int)) (rf3 z (Y.length : Int)).2 := F_a_read_fr _ _ _
  have gw3 : grW (rf3 z (Y.length : Int)).2 := grW_read mx sm2 gw2
  have fz3 : ksame [(88, 1), (64, 8)] [89, 94] z (rf3 z (Y.length : Int)).2 := km_tr (km_mono (by decide) (by decide) f2) (km_mono (by decide) (by decide) f3)
  have sm3 : sM x (rf3 z (Y.length : Int)).2 := sM_tr sm (sM_of fz3 (by unfold sMs; decide) (by unfold sMa; decide))
  have wA3 : wL (rf3 z (Y.length : Int)).2 88 (Ah ++ (V ++ Y)) := wL_fr f3 (by decide) (by decide) wA
  have wB3 : wL (rf3 z (Y.length : Int)).2 90 B := wL_fr fz3 (by decide) (by decide) w90
  have l3 : lvl (rf3 z (Y.length : Int)).2 = lvl z := lvl_fr fz3 (by decide)
  have kn3 : knR (rf3 z (Y.length : Int)).2 wl := knR_of fz3 (by decide) (by decide) (by decide) (by decide) (by decide) (knR_of fz (by decide) (by decide) (by decide) (by decide) (by decide) kn)
  have ki3 : knI x (rf3 z (Y.length : Int)).2 := knI_of fz3 (by decide) (by decide) (by decide) (by decide) (by decide) ki
  have st3 : stk x (rf3 z (Y.length : Int)).2 src (lvl (rf3 z (Y.length : Int)).2) Ah P B.reverse := by rw [l3]; exact stk_cg _ _ _ _ (fun j _ => lvS_of fz3 (by decide) j) st
  have id3 : ∀ j, j ≤ lvl (rf3 z (Y.length : Int)).2 → (rf3 z (Y.length : Int)).2.2 98 j = 0 := by rw [l3, fz3.2 98 (by decide)]; exact id0
  have low3 : ∀ j, 1 ≤ j → j < lvl (rf3 z (Y.length : Int)).2 → 1 ≤ (rf3 z (Y.length : Int)).2.2 97 j ∧ (rf3 z (Y.length : Int)).2.2 98 j = 0 := by rw [l3, fz3.2 97 (by decide), fz3.2 98 (by decide)]; exact low
  have e12 : (rf3 z (Y.length : Int)).2.1 87 12 = (Ah.length : Int) := by rw [fz3.1 87 12 (by decide)]; exact fr
  rw [replaceFirst_e]
  rcases rd with ⟨k1, k2, k3⟩ | ⟨j, k1, k2, k3, k4, k5, k6, qq, qa, k7, k8, k9⟩
  · rw [k1, if_neg (by decide)]
    show rpE x wl src _ (rf3 z (Y.length : Int)).2
    refine ⟨Ah, V ++ Y, B, ⟨⟨sm3, wA3, wB3, e12, okQ, ok2, by rw [hlV]; omega, by rw [fz3.1 87 13 (by decide)]; exact lv, ?_, low3, ki3, gw3⟩, k2, k3⟩, kn3, ⟨fun j hj => id3 j (by omega), by rw [id3 _ (Nat.le_refl _)]; omega⟩, knm_part mx _ _ lPQ⟩
    exact stk_mono mx _ Ah P (V ++ Y) B.reverse lPQ.1 (fun j _ hj => id3 j hj) st3
  · rw [if_pos (by rw [k1]; omega)]
    have hh : iRL ((kH 1 P : Nat) : Int) := iRL_n (kH_b (okL4 mx okP) (by decide))
    have ht : iRL ((kT P : Nat) : Int) := iRL_n (Nat.lt_of_lt_of_le (kT_b (okL4 mx okP) (by omega)) (by decide))
    have lv3 : 0 ≤ (rf3 z (Y.length : Int)).2.1 87 13 ∧ (rf3 z (Y.length : Int)).2.1 87 13 ≤ 61 := by rw [fz3.1 87 13 (by decide)]; exact lv
    have w97z : (rf3 z (Y.length : Int)).2.2 97 (lvl (rf3 z (Y.length : Int)).2) = z.2 97 (lvl z) := by rw [l3, fz3.2 97 (by decide)]
    have op := F_g_open_x (y := (rf3 z (Y.length : Int)).2) (h := ((kH 1 P : Nat) : Int)) (t := ((kT P : Nat) : Int)) lv3.1 (fun hc => by
      rw [fz3.1 87 13 (by decide)]
      rw [w97z, l3] at hc
      exact lvl_60 gz0 Pne hc)
    have f4 : ksame [(87, 13)] [95, 96] (rf3 z (Y.length : Int)).2 (rf4 z (Y.length : Int) ((kH 1 P : Nat) : Int) ((kT P : Nat) : Int)).2 := F_g_open_fr _ _ _
    have gw4 : grW (rf4 z (Y.length : Int) ((kH 1 P : Nat) : Int) ((kT P : Nat) : Int)).2 := grW_open gw3 hh ht
    have e4 : rf4 z (Y.length : Int) ((kH 1 P : Nat) : Int) ((kT P : Nat) : Int) = F_g_open (rf3 z (Y.length : Int)).2 ((kH 1 P : Nat) : Int) ((kT P : Nat) : Int) := rfl
    rw [← e4] at op
    generalize rf4 z (Y.length : Int) ((kH 1 P : Nat) : Int) ((kT P : Nat) : Int) = O at op f4 gw4 e4
    have lvo : 0 ≤ O.2.1 87 13 ∧ O.2.1 87 13 ≤ 61 := by
      rcases op.1 with ⟨o0, hc, _⟩ | ⟨o1, _⟩
      · have h60' : (rf3 z (Y.length : Int)).2.1 87 13 ≤ 60 := by
          rw [fz3.1 87 13 (by decide)]
          rw [w97z, l3] at hc
          exact lvl_60 gz0 Pne hc
        rw [op.2.1 o0]
        omega
      · rw [op.2.2 o1]; exact lv3
    have sm4 : sM x O.2 := sM_tr sm3 (sM_of f4 (by unfold sMs; decide) (by unfold sMa; decide))
    have wA4 : wL O.2 88 (Ah ++ (V ++ Y)) := wL_fr f4 (by decide) (by decide) wA3
    have wB4 : wL O.2 90 B := wL_fr f4 (by decide) (by decide) wB3
    have kn4 : knR O.2 wl := knR_of f4 (by decide) (by decide) (by decide) (by decide) (by decide) kn3
    have ki4 : knI x O.2 := knI_of f4 (by decide) (by decide) (by decide) (by decide) (by decide) ki3
    have e12' : O.2.1 87 12 = (Ah.length : Int) := by rw [f4.1 87 12 (by decide), e12]
    have hKP : ori 1 P = P := by unfold ori; rw [if_pos rfl]
    have o01 : O.1 = 0 ∨ O.1 = 1 := by
      rcases op.1 with ⟨o, _⟩ | ⟨o, _⟩
      · exact Or.inl o
      · exact Or.inr o
    have oW : rfW O.1 = O.1 := by
      unfold rfW
      rcases o01 with o | o
      · rw [if_pos o, o]
      · rw [if_neg (by rw [o]; decide), o]
    have fO97 := f4.2 97 (by decide)
    have fO98 := f4.2 98 (by decide)
    have fO99 := f4.2 99 (by decide)
    have fO100 := f4.2 100 (by decide)
    rw [eSame, k1, oW]
    by_cases c : ((Ah.length + V.length : Nat) : Int) ≤ ((Ah.length + j : Nat) : Int)
    · -- what replaced it stands, the LETTERS behind it wait
      rw [if_pos c]
      have dr := F_w_drawFrom_x (x := O.2) (w := 90) (q := 88) (P := B) (Q := Ah ++ V) (T := Y) rfl rfl (by decide) wB4 (by rw [List.append_assoc]; exact wA4) (by show _ ≤ 60; omega)
      rw [show ((Ah ++ V).length : Int) = ((Ah.length + V.length : Nat) : Int) by rw [List.length_append]] at dr
      have fd := F_w_drawFrom_fr O.2 90 88 ((Ah.length + V.length : Nat) : Int)
      have gwd : grW (F_w_drawFrom O.2 90 88 ((Ah.length + V.length : Nat) : Int)).2 := by
        have r91 := F_w_drawFrom_r (y := O.2) (w := 90) (q := 88) (f := ((Ah.length + V.length : Nat) : Int)) (by decide) gw4.2.1 gw4.1
        unfold grW
        rw [fd.2 89 (by decide), fd.2 93 (by decide), fd.2 94 (by decide), fd.2 95 (by decide), fd.2 96 (by decide), fd.2 97 (by decide), fd.2 98 (by decide), fd.2 99 (by decide), fd.2 100 (by decide)]
        exact ⟨gw4.1, r91, gw4.2.2⟩
      rw [dr.1]
      have n := lvN_of (S := [(88, 1), (90, 1)]) (A := [91]) (a := 0) (m := (Y.length : Int)) (w := O.1) op.1 fO97 fO98 fO99 fO100 (u := (F_w_drawFrom O.2 90 88 ((Ah.length + V.length : Nat) : Int)).2) fd (by decide) (by decide)
      have sn := (stk_new (C := V) (Wt := Y) mx gw3 st3 id3 lPQ (Or.inl rfl) okP (by omega) hKP n rfl (by
        rcases o01 with o | o
        · exact Or.inr ⟨o, o, Or.inl ⟨rfl, rfl, X, eP, lX⟩⟩
        · exact Or.inl o)).1 rfl rfl
      have ll := lvN_low n low3 id3
      have fw := F_g_await_fr (F_w_drawFrom O.2 90 88 ((Ah.length + V.length : Nat) : Int)).2 0 (Y.length : Int) O.1
      have gwz := grW_await (a := 0) (m := (Y.length : Int)) (w := O.1) gwd (Or.inl rfl) o01 (by omega) (by omega)
      have fR : ksame [(88, 1), (90, 1)] [91, 99, 97, 100, 98] O.2 (F_g_await (F_w_drawFrom O.2 90 88 ((Ah.length + V.length : Nat) : Int)).2 0 (Y.length : Int) O.1).2 := km_tr (km_mono (by decide) (by decide) fd) (km_mono (by decide) (by decide) fw)
      have wZ8 : wL (F_g_await (F_w_drawFrom O.2 90 88 ((Ah.length + V.length : Nat) : Int)).2 0 (Y.length : Int) O.1).2 88 (Ah ++ V) := wL_fr fw (by decide) (by decide) dr.2.2
      have wZ9 : wL (F_g_await (F_w_drawFrom O.2 90 88 ((Ah.length + V.length : Nat) : Int)).2 0 (Y.length : Int) O.1).2 90 (B ++ Y.reverse) := wL_fr fw (by decide) (by decide) dr.2.1
      generalize (F_g_await (F_w_drawFrom O.2 90 88 ((Ah.length + V.length : Nat) : Int)).2 0 (Y.length : Int) O.1).2 = Zz at n sn ll fw gwz fR wZ8 wZ9
      have eB : (B ++ Y.reverse).reverse = Y ++ B.reverse := by rw [List.reverse_append, List.reverse_reverse]
      have hjV : V.length ≤ j := by omega
      refine ⟨Ah, V, B ++ Y.reverse, ⟨⟨sM_tr sm4 (sM_of fR (by unfold sMs; decide) (by unfold sMa; decide)), wZ8, wZ9, by rw [fR.1 87 12 (by decide), e12'], okL_app.mpr ⟨okAh, okV⟩, okL_app.mpr ⟨ok2, fun l hl => okY l (List.mem_reverse.mp hl)⟩, by rw [List.length_append, List.length_reverse]; omega, by rw [fR.1 87 13 (by decide)]; exact lvo, by rw [eB]; exact sn, ll.1, knI_of fR (by decide) (by decide) (by decide) (by decide) (by decide) ki4, gwz⟩, ?_, fun i hi => ?_⟩, knR_of fR (by decide) (by decide) (by decide) (by decide) (by decide) kn4, ⟨fun j hj => ll.2 j (by omega), by rw [ll.2 _ (Nat.le_refl _)]; omega⟩, ?_⟩
      · rw [List.take_append, List.take_of_length_le hjV] at k4
        exact noL_part (a := []) k4
      · rw [fR.2 94 (by decide), f4.2 94 (by decide)]
        have := k5 i (by omega)
        unfold plQ at this ⊢
        rw [List.take_append_of_le_length hi] at this
        exact this
      · have := knm_part mx Ah B.reverse lPQ
        rw [List.append_assoc V] at this
        rw [eB]
        exact this
    · -- all of it comes back LETTER by LETTER
      rw [if_neg c, e12']
      have dr := F_w_drawFrom_x (x := O.2) (w := 90) (q := 88) (P := B) (Q := Ah) (T := V ++ Y) rfl rfl (by decide) wB4 wA4 (by rw [hlV]; show _ ≤ 60; omega)
      have fd := F_w_drawFrom_fr O.2 90 88 (Ah.length : Int)
      have gwd : grW (F_w_drawFrom O.2 90 88 (Ah.length : Int)).2 := by
        have r91 := F_w_drawFrom_r (y := O.2) (w := 90) (q := 88) (f := (Ah.length : Int)) (by decide) gw4.2.1 gw4.1
        unfold grW
        rw [fd.2 89 (by decide), fd.2 93 (by decide), fd.2 94 (by decide), fd.2 95 (by decide), fd.2 96 (by decide), fd.2 97 (by decide), fd.2 98 (by decide), fd.2 99 (by decide), fd.2 100 (by decide)]
        exact ⟨gw4.1, r91, gw4.2.2⟩
      rw [dr.1]
      have n := lvN_of (S := [(88, 1), (90, 1)]) (A := [91]) (a := 0) (m := ((V ++ Y).length : Int)) (w := 1) op.1 fO97 fO98 fO99 fO100 (u := (F_w_drawFrom O.2 90 88 (Ah.length : Int)).2) fd (by decide) (by decide)
      have sn := (stk_new (C := []) (Wt := V ++ Y) mx gw3 st3 id3 lPQ (Or.inl rfl) okP (by omega) hKP n rfl (Or.inl rfl)).1 rfl rfl
      have ll := lvN_low n low3 id3
      have fw := F_g_await_fr (F_w_drawFrom O.2 90 88 (Ah.length : Int)).2 0 ((V ++ Y).length : Int) 1
      have gwz := grW_await (a := 0) (m := ((V ++ Y).length : Int)) (w := 1) gwd (Or.inl rfl) (Or.inr rfl) (by omega) (by rw [hlV]; omega)
      have fR : ksame [(88, 1), (90, 1)] [91, 99, 97, 100, 98] O.2 (F_g_await (F_w_drawFrom O.2 90 88 (Ah.length : Int)).2 0 ((V ++ Y).length : Int) 1).2 := km_tr (km_mono (by decide) (by decide) fd) (km_mono (by decide) (by decide) fw)
      have wZ8 : wL (F_g_await (F_w_drawFrom O.2 90 88 (Ah.length : Int)).2 0 ((V ++ Y).length : Int) 1).2 88 Ah := wL_fr fw (by decide) (by decide) dr.2.2
      have wZ9 : wL (F_g_await (F_w_drawFrom O.2 90 88 (Ah.length : Int)).2 0 ((V ++ Y).length : Int) 1).2 90 (B ++ (V ++ Y).reverse) := wL_fr fw (by decide) (by decide) dr.2.1
      generalize (F_g_await (F_w_drawFrom O.2 90 88 (Ah.length : Int)).2 0 ((V ++ Y).length : Int) 1).2 = Zz at n sn ll fw gwz fR wZ8 wZ9
      have eB : (B ++ (V ++ Y).reverse).reverse = (V ++ Y) ++ B.reverse := by rw [List.reverse_append, List.reverse_reverse]
      refine ⟨Ah, [], B ++ (V ++ Y).reverse, ⟨⟨sM_tr sm4 (sM_of fR (by unfold sMs; decide) (by unfold sMa; decide)), by rw [List.append_nil]; exact wZ8, wZ9, by rw [fR.1 87 12 (by decide), e12'], by rw [List.append_nil]; exact okAh, okL_app.mpr ⟨ok2, fun l hl => (okL_app.mpr ⟨okV, okY⟩) l (List.mem_reverse.mp hl)⟩, by rw [List.length_append, List.length_reverse, hlV]; simp; omega, by rw [fR.1 87 13 (by decide)]; exact lvo, by rw [eB]; exact sn, ll.1, knI_of fR (by decide) (by decide) (by decide) (by decide) (by decide) ki4, gwz⟩, noL_nil mx, fun i hi => ?_⟩, knR_of fR (by decide) (by decide) (by decide) (by decide) (by decide) kn4, ⟨fun j hj => ll.2 j (by omega), by rw [ll.2 _ (Nat.le_refl _)]; omega⟩, ?_⟩
      · have ei : i = 0 := by simpa using hi
        subst ei
        rw [fR.2 94 (by decide), f4.2 94 (by decide)]
        have := k5 0 (Nat.zero_le _)
        unfold plQ at this ⊢
        rw [List.take_zero] at this ⊢
        exact this
      · rw [eB, List.nil_append]
        exact knm_part mx Ah B.reverse lPQ
/-- a turn: what is replaced brings the STRING ahead -/
theorem F_g_turn_x {x y : KS} (mx : mcX x) {wl : Nat} {src Ah P B : List Int} (g : grB x y src Ah P B ∨ grA x y src Ah P B) (kn : knR y wl) (id : idX y P) : rpE x wl src (Ah ++ (P ++ B.reverse)) (F_g_replace y (y.2 99 (lvl y))).2 := by
  rcases g with g | g
  · have g0 := g
    obtain ⟨gy, i0, a0, T0, l0, eP0, nT0, plT, q, aq, hq, h8, eq⟩ := g
    rw [a0]
    have hlen : (lS x q).length ≤ P.length := by rw [eq, List.length_append]; omega
    obtain ⟨u, v, eF, rc⟩ := F_g_replace_x (b := 0) mx gy kn hq h8 hlen (by
      show ori 2 (P.reverse.take (lS x q).length) = lS x q
      unfold ori
      rw [if_neg (by decide), eq, List.reverse_append, List.take_append_of_le_length (by rw [List.length_reverse]; exact Nat.le_refl _), List.take_of_length_le (by rw [List.length_reverse]; exact Nat.le_refl _), List.reverse_reverse])
    rw [eF]
    exact F_g_replaceLast_x mx g0 rc kn id
  · have g0 := g
    obtain ⟨gy, i0, a0, T0, l0, eP0, nT0, pl0, q, bq, hq, h8, eq, plT⟩ := g
    rw [a0]
    have hlen : (lS x q).length ≤ P.length := by rw [eq, List.length_append]; omega
    obtain ⟨u, v, eF, rc⟩ := F_g_replace_x (b := 1) mx gy kn hq h8 hlen (by
      show ori 1 (P.take (lS x q).length) = lS x q
      unfold ori
      rw [if_pos rfl, eq, List.take_left])
    rw [eF]
    exact F_g_replaceFirst_x mx g0 rc kn id
