-- deps: 30 31 32 33 34 35 36 37 38 39 40 41 42 43 46 70 71 72 73 74 75 76 77 78 79 80 81 82 83 84 85 86 87 88 89 90 91 92 93 94.a 94.b 94.c 94.d
/-! closing a level tells what its key leads to -/
theorem iRL_n {a : Nat} (h : a < 2 ^ 62) : iRL (a : Int) := by
  have : (2 : Nat) ^ 62 = 4611686018427387904 := by decide
  unfold iRL
  omega
theorem knR_of {S : List (Nat × Nat)} {A : List Nat} {y z : KS} {wl : Nat} (h : ksame S A y z) (h1 : (101, 9) ∉ S) (h2 : 102 ∉ A) (h3 : 103 ∉ A) (h4 : 104 ∉ A) (h5 : 105 ∉ A) (k : knR y wl) : knR z wl := by
  unfold knR
  rw [h.1 101 9 h1, h.2 102 h2, h.2 103 h3, h.2 104 h4, h.2 105 h5]
  exact k
theorem F_k_keep_R {x y : KS} (m : mcX x) {wl : Nat} (kn : knR y wl) {b : Nat} {K : List Int} (hb : b = 1 ∨ b = 2) (ok : okL (nL x) K) (hK : K.length ≤ 60) (hk : kKy y b K) {f t : Nat} (h89 : ∀ j : Nat, 0 ≤ y.2 89 j ∧ y.2 89 j ≤ 3) (h1 : (t : Int) ≤ y.1 88 1) (h0 : y.1 88 1 ≤ 60) : knR (F_k_keep y (f : Int) (t : Int)).2 wl := by
  obtain ⟨p, e⟩ := F_k_keep_p kn (f : Int) (t : Int)
  rw [e]
  have pr : ∀ f : Nat, iRL (F_w_pack y 88 (f : Int) (t : Int)).1 := fun f => by
    rw [F_w_pack_x (fun j => (h89 j).1) h1 (by omega)]
    refine iRL_n (pk_61 (fun l hl => ?_) (by rw [List.length_take]; omega))
    obtain ⟨j, _, ej⟩ := tk_mem (List.mem_of_mem_drop (List.mem_of_mem_take hl))
    have := h89 j
    have e4 : ((4 : Nat) : Int) = 4 := rfl
    have ej' : y.2 89 j = l := ej
    rw [e4]
    omega
  obtain ⟨k1, k2, k3, k4, k5, k6⟩ := kn
  refine ⟨?_, k2, ?_, ?_, ?_, ?_⟩
  · unfold kpW; rw [kS_k (by decide), kA_1, kA_1, kA_1, kA_1]; exact k1
  · unfold kpW
    rw [kS_2, kA_c (by decide), kA_c (by decide), kA_c (by decide), kA_s]
    exact iU_all (P := iRL) (by rw [hk.1]; exact iRL_n (kH_b (okL4 m ok) (by omega))) k3
  · unfold kpW
    rw [kS_2, kA_c (by decide), kA_c (by decide), kA_s, kA_c (by decide)]
    exact iU_all (P := iRL) (by rw [hk.2]; exact iRL_n (Nat.lt_of_lt_of_le (kT_b (okL4 m ok) hK) (by decide))) k4
  · unfold kpW
    rw [kS_2, kA_c (by decide), kA_s, kA_c (by decide), kA_c (by decide)]
    exact iU_all (P := iRL) (pr f) k5
  · unfold kpW
    rw [kS_2, kA_s, kA_c (by decide), kA_c (by decide), kA_c (by decide)]
    exact iU_all (P := iRL) (by rw [show (f : Int) + 30 = ((f + 30 : Nat) : Int) by push_cast; rfl]; exact pr (f + 30)) k6
theorem wL_cut {y : KS} {w : Nat} {P a b c : List Int} (h : wL y w P) (e : P = a ++ (b ++ c)) : (tk (y.2 (w + 1)) (a.length + b.length)).drop a.length = b := by
  have h1 := h.2
  rw [e] at h1
  have h2 := congrArg (List.take (a.length + b.length)) h1
  rw [tk_take _ (by rw [List.length_append, List.length_append]; omega)] at h2
  rw [h2, ← List.append_assoc, List.take_append_of_le_length (by rw [List.length_append]; exact Nat.le_refl _), List.take_of_length_le (by rw [List.length_append]; exact Nat.le_refl _), List.drop_left]
/-- a place of the row that is kept -/
theorem gCl_k {x y : KS} (mx : mcX x) {src Ah P B : List Int} {wl : Nat} (g : grL x y src Ah P B) (kn : knR y wl) {b : Nat} {K T a V c : List Int} (hb : b = 1 ∨ b = 2) (ok : okL (nL x) (K ++ T)) (hK : (K ++ T).length ≤ 60) (e1 : y.2 95 (lvl y) = ((kH b (K ++ T) : Nat) : Int)) (e2 : y.2 96 (lvl y) = ((kT (K ++ T) : Nat) : Int)) (hs : gSp y = (T.length : Int)) (hP : P = a ++ (V ++ c)) (ha : (if y.2 99 (lvl y) = 0 then 0 else gSp y) = (a.length : Int)) (hc : (if y.2 99 (lvl y) = 0 then gSp y else 0) = (c.length : Int)) (hl : led x (ori b K) V) : knI x (gCl y) ∧ knR (gCl y) wl := by
  obtain ⟨sm, w88, w90, fr, ok1, ok2, h60, lv, st, low, ki, gw⟩ := g
  have okK := (okL_app.mp ok).1
  have hK2 : K.length ≤ 60 := by rw [List.length_append] at hK; omega
  have hk : kKy (gTa y) b K := by
    unfold gTa
    rw [e1, e2, hs]
    exact F_k_take_x (by omega) (by omega) (okL4 mx ok) hK
  have ft := gTa_fr y
  have w88' : wL (gTa y) 88 (Ah ++ P) := wL_fr ft (by decide) (by decide) w88
  have kn' : knR (gTa y) wl := knR_of ft (by decide) (by decide) (by decide) (by decide) (by decide) kn
  have ki' : knI x (gTa y) := knI_of ft (by decide) (by decide) (by decide) (by decide) (by decide) ki
  have h89 : ∀ j : Nat, 0 ≤ (gTa y).2 89 j ∧ (gTa y).2 89 j ≤ 3 := by rw [ft.2 89 (by decide)]; exact gw.1
  have hlen : (Ah ++ P).length = Ah.length + (a.length + (V.length + c.length)) := by rw [hP, List.length_append, List.length_append, List.length_append]
  have hPl : P.length = a.length + (V.length + c.length) := by rw [hP, List.length_append, List.length_append]
  have ef : (gTa y).1 87 12 + (if y.2 99 (lvl y) = 0 then 0 else gSp y) = (((Ah ++ a).length : Nat) : Int) := by rw [ha, ft.1 87 12 (by decide), fr, List.length_append]; push_cast; rfl
  have et : (gTa y).1 88 1 - (if y.2 99 (lvl y) = 0 then gSp y else 0) = (((Ah ++ a).length + V.length : Nat) : Int) := by rw [hc, w88'.1, hlen, List.length_append]; push_cast; omega
  have hV : (tk ((gTa y).2 89) ((Ah ++ a).length + V.length)).drop (Ah ++ a).length = V := wL_cut (w := 88) (a := Ah ++ a) (b := V) (c := c) w88' (by rw [hP]; simp)
  have okV : okL (nL x) V := fun l hl => ok1 l (by rw [hP]; exact List.mem_append_right _ (List.mem_append_right _ (List.mem_append_left _ hl)))
  have u1 : (gTa y).1 88 1 ≤ 60 := by rw [w88'.1, hlen]; push_cast; omega
  have ut : ((((Ah ++ a).length + V.length : Nat) : Nat) : Int) ≤ (gTa y).1 88 1 := by rw [w88'.1, hlen, List.length_append]; push_cast; omega
  unfold gCl
  rw [ef, et]
  have fz : ∀ q : KS, ksame [(87, 13)] [] q (kS q 87 13 (y.1 87 13 - 1)) := fun q => km_s (by decide) (km_rf _ _ _)
  exact ⟨knI_of (fz _) (by decide) (by decide) (by decide) (by decide) (by decide) (F_k_keep_x kn' ki' hb okK hK2 hk (fun j => (h89 j).1) ut u1 hV okV hl), knR_of (fz _) (by decide) (by decide) (by decide) (by decide) (by decide) (F_k_keep_R mx kn' hb okK hK2 hk h89 ut u1)⟩
theorem gCl_fr (y : KS) : ksame [(101, 5), (101, 6), (101, 4), (87, 13)] [102, 103, 104, 105] y (gCl y) := km_s (by decide) (km_tr (km_mono (by decide) (by decide) (gTa_fr y)) (km_mono (by decide) (by decide) (F_k_keep_fr _ _ _)))
theorem gCl_x {x y : KS} (mx : mcX x) {src Ah P B : List Int} {wl : Nat} (g : grI x y src Ah P B) (kn : knR y wl) (l1 : 0 < y.1 87 13) (w0 : y.2 97 (lvl y) ≤ 0) : grI x (gCl y) src Ah P B ∧ lvl (gCl y) + 1 = lvl y ∧ knR (gCl y) wl := by
  obtain ⟨gl, nP, pl⟩ := g
  have gl0 := gl
  obtain ⟨sm, w88, w90, fr, ok1, ok2, h60, lv, st, low, ki, gw⟩ := gl
  have fz := gCl_fr y
  have z13 : (gCl y).1 87 13 = y.1 87 13 - 1 := kS_s
  have hl : lvl (gCl y) + 1 = lvl y := by unfold lvl; rw [z13]; omega
  obtain ⟨i, hi⟩ : ∃ i, lvl y = i + 1 := ⟨lvl (gCl y), hl.symm⟩
  have w97 := (gw.2.2.2.2.2.2.1 (lvl y)).1
  have wz : y.2 97 (lvl y) = 0 := by omega
  -- the level below, and what is kept
  have key : stk x y src i Ah P B.reverse ∧ knI x (gCl y) ∧ knR (gCl y) wl := by
    rw [hi] at st wz
    have w01 := gw.2.2.2.2.2.2.2.2.2 (i + 1)
    rcases st with ⟨s1, Wt, Bh', e, s2, s3, s4⟩ | ⟨s1, Wt, Ah', e, s2, s3, s4⟩
    · have eW : Wt = [] := List.length_eq_zero_iff.mp (by omega)
      subst eW
      rw [List.append_nil] at s3 s4
      rw [List.nil_append] at e
      subst e
      refine ⟨s4, ?_⟩
      obtain ⟨b, K, hb, ok, hK, k1, k2, f1, f2, f3⟩ := s3
      rcases w01 with w | w
      · obtain ⟨g1, A, I, B0, m1, m2, m3, m4⟩ := f2 w s1
        rw [List.append_nil] at m1
        subst m1
        subst g1
        have hs : gSp y = (I.length : Int) := by unfold gSp; rw [hi, if_pos w]; exact m3.symm
        exact gCl_k mx gl0 kn (T := I) (a := []) (V := B0) (c := I) (Or.inl rfl) ok hK (by rw [hi]; exact k1) (by rw [hi]; exact k2) hs m2 (by rw [hi, if_pos s1]; rfl) (by rw [hi, if_pos s1]; exact hs) m4
      · have hs : gSp y = (([] : List Int).length : Int) := by unfold gSp; rw [hi, if_neg (by rw [w]; decide)]; rfl
        exact gCl_k mx gl0 kn (K := K) (T := []) (a := []) (V := P) (c := []) hb (by rw [List.append_nil]; exact ok) (by rw [List.append_nil]; exact hK) (by rw [hi, List.append_nil]; exact k1) (by rw [hi, List.append_nil]; exact k2) hs (by simp) (by rw [hi, if_pos s1]; rfl) (by rw [hi, if_pos s1]; exact hs) (f1 w)
    · have eW : Wt = [] := List.length_eq_zero_iff.mp (by omega)
      subst eW
      rw [List.nil_append] at s3 s4
      rw [List.append_nil] at e
      subst e
      refine ⟨s4, ?_⟩
      obtain ⟨b, K, hb, ok, hK, k1, k2, f1, f2, f3⟩ := s3
      have n0 : ¬ y.2 99 (i + 1) = 0 := by rw [s1]; decide
      rcases w01 with w | w
      · obtain ⟨g1, A, I, B0, m1, m2, m3, m4⟩ := f3 w s1
        rw [List.nil_append] at m1
        have eK : K = A.reverse ++ I.reverse := by
          have := congrArg List.reverse m1
          rw [List.reverse_reverse, List.reverse_append] at this
          exact this
        subst eK
        subst g1
        have hs : gSp y = ((I.reverse).length : Int) := by unfold gSp; rw [hi, if_pos w, List.length_reverse]; exact m3.symm
        refine gCl_k mx gl0 kn (T := I.reverse) (a := I) (V := B0) (c := []) (Or.inr rfl) ok hK (by rw [hi]; exact k1) (by rw [hi]; exact k2) hs (by rw [List.append_nil]; exact m2) (by rw [hi, if_neg n0, hs, List.length_reverse]) (by rw [hi, if_neg n0]; rfl) ?_
        show led x (ori 2 A.reverse) B0
        unfold ori
        rw [if_neg (by decide), List.reverse_reverse]
        exact m4
      · have hs : gSp y = (([] : List Int).length : Int) := by unfold gSp; rw [hi, if_neg (by rw [w]; decide)]; rfl
        exact gCl_k mx gl0 kn (K := K) (T := []) (a := []) (V := P) (c := []) hb (by rw [List.append_nil]; exact ok) (by rw [List.append_nil]; exact hK) (by rw [hi, List.append_nil]; exact k1) (by rw [hi, List.append_nil]; exact k2) hs (by simp) (by rw [hi, if_neg n0]; exact hs) (by rw [hi, if_neg n0]; rfl) (f1 w)
  obtain ⟨st', ki', kn'⟩ := key
  have li : lvl (gCl y) = i := by omega
  refine ⟨⟨⟨sM_tr sm (sM_of fz (by unfold sMs; decide) (by unfold sMa; decide)), wL_fr fz (by decide) (by decide) w88, wL_fr fz (by decide) (by decide) w90, by rw [fz.1 87 12 (by decide)]; exact fr, ok1, ok2, h60, by rw [z13]; omega, ?_, fun j h1 h2 => ?_, ki', grW_of fz (by decide) gw⟩, nP, fun j hj => ?_⟩, hl, kn'⟩
  · rw [li]
    exact stk_cg i _ _ _ (fun j _ => lvS_of fz (by decide) j) st'
  · rw [fz.2 97 (by decide), fz.2 98 (by decide)]
    exact low j h1 (by omega)
  · rw [fz.2 94 (by decide)]
    exact pl j hj
