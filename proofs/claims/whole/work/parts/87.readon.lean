-- deps: 30 31 32 33 34 35 36 37 38 39 40 41 70 71 72 73 74 75 76 77 78 79 80 81 82 83 84 85 86
/-! readOn: each turn keeps what is read free of LEFT sides -/
theorem mst_sM {x y : KS} (h : sM x y) {i l : Nat} {s : Int} (m : mst y i l s) : mst x i l s := by
  unfold mst at m ⊢
  rw [h.2.1.1, h.2.2.1, sM_lS h, sM_nR h, sM_stS h] at m
  exact m
theorem w_ne {w c : Nat} (hw : kW w = true) (hc : kW c = false) : c ≠ w := (kW_ne hw hc).symm
theorem F_r_replace_x {y : KS} {w r : Nat} (hw : kW w = true) (ru : ruR y) (hr : (r : Int) < y.1 58 6) (h70 : 0 ≤ y.1 70 4) (hk : 0 ≤ y.1 w 1 - ((lS y r).length - 1)) (h60 : y.1 w 1 - ((lS y r).length - 1) + y.1 70 4 + (rS y r).length ≤ 60) :
    (F_r_replace y w (r : Int)).1 = 1 ∧ sM y (F_r_replace y w (r : Int)).2 ∧ (F_r_replace y w (r : Int)).2.1 w 1 = y.1 w 1 - ((lS y r).length - 1) ∧ (F_r_replace y w (r : Int)).2.2 (w + 1) = y.2 (w + 1) ∧ (F_r_replace y w (r : Int)).2.2 72 = y.2 72 ∧ (F_r_replace y w (r : Int)).2.1 70 4 = y.1 70 4 + (rS y r).length ∧ rL (F_r_replace y w (r : Int)).2 = rS y r ++ rL y := by
  have r40 : r < 40 := by have := ru.1; omega
  have l60 : ((lS y r).length : Int) = y.2 60 r := by rw [lS_len]; have := ru.2.2.1 r; omega
  have l61 : ((rS y r).length : Int) = y.2 61 r := by rw [rS_len]; have := ru.2.2.2.1 r; omega
  have s1 : (F_u_spanOf y (r : Int) 1).1 = y.2 60 r := by unfold F_u_spanOf; rw [if_neg (by omega), if_pos (by omega), if_neg (by decide), Int.toNat_natCast]
  have s0 : (F_u_spanOf y (r : Int) 0).1 = y.2 61 r := by unfold F_u_spanOf; rw [if_neg (by omega), if_pos (by omega), if_pos rfl, Int.toNat_natCast]
  have w70 : (70 : Nat) ≠ w := w_ne hw rfl
  have b61 := ru.2.2.2.1 r
  unfold F_r_replace
  rw [s1, s0, if_neg (by omega), if_pos (by omega)]
  have kk : sM y (kS y w 1 (y.1 w 1 - (y.2 60 r - 1))) := sM_s (sM_rf _) (sMs_w hw)
  have q := F_r_replace_s_x hw (r := r) (G := (y.2 61 r).toNat) 30 (kS y w 1 (y.1 w 1 - (y.2 60 r - 1))) (y.2 61 r - 1) (by omega) (by omega) (by omega) (by rw [kS_c w70]; exact h70)
  obtain ⟨q1, q2, q3, q4, q5⟩ := q
  refine ⟨q1, sM_tr kk q2, ?_, ?_, ?_, ?_, ?_⟩
  · rw [q3.1 w 1 (by intro h; rw [List.mem_singleton] at h; exact w70 (congrArg Prod.fst h).symm), kS_s]
    omega
  · rw [q3.2 (w + 1) (by intro h; rw [List.mem_singleton] at h; exact kR_ne hw (d := 71) rfl h), kS_2]
  · rw [q3.2 72 (by decide), kS_2]
  · rw [q4, kS_c w70]
    omega
  · rw [q5]
    have e1 : rL (kS y w 1 (y.1 w 1 - (y.2 60 r - 1))) = rL y := by unfold rL; rw [kS_c w70, kS_2]
    rw [e1]
    congr 1
    have e2 : (y.2 61 r - 1 + 1).toNat = (y.2 61 r).toNat := by omega
    rw [e2]
    unfold rS tk
    exact List.map_congr_left fun i _ => sM_sg kk _ _ _
theorem F_r_readOn_s_x {x : KS} (mx : mcX x) {w : Nat} (hw : kW w = true) (h60 : kL w = 60) {src : List Int} : ∀ (n : Nat) (y : KS) (d : Int), roI x y w src → 0 ≤ d → d ≤ 20000 → 20000 - d < n → (F_r_readOn_s w n 0 y d).1 = 1 ∧ roI x (F_r_readOn_s w n 0 y d).2 w src := by
  have w70 : (70 : Nat) ≠ w := w_ne hw rfl
  have w71 : w + 1 ≠ 71 := kR_ne hw rfl
  have w72 : w + 1 ≠ 72 := kR_ne hw rfl
  intro n
  induction n with
  | zero => intro y d _ h1 h2 h3; exfalso; omega
  | succ n ih =>
    intro y d ro d0 d2 hn
    rw [F_r_readOn_e0]
    by_cases c1 : (20000 : Int) ≤ d
    · rw [if_pos c1]; exact ⟨rfl, ro⟩
    · rw [if_neg c1]
      by_cases c2 : y.1 70 4 ≤ 0
      · rw [if_pos c2]; exact ⟨rfl, ro⟩
      · rw [if_neg c2]
        obtain ⟨sm, ⟨u0, r0, ur⟩, ok1, ok2, pl, nl, rc⟩ := ro
        generalize hl : y.2 71 (y.1 70 4 - 1).toNat = l
        have pop := rL_pop (y := y) (by omega)
        rw [hl] at pop
        have sk : sM y (kS y 70 4 (y.1 70 4 - 1)) := sM_s (sM_rf _) (by unfold sMs; decide)
        have k1 : (kS y 70 4 (y.1 70 4 - 1)).1 w 1 = y.1 w 1 := by rw [kS_c (Ne.symm w70)]
        have k2 : (kS y 70 4 (y.1 70 4 - 1)).1 70 4 = y.1 70 4 - 1 := kS_s
        generalize hz : kS y 70 4 (y.1 70 4 - 1) = z at pop sk k1 k2
        have z2 : z.2 = y.2 := by rw [← hz]; rfl
        have sxz := sM_tr sm sk
        have mz := mcX_sM sxz mx
        have hlr : 0 ≤ l ∧ l < (nL x : Int) := ok2 l (by rw [pop]; exact List.mem_cons_self)
        have ok2' : okL (nL x) (rL z) := fun k hk => ok2 k (by rw [pop]; exact List.mem_cons_of_mem _ hk)
        have wl : (wS y w).length = (y.1 w 1).toNat := wS_len y w
        have p1 := pl (y.1 w 1).toNat (by rw [wl]; exact Nat.le_refl _)
        have st := mc_step mz (s := y.2 72 (y.1 w 1).toNat) (l := l) p1.1.1 (by rw [sxz.2.2.1]; exact p1.1.2) hlr.1 (by rw [sM_nL sxz]; exact hlr.2)
        have ms := mst_sM sxz st.2.1
        generalize (F_a_step z (y.2 72 (y.1 w 1).toNat) l).1 = s at st ms
        by_cases c3 : 0 ≤ s
        · rw [if_pos c3, if_neg (show ¬ s < 0 by omega)]
          have pu : F_w_push z w l = (1, kA (kS z w 1 (y.1 w 1 + 1)) (w + 1) (y.1 w 1).toNat l) := by
            unfold F_w_push
            rw [k1, if_neg (by omega), if_pos (by rw [h60]; show y.1 w 1 < 60; omega)]
          rw [pu, if_neg (by show ¬ (1 : Int) = 0; decide)]
          show (F_r_readOn_s w n 0 (kA (kA (kS z w 1 (y.1 w 1 + 1)) (w + 1) (y.1 w 1).toNat l) 72 ((kS z w 1 (y.1 w 1 + 1)).1 w 1).toNat s) (d + 1)).1 = 1 ∧ roI x (F_r_readOn_s w n 0 (kA (kA (kS z w 1 (y.1 w 1 + 1)) (w + 1) (y.1 w 1).toNat l) 72 ((kS z w 1 (y.1 w 1 + 1)).1 w 1).toNat s) (d + 1)).2 w src
          rw [kS_s]
          have eu : (y.1 w 1 + 1).toNat = (y.1 w 1).toNat + 1 := by omega
          have ew : wS (kA (kA (kS z w 1 (y.1 w 1 + 1)) (w + 1) (y.1 w 1).toNat l) 72 (y.1 w 1 + 1).toNat s) w = wS y w ++ [l] := by
            rw [wS_tk, kA_c w72, kA_s, kS_2, kA_1, kA_1, kS_s, eu, tk_s, iU_s, tk_iU (Nat.le_refl _), z2]
            rfl
          have er : rL (kA (kA (kS z w 1 (y.1 w 1 + 1)) (w + 1) (y.1 w 1).toNat l) 72 (y.1 w 1 + 1).toNat s) = rL z := by
            unfold rL
            rw [kA_c (by decide), kA_c (Ne.symm w71), kS_2, kA_1, kA_1, kS_c w70]
          refine ih _ (d + 1) ⟨?_, ⟨?_, ?_, ?_⟩, ?_, ?_, ?_, ?_, ?_⟩ (by omega) (by omega) (by omega)
          · exact sM_a (sM_a (sM_s sxz (sMs_w hw)) (sMa_w hw)) (by unfold sMa; decide)
          · rw [kA_1, kA_1, kS_s]; omega
          · rw [kA_1, kA_1, kS_c w70, k2]; omega
          · rw [kA_1, kA_1, kS_s, kS_c w70, k2]; omega
          · rw [ew]; exact okL_app.mpr ⟨ok1, okL_1 hlr.1 hlr.2⟩
          · rw [er]; exact ok2'
          · rw [ew]
            have := plc_on (l := l) (s := s) pl c3 (by rw [wl]; exact ms) hlr.1
            rw [wl] at this
            refine plc_cg this (fun j _ => ?_)
            rw [kA_s, kA_c (Ne.symm w72), kS_2, z2, eu]
          · rw [ew]
            have h3 := (ms.2 c3).2.1
            rw [Int.toNat_of_nonneg hlr.1] at h3
            have h4 := p1.2
            rw [← wl, List.take_length] at h4
            rw [← wl] at h3
            exact au_no nl h4 (mc_left0 mx) h3
          · rw [ew, er, List.append_assoc]
            rw [pop] at rc
            exact rc
        · rw [if_neg c3, if_pos (show s < 0 by omega)]
          obtain ⟨r, hr, es, a, ha⟩ := ms.1 (by omega)
          rw [Int.toNat_of_nonneg hlr.1] at ha
          obtain ⟨⟨cc, hcc⟩, _, _⟩ := p1.2
          rw [← wl, List.take_length] at hcc
          rw [← wl] at ha
          have hT : wS y w ++ [l] = (cc ++ a) ++ lS x r := by
            have e : wS y w ++ [l] = (cc ++ stS x (y.2 72 (wS y w).length).toNat) ++ [l] := congrArg (· ++ [l]) hcc
            rw [e, List.append_assoc, ha, List.append_assoc]
          have hlen := congrArg List.length hT
          rw [List.length_append, List.length_append, List.length_singleton, wl] at hlen
          have rN : r < nR x := by unfold nR; omega
          have l0 : 1 ≤ (lS x r).length := List.length_pos_iff.mpr (mc_left0 mx r rN)
          have ah := mc_ahd mx rN
          have rl : (rS x r).length ≤ (lS x r).length := by rcases ah.1 with h | h <;> omega
          have er : (-1 : Int) - s = (r : Int) := by omega
          rw [er]
          have lz : lS z = lS x := sM_lS sxz
          have rz : rS z = rS x := sM_rS sxz
          have q := F_r_replace_x (y := z) (w := w) (r := r) hw mz.2.1 (by rw [sxz.2.1.1]; exact hr) (by omega) (by rw [lz, k1]; omega) (by rw [lz, rz, k1, k2]; omega)
          rw [lz, rz, k1, k2] at q
          obtain ⟨q1, q2, q3, q4, q5, q6, q7⟩ := q
          generalize (F_r_replace z w (r : Int)) = R at q1 q2 q3 q4 q5 q6 q7
          rw [q1, if_neg (by decide)]
          have ca : (wS y w) = (cc ++ a) ++ (lS x r).take ((lS x r).length - 1) := by
            have := congrArg (List.take (wS y w).length) hT
            rw [List.take_left, List.take_append, wl] at this
            rw [List.take_of_length_le (by omega)] at this
            rw [this]
            congr 2
            omega
          have ew : wS R.2 w = cc ++ a := by
            have e1 := tk_app (f := y.2 (w + 1)) (k := (y.1 w 1).toNat) ca
            rw [wS_tk, q4, q3, z2, e1]
            congr 1
            omega
          refine ih _ (d + 1) ⟨sM_tr sxz q2, ⟨by rw [q3]; omega, by rw [q6]; omega, by rw [q3, q6]; omega⟩, ?_, ?_, ?_, ?_, ?_⟩ (by omega) (by omega) (by omega)
          · rw [ew]; rw [ca] at ok1; exact (okL_app.mp ok1).1
          · rw [q7]; exact okL_app.mpr ⟨ah.2.2.2, ok2'⟩
          · rw [ew, q5, z2]; rw [ca] at pl; exact plc_app pl
          · rw [ew]
            intro q hq b c' e
            exact nl q hq b (c' ++ (lS x r).take ((lS x r).length - 1)) (by rw [ca, e]; simp only [List.append_assoc])
          · rw [ew, q7]
            refine rch_tr rc (rch_1 ⟨cc ++ a, rL z, r, rN, ?_, rfl⟩)
            rw [pop, show wS y w ++ l :: rL z = (wS y w ++ [l]) ++ rL z by simp, hT, List.append_assoc]
theorem F_r_readOn_x {x y : KS} (mx : mcX x) {w : Nat} (hw : kW w = true) (h60 : kL w = 60) {src : List Int} (ro : roI x y w src) : (F_r_readOn y w).1 = 1 ∧ roI x (F_r_readOn y w).2 w src := F_r_readOn_s_x mx hw h60 20010 y 0 ro (by omega) (by omega) (by omega)
