-- deps: 98.l
/-! bringDown -/
theorem wLt_G {x : KS} {w : Nat} (sx : scX x) (g : wG x w) : wLt x w := by
  intro j hj
  have h1 := g.2.2 (x.2 (w + 1) j) (by
    unfold wS
    exact List.mem_map.mpr ⟨j, List.mem_range.mpr (by omega), rfl⟩)
  rw [nL_i sx] at h1
  exact h1
theorem numberOf_v {x : KS} {w : Nat} (sx : scX x) (g : wG x w) (h : x.1 w 1 ≤ x.1 1 3) : (F_s_numberOf x w).1 = x.2 3 (wS x w).length + ((vl (nL x) (wS x w) : Nat) : Int) ∧ vl (nL x) (wS x w) < nL x ^ (wS x w).length := by
  have v := F_s_valueOf_v sx g.1.1 g.1.2 (wLt_G sx g)
  have f := F_s_firstOf_v (x := x) g.1.1 h
  have nb := nL_b sx
  refine ⟨?_, (vl_lt _ _ rfl g.2.2).resolve_right (by omega)⟩
  show (F_s_firstOf x (x.1 w 1)).1 + (F_s_valueOf x w).1 = _
  rw [v, f, wS_len]
theorem numberOf_b {x : KS} {w : Nat} (sx : scX x) (g : wG x w) (h : x.1 w 1 ≤ x.1 1 3) : 0 ≤ (F_s_numberOf x w).1 ∧ (F_s_numberOf x w).1 ≤ 20000 := by
  obtain ⟨e, b⟩ := numberOf_v sx g h
  have l : ((wS x w).length : Int) = x.1 w 1 := by rw [wS_len]; have := g.1; omega
  have hp := scX_pow sx (wS x w).length (by omega)
  have h3 := sx.1.2.1
  have f1 := sx.1.2.2.2.1 (wS x w).length (by omega)
  have f2 := sx.1.2.2.1 (wS x w).length (by omega)
  omega
def F_t_bringDown (x : KS) (w1 : Nat) (w2 : Nat) : Int × KS := (if ((F_t_isSeen (x)).1) = (0) then ((-3 : Int), x) else (if ((x).1 (0) 16) = (0) then (if ((x).1 (w1) 1) ≤ ((x).1 (0) 15) then (if ((x).1 (0) 16) = (0) then (((F_s_write ((F_j_leastOf (x) ((F_s_numberOf (x) (w1)).1)).2) (w2) ((F_j_leastOf (x) ((F_s_numberOf (x) (w1)).1)).1)).2).1 (w2) 1, (F_s_write ((F_j_leastOf (x) ((F_s_numberOf (x) (w1)).1)).2) (w2) ((F_j_leastOf (x) ((F_s_numberOf (x) (w1)).1)).1)).2) else (if ((F_r_run (x) (w1) (w2)).1) = (0) then ((-4 : Int), (F_r_run (x) (w1) (w2)).2) else (((F_r_run (x) (w1) (w2)).2).1 (w2) 1, (F_r_run (x) (w1) (w2)).2))) else ((-3 : Int), x)) else (if ((x).1 (0) 16) = (0) then (((F_s_write ((F_j_leastOf (x) ((F_s_numberOf (x) (w1)).1)).2) (w2) ((F_j_leastOf (x) ((F_s_numberOf (x) (w1)).1)).1)).2).1 (w2) 1, (F_s_write ((F_j_leastOf (x) ((F_s_numberOf (x) (w1)).1)).2) (w2) ((F_j_leastOf (x) ((F_s_numberOf (x) (w1)).1)).1)).2) else (if ((F_r_run (x) (w1) (w2)).1) = (0) then ((-4 : Int), (F_r_run (x) (w1) (w2)).2) else (((F_r_run (x) (w1) (w2)).2).1 (w2) 1, (F_r_run (x) (w1) (w2)).2)))))
theorem F_t_bringDown_le {w2 : Nat} (hw_w2 : kW w2 = true) (hc_w2 : w2 + 1 < 87) (x : KS) (w1 : Nat) : kLe x (F_t_bringDown x w1 w2).2 := by
  unfold F_t_bringDown
  by_cases hc9 : ((F_t_isSeen (x)).1) = (0)
  · rw [if_pos hc9]
    exact (kLe_rf _)
  · rw [if_neg hc9]
    by_cases hc9 : ((x).1 (0) 16) = (0)
    · rw [if_pos hc9]
      by_cases hc9 : ((x).1 (w1) 1) ≤ ((x).1 (0) 15)
      · rw [if_pos hc9]
        by_cases hc9 : ((x).1 (0) 16) = (0)
        · rw [if_pos hc9]
          exact (kLe_tr (kLe_tr (kLe_rf _) (kLe_G (kG_of (F_j_leastOf_fr (x) ((F_s_numberOf (x) (w1)).1)) (by first | decide | (intro h9; simp at h9; done) | (intro h9; simp at h9; omega)) (by first | decide | (intro h9; simp at h9; done) | (intro h9; simp at h9; omega))))) (kLe_G (kG_of (F_s_write_fr ((F_j_leastOf (x) ((F_s_numberOf (x) (w1)).1)).2) (w2) ((F_j_leastOf (x) ((F_s_numberOf (x) (w1)).1)).1)) (by first | decide | (intro h9; simp at h9; done) | (intro h9; simp at h9; omega)) (by first | decide | (intro h9; simp at h9; done) | (intro h9; simp at h9; omega)))))
        · rw [if_neg hc9]
          by_cases hc9 : ((F_r_run (x) (w1) (w2)).1) = (0)
          · rw [if_pos hc9]
            exact (kLe_tr (kLe_rf _) (F_r_run_le hw_w2 (by omega) (x) (w1)))
          · rw [if_neg hc9]
            exact (kLe_tr (kLe_rf _) (F_r_run_le hw_w2 (by omega) (x) (w1)))
      · rw [if_neg hc9]
        exact (kLe_rf _)
    · rw [if_neg hc9]
      by_cases hc9 : ((x).1 (0) 16) = (0)
      · rw [if_pos hc9]
        exact (kLe_tr (kLe_tr (kLe_rf _) (kLe_G (kG_of (F_j_leastOf_fr (x) ((F_s_numberOf (x) (w1)).1)) (by first | decide | (intro h9; simp at h9; done) | (intro h9; simp at h9; omega)) (by first | decide | (intro h9; simp at h9; done) | (intro h9; simp at h9; omega))))) (kLe_G (kG_of (F_s_write_fr ((F_j_leastOf (x) ((F_s_numberOf (x) (w1)).1)).2) (w2) ((F_j_leastOf (x) ((F_s_numberOf (x) (w1)).1)).1)) (by first | decide | (intro h9; simp at h9; done) | (intro h9; simp at h9; omega)) (by first | decide | (intro h9; simp at h9; done) | (intro h9; simp at h9; omega)))))
      · rw [if_neg hc9]
        by_cases hc9 : ((F_r_run (x) (w1) (w2)).1) = (0)
        · rw [if_pos hc9]
          exact (kLe_tr (kLe_rf _) (F_r_run_le hw_w2 (by omega) (x) (w1)))
        · rw [if_neg hc9]
          exact (kLe_tr (kLe_rf _) (F_r_run_le hw_w2 (by omega) (x) (w1)))
set_option maxHeartbeats 4000000 in
set_option maxRecDepth 100000 in
/-- LikeWords, bringDown -/
theorem c_t_bringDown (l : Launch) (dC : Nat → ClassId) (dI : Nat → Nat → Nat) (ao : Nat → Nat) (cI cJ cZ cR : ClassId) (M wl sz : Nat) (x : KS) (w1 : Nat) (w2 : Nat) (hM : 87 ≤ M) (hw_w1 : kW w1 = true) (hc_w1 : w1 + 1 < 87) (hw_w2 : kW w2 = true) (hc_w2 : w2 + 1 < 87) (hkM : M = kM x) (hkW : wl = kWl x) (s0 : 0 ≤ x.1 0 15) (s1 : x.1 0 15 ≤ 20) (p01 : x.1 0 16 = 0 ∨ x.1 0 16 = 1) (sx : scX x) (jr : jnR x) (okp : x.1 0 16 = 1 → rOK x) (g1 : wG x w1) (hL1 : kL w1 = 60) (hL2 : kL w2 = 60) (r2 : r03 (x.2 (w2 + 1))) (nw : w1 ≠ w2) (sl : x.1 0 15 ≤ x.1 1 3) : Met l yX11_bringDown wsX11_bringDown ({ frames := 5, cells := kPo x - kPo (F_t_bringDown x w1 w2).2, slots := kPs x - kPs (F_t_bringDown x w1 w2).2, locals := 132 }) (kPc dC dI ao cI cJ cZ cR M wl sz x [.ref (ao 0), .ref (ao w1), .ref (ao w2)]) (va_Qi (fun (r : Int32) (u : KS × (Nat → Nat)) => r = iI (F_t_bringDown x w1 w2).1 ∧ u.1 = (F_t_bringDown x w1 w2).2 ∧ (∀ c, c < 87 → u.2 c = ao c)) (fun u t => kAt dC dI u.2 cI cJ cZ cR (kM u.1) (kWl u.1) (va_A (kWd cI cJ cZ cR wl ao M x) sz) u.1 t) (va_A (kWd cI cJ cZ cR wl ao M x) sz)) (kPo x - kPo (F_t_bringDown x w1 w2).2) (kPs x - kPs (F_t_bringDown x w1 w2).2) (va_A (kWd cI cJ cZ cR wl ao M x) sz) := by
  refine Met.ofW (cc := cX11_bringDown) (maxL := 3) (ret := (some .int)) (by decide) rfl ?_
  intro p e s m args below meth c s₁ B hml hv
  obtain ⟨rfl, hsz, hP, hK, hD0, hNw⟩ := hv
  have hx := B.exec
  have hb := B.bytes
  have hr := B.returns
  have hts := atoms_spec (ws := wsX11_bringDown) B.pre
  have hown : s.vm.findClass RX11 = some m.cls := findClass_of_methodNamed B.named
  have hlocks := B.notSynchronized
  have hinX10 : ∀ w ∈ u_ws RX10 TX10 2, w ∈ wsX11_bringDown := by decide +kernel
  have hinX11 : ∀ w ∈ u_ws RX11 TX11 17, w ∈ wsX11_bringDown := by decide +kernel
  subst hsz
  have hD := hD0.self (sz := s.heap.size)
  generalize hAe : va_A (kWd cI cJ cZ cR wl ao M x) s.heap.size = A at hD ⊢
  have hA : ∀ q : Nat, s.heap.size ≤ q → A q := fun q h => by rw [← hAe]; exact Or.inr h
  have hS : va_S A s.heap s.heap [] := va_S.rf
  have hl := lv_entry ([.ref (ao 0), .ref (ao w1), .ref (ao w2)]) (n := 3) (Nat.le_of_ble_eq_true rfl)
  rw [lg_entry_eq]
  generalize (lg_sl ([.ref (ao 0), .ref (ao w1), .ref (ao w2)]) ++ List.replicate (3 - (lg_sl ([.ref (ao 0), .ref (ao w1), .ref (ao w2)])).length) Slot.unset).toArray = ls at hl ⊢
  have hl : lv_has ls 3 [(0, .ref (ao (0))), (1, .ref (ao (w1))), (2, .ref (ao (w2)))] := hl
  have key : ∀ (M wl : Nat) (ad : Nat → Nat) (H : Heap) (locs : List Loc) (ls : Array Slot), 87 ≤ M → M = kM x → wl = kWl x → (∀ c, c < 87 → ad c = ao c) → va_P (dC, dI) vwCl (kWd cI cJ cZ cR wl ad M (x)) H → va_D A (kWd cI cJ cZ cR wl ad M (x)) → va_S A s.heap H locs → lv_has ls 3 [(0, .ref (ad (0))), (1, .ref (ad (w1))), (2, .ref (ad (w2)))] → W p l e (headSpec wsX11_bringDown ({ frames := 5, cells := kPo x - kPo (F_t_bringDown x w1 w2).2, slots := kPs x - kPs (F_t_bringDown x w1 w2).2, locals := 132 })).room s m ([.ref (ao 0), .ref (ao w1), .ref (ao w2)] : List Value).toArray below meth c H locs 0 0 (MQ below (va_Qi (fun (r : Int32) (u : KS × (Nat → Nat)) => r = iI (F_t_bringDown x w1 w2).1 ∧ u.1 = (F_t_bringDown x w1 w2).2 ∧ (∀ c, c < 87 → u.2 c = ao c)) (fun u t => kAt dC dI u.2 cI cJ cZ cR (kM u.1) (kWl u.1) (A) u.1 t) (A)) ([.ref (ao 0), .ref (ao w1), .ref (ao w2)] : List Value).toArray s (kPo x - kPo (F_t_bringDown x w1 w2).2) (kPs x - kPs (F_t_bringDown x w1 w2).2) A) (F0 m 0 ls []) := by
    intro M wl ad H locs ls hM hkM hkW had hP hD hS hl
    have kle : kLe x x := kLe_rf x
    have kf9 := F_t_bringDown_le hw_w2 hc_w2 x w1
    have kf1 := kf9.1
    have kf2 := kf9.2
    have hres : (if ((F_t_isSeen (x)).1) = (0) then ((-3 : Int), x) else (if ((x).1 (0) 16) = (0) then (if ((x).1 (w1) 1) ≤ ((x).1 (0) 15) then (if ((x).1 (0) 16) = (0) then (((F_s_write ((F_j_leastOf (x) ((F_s_numberOf (x) (w1)).1)).2) (w2) ((F_j_leastOf (x) ((F_s_numberOf (x) (w1)).1)).1)).2).1 (w2) 1, (F_s_write ((F_j_leastOf (x) ((F_s_numberOf (x) (w1)).1)).2) (w2) ((F_j_leastOf (x) ((F_s_numberOf (x) (w1)).1)).1)).2) else (if ((F_r_run (x) (w1) (w2)).1) = (0) then ((-4 : Int), (F_r_run (x) (w1) (w2)).2) else (((F_r_run (x) (w1) (w2)).2).1 (w2) 1, (F_r_run (x) (w1) (w2)).2))) else ((-3 : Int), x)) else (if ((x).1 (0) 16) = (0) then (((F_s_write ((F_j_leastOf (x) ((F_s_numberOf (x) (w1)).1)).2) (w2) ((F_j_leastOf (x) ((F_s_numberOf (x) (w1)).1)).1)).2).1 (w2) 1, (F_s_write ((F_j_leastOf (x) ((F_s_numberOf (x) (w1)).1)).2) (w2) ((F_j_leastOf (x) ((F_s_numberOf (x) (w1)).1)).1)).2) else (if ((F_r_run (x) (w1) (w2)).1) = (0) then ((-4 : Int), (F_r_run (x) (w1) (w2)).2) else (((F_r_run (x) (w1) (w2)).2).1 (w2) 1, (F_r_run (x) (w1) (w2)).2))))) = F_t_bringDown x w1 w2 := rfl
    refine lv_aload_n hx hb dX11_bringDown_0 rfl (lv_at hl 0 rfl) ?_
    have hFc : ∀ q, va_A (kWd cI cJ cZ cR wl ad M (x)) H.size q → A q := fun q hq => Or.elim hq (fun ⟨k, e, hk⟩ => hD.2 k (q, e) hk) (fun hk => hA q (Nat.le_trans hS.1 hk))
    refine va_calli (va_runV (b := ad (0)) (As := []) (rest := []) ⟨hx, hb, hml, hown, hts⟩ (c_t_isSeen l dC dI ad cI cJ cZ cR M wl H.size (x)   hM s0 s1) (cwV 0 hts gX11_bringDown_X11_isSeen rfl rfl rfl (by decide +kernel) ⟨Nat.le_of_ble_eq_true rfl, Nat.le_of_ble_eq_true rfl⟩) ⟨fun a U g mk q => by obtain ⟨q0, q1, qP, qK, qD, qN⟩ := q; exact ⟨q0, q1, qP, va_K.moved (u := U) (U := U.calling g mk a) (Vm.Alike.refl U.vm) qK, qD, kNw.same (u := U) (U := U.calling g mk a) rfl qN⟩, va_recv hK hP (ci := 11) (q0 := 0) rfl (kg0 (by omega)), fun U hU hW => ⟨rfl, by rw [hU], by rw [hU]; exact hP, va_K.moved hW.alike hK, hD.weaken (fun _ _ _ _ => trivial), kNw.warm hW hNw⟩⟩ rfl rfl hl.1 rfl (lv_room (Nat.le_of_ble_eq_true rfl)) dX11_bringDown_1 ⟨(show _ ≤ kPo x - kPo (F_t_bringDown x w1 w2).2 by omega), (show _ ≤ kPs x - kPs (F_t_bringDown x w1 w2).2 by omega)⟩) hS (fun q _ h => hFc q h) hFc (fun r9 u9 t H1 locs ht hvm hw hB hz1 hk1 hS => ?_)
    obtain ⟨hP1, hK1, hD1⟩ := hB
    rw [ht] at hP1
    obtain ⟨hw1, hw2⟩ := hw
    rw [hw2] at hP1 hD1
    rw [hw1]
    rw [F_t_isSeen_2] at hP1 hD1
    have hD2 := hD1.weaken (B := A) (fun _ q _ h => hFc q.1 h)
    have hP := hP1
    have hD := hD2
    generalize H1 = H at hP hS ⊢
    refine wi_if_eq (tgt := 25) hx hb (kR01 (F_t_isSeen_01 _)) dX11_bringDown_4 (by decide) (fun c_4 => ?_) (fun c_4 => ?_)
    · skip
      rw [if_pos c_4] at hres
      refine lv_bipush (v := iI (-3 : Int)) hx hb dX11_bringDown_25 (by decide) ?_
      have kg9 : kG (x) (x) := (kG_rf _)
      have eM9 : M = kM (x) := hkM.trans (kG_M kg9).symm
      have eW9 : wl = kWl (x) := hkW.trans (kG_W kg9).symm
      have eP9 := (kG_p kg9).1
      have eS9 := (kG_p kg9).2
      have kl1 := kle.1
      have kl2 := kle.2
      have hF2 : (F_t_bringDown x w1 w2).2 = x := by
        have h9 := congrArg Prod.snd hres
        exact h9.symm
      refine W.widen (k := kPo x - kPo (F_t_bringDown x w1 w2).2) (n := kPs x - kPs (F_t_bringDown x w1 w2).2) (by rw [hF2]; omega) (by rw [hF2]; omega) ?_
      exact W.iret (v := iI ((-3 : Int))) hx hb hr (fun t ht hW => ⟨⟨iI ((-3 : Int)), (x, ad), rfl, ⟨(by have h9 := congrArg (fun z : Int × KS => iI z.1) hres; exact h9), (by have h9 := congrArg (fun z : Int × KS => z.2) hres; exact h9), had⟩, by rw [ht]; show va_P (dC, dI) vwCl (kWd cI cJ cZ cR (kWl (x)) ad (kM (x)) (x)) H; rw [← eM9, ← eW9]; exact hP, va_K.moved hW.alike hK, by show va_D A (kWd cI cJ cZ cR (kWl (x)) ad (kM (x)) (x)); rw [← eM9, ← eW9]; exact hD⟩, hS.F ht⟩) hS.2.2 dX11_bringDown_27
    · skip
      rw [if_neg c_4] at hres
      refine lv_aload_n hx hb dX11_bringDown_7 rfl (lv_at hl 0 rfl) ?_
      refine va_get (D := (dC, dI)) (ci := 11) (v := .int (iI ((x).1 (0) 16))) (C := RX11) (T := TX11) (N := 17) hx hb hts hinX11 hown hK hP (0) (kg0 (by omega)) rfl 16 (by decide) (hts (.fieldLink RX11 165 "LikeWords" "proved" "Z") (by decide +kernel)) (fun _ h9 => h9) rfl dX11_bringDown_8 ?_
      refine wi_if_ne (tgt := 28) hx hb (kR01 p01) dX11_bringDown_11 (by decide) (fun c_11 => ?_) (fun c_11 => ?_)
      · skip
        rw [if_neg c_11] at hres
        refine lv_aload_n hx hb dX11_bringDown_28 rfl (lv_at hl 0 rfl) ?_
        refine va_get (D := (dC, dI)) (ci := 11) (v := .int (iI ((x).1 (0) 16))) (C := RX11) (T := TX11) (N := 17) hx hb hts hinX11 hown hK hP (0) (kg0 (by omega)) rfl 16 (by decide) (hts (.fieldLink RX11 165 "LikeWords" "proved" "Z") (by decide +kernel)) (fun _ h9 => h9) rfl dX11_bringDown_29 ?_
        refine wi_if_ne (tgt := 63) hx hb (kR01 p01) dX11_bringDown_32 (by decide) (fun c_32 => ?_) (fun c_32 => ?_)
        · skip
          rw [if_neg c_32] at hres
          refine lv_aload_n hx hb dX11_bringDown_63 rfl (lv_at hl 0 rfl) ?_
          refine va_get (D := (dC, dI)) (ci := 11) (v := .ref (ad (70))) (C := RX11) (T := TX11) (N := 17) hx hb hts hinX11 hown hK hP (0) (kg0 (by omega)) rfl 7 (by decide) (hts (.fieldLink RX11 62 "LikeWords" "rewriter" "LLikeWords$Rewriter;") (by decide +kernel)) (fun _ h9 => h9) rfl dX11_bringDown_64 ?_
          refine lv_aload_n hx hb dX11_bringDown_67 rfl (lv_at hl 1 rfl) ?_
          refine lv_aload_n hx hb dX11_bringDown_68 rfl (lv_at hl 2 rfl) ?_
          have okq : rOK x := okp (by omega)
          have kg9 : kG (x) (x) := (kG_rf _)
          have eM9 : M = kM (x) := hkM.trans (kG_M kg9).symm
          have eW9 : wl = kWl (x) := hkW.trans (kG_W kg9).symm
          have eP9 := (kG_p kg9).1
          have eS9 := (kG_p kg9).2
          have kl1 := kle.1
          have kl2 := kle.2
          have kfn : kLe (F_r_run (x) (w1) (w2)).2 (F_t_bringDown x w1 w2).2 := by
            rw [← hres]
            by_cases hc9 : ((F_r_run (x) (w1) (w2)).1) = (0)
            · rw [if_pos hc9]
              exact (kLe_rf _)
            · rw [if_neg hc9]
              exact (kLe_rf _)
          have kf1 := kfn.1
          have kf2 := kfn.2
          have kd9 : kLe (x) (F_r_run (x) (w1) (w2)).2 := (F_r_run_le hw_w2 (by omega) (x) (w1))
          have kd1 := kd9.1
          have kd2 := kd9.2
          have hFc : ∀ q, va_A (kWd cI cJ cZ cR wl ad M (x)) H.size q → A q := fun q hq => Or.elim hq (fun ⟨k, e, hk⟩ => hD.2 k (q, e) hk) (fun hk => hA q (Nat.le_trans hS.1 hk))
          refine va_calli (va_runV (b := ad (70)) (As := [.ref (ad (w1)), .ref (ad (w2))]) (rest := []) ⟨hx, hb, hml, hown, hts⟩ (c_r_run l dC dI ad cI cJ cZ cR M wl H.size (x) (w1) (w2)  hM hw_w1 (by omega) hw_w2 (by omega) eM9 eW9 okq g1 hL1 hL2 r2) (cwV 2 hts gX11_bringDown_X6_run rfl rfl rfl (by decide +kernel) ⟨Nat.le_of_ble_eq_true rfl, Nat.le_of_ble_eq_true rfl⟩) ⟨fun a U g mk q => by obtain ⟨q0, q1, qP, qK, qD, qN⟩ := q; exact ⟨q0, q1, qP, va_K.moved (u := U) (U := U.calling g mk a) (Vm.Alike.refl U.vm) qK, qD, kNw.same (u := U) (U := U.calling g mk a) rfl qN⟩, va_recv hK hP (ci := 6) (q0 := 70) rfl (kg70 (by omega)), fun U hU hW => ⟨rfl, by rw [hU], by rw [hU]; exact hP, va_K.moved hW.alike hK, hD.weaken (fun _ _ _ _ => trivial), kNw.warm hW hNw⟩⟩ rfl rfl hl.1 rfl (lv_room (Nat.le_of_ble_eq_true rfl)) dX11_bringDown_69 ⟨(show _ ≤ kPo x - kPo (F_t_bringDown x w1 w2).2 by omega), (show _ ≤ kPs x - kPs (F_t_bringDown x w1 w2).2 by omega)⟩) hS (fun q _ h => hFc q h) hFc (fun r9 u9 t H1 locs ht hvm hw hB hz1 hk1 hS => ?_)
          obtain ⟨hP1, hK1, hD1⟩ := hB
          rw [ht] at hP1
          obtain ⟨z9, ad⟩ := u9
          obtain ⟨hw1, hw2, hw3⟩ := hw
          rw [hw1]
          have hw2 : z9 = (F_r_run (x) (w1) (w2)).2 := hw2
          subst hw2
          have hw3 := fun c (hc : c < 87) => (show ad c = _ from hw3 c hc)
          have had : ∀ c, c < 87 → ad c = ao c := fun c hc => (hw3 c hc).trans (had c hc)
          have hl : lv_has ls 3 [(0, .ref (ad (0))), (1, .ref (ad (w1))), (2, .ref (ad (w2)))] := by
            rw [hw3 (0) (by omega), hw3 (w1) (by omega), hw3 (w2) (by omega)]
            exact hl
          have hP1 : va_P (dC, dI) vwCl (kWd cI cJ cZ cR (kWl (F_r_run (x) (w1) (w2)).2) ad (kM (F_r_run (x) (w1) (w2)).2) (F_r_run (x) (w1) (w2)).2) H1 := hP1
          have hD1 : va_D A (kWd cI cJ cZ cR (kWl (F_r_run (x) (w1) (w2)).2) ad (kM (F_r_run (x) (w1) (w2)).2) (F_r_run (x) (w1) (w2)).2) := hD1.weaken (B := A) (fun _ q _ h => hFc q.1 h)
          have kle : kLe x (F_r_run (x) (w1) (w2)).2 := ⟨by omega, by omega⟩
          refine W.widen (k := kPo x - kPo (F_r_run (x) (w1) (w2)).2) (n := kPs x - kPs (F_r_run (x) (w1) (w2)).2) (by omega) (by omega) ?_
          obtain ⟨M, hkM⟩ : ∃ M9, M9 = kM (F_r_run (x) (w1) (w2)).2 := ⟨_, rfl⟩
          obtain ⟨wl, hkW⟩ : ∃ W9, W9 = kWl (F_r_run (x) (w1) (w2)).2 := ⟨_, rfl⟩
          rw [← hkM, ← hkW] at hP1 hD1
          have hM : 87 ≤ M := by rw [hkM]; exact kM_ge _
          have hP := hP1
          have hD := hD1
          generalize H1 = H at hP hS ⊢
          have rg := run_G okq hw_w1 hw_w2 hL2 hc_w2 g1 r2
          refine wi_if_eq (tgt := 82) hx hb (kR01 (Or.inr rg.2.2.2)) dX11_bringDown_72 (by decide) (fun c_72 => ?_) (fun c_72 => ?_)
          · skip
            rw [if_pos c_72] at hres
            refine lv_bipush (v := iI (-4 : Int)) hx hb dX11_bringDown_82 (by decide) ?_
            have kg9 : kG ((F_r_run (x) (w1) (w2)).2) ((F_r_run (x) (w1) (w2)).2) := (kG_rf _)
            have eM9 : M = kM ((F_r_run (x) (w1) (w2)).2) := hkM.trans (kG_M kg9).symm
            have eW9 : wl = kWl ((F_r_run (x) (w1) (w2)).2) := hkW.trans (kG_W kg9).symm
            have eP9 := (kG_p kg9).1
            have eS9 := (kG_p kg9).2
            have kl1 := kle.1
            have kl2 := kle.2
            have hF2 : (F_t_bringDown x w1 w2).2 = (F_r_run (x) (w1) (w2)).2 := by
              have h9 := congrArg Prod.snd hres
              exact h9.symm
            refine W.widen (k := kPo x - kPo (F_t_bringDown x w1 w2).2) (n := kPs x - kPs (F_t_bringDown x w1 w2).2) (by rw [hF2]; omega) (by rw [hF2]; omega) ?_
            exact W.iret (v := iI ((-4 : Int))) hx hb hr (fun t ht hW => ⟨⟨iI ((-4 : Int)), ((F_r_run (x) (w1) (w2)).2, ad), rfl, ⟨(by have h9 := congrArg (fun z : Int × KS => iI z.1) hres; exact h9), (by have h9 := congrArg (fun z : Int × KS => z.2) hres; exact h9), had⟩, by rw [ht]; show va_P (dC, dI) vwCl (kWd cI cJ cZ cR (kWl ((F_r_run (x) (w1) (w2)).2)) ad (kM ((F_r_run (x) (w1) (w2)).2)) ((F_r_run (x) (w1) (w2)).2)) H; rw [← eM9, ← eW9]; exact hP, va_K.moved hW.alike hK, by show va_D A (kWd cI cJ cZ cR (kWl ((F_r_run (x) (w1) (w2)).2)) ad (kM ((F_r_run (x) (w1) (w2)).2)) ((F_r_run (x) (w1) (w2)).2)); rw [← eM9, ← eW9]; exact hD⟩, hS.F ht⟩) hS.2.2 dX11_bringDown_84
          · skip
            rw [if_neg c_72] at hres
            refine lv_aload_n hx hb dX11_bringDown_75 rfl (lv_at hl 2 rfl) ?_
            refine va_get (D := (dC, dI)) (ci := 10) (v := .int (iI (((F_r_run (x) (w1) (w2)).2).1 (w2) 1))) (C := RX10) (T := TX10) (N := 2) hx hb hts hinX10 hown hK hP (w2) (kgw hw_w2 (by omega)) rfl 1 (by decide) (hts (.fieldLink RX11 123 "LikeWords$Word" "used" "I") (by decide +kernel)) (fun _ h9 => h9) rfl dX11_bringDown_76 ?_
            refine lv_goto (tgt := 84) hx hb dX11_bringDown_79 (by decide) ?_
            have kg9 : kG ((F_r_run (x) (w1) (w2)).2) ((F_r_run (x) (w1) (w2)).2) := (kG_rf _)
            have eM9 : M = kM ((F_r_run (x) (w1) (w2)).2) := hkM.trans (kG_M kg9).symm
            have eW9 : wl = kWl ((F_r_run (x) (w1) (w2)).2) := hkW.trans (kG_W kg9).symm
            have eP9 := (kG_p kg9).1
            have eS9 := (kG_p kg9).2
            have kl1 := kle.1
            have kl2 := kle.2
            have hF2 : (F_t_bringDown x w1 w2).2 = (F_r_run (x) (w1) (w2)).2 := by
              have h9 := congrArg Prod.snd hres
              exact h9.symm
            refine W.widen (k := kPo x - kPo (F_t_bringDown x w1 w2).2) (n := kPs x - kPs (F_t_bringDown x w1 w2).2) (by rw [hF2]; omega) (by rw [hF2]; omega) ?_
            exact W.iret (v := iI (((F_r_run (x) (w1) (w2)).2).1 (w2) 1)) hx hb hr (fun t ht hW => ⟨⟨iI (((F_r_run (x) (w1) (w2)).2).1 (w2) 1), ((F_r_run (x) (w1) (w2)).2, ad), rfl, ⟨(by have h9 := congrArg (fun z : Int × KS => iI z.1) hres; exact h9), (by have h9 := congrArg (fun z : Int × KS => z.2) hres; exact h9), had⟩, by rw [ht]; show va_P (dC, dI) vwCl (kWd cI cJ cZ cR (kWl ((F_r_run (x) (w1) (w2)).2)) ad (kM ((F_r_run (x) (w1) (w2)).2)) ((F_r_run (x) (w1) (w2)).2)) H; rw [← eM9, ← eW9]; exact hP, va_K.moved hW.alike hK, by show va_D A (kWd cI cJ cZ cR (kWl ((F_r_run (x) (w1) (w2)).2)) ad (kM ((F_r_run (x) (w1) (w2)).2)) ((F_r_run (x) (w1) (w2)).2)); rw [← eM9, ← eW9]; exact hD⟩, hS.F ht⟩) hS.2.2 dX11_bringDown_84
        · skip
          rw [if_pos c_32] at hres
          refine lv_aload_n hx hb dX11_bringDown_35 rfl (lv_at hl 0 rfl) ?_
          refine va_get (D := (dC, dI)) (ci := 11) (v := .ref (ad (1))) (C := RX11) (T := TX11) (N := 17) hx hb hts hinX11 hown hK hP (0) (kg0 (by omega)) rfl 0 (by decide) (hts (.fieldLink RX11 14 "LikeWords" "scale" "LLikeWords$Scale;") (by decide +kernel)) (fun _ h9 => h9) rfl dX11_bringDown_36 ?_
          refine lv_aload_n hx hb dX11_bringDown_39 rfl (lv_at hl 0 rfl) ?_
          refine va_get (D := (dC, dI)) (ci := 11) (v := .ref (ad (56))) (C := RX11) (T := TX11) (N := 17) hx hb hts hinX11 hown hK hP (0) (kg0 (by omega)) rfl 4 (by decide) (hts (.fieldLink RX11 35 "LikeWords" "joins" "LLikeWords$Joins;") (by decide +kernel)) (fun _ h9 => h9) rfl dX11_bringDown_40 ?_
          refine lv_aload_n hx hb dX11_bringDown_43 rfl (lv_at hl 0 rfl) ?_
          refine va_get (D := (dC, dI)) (ci := 11) (v := .ref (ad (1))) (C := RX11) (T := TX11) (N := 17) hx hb hts hinX11 hown hK hP (0) (kg0 (by omega)) rfl 0 (by decide) (hts (.fieldLink RX11 14 "LikeWords" "scale" "LLikeWords$Scale;") (by decide +kernel)) (fun _ h9 => h9) rfl dX11_bringDown_44 ?_
          refine lv_aload_n hx hb dX11_bringDown_47 rfl (lv_at hl 1 rfl) ?_
          have hFc : ∀ q, va_A (kWd cI cJ cZ cR wl ad M (x)) H.size q → A q := fun q hq => Or.elim hq (fun ⟨k, e, hk⟩ => hD.2 k (q, e) hk) (fun hk => hA q (Nat.le_trans hS.1 hk))
          refine va_calli (va_runV (b := ad (1)) (As := [.ref (ad (w1))]) (rest := [.ref (ad (56)), .ref (ad (1))]) ⟨hx, hb, hml, hown, hts⟩ (c_s_numberOf l dC dI ad cI cJ cZ cR M wl H.size (x) (w1)  hM hw_w1 (by omega) sx.1 g1.1.1 (by rw [hL1]; exact g1.1.2)) (cwV 1 hts gX11_bringDown_X8_numberOf rfl rfl rfl (by decide +kernel) ⟨Nat.le_of_ble_eq_true rfl, Nat.le_of_ble_eq_true rfl⟩) ⟨fun a U g mk q => by obtain ⟨q0, q1, qP, qK, qD, qN⟩ := q; exact ⟨q0, q1, qP, va_K.moved (u := U) (U := U.calling g mk a) (Vm.Alike.refl U.vm) qK, qD, kNw.same (u := U) (U := U.calling g mk a) rfl qN⟩, va_recv hK hP (ci := 8) (q0 := 1) rfl (kg1 (by omega)), fun U hU hW => ⟨rfl, by rw [hU], by rw [hU]; exact hP, va_K.moved hW.alike hK, hD.weaken (fun _ _ _ _ => trivial), kNw.warm hW hNw⟩⟩ rfl rfl hl.1 rfl (lv_room (Nat.le_of_ble_eq_true rfl)) dX11_bringDown_48 ⟨(show _ ≤ kPo x - kPo (F_t_bringDown x w1 w2).2 by omega), (show _ ≤ kPs x - kPs (F_t_bringDown x w1 w2).2 by omega)⟩) hS (fun q _ h => hFc q h) hFc (fun r9 u9 t H1 locs ht hvm hw hB hz1 hk1 hS => ?_)
          obtain ⟨hP1, hK1, hD1⟩ := hB
          rw [ht] at hP1
          obtain ⟨hw1, hw2⟩ := hw
          rw [hw2] at hP1 hD1
          rw [hw1]
          rw [F_s_numberOf_2] at hP1 hD1
          have hD2 := hD1.weaken (B := A) (fun _ q _ h => hFc q.1 h)
          have hP := hP1
          have hD := hD2
          generalize H1 = H at hP hS ⊢
          have nb9 : 0 ≤ (F_s_numberOf x w1).1 ∧ (F_s_numberOf x w1).1 ≤ 20000 := by first | exact numberOf_b sx g1 (by omega) | (exfalso; omega)
          have hFc : ∀ q, va_A (kWd cI cJ cZ cR wl ad M (x)) H.size q → A q := fun q hq => Or.elim hq (fun ⟨k, e, hk⟩ => hD.2 k (q, e) hk) (fun hk => hA q (Nat.le_trans hS.1 hk))
          refine va_calli (va_runV (b := ad (56)) (As := [.int (iI ((F_s_numberOf (x) (w1)).1))]) (rest := [.ref (ad (1))]) ⟨hx, hb, hml, hown, hts⟩ (c_j_leastOf l dC dI ad cI cJ cZ cR M wl H.size (x)  ((F_s_numberOf (x) (w1)).1) hM (by unfold iR; omega) jr) (cwV 1 hts gX11_bringDown_X1_leastOf rfl rfl rfl (by decide +kernel) ⟨Nat.le_of_ble_eq_true rfl, Nat.le_of_ble_eq_true rfl⟩) ⟨fun a U g mk q => by obtain ⟨q0, q1, qP, qK, qD, qN⟩ := q; exact ⟨q0, q1, qP, va_K.moved (u := U) (U := U.calling g mk a) (Vm.Alike.refl U.vm) qK, qD, kNw.same (u := U) (U := U.calling g mk a) rfl qN⟩, va_recv hK hP (ci := 1) (q0 := 56) rfl (kg56 (by omega)), fun U hU hW => ⟨rfl, by rw [hU], by rw [hU]; exact hP, va_K.moved hW.alike hK, hD.weaken (fun _ _ _ _ => trivial), kNw.warm hW hNw⟩⟩ rfl rfl hl.1 rfl (lv_room (Nat.le_of_ble_eq_true rfl)) dX11_bringDown_51 ⟨(show _ ≤ kPo x - kPo (F_t_bringDown x w1 w2).2 by omega), (show _ ≤ kPs x - kPs (F_t_bringDown x w1 w2).2 by omega)⟩) hS (fun q _ h => hFc q h) hFc (fun r9 u9 t H1 locs ht hvm hw hB hz1 hk1 hS => ?_)
          obtain ⟨hP1, hK1, hD1⟩ := hB
          rw [ht] at hP1
          obtain ⟨hw1, hw2⟩ := hw
          rw [hw2] at hP1 hD1
          rw [hw1]
          have hD2 := hD1.weaken (B := A) (fun _ q _ h => hFc q.1 h)
          have hP := hP1
          have hD := hD2
          generalize H1 = H at hP hS ⊢
          refine lv_aload_n hx hb dX11_bringDown_54 rfl (lv_at hl 2 rfl) ?_
          have ol := F_j_leastOf_ok (v := (F_s_numberOf x w1).1) jr
          have sc2 : scR (F_j_leastOf x (F_s_numberOf x w1).1).2 := (scX_of (F_j_leastOf_fr x (F_s_numberOf x w1).1) (by decide) (by decide) (by decide) sx).1
          have hFc : ∀ q, va_A (kWd cI cJ cZ cR wl ad M ((F_j_leastOf (x) ((F_s_numberOf (x) (w1)).1)).2)) H.size q → A q := fun q hq => Or.elim hq (fun ⟨k, e, hk⟩ => hD.2 k (q, e) hk) (fun hk => hA q (Nat.le_trans hS.1 hk))
          refine va_callv (va_runV (b := ad (1)) (As := [.int (iI ((F_j_leastOf (x) ((F_s_numberOf (x) (w1)).1)).1)), .ref (ad (w2))]) (rest := []) ⟨hx, hb, hml, hown, hts⟩ (c_s_write l dC dI ad cI cJ cZ cR M wl H.size ((F_j_leastOf (x) ((F_s_numberOf (x) (w1)).1)).2) (w2) ((F_j_leastOf (x) ((F_s_numberOf (x) (w1)).1)).1) hM hw_w2 (by omega) sc2 ol.2.1 (by omega)) (cwV 2 hts gX11_bringDown_X8_write rfl rfl rfl (by decide +kernel) ⟨Nat.le_of_ble_eq_true rfl, Nat.le_of_ble_eq_true rfl⟩) ⟨fun a U g mk q => by obtain ⟨q0, q1, qP, qK, qD, qN⟩ := q; exact ⟨q0, q1, qP, va_K.moved (u := U) (U := U.calling g mk a) (Vm.Alike.refl U.vm) qK, qD, kNw.same (u := U) (U := U.calling g mk a) rfl qN⟩, va_recv hK hP (ci := 8) (q0 := 1) rfl (kg1 (by omega)), fun U hU hW => ⟨rfl, by rw [hU], by rw [hU]; exact hP, va_K.moved hW.alike hK, hD.weaken (fun _ _ _ _ => trivial), kNw.warm hW hNw⟩⟩ rfl rfl hl.1 rfl (lv_room (Nat.le_of_ble_eq_true rfl)) dX11_bringDown_55 ⟨(show _ ≤ kPo x - kPo (F_t_bringDown x w1 w2).2 by omega), (show _ ≤ kPs x - kPs (F_t_bringDown x w1 w2).2 by omega)⟩) hS (fun q _ h => hFc q h) hFc (fun u9 t H1 locs ht hvm hw hB hz1 hk1 hS => ?_)
          obtain ⟨hP1, hK1, hD1⟩ := hB
          rw [ht] at hP1
          rw [hw] at hP1 hD1
          have hD2 := hD1.weaken (B := A) (fun _ q _ h => hFc q.1 h)
          have hP := hP1
          have hD := hD2
          generalize H1 = H at hP hS ⊢
          refine lv_aload_n hx hb dX11_bringDown_58 rfl (lv_at hl 2 rfl) ?_
          refine va_get (D := (dC, dI)) (ci := 10) (v := .int (iI (((F_s_write ((F_j_leastOf (x) ((F_s_numberOf (x) (w1)).1)).2) (w2) ((F_j_leastOf (x) ((F_s_numberOf (x) (w1)).1)).1)).2).1 (w2) 1))) (C := RX10) (T := TX10) (N := 2) hx hb hts hinX10 hown hK hP (w2) (kgw hw_w2 (by omega)) rfl 1 (by decide) (hts (.fieldLink RX11 123 "LikeWords$Word" "used" "I") (by decide +kernel)) (fun _ h9 => h9) rfl dX11_bringDown_59 ?_
          have kg9 : kG (x) ((F_s_write ((F_j_leastOf (x) ((F_s_numberOf (x) (w1)).1)).2) (w2) ((F_j_leastOf (x) ((F_s_numberOf (x) (w1)).1)).1)).2) := (kG_tr (kG_tr (kG_rf _) (kG_of (F_j_leastOf_fr (x) ((F_s_numberOf (x) (w1)).1)) (by first | decide | (intro h9; simp at h9; done) | (intro h9; simp at h9; omega)) (by first | decide | (intro h9; simp at h9; done) | (intro h9; simp at h9; omega)))) (kG_of (F_s_write_fr ((F_j_leastOf (x) ((F_s_numberOf (x) (w1)).1)).2) (w2) ((F_j_leastOf (x) ((F_s_numberOf (x) (w1)).1)).1)) (by first | decide | (intro h9; simp at h9; done) | (intro h9; simp at h9; omega)) (by first | decide | (intro h9; simp at h9; done) | (intro h9; simp at h9; omega))))
          have eM9 : M = kM ((F_s_write ((F_j_leastOf (x) ((F_s_numberOf (x) (w1)).1)).2) (w2) ((F_j_leastOf (x) ((F_s_numberOf (x) (w1)).1)).1)).2) := hkM.trans (kG_M kg9).symm
          have eW9 : wl = kWl ((F_s_write ((F_j_leastOf (x) ((F_s_numberOf (x) (w1)).1)).2) (w2) ((F_j_leastOf (x) ((F_s_numberOf (x) (w1)).1)).1)).2) := hkW.trans (kG_W kg9).symm
          have eP9 := (kG_p kg9).1
          have eS9 := (kG_p kg9).2
          have kl1 := kle.1
          have kl2 := kle.2
          have hF2 : (F_t_bringDown x w1 w2).2 = (F_s_write ((F_j_leastOf (x) ((F_s_numberOf (x) (w1)).1)).2) (w2) ((F_j_leastOf (x) ((F_s_numberOf (x) (w1)).1)).1)).2 := by
            have h9 := congrArg Prod.snd hres
            exact h9.symm
          refine W.widen (k := kPo x - kPo (F_t_bringDown x w1 w2).2) (n := kPs x - kPs (F_t_bringDown x w1 w2).2) (by rw [hF2]; omega) (by rw [hF2]; omega) ?_
          exact W.iret (v := iI (((F_s_write ((F_j_leastOf (x) ((F_s_numberOf (x) (w1)).1)).2) (w2) ((F_j_leastOf (x) ((F_s_numberOf (x) (w1)).1)).1)).2).1 (w2) 1)) hx hb hr (fun t ht hW => ⟨⟨iI (((F_s_write ((F_j_leastOf (x) ((F_s_numberOf (x) (w1)).1)).2) (w2) ((F_j_leastOf (x) ((F_s_numberOf (x) (w1)).1)).1)).2).1 (w2) 1), ((F_s_write ((F_j_leastOf (x) ((F_s_numberOf (x) (w1)).1)).2) (w2) ((F_j_leastOf (x) ((F_s_numberOf (x) (w1)).1)).1)).2, ad), rfl, ⟨(by have h9 := congrArg (fun z : Int × KS => iI z.1) hres; exact h9), (by have h9 := congrArg (fun z : Int × KS => z.2) hres; exact h9), had⟩, by rw [ht]; show va_P (dC, dI) vwCl (kWd cI cJ cZ cR (kWl ((F_s_write ((F_j_leastOf (x) ((F_s_numberOf (x) (w1)).1)).2) (w2) ((F_j_leastOf (x) ((F_s_numberOf (x) (w1)).1)).1)).2)) ad (kM ((F_s_write ((F_j_leastOf (x) ((F_s_numberOf (x) (w1)).1)).2) (w2) ((F_j_leastOf (x) ((F_s_numberOf (x) (w1)).1)).1)).2)) ((F_s_write ((F_j_leastOf (x) ((F_s_numberOf (x) (w1)).1)).2) (w2) ((F_j_leastOf (x) ((F_s_numberOf (x) (w1)).1)).1)).2)) H; rw [← eM9, ← eW9]; exact hP, va_K.moved hW.alike hK, by show va_D A (kWd cI cJ cZ cR (kWl ((F_s_write ((F_j_leastOf (x) ((F_s_numberOf (x) (w1)).1)).2) (w2) ((F_j_leastOf (x) ((F_s_numberOf (x) (w1)).1)).1)).2)) ad (kM ((F_s_write ((F_j_leastOf (x) ((F_s_numberOf (x) (w1)).1)).2) (w2) ((F_j_leastOf (x) ((F_s_numberOf (x) (w1)).1)).1)).2)) ((F_s_write ((F_j_leastOf (x) ((F_s_numberOf (x) (w1)).1)).2) (w2) ((F_j_leastOf (x) ((F_s_numberOf (x) (w1)).1)).1)).2)); rw [← eM9, ← eW9]; exact hD⟩, hS.F ht⟩) hS.2.2 dX11_bringDown_62
      · skip
        rw [if_pos c_11] at hres
        refine lv_aload_n hx hb dX11_bringDown_14 rfl (lv_at hl 1 rfl) ?_
        refine va_get (D := (dC, dI)) (ci := 10) (v := .int (iI ((x).1 (w1) 1))) (C := RX10) (T := TX10) (N := 2) hx hb hts hinX10 hown hK hP (w1) (kgw hw_w1 (by omega)) rfl 1 (by decide) (hts (.fieldLink RX11 123 "LikeWords$Word" "used" "I") (by decide +kernel)) (fun _ h9 => h9) rfl dX11_bringDown_15 ?_
        refine lv_aload_n hx hb dX11_bringDown_18 rfl (lv_at hl 0 rfl) ?_
        refine va_get (D := (dC, dI)) (ci := 11) (v := .int (iI ((x).1 (0) 15))) (C := RX11) (T := TX11) (N := 17) hx hb hts hinX11 hown hK hP (0) (kg0 (by omega)) rfl 15 (by decide) (hts (.fieldLink RX11 172 "LikeWords" "seenTo" "I") (by decide +kernel)) (fun _ h9 => h9) rfl dX11_bringDown_19 ?_
        refine wi_icmp_le (tgt := 28) hx hb (by have := g1.1; unfold iR; omega) (by unfold iR; omega) dX11_bringDown_22 (by decide) (fun c_22 => ?_) (fun c_22 => ?_)
        · skip
          rw [if_pos c_22] at hres
          refine lv_aload_n hx hb dX11_bringDown_28 rfl (lv_at hl 0 rfl) ?_
          refine va_get (D := (dC, dI)) (ci := 11) (v := .int (iI ((x).1 (0) 16))) (C := RX11) (T := TX11) (N := 17) hx hb hts hinX11 hown hK hP (0) (kg0 (by omega)) rfl 16 (by decide) (hts (.fieldLink RX11 165 "LikeWords" "proved" "Z") (by decide +kernel)) (fun _ h9 => h9) rfl dX11_bringDown_29 ?_
          refine wi_if_ne (tgt := 63) hx hb (kR01 p01) dX11_bringDown_32 (by decide) (fun c_32 => ?_) (fun c_32 => ?_)
          · skip
            rw [if_neg c_32] at hres
            refine lv_aload_n hx hb dX11_bringDown_63 rfl (lv_at hl 0 rfl) ?_
            refine va_get (D := (dC, dI)) (ci := 11) (v := .ref (ad (70))) (C := RX11) (T := TX11) (N := 17) hx hb hts hinX11 hown hK hP (0) (kg0 (by omega)) rfl 7 (by decide) (hts (.fieldLink RX11 62 "LikeWords" "rewriter" "LLikeWords$Rewriter;") (by decide +kernel)) (fun _ h9 => h9) rfl dX11_bringDown_64 ?_
            refine lv_aload_n hx hb dX11_bringDown_67 rfl (lv_at hl 1 rfl) ?_
            refine lv_aload_n hx hb dX11_bringDown_68 rfl (lv_at hl 2 rfl) ?_
            have okq : rOK x := okp (by omega)
            have kg9 : kG (x) (x) := (kG_rf _)
            have eM9 : M = kM (x) := hkM.trans (kG_M kg9).symm
            have eW9 : wl = kWl (x) := hkW.trans (kG_W kg9).symm
            have eP9 := (kG_p kg9).1
            have eS9 := (kG_p kg9).2
            have kl1 := kle.1
            have kl2 := kle.2
            have kfn : kLe (F_r_run (x) (w1) (w2)).2 (F_t_bringDown x w1 w2).2 := by
              rw [← hres]
              by_cases hc9 : ((F_r_run (x) (w1) (w2)).1) = (0)
              · rw [if_pos hc9]
                exact (kLe_rf _)
              · rw [if_neg hc9]
                exact (kLe_rf _)
            have kf1 := kfn.1
            have kf2 := kfn.2
            have kd9 : kLe (x) (F_r_run (x) (w1) (w2)).2 := (F_r_run_le hw_w2 (by omega) (x) (w1))
            have kd1 := kd9.1
            have kd2 := kd9.2
            have hFc : ∀ q, va_A (kWd cI cJ cZ cR wl ad M (x)) H.size q → A q := fun q hq => Or.elim hq (fun ⟨k, e, hk⟩ => hD.2 k (q, e) hk) (fun hk => hA q (Nat.le_trans hS.1 hk))
            refine va_calli (va_runV (b := ad (70)) (As := [.ref (ad (w1)), .ref (ad (w2))]) (rest := []) ⟨hx, hb, hml, hown, hts⟩ (c_r_run l dC dI ad cI cJ cZ cR M wl H.size (x) (w1) (w2)  hM hw_w1 (by omega) hw_w2 (by omega) eM9 eW9 okq g1 hL1 hL2 r2) (cwV 2 hts gX11_bringDown_X6_run rfl rfl rfl (by decide +kernel) ⟨Nat.le_of_ble_eq_true rfl, Nat.le_of_ble_eq_true rfl⟩) ⟨fun a U g mk q => by obtain ⟨q0, q1, qP, qK, qD, qN⟩ := q; exact ⟨q0, q1, qP, va_K.moved (u := U) (U := U.calling g mk a) (Vm.Alike.refl U.vm) qK, qD, kNw.same (u := U) (U := U.calling g mk a) rfl qN⟩, va_recv hK hP (ci := 6) (q0 := 70) rfl (kg70 (by omega)), fun U hU hW => ⟨rfl, by rw [hU], by rw [hU]; exact hP, va_K.moved hW.alike hK, hD.weaken (fun _ _ _ _ => trivial), kNw.warm hW hNw⟩⟩ rfl rfl hl.1 rfl (lv_room (Nat.le_of_ble_eq_true rfl)) dX11_bringDown_69 ⟨(show _ ≤ kPo x - kPo (F_t_bringDown x w1 w2).2 by omega), (show _ ≤ kPs x - kPs (F_t_bringDown x w1 w2).2 by omega)⟩) hS (fun q _ h => hFc q h) hFc (fun r9 u9 t H1 locs ht hvm hw hB hz1 hk1 hS => ?_)
            obtain ⟨hP1, hK1, hD1⟩ := hB
            rw [ht] at hP1
            obtain ⟨z9, ad⟩ := u9
            obtain ⟨hw1, hw2, hw3⟩ := hw
            rw [hw1]
            have hw2 : z9 = (F_r_run (x) (w1) (w2)).2 := hw2
            subst hw2
            have hw3 := fun c (hc : c < 87) => (show ad c = _ from hw3 c hc)
            have had : ∀ c, c < 87 → ad c = ao c := fun c hc => (hw3 c hc).trans (had c hc)
            have hl : lv_has ls 3 [(0, .ref (ad (0))), (1, .ref (ad (w1))), (2, .ref (ad (w2)))] := by
              rw [hw3 (0) (by omega), hw3 (w1) (by omega), hw3 (w2) (by omega)]
              exact hl
            have hP1 : va_P (dC, dI) vwCl (kWd cI cJ cZ cR (kWl (F_r_run (x) (w1) (w2)).2) ad (kM (F_r_run (x) (w1) (w2)).2) (F_r_run (x) (w1) (w2)).2) H1 := hP1
            have hD1 : va_D A (kWd cI cJ cZ cR (kWl (F_r_run (x) (w1) (w2)).2) ad (kM (F_r_run (x) (w1) (w2)).2) (F_r_run (x) (w1) (w2)).2) := hD1.weaken (B := A) (fun _ q _ h => hFc q.1 h)
            have kle : kLe x (F_r_run (x) (w1) (w2)).2 := ⟨by omega, by omega⟩
            refine W.widen (k := kPo x - kPo (F_r_run (x) (w1) (w2)).2) (n := kPs x - kPs (F_r_run (x) (w1) (w2)).2) (by omega) (by omega) ?_
            obtain ⟨M, hkM⟩ : ∃ M9, M9 = kM (F_r_run (x) (w1) (w2)).2 := ⟨_, rfl⟩
            obtain ⟨wl, hkW⟩ : ∃ W9, W9 = kWl (F_r_run (x) (w1) (w2)).2 := ⟨_, rfl⟩
            rw [← hkM, ← hkW] at hP1 hD1
            have hM : 87 ≤ M := by rw [hkM]; exact kM_ge _
            have hP := hP1
            have hD := hD1
            generalize H1 = H at hP hS ⊢
            have rg := run_G okq hw_w1 hw_w2 hL2 hc_w2 g1 r2
            refine wi_if_eq (tgt := 82) hx hb (kR01 (Or.inr rg.2.2.2)) dX11_bringDown_72 (by decide) (fun c_72 => ?_) (fun c_72 => ?_)
            · skip
              rw [if_pos c_72] at hres
              refine lv_bipush (v := iI (-4 : Int)) hx hb dX11_bringDown_82 (by decide) ?_
              have kg9 : kG ((F_r_run (x) (w1) (w2)).2) ((F_r_run (x) (w1) (w2)).2) := (kG_rf _)
              have eM9 : M = kM ((F_r_run (x) (w1) (w2)).2) := hkM.trans (kG_M kg9).symm
              have eW9 : wl = kWl ((F_r_run (x) (w1) (w2)).2) := hkW.trans (kG_W kg9).symm
              have eP9 := (kG_p kg9).1
              have eS9 := (kG_p kg9).2
              have kl1 := kle.1
              have kl2 := kle.2
              have hF2 : (F_t_bringDown x w1 w2).2 = (F_r_run (x) (w1) (w2)).2 := by
                have h9 := congrArg Prod.snd hres
                exact h9.symm
              refine W.widen (k := kPo x - kPo (F_t_bringDown x w1 w2).2) (n := kPs x - kPs (F_t_bringDown x w1 w2).2) (by rw [hF2]; omega) (by rw [hF2]; omega) ?_
              exact W.iret (v := iI ((-4 : Int))) hx hb hr (fun t ht hW => ⟨⟨iI ((-4 : Int)), ((F_r_run (x) (w1) (w2)).2, ad), rfl, ⟨(by have h9 := congrArg (fun z : Int × KS => iI z.1) hres; exact h9), (by have h9 := congrArg (fun z : Int × KS => z.2) hres; exact h9), had⟩, by rw [ht]; show va_P (dC, dI) vwCl (kWd cI cJ cZ cR (kWl ((F_r_run (x) (w1) (w2)).2)) ad (kM ((F_r_run (x) (w1) (w2)).2)) ((F_r_run (x) (w1) (w2)).2)) H; rw [← eM9, ← eW9]; exact hP, va_K.moved hW.alike hK, by show va_D A (kWd cI cJ cZ cR (kWl ((F_r_run (x) (w1) (w2)).2)) ad (kM ((F_r_run (x) (w1) (w2)).2)) ((F_r_run (x) (w1) (w2)).2)); rw [← eM9, ← eW9]; exact hD⟩, hS.F ht⟩) hS.2.2 dX11_bringDown_84
            · skip
              rw [if_neg c_72] at hres
              refine lv_aload_n hx hb dX11_bringDown_75 rfl (lv_at hl 2 rfl) ?_
              refine va_get (D := (dC, dI)) (ci := 10) (v := .int (iI (((F_r_run (x) (w1) (w2)).2).1 (w2) 1))) (C := RX10) (T := TX10) (N := 2) hx hb hts hinX10 hown hK hP (w2) (kgw hw_w2 (by omega)) rfl 1 (by decide) (hts (.fieldLink RX11 123 "LikeWords$Word" "used" "I") (by decide +kernel)) (fun _ h9 => h9) rfl dX11_bringDown_76 ?_
              refine lv_goto (tgt := 84) hx hb dX11_bringDown_79 (by decide) ?_
              have kg9 : kG ((F_r_run (x) (w1) (w2)).2) ((F_r_run (x) (w1) (w2)).2) := (kG_rf _)
              have eM9 : M = kM ((F_r_run (x) (w1) (w2)).2) := hkM.trans (kG_M kg9).symm
              have eW9 : wl = kWl ((F_r_run (x) (w1) (w2)).2) := hkW.trans (kG_W kg9).symm
              have eP9 := (kG_p kg9).1
              have eS9 := (kG_p kg9).2
              have kl1 := kle.1
              have kl2 := kle.2
              have hF2 : (F_t_bringDown x w1 w2).2 = (F_r_run (x) (w1) (w2)).2 := by
                have h9 := congrArg Prod.snd hres
                exact h9.symm
              refine W.widen (k := kPo x - kPo (F_t_bringDown x w1 w2).2) (n := kPs x - kPs (F_t_bringDown x w1 w2).2) (by rw [hF2]; omega) (by rw [hF2]; omega) ?_
              exact W.iret (v := iI (((F_r_run (x) (w1) (w2)).2).1 (w2) 1)) hx hb hr (fun t ht hW => ⟨⟨iI (((F_r_run (x) (w1) (w2)).2).1 (w2) 1), ((F_r_run (x) (w1) (w2)).2, ad), rfl, ⟨(by have h9 := congrArg (fun z : Int × KS => iI z.1) hres; exact h9), (by have h9 := congrArg (fun z : Int × KS => z.2) hres; exact h9), had⟩, by rw [ht]; show va_P (dC, dI) vwCl (kWd cI cJ cZ cR (kWl ((F_r_run (x) (w1) (w2)).2)) ad (kM ((F_r_run (x) (w1) (w2)).2)) ((F_r_run (x) (w1) (w2)).2)) H; rw [← eM9, ← eW9]; exact hP, va_K.moved hW.alike hK, by show va_D A (kWd cI cJ cZ cR (kWl ((F_r_run (x) (w1) (w2)).2)) ad (kM ((F_r_run (x) (w1) (w2)).2)) ((F_r_run (x) (w1) (w2)).2)); rw [← eM9, ← eW9]; exact hD⟩, hS.F ht⟩) hS.2.2 dX11_bringDown_84
          · skip
            rw [if_pos c_32] at hres
            refine lv_aload_n hx hb dX11_bringDown_35 rfl (lv_at hl 0 rfl) ?_
            refine va_get (D := (dC, dI)) (ci := 11) (v := .ref (ad (1))) (C := RX11) (T := TX11) (N := 17) hx hb hts hinX11 hown hK hP (0) (kg0 (by omega)) rfl 0 (by decide) (hts (.fieldLink RX11 14 "LikeWords" "scale" "LLikeWords$Scale;") (by decide +kernel)) (fun _ h9 => h9) rfl dX11_bringDown_36 ?_
            refine lv_aload_n hx hb dX11_bringDown_39 rfl (lv_at hl 0 rfl) ?_
            refine va_get (D := (dC, dI)) (ci := 11) (v := .ref (ad (56))) (C := RX11) (T := TX11) (N := 17) hx hb hts hinX11 hown hK hP (0) (kg0 (by omega)) rfl 4 (by decide) (hts (.fieldLink RX11 35 "LikeWords" "joins" "LLikeWords$Joins;") (by decide +kernel)) (fun _ h9 => h9) rfl dX11_bringDown_40 ?_
            refine lv_aload_n hx hb dX11_bringDown_43 rfl (lv_at hl 0 rfl) ?_
            refine va_get (D := (dC, dI)) (ci := 11) (v := .ref (ad (1))) (C := RX11) (T := TX11) (N := 17) hx hb hts hinX11 hown hK hP (0) (kg0 (by omega)) rfl 0 (by decide) (hts (.fieldLink RX11 14 "LikeWords" "scale" "LLikeWords$Scale;") (by decide +kernel)) (fun _ h9 => h9) rfl dX11_bringDown_44 ?_
            refine lv_aload_n hx hb dX11_bringDown_47 rfl (lv_at hl 1 rfl) ?_
            have hFc : ∀ q, va_A (kWd cI cJ cZ cR wl ad M (x)) H.size q → A q := fun q hq => Or.elim hq (fun ⟨k, e, hk⟩ => hD.2 k (q, e) hk) (fun hk => hA q (Nat.le_trans hS.1 hk))
            refine va_calli (va_runV (b := ad (1)) (As := [.ref (ad (w1))]) (rest := [.ref (ad (56)), .ref (ad (1))]) ⟨hx, hb, hml, hown, hts⟩ (c_s_numberOf l dC dI ad cI cJ cZ cR M wl H.size (x) (w1)  hM hw_w1 (by omega) sx.1 g1.1.1 (by rw [hL1]; exact g1.1.2)) (cwV 1 hts gX11_bringDown_X8_numberOf rfl rfl rfl (by decide +kernel) ⟨Nat.le_of_ble_eq_true rfl, Nat.le_of_ble_eq_true rfl⟩) ⟨fun a U g mk q => by obtain ⟨q0, q1, qP, qK, qD, qN⟩ := q; exact ⟨q0, q1, qP, va_K.moved (u := U) (U := U.calling g mk a) (Vm.Alike.refl U.vm) qK, qD, kNw.same (u := U) (U := U.calling g mk a) rfl qN⟩, va_recv hK hP (ci := 8) (q0 := 1) rfl (kg1 (by omega)), fun U hU hW => ⟨rfl, by rw [hU], by rw [hU]; exact hP, va_K.moved hW.alike hK, hD.weaken (fun _ _ _ _ => trivial), kNw.warm hW hNw⟩⟩ rfl rfl hl.1 rfl (lv_room (Nat.le_of_ble_eq_true rfl)) dX11_bringDown_48 ⟨(show _ ≤ kPo x - kPo (F_t_bringDown x w1 w2).2 by omega), (show _ ≤ kPs x - kPs (F_t_bringDown x w1 w2).2 by omega)⟩) hS (fun q _ h => hFc q h) hFc (fun r9 u9 t H1 locs ht hvm hw hB hz1 hk1 hS => ?_)
            obtain ⟨hP1, hK1, hD1⟩ := hB
            rw [ht] at hP1
            obtain ⟨hw1, hw2⟩ := hw
            rw [hw2] at hP1 hD1
            rw [hw1]
            rw [F_s_numberOf_2] at hP1 hD1
            have hD2 := hD1.weaken (B := A) (fun _ q _ h => hFc q.1 h)
            have hP := hP1
            have hD := hD2
            generalize H1 = H at hP hS ⊢
            have nb9 : 0 ≤ (F_s_numberOf x w1).1 ∧ (F_s_numberOf x w1).1 ≤ 20000 := by first | exact numberOf_b sx g1 (by omega) | (exfalso; omega)
            have hFc : ∀ q, va_A (kWd cI cJ cZ cR wl ad M (x)) H.size q → A q := fun q hq => Or.elim hq (fun ⟨k, e, hk⟩ => hD.2 k (q, e) hk) (fun hk => hA q (Nat.le_trans hS.1 hk))
            refine va_calli (va_runV (b := ad (56)) (As := [.int (iI ((F_s_numberOf (x) (w1)).1))]) (rest := [.ref (ad (1))]) ⟨hx, hb, hml, hown, hts⟩ (c_j_leastOf l dC dI ad cI cJ cZ cR M wl H.size (x)  ((F_s_numberOf (x) (w1)).1) hM (by unfold iR; omega) jr) (cwV 1 hts gX11_bringDown_X1_leastOf rfl rfl rfl (by decide +kernel) ⟨Nat.le_of_ble_eq_true rfl, Nat.le_of_ble_eq_true rfl⟩) ⟨fun a U g mk q => by obtain ⟨q0, q1, qP, qK, qD, qN⟩ := q; exact ⟨q0, q1, qP, va_K.moved (u := U) (U := U.calling g mk a) (Vm.Alike.refl U.vm) qK, qD, kNw.same (u := U) (U := U.calling g mk a) rfl qN⟩, va_recv hK hP (ci := 1) (q0 := 56) rfl (kg56 (by omega)), fun U hU hW => ⟨rfl, by rw [hU], by rw [hU]; exact hP, va_K.moved hW.alike hK, hD.weaken (fun _ _ _ _ => trivial), kNw.warm hW hNw⟩⟩ rfl rfl hl.1 rfl (lv_room (Nat.le_of_ble_eq_true rfl)) dX11_bringDown_51 ⟨(show _ ≤ kPo x - kPo (F_t_bringDown x w1 w2).2 by omega), (show _ ≤ kPs x - kPs (F_t_bringDown x w1 w2).2 by omega)⟩) hS (fun q _ h => hFc q h) hFc (fun r9 u9 t H1 locs ht hvm hw hB hz1 hk1 hS => ?_)
            obtain ⟨hP1, hK1, hD1⟩ := hB
            rw [ht] at hP1
            obtain ⟨hw1, hw2⟩ := hw
            rw [hw2] at hP1 hD1
            rw [hw1]
            have hD2 := hD1.weaken (B := A) (fun _ q _ h => hFc q.1 h)
            have hP := hP1
            have hD := hD2
            generalize H1 = H at hP hS ⊢
            refine lv_aload_n hx hb dX11_bringDown_54 rfl (lv_at hl 2 rfl) ?_
            have ol := F_j_leastOf_ok (v := (F_s_numberOf x w1).1) jr
            have sc2 : scR (F_j_leastOf x (F_s_numberOf x w1).1).2 := (scX_of (F_j_leastOf_fr x (F_s_numberOf x w1).1) (by decide) (by decide) (by decide) sx).1
            have hFc : ∀ q, va_A (kWd cI cJ cZ cR wl ad M ((F_j_leastOf (x) ((F_s_numberOf (x) (w1)).1)).2)) H.size q → A q := fun q hq => Or.elim hq (fun ⟨k, e, hk⟩ => hD.2 k (q, e) hk) (fun hk => hA q (Nat.le_trans hS.1 hk))
            refine va_callv (va_runV (b := ad (1)) (As := [.int (iI ((F_j_leastOf (x) ((F_s_numberOf (x) (w1)).1)).1)), .ref (ad (w2))]) (rest := []) ⟨hx, hb, hml, hown, hts⟩ (c_s_write l dC dI ad cI cJ cZ cR M wl H.size ((F_j_leastOf (x) ((F_s_numberOf (x) (w1)).1)).2) (w2) ((F_j_leastOf (x) ((F_s_numberOf (x) (w1)).1)).1) hM hw_w2 (by omega) sc2 ol.2.1 (by omega)) (cwV 2 hts gX11_bringDown_X8_write rfl rfl rfl (by decide +kernel) ⟨Nat.le_of_ble_eq_true rfl, Nat.le_of_ble_eq_true rfl⟩) ⟨fun a U g mk q => by obtain ⟨q0, q1, qP, qK, qD, qN⟩ := q; exact ⟨q0, q1, qP, va_K.moved (u := U) (U := U.calling g mk a) (Vm.Alike.refl U.vm) qK, qD, kNw.same (u := U) (U := U.calling g mk a) rfl qN⟩, va_recv hK hP (ci := 8) (q0 := 1) rfl (kg1 (by omega)), fun U hU hW => ⟨rfl, by rw [hU], by rw [hU]; exact hP, va_K.moved hW.alike hK, hD.weaken (fun _ _ _ _ => trivial), kNw.warm hW hNw⟩⟩ rfl rfl hl.1 rfl (lv_room (Nat.le_of_ble_eq_true rfl)) dX11_bringDown_55 ⟨(show _ ≤ kPo x - kPo (F_t_bringDown x w1 w2).2 by omega), (show _ ≤ kPs x - kPs (F_t_bringDown x w1 w2).2 by omega)⟩) hS (fun q _ h => hFc q h) hFc (fun u9 t H1 locs ht hvm hw hB hz1 hk1 hS => ?_)
            obtain ⟨hP1, hK1, hD1⟩ := hB
            rw [ht] at hP1
            rw [hw] at hP1 hD1
            have hD2 := hD1.weaken (B := A) (fun _ q _ h => hFc q.1 h)
            have hP := hP1
            have hD := hD2
            generalize H1 = H at hP hS ⊢
            refine lv_aload_n hx hb dX11_bringDown_58 rfl (lv_at hl 2 rfl) ?_
            refine va_get (D := (dC, dI)) (ci := 10) (v := .int (iI (((F_s_write ((F_j_leastOf (x) ((F_s_numberOf (x) (w1)).1)).2) (w2) ((F_j_leastOf (x) ((F_s_numberOf (x) (w1)).1)).1)).2).1 (w2) 1))) (C := RX10) (T := TX10) (N := 2) hx hb hts hinX10 hown hK hP (w2) (kgw hw_w2 (by omega)) rfl 1 (by decide) (hts (.fieldLink RX11 123 "LikeWords$Word" "used" "I") (by decide +kernel)) (fun _ h9 => h9) rfl dX11_bringDown_59 ?_
            have kg9 : kG (x) ((F_s_write ((F_j_leastOf (x) ((F_s_numberOf (x) (w1)).1)).2) (w2) ((F_j_leastOf (x) ((F_s_numberOf (x) (w1)).1)).1)).2) := (kG_tr (kG_tr (kG_rf _) (kG_of (F_j_leastOf_fr (x) ((F_s_numberOf (x) (w1)).1)) (by first | decide | (intro h9; simp at h9; done) | (intro h9; simp at h9; omega)) (by first | decide | (intro h9; simp at h9; done) | (intro h9; simp at h9; omega)))) (kG_of (F_s_write_fr ((F_j_leastOf (x) ((F_s_numberOf (x) (w1)).1)).2) (w2) ((F_j_leastOf (x) ((F_s_numberOf (x) (w1)).1)).1)) (by first | decide | (intro h9; simp at h9; done) | (intro h9; simp at h9; omega)) (by first | decide | (intro h9; simp at h9; done) | (intro h9; simp at h9; omega))))
            have eM9 : M = kM ((F_s_write ((F_j_leastOf (x) ((F_s_numberOf (x) (w1)).1)).2) (w2) ((F_j_leastOf (x) ((F_s_numberOf (x) (w1)).1)).1)).2) := hkM.trans (kG_M kg9).symm
            have eW9 : wl = kWl ((F_s_write ((F_j_leastOf (x) ((F_s_numberOf (x) (w1)).1)).2) (w2) ((F_j_leastOf (x) ((F_s_numberOf (x) (w1)).1)).1)).2) := hkW.trans (kG_W kg9).symm
            have eP9 := (kG_p kg9).1
            have eS9 := (kG_p kg9).2
            have kl1 := kle.1
            have kl2 := kle.2
            have hF2 : (F_t_bringDown x w1 w2).2 = (F_s_write ((F_j_leastOf (x) ((F_s_numberOf (x) (w1)).1)).2) (w2) ((F_j_leastOf (x) ((F_s_numberOf (x) (w1)).1)).1)).2 := by
              have h9 := congrArg Prod.snd hres
              exact h9.symm
            refine W.widen (k := kPo x - kPo (F_t_bringDown x w1 w2).2) (n := kPs x - kPs (F_t_bringDown x w1 w2).2) (by rw [hF2]; omega) (by rw [hF2]; omega) ?_
            exact W.iret (v := iI (((F_s_write ((F_j_leastOf (x) ((F_s_numberOf (x) (w1)).1)).2) (w2) ((F_j_leastOf (x) ((F_s_numberOf (x) (w1)).1)).1)).2).1 (w2) 1)) hx hb hr (fun t ht hW => ⟨⟨iI (((F_s_write ((F_j_leastOf (x) ((F_s_numberOf (x) (w1)).1)).2) (w2) ((F_j_leastOf (x) ((F_s_numberOf (x) (w1)).1)).1)).2).1 (w2) 1), ((F_s_write ((F_j_leastOf (x) ((F_s_numberOf (x) (w1)).1)).2) (w2) ((F_j_leastOf (x) ((F_s_numberOf (x) (w1)).1)).1)).2, ad), rfl, ⟨(by have h9 := congrArg (fun z : Int × KS => iI z.1) hres; exact h9), (by have h9 := congrArg (fun z : Int × KS => z.2) hres; exact h9), had⟩, by rw [ht]; show va_P (dC, dI) vwCl (kWd cI cJ cZ cR (kWl ((F_s_write ((F_j_leastOf (x) ((F_s_numberOf (x) (w1)).1)).2) (w2) ((F_j_leastOf (x) ((F_s_numberOf (x) (w1)).1)).1)).2)) ad (kM ((F_s_write ((F_j_leastOf (x) ((F_s_numberOf (x) (w1)).1)).2) (w2) ((F_j_leastOf (x) ((F_s_numberOf (x) (w1)).1)).1)).2)) ((F_s_write ((F_j_leastOf (x) ((F_s_numberOf (x) (w1)).1)).2) (w2) ((F_j_leastOf (x) ((F_s_numberOf (x) (w1)).1)).1)).2)) H; rw [← eM9, ← eW9]; exact hP, va_K.moved hW.alike hK, by show va_D A (kWd cI cJ cZ cR (kWl ((F_s_write ((F_j_leastOf (x) ((F_s_numberOf (x) (w1)).1)).2) (w2) ((F_j_leastOf (x) ((F_s_numberOf (x) (w1)).1)).1)).2)) ad (kM ((F_s_write ((F_j_leastOf (x) ((F_s_numberOf (x) (w1)).1)).2) (w2) ((F_j_leastOf (x) ((F_s_numberOf (x) (w1)).1)).1)).2)) ((F_s_write ((F_j_leastOf (x) ((F_s_numberOf (x) (w1)).1)).2) (w2) ((F_j_leastOf (x) ((F_s_numberOf (x) (w1)).1)).1)).2)); rw [← eM9, ← eW9]; exact hD⟩, hS.F ht⟩) hS.2.2 dX11_bringDown_62
        · skip
          rw [if_neg c_22] at hres
          refine lv_bipush (v := iI (-3 : Int)) hx hb dX11_bringDown_25 (by decide) ?_
          have kg9 : kG (x) (x) := (kG_rf _)
          have eM9 : M = kM (x) := hkM.trans (kG_M kg9).symm
          have eW9 : wl = kWl (x) := hkW.trans (kG_W kg9).symm
          have eP9 := (kG_p kg9).1
          have eS9 := (kG_p kg9).2
          have kl1 := kle.1
          have kl2 := kle.2
          have hF2 : (F_t_bringDown x w1 w2).2 = x := by
            have h9 := congrArg Prod.snd hres
            exact h9.symm
          refine W.widen (k := kPo x - kPo (F_t_bringDown x w1 w2).2) (n := kPs x - kPs (F_t_bringDown x w1 w2).2) (by rw [hF2]; omega) (by rw [hF2]; omega) ?_
          exact W.iret (v := iI ((-3 : Int))) hx hb hr (fun t ht hW => ⟨⟨iI ((-3 : Int)), (x, ad), rfl, ⟨(by have h9 := congrArg (fun z : Int × KS => iI z.1) hres; exact h9), (by have h9 := congrArg (fun z : Int × KS => z.2) hres; exact h9), had⟩, by rw [ht]; show va_P (dC, dI) vwCl (kWd cI cJ cZ cR (kWl (x)) ad (kM (x)) (x)) H; rw [← eM9, ← eW9]; exact hP, va_K.moved hW.alike hK, by show va_D A (kWd cI cJ cZ cR (kWl (x)) ad (kM (x)) (x)); rw [← eM9, ← eW9]; exact hD⟩, hS.F ht⟩) hS.2.2 dX11_bringDown_27
  exact key M wl ao _ _ ls hM hkM hkW (fun _ _ => rfl) hP hD hS hl
theorem F_t_bringDown_fr (x : KS) (w1 : Nat) (w2 : Nat) : gfr [(70, 4), (70, 5), (64, 8), (w2, 1)] [71, 72, (w2) + 1, 57] x (F_t_bringDown x w1 w2).2 := by
  unfold F_t_bringDown
  by_cases hc : ((F_t_isSeen (x)).1) = (0)
  · rw [if_pos hc]
    exact (gm_rf _ _ _)
  · rw [if_neg hc]
    by_cases hc : ((x).1 (0) 16) = (0)
    · rw [if_pos hc]
      by_cases hc : ((x).1 (w1) 1) ≤ ((x).1 (0) 15)
      · rw [if_pos hc]
        by_cases hc : ((x).1 (0) 16) = (0)
        · rw [if_pos hc]
          exact (gm_tr (gm_tr (gm_rf _ _ _) (gm_mono km0 (km1 (List.Mem.tail _ (List.Mem.tail _ (List.Mem.tail _ (List.Mem.head _)))) km0) (gm_of (F_j_leastOf_fr (x) ((F_s_numberOf (x) (w1)).1))))) (gm_mono (km1 (List.Mem.tail _ (List.Mem.tail _ (List.Mem.tail _ (List.Mem.head _)))) km0) (km1 (List.Mem.tail _ (List.Mem.tail _ (List.Mem.head _))) km0) (gm_of (F_s_write_fr ((F_j_leastOf (x) ((F_s_numberOf (x) (w1)).1)).2) (w2) ((F_j_leastOf (x) ((F_s_numberOf (x) (w1)).1)).1)))))
        · rw [if_neg hc]
          by_cases hc : ((F_r_run (x) (w1) (w2)).1) = (0)
          · rw [if_pos hc]
            exact (gm_tr (gm_rf _ _ _) (gm_mono (km1 (List.Mem.head _) (km1 (List.Mem.tail _ (List.Mem.head _)) (km1 (List.Mem.tail _ (List.Mem.tail _ (List.Mem.head _))) (km1 (List.Mem.tail _ (List.Mem.tail _ (List.Mem.tail _ (List.Mem.head _)))) km0)))) (km1 (List.Mem.head _) (km1 (List.Mem.tail _ (List.Mem.head _)) (km1 (List.Mem.tail _ (List.Mem.tail _ (List.Mem.head _))) km0))) (F_r_run_fr (x) (w1) (w2))))
          · rw [if_neg hc]
            exact (gm_tr (gm_rf _ _ _) (gm_mono (km1 (List.Mem.head _) (km1 (List.Mem.tail _ (List.Mem.head _)) (km1 (List.Mem.tail _ (List.Mem.tail _ (List.Mem.head _))) (km1 (List.Mem.tail _ (List.Mem.tail _ (List.Mem.tail _ (List.Mem.head _)))) km0)))) (km1 (List.Mem.head _) (km1 (List.Mem.tail _ (List.Mem.head _)) (km1 (List.Mem.tail _ (List.Mem.tail _ (List.Mem.head _))) km0))) (F_r_run_fr (x) (w1) (w2))))
      · rw [if_neg hc]
        exact (gm_rf _ _ _)
    · rw [if_neg hc]
      by_cases hc : ((x).1 (0) 16) = (0)
      · rw [if_pos hc]
        exact (gm_tr (gm_tr (gm_rf _ _ _) (gm_mono km0 (km1 (List.Mem.tail _ (List.Mem.tail _ (List.Mem.tail _ (List.Mem.head _)))) km0) (gm_of (F_j_leastOf_fr (x) ((F_s_numberOf (x) (w1)).1))))) (gm_mono (km1 (List.Mem.tail _ (List.Mem.tail _ (List.Mem.tail _ (List.Mem.head _)))) km0) (km1 (List.Mem.tail _ (List.Mem.tail _ (List.Mem.head _))) km0) (gm_of (F_s_write_fr ((F_j_leastOf (x) ((F_s_numberOf (x) (w1)).1)).2) (w2) ((F_j_leastOf (x) ((F_s_numberOf (x) (w1)).1)).1)))))
      · rw [if_neg hc]
        by_cases hc : ((F_r_run (x) (w1) (w2)).1) = (0)
        · rw [if_pos hc]
          exact (gm_tr (gm_rf _ _ _) (gm_mono (km1 (List.Mem.head _) (km1 (List.Mem.tail _ (List.Mem.head _)) (km1 (List.Mem.tail _ (List.Mem.tail _ (List.Mem.head _))) (km1 (List.Mem.tail _ (List.Mem.tail _ (List.Mem.tail _ (List.Mem.head _)))) km0)))) (km1 (List.Mem.head _) (km1 (List.Mem.tail _ (List.Mem.head _)) (km1 (List.Mem.tail _ (List.Mem.tail _ (List.Mem.head _))) km0))) (F_r_run_fr (x) (w1) (w2))))
        · rw [if_neg hc]
          exact (gm_tr (gm_rf _ _ _) (gm_mono (km1 (List.Mem.head _) (km1 (List.Mem.tail _ (List.Mem.head _)) (km1 (List.Mem.tail _ (List.Mem.tail _ (List.Mem.head _))) (km1 (List.Mem.tail _ (List.Mem.tail _ (List.Mem.tail _ (List.Mem.head _)))) km0)))) (km1 (List.Mem.head _) (km1 (List.Mem.tail _ (List.Mem.head _)) (km1 (List.Mem.tail _ (List.Mem.tail _ (List.Mem.head _))) km0))) (F_r_run_fr (x) (w1) (w2))))
