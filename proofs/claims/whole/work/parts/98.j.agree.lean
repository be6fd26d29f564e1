-- deps: 98.h 98.i
/-! agree, putBehind -/
def F_p_agree (x : KS)  : Int × KS := (if ((F_r_run (x) (73) (73)).1) = (0) then ((0 : Int), (F_r_run (x) (73) (73)).2) else (if ((F_r_run ((F_r_run (x) (73) (73)).2) (75) (75)).1) = (0) then ((0 : Int), (F_r_run ((F_r_run (x) (73) (73)).2) (75) (75)).2) else (if ((F_w_isSame ((F_r_run ((F_r_run (x) (73) (73)).2) (75) (75)).2) (73) (75)).1) = (0) then ((0 : Int), (F_r_run ((F_r_run (x) (73) (73)).2) (75) (75)).2) else ((1 : Int), (F_r_run ((F_r_run (x) (73) (73)).2) (75) (75)).2))))
theorem F_p_agree_le  (x : KS)  : kLe x (F_p_agree x).2 := by
  unfold F_p_agree
  by_cases hc9 : ((F_r_run (x) (73) (73)).1) = (0)
  · rw [if_pos hc9]
    exact (kLe_tr (kLe_rf _) (F_r_run_le rfl (by omega) (x) (73)))
  · rw [if_neg hc9]
    by_cases hc9 : ((F_r_run ((F_r_run (x) (73) (73)).2) (75) (75)).1) = (0)
    · rw [if_pos hc9]
      exact (kLe_tr (kLe_tr (kLe_rf _) (F_r_run_le rfl (by omega) (x) (73))) (F_r_run_le rfl (by omega) ((F_r_run (x) (73) (73)).2) (75)))
    · rw [if_neg hc9]
      by_cases hc9 : ((F_w_isSame ((F_r_run ((F_r_run (x) (73) (73)).2) (75) (75)).2) (73) (75)).1) = (0)
      · rw [if_pos hc9]
        exact (kLe_tr (kLe_tr (kLe_rf _) (F_r_run_le rfl (by omega) (x) (73))) (F_r_run_le rfl (by omega) ((F_r_run (x) (73) (73)).2) (75)))
      · rw [if_neg hc9]
        exact (kLe_tr (kLe_tr (kLe_rf _) (F_r_run_le rfl (by omega) (x) (73))) (F_r_run_le rfl (by omega) ((F_r_run (x) (73) (73)).2) (75)))
set_option maxHeartbeats 4000000 in
set_option maxRecDepth 100000 in
/-- LikeWords$Proof, agree -/
theorem c_p_agree (l : Launch) (dC : Nat → ClassId) (dI : Nat → Nat → Nat) (ao : Nat → Nat) (cI cJ cZ cR : ClassId) (M wl sz : Nat) (x : KS)  (hM : 87 ≤ M) (hkM : M = kM x) (hkW : wl = kWl x) (ok : rOK x) (g73 : wG x 73) (g75 : wG x 75) : Met l yX5_agree wsX5_agree ({ frames := 5, cells := kPo x - kPo (F_p_agree x).2, slots := kPs x - kPs (F_p_agree x).2, locals := 132 }) (kPc dC dI ao cI cJ cZ cR M wl sz x [.ref (ao 79)]) (va_Qi (fun (r : Int32) (u : KS × (Nat → Nat)) => r = iI (F_p_agree x).1 ∧ u.1 = (F_p_agree x).2 ∧ (∀ c, c < 87 → u.2 c = ao c)) (fun u t => kAt dC dI u.2 cI cJ cZ cR (kM u.1) (kWl u.1) (va_A (kWd cI cJ cZ cR wl ao M x) sz) u.1 t) (va_A (kWd cI cJ cZ cR wl ao M x) sz)) (kPo x - kPo (F_p_agree x).2) (kPs x - kPs (F_p_agree x).2) (va_A (kWd cI cJ cZ cR wl ao M x) sz) := by
  refine Met.ofW (cc := cX5_agree) (maxL := 1) (ret := (some .boolean)) (by decide) rfl ?_
  intro p e s m args below meth c s₁ B hml hv
  obtain ⟨rfl, hsz, hP, hK, hD0, hNw⟩ := hv
  have hx := B.exec
  have hb := B.bytes
  have hr := B.returns
  have hts := atoms_spec (ws := wsX5_agree) B.pre
  have hown : s.vm.findClass RX5 = some m.cls := findClass_of_methodNamed B.named
  have hlocks := B.notSynchronized
  have hinX5 : ∀ w ∈ u_ws RX5 TX5 4, w ∈ wsX5_agree := by decide +kernel
  subst hsz
  have hD := hD0.self (sz := s.heap.size)
  generalize hAe : va_A (kWd cI cJ cZ cR wl ao M x) s.heap.size = A at hD ⊢
  have hA : ∀ q : Nat, s.heap.size ≤ q → A q := fun q h => by rw [← hAe]; exact Or.inr h
  have hS : va_S A s.heap s.heap [] := va_S.rf
  have hl := lv_entry ([.ref (ao 79)]) (n := 1) (Nat.le_of_ble_eq_true rfl)
  rw [lg_entry_eq]
  generalize (lg_sl ([.ref (ao 79)]) ++ List.replicate (1 - (lg_sl ([.ref (ao 79)])).length) Slot.unset).toArray = ls at hl ⊢
  have hl : lv_has ls 1 [(0, .ref (ao (79)))] := hl
  have key : ∀ (M wl : Nat) (ad : Nat → Nat) (H : Heap) (locs : List Loc) (ls : Array Slot), 87 ≤ M → M = kM x → wl = kWl x → (∀ c, c < 87 → ad c = ao c) → va_P (dC, dI) vwCl (kWd cI cJ cZ cR wl ad M (x)) H → va_D A (kWd cI cJ cZ cR wl ad M (x)) → va_S A s.heap H locs → lv_has ls 1 [(0, .ref (ad (79)))] → W p l e (headSpec wsX5_agree ({ frames := 5, cells := kPo x - kPo (F_p_agree x).2, slots := kPs x - kPs (F_p_agree x).2, locals := 132 })).room s m ([.ref (ao 79)] : List Value).toArray below meth c H locs 0 0 (MQ below (va_Qi (fun (r : Int32) (u : KS × (Nat → Nat)) => r = iI (F_p_agree x).1 ∧ u.1 = (F_p_agree x).2 ∧ (∀ c, c < 87 → u.2 c = ao c)) (fun u t => kAt dC dI u.2 cI cJ cZ cR (kM u.1) (kWl u.1) (A) u.1 t) (A)) ([.ref (ao 79)] : List Value).toArray s (kPo x - kPo (F_p_agree x).2) (kPs x - kPs (F_p_agree x).2) A) (F0 m 0 ls []) := by
    intro M wl ad H locs ls hM hkM hkW had hP hD hS hl
    have kle : kLe x x := kLe_rf x
    have kf9 := F_p_agree_le  x 
    have kf1 := kf9.1
    have kf2 := kf9.2
    have hres : (if ((F_r_run (x) (73) (73)).1) = (0) then ((0 : Int), (F_r_run (x) (73) (73)).2) else (if ((F_r_run ((F_r_run (x) (73) (73)).2) (75) (75)).1) = (0) then ((0 : Int), (F_r_run ((F_r_run (x) (73) (73)).2) (75) (75)).2) else (if ((F_w_isSame ((F_r_run ((F_r_run (x) (73) (73)).2) (75) (75)).2) (73) (75)).1) = (0) then ((0 : Int), (F_r_run ((F_r_run (x) (73) (73)).2) (75) (75)).2) else ((1 : Int), (F_r_run ((F_r_run (x) (73) (73)).2) (75) (75)).2)))) = F_p_agree x := rfl
    refine lv_aload_n hx hb dX5_agree_0 rfl (lv_at hl 0 rfl) ?_
    refine va_get (D := (dC, dI)) (ci := 5) (v := .ref (ad (70))) (C := RX5) (T := TX5) (N := 4) hx hb hts hinX5 hown hK hP (79) (kg79 (by omega)) rfl 1 (by decide) (hts (.fieldLink RX5 13 "LikeWords$Proof" "rewriter" "LLikeWords$Rewriter;") (by decide +kernel)) (fun _ h9 => h9) rfl dX5_agree_1 ?_
    refine lv_aload_n hx hb dX5_agree_4 rfl (lv_at hl 0 rfl) ?_
    refine va_get (D := (dC, dI)) (ci := 5) (v := .ref (ad (73))) (C := RX5) (T := TX5) (N := 4) hx hb hts hinX5 hown hK hP (79) (kg79 (by omega)) rfl 2 (by decide) (hts (.fieldLink RX5 17 "LikeWords$Proof" "one" "LLikeWords$Word;") (by decide +kernel)) (fun _ h9 => h9) rfl dX5_agree_5 ?_
    refine lv_aload_n hx hb dX5_agree_8 rfl (lv_at hl 0 rfl) ?_
    refine va_get (D := (dC, dI)) (ci := 5) (v := .ref (ad (73))) (C := RX5) (T := TX5) (N := 4) hx hb hts hinX5 hown hK hP (79) (kg79 (by omega)) rfl 2 (by decide) (hts (.fieldLink RX5 17 "LikeWords$Proof" "one" "LLikeWords$Word;") (by decide +kernel)) (fun _ h9 => h9) rfl dX5_agree_9 ?_
    have kg9 : kG (x) (x) := (kG_rf _)
    have eM9 : M = kM (x) := hkM.trans (kG_M kg9).symm
    have eW9 : wl = kWl (x) := hkW.trans (kG_W kg9).symm
    have eP9 := (kG_p kg9).1
    have eS9 := (kG_p kg9).2
    have kl1 := kle.1
    have kl2 := kle.2
    have kfn : kLe (F_r_run (x) (73) (73)).2 (F_p_agree x).2 := by
      rw [← hres]
      by_cases hc9 : ((F_r_run (x) (73) (73)).1) = (0)
      · rw [if_pos hc9]
        exact (kLe_rf _)
      · rw [if_neg hc9]
        by_cases hc9 : ((F_r_run ((F_r_run (x) (73) (73)).2) (75) (75)).1) = (0)
        · rw [if_pos hc9]
          exact (kLe_tr (kLe_rf _) (F_r_run_le rfl (by omega) ((F_r_run (x) (73) (73)).2) (75)))
        · rw [if_neg hc9]
          by_cases hc9 : ((F_w_isSame ((F_r_run ((F_r_run (x) (73) (73)).2) (75) (75)).2) (73) (75)).1) = (0)
          · rw [if_pos hc9]
            exact (kLe_tr (kLe_rf _) (F_r_run_le rfl (by omega) ((F_r_run (x) (73) (73)).2) (75)))
          · rw [if_neg hc9]
            exact (kLe_tr (kLe_rf _) (F_r_run_le rfl (by omega) ((F_r_run (x) (73) (73)).2) (75)))
    have kf1 := kfn.1
    have kf2 := kfn.2
    have kd9 : kLe (x) (F_r_run (x) (73) (73)).2 := (F_r_run_le rfl (by omega) (x) (73))
    have kd1 := kd9.1
    have kd2 := kd9.2
    have hFc : ∀ q, va_A (kWd cI cJ cZ cR wl ad M (x)) H.size q → A q := fun q hq => Or.elim hq (fun ⟨k, e, hk⟩ => hD.2 k (q, e) hk) (fun hk => hA q (Nat.le_trans hS.1 hk))
    refine va_calli (va_runV (b := ad (70)) (As := [.ref (ad (73)), .ref (ad (73))]) (rest := []) ⟨hx, hb, hml, hown, hts⟩ (c_r_run l dC dI ad cI cJ cZ cR M wl H.size (x) (73) (73)  hM rfl (by omega) rfl (by omega) eM9 eW9 ok g73 rfl rfl g73.2.1) (cwV 2 hts gX5_agree_X6_run rfl rfl rfl (by decide +kernel) ⟨Nat.le_of_ble_eq_true rfl, Nat.le_of_ble_eq_true rfl⟩) ⟨fun a U g mk q => by obtain ⟨q0, q1, qP, qK, qD, qN⟩ := q; exact ⟨q0, q1, qP, va_K.moved (u := U) (U := U.calling g mk a) (Vm.Alike.refl U.vm) qK, qD, kNw.same (u := U) (U := U.calling g mk a) rfl qN⟩, va_recv hK hP (ci := 6) (q0 := 70) rfl (kg70 (by omega)), fun U hU hW => ⟨rfl, by rw [hU], by rw [hU]; exact hP, va_K.moved hW.alike hK, hD.weaken (fun _ _ _ _ => trivial), kNw.warm hW hNw⟩⟩ rfl rfl hl.1 rfl (lv_room (Nat.le_of_ble_eq_true rfl)) dX5_agree_12 ⟨(show _ ≤ kPo x - kPo (F_p_agree x).2 by omega), (show _ ≤ kPs x - kPs (F_p_agree x).2 by omega)⟩) hS (fun q _ h => hFc q h) hFc (fun r9 u9 t H1 locs ht hvm hw hB hz1 hk1 hS => ?_)
    obtain ⟨hP1, hK1, hD1⟩ := hB
    rw [ht] at hP1
    obtain ⟨z9, ad⟩ := u9
    obtain ⟨hw1, hw2, hw3⟩ := hw
    rw [hw1]
    have hw2 : z9 = (F_r_run (x) (73) (73)).2 := hw2
    subst hw2
    have hw3 := fun c (hc : c < 87) => (show ad c = _ from hw3 c hc)
    have had : ∀ c, c < 87 → ad c = ao c := fun c hc => (hw3 c hc).trans (had c hc)
    have hl : lv_has ls 1 [(0, .ref (ad (79)))] := by
      rw [hw3 (79) (by omega)]
      exact hl
    have hP1 : va_P (dC, dI) vwCl (kWd cI cJ cZ cR (kWl (F_r_run (x) (73) (73)).2) ad (kM (F_r_run (x) (73) (73)).2) (F_r_run (x) (73) (73)).2) H1 := hP1
    have hD1 : va_D A (kWd cI cJ cZ cR (kWl (F_r_run (x) (73) (73)).2) ad (kM (F_r_run (x) (73) (73)).2) (F_r_run (x) (73) (73)).2) := hD1.weaken (B := A) (fun _ q _ h => hFc q.1 h)
    have kle : kLe x (F_r_run (x) (73) (73)).2 := ⟨by omega, by omega⟩
    refine W.widen (k := kPo x - kPo (F_r_run (x) (73) (73)).2) (n := kPs x - kPs (F_r_run (x) (73) (73)).2) (by omega) (by omega) ?_
    obtain ⟨M, hkM⟩ : ∃ M9, M9 = kM (F_r_run (x) (73) (73)).2 := ⟨_, rfl⟩
    obtain ⟨wl, hkW⟩ : ∃ W9, W9 = kWl (F_r_run (x) (73) (73)).2 := ⟨_, rfl⟩
    rw [← hkM, ← hkW] at hP1 hD1
    have hM : 87 ≤ M := by rw [hkM]; exact kM_ge _
    have hP := hP1
    have hD := hD1
    generalize H1 = H at hP hS ⊢
    have rg1 := run_G (x := x) ok (w1 := 73) (w2 := 73) rfl rfl rfl (by decide) g73 g73.2.1
    have g5 := rg1.2.2.1 75 rfl (by decide) (by decide) g75
    refine wi_if_eq (tgt := 54) hx hb (kR01 (Or.inr rg1.2.2.2)) dX5_agree_15 (by decide) (fun c_15 => ?_) (fun c_15 => ?_)
    · skip
      rw [if_pos c_15] at hres
      refine lv_iconst (v := iI (0 : Int)) hx hb dX5_agree_54 (by decide) ?_
      have kg9 : kG ((F_r_run (x) (73) (73)).2) ((F_r_run (x) (73) (73)).2) := (kG_rf _)
      have eM9 : M = kM ((F_r_run (x) (73) (73)).2) := hkM.trans (kG_M kg9).symm
      have eW9 : wl = kWl ((F_r_run (x) (73) (73)).2) := hkW.trans (kG_W kg9).symm
      have eP9 := (kG_p kg9).1
      have eS9 := (kG_p kg9).2
      have kl1 := kle.1
      have kl2 := kle.2
      have hF2 : (F_p_agree x).2 = (F_r_run (x) (73) (73)).2 := by
        have h9 := congrArg Prod.snd hres
        exact h9.symm
      refine W.widen (k := kPo x - kPo (F_p_agree x).2) (n := kPs x - kPs (F_p_agree x).2) (by rw [hF2]; omega) (by rw [hF2]; omega) ?_
      exact W.zret (v := iI ((0 : Int))) hx hb hr (kz _ (by first | assumption | omega)) (fun t ht hW => ⟨⟨iI ((0 : Int)), ((F_r_run (x) (73) (73)).2, ad), rfl, ⟨(by have h9 := congrArg (fun z : Int × KS => iI z.1) hres; exact h9), (by have h9 := congrArg (fun z : Int × KS => z.2) hres; exact h9), had⟩, by rw [ht]; show va_P (dC, dI) vwCl (kWd cI cJ cZ cR (kWl ((F_r_run (x) (73) (73)).2)) ad (kM ((F_r_run (x) (73) (73)).2)) ((F_r_run (x) (73) (73)).2)) H; rw [← eM9, ← eW9]; exact hP, va_K.moved hW.alike hK, by show va_D A (kWd cI cJ cZ cR (kWl ((F_r_run (x) (73) (73)).2)) ad (kM ((F_r_run (x) (73) (73)).2)) ((F_r_run (x) (73) (73)).2)); rw [← eM9, ← eW9]; exact hD⟩, hS.F ht⟩) hS.2.2 dX5_agree_55
    · skip
      rw [if_neg c_15] at hres
      refine lv_aload_n hx hb dX5_agree_18 rfl (lv_at hl 0 rfl) ?_
      refine va_get (D := (dC, dI)) (ci := 5) (v := .ref (ad (70))) (C := RX5) (T := TX5) (N := 4) hx hb hts hinX5 hown hK hP (79) (kg79 (by omega)) rfl 1 (by decide) (hts (.fieldLink RX5 13 "LikeWords$Proof" "rewriter" "LLikeWords$Rewriter;") (by decide +kernel)) (fun _ h9 => h9) rfl dX5_agree_19 ?_
      refine lv_aload_n hx hb dX5_agree_22 rfl (lv_at hl 0 rfl) ?_
      refine va_get (D := (dC, dI)) (ci := 5) (v := .ref (ad (75))) (C := RX5) (T := TX5) (N := 4) hx hb hts hinX5 hown hK hP (79) (kg79 (by omega)) rfl 3 (by decide) (hts (.fieldLink RX5 21 "LikeWords$Proof" "other" "LLikeWords$Word;") (by decide +kernel)) (fun _ h9 => h9) rfl dX5_agree_23 ?_
      refine lv_aload_n hx hb dX5_agree_26 rfl (lv_at hl 0 rfl) ?_
      refine va_get (D := (dC, dI)) (ci := 5) (v := .ref (ad (75))) (C := RX5) (T := TX5) (N := 4) hx hb hts hinX5 hown hK hP (79) (kg79 (by omega)) rfl 3 (by decide) (hts (.fieldLink RX5 21 "LikeWords$Proof" "other" "LLikeWords$Word;") (by decide +kernel)) (fun _ h9 => h9) rfl dX5_agree_27 ?_
      have kg9 : kG ((F_r_run (x) (73) (73)).2) ((F_r_run (x) (73) (73)).2) := (kG_rf _)
      have eM9 : M = kM ((F_r_run (x) (73) (73)).2) := hkM.trans (kG_M kg9).symm
      have eW9 : wl = kWl ((F_r_run (x) (73) (73)).2) := hkW.trans (kG_W kg9).symm
      have eP9 := (kG_p kg9).1
      have eS9 := (kG_p kg9).2
      have kl1 := kle.1
      have kl2 := kle.2
      have kfn : kLe (F_r_run ((F_r_run (x) (73) (73)).2) (75) (75)).2 (F_p_agree x).2 := by
        rw [← hres]
        by_cases hc9 : ((F_r_run ((F_r_run (x) (73) (73)).2) (75) (75)).1) = (0)
        · rw [if_pos hc9]
          exact (kLe_rf _)
        · rw [if_neg hc9]
          by_cases hc9 : ((F_w_isSame ((F_r_run ((F_r_run (x) (73) (73)).2) (75) (75)).2) (73) (75)).1) = (0)
          · rw [if_pos hc9]
            exact (kLe_rf _)
          · rw [if_neg hc9]
            exact (kLe_rf _)
      have kf1 := kfn.1
      have kf2 := kfn.2
      have kd9 : kLe ((F_r_run (x) (73) (73)).2) (F_r_run ((F_r_run (x) (73) (73)).2) (75) (75)).2 := (F_r_run_le rfl (by omega) ((F_r_run (x) (73) (73)).2) (75))
      have kd1 := kd9.1
      have kd2 := kd9.2
      have hFc : ∀ q, va_A (kWd cI cJ cZ cR wl ad M ((F_r_run (x) (73) (73)).2)) H.size q → A q := fun q hq => Or.elim hq (fun ⟨k, e, hk⟩ => hD.2 k (q, e) hk) (fun hk => hA q (Nat.le_trans hS.1 hk))
      refine va_calli (va_runV (b := ad (70)) (As := [.ref (ad (75)), .ref (ad (75))]) (rest := []) ⟨hx, hb, hml, hown, hts⟩ (c_r_run l dC dI ad cI cJ cZ cR M wl H.size ((F_r_run (x) (73) (73)).2) (75) (75)  hM rfl (by omega) rfl (by omega) eM9 eW9 rg1.1 g5 rfl rfl g5.2.1) (cwV 2 hts gX5_agree_X6_run rfl rfl rfl (by decide +kernel) ⟨Nat.le_of_ble_eq_true rfl, Nat.le_of_ble_eq_true rfl⟩) ⟨fun a U g mk q => by obtain ⟨q0, q1, qP, qK, qD, qN⟩ := q; exact ⟨q0, q1, qP, va_K.moved (u := U) (U := U.calling g mk a) (Vm.Alike.refl U.vm) qK, qD, kNw.same (u := U) (U := U.calling g mk a) rfl qN⟩, va_recv hK hP (ci := 6) (q0 := 70) rfl (kg70 (by omega)), fun U hU hW => ⟨rfl, by rw [hU], by rw [hU]; exact hP, va_K.moved hW.alike hK, hD.weaken (fun _ _ _ _ => trivial), kNw.warm hW hNw⟩⟩ rfl rfl hl.1 rfl (lv_room (Nat.le_of_ble_eq_true rfl)) dX5_agree_30 ⟨(show _ ≤ kPo x - kPo (F_p_agree x).2 by omega), (show _ ≤ kPs x - kPs (F_p_agree x).2 by omega)⟩) hS (fun q _ h => hFc q h) hFc (fun r9 u9 t H1 locs ht hvm hw hB hz1 hk1 hS => ?_)
      obtain ⟨hP1, hK1, hD1⟩ := hB
      rw [ht] at hP1
      obtain ⟨z9, ad⟩ := u9
      obtain ⟨hw1, hw2, hw3⟩ := hw
      rw [hw1]
      have hw2 : z9 = (F_r_run ((F_r_run (x) (73) (73)).2) (75) (75)).2 := hw2
      subst hw2
      have hw3 := fun c (hc : c < 87) => (show ad c = _ from hw3 c hc)
      have had : ∀ c, c < 87 → ad c = ao c := fun c hc => (hw3 c hc).trans (had c hc)
      have hl : lv_has ls 1 [(0, .ref (ad (79)))] := by
        rw [hw3 (79) (by omega)]
        exact hl
      have hP1 : va_P (dC, dI) vwCl (kWd cI cJ cZ cR (kWl (F_r_run ((F_r_run (x) (73) (73)).2) (75) (75)).2) ad (kM (F_r_run ((F_r_run (x) (73) (73)).2) (75) (75)).2) (F_r_run ((F_r_run (x) (73) (73)).2) (75) (75)).2) H1 := hP1
      have hD1 : va_D A (kWd cI cJ cZ cR (kWl (F_r_run ((F_r_run (x) (73) (73)).2) (75) (75)).2) ad (kM (F_r_run ((F_r_run (x) (73) (73)).2) (75) (75)).2) (F_r_run ((F_r_run (x) (73) (73)).2) (75) (75)).2) := hD1.weaken (B := A) (fun _ q _ h => hFc q.1 h)
      have kle : kLe x (F_r_run ((F_r_run (x) (73) (73)).2) (75) (75)).2 := ⟨by omega, by omega⟩
      refine W.widen (k := kPo x - kPo (F_r_run ((F_r_run (x) (73) (73)).2) (75) (75)).2) (n := kPs x - kPs (F_r_run ((F_r_run (x) (73) (73)).2) (75) (75)).2) (by omega) (by omega) ?_
      obtain ⟨M, hkM⟩ : ∃ M9, M9 = kM (F_r_run ((F_r_run (x) (73) (73)).2) (75) (75)).2 := ⟨_, rfl⟩
      obtain ⟨wl, hkW⟩ : ∃ W9, W9 = kWl (F_r_run ((F_r_run (x) (73) (73)).2) (75) (75)).2 := ⟨_, rfl⟩
      rw [← hkM, ← hkW] at hP1 hD1
      have hM : 87 ≤ M := by rw [hkM]; exact kM_ge _
      have hP := hP1
      have hD := hD1
      generalize H1 = H at hP hS ⊢
      have rg2 := run_G (x := (F_r_run x 73 73).2) rg1.1 (w1 := 75) (w2 := 75) rfl rfl rfl (by decide) g5 g5.2.1
      have g3 := rg2.2.2.1 73 rfl (by decide) (by decide) rg1.2.1
      have g6 := rg2.2.1
      refine wi_if_eq (tgt := 54) hx hb (kR01 (Or.inr rg2.2.2.2)) dX5_agree_33 (by decide) (fun c_33 => ?_) (fun c_33 => ?_)
      · skip
        rw [if_pos c_33] at hres
        refine lv_iconst (v := iI (0 : Int)) hx hb dX5_agree_54 (by decide) ?_
        have kg9 : kG ((F_r_run ((F_r_run (x) (73) (73)).2) (75) (75)).2) ((F_r_run ((F_r_run (x) (73) (73)).2) (75) (75)).2) := (kG_rf _)
        have eM9 : M = kM ((F_r_run ((F_r_run (x) (73) (73)).2) (75) (75)).2) := hkM.trans (kG_M kg9).symm
        have eW9 : wl = kWl ((F_r_run ((F_r_run (x) (73) (73)).2) (75) (75)).2) := hkW.trans (kG_W kg9).symm
        have eP9 := (kG_p kg9).1
        have eS9 := (kG_p kg9).2
        have kl1 := kle.1
        have kl2 := kle.2
        have hF2 : (F_p_agree x).2 = (F_r_run ((F_r_run (x) (73) (73)).2) (75) (75)).2 := by
          have h9 := congrArg Prod.snd hres
          exact h9.symm
        refine W.widen (k := kPo x - kPo (F_p_agree x).2) (n := kPs x - kPs (F_p_agree x).2) (by rw [hF2]; omega) (by rw [hF2]; omega) ?_
        exact W.zret (v := iI ((0 : Int))) hx hb hr (kz _ (by first | assumption | omega)) (fun t ht hW => ⟨⟨iI ((0 : Int)), ((F_r_run ((F_r_run (x) (73) (73)).2) (75) (75)).2, ad), rfl, ⟨(by have h9 := congrArg (fun z : Int × KS => iI z.1) hres; exact h9), (by have h9 := congrArg (fun z : Int × KS => z.2) hres; exact h9), had⟩, by rw [ht]; show va_P (dC, dI) vwCl (kWd cI cJ cZ cR (kWl ((F_r_run ((F_r_run (x) (73) (73)).2) (75) (75)).2)) ad (kM ((F_r_run ((F_r_run (x) (73) (73)).2) (75) (75)).2)) ((F_r_run ((F_r_run (x) (73) (73)).2) (75) (75)).2)) H; rw [← eM9, ← eW9]; exact hP, va_K.moved hW.alike hK, by show va_D A (kWd cI cJ cZ cR (kWl ((F_r_run ((F_r_run (x) (73) (73)).2) (75) (75)).2)) ad (kM ((F_r_run ((F_r_run (x) (73) (73)).2) (75) (75)).2)) ((F_r_run ((F_r_run (x) (73) (73)).2) (75) (75)).2)); rw [← eM9, ← eW9]; exact hD⟩, hS.F ht⟩) hS.2.2 dX5_agree_55
      · skip
        rw [if_neg c_33] at hres
        refine lv_aload_n hx hb dX5_agree_36 rfl (lv_at hl 0 rfl) ?_
        refine va_get (D := (dC, dI)) (ci := 5) (v := .ref (ad (73))) (C := RX5) (T := TX5) (N := 4) hx hb hts hinX5 hown hK hP (79) (kg79 (by omega)) rfl 2 (by decide) (hts (.fieldLink RX5 17 "LikeWords$Proof" "one" "LLikeWords$Word;") (by decide +kernel)) (fun _ h9 => h9) rfl dX5_agree_37 ?_
        refine lv_aload_n hx hb dX5_agree_40 rfl (lv_at hl 0 rfl) ?_
        refine va_get (D := (dC, dI)) (ci := 5) (v := .ref (ad (75))) (C := RX5) (T := TX5) (N := 4) hx hb hts hinX5 hown hK hP (79) (kg79 (by omega)) rfl 3 (by decide) (hts (.fieldLink RX5 21 "LikeWords$Proof" "other" "LLikeWords$Word;") (by decide +kernel)) (fun _ h9 => h9) rfl dX5_agree_41 ?_
        have hFc : ∀ q, va_A (kWd cI cJ cZ cR wl ad M ((F_r_run ((F_r_run (x) (73) (73)).2) (75) (75)).2)) H.size q → A q := fun q hq => Or.elim hq (fun ⟨k, e, hk⟩ => hD.2 k (q, e) hk) (fun hk => hA q (Nat.le_trans hS.1 hk))
        refine va_calli (va_runV (b := ad (73)) (As := [.ref (ad (75))]) (rest := []) ⟨hx, hb, hml, hown, hts⟩ (c_w_isSame l dC dI ad cI cJ cZ cR M wl H.size ((F_r_run ((F_r_run (x) (73) (73)).2) (75) (75)).2) (73) (75)  hM rfl (by omega) rfl (by omega) g3.1.1 g3.1.2 g6.1.1 g6.1.2 (r03_R g3.2.1) (r03_R g6.2.1)) (cwV 1 hts gX5_agree_X10_isSame rfl rfl rfl (by decide +kernel) ⟨Nat.le_of_ble_eq_true rfl, Nat.le_of_ble_eq_true rfl⟩) ⟨fun a U g mk q => by obtain ⟨q0, q1, qP, qK, qD, qN⟩ := q; exact ⟨q0, q1, qP, va_K.moved (u := U) (U := U.calling g mk a) (Vm.Alike.refl U.vm) qK, qD, kNw.same (u := U) (U := U.calling g mk a) rfl qN⟩, va_recv hK hP (ci := 10) (q0 := 73) rfl (kgw rfl (by omega)), fun U hU hW => ⟨rfl, by rw [hU], by rw [hU]; exact hP, va_K.moved hW.alike hK, hD.weaken (fun _ _ _ _ => trivial), kNw.warm hW hNw⟩⟩ rfl rfl hl.1 rfl (lv_room (Nat.le_of_ble_eq_true rfl)) dX5_agree_44 ⟨(show _ ≤ kPo x - kPo (F_p_agree x).2 by omega), (show _ ≤ kPs x - kPs (F_p_agree x).2 by omega)⟩) hS (fun q _ h => hFc q h) hFc (fun r9 u9 t H1 locs ht hvm hw hB hz1 hk1 hS => ?_)
        obtain ⟨hP1, hK1, hD1⟩ := hB
        rw [ht] at hP1
        obtain ⟨hw1, hw2⟩ := hw
        rw [hw2] at hP1 hD1
        rw [hw1]
        rw [F_w_isSame_2] at hP1 hD1
        have hD2 := hD1.weaken (B := A) (fun _ q _ h => hFc q.1 h)
        have hP := hP1
        have hD := hD2
        generalize H1 = H at hP hS ⊢
        refine wi_if_eq (tgt := 54) hx hb (kR01 (F_w_isSame_01 _ _ _)) dX5_agree_47 (by decide) (fun c_47 => ?_) (fun c_47 => ?_)
        · skip
          rw [if_pos c_47] at hres
          refine lv_iconst (v := iI (0 : Int)) hx hb dX5_agree_54 (by decide) ?_
          have kg9 : kG ((F_r_run ((F_r_run (x) (73) (73)).2) (75) (75)).2) ((F_r_run ((F_r_run (x) (73) (73)).2) (75) (75)).2) := (kG_rf _)
          have eM9 : M = kM ((F_r_run ((F_r_run (x) (73) (73)).2) (75) (75)).2) := hkM.trans (kG_M kg9).symm
          have eW9 : wl = kWl ((F_r_run ((F_r_run (x) (73) (73)).2) (75) (75)).2) := hkW.trans (kG_W kg9).symm
          have eP9 := (kG_p kg9).1
          have eS9 := (kG_p kg9).2
          have kl1 := kle.1
          have kl2 := kle.2
          have hF2 : (F_p_agree x).2 = (F_r_run ((F_r_run (x) (73) (73)).2) (75) (75)).2 := by
            have h9 := congrArg Prod.snd hres
            exact h9.symm
          refine W.widen (k := kPo x - kPo (F_p_agree x).2) (n := kPs x - kPs (F_p_agree x).2) (by rw [hF2]; omega) (by rw [hF2]; omega) ?_
          exact W.zret (v := iI ((0 : Int))) hx hb hr (kz _ (by first | assumption | omega)) (fun t ht hW => ⟨⟨iI ((0 : Int)), ((F_r_run ((F_r_run (x) (73) (73)).2) (75) (75)).2, ad), rfl, ⟨(by have h9 := congrArg (fun z : Int × KS => iI z.1) hres; exact h9), (by have h9 := congrArg (fun z : Int × KS => z.2) hres; exact h9), had⟩, by rw [ht]; show va_P (dC, dI) vwCl (kWd cI cJ cZ cR (kWl ((F_r_run ((F_r_run (x) (73) (73)).2) (75) (75)).2)) ad (kM ((F_r_run ((F_r_run (x) (73) (73)).2) (75) (75)).2)) ((F_r_run ((F_r_run (x) (73) (73)).2) (75) (75)).2)) H; rw [← eM9, ← eW9]; exact hP, va_K.moved hW.alike hK, by show va_D A (kWd cI cJ cZ cR (kWl ((F_r_run ((F_r_run (x) (73) (73)).2) (75) (75)).2)) ad (kM ((F_r_run ((F_r_run (x) (73) (73)).2) (75) (75)).2)) ((F_r_run ((F_r_run (x) (73) (73)).2) (75) (75)).2)); rw [← eM9, ← eW9]; exact hD⟩, hS.F ht⟩) hS.2.2 dX5_agree_55
        · skip
          rw [if_neg c_47] at hres
          refine lv_iconst (v := iI (1 : Int)) hx hb dX5_agree_50 (by decide) ?_
          refine lv_goto (tgt := 55) hx hb dX5_agree_51 (by decide) ?_
          have kg9 : kG ((F_r_run ((F_r_run (x) (73) (73)).2) (75) (75)).2) ((F_r_run ((F_r_run (x) (73) (73)).2) (75) (75)).2) := (kG_rf _)
          have eM9 : M = kM ((F_r_run ((F_r_run (x) (73) (73)).2) (75) (75)).2) := hkM.trans (kG_M kg9).symm
          have eW9 : wl = kWl ((F_r_run ((F_r_run (x) (73) (73)).2) (75) (75)).2) := hkW.trans (kG_W kg9).symm
          have eP9 := (kG_p kg9).1
          have eS9 := (kG_p kg9).2
          have kl1 := kle.1
          have kl2 := kle.2
          have hF2 : (F_p_agree x).2 = (F_r_run ((F_r_run (x) (73) (73)).2) (75) (75)).2 := by
            have h9 := congrArg Prod.snd hres
            exact h9.symm
          refine W.widen (k := kPo x - kPo (F_p_agree x).2) (n := kPs x - kPs (F_p_agree x).2) (by rw [hF2]; omega) (by rw [hF2]; omega) ?_
          exact W.zret (v := iI ((1 : Int))) hx hb hr (kz _ (by first | assumption | omega)) (fun t ht hW => ⟨⟨iI ((1 : Int)), ((F_r_run ((F_r_run (x) (73) (73)).2) (75) (75)).2, ad), rfl, ⟨(by have h9 := congrArg (fun z : Int × KS => iI z.1) hres; exact h9), (by have h9 := congrArg (fun z : Int × KS => z.2) hres; exact h9), had⟩, by rw [ht]; show va_P (dC, dI) vwCl (kWd cI cJ cZ cR (kWl ((F_r_run ((F_r_run (x) (73) (73)).2) (75) (75)).2)) ad (kM ((F_r_run ((F_r_run (x) (73) (73)).2) (75) (75)).2)) ((F_r_run ((F_r_run (x) (73) (73)).2) (75) (75)).2)) H; rw [← eM9, ← eW9]; exact hP, va_K.moved hW.alike hK, by show va_D A (kWd cI cJ cZ cR (kWl ((F_r_run ((F_r_run (x) (73) (73)).2) (75) (75)).2)) ad (kM ((F_r_run ((F_r_run (x) (73) (73)).2) (75) (75)).2)) ((F_r_run ((F_r_run (x) (73) (73)).2) (75) (75)).2)); rw [← eM9, ← eW9]; exact hD⟩, hS.F ht⟩) hS.2.2 dX5_agree_55
  exact key M wl ao _ _ ls hM hkM hkW (fun _ _ => rfl) hP hD hS hl
theorem F_p_agree_fr (x : KS)  : gfr [(70, 4), (70, 5), (64, 8), (73, 1), (75, 1)] [71, 72, 74, 76] x (F_p_agree x).2 := by
  unfold F_p_agree
  by_cases hc : ((F_r_run (x) (73) (73)).1) = (0)
  · rw [if_pos hc]
    exact (gm_tr (gm_rf _ _ _) (gm_mono (km1 (List.Mem.head _) (km1 (List.Mem.tail _ (List.Mem.head _)) (km1 (List.Mem.tail _ (List.Mem.tail _ (List.Mem.head _))) (km1 (List.Mem.tail _ (List.Mem.tail _ (List.Mem.tail _ (List.Mem.head _)))) km0)))) (km1 (List.Mem.head _) (km1 (List.Mem.tail _ (List.Mem.head _)) (km1 (List.Mem.tail _ (List.Mem.tail _ (List.Mem.head _))) km0))) (F_r_run_fr (x) (73) (73))))
  · rw [if_neg hc]
    by_cases hc : ((F_r_run ((F_r_run (x) (73) (73)).2) (75) (75)).1) = (0)
    · rw [if_pos hc]
      exact (gm_tr (gm_tr (gm_rf _ _ _) (gm_mono (km1 (List.Mem.head _) (km1 (List.Mem.tail _ (List.Mem.head _)) (km1 (List.Mem.tail _ (List.Mem.tail _ (List.Mem.head _))) (km1 (List.Mem.tail _ (List.Mem.tail _ (List.Mem.tail _ (List.Mem.head _)))) km0)))) (km1 (List.Mem.head _) (km1 (List.Mem.tail _ (List.Mem.head _)) (km1 (List.Mem.tail _ (List.Mem.tail _ (List.Mem.head _))) km0))) (F_r_run_fr (x) (73) (73)))) (gm_mono (km1 (List.Mem.head _) (km1 (List.Mem.tail _ (List.Mem.head _)) (km1 (List.Mem.tail _ (List.Mem.tail _ (List.Mem.head _))) (km1 (List.Mem.tail _ (List.Mem.tail _ (List.Mem.tail _ (List.Mem.tail _ (List.Mem.head _))))) km0)))) (km1 (List.Mem.head _) (km1 (List.Mem.tail _ (List.Mem.head _)) (km1 (List.Mem.tail _ (List.Mem.tail _ (List.Mem.tail _ (List.Mem.head _)))) km0))) (F_r_run_fr ((F_r_run (x) (73) (73)).2) (75) (75))))
    · rw [if_neg hc]
      by_cases hc : ((F_w_isSame ((F_r_run ((F_r_run (x) (73) (73)).2) (75) (75)).2) (73) (75)).1) = (0)
      · rw [if_pos hc]
        exact (gm_tr (gm_tr (gm_rf _ _ _) (gm_mono (km1 (List.Mem.head _) (km1 (List.Mem.tail _ (List.Mem.head _)) (km1 (List.Mem.tail _ (List.Mem.tail _ (List.Mem.head _))) (km1 (List.Mem.tail _ (List.Mem.tail _ (List.Mem.tail _ (List.Mem.head _)))) km0)))) (km1 (List.Mem.head _) (km1 (List.Mem.tail _ (List.Mem.head _)) (km1 (List.Mem.tail _ (List.Mem.tail _ (List.Mem.head _))) km0))) (F_r_run_fr (x) (73) (73)))) (gm_mono (km1 (List.Mem.head _) (km1 (List.Mem.tail _ (List.Mem.head _)) (km1 (List.Mem.tail _ (List.Mem.tail _ (List.Mem.head _))) (km1 (List.Mem.tail _ (List.Mem.tail _ (List.Mem.tail _ (List.Mem.tail _ (List.Mem.head _))))) km0)))) (km1 (List.Mem.head _) (km1 (List.Mem.tail _ (List.Mem.head _)) (km1 (List.Mem.tail _ (List.Mem.tail _ (List.Mem.tail _ (List.Mem.head _)))) km0))) (F_r_run_fr ((F_r_run (x) (73) (73)).2) (75) (75))))
      · rw [if_neg hc]
        exact (gm_tr (gm_tr (gm_rf _ _ _) (gm_mono (km1 (List.Mem.head _) (km1 (List.Mem.tail _ (List.Mem.head _)) (km1 (List.Mem.tail _ (List.Mem.tail _ (List.Mem.head _))) (km1 (List.Mem.tail _ (List.Mem.tail _ (List.Mem.tail _ (List.Mem.head _)))) km0)))) (km1 (List.Mem.head _) (km1 (List.Mem.tail _ (List.Mem.head _)) (km1 (List.Mem.tail _ (List.Mem.tail _ (List.Mem.head _))) km0))) (F_r_run_fr (x) (73) (73)))) (gm_mono (km1 (List.Mem.head _) (km1 (List.Mem.tail _ (List.Mem.head _)) (km1 (List.Mem.tail _ (List.Mem.tail _ (List.Mem.head _))) (km1 (List.Mem.tail _ (List.Mem.tail _ (List.Mem.tail _ (List.Mem.tail _ (List.Mem.head _))))) km0)))) (km1 (List.Mem.head _) (km1 (List.Mem.tail _ (List.Mem.head _)) (km1 (List.Mem.tail _ (List.Mem.tail _ (List.Mem.tail _ (List.Mem.head _)))) km0))) (F_r_run_fr ((F_r_run (x) (73) (73)).2) (75) (75))))
/-- agree: the two STRINGS, brought down, and whether they are alike -/
theorem agree_x {x : KS} (ok : rOK x) (g73 : wG x 73) (g75 : wG x 75) : rOK (F_p_agree x).2 ∧ wG (F_p_agree x).2 73 ∧ wG (F_p_agree x).2 75 ∧ ∃ U V : List Int, rch (lS x) (rS x) (nR x) (wS x 73) U ∧ noL (lS x) (nR x) U ∧ rch (lS x) (rS x) (nR x) (wS x 75) V ∧ noL (lS x) (nR x) V ∧ (F_p_agree x).1 = if U = V then 1 else 0 := by
  have r1 := run_G ok (w1 := 73) (w2 := 73) rfl rfl rfl (by decide) g73 g73.2.1
  obtain ⟨_, _, e1, U, u1, u2, u3, u4, u5⟩ := rOK_run ok (w1 := 73) (w2 := 73) rfl rfl rfl (by decide) g73 g73.2.1
  have m1 := F_r_run_M (w2 := 73) rfl x 73
  have f1 := F_r_run_fr x 73 73
  have s75 : wS (F_r_run x 73 73).2 75 = wS x 75 := by
    unfold wS
    rw [f1.1 75 1 (by decide) (by decide), f1.2 76 (by decide) (by decide)]
  have g5 := r1.2.2.1 75 rfl (by decide) (by decide) g75
  have r2 := run_G r1.1 (w1 := 75) (w2 := 75) rfl rfl rfl (by decide) g5 g5.2.1
  obtain ⟨_, _, e2, V, v1, v2, v3, v4, v5⟩ := rOK_run r1.1 (w1 := 75) (w2 := 75) rfl rfl rfl (by decide) g5 g5.2.1
  have g3 := r2.2.2.1 73 rfl (by decide) (by decide) r1.2.1
  rw [sM_lS m1, sM_rS m1, sM_nR m1, s75] at v4
  rw [sM_lS m1, sM_nR m1] at v5
  have f2 := F_r_run_fr (F_r_run x 73 73).2 75 75
  have u6 : wL (F_r_run (F_r_run x 73 73).2 75 75).2 73 U := ⟨by rw [f2.1 73 1 (by decide) (by decide)]; exact u1.1, by rw [f2.2 74 (by decide) (by decide)]; exact u1.2⟩
  have is := F_w_isSame_x u6 v1 u3
  have key : F_p_agree x = (if U = V then 1 else 0, (F_r_run (F_r_run x 73 73).2 75 75).2) := by
    unfold F_p_agree
    rw [e1, if_neg (by decide), e2, if_neg (by decide), is]
    by_cases c : U = V
    · rw [if_pos c, if_neg (by decide)]
    · rw [if_neg c, if_pos rfl]
  rw [key]
  exact ⟨r2.1, g3, r2.2.1, U, V, u4, u5, v4, v5, rfl⟩
def F_t_putBehind (x : KS) (w1 : Nat) : Int × KS := (if ((F_w_append (x) (77) (w1)).1) = (0) then ((0 : Int), (F_w_append (x) (77) (w1)).2) else (if ((F_r_run ((F_w_append (x) (77) (w1)).2) (77) (77)).1) = (0) then ((0 : Int), (F_r_run ((F_w_append (x) (77) (w1)).2) (77) (77)).2) else ((1 : Int), (F_r_run ((F_w_append (x) (77) (w1)).2) (77) (77)).2)))
theorem F_t_putBehind_le  (x : KS) (w1 : Nat) : kLe x (F_t_putBehind x w1).2 := by
  unfold F_t_putBehind
  by_cases hc9 : ((F_w_append (x) (77) (w1)).1) = (0)
  · rw [if_pos hc9]
    exact (kLe_tr (kLe_rf _) (kLe_G (kG_of (F_w_append_fr (x) (77) (w1)) (by first | decide | (intro h9; simp at h9; done) | (intro h9; simp at h9; omega)) (by first | decide | (intro h9; simp at h9; done) | (intro h9; simp at h9; omega)))))
  · rw [if_neg hc9]
    by_cases hc9 : ((F_r_run ((F_w_append (x) (77) (w1)).2) (77) (77)).1) = (0)
    · rw [if_pos hc9]
      exact (kLe_tr (kLe_tr (kLe_rf _) (kLe_G (kG_of (F_w_append_fr (x) (77) (w1)) (by first | decide | (intro h9; simp at h9; done) | (intro h9; simp at h9; omega)) (by first | decide | (intro h9; simp at h9; done) | (intro h9; simp at h9; omega))))) (F_r_run_le rfl (by omega) ((F_w_append (x) (77) (w1)).2) (77)))
    · rw [if_neg hc9]
      exact (kLe_tr (kLe_tr (kLe_rf _) (kLe_G (kG_of (F_w_append_fr (x) (77) (w1)) (by first | decide | (intro h9; simp at h9; done) | (intro h9; simp at h9; omega)) (by first | decide | (intro h9; simp at h9; done) | (intro h9; simp at h9; omega))))) (F_r_run_le rfl (by omega) ((F_w_append (x) (77) (w1)).2) (77)))
set_option maxHeartbeats 4000000 in
set_option maxRecDepth 100000 in
/-- LikeWords, putBehind -/
theorem c_t_putBehind (l : Launch) (dC : Nat → ClassId) (dI : Nat → Nat → Nat) (ao : Nat → Nat) (cI cJ cZ cR : ClassId) (M wl sz : Nat) (x : KS) (w1 : Nat) (hM : 87 ≤ M) (hw_w1 : kW w1 = true) (hc_w1 : w1 + 1 < 87) (hkM : M = kM x) (hkW : wl = kWl x) (ok : rOK x) (g77 : wG x 77) (g1 : wG x w1) (ukl : x.1 w1 1 ≤ kL w1) (nw : w1 ≠ 77) : Met l yX11_putBehind wsX11_putBehind ({ frames := 5, cells := kPo x - kPo (F_t_putBehind x w1).2, slots := kPs x - kPs (F_t_putBehind x w1).2, locals := 132 }) (kPc dC dI ao cI cJ cZ cR M wl sz x [.ref (ao 0), .ref (ao w1)]) (va_Qi (fun (r : Int32) (u : KS × (Nat → Nat)) => r = iI (F_t_putBehind x w1).1 ∧ u.1 = (F_t_putBehind x w1).2 ∧ (∀ c, c < 87 → u.2 c = ao c)) (fun u t => kAt dC dI u.2 cI cJ cZ cR (kM u.1) (kWl u.1) (va_A (kWd cI cJ cZ cR wl ao M x) sz) u.1 t) (va_A (kWd cI cJ cZ cR wl ao M x) sz)) (kPo x - kPo (F_t_putBehind x w1).2) (kPs x - kPs (F_t_putBehind x w1).2) (va_A (kWd cI cJ cZ cR wl ao M x) sz) := by
  refine Met.ofW (cc := cX11_putBehind) (maxL := 2) (ret := (some .boolean)) (by decide) rfl ?_
  intro p e s m args below meth c s₁ B hml hv
  obtain ⟨rfl, hsz, hP, hK, hD0, hNw⟩ := hv
  have hx := B.exec
  have hb := B.bytes
  have hr := B.returns
  have hts := atoms_spec (ws := wsX11_putBehind) B.pre
  have hown : s.vm.findClass RX11 = some m.cls := findClass_of_methodNamed B.named
  have hlocks := B.notSynchronized
  have hinX11 : ∀ w ∈ u_ws RX11 TX11 17, w ∈ wsX11_putBehind := by decide +kernel
  subst hsz
  have hD := hD0.self (sz := s.heap.size)
  generalize hAe : va_A (kWd cI cJ cZ cR wl ao M x) s.heap.size = A at hD ⊢
  have hA : ∀ q : Nat, s.heap.size ≤ q → A q := fun q h => by rw [← hAe]; exact Or.inr h
  have hS : va_S A s.heap s.heap [] := va_S.rf
  have hl := lv_entry ([.ref (ao 0), .ref (ao w1)]) (n := 2) (Nat.le_of_ble_eq_true rfl)
  rw [lg_entry_eq]
  generalize (lg_sl ([.ref (ao 0), .ref (ao w1)]) ++ List.replicate (2 - (lg_sl ([.ref (ao 0), .ref (ao w1)])).length) Slot.unset).toArray = ls at hl ⊢
  have hl : lv_has ls 2 [(0, .ref (ao (0))), (1, .ref (ao (w1)))] := hl
  have key : ∀ (M wl : Nat) (ad : Nat → Nat) (H : Heap) (locs : List Loc) (ls : Array Slot), 87 ≤ M → M = kM x → wl = kWl x → (∀ c, c < 87 → ad c = ao c) → va_P (dC, dI) vwCl (kWd cI cJ cZ cR wl ad M (x)) H → va_D A (kWd cI cJ cZ cR wl ad M (x)) → va_S A s.heap H locs → lv_has ls 2 [(0, .ref (ad (0))), (1, .ref (ad (w1)))] → W p l e (headSpec wsX11_putBehind ({ frames := 5, cells := kPo x - kPo (F_t_putBehind x w1).2, slots := kPs x - kPs (F_t_putBehind x w1).2, locals := 132 })).room s m ([.ref (ao 0), .ref (ao w1)] : List Value).toArray below meth c H locs 0 0 (MQ below (va_Qi (fun (r : Int32) (u : KS × (Nat → Nat)) => r = iI (F_t_putBehind x w1).1 ∧ u.1 = (F_t_putBehind x w1).2 ∧ (∀ c, c < 87 → u.2 c = ao c)) (fun u t => kAt dC dI u.2 cI cJ cZ cR (kM u.1) (kWl u.1) (A) u.1 t) (A)) ([.ref (ao 0), .ref (ao w1)] : List Value).toArray s (kPo x - kPo (F_t_putBehind x w1).2) (kPs x - kPs (F_t_putBehind x w1).2) A) (F0 m 0 ls []) := by
    intro M wl ad H locs ls hM hkM hkW had hP hD hS hl
    have kle : kLe x x := kLe_rf x
    have kf9 := F_t_putBehind_le  x w1
    have kf1 := kf9.1
    have kf2 := kf9.2
    have hres : (if ((F_w_append (x) (77) (w1)).1) = (0) then ((0 : Int), (F_w_append (x) (77) (w1)).2) else (if ((F_r_run ((F_w_append (x) (77) (w1)).2) (77) (77)).1) = (0) then ((0 : Int), (F_r_run ((F_w_append (x) (77) (w1)).2) (77) (77)).2) else ((1 : Int), (F_r_run ((F_w_append (x) (77) (w1)).2) (77) (77)).2))) = F_t_putBehind x w1 := rfl
    refine lv_aload_n hx hb dX11_putBehind_0 rfl (lv_at hl 0 rfl) ?_
    refine va_get (D := (dC, dI)) (ci := 11) (v := .ref (ad (77))) (C := RX11) (T := TX11) (N := 17) hx hb hts hinX11 hown hK hP (0) (kg0 (by omega)) rfl 13 (by decide) (hts (.fieldLink RX11 72 "LikeWords" "sum" "LLikeWords$Word;") (by decide +kernel)) (fun _ h9 => h9) rfl dX11_putBehind_1 ?_
    refine lv_aload_n hx hb dX11_putBehind_4 rfl (lv_at hl 1 rfl) ?_
    have hFc : ∀ q, va_A (kWd cI cJ cZ cR wl ad M (x)) H.size q → A q := fun q hq => Or.elim hq (fun ⟨k, e, hk⟩ => hD.2 k (q, e) hk) (fun hk => hA q (Nat.le_trans hS.1 hk))
    refine va_calli (va_runV (b := ad (77)) (As := [.ref (ad (w1))]) (rest := []) ⟨hx, hb, hml, hown, hts⟩ (c_w_append l dC dI ad cI cJ cZ cR M wl H.size (x) (77) (w1)  hM rfl (by omega) hw_w1 (by omega) (by omega) g77.1.1 (by show _ ≤ ((60 : Nat) : Int); exact g77.1.2) g1.1.1 ukl) (cwV 1 hts gX11_putBehind_X10_append rfl rfl rfl (by decide +kernel) ⟨Nat.le_of_ble_eq_true rfl, Nat.le_of_ble_eq_true rfl⟩) ⟨fun a U g mk q => by obtain ⟨q0, q1, qP, qK, qD, qN⟩ := q; exact ⟨q0, q1, qP, va_K.moved (u := U) (U := U.calling g mk a) (Vm.Alike.refl U.vm) qK, qD, kNw.same (u := U) (U := U.calling g mk a) rfl qN⟩, va_recv hK hP (ci := 10) (q0 := 77) rfl (kgw rfl (by omega)), fun U hU hW => ⟨rfl, by rw [hU], by rw [hU]; exact hP, va_K.moved hW.alike hK, hD.weaken (fun _ _ _ _ => trivial), kNw.warm hW hNw⟩⟩ rfl rfl hl.1 rfl (lv_room (Nat.le_of_ble_eq_true rfl)) dX11_putBehind_5 ⟨(show _ ≤ kPo x - kPo (F_t_putBehind x w1).2 by omega), (show _ ≤ kPs x - kPs (F_t_putBehind x w1).2 by omega)⟩) hS (fun q _ h => hFc q h) hFc (fun r9 u9 t H1 locs ht hvm hw hB hz1 hk1 hS => ?_)
    obtain ⟨hP1, hK1, hD1⟩ := hB
    rw [ht] at hP1
    obtain ⟨hw1, hw2⟩ := hw
    rw [hw2] at hP1 hD1
    rw [hw1]
    have hD2 := hD1.weaken (B := A) (fun _ q _ h => hFc q.1 h)
    have hP := hP1
    have hD := hD2
    generalize H1 = H at hP hS ⊢
    have ga := append_G (x := x) (w := 77) (q := w1) rfl hw_w1 (Ne.symm nw) rfl g77 g1
    have oa : rOK (F_w_append x 77 w1).2 := rOK_w (w := 77) rfl (by decide) (F_w_append_fr x 77 w1) ok
    have a01 : (F_w_append x 77 w1).1 = 0 ∨ (F_w_append x 77 w1).1 = 1 := by
      by_cases c9 : x.1 77 1 + x.1 w1 1 ≤ 60
      · exact Or.inr (ga.2.1 c9).1
      · rw [ga.2.2 (by omega)]; exact Or.inl rfl
    refine wi_if_eq (tgt := 33) hx hb (kR01 a01) dX11_putBehind_8 (by decide) (fun c_8 => ?_) (fun c_8 => ?_)
    · skip
      rw [if_pos c_8] at hres
      refine lv_iconst (v := iI (0 : Int)) hx hb dX11_putBehind_33 (by decide) ?_
      have kg9 : kG (x) ((F_w_append (x) (77) (w1)).2) := (kG_tr (kG_rf _) (kG_of (F_w_append_fr (x) (77) (w1)) (by first | decide | (intro h9; simp at h9; done) | (intro h9; simp at h9; omega)) (by first | decide | (intro h9; simp at h9; done) | (intro h9; simp at h9; omega))))
      have eM9 : M = kM ((F_w_append (x) (77) (w1)).2) := hkM.trans (kG_M kg9).symm
      have eW9 : wl = kWl ((F_w_append (x) (77) (w1)).2) := hkW.trans (kG_W kg9).symm
      have eP9 := (kG_p kg9).1
      have eS9 := (kG_p kg9).2
      have kl1 := kle.1
      have kl2 := kle.2
      have hF2 : (F_t_putBehind x w1).2 = (F_w_append (x) (77) (w1)).2 := by
        have h9 := congrArg Prod.snd hres
        exact h9.symm
      refine W.widen (k := kPo x - kPo (F_t_putBehind x w1).2) (n := kPs x - kPs (F_t_putBehind x w1).2) (by rw [hF2]; omega) (by rw [hF2]; omega) ?_
      exact W.zret (v := iI ((0 : Int))) hx hb hr (kz _ (by first | assumption | omega)) (fun t ht hW => ⟨⟨iI ((0 : Int)), ((F_w_append (x) (77) (w1)).2, ad), rfl, ⟨(by have h9 := congrArg (fun z : Int × KS => iI z.1) hres; exact h9), (by have h9 := congrArg (fun z : Int × KS => z.2) hres; exact h9), had⟩, by rw [ht]; show va_P (dC, dI) vwCl (kWd cI cJ cZ cR (kWl ((F_w_append (x) (77) (w1)).2)) ad (kM ((F_w_append (x) (77) (w1)).2)) ((F_w_append (x) (77) (w1)).2)) H; rw [← eM9, ← eW9]; exact hP, va_K.moved hW.alike hK, by show va_D A (kWd cI cJ cZ cR (kWl ((F_w_append (x) (77) (w1)).2)) ad (kM ((F_w_append (x) (77) (w1)).2)) ((F_w_append (x) (77) (w1)).2)); rw [← eM9, ← eW9]; exact hD⟩, hS.F ht⟩) hS.2.2 dX11_putBehind_34
    · skip
      rw [if_neg c_8] at hres
      refine lv_aload_n hx hb dX11_putBehind_11 rfl (lv_at hl 0 rfl) ?_
      refine va_get (D := (dC, dI)) (ci := 11) (v := .ref (ad (70))) (C := RX11) (T := TX11) (N := 17) hx hb hts hinX11 hown hK hP (0) (kg0 (by omega)) rfl 7 (by decide) (hts (.fieldLink RX11 62 "LikeWords" "rewriter" "LLikeWords$Rewriter;") (by decide +kernel)) (fun _ h9 => h9) rfl dX11_putBehind_12 ?_
      refine lv_aload_n hx hb dX11_putBehind_15 rfl (lv_at hl 0 rfl) ?_
      refine va_get (D := (dC, dI)) (ci := 11) (v := .ref (ad (77))) (C := RX11) (T := TX11) (N := 17) hx hb hts hinX11 hown hK hP (0) (kg0 (by omega)) rfl 13 (by decide) (hts (.fieldLink RX11 72 "LikeWords" "sum" "LLikeWords$Word;") (by decide +kernel)) (fun _ h9 => h9) rfl dX11_putBehind_16 ?_
      refine lv_aload_n hx hb dX11_putBehind_19 rfl (lv_at hl 0 rfl) ?_
      refine va_get (D := (dC, dI)) (ci := 11) (v := .ref (ad (77))) (C := RX11) (T := TX11) (N := 17) hx hb hts hinX11 hown hK hP (0) (kg0 (by omega)) rfl 13 (by decide) (hts (.fieldLink RX11 72 "LikeWords" "sum" "LLikeWords$Word;") (by decide +kernel)) (fun _ h9 => h9) rfl dX11_putBehind_20 ?_
      have kg9 : kG (x) ((F_w_append (x) (77) (w1)).2) := (kG_tr (kG_rf _) (kG_of (F_w_append_fr (x) (77) (w1)) (by first | decide | (intro h9; simp at h9; done) | (intro h9; simp at h9; omega)) (by first | decide | (intro h9; simp at h9; done) | (intro h9; simp at h9; omega))))
      have eM9 : M = kM ((F_w_append (x) (77) (w1)).2) := hkM.trans (kG_M kg9).symm
      have eW9 : wl = kWl ((F_w_append (x) (77) (w1)).2) := hkW.trans (kG_W kg9).symm
      have eP9 := (kG_p kg9).1
      have eS9 := (kG_p kg9).2
      have kl1 := kle.1
      have kl2 := kle.2
      have kfn : kLe (F_r_run ((F_w_append (x) (77) (w1)).2) (77) (77)).2 (F_t_putBehind x w1).2 := by
        rw [← hres]
        by_cases hc9 : ((F_r_run ((F_w_append (x) (77) (w1)).2) (77) (77)).1) = (0)
        · rw [if_pos hc9]
          exact (kLe_rf _)
        · rw [if_neg hc9]
          exact (kLe_rf _)
      have kf1 := kfn.1
      have kf2 := kfn.2
      have kd9 : kLe ((F_w_append (x) (77) (w1)).2) (F_r_run ((F_w_append (x) (77) (w1)).2) (77) (77)).2 := (F_r_run_le rfl (by omega) ((F_w_append (x) (77) (w1)).2) (77))
      have kd1 := kd9.1
      have kd2 := kd9.2
      have hFc : ∀ q, va_A (kWd cI cJ cZ cR wl ad M ((F_w_append (x) (77) (w1)).2)) H.size q → A q := fun q hq => Or.elim hq (fun ⟨k, e, hk⟩ => hD.2 k (q, e) hk) (fun hk => hA q (Nat.le_trans hS.1 hk))
      refine va_calli (va_runV (b := ad (70)) (As := [.ref (ad (77)), .ref (ad (77))]) (rest := []) ⟨hx, hb, hml, hown, hts⟩ (c_r_run l dC dI ad cI cJ cZ cR M wl H.size ((F_w_append (x) (77) (w1)).2) (77) (77)  hM rfl (by omega) rfl (by omega) eM9 eW9 oa ga.1 rfl rfl ga.1.2.1) (cwV 2 hts gX11_putBehind_X6_run rfl rfl rfl (by decide +kernel) ⟨Nat.le_of_ble_eq_true rfl, Nat.le_of_ble_eq_true rfl⟩) ⟨fun a U g mk q => by obtain ⟨q0, q1, qP, qK, qD, qN⟩ := q; exact ⟨q0, q1, qP, va_K.moved (u := U) (U := U.calling g mk a) (Vm.Alike.refl U.vm) qK, qD, kNw.same (u := U) (U := U.calling g mk a) rfl qN⟩, va_recv hK hP (ci := 6) (q0 := 70) rfl (kg70 (by omega)), fun U hU hW => ⟨rfl, by rw [hU], by rw [hU]; exact hP, va_K.moved hW.alike hK, hD.weaken (fun _ _ _ _ => trivial), kNw.warm hW hNw⟩⟩ rfl rfl hl.1 rfl (lv_room (Nat.le_of_ble_eq_true rfl)) dX11_putBehind_23 ⟨(show _ ≤ kPo x - kPo (F_t_putBehind x w1).2 by omega), (show _ ≤ kPs x - kPs (F_t_putBehind x w1).2 by omega)⟩) hS (fun q _ h => hFc q h) hFc (fun r9 u9 t H1 locs ht hvm hw hB hz1 hk1 hS => ?_)
      obtain ⟨hP1, hK1, hD1⟩ := hB
      rw [ht] at hP1
      obtain ⟨z9, ad⟩ := u9
      obtain ⟨hw1, hw2, hw3⟩ := hw
      rw [hw1]
      have hw2 : z9 = (F_r_run ((F_w_append (x) (77) (w1)).2) (77) (77)).2 := hw2
      subst hw2
      have hw3 := fun c (hc : c < 87) => (show ad c = _ from hw3 c hc)
      have had : ∀ c, c < 87 → ad c = ao c := fun c hc => (hw3 c hc).trans (had c hc)
      have hl : lv_has ls 2 [(0, .ref (ad (0))), (1, .ref (ad (w1)))] := by
        rw [hw3 (0) (by omega), hw3 (w1) (by omega)]
        exact hl
      have hP1 : va_P (dC, dI) vwCl (kWd cI cJ cZ cR (kWl (F_r_run ((F_w_append (x) (77) (w1)).2) (77) (77)).2) ad (kM (F_r_run ((F_w_append (x) (77) (w1)).2) (77) (77)).2) (F_r_run ((F_w_append (x) (77) (w1)).2) (77) (77)).2) H1 := hP1
      have hD1 : va_D A (kWd cI cJ cZ cR (kWl (F_r_run ((F_w_append (x) (77) (w1)).2) (77) (77)).2) ad (kM (F_r_run ((F_w_append (x) (77) (w1)).2) (77) (77)).2) (F_r_run ((F_w_append (x) (77) (w1)).2) (77) (77)).2) := hD1.weaken (B := A) (fun _ q _ h => hFc q.1 h)
      have kle : kLe x (F_r_run ((F_w_append (x) (77) (w1)).2) (77) (77)).2 := ⟨by omega, by omega⟩
      refine W.widen (k := kPo x - kPo (F_r_run ((F_w_append (x) (77) (w1)).2) (77) (77)).2) (n := kPs x - kPs (F_r_run ((F_w_append (x) (77) (w1)).2) (77) (77)).2) (by omega) (by omega) ?_
      obtain ⟨M, hkM⟩ : ∃ M9, M9 = kM (F_r_run ((F_w_append (x) (77) (w1)).2) (77) (77)).2 := ⟨_, rfl⟩
      obtain ⟨wl, hkW⟩ : ∃ W9, W9 = kWl (F_r_run ((F_w_append (x) (77) (w1)).2) (77) (77)).2 := ⟨_, rfl⟩
      rw [← hkM, ← hkW] at hP1 hD1
      have hM : 87 ≤ M := by rw [hkM]; exact kM_ge _
      have hP := hP1
      have hD := hD1
      generalize H1 = H at hP hS ⊢
      have rg := run_G oa (w1 := 77) (w2 := 77) rfl rfl rfl (by decide) ga.1 ga.1.2.1
      refine wi_if_eq (tgt := 33) hx hb (kR01 (Or.inr rg.2.2.2)) dX11_putBehind_26 (by decide) (fun c_26 => ?_) (fun c_26 => ?_)
      · skip
        rw [if_pos c_26] at hres
        refine lv_iconst (v := iI (0 : Int)) hx hb dX11_putBehind_33 (by decide) ?_
        have kg9 : kG ((F_r_run ((F_w_append (x) (77) (w1)).2) (77) (77)).2) ((F_r_run ((F_w_append (x) (77) (w1)).2) (77) (77)).2) := (kG_rf _)
        have eM9 : M = kM ((F_r_run ((F_w_append (x) (77) (w1)).2) (77) (77)).2) := hkM.trans (kG_M kg9).symm
        have eW9 : wl = kWl ((F_r_run ((F_w_append (x) (77) (w1)).2) (77) (77)).2) := hkW.trans (kG_W kg9).symm
        have eP9 := (kG_p kg9).1
        have eS9 := (kG_p kg9).2
        have kl1 := kle.1
        have kl2 := kle.2
        have hF2 : (F_t_putBehind x w1).2 = (F_r_run ((F_w_append (x) (77) (w1)).2) (77) (77)).2 := by
          have h9 := congrArg Prod.snd hres
          exact h9.symm
        refine W.widen (k := kPo x - kPo (F_t_putBehind x w1).2) (n := kPs x - kPs (F_t_putBehind x w1).2) (by rw [hF2]; omega) (by rw [hF2]; omega) ?_
        exact W.zret (v := iI ((0 : Int))) hx hb hr (kz _ (by first | assumption | omega)) (fun t ht hW => ⟨⟨iI ((0 : Int)), ((F_r_run ((F_w_append (x) (77) (w1)).2) (77) (77)).2, ad), rfl, ⟨(by have h9 := congrArg (fun z : Int × KS => iI z.1) hres; exact h9), (by have h9 := congrArg (fun z : Int × KS => z.2) hres; exact h9), had⟩, by rw [ht]; show va_P (dC, dI) vwCl (kWd cI cJ cZ cR (kWl ((F_r_run ((F_w_append (x) (77) (w1)).2) (77) (77)).2)) ad (kM ((F_r_run ((F_w_append (x) (77) (w1)).2) (77) (77)).2)) ((F_r_run ((F_w_append (x) (77) (w1)).2) (77) (77)).2)) H; rw [← eM9, ← eW9]; exact hP, va_K.moved hW.alike hK, by show va_D A (kWd cI cJ cZ cR (kWl ((F_r_run ((F_w_append (x) (77) (w1)).2) (77) (77)).2)) ad (kM ((F_r_run ((F_w_append (x) (77) (w1)).2) (77) (77)).2)) ((F_r_run ((F_w_append (x) (77) (w1)).2) (77) (77)).2)); rw [← eM9, ← eW9]; exact hD⟩, hS.F ht⟩) hS.2.2 dX11_putBehind_34
      · skip
        rw [if_neg c_26] at hres
        refine lv_iconst (v := iI (1 : Int)) hx hb dX11_putBehind_29 (by decide) ?_
        refine lv_goto (tgt := 34) hx hb dX11_putBehind_30 (by decide) ?_
        have kg9 : kG ((F_r_run ((F_w_append (x) (77) (w1)).2) (77) (77)).2) ((F_r_run ((F_w_append (x) (77) (w1)).2) (77) (77)).2) := (kG_rf _)
        have eM9 : M = kM ((F_r_run ((F_w_append (x) (77) (w1)).2) (77) (77)).2) := hkM.trans (kG_M kg9).symm
        have eW9 : wl = kWl ((F_r_run ((F_w_append (x) (77) (w1)).2) (77) (77)).2) := hkW.trans (kG_W kg9).symm
        have eP9 := (kG_p kg9).1
        have eS9 := (kG_p kg9).2
        have kl1 := kle.1
        have kl2 := kle.2
        have hF2 : (F_t_putBehind x w1).2 = (F_r_run ((F_w_append (x) (77) (w1)).2) (77) (77)).2 := by
          have h9 := congrArg Prod.snd hres
          exact h9.symm
        refine W.widen (k := kPo x - kPo (F_t_putBehind x w1).2) (n := kPs x - kPs (F_t_putBehind x w1).2) (by rw [hF2]; omega) (by rw [hF2]; omega) ?_
        exact W.zret (v := iI ((1 : Int))) hx hb hr (kz _ (by first | assumption | omega)) (fun t ht hW => ⟨⟨iI ((1 : Int)), ((F_r_run ((F_w_append (x) (77) (w1)).2) (77) (77)).2, ad), rfl, ⟨(by have h9 := congrArg (fun z : Int × KS => iI z.1) hres; exact h9), (by have h9 := congrArg (fun z : Int × KS => z.2) hres; exact h9), had⟩, by rw [ht]; show va_P (dC, dI) vwCl (kWd cI cJ cZ cR (kWl ((F_r_run ((F_w_append (x) (77) (w1)).2) (77) (77)).2)) ad (kM ((F_r_run ((F_w_append (x) (77) (w1)).2) (77) (77)).2)) ((F_r_run ((F_w_append (x) (77) (w1)).2) (77) (77)).2)) H; rw [← eM9, ← eW9]; exact hP, va_K.moved hW.alike hK, by show va_D A (kWd cI cJ cZ cR (kWl ((F_r_run ((F_w_append (x) (77) (w1)).2) (77) (77)).2)) ad (kM ((F_r_run ((F_w_append (x) (77) (w1)).2) (77) (77)).2)) ((F_r_run ((F_w_append (x) (77) (w1)).2) (77) (77)).2)); rw [← eM9, ← eW9]; exact hD⟩, hS.F ht⟩) hS.2.2 dX11_putBehind_34
  exact key M wl ao _ _ ls hM hkM hkW (fun _ _ => rfl) hP hD hS hl
theorem F_t_putBehind_fr (x : KS) (w1 : Nat) : gfr [(77, 1), (70, 4), (70, 5), (64, 8)] [78, 71, 72] x (F_t_putBehind x w1).2 := by
  unfold F_t_putBehind
  by_cases hc : ((F_w_append (x) (77) (w1)).1) = (0)
  · rw [if_pos hc]
    exact (gm_tr (gm_rf _ _ _) (gm_mono (km1 (List.Mem.head _) km0) (km1 (List.Mem.head _) km0) (gm_of (F_w_append_fr (x) (77) (w1)))))
  · rw [if_neg hc]
    by_cases hc : ((F_r_run ((F_w_append (x) (77) (w1)).2) (77) (77)).1) = (0)
    · rw [if_pos hc]
      exact (gm_tr (gm_tr (gm_rf _ _ _) (gm_mono (km1 (List.Mem.head _) km0) (km1 (List.Mem.head _) km0) (gm_of (F_w_append_fr (x) (77) (w1))))) (gm_mono (km1 (List.Mem.tail _ (List.Mem.head _)) (km1 (List.Mem.tail _ (List.Mem.tail _ (List.Mem.head _))) (km1 (List.Mem.tail _ (List.Mem.tail _ (List.Mem.tail _ (List.Mem.head _)))) (km1 (List.Mem.head _) km0)))) (km1 (List.Mem.tail _ (List.Mem.head _)) (km1 (List.Mem.tail _ (List.Mem.tail _ (List.Mem.head _))) (km1 (List.Mem.head _) km0))) (F_r_run_fr ((F_w_append (x) (77) (w1)).2) (77) (77))))
    · rw [if_neg hc]
      exact (gm_tr (gm_tr (gm_rf _ _ _) (gm_mono (km1 (List.Mem.head _) km0) (km1 (List.Mem.head _) km0) (gm_of (F_w_append_fr (x) (77) (w1))))) (gm_mono (km1 (List.Mem.tail _ (List.Mem.head _)) (km1 (List.Mem.tail _ (List.Mem.tail _ (List.Mem.head _))) (km1 (List.Mem.tail _ (List.Mem.tail _ (List.Mem.tail _ (List.Mem.head _)))) (km1 (List.Mem.head _) km0)))) (km1 (List.Mem.tail _ (List.Mem.head _)) (km1 (List.Mem.tail _ (List.Mem.tail _ (List.Mem.head _))) (km1 (List.Mem.head _) km0))) (F_r_run_fr ((F_w_append (x) (77) (w1)).2) (77) (77))))
/-- putBehind: the sum and the part, brought down -/
theorem putBehind_x {x : KS} (ok : rOK x) (g77 : wG x 77) {w1 : Nat} (hw : kW w1 = true) (nw : w1 ≠ 77) (g1 : wG x w1) : rOK (F_t_putBehind x w1).2 ∧ wG (F_t_putBehind x w1).2 77 ∧ (∀ w, kW w = true → w + 1 < 87 → w ≠ 77 → wG x w → wG (F_t_putBehind x w1).2 w) ∧ (60 < x.1 77 1 + x.1 w1 1 → F_t_putBehind x w1 = (0, x)) ∧ (x.1 77 1 + x.1 w1 1 ≤ 60 → (F_t_putBehind x w1).1 = 1 ∧ ∃ V : List Int, wL (F_t_putBehind x w1).2 77 V ∧ okL (nL x) V ∧ V.length ≤ 60 ∧ rch (lS x) (rS x) (nR x) (wS x 77 ++ wS x w1) V ∧ noL (lS x) (nR x) V) := by
  have ga := append_G (x := x) (w := 77) (q := w1) rfl hw (Ne.symm nw) rfl g77 g1
  have fa := F_w_append_fr x 77 w1
  have oa : rOK (F_w_append x 77 w1).2 := rOK_w (w := 77) rfl (by decide) fa ok
  have rg := run_G oa (w1 := 77) (w2 := 77) rfl rfl rfl (by decide) ga.1 ga.1.2.1
  obtain ⟨_, _, e1, V, v1, v2, v3, v4, v5⟩ := rOK_run oa (w1 := 77) (w2 := 77) rfl rfl rfl (by decide) ga.1 ga.1.2.1
  by_cases c : x.1 77 1 + x.1 w1 1 ≤ 60
  · obtain ⟨a1, a2⟩ := ga.2.1 c
    have sma : sM x (F_w_append x 77 w1).2 := sM_of fa (fun p hp => by rw [List.mem_singleton] at hp; rw [hp]; exact sMs_w rfl) (fun a ha => by rw [List.mem_singleton] at ha; rw [ha]; exact sMa_w (c := 77) rfl)
    have key : F_t_putBehind x w1 = (1, (F_r_run (F_w_append x 77 w1).2 77 77).2) := by
      unfold F_t_putBehind
      rw [a1, if_neg (by decide), e1, if_neg (by decide)]
    rw [key]
    rw [sM_nL sma] at v2
    rw [sM_lS sma, sM_rS sma, sM_nR sma, wL_S a2] at v4
    rw [sM_lS sma, sM_nR sma] at v5
    refine ⟨rg.1, rg.2.1, fun w hw2 l ne g => rg.2.2.1 w hw2 l ne ?_, fun h => by omega, fun _ => ⟨rfl, V, v1, v2, v3, v4, v5⟩⟩
    exact wG_fr fa (by intro h9; simp at h9; omega) (by intro h9; simp at h9; omega) (by intro h9; simp at h9) g
  · have key : F_t_putBehind x w1 = (0, x) := by
      unfold F_t_putBehind
      rw [ga.2.2 (by omega), if_pos rfl]
    rw [key]
    exact ⟨ok, g77, fun w _ _ _ g => g, fun _ => rfl, fun h => absurd h c⟩
