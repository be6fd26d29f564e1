-- deps: 98.r
def F_t_power_s  : Nat → Nat → KS → Int → Int → Int → Int → Int × KS
  | 0, _, x, _, _, _, _ => (0, x)
  | n + 1, t, x, p0, p1, p2, p3 => match t with
    | 0 => (fun (a : Int) (k : Int) (d : Int) (i : Int) => (if (k) ≤ (i) then (((F_w_take (x) (7 + 2 * (d).toNat) (77)).2).1 (77) 1, (F_w_take (x) (7 + 2 * (d).toNat) (77)).2) else (if ((F_t_putBehind (x) (73)).1) = (0) then ((-4 : Int), (F_t_putBehind (x) (73)).2) else F_t_power_s n 0 ((F_t_putBehind (x) (73)).2) (a) (k) (d) ((i) + (1 : Int))))) p0 p1 p2 p3
    | _ => (0, x)
theorem F_t_power_e0  (n : Nat) (x : KS) (a : Int) (k : Int) (d : Int) (i : Int) : F_t_power_s (n + 1) 0 x a k d i = (if (k) ≤ (i) then (((F_w_take (x) (7 + 2 * (d).toNat) (77)).2).1 (77) 1, (F_w_take (x) (7 + 2 * (d).toNat) (77)).2) else (if ((F_t_putBehind (x) (73)).1) = (0) then ((-4 : Int), (F_t_putBehind (x) (73)).2) else F_t_power_s n 0 ((F_t_putBehind (x) (73)).2) (a) (k) (d) ((i) + (1 : Int)))) := rfl
def F_t_power (x : KS) (a : Int) (k : Int) (d : Int) : Int × KS := (if ((F_t_isSlot (x) (a)).1) = (0) then ((-1 : Int), x) else (if ((F_t_isSlot (x) (d)).1) = (0) then ((-1 : Int), x) else (if (k) < (0) then ((-2 : Int), x) else (if (k) ≤ ((100 : Int)) then (if ((F_t_isProved (x)).1) = (0) then ((-3 : Int), x) else (if ((F_r_run (x) (7 + 2 * (a).toNat) (73)).1) = (0) then ((-4 : Int), (F_r_run (x) (7 + 2 * (a).toNat) (73)).2) else F_t_power_s 110 0 ((F_w_wipe ((F_r_run (x) (7 + 2 * (a).toNat) (73)).2) (77)).2) (a) (k) (d) ((0 : Int)))) else ((-2 : Int), x)))))
theorem F_t_power_sle   : ∀ n : Nat, (∀ (y : KS) (v0 : Int) (v1 : Int) (v2 : Int) (v3 : Int), kLe y (F_t_power_s n 0 y v0 v1 v2 v3).2) := by
  intro n
  induction n with
  | zero => exact fun y _ _ _ _ => kLe_rf _
  | succ n ih =>
    skip
    · intro y a k d i
      rw [F_t_power_e0]
      by_cases hc9 : (k) ≤ (i)
      · rw [if_pos hc9]
        exact (kLe_tr (kLe_rf _) (kLe_G (kG_of (F_w_take_fr (y) (7 + 2 * (d).toNat) (77)) (by first | decide | (intro h9; simp at h9; done) | (intro h9; simp at h9; omega)) (by first | decide | (intro h9; simp at h9; done) | (intro h9; simp at h9; omega)))))
      · rw [if_neg hc9]
        by_cases hc9 : ((F_t_putBehind (y) (73)).1) = (0)
        · rw [if_pos hc9]
          exact (kLe_tr (kLe_rf _) (F_t_putBehind_le (y) (73)))
        · rw [if_neg hc9]
          exact kLe_tr (kLe_tr (kLe_rf _) (F_t_putBehind_le (y) (73))) (ih ((F_t_putBehind (y) (73)).2) (a) (k) (d) ((i) + (1 : Int)))
theorem F_t_power_le  (x : KS) (a : Int) (k : Int) (d : Int) : kLe x (F_t_power x a k d).2 := by
  unfold F_t_power
  by_cases hc9 : ((F_t_isSlot (x) (a)).1) = (0)
  · rw [if_pos hc9]
    exact (kLe_rf _)
  · rw [if_neg hc9]
    by_cases hc9 : ((F_t_isSlot (x) (d)).1) = (0)
    · rw [if_pos hc9]
      exact (kLe_rf _)
    · rw [if_neg hc9]
      by_cases hc9 : (k) < (0)
      · rw [if_pos hc9]
        exact (kLe_rf _)
      · rw [if_neg hc9]
        by_cases hc9 : (k) ≤ ((100 : Int))
        · rw [if_pos hc9]
          by_cases hc9 : ((F_t_isProved (x)).1) = (0)
          · rw [if_pos hc9]
            exact (kLe_rf _)
          · rw [if_neg hc9]
            by_cases hc9 : ((F_r_run (x) (7 + 2 * (a).toNat) (73)).1) = (0)
            · rw [if_pos hc9]
              exact (kLe_tr (kLe_rf _) (F_r_run_le rfl (by omega) (x) (7 + 2 * (a).toNat)))
            · rw [if_neg hc9]
              exact kLe_tr (kLe_tr (kLe_tr (kLe_rf _) (F_r_run_le rfl (by omega) (x) (7 + 2 * (a).toNat))) (kLe_G (kG_of (F_w_wipe_fr ((F_r_run (x) (7 + 2 * (a).toNat) (73)).2) (77)) (by first | decide | (intro h9; simp at h9; done) | (intro h9; simp at h9; omega)) (by first | decide | (intro h9; simp at h9; done) | (intro h9; simp at h9; omega))))) ((F_t_power_sle   _) ((F_w_wipe ((F_r_run (x) (7 + 2 * (a).toNat) (73)).2) (77)).2) (a) (k) (d) ((0 : Int)))
        · rw [if_neg hc9]
          exact (kLe_rf _)
set_option maxHeartbeats 4000000 in
set_option maxRecDepth 100000 in
/-- LikeWords, power -/
theorem c_t_power (l : Launch) (dC : Nat → ClassId) (dI : Nat → Nat → Nat) (ao : Nat → Nat) (cI cJ cZ cR : ClassId) (M wl sz : Nat) (x : KS) (a : Int) (k : Int) (d : Int) (hM : 87 ≤ M) (hkM : M = kM x) (hkW : wl = kWl x) (ra : iR a) (rk : iR k) (rd9 : iR d) (bp : bdP x) (su : ∀ j : Int, 0 ≤ j → j < 8 → wG x (7 + 2 * j.toNat)) (r3 : r03 (x.2 74)) (r8 : r03 (x.2 78)) : Met l yX11_power wsX11_power ({ frames := 6, cells := kPo x - kPo (F_t_power x a k d).2, slots := kPs x - kPs (F_t_power x a k d).2, locals := 153 }) (kPc dC dI ao cI cJ cZ cR M wl sz x [.ref (ao 0), .int (iI a), .int (iI k), .int (iI d)]) (va_Qi (fun (r : Int32) (u : KS × (Nat → Nat)) => r = iI (F_t_power x a k d).1 ∧ u.1 = (F_t_power x a k d).2 ∧ (∀ c, c < 87 → u.2 c = ao c)) (fun u t => kAt dC dI u.2 cI cJ cZ cR (kM u.1) (kWl u.1) (va_A (kWd cI cJ cZ cR wl ao M x) sz) u.1 t) (va_A (kWd cI cJ cZ cR wl ao M x) sz)) (kPo x - kPo (F_t_power x a k d).2) (kPs x - kPs (F_t_power x a k d).2) (va_A (kWd cI cJ cZ cR wl ao M x) sz) := by
  refine Met.ofW (cc := cX11_power) (maxL := 5) (ret := (some .int)) (by decide) rfl ?_
  intro p e s m args below meth c s₁ B hml hv
  obtain ⟨rfl, hsz, hP, hK, hD0, hNw⟩ := hv
  have hx := B.exec
  have hb := B.bytes
  have hr := B.returns
  have hts := atoms_spec (ws := wsX11_power) B.pre
  have hown : s.vm.findClass RX11 = some m.cls := findClass_of_methodNamed B.named
  have hlocks := B.notSynchronized
  have hinX10 : ∀ w ∈ u_ws RX10 TX10 2, w ∈ wsX11_power := by decide +kernel
  have hinX11 : ∀ w ∈ u_ws RX11 TX11 17, w ∈ wsX11_power := by decide +kernel
  subst hsz
  have hD := hD0.self (sz := s.heap.size)
  generalize hAe : va_A (kWd cI cJ cZ cR wl ao M x) s.heap.size = A at hD ⊢
  have hA : ∀ q : Nat, s.heap.size ≤ q → A q := fun q h => by rw [← hAe]; exact Or.inr h
  have hS : va_S A s.heap s.heap [] := va_S.rf
  have hl := lv_entry ([.ref (ao 0), .int (iI a), .int (iI k), .int (iI d)]) (n := 5) (Nat.le_of_ble_eq_true rfl)
  rw [lg_entry_eq]
  generalize (lg_sl ([.ref (ao 0), .int (iI a), .int (iI k), .int (iI d)]) ++ List.replicate (5 - (lg_sl ([.ref (ao 0), .int (iI a), .int (iI k), .int (iI d)])).length) Slot.unset).toArray = ls at hl ⊢
  have hl : lv_has ls 5 [(0, .ref (ao (0))), (1, .int (iI (a))), (2, .int (iI (k))), (3, .int (iI (d)))] := hl
  have L : ∀ n : Nat, (∀ (y : KS) (M wl : Nat) (ad : Nat → Nat) (i : Int), 87 ≤ M → M = kM y → wl = kWl y → (∀ c, c < 87 → ad c = ao c) → kLe x y → (rOK y) → (wG y 73) → (wG y 77) → (0 ≤ d) → (d < 8) → (0 ≤ k) → (k ≤ 100) → (0 ≤ i) → (i ≤ k) → (100 - i < n) → F_t_power_s n 0 y a k d i = F_t_power x a k d → ∀ (H : Heap) (locs : List Loc) (ls : Array Slot), va_P (dC, dI) vwCl (kWd cI cJ cZ cR wl ad M (y)) H → va_D A (kWd cI cJ cZ cR wl ad M (y)) → va_S A s.heap H locs → lv_has ls 5 [(0, .ref (ad (0))), (1, .int (iI (a))), (2, .int (iI (k))), (3, .int (iI (d))), (4, .int (iI (i)))] → W p l e (headSpec wsX11_power ({ frames := 6, cells := kPo x - kPo (F_t_power x a k d).2, slots := kPs x - kPs (F_t_power x a k d).2, locals := 153 })).room s m ([.ref (ao 0), .int (iI a), .int (iI k), .int (iI d)] : List Value).toArray below meth c H locs (kPo x - kPo y) (kPs x - kPs y) (MQ below (va_Qi (fun (r : Int32) (u : KS × (Nat → Nat)) => r = iI (F_t_power x a k d).1 ∧ u.1 = (F_t_power x a k d).2 ∧ (∀ c, c < 87 → u.2 c = ao c)) (fun u t => kAt dC dI u.2 cI cJ cZ cR (kM u.1) (kWl u.1) (A) u.1 t) (A)) ([.ref (ao 0), .int (iI a), .int (iI k), .int (iI d)] : List Value).toArray s (kPo x - kPo (F_t_power x a k d).2) (kPs x - kPs (F_t_power x a k d).2) A) (F0 m 74 ls [])) := by
    intro n
    induction n with
    | zero =>
      skip
      · intro y M wl ad i hM hkM hkW had kle oy g3 g7 d0 d1 k0 k1 i0 i1 fu hres
        exact absurd fu (by omega)
    | succ n ih =>
      skip
      · intro y M wl ad i hM hkM hkW had kle oy g3 g7 d0 d1 k0 k1 i0 i1 fu hres H locs ls hP hD hS hl
        have kf9 : kLe y (F_t_power x a k d).2 := by
          rw [← hres]
          exact (F_t_power_sle   (n + 1)) _ _ _ _ _
        have kf1 := kf9.1
        have kf2 := kf9.2
        rw [F_t_power_e0] at hres
        have klx1 := kle.1
        have klx2 := kle.2
        refine lv_iload hx hb dX11_power_74 (lv_at hl 4 rfl) ?_
        refine lv_iload_n hx hb dX11_power_76 rfl (lv_at hl 2 rfl) ?_
        refine wi_icmp_ge (tgt := 100) hx hb (by first | assumption | (unfold iR; omega) | exact kR01 (by assumption)) (by first | assumption | (unfold iR; omega) | exact kR01 (by assumption)) dX11_power_77 (by decide) (fun c_77 => ?_) (fun c_77 => ?_)
        · skip
          rw [if_pos c_77] at hres
          refine lv_aload_n hx hb dX11_power_100 rfl (lv_at hl 0 rfl) ?_
          refine va_get (D := (dC, dI)) (ci := 11) (v := .ref (ad (6))) (C := RX11) (T := TX11) (N := 17) hx hb hts hinX11 hown hK hP (0) (kg0 (by omega)) rfl 2 (by decide) (hts (.fieldLink RX11 25 "LikeWords" "slots" "[LLikeWords$Word;") (by decide +kernel)) (fun _ h9 => h9) rfl dX11_power_101 ?_
          refine lv_iload_n hx hb dX11_power_104 rfl (lv_at hl 3 rfl) ?_
          refine va_aldq (C := "LikeWords$Word") (n := 8) (f := fun j => some (ad (7 + 2 * j))) hx hb hK hP 6 3 (kget (by omega)) rfl (iI_in (z := d) (by omega) (by omega) (by decide)) dX11_power_105 ?_
          rw [iI_clamp ⟨by omega, by omega⟩]
          refine W.eq (g2 := F0 m 106 ls [.ref (ad (7 + 2 * (d).toNat))]) rfl ?_
          refine lv_aload_n hx hb dX11_power_106 rfl (lv_at hl 0 rfl) ?_
          refine va_get (D := (dC, dI)) (ci := 11) (v := .ref (ad (77))) (C := RX11) (T := TX11) (N := 17) hx hb hts hinX11 hown hK hP (0) (kg0 (by omega)) rfl 13 (by decide) (hts (.fieldLink RX11 72 "LikeWords" "sum" "LLikeWords$Word;") (by decide +kernel)) (fun _ h9 => h9) rfl dX11_power_107 ?_
          have hFc : ∀ q, va_A (kWd cI cJ cZ cR wl ad M (y)) H.size q → A q := fun q hq => Or.elim hq (fun ⟨k, e, hk⟩ => hD.2 k (q, e) hk) (fun hk => hA q (Nat.le_trans hS.1 hk))
          refine va_callv (va_runV (b := ad (7 + 2 * (d).toNat)) (As := [.ref (ad (77))]) (rest := []) ⟨hx, hb, hml, hown, hts⟩ (c_w_take l dC dI ad cI cJ cZ cR M wl H.size (y) (7 + 2 * (d).toNat) (77)  hM (kW_slot (by omega) (by omega)) (by omega) rfl (by omega) g7.1.1 (kl60 rfl g7)) (cwV 1 hts gX11_power_X10_take rfl rfl rfl (by decide +kernel) ⟨Nat.le_of_ble_eq_true rfl, Nat.le_of_ble_eq_true rfl⟩) ⟨fun a U g mk q => by obtain ⟨q0, q1, qP, qK, qD, qN⟩ := q; exact ⟨q0, q1, qP, va_K.moved (u := U) (U := U.calling g mk a) (Vm.Alike.refl U.vm) qK, qD, kNw.same (u := U) (U := U.calling g mk a) rfl qN⟩, va_recv hK hP (ci := 10) (q0 := 7 + 2 * (d).toNat) rfl (kgw (kW_slot (by omega) (by omega)) (by omega)), fun U hU hW => ⟨rfl, by rw [hU], by rw [hU]; exact hP, va_K.moved hW.alike hK, hD.weaken (fun _ _ _ _ => trivial), kNw.warm hW hNw⟩⟩ rfl rfl hl.1 rfl (lv_room (Nat.le_of_ble_eq_true rfl)) dX11_power_110 ⟨(show _ ≤ kPo x - kPo (F_t_power x a k d).2 by omega), (show _ ≤ kPs x - kPs (F_t_power x a k d).2 by omega)⟩) hS (fun q _ h => hFc q h) hFc (fun u9 t H1 locs ht hvm hw hB hz1 hk1 hS => ?_)
          obtain ⟨hP1, hK1, hD1⟩ := hB
          rw [ht] at hP1
          rw [hw] at hP1 hD1
          have hD2 := hD1.weaken (B := A) (fun _ q _ h => hFc q.1 h)
          have hP := hP1
          have hD := hD2
          generalize H1 = H at hP hS ⊢
          refine lv_aload_n hx hb dX11_power_113 rfl (lv_at hl 0 rfl) ?_
          refine va_get (D := (dC, dI)) (ci := 11) (v := .ref (ad (77))) (C := RX11) (T := TX11) (N := 17) hx hb hts hinX11 hown hK hP (0) (kg0 (by omega)) rfl 13 (by decide) (hts (.fieldLink RX11 72 "LikeWords" "sum" "LLikeWords$Word;") (by decide +kernel)) (fun _ h9 => h9) rfl dX11_power_114 ?_
          refine va_get (D := (dC, dI)) (ci := 10) (v := .int (iI (((F_w_take (y) (7 + 2 * (d).toNat) (77)).2).1 (77) 1))) (C := RX10) (T := TX10) (N := 2) hx hb hts hinX10 hown hK hP (77) (kgw rfl (by omega)) rfl 1 (by decide) (hts (.fieldLink RX11 123 "LikeWords$Word" "used" "I") (by decide +kernel)) (fun _ h9 => h9) rfl dX11_power_117 ?_
          have kg9 : kG (y) ((F_w_take (y) (7 + 2 * (d).toNat) (77)).2) := (kG_tr (kG_rf _) (kG_of (F_w_take_fr (y) (7 + 2 * (d).toNat) (77)) (by first | decide | (intro h9; simp at h9; done) | (intro h9; simp at h9; omega)) (by first | decide | (intro h9; simp at h9; done) | (intro h9; simp at h9; omega))))
          have eM9 : M = kM ((F_w_take (y) (7 + 2 * (d).toNat) (77)).2) := hkM.trans (kG_M kg9).symm
          have eW9 : wl = kWl ((F_w_take (y) (7 + 2 * (d).toNat) (77)).2) := hkW.trans (kG_W kg9).symm
          have eP9 := (kG_p kg9).1
          have eS9 := (kG_p kg9).2
          have kl1 := kle.1
          have kl2 := kle.2
          have hF2 : (F_t_power x a k d).2 = (F_w_take (y) (7 + 2 * (d).toNat) (77)).2 := by
            have h9 := congrArg Prod.snd hres
            exact h9.symm
          refine W.widen (k := kPo x - kPo (F_t_power x a k d).2) (n := kPs x - kPs (F_t_power x a k d).2) (by rw [hF2]; omega) (by rw [hF2]; omega) ?_
          exact W.iret (v := iI (((F_w_take (y) (7 + 2 * (d).toNat) (77)).2).1 (77) 1)) hx hb hr (fun t ht hW => ⟨⟨iI (((F_w_take (y) (7 + 2 * (d).toNat) (77)).2).1 (77) 1), ((F_w_take (y) (7 + 2 * (d).toNat) (77)).2, ad), rfl, ⟨(by have h9 := congrArg (fun z : Int × KS => iI z.1) hres; exact h9), (by have h9 := congrArg (fun z : Int × KS => z.2) hres; exact h9), had⟩, by rw [ht]; show va_P (dC, dI) vwCl (kWd cI cJ cZ cR (kWl ((F_w_take (y) (7 + 2 * (d).toNat) (77)).2)) ad (kM ((F_w_take (y) (7 + 2 * (d).toNat) (77)).2)) ((F_w_take (y) (7 + 2 * (d).toNat) (77)).2)) H; rw [← eM9, ← eW9]; exact hP, va_K.moved hW.alike hK, by show va_D A (kWd cI cJ cZ cR (kWl ((F_w_take (y) (7 + 2 * (d).toNat) (77)).2)) ad (kM ((F_w_take (y) (7 + 2 * (d).toNat) (77)).2)) ((F_w_take (y) (7 + 2 * (d).toNat) (77)).2)); rw [← eM9, ← eW9]; exact hD⟩, hS.F ht⟩) hS.2.2 dX11_power_120
        · skip
          rw [if_neg c_77] at hres
          refine lv_aload_n hx hb dX11_power_80 rfl (lv_at hl 0 rfl) ?_
          refine lv_aload_n hx hb dX11_power_81 rfl (lv_at hl 0 rfl) ?_
          refine va_get (D := (dC, dI)) (ci := 11) (v := .ref (ad (73))) (C := RX11) (T := TX11) (N := 17) hx hb hts hinX11 hown hK hP (0) (kg0 (by omega)) rfl 11 (by decide) (hts (.fieldLink RX11 66 "LikeWords" "first" "LLikeWords$Word;") (by decide +kernel)) (fun _ h9 => h9) rfl dX11_power_82 ?_
          have kg9 : kG (y) (y) := (kG_rf _)
          have eM9 : M = kM (y) := hkM.trans (kG_M kg9).symm
          have eW9 : wl = kWl (y) := hkW.trans (kG_W kg9).symm
          have eP9 := (kG_p kg9).1
          have eS9 := (kG_p kg9).2
          have kl1 := kle.1
          have kl2 := kle.2
          have kfn : kLe (F_t_putBehind (y) (73)).2 (F_t_power x a k d).2 := by
            rw [← hres]
            by_cases hc9 : ((F_t_putBehind (y) (73)).1) = (0)
            · rw [if_pos hc9]
              exact (kLe_rf _)
            · rw [if_neg hc9]
              exact kLe_tr (kLe_rf _) ((F_t_power_sle   _) ((F_t_putBehind (y) (73)).2) (a) (k) (d) ((i) + (1 : Int)))
          have kf1 := kfn.1
          have kf2 := kfn.2
          have kd9 : kLe (y) (F_t_putBehind (y) (73)).2 := (F_t_putBehind_le (y) (73))
          have kd1 := kd9.1
          have kd2 := kd9.2
          have hFc : ∀ q, va_A (kWd cI cJ cZ cR wl ad M (y)) H.size q → A q := fun q hq => Or.elim hq (fun ⟨k, e, hk⟩ => hD.2 k (q, e) hk) (fun hk => hA q (Nat.le_trans hS.1 hk))
          refine va_calli (va_runV (b := ad (0)) (As := [.ref (ad (73))]) (rest := []) ⟨hx, hb, hml, hown, hts⟩ (c_t_putBehind l dC dI ad cI cJ cZ cR M wl H.size (y) (73)  hM rfl (by omega) eM9 eW9 oy g7 g3 (kl60 rfl g3) (by decide)) (cwV 1 hts gX11_power_X11_putBehind rfl rfl rfl (by decide +kernel) ⟨Nat.le_of_ble_eq_true rfl, Nat.le_of_ble_eq_true rfl⟩) ⟨fun a U g mk q => by obtain ⟨q0, q1, qP, qK, qD, qN⟩ := q; exact ⟨q0, q1, qP, va_K.moved (u := U) (U := U.calling g mk a) (Vm.Alike.refl U.vm) qK, qD, kNw.same (u := U) (U := U.calling g mk a) rfl qN⟩, va_recv hK hP (ci := 11) (q0 := 0) rfl (kg0 (by omega)), fun U hU hW => ⟨rfl, by rw [hU], by rw [hU]; exact hP, va_K.moved hW.alike hK, hD.weaken (fun _ _ _ _ => trivial), kNw.warm hW hNw⟩⟩ rfl rfl hl.1 rfl (lv_room (Nat.le_of_ble_eq_true rfl)) dX11_power_85 ⟨(show _ ≤ kPo x - kPo (F_t_power x a k d).2 by omega), (show _ ≤ kPs x - kPs (F_t_power x a k d).2 by omega)⟩) hS (fun q _ h => hFc q h) hFc (fun r9 u9 t H1 locs ht hvm hw hB hz1 hk1 hS => ?_)
          obtain ⟨hP1, hK1, hD1⟩ := hB
          rw [ht] at hP1
          obtain ⟨z9, ad⟩ := u9
          obtain ⟨hw1, hw2, hw3⟩ := hw
          rw [hw1]
          have hw2 : z9 = (F_t_putBehind (y) (73)).2 := hw2
          subst hw2
          have hw3 := fun c (hc : c < 87) => (show ad c = _ from hw3 c hc)
          have had : ∀ c, c < 87 → ad c = ao c := fun c hc => (hw3 c hc).trans (had c hc)
          have hl : lv_has ls 5 [(0, .ref (ad (0))), (1, .int (iI (a))), (2, .int (iI (k))), (3, .int (iI (d))), (4, .int (iI (i)))] := by
            rw [hw3 (0) (by omega)]
            exact hl
          have hP1 : va_P (dC, dI) vwCl (kWd cI cJ cZ cR (kWl (F_t_putBehind (y) (73)).2) ad (kM (F_t_putBehind (y) (73)).2) (F_t_putBehind (y) (73)).2) H1 := hP1
          have hD1 : va_D A (kWd cI cJ cZ cR (kWl (F_t_putBehind (y) (73)).2) ad (kM (F_t_putBehind (y) (73)).2) (F_t_putBehind (y) (73)).2) := hD1.weaken (B := A) (fun _ q _ h => hFc q.1 h)
          have kle : kLe x (F_t_putBehind (y) (73)).2 := ⟨by omega, by omega⟩
          refine W.widen (k := kPo x - kPo (F_t_putBehind (y) (73)).2) (n := kPs x - kPs (F_t_putBehind (y) (73)).2) (by omega) (by omega) ?_
          obtain ⟨M, hkM⟩ : ∃ M9, M9 = kM (F_t_putBehind (y) (73)).2 := ⟨_, rfl⟩
          obtain ⟨wl, hkW⟩ : ∃ W9, W9 = kWl (F_t_putBehind (y) (73)).2 := ⟨_, rfl⟩
          rw [← hkM, ← hkW] at hP1 hD1
          have hM : 87 ≤ M := by rw [hkM]; exact kM_ge _
          have hP := hP1
          have hD := hD1
          generalize H1 = H at hP hS ⊢
          have px := putBehind_x oy g7 (w1 := 73) rfl (by decide) g3
          have p01 := putBehind_01 oy g7 (w1 := 73) rfl (by decide) g3
          refine wi_if_ne (tgt := 94) hx hb (kR01 p01) dX11_power_88 (by decide) (fun c_88 => ?_) (fun c_88 => ?_)
          · skip
            rw [if_neg c_88] at hres
            refine lv_iinc (v := iI ((i) + (1 : Int))) (lv' := [(4, .int (iI ((i) + (1 : Int)))), (0, .ref (ad (0))), (1, .int (iI (a))), (2, .int (iI (k))), (3, .int (iI (d)))]) hx hb dX11_power_94 hl (k := 4) rfl (iI_add _ _) (by decide) rfl (fun ls hl => ?_)
            refine lv_goto (tgt := 74) hx hb dX11_power_97 (by decide) ?_
            have kg9 : kG ((F_t_putBehind (y) (73)).2) ((F_t_putBehind (y) (73)).2) := (kG_rf _)
            have eM9 : M = kM ((F_t_putBehind (y) (73)).2) := hkM.trans (kG_M kg9).symm
            have eW9 : wl = kWl ((F_t_putBehind (y) (73)).2) := hkW.trans (kG_W kg9).symm
            have eP9 := (kG_p kg9).1
            have eS9 := (kG_p kg9).2
            have kl1 := kle.1
            have kl2 := kle.2
            refine W.widen (k := kPo x - kPo ((F_t_putBehind (y) (73)).2)) (n := kPs x - kPs ((F_t_putBehind (y) (73)).2)) (by omega) (by omega) ?_
            exact ih ((F_t_putBehind (y) (73)).2) M wl ad ((i) + (1 : Int)) hM eM9 eW9 had ⟨by omega, by omega⟩ (px.1) (px.2.2.1 73 rfl (by decide) (by decide) g3) (px.2.1) (by omega) (by omega) (by omega) (by omega) (by omega) (by omega) (by omega) hres _ _ ls hP hD hS (lv_sub hl [1, 2, 3, 4, 0] rfl)
          · skip
            rw [if_pos c_88] at hres
            refine lv_bipush (v := iI (-4 : Int)) hx hb dX11_power_91 (by decide) ?_
            have kg9 : kG ((F_t_putBehind (y) (73)).2) ((F_t_putBehind (y) (73)).2) := (kG_rf _)
            have eM9 : M = kM ((F_t_putBehind (y) (73)).2) := hkM.trans (kG_M kg9).symm
            have eW9 : wl = kWl ((F_t_putBehind (y) (73)).2) := hkW.trans (kG_W kg9).symm
            have eP9 := (kG_p kg9).1
            have eS9 := (kG_p kg9).2
            have kl1 := kle.1
            have kl2 := kle.2
            have hF2 : (F_t_power x a k d).2 = (F_t_putBehind (y) (73)).2 := by
              have h9 := congrArg Prod.snd hres
              exact h9.symm
            refine W.widen (k := kPo x - kPo (F_t_power x a k d).2) (n := kPs x - kPs (F_t_power x a k d).2) (by rw [hF2]; omega) (by rw [hF2]; omega) ?_
            exact W.iret (v := iI ((-4 : Int))) hx hb hr (fun t ht hW => ⟨⟨iI ((-4 : Int)), ((F_t_putBehind (y) (73)).2, ad), rfl, ⟨(by have h9 := congrArg (fun z : Int × KS => iI z.1) hres; exact h9), (by have h9 := congrArg (fun z : Int × KS => z.2) hres; exact h9), had⟩, by rw [ht]; show va_P (dC, dI) vwCl (kWd cI cJ cZ cR (kWl ((F_t_putBehind (y) (73)).2)) ad (kM ((F_t_putBehind (y) (73)).2)) ((F_t_putBehind (y) (73)).2)) H; rw [← eM9, ← eW9]; exact hP, va_K.moved hW.alike hK, by show va_D A (kWd cI cJ cZ cR (kWl ((F_t_putBehind (y) (73)).2)) ad (kM ((F_t_putBehind (y) (73)).2)) ((F_t_putBehind (y) (73)).2)); rw [← eM9, ← eW9]; exact hD⟩, hS.F ht⟩) hS.2.2 dX11_power_93
  have key : ∀ (M wl : Nat) (ad : Nat → Nat) (H : Heap) (locs : List Loc) (ls : Array Slot), 87 ≤ M → M = kM x → wl = kWl x → (∀ c, c < 87 → ad c = ao c) → va_P (dC, dI) vwCl (kWd cI cJ cZ cR wl ad M (x)) H → va_D A (kWd cI cJ cZ cR wl ad M (x)) → va_S A s.heap H locs → lv_has ls 5 [(0, .ref (ad (0))), (1, .int (iI (a))), (2, .int (iI (k))), (3, .int (iI (d)))] → W p l e (headSpec wsX11_power ({ frames := 6, cells := kPo x - kPo (F_t_power x a k d).2, slots := kPs x - kPs (F_t_power x a k d).2, locals := 153 })).room s m ([.ref (ao 0), .int (iI a), .int (iI k), .int (iI d)] : List Value).toArray below meth c H locs 0 0 (MQ below (va_Qi (fun (r : Int32) (u : KS × (Nat → Nat)) => r = iI (F_t_power x a k d).1 ∧ u.1 = (F_t_power x a k d).2 ∧ (∀ c, c < 87 → u.2 c = ao c)) (fun u t => kAt dC dI u.2 cI cJ cZ cR (kM u.1) (kWl u.1) (A) u.1 t) (A)) ([.ref (ao 0), .int (iI a), .int (iI k), .int (iI d)] : List Value).toArray s (kPo x - kPo (F_t_power x a k d).2) (kPs x - kPs (F_t_power x a k d).2) A) (F0 m 0 ls []) := by
    intro M wl ad H locs ls hM hkM hkW had hP hD hS hl
    have kle : kLe x x := kLe_rf x
    have kf9 := F_t_power_le  x a k d
    have kf1 := kf9.1
    have kf2 := kf9.2
    have hres : (if ((F_t_isSlot (x) (a)).1) = (0) then ((-1 : Int), x) else (if ((F_t_isSlot (x) (d)).1) = (0) then ((-1 : Int), x) else (if (k) < (0) then ((-2 : Int), x) else (if (k) ≤ ((100 : Int)) then (if ((F_t_isProved (x)).1) = (0) then ((-3 : Int), x) else (if ((F_r_run (x) (7 + 2 * (a).toNat) (73)).1) = (0) then ((-4 : Int), (F_r_run (x) (7 + 2 * (a).toNat) (73)).2) else F_t_power_s 110 0 ((F_w_wipe ((F_r_run (x) (7 + 2 * (a).toNat) (73)).2) (77)).2) (a) (k) (d) ((0 : Int)))) else ((-2 : Int), x))))) = F_t_power x a k d := rfl
    refine lv_aload_n hx hb dX11_power_0 rfl (lv_at hl 0 rfl) ?_
    refine lv_iload_n hx hb dX11_power_1 rfl (lv_at hl 1 rfl) ?_
    have hFc : ∀ q, va_A (kWd cI cJ cZ cR wl ad M (x)) H.size q → A q := fun q hq => Or.elim hq (fun ⟨k, e, hk⟩ => hD.2 k (q, e) hk) (fun hk => hA q (Nat.le_trans hS.1 hk))
    refine va_calli (va_runV (b := ad (0)) (As := [.int (iI (a))]) (rest := []) ⟨hx, hb, hml, hown, hts⟩ (c_t_isSlot l dC dI ad cI cJ cZ cR M wl H.size (x)  (a) hM ra) (cwV 1 hts gX11_power_X11_isSlot rfl rfl rfl (by decide +kernel) ⟨Nat.le_of_ble_eq_true rfl, Nat.le_of_ble_eq_true rfl⟩) ⟨fun a U g mk q => by obtain ⟨q0, q1, qP, qK, qD, qN⟩ := q; exact ⟨q0, q1, qP, va_K.moved (u := U) (U := U.calling g mk a) (Vm.Alike.refl U.vm) qK, qD, kNw.same (u := U) (U := U.calling g mk a) rfl qN⟩, va_recv hK hP (ci := 11) (q0 := 0) rfl (kg0 (by omega)), fun U hU hW => ⟨rfl, by rw [hU], by rw [hU]; exact hP, va_K.moved hW.alike hK, hD.weaken (fun _ _ _ _ => trivial), kNw.warm hW hNw⟩⟩ rfl rfl hl.1 rfl (lv_room (Nat.le_of_ble_eq_true rfl)) dX11_power_2 ⟨(show _ ≤ kPo x - kPo (F_t_power x a k d).2 by omega), (show _ ≤ kPs x - kPs (F_t_power x a k d).2 by omega)⟩) hS (fun q _ h => hFc q h) hFc (fun r9 u9 t H1 locs ht hvm hw hB hz1 hk1 hS => ?_)
    obtain ⟨hP1, hK1, hD1⟩ := hB
    rw [ht] at hP1
    obtain ⟨hw1, hw2⟩ := hw
    rw [hw2] at hP1 hD1
    rw [hw1]
    rw [F_t_isSlot_2] at hP1 hD1
    have hD2 := hD1.weaken (B := A) (fun _ q _ h => hFc q.1 h)
    have hP := hP1
    have hD := hD2
    generalize H1 = H at hP hS ⊢
    refine wi_if_eq (tgt := 16) hx hb (kR01 (F_t_isSlot_01 _ _)) dX11_power_5 (by decide) (fun c_5 => ?_) (fun c_5 => ?_)
    · skip
      rw [if_pos c_5] at hres
      refine lv_iconst (v := iI (-1 : Int)) hx hb dX11_power_16 (by decide) ?_
      have kg9 : kG (x) (x) := (kG_rf _)
      have eM9 : M = kM (x) := hkM.trans (kG_M kg9).symm
      have eW9 : wl = kWl (x) := hkW.trans (kG_W kg9).symm
      have eP9 := (kG_p kg9).1
      have eS9 := (kG_p kg9).2
      have kl1 := kle.1
      have kl2 := kle.2
      have hF2 : (F_t_power x a k d).2 = x := by
        have h9 := congrArg Prod.snd hres
        exact h9.symm
      refine W.widen (k := kPo x - kPo (F_t_power x a k d).2) (n := kPs x - kPs (F_t_power x a k d).2) (by rw [hF2]; omega) (by rw [hF2]; omega) ?_
      exact W.iret (v := iI ((-1 : Int))) hx hb hr (fun t ht hW => ⟨⟨iI ((-1 : Int)), (x, ad), rfl, ⟨(by have h9 := congrArg (fun z : Int × KS => iI z.1) hres; exact h9), (by have h9 := congrArg (fun z : Int × KS => z.2) hres; exact h9), had⟩, by rw [ht]; show va_P (dC, dI) vwCl (kWd cI cJ cZ cR (kWl (x)) ad (kM (x)) (x)) H; rw [← eM9, ← eW9]; exact hP, va_K.moved hW.alike hK, by show va_D A (kWd cI cJ cZ cR (kWl (x)) ad (kM (x)) (x)); rw [← eM9, ← eW9]; exact hD⟩, hS.F ht⟩) hS.2.2 dX11_power_17
    · skip
      rw [if_neg c_5] at hres
      refine lv_aload_n hx hb dX11_power_8 rfl (lv_at hl 0 rfl) ?_
      refine lv_iload_n hx hb dX11_power_9 rfl (lv_at hl 3 rfl) ?_
      have hFc : ∀ q, va_A (kWd cI cJ cZ cR wl ad M (x)) H.size q → A q := fun q hq => Or.elim hq (fun ⟨k, e, hk⟩ => hD.2 k (q, e) hk) (fun hk => hA q (Nat.le_trans hS.1 hk))
      refine va_calli (va_runV (b := ad (0)) (As := [.int (iI (d))]) (rest := []) ⟨hx, hb, hml, hown, hts⟩ (c_t_isSlot l dC dI ad cI cJ cZ cR M wl H.size (x)  (d) hM rd9) (cwV 1 hts gX11_power_X11_isSlot rfl rfl rfl (by decide +kernel) ⟨Nat.le_of_ble_eq_true rfl, Nat.le_of_ble_eq_true rfl⟩) ⟨fun a U g mk q => by obtain ⟨q0, q1, qP, qK, qD, qN⟩ := q; exact ⟨q0, q1, qP, va_K.moved (u := U) (U := U.calling g mk a) (Vm.Alike.refl U.vm) qK, qD, kNw.same (u := U) (U := U.calling g mk a) rfl qN⟩, va_recv hK hP (ci := 11) (q0 := 0) rfl (kg0 (by omega)), fun U hU hW => ⟨rfl, by rw [hU], by rw [hU]; exact hP, va_K.moved hW.alike hK, hD.weaken (fun _ _ _ _ => trivial), kNw.warm hW hNw⟩⟩ rfl rfl hl.1 rfl (lv_room (Nat.le_of_ble_eq_true rfl)) dX11_power_10 ⟨(show _ ≤ kPo x - kPo (F_t_power x a k d).2 by omega), (show _ ≤ kPs x - kPs (F_t_power x a k d).2 by omega)⟩) hS (fun q _ h => hFc q h) hFc (fun r9 u9 t H1 locs ht hvm hw hB hz1 hk1 hS => ?_)
      obtain ⟨hP1, hK1, hD1⟩ := hB
      rw [ht] at hP1
      obtain ⟨hw1, hw2⟩ := hw
      rw [hw2] at hP1 hD1
      rw [hw1]
      rw [F_t_isSlot_2] at hP1 hD1
      have hD2 := hD1.weaken (B := A) (fun _ q _ h => hFc q.1 h)
      have hP := hP1
      have hD := hD2
      generalize H1 = H at hP hS ⊢
      refine wi_if_ne (tgt := 18) hx hb (kR01 (F_t_isSlot_01 _ _)) dX11_power_13 (by decide) (fun c_13 => ?_) (fun c_13 => ?_)
      · skip
        rw [if_neg c_13] at hres
        obtain ⟨a0, a1⟩ := F_t_isSlot_1 c_5
        obtain ⟨d0, d1⟩ := F_t_isSlot_1 c_13
        refine lv_iload_n hx hb dX11_power_18 rfl (lv_at hl 2 rfl) ?_
        refine wi_if_lt (tgt := 28) hx hb (by first | assumption | (unfold iR; omega) | exact kR01 (by assumption)) dX11_power_19 (by decide) (fun c_19 => ?_) (fun c_19 => ?_)
        · skip
          rw [if_pos c_19] at hres
          refine lv_bipush (v := iI (-2 : Int)) hx hb dX11_power_28 (by decide) ?_
          have kg9 : kG (x) (x) := (kG_rf _)
          have eM9 : M = kM (x) := hkM.trans (kG_M kg9).symm
          have eW9 : wl = kWl (x) := hkW.trans (kG_W kg9).symm
          have eP9 := (kG_p kg9).1
          have eS9 := (kG_p kg9).2
          have kl1 := kle.1
          have kl2 := kle.2
          have hF2 : (F_t_power x a k d).2 = x := by
            have h9 := congrArg Prod.snd hres
            exact h9.symm
          refine W.widen (k := kPo x - kPo (F_t_power x a k d).2) (n := kPs x - kPs (F_t_power x a k d).2) (by rw [hF2]; omega) (by rw [hF2]; omega) ?_
          exact W.iret (v := iI ((-2 : Int))) hx hb hr (fun t ht hW => ⟨⟨iI ((-2 : Int)), (x, ad), rfl, ⟨(by have h9 := congrArg (fun z : Int × KS => iI z.1) hres; exact h9), (by have h9 := congrArg (fun z : Int × KS => z.2) hres; exact h9), had⟩, by rw [ht]; show va_P (dC, dI) vwCl (kWd cI cJ cZ cR (kWl (x)) ad (kM (x)) (x)) H; rw [← eM9, ← eW9]; exact hP, va_K.moved hW.alike hK, by show va_D A (kWd cI cJ cZ cR (kWl (x)) ad (kM (x)) (x)); rw [← eM9, ← eW9]; exact hD⟩, hS.F ht⟩) hS.2.2 dX11_power_30
        · skip
          rw [if_neg c_19] at hres
          refine lv_iload_n hx hb dX11_power_22 rfl (lv_at hl 2 rfl) ?_
          refine lv_bipush (v := iI (100 : Int)) hx hb dX11_power_23 (by decide) ?_
          refine wi_icmp_le (tgt := 31) hx hb (by first | assumption | (unfold iR; omega) | exact kR01 (by assumption)) ⟨by decide, by decide⟩ dX11_power_25 (by decide) (fun c_25 => ?_) (fun c_25 => ?_)
          · skip
            rw [if_pos c_25] at hres
            refine lv_aload_n hx hb dX11_power_31 rfl (lv_at hl 0 rfl) ?_
            have hFc : ∀ q, va_A (kWd cI cJ cZ cR wl ad M (x)) H.size q → A q := fun q hq => Or.elim hq (fun ⟨k, e, hk⟩ => hD.2 k (q, e) hk) (fun hk => hA q (Nat.le_trans hS.1 hk))
            refine va_calli (va_runV (b := ad (0)) (As := []) (rest := []) ⟨hx, hb, hml, hown, hts⟩ (c_t_isProved l dC dI ad cI cJ cZ cR M wl H.size (x)   hM bp.1.1 bp.1.2 bp.2.1) (cwV 0 hts gX11_power_X11_isProved rfl rfl rfl (by decide +kernel) ⟨Nat.le_of_ble_eq_true rfl, Nat.le_of_ble_eq_true rfl⟩) ⟨fun a U g mk q => by obtain ⟨q0, q1, qP, qK, qD, qN⟩ := q; exact ⟨q0, q1, qP, va_K.moved (u := U) (U := U.calling g mk a) (Vm.Alike.refl U.vm) qK, qD, kNw.same (u := U) (U := U.calling g mk a) rfl qN⟩, va_recv hK hP (ci := 11) (q0 := 0) rfl (kg0 (by omega)), fun U hU hW => ⟨rfl, by rw [hU], by rw [hU]; exact hP, va_K.moved hW.alike hK, hD.weaken (fun _ _ _ _ => trivial), kNw.warm hW hNw⟩⟩ rfl rfl hl.1 rfl (lv_room (Nat.le_of_ble_eq_true rfl)) dX11_power_32 ⟨(show _ ≤ kPo x - kPo (F_t_power x a k d).2 by omega), (show _ ≤ kPs x - kPs (F_t_power x a k d).2 by omega)⟩) hS (fun q _ h => hFc q h) hFc (fun r9 u9 t H1 locs ht hvm hw hB hz1 hk1 hS => ?_)
            obtain ⟨hP1, hK1, hD1⟩ := hB
            rw [ht] at hP1
            obtain ⟨hw1, hw2⟩ := hw
            rw [hw2] at hP1 hD1
            rw [hw1]
            rw [F_t_isProved_2] at hP1 hD1
            have hD2 := hD1.weaken (B := A) (fun _ q _ h => hFc q.1 h)
            have hP := hP1
            have hD := hD2
            generalize H1 = H at hP hS ⊢
            refine wi_if_ne (tgt := 41) hx hb (kR01 (F_t_isProved_01 _)) dX11_power_35 (by decide) (fun c_35 => ?_) (fun c_35 => ?_)
            · skip
              rw [if_neg c_35] at hres
              refine lv_aload_n hx hb dX11_power_41 rfl (lv_at hl 0 rfl) ?_
              refine va_get (D := (dC, dI)) (ci := 11) (v := .ref (ad (70))) (C := RX11) (T := TX11) (N := 17) hx hb hts hinX11 hown hK hP (0) (kg0 (by omega)) rfl 7 (by decide) (hts (.fieldLink RX11 62 "LikeWords" "rewriter" "LLikeWords$Rewriter;") (by decide +kernel)) (fun _ h9 => h9) rfl dX11_power_42 ?_
              refine lv_aload_n hx hb dX11_power_45 rfl (lv_at hl 0 rfl) ?_
              refine va_get (D := (dC, dI)) (ci := 11) (v := .ref (ad (6))) (C := RX11) (T := TX11) (N := 17) hx hb hts hinX11 hown hK hP (0) (kg0 (by omega)) rfl 2 (by decide) (hts (.fieldLink RX11 25 "LikeWords" "slots" "[LLikeWords$Word;") (by decide +kernel)) (fun _ h9 => h9) rfl dX11_power_46 ?_
              refine lv_iload_n hx hb dX11_power_49 rfl (lv_at hl 1 rfl) ?_
              refine va_aldq (C := "LikeWords$Word") (n := 8) (f := fun j => some (ad (7 + 2 * j))) hx hb hK hP 6 3 (kget (by omega)) rfl (iI_in (z := a) (by omega) (by omega) (by decide)) dX11_power_50 ?_
              rw [iI_clamp ⟨by omega, by omega⟩]
              refine W.eq (g2 := F0 m 51 ls [.ref (ad (7 + 2 * (a).toNat)), .ref (ad (70))]) rfl ?_
              refine lv_aload_n hx hb dX11_power_51 rfl (lv_at hl 0 rfl) ?_
              refine va_get (D := (dC, dI)) (ci := 11) (v := .ref (ad (73))) (C := RX11) (T := TX11) (N := 17) hx hb hts hinX11 hown hK hP (0) (kg0 (by omega)) rfl 11 (by decide) (hts (.fieldLink RX11 66 "LikeWords" "first" "LLikeWords$Word;") (by decide +kernel)) (fun _ h9 => h9) rfl dX11_power_52 ?_
              have ok9 : rOK x := bp.2.2.2.2.1 (F_t_isProved_1 bp.2.1 c_35)
              have kg9 : kG (x) (x) := (kG_rf _)
              have eM9 : M = kM (x) := hkM.trans (kG_M kg9).symm
              have eW9 : wl = kWl (x) := hkW.trans (kG_W kg9).symm
              have eP9 := (kG_p kg9).1
              have eS9 := (kG_p kg9).2
              have kl1 := kle.1
              have kl2 := kle.2
              have kfn : kLe (F_r_run (x) (7 + 2 * (a).toNat) (73)).2 (F_t_power x a k d).2 := by
                rw [← hres]
                by_cases hc9 : ((F_r_run (x) (7 + 2 * (a).toNat) (73)).1) = (0)
                · rw [if_pos hc9]
                  exact (kLe_rf _)
                · rw [if_neg hc9]
                  exact kLe_tr (kLe_tr (kLe_rf _) (kLe_G (kG_of (F_w_wipe_fr ((F_r_run (x) (7 + 2 * (a).toNat) (73)).2) (77)) (by first | decide | (intro h9; simp at h9; done) | (intro h9; simp at h9; omega)) (by first | decide | (intro h9; simp at h9; done) | (intro h9; simp at h9; omega))))) ((F_t_power_sle   _) ((F_w_wipe ((F_r_run (x) (7 + 2 * (a).toNat) (73)).2) (77)).2) (a) (k) (d) ((0 : Int)))
              have kf1 := kfn.1
              have kf2 := kfn.2
              have kd9 : kLe (x) (F_r_run (x) (7 + 2 * (a).toNat) (73)).2 := (F_r_run_le rfl (by omega) (x) (7 + 2 * (a).toNat))
              have kd1 := kd9.1
              have kd2 := kd9.2
              have hFc : ∀ q, va_A (kWd cI cJ cZ cR wl ad M (x)) H.size q → A q := fun q hq => Or.elim hq (fun ⟨k, e, hk⟩ => hD.2 k (q, e) hk) (fun hk => hA q (Nat.le_trans hS.1 hk))
              refine va_calli (va_runV (b := ad (70)) (As := [.ref (ad (7 + 2 * (a).toNat)), .ref (ad (73))]) (rest := []) ⟨hx, hb, hml, hown, hts⟩ (c_r_run l dC dI ad cI cJ cZ cR M wl H.size (x) (7 + 2 * (a).toNat) (73)  hM (kW_slot (by omega) (by omega)) (by omega) rfl (by omega) eM9 eW9 ok9 (su a a0 a1) (kL_slot a0 a1) rfl r3) (cwV 2 hts gX11_power_X6_run rfl rfl rfl (by decide +kernel) ⟨Nat.le_of_ble_eq_true rfl, Nat.le_of_ble_eq_true rfl⟩) ⟨fun a U g mk q => by obtain ⟨q0, q1, qP, qK, qD, qN⟩ := q; exact ⟨q0, q1, qP, va_K.moved (u := U) (U := U.calling g mk a) (Vm.Alike.refl U.vm) qK, qD, kNw.same (u := U) (U := U.calling g mk a) rfl qN⟩, va_recv hK hP (ci := 6) (q0 := 70) rfl (kg70 (by omega)), fun U hU hW => ⟨rfl, by rw [hU], by rw [hU]; exact hP, va_K.moved hW.alike hK, hD.weaken (fun _ _ _ _ => trivial), kNw.warm hW hNw⟩⟩ rfl rfl hl.1 rfl (lv_room (Nat.le_of_ble_eq_true rfl)) dX11_power_55 ⟨(show _ ≤ kPo x - kPo (F_t_power x a k d).2 by omega), (show _ ≤ kPs x - kPs (F_t_power x a k d).2 by omega)⟩) hS (fun q _ h => hFc q h) hFc (fun r9 u9 t H1 locs ht hvm hw hB hz1 hk1 hS => ?_)
              obtain ⟨hP1, hK1, hD1⟩ := hB
              rw [ht] at hP1
              obtain ⟨z9, ad⟩ := u9
              obtain ⟨hw1, hw2, hw3⟩ := hw
              rw [hw1]
              have hw2 : z9 = (F_r_run (x) (7 + 2 * (a).toNat) (73)).2 := hw2
              subst hw2
              have hw3 := fun c (hc : c < 87) => (show ad c = _ from hw3 c hc)
              have had : ∀ c, c < 87 → ad c = ao c := fun c hc => (hw3 c hc).trans (had c hc)
              have hl : lv_has ls 5 [(0, .ref (ad (0))), (1, .int (iI (a))), (2, .int (iI (k))), (3, .int (iI (d)))] := by
                rw [hw3 (0) (by omega)]
                exact hl
              have hP1 : va_P (dC, dI) vwCl (kWd cI cJ cZ cR (kWl (F_r_run (x) (7 + 2 * (a).toNat) (73)).2) ad (kM (F_r_run (x) (7 + 2 * (a).toNat) (73)).2) (F_r_run (x) (7 + 2 * (a).toNat) (73)).2) H1 := hP1
              have hD1 : va_D A (kWd cI cJ cZ cR (kWl (F_r_run (x) (7 + 2 * (a).toNat) (73)).2) ad (kM (F_r_run (x) (7 + 2 * (a).toNat) (73)).2) (F_r_run (x) (7 + 2 * (a).toNat) (73)).2) := hD1.weaken (B := A) (fun _ q _ h => hFc q.1 h)
              have kle : kLe x (F_r_run (x) (7 + 2 * (a).toNat) (73)).2 := ⟨by omega, by omega⟩
              refine W.widen (k := kPo x - kPo (F_r_run (x) (7 + 2 * (a).toNat) (73)).2) (n := kPs x - kPs (F_r_run (x) (7 + 2 * (a).toNat) (73)).2) (by omega) (by omega) ?_
              obtain ⟨M, hkM⟩ : ∃ M9, M9 = kM (F_r_run (x) (7 + 2 * (a).toNat) (73)).2 := ⟨_, rfl⟩
              obtain ⟨wl, hkW⟩ : ∃ W9, W9 = kWl (F_r_run (x) (7 + 2 * (a).toNat) (73)).2 := ⟨_, rfl⟩
              rw [← hkM, ← hkW] at hP1 hD1
              have hM : 87 ≤ M := by rw [hkM]; exact kM_ge _
              have hP := hP1
              have hD := hD1
              generalize H1 = H at hP hS ⊢
              have rg := run_G ok9 (w1 := 7 + 2 * (a).toNat) (w2 := 73) (kW_slot a0 a1) rfl rfl (by decide) (su a a0 a1) r3
              refine wi_if_ne (tgt := 64) hx hb (kR01 (Or.inr rg.2.2.2)) dX11_power_58 (by decide) (fun c_58 => ?_) (fun c_58 => ?_)
              · skip
                rw [if_neg c_58] at hres
                refine lv_aload_n hx hb dX11_power_64 rfl (lv_at hl 0 rfl) ?_
                refine va_get (D := (dC, dI)) (ci := 11) (v := .ref (ad (77))) (C := RX11) (T := TX11) (N := 17) hx hb hts hinX11 hown hK hP (0) (kg0 (by omega)) rfl 13 (by decide) (hts (.fieldLink RX11 72 "LikeWords" "sum" "LLikeWords$Word;") (by decide +kernel)) (fun _ h9 => h9) rfl dX11_power_65 ?_
                have hFc : ∀ q, va_A (kWd cI cJ cZ cR wl ad M ((F_r_run (x) (7 + 2 * (a).toNat) (73)).2)) H.size q → A q := fun q hq => Or.elim hq (fun ⟨k, e, hk⟩ => hD.2 k (q, e) hk) (fun hk => hA q (Nat.le_trans hS.1 hk))
                refine va_callv (va_runV (b := ad (77)) (As := []) (rest := []) ⟨hx, hb, hml, hown, hts⟩ (c_w_wipe l dC dI ad cI cJ cZ cR M wl H.size ((F_r_run (x) (7 + 2 * (a).toNat) (73)).2) (77)  hM rfl (by omega) ) (cwV 0 hts gX11_power_X10_wipe rfl rfl rfl (by decide +kernel) ⟨Nat.le_of_ble_eq_true rfl, Nat.le_of_ble_eq_true rfl⟩) ⟨fun a U g mk q => by obtain ⟨q0, q1, qP, qK, qD, qN⟩ := q; exact ⟨q0, q1, qP, va_K.moved (u := U) (U := U.calling g mk a) (Vm.Alike.refl U.vm) qK, qD, kNw.same (u := U) (U := U.calling g mk a) rfl qN⟩, va_recv hK hP (ci := 10) (q0 := 77) rfl (kgw rfl (by omega)), fun U hU hW => ⟨rfl, by rw [hU], by rw [hU]; exact hP, va_K.moved hW.alike hK, hD.weaken (fun _ _ _ _ => trivial), kNw.warm hW hNw⟩⟩ rfl rfl hl.1 rfl (lv_room (Nat.le_of_ble_eq_true rfl)) dX11_power_68 ⟨(show _ ≤ kPo x - kPo (F_t_power x a k d).2 by omega), (show _ ≤ kPs x - kPs (F_t_power x a k d).2 by omega)⟩) hS (fun q _ h => hFc q h) hFc (fun u9 t H1 locs ht hvm hw hB hz1 hk1 hS => ?_)
                obtain ⟨hP1, hK1, hD1⟩ := hB
                rw [ht] at hP1
                rw [hw] at hP1 hD1
                have hD2 := hD1.weaken (B := A) (fun _ q _ h => hFc q.1 h)
                have hP := hP1
                have hD := hD2
                generalize H1 = H at hP hS ⊢
                refine lv_iconst (v := iI (0 : Int)) hx hb dX11_power_71 (by decide) ?_
                refine lv_istore (lv' := [(4, .int (iI ((0 : Int)))), (0, .ref (ad (0))), (1, .int (iI (a))), (2, .int (iI (k))), (3, .int (iI (d)))]) hx hb dX11_power_72 hl (by decide) rfl (fun ls hl => ?_)
                have kg9 : kG ((F_r_run (x) (7 + 2 * (a).toNat) (73)).2) ((F_w_wipe ((F_r_run (x) (7 + 2 * (a).toNat) (73)).2) (77)).2) := (kG_tr (kG_rf _) (kG_of (F_w_wipe_fr ((F_r_run (x) (7 + 2 * (a).toNat) (73)).2) (77)) (by first | decide | (intro h9; simp at h9; done) | (intro h9; simp at h9; omega)) (by first | decide | (intro h9; simp at h9; done) | (intro h9; simp at h9; omega))))
                have eM9 : M = kM ((F_w_wipe ((F_r_run (x) (7 + 2 * (a).toNat) (73)).2) (77)).2) := hkM.trans (kG_M kg9).symm
                have eW9 : wl = kWl ((F_w_wipe ((F_r_run (x) (7 + 2 * (a).toNat) (73)).2) (77)).2) := hkW.trans (kG_W kg9).symm
                have eP9 := (kG_p kg9).1
                have eS9 := (kG_p kg9).2
                have kl1 := kle.1
                have kl2 := kle.2
                refine W.widen (k := kPo x - kPo ((F_w_wipe ((F_r_run (x) (7 + 2 * (a).toNat) (73)).2) (77)).2)) (n := kPs x - kPs ((F_w_wipe ((F_r_run (x) (7 + 2 * (a).toNat) (73)).2) (77)).2)) (by omega) (by omega) ?_
                exact (L (110)) ((F_w_wipe ((F_r_run (x) (7 + 2 * (a).toNat) (73)).2) (77)).2) M wl ad ((0 : Int)) hM eM9 eW9 had ⟨by omega, by omega⟩ (rOK_fr (F_w_wipe_fr _ 77) (fun p hp => by rw [List.mem_singleton] at hp; rw [hp]; exact rSs_w rfl) (fun p hp => absurd hp List.not_mem_nil) rg.1) (wG_fr (F_w_wipe_fr _ 77) (by decide) (by decide) (by decide) rg.2.1) ((wipe_G (by rw [(F_r_run_fr x _ 73).2 78 (by decide) (by intro h9; simp at h9)]; exact r8)).1) (by omega) (by omega) (by omega) (by omega) (by omega) (by omega) (by omega) hres _ _ ls hP hD hS (lv_sub hl [1, 2, 3, 4, 0] rfl)
              · skip
                rw [if_pos c_58] at hres
                refine lv_bipush (v := iI (-4 : Int)) hx hb dX11_power_61 (by decide) ?_
                have kg9 : kG ((F_r_run (x) (7 + 2 * (a).toNat) (73)).2) ((F_r_run (x) (7 + 2 * (a).toNat) (73)).2) := (kG_rf _)
                have eM9 : M = kM ((F_r_run (x) (7 + 2 * (a).toNat) (73)).2) := hkM.trans (kG_M kg9).symm
                have eW9 : wl = kWl ((F_r_run (x) (7 + 2 * (a).toNat) (73)).2) := hkW.trans (kG_W kg9).symm
                have eP9 := (kG_p kg9).1
                have eS9 := (kG_p kg9).2
                have kl1 := kle.1
                have kl2 := kle.2
                have hF2 : (F_t_power x a k d).2 = (F_r_run (x) (7 + 2 * (a).toNat) (73)).2 := by
                  have h9 := congrArg Prod.snd hres
                  exact h9.symm
                refine W.widen (k := kPo x - kPo (F_t_power x a k d).2) (n := kPs x - kPs (F_t_power x a k d).2) (by rw [hF2]; omega) (by rw [hF2]; omega) ?_
                exact W.iret (v := iI ((-4 : Int))) hx hb hr (fun t ht hW => ⟨⟨iI ((-4 : Int)), ((F_r_run (x) (7 + 2 * (a).toNat) (73)).2, ad), rfl, ⟨(by have h9 := congrArg (fun z : Int × KS => iI z.1) hres; exact h9), (by have h9 := congrArg (fun z : Int × KS => z.2) hres; exact h9), had⟩, by rw [ht]; show va_P (dC, dI) vwCl (kWd cI cJ cZ cR (kWl ((F_r_run (x) (7 + 2 * (a).toNat) (73)).2)) ad (kM ((F_r_run (x) (7 + 2 * (a).toNat) (73)).2)) ((F_r_run (x) (7 + 2 * (a).toNat) (73)).2)) H; rw [← eM9, ← eW9]; exact hP, va_K.moved hW.alike hK, by show va_D A (kWd cI cJ cZ cR (kWl ((F_r_run (x) (7 + 2 * (a).toNat) (73)).2)) ad (kM ((F_r_run (x) (7 + 2 * (a).toNat) (73)).2)) ((F_r_run (x) (7 + 2 * (a).toNat) (73)).2)); rw [← eM9, ← eW9]; exact hD⟩, hS.F ht⟩) hS.2.2 dX11_power_63
            · skip
              rw [if_pos c_35] at hres
              refine lv_bipush (v := iI (-3 : Int)) hx hb dX11_power_38 (by decide) ?_
              have kg9 : kG (x) (x) := (kG_rf _)
              have eM9 : M = kM (x) := hkM.trans (kG_M kg9).symm
              have eW9 : wl = kWl (x) := hkW.trans (kG_W kg9).symm
              have eP9 := (kG_p kg9).1
              have eS9 := (kG_p kg9).2
              have kl1 := kle.1
              have kl2 := kle.2
              have hF2 : (F_t_power x a k d).2 = x := by
                have h9 := congrArg Prod.snd hres
                exact h9.symm
              refine W.widen (k := kPo x - kPo (F_t_power x a k d).2) (n := kPs x - kPs (F_t_power x a k d).2) (by rw [hF2]; omega) (by rw [hF2]; omega) ?_
              exact W.iret (v := iI ((-3 : Int))) hx hb hr (fun t ht hW => ⟨⟨iI ((-3 : Int)), (x, ad), rfl, ⟨(by have h9 := congrArg (fun z : Int × KS => iI z.1) hres; exact h9), (by have h9 := congrArg (fun z : Int × KS => z.2) hres; exact h9), had⟩, by rw [ht]; show va_P (dC, dI) vwCl (kWd cI cJ cZ cR (kWl (x)) ad (kM (x)) (x)) H; rw [← eM9, ← eW9]; exact hP, va_K.moved hW.alike hK, by show va_D A (kWd cI cJ cZ cR (kWl (x)) ad (kM (x)) (x)); rw [← eM9, ← eW9]; exact hD⟩, hS.F ht⟩) hS.2.2 dX11_power_40
          · skip
            rw [if_neg c_25] at hres
            refine lv_bipush (v := iI (-2 : Int)) hx hb dX11_power_28 (by decide) ?_
            have kg9 : kG (x) (x) := (kG_rf _)
            have eM9 : M = kM (x) := hkM.trans (kG_M kg9).symm
            have eW9 : wl = kWl (x) := hkW.trans (kG_W kg9).symm
            have eP9 := (kG_p kg9).1
            have eS9 := (kG_p kg9).2
            have kl1 := kle.1
            have kl2 := kle.2
            have hF2 : (F_t_power x a k d).2 = x := by
              have h9 := congrArg Prod.snd hres
              exact h9.symm
            refine W.widen (k := kPo x - kPo (F_t_power x a k d).2) (n := kPs x - kPs (F_t_power x a k d).2) (by rw [hF2]; omega) (by rw [hF2]; omega) ?_
            exact W.iret (v := iI ((-2 : Int))) hx hb hr (fun t ht hW => ⟨⟨iI ((-2 : Int)), (x, ad), rfl, ⟨(by have h9 := congrArg (fun z : Int × KS => iI z.1) hres; exact h9), (by have h9 := congrArg (fun z : Int × KS => z.2) hres; exact h9), had⟩, by rw [ht]; show va_P (dC, dI) vwCl (kWd cI cJ cZ cR (kWl (x)) ad (kM (x)) (x)) H; rw [← eM9, ← eW9]; exact hP, va_K.moved hW.alike hK, by show va_D A (kWd cI cJ cZ cR (kWl (x)) ad (kM (x)) (x)); rw [← eM9, ← eW9]; exact hD⟩, hS.F ht⟩) hS.2.2 dX11_power_30
      · skip
        rw [if_pos c_13] at hres
        refine lv_iconst (v := iI (-1 : Int)) hx hb dX11_power_16 (by decide) ?_
        have kg9 : kG (x) (x) := (kG_rf _)
        have eM9 : M = kM (x) := hkM.trans (kG_M kg9).symm
        have eW9 : wl = kWl (x) := hkW.trans (kG_W kg9).symm
        have eP9 := (kG_p kg9).1
        have eS9 := (kG_p kg9).2
        have kl1 := kle.1
        have kl2 := kle.2
        have hF2 : (F_t_power x a k d).2 = x := by
          have h9 := congrArg Prod.snd hres
          exact h9.symm
        refine W.widen (k := kPo x - kPo (F_t_power x a k d).2) (n := kPs x - kPs (F_t_power x a k d).2) (by rw [hF2]; omega) (by rw [hF2]; omega) ?_
        exact W.iret (v := iI ((-1 : Int))) hx hb hr (fun t ht hW => ⟨⟨iI ((-1 : Int)), (x, ad), rfl, ⟨(by have h9 := congrArg (fun z : Int × KS => iI z.1) hres; exact h9), (by have h9 := congrArg (fun z : Int × KS => z.2) hres; exact h9), had⟩, by rw [ht]; show va_P (dC, dI) vwCl (kWd cI cJ cZ cR (kWl (x)) ad (kM (x)) (x)) H; rw [← eM9, ← eW9]; exact hP, va_K.moved hW.alike hK, by show va_D A (kWd cI cJ cZ cR (kWl (x)) ad (kM (x)) (x)); rw [← eM9, ← eW9]; exact hD⟩, hS.F ht⟩) hS.2.2 dX11_power_17
  exact key M wl ao _ _ ls hM hkM hkW (fun _ _ => rfl) hP hD hS hl
theorem F_t_power_sfr  : ∀ n : Nat, (∀ (y : KS) (v0 : Int) (v1 : Int) (v2 : Int) (v3 : Int), gfr [(7 + 2 * (v2).toNat, 1), (77, 1), (70, 4), (70, 5), (64, 8), (73, 1)] [(7 + 2 * (v2).toNat) + 1, 78, 71, 72, 74] y (F_t_power_s n 0 y v0 v1 v2 v3).2) := by
  intro n
  induction n with
  | zero => exact fun y _ _ _ _ => gm_rf _ _ _
  | succ n ih =>
    skip
    · intro y a k d i
      rw [F_t_power_e0]
      by_cases hc : (k) ≤ (i)
      · rw [if_pos hc]
        exact (gm_tr (gm_rf _ _ _) (gm_mono (km1 (List.Mem.head _) km0) (km1 (List.Mem.head _) km0) (gm_of (F_w_take_fr (y) (7 + 2 * (d).toNat) (77)))))
      · rw [if_neg hc]
        by_cases hc : ((F_t_putBehind (y) (73)).1) = (0)
        · rw [if_pos hc]
          exact (gm_tr (gm_rf _ _ _) (gm_mono (km1 (List.Mem.tail _ (List.Mem.head _)) (km1 (List.Mem.tail _ (List.Mem.tail _ (List.Mem.head _))) (km1 (List.Mem.tail _ (List.Mem.tail _ (List.Mem.tail _ (List.Mem.head _)))) (km1 (List.Mem.tail _ (List.Mem.tail _ (List.Mem.tail _ (List.Mem.tail _ (List.Mem.head _))))) km0)))) (km1 (List.Mem.tail _ (List.Mem.head _)) (km1 (List.Mem.tail _ (List.Mem.tail _ (List.Mem.head _))) (km1 (List.Mem.tail _ (List.Mem.tail _ (List.Mem.tail _ (List.Mem.head _)))) km0))) (F_t_putBehind_fr (y) (73))))
        · rw [if_neg hc]
          exact gm_tr ((gm_tr (gm_rf _ _ _) (gm_mono (km1 (List.Mem.tail _ (List.Mem.head _)) (km1 (List.Mem.tail _ (List.Mem.tail _ (List.Mem.head _))) (km1 (List.Mem.tail _ (List.Mem.tail _ (List.Mem.tail _ (List.Mem.head _)))) (km1 (List.Mem.tail _ (List.Mem.tail _ (List.Mem.tail _ (List.Mem.tail _ (List.Mem.head _))))) km0)))) (km1 (List.Mem.tail _ (List.Mem.head _)) (km1 (List.Mem.tail _ (List.Mem.tail _ (List.Mem.head _))) (km1 (List.Mem.tail _ (List.Mem.tail _ (List.Mem.tail _ (List.Mem.head _)))) km0))) (F_t_putBehind_fr (y) (73))))) (ih ((F_t_putBehind (y) (73)).2) (a) (k) (d) ((i) + (1 : Int)))
theorem F_t_power_fr (x : KS) (a : Int) (k : Int) (d : Int) : gfr [(7 + 2 * (d).toNat, 1), (77, 1), (70, 4), (70, 5), (64, 8), (73, 1)] [(7 + 2 * (d).toNat) + 1, 78, 71, 72, 74] x (F_t_power x a k d).2 := by
  unfold F_t_power
  by_cases hc : ((F_t_isSlot (x) (a)).1) = (0)
  · rw [if_pos hc]
    exact (gm_rf _ _ _)
  · rw [if_neg hc]
    by_cases hc : ((F_t_isSlot (x) (d)).1) = (0)
    · rw [if_pos hc]
      exact (gm_rf _ _ _)
    · rw [if_neg hc]
      by_cases hc : (k) < (0)
      · rw [if_pos hc]
        exact (gm_rf _ _ _)
      · rw [if_neg hc]
        by_cases hc : (k) ≤ ((100 : Int))
        · rw [if_pos hc]
          by_cases hc : ((F_t_isProved (x)).1) = (0)
          · rw [if_pos hc]
            exact (gm_rf _ _ _)
          · rw [if_neg hc]
            by_cases hc : ((F_r_run (x) (7 + 2 * (a).toNat) (73)).1) = (0)
            · rw [if_pos hc]
              exact (gm_tr (gm_rf _ _ _) (gm_mono (km1 (List.Mem.tail _ (List.Mem.tail _ (List.Mem.head _))) (km1 (List.Mem.tail _ (List.Mem.tail _ (List.Mem.tail _ (List.Mem.head _)))) (km1 (List.Mem.tail _ (List.Mem.tail _ (List.Mem.tail _ (List.Mem.tail _ (List.Mem.head _))))) (km1 (List.Mem.tail _ (List.Mem.tail _ (List.Mem.tail _ (List.Mem.tail _ (List.Mem.tail _ (List.Mem.head _)))))) km0)))) (km1 (List.Mem.tail _ (List.Mem.tail _ (List.Mem.head _))) (km1 (List.Mem.tail _ (List.Mem.tail _ (List.Mem.tail _ (List.Mem.head _)))) (km1 (List.Mem.tail _ (List.Mem.tail _ (List.Mem.tail _ (List.Mem.tail _ (List.Mem.head _))))) km0))) (F_r_run_fr (x) (7 + 2 * (a).toNat) (73))))
            · rw [if_neg hc]
              exact gm_tr ((gm_tr (gm_tr (gm_rf _ _ _) (gm_mono (km1 (List.Mem.tail _ (List.Mem.tail _ (List.Mem.head _))) (km1 (List.Mem.tail _ (List.Mem.tail _ (List.Mem.tail _ (List.Mem.head _)))) (km1 (List.Mem.tail _ (List.Mem.tail _ (List.Mem.tail _ (List.Mem.tail _ (List.Mem.head _))))) (km1 (List.Mem.tail _ (List.Mem.tail _ (List.Mem.tail _ (List.Mem.tail _ (List.Mem.tail _ (List.Mem.head _)))))) km0)))) (km1 (List.Mem.tail _ (List.Mem.tail _ (List.Mem.head _))) (km1 (List.Mem.tail _ (List.Mem.tail _ (List.Mem.tail _ (List.Mem.head _)))) (km1 (List.Mem.tail _ (List.Mem.tail _ (List.Mem.tail _ (List.Mem.tail _ (List.Mem.head _))))) km0))) (F_r_run_fr (x) (7 + 2 * (a).toNat) (73)))) (gm_mono (km1 (List.Mem.tail _ (List.Mem.head _)) km0) km0 (gm_of (F_w_wipe_fr ((F_r_run (x) (7 + 2 * (a).toNat) (73)).2) (77)))))) ((F_t_power_sfr  (110)) ((F_w_wipe ((F_r_run (x) (7 + 2 * (a).toNat) (73)).2) (77)).2) (a) (k) (d) ((0 : Int)))
        · rw [if_neg hc]
          exact (gm_rf _ _ _)
def F_t_order_s  : Nat → Nat → KS → Int → Int → Int × KS
  | 0, _, x, _, _ => (0, x)
  | n + 1, t, x, p0, p1 => match t with
    | 0 => (fun (a : Int) (k : Int) => (if ((100 : Int)) < (k) then ((-9 : Int), x) else (if ((F_t_putBehind (x) (73)).1) = (0) then ((-4 : Int), (F_t_putBehind (x) (73)).2) else (if (((F_t_putBehind (x) (73)).2).1 (77) 1) = (0) then (k, (F_t_putBehind (x) (73)).2) else F_t_order_s n 0 ((F_t_putBehind (x) (73)).2) (a) ((k) + (1 : Int)))))) p0 p1
    | _ => (0, x)
theorem F_t_order_e0  (n : Nat) (x : KS) (a : Int) (k : Int) : F_t_order_s (n + 1) 0 x a k = (if ((100 : Int)) < (k) then ((-9 : Int), x) else (if ((F_t_putBehind (x) (73)).1) = (0) then ((-4 : Int), (F_t_putBehind (x) (73)).2) else (if (((F_t_putBehind (x) (73)).2).1 (77) 1) = (0) then (k, (F_t_putBehind (x) (73)).2) else F_t_order_s n 0 ((F_t_putBehind (x) (73)).2) (a) ((k) + (1 : Int))))) := rfl
def F_t_order (x : KS) (a : Int) : Int × KS := (if ((F_t_isSlot (x) (a)).1) = (0) then ((-1 : Int), x) else (if ((F_t_isProved (x)).1) = (0) then ((-3 : Int), x) else (if ((F_r_run (x) (7 + 2 * (a).toNat) (73)).1) = (0) then ((-4 : Int), (F_r_run (x) (7 + 2 * (a).toNat) (73)).2) else F_t_order_s 110 0 ((F_w_wipe ((F_r_run (x) (7 + 2 * (a).toNat) (73)).2) (77)).2) (a) ((1 : Int)))))
theorem F_t_order_sle   : ∀ n : Nat, (∀ (y : KS) (v0 : Int) (v1 : Int), kLe y (F_t_order_s n 0 y v0 v1).2) := by
  intro n
  induction n with
  | zero => exact fun y _ _ => kLe_rf _
  | succ n ih =>
    skip
    · intro y a k
      rw [F_t_order_e0]
      by_cases hc9 : ((100 : Int)) < (k)
      · rw [if_pos hc9]
        exact (kLe_rf _)
      · rw [if_neg hc9]
        by_cases hc9 : ((F_t_putBehind (y) (73)).1) = (0)
        · rw [if_pos hc9]
          exact (kLe_tr (kLe_rf _) (F_t_putBehind_le (y) (73)))
        · rw [if_neg hc9]
          by_cases hc9 : (((F_t_putBehind (y) (73)).2).1 (77) 1) = (0)
          · rw [if_pos hc9]
            exact (kLe_tr (kLe_rf _) (F_t_putBehind_le (y) (73)))
          · rw [if_neg hc9]
            exact kLe_tr (kLe_tr (kLe_rf _) (F_t_putBehind_le (y) (73))) (ih ((F_t_putBehind (y) (73)).2) (a) ((k) + (1 : Int)))
theorem F_t_order_le  (x : KS) (a : Int) : kLe x (F_t_order x a).2 := by
  unfold F_t_order
  by_cases hc9 : ((F_t_isSlot (x) (a)).1) = (0)
  · rw [if_pos hc9]
    exact (kLe_rf _)
  · rw [if_neg hc9]
    by_cases hc9 : ((F_t_isProved (x)).1) = (0)
    · rw [if_pos hc9]
      exact (kLe_rf _)
    · rw [if_neg hc9]
      by_cases hc9 : ((F_r_run (x) (7 + 2 * (a).toNat) (73)).1) = (0)
      · rw [if_pos hc9]
        exact (kLe_tr (kLe_rf _) (F_r_run_le rfl (by omega) (x) (7 + 2 * (a).toNat)))
      · rw [if_neg hc9]
        exact kLe_tr (kLe_tr (kLe_tr (kLe_rf _) (F_r_run_le rfl (by omega) (x) (7 + 2 * (a).toNat))) (kLe_G (kG_of (F_w_wipe_fr ((F_r_run (x) (7 + 2 * (a).toNat) (73)).2) (77)) (by first | decide | (intro h9; simp at h9; done) | (intro h9; simp at h9; omega)) (by first | decide | (intro h9; simp at h9; done) | (intro h9; simp at h9; omega))))) ((F_t_order_sle   _) ((F_w_wipe ((F_r_run (x) (7 + 2 * (a).toNat) (73)).2) (77)).2) (a) ((1 : Int)))
set_option maxHeartbeats 4000000 in
set_option maxRecDepth 100000 in
/-- LikeWords, order -/
theorem c_t_order (l : Launch) (dC : Nat → ClassId) (dI : Nat → Nat → Nat) (ao : Nat → Nat) (cI cJ cZ cR : ClassId) (M wl sz : Nat) (x : KS) (a : Int) (hM : 87 ≤ M) (hkM : M = kM x) (hkW : wl = kWl x) (ra : iR a) (bp : bdP x) (su : ∀ j : Int, 0 ≤ j → j < 8 → wG x (7 + 2 * j.toNat)) (r3 : r03 (x.2 74)) (r8 : r03 (x.2 78)) : Met l yX11_order wsX11_order ({ frames := 6, cells := kPo x - kPo (F_t_order x a).2, slots := kPs x - kPs (F_t_order x a).2, locals := 153 }) (kPc dC dI ao cI cJ cZ cR M wl sz x [.ref (ao 0), .int (iI a)]) (va_Qi (fun (r : Int32) (u : KS × (Nat → Nat)) => r = iI (F_t_order x a).1 ∧ u.1 = (F_t_order x a).2 ∧ (∀ c, c < 87 → u.2 c = ao c)) (fun u t => kAt dC dI u.2 cI cJ cZ cR (kM u.1) (kWl u.1) (va_A (kWd cI cJ cZ cR wl ao M x) sz) u.1 t) (va_A (kWd cI cJ cZ cR wl ao M x) sz)) (kPo x - kPo (F_t_order x a).2) (kPs x - kPs (F_t_order x a).2) (va_A (kWd cI cJ cZ cR wl ao M x) sz) := by
  refine Met.ofW (cc := cX11_order) (maxL := 3) (ret := (some .int)) (by decide) rfl ?_
  intro p e s m args below meth c s₁ B hml hv
  obtain ⟨rfl, hsz, hP, hK, hD0, hNw⟩ := hv
  have hx := B.exec
  have hb := B.bytes
  have hr := B.returns
  have hts := atoms_spec (ws := wsX11_order) B.pre
  have hown : s.vm.findClass RX11 = some m.cls := findClass_of_methodNamed B.named
  have hlocks := B.notSynchronized
  have hinX10 : ∀ w ∈ u_ws RX10 TX10 2, w ∈ wsX11_order := by decide +kernel
  have hinX11 : ∀ w ∈ u_ws RX11 TX11 17, w ∈ wsX11_order := by decide +kernel
  subst hsz
  have hD := hD0.self (sz := s.heap.size)
  generalize hAe : va_A (kWd cI cJ cZ cR wl ao M x) s.heap.size = A at hD ⊢
  have hA : ∀ q : Nat, s.heap.size ≤ q → A q := fun q h => by rw [← hAe]; exact Or.inr h
  have hS : va_S A s.heap s.heap [] := va_S.rf
  have hl := lv_entry ([.ref (ao 0), .int (iI a)]) (n := 3) (Nat.le_of_ble_eq_true rfl)
  rw [lg_entry_eq]
  generalize (lg_sl ([.ref (ao 0), .int (iI a)]) ++ List.replicate (3 - (lg_sl ([.ref (ao 0), .int (iI a)])).length) Slot.unset).toArray = ls at hl ⊢
  have hl : lv_has ls 3 [(0, .ref (ao (0))), (1, .int (iI (a)))] := hl
  have L : ∀ n : Nat, (∀ (y : KS) (M wl : Nat) (ad : Nat → Nat) (k : Int), 87 ≤ M → M = kM y → wl = kWl y → (∀ c, c < 87 → ad c = ao c) → kLe x y → (rOK y) → (wG y 73) → (wG y 77) → (1 ≤ k) → (k ≤ 101) → (101 - k < n) → F_t_order_s n 0 y a k = F_t_order x a → ∀ (H : Heap) (locs : List Loc) (ls : Array Slot), va_P (dC, dI) vwCl (kWd cI cJ cZ cR wl ad M (y)) H → va_D A (kWd cI cJ cZ cR wl ad M (y)) → va_S A s.heap H locs → lv_has ls 3 [(0, .ref (ad (0))), (1, .int (iI (a))), (2, .int (iI (k)))] → W p l e (headSpec wsX11_order ({ frames := 6, cells := kPo x - kPo (F_t_order x a).2, slots := kPs x - kPs (F_t_order x a).2, locals := 153 })).room s m ([.ref (ao 0), .int (iI a)] : List Value).toArray below meth c H locs (kPo x - kPo y) (kPs x - kPs y) (MQ below (va_Qi (fun (r : Int32) (u : KS × (Nat → Nat)) => r = iI (F_t_order x a).1 ∧ u.1 = (F_t_order x a).2 ∧ (∀ c, c < 87 → u.2 c = ao c)) (fun u t => kAt dC dI u.2 cI cJ cZ cR (kM u.1) (kWl u.1) (A) u.1 t) (A)) ([.ref (ao 0), .int (iI a)] : List Value).toArray s (kPo x - kPo (F_t_order x a).2) (kPs x - kPs (F_t_order x a).2) A) (F0 m 52 ls [])) := by
    intro n
    induction n with
    | zero =>
      skip
      · intro y M wl ad k hM hkM hkW had kle oy g3 g7 k0 k1 fu hres
        exact absurd fu (by omega)
    | succ n ih =>
      skip
      · intro y M wl ad k hM hkM hkW had kle oy g3 g7 k0 k1 fu hres H locs ls hP hD hS hl
        have kf9 : kLe y (F_t_order x a).2 := by
          rw [← hres]
          exact (F_t_order_sle   (n + 1)) _ _ _
        have kf1 := kf9.1
        have kf2 := kf9.2
        rw [F_t_order_e0] at hres
        have klx1 := kle.1
        have klx2 := kle.2
        refine lv_iload_n hx hb dX11_order_52 rfl (lv_at hl 2 rfl) ?_
        refine lv_bipush (v := iI (100 : Int)) hx hb dX11_order_53 (by decide) ?_
        refine wi_icmp_gt (tgt := 90) hx hb (by first | assumption | (unfold iR; omega) | exact kR01 (by assumption)) ⟨by decide, by decide⟩ dX11_order_55 (by decide) (fun c_55 => ?_) (fun c_55 => ?_)
        · skip
          rw [if_pos c_55] at hres
          refine lv_bipush (v := iI (-9 : Int)) hx hb dX11_order_90 (by decide) ?_
          have kg9 : kG (y) (y) := (kG_rf _)
          have eM9 : M = kM (y) := hkM.trans (kG_M kg9).symm
          have eW9 : wl = kWl (y) := hkW.trans (kG_W kg9).symm
          have eP9 := (kG_p kg9).1
          have eS9 := (kG_p kg9).2
          have kl1 := kle.1
          have kl2 := kle.2
          have hF2 : (F_t_order x a).2 = y := by
            have h9 := congrArg Prod.snd hres
            exact h9.symm
          refine W.widen (k := kPo x - kPo (F_t_order x a).2) (n := kPs x - kPs (F_t_order x a).2) (by rw [hF2]; omega) (by rw [hF2]; omega) ?_
          exact W.iret (v := iI ((-9 : Int))) hx hb hr (fun t ht hW => ⟨⟨iI ((-9 : Int)), (y, ad), rfl, ⟨(by have h9 := congrArg (fun z : Int × KS => iI z.1) hres; exact h9), (by have h9 := congrArg (fun z : Int × KS => z.2) hres; exact h9), had⟩, by rw [ht]; show va_P (dC, dI) vwCl (kWd cI cJ cZ cR (kWl (y)) ad (kM (y)) (y)) H; rw [← eM9, ← eW9]; exact hP, va_K.moved hW.alike hK, by show va_D A (kWd cI cJ cZ cR (kWl (y)) ad (kM (y)) (y)); rw [← eM9, ← eW9]; exact hD⟩, hS.F ht⟩) hS.2.2 dX11_order_92
        · skip
          rw [if_neg c_55] at hres
          refine lv_aload_n hx hb dX11_order_58 rfl (lv_at hl 0 rfl) ?_
          refine lv_aload_n hx hb dX11_order_59 rfl (lv_at hl 0 rfl) ?_
          refine va_get (D := (dC, dI)) (ci := 11) (v := .ref (ad (73))) (C := RX11) (T := TX11) (N := 17) hx hb hts hinX11 hown hK hP (0) (kg0 (by omega)) rfl 11 (by decide) (hts (.fieldLink RX11 66 "LikeWords" "first" "LLikeWords$Word;") (by decide +kernel)) (fun _ h9 => h9) rfl dX11_order_60 ?_
          have kg9 : kG (y) (y) := (kG_rf _)
          have eM9 : M = kM (y) := hkM.trans (kG_M kg9).symm
          have eW9 : wl = kWl (y) := hkW.trans (kG_W kg9).symm
          have eP9 := (kG_p kg9).1
          have eS9 := (kG_p kg9).2
          have kl1 := kle.1
          have kl2 := kle.2
          have kfn : kLe (F_t_putBehind (y) (73)).2 (F_t_order x a).2 := by
            rw [← hres]
            by_cases hc9 : ((F_t_putBehind (y) (73)).1) = (0)
            · rw [if_pos hc9]
              exact (kLe_rf _)
            · rw [if_neg hc9]
              by_cases hc9 : (((F_t_putBehind (y) (73)).2).1 (77) 1) = (0)
              · rw [if_pos hc9]
                exact (kLe_rf _)
              · rw [if_neg hc9]
                exact kLe_tr (kLe_rf _) ((F_t_order_sle   _) ((F_t_putBehind (y) (73)).2) (a) ((k) + (1 : Int)))
          have kf1 := kfn.1
          have kf2 := kfn.2
          have kd9 : kLe (y) (F_t_putBehind (y) (73)).2 := (F_t_putBehind_le (y) (73))
          have kd1 := kd9.1
          have kd2 := kd9.2
          have hFc : ∀ q, va_A (kWd cI cJ cZ cR wl ad M (y)) H.size q → A q := fun q hq => Or.elim hq (fun ⟨k, e, hk⟩ => hD.2 k (q, e) hk) (fun hk => hA q (Nat.le_trans hS.1 hk))
          refine va_calli (va_runV (b := ad (0)) (As := [.ref (ad (73))]) (rest := []) ⟨hx, hb, hml, hown, hts⟩ (c_t_putBehind l dC dI ad cI cJ cZ cR M wl H.size (y) (73)  hM rfl (by omega) eM9 eW9 oy g7 g3 (kl60 rfl g3) (by decide)) (cwV 1 hts gX11_order_X11_putBehind rfl rfl rfl (by decide +kernel) ⟨Nat.le_of_ble_eq_true rfl, Nat.le_of_ble_eq_true rfl⟩) ⟨fun a U g mk q => by obtain ⟨q0, q1, qP, qK, qD, qN⟩ := q; exact ⟨q0, q1, qP, va_K.moved (u := U) (U := U.calling g mk a) (Vm.Alike.refl U.vm) qK, qD, kNw.same (u := U) (U := U.calling g mk a) rfl qN⟩, va_recv hK hP (ci := 11) (q0 := 0) rfl (kg0 (by omega)), fun U hU hW => ⟨rfl, by rw [hU], by rw [hU]; exact hP, va_K.moved hW.alike hK, hD.weaken (fun _ _ _ _ => trivial), kNw.warm hW hNw⟩⟩ rfl rfl hl.1 rfl (lv_room (Nat.le_of_ble_eq_true rfl)) dX11_order_63 ⟨(show _ ≤ kPo x - kPo (F_t_order x a).2 by omega), (show _ ≤ kPs x - kPs (F_t_order x a).2 by omega)⟩) hS (fun q _ h => hFc q h) hFc (fun r9 u9 t H1 locs ht hvm hw hB hz1 hk1 hS => ?_)
          obtain ⟨hP1, hK1, hD1⟩ := hB
          rw [ht] at hP1
          obtain ⟨z9, ad⟩ := u9
          obtain ⟨hw1, hw2, hw3⟩ := hw
          rw [hw1]
          have hw2 : z9 = (F_t_putBehind (y) (73)).2 := hw2
          subst hw2
          have hw3 := fun c (hc : c < 87) => (show ad c = _ from hw3 c hc)
          have had : ∀ c, c < 87 → ad c = ao c := fun c hc => (hw3 c hc).trans (had c hc)
          have hl : lv_has ls 3 [(0, .ref (ad (0))), (1, .int (iI (a))), (2, .int (iI (k)))] := by
            rw [hw3 (0) (by omega)]
            exact hl
          have hP1 : va_P (dC, dI) vwCl (kWd cI cJ cZ cR (kWl (F_t_putBehind (y) (73)).2) ad (kM (F_t_putBehind (y) (73)).2) (F_t_putBehind (y) (73)).2) H1 := hP1
          have hD1 : va_D A (kWd cI cJ cZ cR (kWl (F_t_putBehind (y) (73)).2) ad (kM (F_t_putBehind (y) (73)).2) (F_t_putBehind (y) (73)).2) := hD1.weaken (B := A) (fun _ q _ h => hFc q.1 h)
          have kle : kLe x (F_t_putBehind (y) (73)).2 := ⟨by omega, by omega⟩
          refine W.widen (k := kPo x - kPo (F_t_putBehind (y) (73)).2) (n := kPs x - kPs (F_t_putBehind (y) (73)).2) (by omega) (by omega) ?_
          obtain ⟨M, hkM⟩ : ∃ M9, M9 = kM (F_t_putBehind (y) (73)).2 := ⟨_, rfl⟩
          obtain ⟨wl, hkW⟩ : ∃ W9, W9 = kWl (F_t_putBehind (y) (73)).2 := ⟨_, rfl⟩
          rw [← hkM, ← hkW] at hP1 hD1
          have hM : 87 ≤ M := by rw [hkM]; exact kM_ge _
          have hP := hP1
          have hD := hD1
          generalize H1 = H at hP hS ⊢
          have px := putBehind_x oy g7 (w1 := 73) rfl (by decide) g3
          have p01 := putBehind_01 oy g7 (w1 := 73) rfl (by decide) g3
          have u7 := px.2.1.1
          refine wi_if_ne (tgt := 72) hx hb (kR01 p01) dX11_order_66 (by decide) (fun c_66 => ?_) (fun c_66 => ?_)
          · skip
            rw [if_neg c_66] at hres
            refine lv_aload_n hx hb dX11_order_72 rfl (lv_at hl 0 rfl) ?_
            refine va_get (D := (dC, dI)) (ci := 11) (v := .ref (ad (77))) (C := RX11) (T := TX11) (N := 17) hx hb hts hinX11 hown hK hP (0) (kg0 (by omega)) rfl 13 (by decide) (hts (.fieldLink RX11 72 "LikeWords" "sum" "LLikeWords$Word;") (by decide +kernel)) (fun _ h9 => h9) rfl dX11_order_73 ?_
            refine va_get (D := (dC, dI)) (ci := 10) (v := .int (iI (((F_t_putBehind (y) (73)).2).1 (77) 1))) (C := RX10) (T := TX10) (N := 2) hx hb hts hinX10 hown hK hP (77) (kgw rfl (by omega)) rfl 1 (by decide) (hts (.fieldLink RX11 123 "LikeWords$Word" "used" "I") (by decide +kernel)) (fun _ h9 => h9) rfl dX11_order_76 ?_
            refine wi_if_ne (tgt := 84) hx hb (by unfold iR; omega) dX11_order_79 (by decide) (fun c_79 => ?_) (fun c_79 => ?_)
            · skip
              rw [if_neg c_79] at hres
              refine lv_iinc (v := iI ((k) + (1 : Int))) (lv' := [(2, .int (iI ((k) + (1 : Int)))), (0, .ref (ad (0))), (1, .int (iI (a)))]) hx hb dX11_order_84 hl (k := 2) rfl (iI_add _ _) (by decide) rfl (fun ls hl => ?_)
              refine lv_goto (tgt := 52) hx hb dX11_order_87 (by decide) ?_
              have kg9 : kG ((F_t_putBehind (y) (73)).2) ((F_t_putBehind (y) (73)).2) := (kG_rf _)
              have eM9 : M = kM ((F_t_putBehind (y) (73)).2) := hkM.trans (kG_M kg9).symm
              have eW9 : wl = kWl ((F_t_putBehind (y) (73)).2) := hkW.trans (kG_W kg9).symm
              have eP9 := (kG_p kg9).1
              have eS9 := (kG_p kg9).2
              have kl1 := kle.1
              have kl2 := kle.2
              refine W.widen (k := kPo x - kPo ((F_t_putBehind (y) (73)).2)) (n := kPs x - kPs ((F_t_putBehind (y) (73)).2)) (by omega) (by omega) ?_
              exact ih ((F_t_putBehind (y) (73)).2) M wl ad ((k) + (1 : Int)) hM eM9 eW9 had ⟨by omega, by omega⟩ (px.1) (px.2.2.1 73 rfl (by decide) (by decide) g3) (px.2.1) (by omega) (by omega) (by omega) hres _ _ ls hP hD hS (lv_sub hl [1, 2, 0] rfl)
            · skip
              rw [if_pos c_79] at hres
              refine lv_iload_n hx hb dX11_order_82 rfl (lv_at hl 2 rfl) ?_
              have kg9 : kG ((F_t_putBehind (y) (73)).2) ((F_t_putBehind (y) (73)).2) := (kG_rf _)
              have eM9 : M = kM ((F_t_putBehind (y) (73)).2) := hkM.trans (kG_M kg9).symm
              have eW9 : wl = kWl ((F_t_putBehind (y) (73)).2) := hkW.trans (kG_W kg9).symm
              have eP9 := (kG_p kg9).1
              have eS9 := (kG_p kg9).2
              have kl1 := kle.1
              have kl2 := kle.2
              have hF2 : (F_t_order x a).2 = (F_t_putBehind (y) (73)).2 := by
                have h9 := congrArg Prod.snd hres
                exact h9.symm
              refine W.widen (k := kPo x - kPo (F_t_order x a).2) (n := kPs x - kPs (F_t_order x a).2) (by rw [hF2]; omega) (by rw [hF2]; omega) ?_
              exact W.iret (v := iI (k)) hx hb hr (fun t ht hW => ⟨⟨iI (k), ((F_t_putBehind (y) (73)).2, ad), rfl, ⟨(by have h9 := congrArg (fun z : Int × KS => iI z.1) hres; exact h9), (by have h9 := congrArg (fun z : Int × KS => z.2) hres; exact h9), had⟩, by rw [ht]; show va_P (dC, dI) vwCl (kWd cI cJ cZ cR (kWl ((F_t_putBehind (y) (73)).2)) ad (kM ((F_t_putBehind (y) (73)).2)) ((F_t_putBehind (y) (73)).2)) H; rw [← eM9, ← eW9]; exact hP, va_K.moved hW.alike hK, by show va_D A (kWd cI cJ cZ cR (kWl ((F_t_putBehind (y) (73)).2)) ad (kM ((F_t_putBehind (y) (73)).2)) ((F_t_putBehind (y) (73)).2)); rw [← eM9, ← eW9]; exact hD⟩, hS.F ht⟩) hS.2.2 dX11_order_83
          · skip
            rw [if_pos c_66] at hres
            refine lv_bipush (v := iI (-4 : Int)) hx hb dX11_order_69 (by decide) ?_
            have kg9 : kG ((F_t_putBehind (y) (73)).2) ((F_t_putBehind (y) (73)).2) := (kG_rf _)
            have eM9 : M = kM ((F_t_putBehind (y) (73)).2) := hkM.trans (kG_M kg9).symm
            have eW9 : wl = kWl ((F_t_putBehind (y) (73)).2) := hkW.trans (kG_W kg9).symm
            have eP9 := (kG_p kg9).1
            have eS9 := (kG_p kg9).2
            have kl1 := kle.1
            have kl2 := kle.2
            have hF2 : (F_t_order x a).2 = (F_t_putBehind (y) (73)).2 := by
              have h9 := congrArg Prod.snd hres
              exact h9.symm
            refine W.widen (k := kPo x - kPo (F_t_order x a).2) (n := kPs x - kPs (F_t_order x a).2) (by rw [hF2]; omega) (by rw [hF2]; omega) ?_
            exact W.iret (v := iI ((-4 : Int))) hx hb hr (fun t ht hW => ⟨⟨iI ((-4 : Int)), ((F_t_putBehind (y) (73)).2, ad), rfl, ⟨(by have h9 := congrArg (fun z : Int × KS => iI z.1) hres; exact h9), (by have h9 := congrArg (fun z : Int × KS => z.2) hres; exact h9), had⟩, by rw [ht]; show va_P (dC, dI) vwCl (kWd cI cJ cZ cR (kWl ((F_t_putBehind (y) (73)).2)) ad (kM ((F_t_putBehind (y) (73)).2)) ((F_t_putBehind (y) (73)).2)) H; rw [← eM9, ← eW9]; exact hP, va_K.moved hW.alike hK, by show va_D A (kWd cI cJ cZ cR (kWl ((F_t_putBehind (y) (73)).2)) ad (kM ((F_t_putBehind (y) (73)).2)) ((F_t_putBehind (y) (73)).2)); rw [← eM9, ← eW9]; exact hD⟩, hS.F ht⟩) hS.2.2 dX11_order_71
  have key : ∀ (M wl : Nat) (ad : Nat → Nat) (H : Heap) (locs : List Loc) (ls : Array Slot), 87 ≤ M → M = kM x → wl = kWl x → (∀ c, c < 87 → ad c = ao c) → va_P (dC, dI) vwCl (kWd cI cJ cZ cR wl ad M (x)) H → va_D A (kWd cI cJ cZ cR wl ad M (x)) → va_S A s.heap H locs → lv_has ls 3 [(0, .ref (ad (0))), (1, .int (iI (a)))] → W p l e (headSpec wsX11_order ({ frames := 6, cells := kPo x - kPo (F_t_order x a).2, slots := kPs x - kPs (F_t_order x a).2, locals := 153 })).room s m ([.ref (ao 0), .int (iI a)] : List Value).toArray below meth c H locs 0 0 (MQ below (va_Qi (fun (r : Int32) (u : KS × (Nat → Nat)) => r = iI (F_t_order x a).1 ∧ u.1 = (F_t_order x a).2 ∧ (∀ c, c < 87 → u.2 c = ao c)) (fun u t => kAt dC dI u.2 cI cJ cZ cR (kM u.1) (kWl u.1) (A) u.1 t) (A)) ([.ref (ao 0), .int (iI a)] : List Value).toArray s (kPo x - kPo (F_t_order x a).2) (kPs x - kPs (F_t_order x a).2) A) (F0 m 0 ls []) := by
    intro M wl ad H locs ls hM hkM hkW had hP hD hS hl
    have kle : kLe x x := kLe_rf x
    have kf9 := F_t_order_le  x a
    have kf1 := kf9.1
    have kf2 := kf9.2
    have hres : (if ((F_t_isSlot (x) (a)).1) = (0) then ((-1 : Int), x) else (if ((F_t_isProved (x)).1) = (0) then ((-3 : Int), x) else (if ((F_r_run (x) (7 + 2 * (a).toNat) (73)).1) = (0) then ((-4 : Int), (F_r_run (x) (7 + 2 * (a).toNat) (73)).2) else F_t_order_s 110 0 ((F_w_wipe ((F_r_run (x) (7 + 2 * (a).toNat) (73)).2) (77)).2) (a) ((1 : Int))))) = F_t_order x a := rfl
    refine lv_aload_n hx hb dX11_order_0 rfl (lv_at hl 0 rfl) ?_
    refine lv_iload_n hx hb dX11_order_1 rfl (lv_at hl 1 rfl) ?_
    have hFc : ∀ q, va_A (kWd cI cJ cZ cR wl ad M (x)) H.size q → A q := fun q hq => Or.elim hq (fun ⟨k, e, hk⟩ => hD.2 k (q, e) hk) (fun hk => hA q (Nat.le_trans hS.1 hk))
    refine va_calli (va_runV (b := ad (0)) (As := [.int (iI (a))]) (rest := []) ⟨hx, hb, hml, hown, hts⟩ (c_t_isSlot l dC dI ad cI cJ cZ cR M wl H.size (x)  (a) hM ra) (cwV 1 hts gX11_order_X11_isSlot rfl rfl rfl (by decide +kernel) ⟨Nat.le_of_ble_eq_true rfl, Nat.le_of_ble_eq_true rfl⟩) ⟨fun a U g mk q => by obtain ⟨q0, q1, qP, qK, qD, qN⟩ := q; exact ⟨q0, q1, qP, va_K.moved (u := U) (U := U.calling g mk a) (Vm.Alike.refl U.vm) qK, qD, kNw.same (u := U) (U := U.calling g mk a) rfl qN⟩, va_recv hK hP (ci := 11) (q0 := 0) rfl (kg0 (by omega)), fun U hU hW => ⟨rfl, by rw [hU], by rw [hU]; exact hP, va_K.moved hW.alike hK, hD.weaken (fun _ _ _ _ => trivial), kNw.warm hW hNw⟩⟩ rfl rfl hl.1 rfl (lv_room (Nat.le_of_ble_eq_true rfl)) dX11_order_2 ⟨(show _ ≤ kPo x - kPo (F_t_order x a).2 by omega), (show _ ≤ kPs x - kPs (F_t_order x a).2 by omega)⟩) hS (fun q _ h => hFc q h) hFc (fun r9 u9 t H1 locs ht hvm hw hB hz1 hk1 hS => ?_)
    obtain ⟨hP1, hK1, hD1⟩ := hB
    rw [ht] at hP1
    obtain ⟨hw1, hw2⟩ := hw
    rw [hw2] at hP1 hD1
    rw [hw1]
    rw [F_t_isSlot_2] at hP1 hD1
    have hD2 := hD1.weaken (B := A) (fun _ q _ h => hFc q.1 h)
    have hP := hP1
    have hD := hD2
    generalize H1 = H at hP hS ⊢
    refine wi_if_ne (tgt := 10) hx hb (kR01 (F_t_isSlot_01 _ _)) dX11_order_5 (by decide) (fun c_5 => ?_) (fun c_5 => ?_)
    · skip
      rw [if_neg c_5] at hres
      obtain ⟨a0, a1⟩ := F_t_isSlot_1 c_5
      refine lv_aload_n hx hb dX11_order_10 rfl (lv_at hl 0 rfl) ?_
      have hFc : ∀ q, va_A (kWd cI cJ cZ cR wl ad M (x)) H.size q → A q := fun q hq => Or.elim hq (fun ⟨k, e, hk⟩ => hD.2 k (q, e) hk) (fun hk => hA q (Nat.le_trans hS.1 hk))
      refine va_calli (va_runV (b := ad (0)) (As := []) (rest := []) ⟨hx, hb, hml, hown, hts⟩ (c_t_isProved l dC dI ad cI cJ cZ cR M wl H.size (x)   hM bp.1.1 bp.1.2 bp.2.1) (cwV 0 hts gX11_order_X11_isProved rfl rfl rfl (by decide +kernel) ⟨Nat.le_of_ble_eq_true rfl, Nat.le_of_ble_eq_true rfl⟩) ⟨fun a U g mk q => by obtain ⟨q0, q1, qP, qK, qD, qN⟩ := q; exact ⟨q0, q1, qP, va_K.moved (u := U) (U := U.calling g mk a) (Vm.Alike.refl U.vm) qK, qD, kNw.same (u := U) (U := U.calling g mk a) rfl qN⟩, va_recv hK hP (ci := 11) (q0 := 0) rfl (kg0 (by omega)), fun U hU hW => ⟨rfl, by rw [hU], by rw [hU]; exact hP, va_K.moved hW.alike hK, hD.weaken (fun _ _ _ _ => trivial), kNw.warm hW hNw⟩⟩ rfl rfl hl.1 rfl (lv_room (Nat.le_of_ble_eq_true rfl)) dX11_order_11 ⟨(show _ ≤ kPo x - kPo (F_t_order x a).2 by omega), (show _ ≤ kPs x - kPs (F_t_order x a).2 by omega)⟩) hS (fun q _ h => hFc q h) hFc (fun r9 u9 t H1 locs ht hvm hw hB hz1 hk1 hS => ?_)
      obtain ⟨hP1, hK1, hD1⟩ := hB
      rw [ht] at hP1
      obtain ⟨hw1, hw2⟩ := hw
      rw [hw2] at hP1 hD1
      rw [hw1]
      rw [F_t_isProved_2] at hP1 hD1
      have hD2 := hD1.weaken (B := A) (fun _ q _ h => hFc q.1 h)
      have hP := hP1
      have hD := hD2
      generalize H1 = H at hP hS ⊢
      refine wi_if_ne (tgt := 20) hx hb (kR01 (F_t_isProved_01 _)) dX11_order_14 (by decide) (fun c_14 => ?_) (fun c_14 => ?_)
      · skip
        rw [if_neg c_14] at hres
        refine lv_aload_n hx hb dX11_order_20 rfl (lv_at hl 0 rfl) ?_
        refine va_get (D := (dC, dI)) (ci := 11) (v := .ref (ad (70))) (C := RX11) (T := TX11) (N := 17) hx hb hts hinX11 hown hK hP (0) (kg0 (by omega)) rfl 7 (by decide) (hts (.fieldLink RX11 62 "LikeWords" "rewriter" "LLikeWords$Rewriter;") (by decide +kernel)) (fun _ h9 => h9) rfl dX11_order_21 ?_
        refine lv_aload_n hx hb dX11_order_24 rfl (lv_at hl 0 rfl) ?_
        refine va_get (D := (dC, dI)) (ci := 11) (v := .ref (ad (6))) (C := RX11) (T := TX11) (N := 17) hx hb hts hinX11 hown hK hP (0) (kg0 (by omega)) rfl 2 (by decide) (hts (.fieldLink RX11 25 "LikeWords" "slots" "[LLikeWords$Word;") (by decide +kernel)) (fun _ h9 => h9) rfl dX11_order_25 ?_
        refine lv_iload_n hx hb dX11_order_28 rfl (lv_at hl 1 rfl) ?_
        refine va_aldq (C := "LikeWords$Word") (n := 8) (f := fun j => some (ad (7 + 2 * j))) hx hb hK hP 6 3 (kget (by omega)) rfl (iI_in (z := a) (by omega) (by omega) (by decide)) dX11_order_29 ?_
        rw [iI_clamp ⟨by omega, by omega⟩]
        refine W.eq (g2 := F0 m 30 ls [.ref (ad (7 + 2 * (a).toNat)), .ref (ad (70))]) rfl ?_
        refine lv_aload_n hx hb dX11_order_30 rfl (lv_at hl 0 rfl) ?_
        refine va_get (D := (dC, dI)) (ci := 11) (v := .ref (ad (73))) (C := RX11) (T := TX11) (N := 17) hx hb hts hinX11 hown hK hP (0) (kg0 (by omega)) rfl 11 (by decide) (hts (.fieldLink RX11 66 "LikeWords" "first" "LLikeWords$Word;") (by decide +kernel)) (fun _ h9 => h9) rfl dX11_order_31 ?_
        have ok9 : rOK x := bp.2.2.2.2.1 (F_t_isProved_1 bp.2.1 c_14)
        have kg9 : kG (x) (x) := (kG_rf _)
        have eM9 : M = kM (x) := hkM.trans (kG_M kg9).symm
        have eW9 : wl = kWl (x) := hkW.trans (kG_W kg9).symm
        have eP9 := (kG_p kg9).1
        have eS9 := (kG_p kg9).2
        have kl1 := kle.1
        have kl2 := kle.2
        have kfn : kLe (F_r_run (x) (7 + 2 * (a).toNat) (73)).2 (F_t_order x a).2 := by
          rw [← hres]
          by_cases hc9 : ((F_r_run (x) (7 + 2 * (a).toNat) (73)).1) = (0)
          · rw [if_pos hc9]
            exact (kLe_rf _)
          · rw [if_neg hc9]
            exact kLe_tr (kLe_tr (kLe_rf _) (kLe_G (kG_of (F_w_wipe_fr ((F_r_run (x) (7 + 2 * (a).toNat) (73)).2) (77)) (by first | decide | (intro h9; simp at h9; done) | (intro h9; simp at h9; omega)) (by first | decide | (intro h9; simp at h9; done) | (intro h9; simp at h9; omega))))) ((F_t_order_sle   _) ((F_w_wipe ((F_r_run (x) (7 + 2 * (a).toNat) (73)).2) (77)).2) (a) ((1 : Int)))
        have kf1 := kfn.1
        have kf2 := kfn.2
        have kd9 : kLe (x) (F_r_run (x) (7 + 2 * (a).toNat) (73)).2 := (F_r_run_le rfl (by omega) (x) (7 + 2 * (a).toNat))
        have kd1 := kd9.1
        have kd2 := kd9.2
        have hFc : ∀ q, va_A (kWd cI cJ cZ cR wl ad M (x)) H.size q → A q := fun q hq => Or.elim hq (fun ⟨k, e, hk⟩ => hD.2 k (q, e) hk) (fun hk => hA q (Nat.le_trans hS.1 hk))
        refine va_calli (va_runV (b := ad (70)) (As := [.ref (ad (7 + 2 * (a).toNat)), .ref (ad (73))]) (rest := []) ⟨hx, hb, hml, hown, hts⟩ (c_r_run l dC dI ad cI cJ cZ cR M wl H.size (x) (7 + 2 * (a).toNat) (73)  hM (kW_slot (by omega) (by omega)) (by omega) rfl (by omega) eM9 eW9 ok9 (su a a0 a1) (kL_slot a0 a1) rfl r3) (cwV 2 hts gX11_order_X6_run rfl rfl rfl (by decide +kernel) ⟨Nat.le_of_ble_eq_true rfl, Nat.le_of_ble_eq_true rfl⟩) ⟨fun a U g mk q => by obtain ⟨q0, q1, qP, qK, qD, qN⟩ := q; exact ⟨q0, q1, qP, va_K.moved (u := U) (U := U.calling g mk a) (Vm.Alike.refl U.vm) qK, qD, kNw.same (u := U) (U := U.calling g mk a) rfl qN⟩, va_recv hK hP (ci := 6) (q0 := 70) rfl (kg70 (by omega)), fun U hU hW => ⟨rfl, by rw [hU], by rw [hU]; exact hP, va_K.moved hW.alike hK, hD.weaken (fun _ _ _ _ => trivial), kNw.warm hW hNw⟩⟩ rfl rfl hl.1 rfl (lv_room (Nat.le_of_ble_eq_true rfl)) dX11_order_34 ⟨(show _ ≤ kPo x - kPo (F_t_order x a).2 by omega), (show _ ≤ kPs x - kPs (F_t_order x a).2 by omega)⟩) hS (fun q _ h => hFc q h) hFc (fun r9 u9 t H1 locs ht hvm hw hB hz1 hk1 hS => ?_)
        obtain ⟨hP1, hK1, hD1⟩ := hB
        rw [ht] at hP1
        obtain ⟨z9, ad⟩ := u9
        obtain ⟨hw1, hw2, hw3⟩ := hw
        rw [hw1]
        have hw2 : z9 = (F_r_run (x) (7 + 2 * (a).toNat) (73)).2 := hw2
        subst hw2
        have hw3 := fun c (hc : c < 87) => (show ad c = _ from hw3 c hc)
        have had : ∀ c, c < 87 → ad c = ao c := fun c hc => (hw3 c hc).trans (had c hc)
        have hl : lv_has ls 3 [(0, .ref (ad (0))), (1, .int (iI (a)))] := by
          rw [hw3 (0) (by omega)]
          exact hl
        have hP1 : va_P (dC, dI) vwCl (kWd cI cJ cZ cR (kWl (F_r_run (x) (7 + 2 * (a).toNat) (73)).2) ad (kM (F_r_run (x) (7 + 2 * (a).toNat) (73)).2) (F_r_run (x) (7 + 2 * (a).toNat) (73)).2) H1 := hP1
        have hD1 : va_D A (kWd cI cJ cZ cR (kWl (F_r_run (x) (7 + 2 * (a).toNat) (73)).2) ad (kM (F_r_run (x) (7 + 2 * (a).toNat) (73)).2) (F_r_run (x) (7 + 2 * (a).toNat) (73)).2) := hD1.weaken (B := A) (fun _ q _ h => hFc q.1 h)
        have kle : kLe x (F_r_run (x) (7 + 2 * (a).toNat) (73)).2 := ⟨by omega, by omega⟩
        refine W.widen (k := kPo x - kPo (F_r_run (x) (7 + 2 * (a).toNat) (73)).2) (n := kPs x - kPs (F_r_run (x) (7 + 2 * (a).toNat) (73)).2) (by omega) (by omega) ?_
        obtain ⟨M, hkM⟩ : ∃ M9, M9 = kM (F_r_run (x) (7 + 2 * (a).toNat) (73)).2 := ⟨_, rfl⟩
        obtain ⟨wl, hkW⟩ : ∃ W9, W9 = kWl (F_r_run (x) (7 + 2 * (a).toNat) (73)).2 := ⟨_, rfl⟩
        rw [← hkM, ← hkW] at hP1 hD1
        have hM : 87 ≤ M := by rw [hkM]; exact kM_ge _
        have hP := hP1
        have hD := hD1
        generalize H1 = H at hP hS ⊢
        have rg := run_G ok9 (w1 := 7 + 2 * (a).toNat) (w2 := 73) (kW_slot a0 a1) rfl rfl (by decide) (su a a0 a1) r3
        refine wi_if_ne (tgt := 43) hx hb (kR01 (Or.inr rg.2.2.2)) dX11_order_37 (by decide) (fun c_37 => ?_) (fun c_37 => ?_)
        · skip
          rw [if_neg c_37] at hres
          refine lv_aload_n hx hb dX11_order_43 rfl (lv_at hl 0 rfl) ?_
          refine va_get (D := (dC, dI)) (ci := 11) (v := .ref (ad (77))) (C := RX11) (T := TX11) (N := 17) hx hb hts hinX11 hown hK hP (0) (kg0 (by omega)) rfl 13 (by decide) (hts (.fieldLink RX11 72 "LikeWords" "sum" "LLikeWords$Word;") (by decide +kernel)) (fun _ h9 => h9) rfl dX11_order_44 ?_
          have hFc : ∀ q, va_A (kWd cI cJ cZ cR wl ad M ((F_r_run (x) (7 + 2 * (a).toNat) (73)).2)) H.size q → A q := fun q hq => Or.elim hq (fun ⟨k, e, hk⟩ => hD.2 k (q, e) hk) (fun hk => hA q (Nat.le_trans hS.1 hk))
          refine va_callv (va_runV (b := ad (77)) (As := []) (rest := []) ⟨hx, hb, hml, hown, hts⟩ (c_w_wipe l dC dI ad cI cJ cZ cR M wl H.size ((F_r_run (x) (7 + 2 * (a).toNat) (73)).2) (77)  hM rfl (by omega) ) (cwV 0 hts gX11_order_X10_wipe rfl rfl rfl (by decide +kernel) ⟨Nat.le_of_ble_eq_true rfl, Nat.le_of_ble_eq_true rfl⟩) ⟨fun a U g mk q => by obtain ⟨q0, q1, qP, qK, qD, qN⟩ := q; exact ⟨q0, q1, qP, va_K.moved (u := U) (U := U.calling g mk a) (Vm.Alike.refl U.vm) qK, qD, kNw.same (u := U) (U := U.calling g mk a) rfl qN⟩, va_recv hK hP (ci := 10) (q0 := 77) rfl (kgw rfl (by omega)), fun U hU hW => ⟨rfl, by rw [hU], by rw [hU]; exact hP, va_K.moved hW.alike hK, hD.weaken (fun _ _ _ _ => trivial), kNw.warm hW hNw⟩⟩ rfl rfl hl.1 rfl (lv_room (Nat.le_of_ble_eq_true rfl)) dX11_order_47 ⟨(show _ ≤ kPo x - kPo (F_t_order x a).2 by omega), (show _ ≤ kPs x - kPs (F_t_order x a).2 by omega)⟩) hS (fun q _ h => hFc q h) hFc (fun u9 t H1 locs ht hvm hw hB hz1 hk1 hS => ?_)
          obtain ⟨hP1, hK1, hD1⟩ := hB
          rw [ht] at hP1
          rw [hw] at hP1 hD1
          have hD2 := hD1.weaken (B := A) (fun _ q _ h => hFc q.1 h)
          have hP := hP1
          have hD := hD2
          generalize H1 = H at hP hS ⊢
          refine lv_iconst (v := iI (1 : Int)) hx hb dX11_order_50 (by decide) ?_
          refine lv_istore_n (lv' := [(2, .int (iI ((1 : Int)))), (0, .ref (ad (0))), (1, .int (iI (a)))]) hx hb dX11_order_51 rfl hl (by decide) rfl (fun ls hl => ?_)
          have kg9 : kG ((F_r_run (x) (7 + 2 * (a).toNat) (73)).2) ((F_w_wipe ((F_r_run (x) (7 + 2 * (a).toNat) (73)).2) (77)).2) := (kG_tr (kG_rf _) (kG_of (F_w_wipe_fr ((F_r_run (x) (7 + 2 * (a).toNat) (73)).2) (77)) (by first | decide | (intro h9; simp at h9; done) | (intro h9; simp at h9; omega)) (by first | decide | (intro h9; simp at h9; done) | (intro h9; simp at h9; omega))))
          have eM9 : M = kM ((F_w_wipe ((F_r_run (x) (7 + 2 * (a).toNat) (73)).2) (77)).2) := hkM.trans (kG_M kg9).symm
          have eW9 : wl = kWl ((F_w_wipe ((F_r_run (x) (7 + 2 * (a).toNat) (73)).2) (77)).2) := hkW.trans (kG_W kg9).symm
          have eP9 := (kG_p kg9).1
          have eS9 := (kG_p kg9).2
          have kl1 := kle.1
          have kl2 := kle.2
          refine W.widen (k := kPo x - kPo ((F_w_wipe ((F_r_run (x) (7 + 2 * (a).toNat) (73)).2) (77)).2)) (n := kPs x - kPs ((F_w_wipe ((F_r_run (x) (7 + 2 * (a).toNat) (73)).2) (77)).2)) (by omega) (by omega) ?_
          exact (L (110)) ((F_w_wipe ((F_r_run (x) (7 + 2 * (a).toNat) (73)).2) (77)).2) M wl ad ((1 : Int)) hM eM9 eW9 had ⟨by omega, by omega⟩ (rOK_fr (F_w_wipe_fr _ 77) (fun p hp => by rw [List.mem_singleton] at hp; rw [hp]; exact rSs_w rfl) (fun p hp => absurd hp List.not_mem_nil) rg.1) (wG_fr (F_w_wipe_fr _ 77) (by decide) (by decide) (by decide) rg.2.1) ((wipe_G (by rw [(F_r_run_fr x _ 73).2 78 (by decide) (by intro h9; simp at h9)]; exact r8)).1) (by omega) (by omega) (by omega) hres _ _ ls hP hD hS (lv_sub hl [1, 2, 0] rfl)
        · skip
          rw [if_pos c_37] at hres
          refine lv_bipush (v := iI (-4 : Int)) hx hb dX11_order_40 (by decide) ?_
          have kg9 : kG ((F_r_run (x) (7 + 2 * (a).toNat) (73)).2) ((F_r_run (x) (7 + 2 * (a).toNat) (73)).2) := (kG_rf _)
          have eM9 : M = kM ((F_r_run (x) (7 + 2 * (a).toNat) (73)).2) := hkM.trans (kG_M kg9).symm
          have eW9 : wl = kWl ((F_r_run (x) (7 + 2 * (a).toNat) (73)).2) := hkW.trans (kG_W kg9).symm
          have eP9 := (kG_p kg9).1
          have eS9 := (kG_p kg9).2
          have kl1 := kle.1
          have kl2 := kle.2
          have hF2 : (F_t_order x a).2 = (F_r_run (x) (7 + 2 * (a).toNat) (73)).2 := by
            have h9 := congrArg Prod.snd hres
            exact h9.symm
          refine W.widen (k := kPo x - kPo (F_t_order x a).2) (n := kPs x - kPs (F_t_order x a).2) (by rw [hF2]; omega) (by rw [hF2]; omega) ?_
          exact W.iret (v := iI ((-4 : Int))) hx hb hr (fun t ht hW => ⟨⟨iI ((-4 : Int)), ((F_r_run (x) (7 + 2 * (a).toNat) (73)).2, ad), rfl, ⟨(by have h9 := congrArg (fun z : Int × KS => iI z.1) hres; exact h9), (by have h9 := congrArg (fun z : Int × KS => z.2) hres; exact h9), had⟩, by rw [ht]; show va_P (dC, dI) vwCl (kWd cI cJ cZ cR (kWl ((F_r_run (x) (7 + 2 * (a).toNat) (73)).2)) ad (kM ((F_r_run (x) (7 + 2 * (a).toNat) (73)).2)) ((F_r_run (x) (7 + 2 * (a).toNat) (73)).2)) H; rw [← eM9, ← eW9]; exact hP, va_K.moved hW.alike hK, by show va_D A (kWd cI cJ cZ cR (kWl ((F_r_run (x) (7 + 2 * (a).toNat) (73)).2)) ad (kM ((F_r_run (x) (7 + 2 * (a).toNat) (73)).2)) ((F_r_run (x) (7 + 2 * (a).toNat) (73)).2)); rw [← eM9, ← eW9]; exact hD⟩, hS.F ht⟩) hS.2.2 dX11_order_42
      · skip
        rw [if_pos c_14] at hres
        refine lv_bipush (v := iI (-3 : Int)) hx hb dX11_order_17 (by decide) ?_
        have kg9 : kG (x) (x) := (kG_rf _)
        have eM9 : M = kM (x) := hkM.trans (kG_M kg9).symm
        have eW9 : wl = kWl (x) := hkW.trans (kG_W kg9).symm
        have eP9 := (kG_p kg9).1
        have eS9 := (kG_p kg9).2
        have kl1 := kle.1
        have kl2 := kle.2
        have hF2 : (F_t_order x a).2 = x := by
          have h9 := congrArg Prod.snd hres
          exact h9.symm
        refine W.widen (k := kPo x - kPo (F_t_order x a).2) (n := kPs x - kPs (F_t_order x a).2) (by rw [hF2]; omega) (by rw [hF2]; omega) ?_
        exact W.iret (v := iI ((-3 : Int))) hx hb hr (fun t ht hW => ⟨⟨iI ((-3 : Int)), (x, ad), rfl, ⟨(by have h9 := congrArg (fun z : Int × KS => iI z.1) hres; exact h9), (by have h9 := congrArg (fun z : Int × KS => z.2) hres; exact h9), had⟩, by rw [ht]; show va_P (dC, dI) vwCl (kWd cI cJ cZ cR (kWl (x)) ad (kM (x)) (x)) H; rw [← eM9, ← eW9]; exact hP, va_K.moved hW.alike hK, by show va_D A (kWd cI cJ cZ cR (kWl (x)) ad (kM (x)) (x)); rw [← eM9, ← eW9]; exact hD⟩, hS.F ht⟩) hS.2.2 dX11_order_19
    · skip
      rw [if_pos c_5] at hres
      refine lv_iconst (v := iI (-1 : Int)) hx hb dX11_order_8 (by decide) ?_
      have kg9 : kG (x) (x) := (kG_rf _)
      have eM9 : M = kM (x) := hkM.trans (kG_M kg9).symm
      have eW9 : wl = kWl (x) := hkW.trans (kG_W kg9).symm
      have eP9 := (kG_p kg9).1
      have eS9 := (kG_p kg9).2
      have kl1 := kle.1
      have kl2 := kle.2
      have hF2 : (F_t_order x a).2 = x := by
        have h9 := congrArg Prod.snd hres
        exact h9.symm
      refine W.widen (k := kPo x - kPo (F_t_order x a).2) (n := kPs x - kPs (F_t_order x a).2) (by rw [hF2]; omega) (by rw [hF2]; omega) ?_
      exact W.iret (v := iI ((-1 : Int))) hx hb hr (fun t ht hW => ⟨⟨iI ((-1 : Int)), (x, ad), rfl, ⟨(by have h9 := congrArg (fun z : Int × KS => iI z.1) hres; exact h9), (by have h9 := congrArg (fun z : Int × KS => z.2) hres; exact h9), had⟩, by rw [ht]; show va_P (dC, dI) vwCl (kWd cI cJ cZ cR (kWl (x)) ad (kM (x)) (x)) H; rw [← eM9, ← eW9]; exact hP, va_K.moved hW.alike hK, by show va_D A (kWd cI cJ cZ cR (kWl (x)) ad (kM (x)) (x)); rw [← eM9, ← eW9]; exact hD⟩, hS.F ht⟩) hS.2.2 dX11_order_9
  exact key M wl ao _ _ ls hM hkM hkW (fun _ _ => rfl) hP hD hS hl
theorem F_t_order_sfr  : ∀ n : Nat, (∀ (y : KS) (v0 : Int) (v1 : Int), gfr [(77, 1), (70, 4), (70, 5), (64, 8), (73, 1)] [78, 71, 72, 74] y (F_t_order_s n 0 y v0 v1).2) := by
  intro n
  induction n with
  | zero => exact fun y _ _ => gm_rf _ _ _
  | succ n ih =>
    skip
    · intro y a k
      rw [F_t_order_e0]
      by_cases hc : ((100 : Int)) < (k)
      · rw [if_pos hc]
        exact (gm_rf _ _ _)
      · rw [if_neg hc]
        by_cases hc : ((F_t_putBehind (y) (73)).1) = (0)
        · rw [if_pos hc]
          exact (gm_tr (gm_rf _ _ _) (gm_mono (km1 (List.Mem.head _) (km1 (List.Mem.tail _ (List.Mem.head _)) (km1 (List.Mem.tail _ (List.Mem.tail _ (List.Mem.head _))) (km1 (List.Mem.tail _ (List.Mem.tail _ (List.Mem.tail _ (List.Mem.head _)))) km0)))) (km1 (List.Mem.head _) (km1 (List.Mem.tail _ (List.Mem.head _)) (km1 (List.Mem.tail _ (List.Mem.tail _ (List.Mem.head _))) km0))) (F_t_putBehind_fr (y) (73))))
        · rw [if_neg hc]
          by_cases hc : (((F_t_putBehind (y) (73)).2).1 (77) 1) = (0)
          · rw [if_pos hc]
            exact (gm_tr (gm_rf _ _ _) (gm_mono (km1 (List.Mem.head _) (km1 (List.Mem.tail _ (List.Mem.head _)) (km1 (List.Mem.tail _ (List.Mem.tail _ (List.Mem.head _))) (km1 (List.Mem.tail _ (List.Mem.tail _ (List.Mem.tail _ (List.Mem.head _)))) km0)))) (km1 (List.Mem.head _) (km1 (List.Mem.tail _ (List.Mem.head _)) (km1 (List.Mem.tail _ (List.Mem.tail _ (List.Mem.head _))) km0))) (F_t_putBehind_fr (y) (73))))
          · rw [if_neg hc]
            exact gm_tr ((gm_tr (gm_rf _ _ _) (gm_mono (km1 (List.Mem.head _) (km1 (List.Mem.tail _ (List.Mem.head _)) (km1 (List.Mem.tail _ (List.Mem.tail _ (List.Mem.head _))) (km1 (List.Mem.tail _ (List.Mem.tail _ (List.Mem.tail _ (List.Mem.head _)))) km0)))) (km1 (List.Mem.head _) (km1 (List.Mem.tail _ (List.Mem.head _)) (km1 (List.Mem.tail _ (List.Mem.tail _ (List.Mem.head _))) km0))) (F_t_putBehind_fr (y) (73))))) (ih ((F_t_putBehind (y) (73)).2) (a) ((k) + (1 : Int)))
theorem F_t_order_fr (x : KS) (a : Int) : gfr [(77, 1), (70, 4), (70, 5), (64, 8), (73, 1)] [78, 71, 72, 74] x (F_t_order x a).2 := by
  unfold F_t_order
  by_cases hc : ((F_t_isSlot (x) (a)).1) = (0)
  · rw [if_pos hc]
    exact (gm_rf _ _ _)
  · rw [if_neg hc]
    by_cases hc : ((F_t_isProved (x)).1) = (0)
    · rw [if_pos hc]
      exact (gm_rf _ _ _)
    · rw [if_neg hc]
      by_cases hc : ((F_r_run (x) (7 + 2 * (a).toNat) (73)).1) = (0)
      · rw [if_pos hc]
        exact (gm_tr (gm_rf _ _ _) (gm_mono (km1 (List.Mem.tail _ (List.Mem.head _)) (km1 (List.Mem.tail _ (List.Mem.tail _ (List.Mem.head _))) (km1 (List.Mem.tail _ (List.Mem.tail _ (List.Mem.tail _ (List.Mem.head _)))) (km1 (List.Mem.tail _ (List.Mem.tail _ (List.Mem.tail _ (List.Mem.tail _ (List.Mem.head _))))) km0)))) (km1 (List.Mem.tail _ (List.Mem.head _)) (km1 (List.Mem.tail _ (List.Mem.tail _ (List.Mem.head _))) (km1 (List.Mem.tail _ (List.Mem.tail _ (List.Mem.tail _ (List.Mem.head _)))) km0))) (F_r_run_fr (x) (7 + 2 * (a).toNat) (73))))
      · rw [if_neg hc]
        exact gm_tr ((gm_tr (gm_tr (gm_rf _ _ _) (gm_mono (km1 (List.Mem.tail _ (List.Mem.head _)) (km1 (List.Mem.tail _ (List.Mem.tail _ (List.Mem.head _))) (km1 (List.Mem.tail _ (List.Mem.tail _ (List.Mem.tail _ (List.Mem.head _)))) (km1 (List.Mem.tail _ (List.Mem.tail _ (List.Mem.tail _ (List.Mem.tail _ (List.Mem.head _))))) km0)))) (km1 (List.Mem.tail _ (List.Mem.head _)) (km1 (List.Mem.tail _ (List.Mem.tail _ (List.Mem.head _))) (km1 (List.Mem.tail _ (List.Mem.tail _ (List.Mem.tail _ (List.Mem.head _)))) km0))) (F_r_run_fr (x) (7 + 2 * (a).toNat) (73)))) (gm_mono (km1 (List.Mem.head _) km0) km0 (gm_of (F_w_wipe_fr ((F_r_run (x) (7 + 2 * (a).toNat) (73)).2) (77)))))) ((F_t_order_sfr  (110)) ((F_w_wipe ((F_r_run (x) (7 + 2 * (a).toNat) (73)).2) (77)).2) (a) ((1 : Int)))
