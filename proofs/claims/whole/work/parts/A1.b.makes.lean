-- deps: 98.r
theorem mdR_begin {x : KS} (md : mdR x) : mdR (F_d_begin x).2 := by
  have e : (F_d_begin x).2 = kS (kA (kA x 85 0 1) 86 0 1) 84 2 1 := rfl
  have r1 : iRL 1 := ⟨by decide, by decide⟩
  rw [e]
  refine ⟨by rw [kS_s]; omega, ?_, ?_⟩
  · rw [kS_2, kA_c (by decide), kA_s]; exact iU_all (P := iRL) r1 md.2.1
  · rw [kS_2, kA_s, kA_c (by decide)]; exact iU_all (P := iRL) r1 md.2.2
def F_t_makes_s  : Nat → Nat → KS → Int → Int → Int → Int × KS
  | 0, _, x, _, _, _ => (0, x)
  | n + 1, t, x, p0, p1, p2 => match t with
    | 0 => (fun (a : Int) (b : Int) (i : Int) => (if ((300 : Int)) ≤ (i) then ((x).1 (84) 2, x) else (if ((x).1 (84) 2) ≤ (i) then ((x).1 (84) 2, x) else (if ((F_t_makeFrom (x) (73) (i)).1) = (0) then ((-4 : Int), (F_t_makeFrom (x) (73) (i)).2) else (if ((F_t_makeFrom ((F_t_makeFrom (x) (73) (i)).2) (75) (i)).1) = (0) then ((-4 : Int), (F_t_makeFrom ((F_t_makeFrom (x) (73) (i)).2) (75) (i)).2) else F_t_makes_s n 0 ((F_t_makeFrom ((F_t_makeFrom (x) (73) (i)).2) (75) (i)).2) (a) (b) ((i) + (1 : Int))))))) p0 p1 p2
    | _ => (0, x)
theorem F_t_makes_e0  (n : Nat) (x : KS) (a : Int) (b : Int) (i : Int) : F_t_makes_s (n + 1) 0 x a b i = (if ((300 : Int)) ≤ (i) then ((x).1 (84) 2, x) else (if ((x).1 (84) 2) ≤ (i) then ((x).1 (84) 2, x) else (if ((F_t_makeFrom (x) (73) (i)).1) = (0) then ((-4 : Int), (F_t_makeFrom (x) (73) (i)).2) else (if ((F_t_makeFrom ((F_t_makeFrom (x) (73) (i)).2) (75) (i)).1) = (0) then ((-4 : Int), (F_t_makeFrom ((F_t_makeFrom (x) (73) (i)).2) (75) (i)).2) else F_t_makes_s n 0 ((F_t_makeFrom ((F_t_makeFrom (x) (73) (i)).2) (75) (i)).2) (a) (b) ((i) + (1 : Int)))))) := rfl
def F_t_makes (x : KS) (a : Int) (b : Int) : Int × KS := (if ((F_t_isSlot (x) (a)).1) = (0) then ((-1 : Int), x) else (if ((F_t_isSlot (x) (b)).1) = (0) then ((-1 : Int), x) else (if ((F_t_isProved (x)).1) = (0) then ((-3 : Int), x) else (if ((F_r_run (x) (7 + 2 * (a).toNat) (73)).1) = (0) then ((-4 : Int), (F_r_run (x) (7 + 2 * (a).toNat) (73)).2) else (if ((F_r_run ((F_r_run (x) (7 + 2 * (a).toNat) (73)).2) (7 + 2 * (b).toNat) (75)).1) = (0) then ((-4 : Int), (F_r_run ((F_r_run (x) (7 + 2 * (a).toNat) (73)).2) (7 + 2 * (b).toNat) (75)).2) else F_t_makes_s 310 0 ((F_d_begin ((F_r_run ((F_r_run (x) (7 + 2 * (a).toNat) (73)).2) (7 + 2 * (b).toNat) (75)).2)).2) (a) (b) ((0 : Int)))))))
theorem F_t_makes_sle   : ∀ n : Nat, (∀ (y : KS) (v0 : Int) (v1 : Int) (v2 : Int), kLe y (F_t_makes_s n 0 y v0 v1 v2).2) := by
  intro n
  induction n with
  | zero => exact fun y _ _ _ => kLe_rf _
  | succ n ih =>
    skip
    · intro y a b i
      rw [F_t_makes_e0]
      by_cases hc9 : ((300 : Int)) ≤ (i)
      · rw [if_pos hc9]
        exact (kLe_rf _)
      · rw [if_neg hc9]
        by_cases hc9 : ((y).1 (84) 2) ≤ (i)
        · rw [if_pos hc9]
          exact (kLe_rf _)
        · rw [if_neg hc9]
          by_cases hc9 : ((F_t_makeFrom (y) (73) (i)).1) = (0)
          · rw [if_pos hc9]
            exact (kLe_tr (kLe_rf _) (F_t_makeFrom_le (y) (73) (i)))
          · rw [if_neg hc9]
            by_cases hc9 : ((F_t_makeFrom ((F_t_makeFrom (y) (73) (i)).2) (75) (i)).1) = (0)
            · rw [if_pos hc9]
              exact (kLe_tr (kLe_tr (kLe_rf _) (F_t_makeFrom_le (y) (73) (i))) (F_t_makeFrom_le ((F_t_makeFrom (y) (73) (i)).2) (75) (i)))
            · rw [if_neg hc9]
              exact kLe_tr (kLe_tr (kLe_tr (kLe_rf _) (F_t_makeFrom_le (y) (73) (i))) (F_t_makeFrom_le ((F_t_makeFrom (y) (73) (i)).2) (75) (i))) (ih ((F_t_makeFrom ((F_t_makeFrom (y) (73) (i)).2) (75) (i)).2) (a) (b) ((i) + (1 : Int)))
theorem F_t_makes_le  (x : KS) (a : Int) (b : Int) : kLe x (F_t_makes x a b).2 := by
  unfold F_t_makes
  by_cases hc9 : ((F_t_isSlot (x) (a)).1) = (0)
  · rw [if_pos hc9]
    exact (kLe_rf _)
  · rw [if_neg hc9]
    by_cases hc9 : ((F_t_isSlot (x) (b)).1) = (0)
    · rw [if_pos hc9]
      exact (kLe_rf _)
    · rw [if_neg hc9]
      by_cases hc9 : ((F_t_isProved (x)).1) = (0)
      · rw [if_pos hc9]
        exact (kLe_rf _)
      · rw [if_neg hc9]
        by_cases hc9 : ((F_r_run (x) (7 + 2 * (a).toNat) (73)).1) = (0)
        · rw [if_pos hc9]
          exact (kLe_tr (kLe_rf _) (F_r_run_le rfl (by omega) (x) (7 + 2 * (a).toNat)))
        · rw [if_neg hc9]
          by_cases hc9 : ((F_r_run ((F_r_run (x) (7 + 2 * (a).toNat) (73)).2) (7 + 2 * (b).toNat) (75)).1) = (0)
          · rw [if_pos hc9]
            exact (kLe_tr (kLe_tr (kLe_rf _) (F_r_run_le rfl (by omega) (x) (7 + 2 * (a).toNat))) (F_r_run_le rfl (by omega) ((F_r_run (x) (7 + 2 * (a).toNat) (73)).2) (7 + 2 * (b).toNat)))
          · rw [if_neg hc9]
            exact kLe_tr (kLe_tr (kLe_tr (kLe_tr (kLe_rf _) (F_r_run_le rfl (by omega) (x) (7 + 2 * (a).toNat))) (F_r_run_le rfl (by omega) ((F_r_run (x) (7 + 2 * (a).toNat) (73)).2) (7 + 2 * (b).toNat))) (kLe_G (kG_of (F_d_begin_fr ((F_r_run ((F_r_run (x) (7 + 2 * (a).toNat) (73)).2) (7 + 2 * (b).toNat) (75)).2)) (by first | decide | (intro h9; simp at h9; done) | (intro h9; simp at h9; omega)) (by first | decide | (intro h9; simp at h9; done) | (intro h9; simp at h9; omega))))) ((F_t_makes_sle   _) ((F_d_begin ((F_r_run ((F_r_run (x) (7 + 2 * (a).toNat) (73)).2) (7 + 2 * (b).toNat) (75)).2)).2) (a) (b) ((0 : Int)))
set_option maxHeartbeats 4000000 in
set_option maxRecDepth 100000 in
/-- LikeWords, makes -/
theorem c_t_makes (l : Launch) (dC : Nat → ClassId) (dI : Nat → Nat → Nat) (ao : Nat → Nat) (cI cJ cZ cR : ClassId) (M wl sz : Nat) (x : KS) (a : Int) (b : Int) (hM : 87 ≤ M) (hkM : M = kM x) (hkW : wl = kWl x) (ra : iR a) (rb : iR b) (bp : bdP x) (su : ∀ j : Int, 0 ≤ j → j < 8 → wG x (7 + 2 * j.toNat)) (r3 : r03 (x.2 74)) (r6 : r03 (x.2 76)) (r8 : r03 (x.2 78)) (md : mdR x) : Met l yX11_makes wsX11_makes ({ frames := 7, cells := kPo x - kPo (F_t_makes x a b).2, slots := kPs x - kPs (F_t_makes x a b).2, locals := 175 }) (kPc dC dI ao cI cJ cZ cR M wl sz x [.ref (ao 0), .int (iI a), .int (iI b)]) (va_Qi (fun (r : Int32) (u : KS × (Nat → Nat)) => r = iI (F_t_makes x a b).1 ∧ u.1 = (F_t_makes x a b).2 ∧ (∀ c, c < 87 → u.2 c = ao c)) (fun u t => kAt dC dI u.2 cI cJ cZ cR (kM u.1) (kWl u.1) (va_A (kWd cI cJ cZ cR wl ao M x) sz) u.1 t) (va_A (kWd cI cJ cZ cR wl ao M x) sz)) (kPo x - kPo (F_t_makes x a b).2) (kPs x - kPs (F_t_makes x a b).2) (va_A (kWd cI cJ cZ cR wl ao M x) sz) := by
  refine Met.ofW (cc := cX11_makes) (maxL := 4) (ret := (some .int)) (by decide) rfl ?_
  intro p e s m args below meth c s₁ B hml hv
  obtain ⟨rfl, hsz, hP, hK, hD0, hNw⟩ := hv
  have hx := B.exec
  have hb := B.bytes
  have hr := B.returns
  have hts := atoms_spec (ws := wsX11_makes) B.pre
  have hown : s.vm.findClass RX11 = some m.cls := findClass_of_methodNamed B.named
  have hlocks := B.notSynchronized
  have hinX11 : ∀ w ∈ u_ws RX11 TX11 17, w ∈ wsX11_makes := by decide +kernel
  have hinX4 : ∀ w ∈ u_ws RX4 TX4 3, w ∈ wsX11_makes := by decide +kernel
  subst hsz
  have hD := hD0.self (sz := s.heap.size)
  generalize hAe : va_A (kWd cI cJ cZ cR wl ao M x) s.heap.size = A at hD ⊢
  have hA : ∀ q : Nat, s.heap.size ≤ q → A q := fun q h => by rw [← hAe]; exact Or.inr h
  have hS : va_S A s.heap s.heap [] := va_S.rf
  have hl := lv_entry ([.ref (ao 0), .int (iI a), .int (iI b)]) (n := 4) (Nat.le_of_ble_eq_true rfl)
  rw [lg_entry_eq]
  generalize (lg_sl ([.ref (ao 0), .int (iI a), .int (iI b)]) ++ List.replicate (4 - (lg_sl ([.ref (ao 0), .int (iI a), .int (iI b)])).length) Slot.unset).toArray = ls at hl ⊢
  have hl : lv_has ls 4 [(0, .ref (ao (0))), (1, .int (iI (a))), (2, .int (iI (b)))] := hl
  have L : ∀ n : Nat, (∀ (y : KS) (M wl : Nat) (ad : Nat → Nat) (i : Int), 87 ≤ M → M = kM y → wl = kWl y → (∀ c, c < 87 → ad c = ao c) → kLe x y → (rOK y) → (wG y 73) → (wG y 75) → (r03 (y.2 78)) → (mdR y) → (∃ Ls, mdL y Ls) → (0 ≤ i) → (i ≤ 300) → (300 - i < n) → F_t_makes_s n 0 y a b i = F_t_makes x a b → ∀ (H : Heap) (locs : List Loc) (ls : Array Slot), va_P (dC, dI) vwCl (kWd cI cJ cZ cR wl ad M (y)) H → va_D A (kWd cI cJ cZ cR wl ad M (y)) → va_S A s.heap H locs → lv_has ls 4 [(0, .ref (ad (0))), (1, .int (iI (a))), (2, .int (iI (b))), (3, .int (iI (i)))] → W p l e (headSpec wsX11_makes ({ frames := 7, cells := kPo x - kPo (F_t_makes x a b).2, slots := kPs x - kPs (F_t_makes x a b).2, locals := 175 })).room s m ([.ref (ao 0), .int (iI a), .int (iI b)] : List Value).toArray below meth c H locs (kPo x - kPo y) (kPs x - kPs y) (MQ below (va_Qi (fun (r : Int32) (u : KS × (Nat → Nat)) => r = iI (F_t_makes x a b).1 ∧ u.1 = (F_t_makes x a b).2 ∧ (∀ c, c < 87 → u.2 c = ao c)) (fun u t => kAt dC dI u.2 cI cJ cZ cR (kM u.1) (kWl u.1) (A) u.1 t) (A)) ([.ref (ao 0), .int (iI a), .int (iI b)] : List Value).toArray s (kPo x - kPo (F_t_makes x a b).2) (kPs x - kPs (F_t_makes x a b).2) A) (F0 m 80 ls [])) := by
    intro n
    induction n with
    | zero =>
      skip
      · intro y M wl ad i hM hkM hkW had kle oy g3 g5 r8y mdy mly i0 i1 fu hres
        exact absurd fu (by omega)
    | succ n ih =>
      skip
      · intro y M wl ad i hM hkM hkW had kle oy g3 g5 r8y mdy mly i0 i1 fu hres H locs ls hP hD hS hl
        have kf9 : kLe y (F_t_makes x a b).2 := by
          rw [← hres]
          exact (F_t_makes_sle   (n + 1)) _ _ _ _
        have kf1 := kf9.1
        have kf2 := kf9.2
        rw [F_t_makes_e0] at hres
        have klx1 := kle.1
        have klx2 := kle.2
        refine lv_iload_n hx hb dX11_makes_80 rfl (lv_at hl 3 rfl) ?_
        refine lv_sipush (v := iI (300 : Int)) hx hb dX11_makes_81 (by decide) ?_
        refine wi_icmp_ge (tgt := 131) hx hb (by first | assumption | (unfold iR; omega) | exact kR01 (by assumption)) ⟨by decide, by decide⟩ dX11_makes_84 (by decide) (fun c_84 => ?_) (fun c_84 => ?_)
        · skip
          rw [if_pos c_84] at hres
          refine lv_aload_n hx hb dX11_makes_131 rfl (lv_at hl 0 rfl) ?_
          refine va_get (D := (dC, dI)) (ci := 11) (v := .ref (ad (84))) (C := RX11) (T := TX11) (N := 17) hx hb hts hinX11 hown hK hP (0) (kg0 (by omega)) rfl 10 (by decide) (hts (.fieldLink RX11 96 "LikeWords" "made" "LLikeWords$Made;") (by decide +kernel)) (fun _ h9 => h9) rfl dX11_makes_132 ?_
          refine va_get (D := (dC, dI)) (ci := 4) (v := .int (iI ((y).1 (84) 2))) (C := RX4) (T := TX4) (N := 3) hx hb hts hinX4 hown hK hP (84) (kg84 (by omega)) rfl 2 (by decide) (hts (.fieldLink RX11 258 "LikeWords$Made" "held" "I") (by decide +kernel)) (fun _ h9 => h9) rfl dX11_makes_135 ?_
          have kg9 : kG (y) (y) := (kG_rf _)
          have eM9 : M = kM (y) := hkM.trans (kG_M kg9).symm
          have eW9 : wl = kWl (y) := hkW.trans (kG_W kg9).symm
          have eP9 := (kG_p kg9).1
          have eS9 := (kG_p kg9).2
          have kl1 := kle.1
          have kl2 := kle.2
          have hF2 : (F_t_makes x a b).2 = y := by
            have h9 := congrArg Prod.snd hres
            exact h9.symm
          refine W.widen (k := kPo x - kPo (F_t_makes x a b).2) (n := kPs x - kPs (F_t_makes x a b).2) (by rw [hF2]; omega) (by rw [hF2]; omega) ?_
          exact W.iret (v := iI ((y).1 (84) 2)) hx hb hr (fun t ht hW => ⟨⟨iI ((y).1 (84) 2), (y, ad), rfl, ⟨(by have h9 := congrArg (fun z : Int × KS => iI z.1) hres; exact h9), (by have h9 := congrArg (fun z : Int × KS => z.2) hres; exact h9), had⟩, by rw [ht]; show va_P (dC, dI) vwCl (kWd cI cJ cZ cR (kWl (y)) ad (kM (y)) (y)) H; rw [← eM9, ← eW9]; exact hP, va_K.moved hW.alike hK, by show va_D A (kWd cI cJ cZ cR (kWl (y)) ad (kM (y)) (y)); rw [← eM9, ← eW9]; exact hD⟩, hS.F ht⟩) hS.2.2 dX11_makes_138
        · skip
          rw [if_neg c_84] at hres
          refine lv_iload_n hx hb dX11_makes_87 rfl (lv_at hl 3 rfl) ?_
          refine lv_aload_n hx hb dX11_makes_88 rfl (lv_at hl 0 rfl) ?_
          refine va_get (D := (dC, dI)) (ci := 11) (v := .ref (ad (84))) (C := RX11) (T := TX11) (N := 17) hx hb hts hinX11 hown hK hP (0) (kg0 (by omega)) rfl 10 (by decide) (hts (.fieldLink RX11 96 "LikeWords" "made" "LLikeWords$Made;") (by decide +kernel)) (fun _ h9 => h9) rfl dX11_makes_89 ?_
          refine va_get (D := (dC, dI)) (ci := 4) (v := .int (iI ((y).1 (84) 2))) (C := RX4) (T := TX4) (N := 3) hx hb hts hinX4 hown hK hP (84) (kg84 (by omega)) rfl 2 (by decide) (hts (.fieldLink RX11 258 "LikeWords$Made" "held" "I") (by decide +kernel)) (fun _ h9 => h9) rfl dX11_makes_92 ?_
          refine wi_icmp_ge (tgt := 131) hx hb (by unfold iR; omega) (by have := mdy.1; unfold iR; omega) dX11_makes_95 (by decide) (fun c_95 => ?_) (fun c_95 => ?_)
          · skip
            rw [if_pos c_95] at hres
            refine lv_aload_n hx hb dX11_makes_131 rfl (lv_at hl 0 rfl) ?_
            refine va_get (D := (dC, dI)) (ci := 11) (v := .ref (ad (84))) (C := RX11) (T := TX11) (N := 17) hx hb hts hinX11 hown hK hP (0) (kg0 (by omega)) rfl 10 (by decide) (hts (.fieldLink RX11 96 "LikeWords" "made" "LLikeWords$Made;") (by decide +kernel)) (fun _ h9 => h9) rfl dX11_makes_132 ?_
            refine va_get (D := (dC, dI)) (ci := 4) (v := .int (iI ((y).1 (84) 2))) (C := RX4) (T := TX4) (N := 3) hx hb hts hinX4 hown hK hP (84) (kg84 (by omega)) rfl 2 (by decide) (hts (.fieldLink RX11 258 "LikeWords$Made" "held" "I") (by decide +kernel)) (fun _ h9 => h9) rfl dX11_makes_135 ?_
            have kg9 : kG (y) (y) := (kG_rf _)
            have eM9 : M = kM (y) := hkM.trans (kG_M kg9).symm
            have eW9 : wl = kWl (y) := hkW.trans (kG_W kg9).symm
            have eP9 := (kG_p kg9).1
            have eS9 := (kG_p kg9).2
            have kl1 := kle.1
            have kl2 := kle.2
            have hF2 : (F_t_makes x a b).2 = y := by
              have h9 := congrArg Prod.snd hres
              exact h9.symm
            refine W.widen (k := kPo x - kPo (F_t_makes x a b).2) (n := kPs x - kPs (F_t_makes x a b).2) (by rw [hF2]; omega) (by rw [hF2]; omega) ?_
            exact W.iret (v := iI ((y).1 (84) 2)) hx hb hr (fun t ht hW => ⟨⟨iI ((y).1 (84) 2), (y, ad), rfl, ⟨(by have h9 := congrArg (fun z : Int × KS => iI z.1) hres; exact h9), (by have h9 := congrArg (fun z : Int × KS => z.2) hres; exact h9), had⟩, by rw [ht]; show va_P (dC, dI) vwCl (kWd cI cJ cZ cR (kWl (y)) ad (kM (y)) (y)) H; rw [← eM9, ← eW9]; exact hP, va_K.moved hW.alike hK, by show va_D A (kWd cI cJ cZ cR (kWl (y)) ad (kM (y)) (y)); rw [← eM9, ← eW9]; exact hD⟩, hS.F ht⟩) hS.2.2 dX11_makes_138
          · skip
            rw [if_neg c_95] at hres
            refine lv_aload_n hx hb dX11_makes_98 rfl (lv_at hl 0 rfl) ?_
            refine lv_iload_n hx hb dX11_makes_99 rfl (lv_at hl 3 rfl) ?_
            refine lv_aload_n hx hb dX11_makes_100 rfl (lv_at hl 0 rfl) ?_
            refine va_get (D := (dC, dI)) (ci := 11) (v := .ref (ad (73))) (C := RX11) (T := TX11) (N := 17) hx hb hts hinX11 hown hK hP (0) (kg0 (by omega)) rfl 11 (by decide) (hts (.fieldLink RX11 66 "LikeWords" "first" "LLikeWords$Word;") (by decide +kernel)) (fun _ h9 => h9) rfl dX11_makes_101 ?_
            have kg9 : kG (y) (y) := (kG_rf _)
            have eM9 : M = kM (y) := hkM.trans (kG_M kg9).symm
            have eW9 : wl = kWl (y) := hkW.trans (kG_W kg9).symm
            have eP9 := (kG_p kg9).1
            have eS9 := (kG_p kg9).2
            have kl1 := kle.1
            have kl2 := kle.2
            have kfn : kLe (F_t_makeFrom (y) (73) (i)).2 (F_t_makes x a b).2 := by
              rw [← hres]
              by_cases hc9 : ((F_t_makeFrom (y) (73) (i)).1) = (0)
              · rw [if_pos hc9]
                exact (kLe_rf _)
              · rw [if_neg hc9]
                by_cases hc9 : ((F_t_makeFrom ((F_t_makeFrom (y) (73) (i)).2) (75) (i)).1) = (0)
                · rw [if_pos hc9]
                  exact (kLe_tr (kLe_rf _) (F_t_makeFrom_le ((F_t_makeFrom (y) (73) (i)).2) (75) (i)))
                · rw [if_neg hc9]
                  exact kLe_tr (kLe_tr (kLe_rf _) (F_t_makeFrom_le ((F_t_makeFrom (y) (73) (i)).2) (75) (i))) ((F_t_makes_sle   _) ((F_t_makeFrom ((F_t_makeFrom (y) (73) (i)).2) (75) (i)).2) (a) (b) ((i) + (1 : Int)))
            have kf1 := kfn.1
            have kf2 := kfn.2
            have kd9 : kLe (y) (F_t_makeFrom (y) (73) (i)).2 := (F_t_makeFrom_le (y) (73) (i))
            have kd1 := kd9.1
            have kd2 := kd9.2
            have hFc : ∀ q, va_A (kWd cI cJ cZ cR wl ad M (y)) H.size q → A q := fun q hq => Or.elim hq (fun ⟨k, e, hk⟩ => hD.2 k (q, e) hk) (fun hk => hA q (Nat.le_trans hS.1 hk))
            refine va_calli (va_runV (b := ad (0)) (As := [.int (iI (i)), .ref (ad (73))]) (rest := []) ⟨hx, hb, hml, hown, hts⟩ (c_t_makeFrom l dC dI ad cI cJ cZ cR M wl H.size (y) (73) (i) hM rfl (by omega) eM9 eW9 oy r8y g3 (kl60 rfl g3) (by decide) mdy mly i0 (by omega)) (cwV 2 hts gX11_makes_X11_makeFrom rfl rfl rfl (by decide +kernel) ⟨Nat.le_of_ble_eq_true rfl, Nat.le_of_ble_eq_true rfl⟩) ⟨fun a U g mk q => by obtain ⟨q0, q1, qP, qK, qD, qN⟩ := q; exact ⟨q0, q1, qP, va_K.moved (u := U) (U := U.calling g mk a) (Vm.Alike.refl U.vm) qK, qD, kNw.same (u := U) (U := U.calling g mk a) rfl qN⟩, va_recv hK hP (ci := 11) (q0 := 0) rfl (kg0 (by omega)), fun U hU hW => ⟨rfl, by rw [hU], by rw [hU]; exact hP, va_K.moved hW.alike hK, hD.weaken (fun _ _ _ _ => trivial), kNw.warm hW hNw⟩⟩ rfl rfl hl.1 rfl (lv_room (Nat.le_of_ble_eq_true rfl)) dX11_makes_104 ⟨(show _ ≤ kPo x - kPo (F_t_makes x a b).2 by omega), (show _ ≤ kPs x - kPs (F_t_makes x a b).2 by omega)⟩) hS (fun q _ h => hFc q h) hFc (fun r9 u9 t H1 locs ht hvm hw hB hz1 hk1 hS => ?_)
            obtain ⟨hP1, hK1, hD1⟩ := hB
            rw [ht] at hP1
            obtain ⟨z9, ad⟩ := u9
            obtain ⟨hw1, hw2, hw3⟩ := hw
            rw [hw1]
            have hw2 : z9 = (F_t_makeFrom (y) (73) (i)).2 := hw2
            subst hw2
            have hw3 := fun c (hc : c < 87) => (show ad c = _ from hw3 c hc)
            have had : ∀ c, c < 87 → ad c = ao c := fun c hc => (hw3 c hc).trans (had c hc)
            have hl : lv_has ls 4 [(0, .ref (ad (0))), (1, .int (iI (a))), (2, .int (iI (b))), (3, .int (iI (i)))] := by
              rw [hw3 (0) (by omega)]
              exact hl
            have hP1 : va_P (dC, dI) vwCl (kWd cI cJ cZ cR (kWl (F_t_makeFrom (y) (73) (i)).2) ad (kM (F_t_makeFrom (y) (73) (i)).2) (F_t_makeFrom (y) (73) (i)).2) H1 := hP1
            have hD1 : va_D A (kWd cI cJ cZ cR (kWl (F_t_makeFrom (y) (73) (i)).2) ad (kM (F_t_makeFrom (y) (73) (i)).2) (F_t_makeFrom (y) (73) (i)).2) := hD1.weaken (B := A) (fun _ q _ h => hFc q.1 h)
            have kle : kLe x (F_t_makeFrom (y) (73) (i)).2 := ⟨by omega, by omega⟩
            refine W.widen (k := kPo x - kPo (F_t_makeFrom (y) (73) (i)).2) (n := kPs x - kPs (F_t_makeFrom (y) (73) (i)).2) (by omega) (by omega) ?_
            obtain ⟨M, hkM⟩ : ∃ M9, M9 = kM (F_t_makeFrom (y) (73) (i)).2 := ⟨_, rfl⟩
            obtain ⟨wl, hkW⟩ : ∃ W9, W9 = kWl (F_t_makeFrom (y) (73) (i)).2 := ⟨_, rfl⟩
            rw [← hkM, ← hkW] at hP1 hD1
            have hM : 87 ≤ M := by rw [hkM]; exact kM_ge _
            have hP := hP1
            have hD := hD1
            generalize H1 = H at hP hS ⊢
            have mg := makeFrom_G oy r8y (w1 := 73) rfl (by decide) (by decide) g3 mdy mly i0 (by omega)
            have g5z := mg.2.2.2.1 75 rfl (by decide) (by decide) g5
            refine wi_if_eq (tgt := 122) hx hb (kR01 mg.2.2.2.2.2.1) dX11_makes_107 (by decide) (fun c_107 => ?_) (fun c_107 => ?_)
            · skip
              rw [if_pos c_107] at hres
              refine lv_bipush (v := iI (-4 : Int)) hx hb dX11_makes_122 (by decide) ?_
              have kg9 : kG ((F_t_makeFrom (y) (73) (i)).2) ((F_t_makeFrom (y) (73) (i)).2) := (kG_rf _)
              have eM9 : M = kM ((F_t_makeFrom (y) (73) (i)).2) := hkM.trans (kG_M kg9).symm
              have eW9 : wl = kWl ((F_t_makeFrom (y) (73) (i)).2) := hkW.trans (kG_W kg9).symm
              have eP9 := (kG_p kg9).1
              have eS9 := (kG_p kg9).2
              have kl1 := kle.1
              have kl2 := kle.2
              have hF2 : (F_t_makes x a b).2 = (F_t_makeFrom (y) (73) (i)).2 := by
                have h9 := congrArg Prod.snd hres
                exact h9.symm
              refine W.widen (k := kPo x - kPo (F_t_makes x a b).2) (n := kPs x - kPs (F_t_makes x a b).2) (by rw [hF2]; omega) (by rw [hF2]; omega) ?_
              exact W.iret (v := iI ((-4 : Int))) hx hb hr (fun t ht hW => ⟨⟨iI ((-4 : Int)), ((F_t_makeFrom (y) (73) (i)).2, ad), rfl, ⟨(by have h9 := congrArg (fun z : Int × KS => iI z.1) hres; exact h9), (by have h9 := congrArg (fun z : Int × KS => z.2) hres; exact h9), had⟩, by rw [ht]; show va_P (dC, dI) vwCl (kWd cI cJ cZ cR (kWl ((F_t_makeFrom (y) (73) (i)).2)) ad (kM ((F_t_makeFrom (y) (73) (i)).2)) ((F_t_makeFrom (y) (73) (i)).2)) H; rw [← eM9, ← eW9]; exact hP, va_K.moved hW.alike hK, by show va_D A (kWd cI cJ cZ cR (kWl ((F_t_makeFrom (y) (73) (i)).2)) ad (kM ((F_t_makeFrom (y) (73) (i)).2)) ((F_t_makeFrom (y) (73) (i)).2)); rw [← eM9, ← eW9]; exact hD⟩, hS.F ht⟩) hS.2.2 dX11_makes_124
            · skip
              rw [if_neg c_107] at hres
              refine lv_aload_n hx hb dX11_makes_110 rfl (lv_at hl 0 rfl) ?_
              refine lv_iload_n hx hb dX11_makes_111 rfl (lv_at hl 3 rfl) ?_
              refine lv_aload_n hx hb dX11_makes_112 rfl (lv_at hl 0 rfl) ?_
              refine va_get (D := (dC, dI)) (ci := 11) (v := .ref (ad (75))) (C := RX11) (T := TX11) (N := 17) hx hb hts hinX11 hown hK hP (0) (kg0 (by omega)) rfl 12 (by decide) (hts (.fieldLink RX11 69 "LikeWords" "second" "LLikeWords$Word;") (by decide +kernel)) (fun _ h9 => h9) rfl dX11_makes_113 ?_
              have kg9 : kG ((F_t_makeFrom (y) (73) (i)).2) ((F_t_makeFrom (y) (73) (i)).2) := (kG_rf _)
              have eM9 : M = kM ((F_t_makeFrom (y) (73) (i)).2) := hkM.trans (kG_M kg9).symm
              have eW9 : wl = kWl ((F_t_makeFrom (y) (73) (i)).2) := hkW.trans (kG_W kg9).symm
              have eP9 := (kG_p kg9).1
              have eS9 := (kG_p kg9).2
              have kl1 := kle.1
              have kl2 := kle.2
              have kfn : kLe (F_t_makeFrom ((F_t_makeFrom (y) (73) (i)).2) (75) (i)).2 (F_t_makes x a b).2 := by
                rw [← hres]
                by_cases hc9 : ((F_t_makeFrom ((F_t_makeFrom (y) (73) (i)).2) (75) (i)).1) = (0)
                · rw [if_pos hc9]
                  exact (kLe_rf _)
                · rw [if_neg hc9]
                  exact kLe_tr (kLe_rf _) ((F_t_makes_sle   _) ((F_t_makeFrom ((F_t_makeFrom (y) (73) (i)).2) (75) (i)).2) (a) (b) ((i) + (1 : Int)))
              have kf1 := kfn.1
              have kf2 := kfn.2
              have kd9 : kLe ((F_t_makeFrom (y) (73) (i)).2) (F_t_makeFrom ((F_t_makeFrom (y) (73) (i)).2) (75) (i)).2 := (F_t_makeFrom_le ((F_t_makeFrom (y) (73) (i)).2) (75) (i))
              have kd1 := kd9.1
              have kd2 := kd9.2
              have hFc : ∀ q, va_A (kWd cI cJ cZ cR wl ad M ((F_t_makeFrom (y) (73) (i)).2)) H.size q → A q := fun q hq => Or.elim hq (fun ⟨k, e, hk⟩ => hD.2 k (q, e) hk) (fun hk => hA q (Nat.le_trans hS.1 hk))
              refine va_calli (va_runV (b := ad (0)) (As := [.int (iI (i)), .ref (ad (75))]) (rest := []) ⟨hx, hb, hml, hown, hts⟩ (c_t_makeFrom l dC dI ad cI cJ cZ cR M wl H.size ((F_t_makeFrom (y) (73) (i)).2) (75) (i) hM rfl (by omega) eM9 eW9 mg.1 mg.2.1 g5z (kl60 rfl g5z) (by decide) mg.2.2.1 mg.2.2.2.2.1 i0 (by have := mg.2.2.2.2.2.2; omega)) (cwV 2 hts gX11_makes_X11_makeFrom rfl rfl rfl (by decide +kernel) ⟨Nat.le_of_ble_eq_true rfl, Nat.le_of_ble_eq_true rfl⟩) ⟨fun a U g mk q => by obtain ⟨q0, q1, qP, qK, qD, qN⟩ := q; exact ⟨q0, q1, qP, va_K.moved (u := U) (U := U.calling g mk a) (Vm.Alike.refl U.vm) qK, qD, kNw.same (u := U) (U := U.calling g mk a) rfl qN⟩, va_recv hK hP (ci := 11) (q0 := 0) rfl (kg0 (by omega)), fun U hU hW => ⟨rfl, by rw [hU], by rw [hU]; exact hP, va_K.moved hW.alike hK, hD.weaken (fun _ _ _ _ => trivial), kNw.warm hW hNw⟩⟩ rfl rfl hl.1 rfl (lv_room (Nat.le_of_ble_eq_true rfl)) dX11_makes_116 ⟨(show _ ≤ kPo x - kPo (F_t_makes x a b).2 by omega), (show _ ≤ kPs x - kPs (F_t_makes x a b).2 by omega)⟩) hS (fun q _ h => hFc q h) hFc (fun r9 u9 t H1 locs ht hvm hw hB hz1 hk1 hS => ?_)
              obtain ⟨hP1, hK1, hD1⟩ := hB
              rw [ht] at hP1
              obtain ⟨z9, ad⟩ := u9
              obtain ⟨hw1, hw2, hw3⟩ := hw
              rw [hw1]
              have hw2 : z9 = (F_t_makeFrom ((F_t_makeFrom (y) (73) (i)).2) (75) (i)).2 := hw2
              subst hw2
              have hw3 := fun c (hc : c < 87) => (show ad c = _ from hw3 c hc)
              have had : ∀ c, c < 87 → ad c = ao c := fun c hc => (hw3 c hc).trans (had c hc)
              have hl : lv_has ls 4 [(0, .ref (ad (0))), (1, .int (iI (a))), (2, .int (iI (b))), (3, .int (iI (i)))] := by
                rw [hw3 (0) (by omega)]
                exact hl
              have hP1 : va_P (dC, dI) vwCl (kWd cI cJ cZ cR (kWl (F_t_makeFrom ((F_t_makeFrom (y) (73) (i)).2) (75) (i)).2) ad (kM (F_t_makeFrom ((F_t_makeFrom (y) (73) (i)).2) (75) (i)).2) (F_t_makeFrom ((F_t_makeFrom (y) (73) (i)).2) (75) (i)).2) H1 := hP1
              have hD1 : va_D A (kWd cI cJ cZ cR (kWl (F_t_makeFrom ((F_t_makeFrom (y) (73) (i)).2) (75) (i)).2) ad (kM (F_t_makeFrom ((F_t_makeFrom (y) (73) (i)).2) (75) (i)).2) (F_t_makeFrom ((F_t_makeFrom (y) (73) (i)).2) (75) (i)).2) := hD1.weaken (B := A) (fun _ q _ h => hFc q.1 h)
              have kle : kLe x (F_t_makeFrom ((F_t_makeFrom (y) (73) (i)).2) (75) (i)).2 := ⟨by omega, by omega⟩
              refine W.widen (k := kPo x - kPo (F_t_makeFrom ((F_t_makeFrom (y) (73) (i)).2) (75) (i)).2) (n := kPs x - kPs (F_t_makeFrom ((F_t_makeFrom (y) (73) (i)).2) (75) (i)).2) (by omega) (by omega) ?_
              obtain ⟨M, hkM⟩ : ∃ M9, M9 = kM (F_t_makeFrom ((F_t_makeFrom (y) (73) (i)).2) (75) (i)).2 := ⟨_, rfl⟩
              obtain ⟨wl, hkW⟩ : ∃ W9, W9 = kWl (F_t_makeFrom ((F_t_makeFrom (y) (73) (i)).2) (75) (i)).2 := ⟨_, rfl⟩
              rw [← hkM, ← hkW] at hP1 hD1
              have hM : 87 ≤ M := by rw [hkM]; exact kM_ge _
              have hP := hP1
              have hD := hD1
              generalize H1 = H at hP hS ⊢
              have mh := makeFrom_G mg.1 mg.2.1 (w1 := 75) rfl (by decide) (by decide) g5z mg.2.2.1 mg.2.2.2.2.1 i0 (by have := mg.2.2.2.2.2.2; omega)
              refine wi_if_ne (tgt := 125) hx hb (kR01 mh.2.2.2.2.2.1) dX11_makes_119 (by decide) (fun c_119 => ?_) (fun c_119 => ?_)
              · skip
                rw [if_neg c_119] at hres
                refine lv_iinc (v := iI ((i) + (1 : Int))) (lv' := [(3, .int (iI ((i) + (1 : Int)))), (0, .ref (ad (0))), (1, .int (iI (a))), (2, .int (iI (b)))]) hx hb dX11_makes_125 hl (k := 3) rfl (iI_add _ _) (by decide) rfl (fun ls hl => ?_)
                refine lv_goto (tgt := 80) hx hb dX11_makes_128 (by decide) ?_
                have kg9 : kG ((F_t_makeFrom ((F_t_makeFrom (y) (73) (i)).2) (75) (i)).2) ((F_t_makeFrom ((F_t_makeFrom (y) (73) (i)).2) (75) (i)).2) := (kG_rf _)
                have eM9 : M = kM ((F_t_makeFrom ((F_t_makeFrom (y) (73) (i)).2) (75) (i)).2) := hkM.trans (kG_M kg9).symm
                have eW9 : wl = kWl ((F_t_makeFrom ((F_t_makeFrom (y) (73) (i)).2) (75) (i)).2) := hkW.trans (kG_W kg9).symm
                have eP9 := (kG_p kg9).1
                have eS9 := (kG_p kg9).2
                have kl1 := kle.1
                have kl2 := kle.2
                refine W.widen (k := kPo x - kPo ((F_t_makeFrom ((F_t_makeFrom (y) (73) (i)).2) (75) (i)).2)) (n := kPs x - kPs ((F_t_makeFrom ((F_t_makeFrom (y) (73) (i)).2) (75) (i)).2)) (by omega) (by omega) ?_
                exact ih ((F_t_makeFrom ((F_t_makeFrom (y) (73) (i)).2) (75) (i)).2) M wl ad ((i) + (1 : Int)) hM eM9 eW9 had ⟨by omega, by omega⟩ (mh.1) (mh.2.2.2.1 73 rfl (by decide) (by decide) (mg.2.2.2.1 73 rfl (by decide) (by decide) g3)) (mh.2.2.2.1 75 rfl (by decide) (by decide) g5z) (mh.2.1) (mh.2.2.1) (mh.2.2.2.2.1) (by omega) (by omega) (by omega) hres _ _ ls hP hD hS (lv_sub hl [1, 2, 3, 0] rfl)
              · skip
                rw [if_pos c_119] at hres
                refine lv_bipush (v := iI (-4 : Int)) hx hb dX11_makes_122 (by decide) ?_
                have kg9 : kG ((F_t_makeFrom ((F_t_makeFrom (y) (73) (i)).2) (75) (i)).2) ((F_t_makeFrom ((F_t_makeFrom (y) (73) (i)).2) (75) (i)).2) := (kG_rf _)
                have eM9 : M = kM ((F_t_makeFrom ((F_t_makeFrom (y) (73) (i)).2) (75) (i)).2) := hkM.trans (kG_M kg9).symm
                have eW9 : wl = kWl ((F_t_makeFrom ((F_t_makeFrom (y) (73) (i)).2) (75) (i)).2) := hkW.trans (kG_W kg9).symm
                have eP9 := (kG_p kg9).1
                have eS9 := (kG_p kg9).2
                have kl1 := kle.1
                have kl2 := kle.2
                have hF2 : (F_t_makes x a b).2 = (F_t_makeFrom ((F_t_makeFrom (y) (73) (i)).2) (75) (i)).2 := by
                  have h9 := congrArg Prod.snd hres
                  exact h9.symm
                refine W.widen (k := kPo x - kPo (F_t_makes x a b).2) (n := kPs x - kPs (F_t_makes x a b).2) (by rw [hF2]; omega) (by rw [hF2]; omega) ?_
                exact W.iret (v := iI ((-4 : Int))) hx hb hr (fun t ht hW => ⟨⟨iI ((-4 : Int)), ((F_t_makeFrom ((F_t_makeFrom (y) (73) (i)).2) (75) (i)).2, ad), rfl, ⟨(by have h9 := congrArg (fun z : Int × KS => iI z.1) hres; exact h9), (by have h9 := congrArg (fun z : Int × KS => z.2) hres; exact h9), had⟩, by rw [ht]; show va_P (dC, dI) vwCl (kWd cI cJ cZ cR (kWl ((F_t_makeFrom ((F_t_makeFrom (y) (73) (i)).2) (75) (i)).2)) ad (kM ((F_t_makeFrom ((F_t_makeFrom (y) (73) (i)).2) (75) (i)).2)) ((F_t_makeFrom ((F_t_makeFrom (y) (73) (i)).2) (75) (i)).2)) H; rw [← eM9, ← eW9]; exact hP, va_K.moved hW.alike hK, by show va_D A (kWd cI cJ cZ cR (kWl ((F_t_makeFrom ((F_t_makeFrom (y) (73) (i)).2) (75) (i)).2)) ad (kM ((F_t_makeFrom ((F_t_makeFrom (y) (73) (i)).2) (75) (i)).2)) ((F_t_makeFrom ((F_t_makeFrom (y) (73) (i)).2) (75) (i)).2)); rw [← eM9, ← eW9]; exact hD⟩, hS.F ht⟩) hS.2.2 dX11_makes_124
  have key : ∀ (M wl : Nat) (ad : Nat → Nat) (H : Heap) (locs : List Loc) (ls : Array Slot), 87 ≤ M → M = kM x → wl = kWl x → (∀ c, c < 87 → ad c = ao c) → va_P (dC, dI) vwCl (kWd cI cJ cZ cR wl ad M (x)) H → va_D A (kWd cI cJ cZ cR wl ad M (x)) → va_S A s.heap H locs → lv_has ls 4 [(0, .ref (ad (0))), (1, .int (iI (a))), (2, .int (iI (b)))] → W p l e (headSpec wsX11_makes ({ frames := 7, cells := kPo x - kPo (F_t_makes x a b).2, slots := kPs x - kPs (F_t_makes x a b).2, locals := 175 })).room s m ([.ref (ao 0), .int (iI a), .int (iI b)] : List Value).toArray below meth c H locs 0 0 (MQ below (va_Qi (fun (r : Int32) (u : KS × (Nat → Nat)) => r = iI (F_t_makes x a b).1 ∧ u.1 = (F_t_makes x a b).2 ∧ (∀ c, c < 87 → u.2 c = ao c)) (fun u t => kAt dC dI u.2 cI cJ cZ cR (kM u.1) (kWl u.1) (A) u.1 t) (A)) ([.ref (ao 0), .int (iI a), .int (iI b)] : List Value).toArray s (kPo x - kPo (F_t_makes x a b).2) (kPs x - kPs (F_t_makes x a b).2) A) (F0 m 0 ls []) := by
    intro M wl ad H locs ls hM hkM hkW had hP hD hS hl
    have kle : kLe x x := kLe_rf x
    have kf9 := F_t_makes_le  x a b
    have kf1 := kf9.1
    have kf2 := kf9.2
    have hres : (if ((F_t_isSlot (x) (a)).1) = (0) then ((-1 : Int), x) else (if ((F_t_isSlot (x) (b)).1) = (0) then ((-1 : Int), x) else (if ((F_t_isProved (x)).1) = (0) then ((-3 : Int), x) else (if ((F_r_run (x) (7 + 2 * (a).toNat) (73)).1) = (0) then ((-4 : Int), (F_r_run (x) (7 + 2 * (a).toNat) (73)).2) else (if ((F_r_run ((F_r_run (x) (7 + 2 * (a).toNat) (73)).2) (7 + 2 * (b).toNat) (75)).1) = (0) then ((-4 : Int), (F_r_run ((F_r_run (x) (7 + 2 * (a).toNat) (73)).2) (7 + 2 * (b).toNat) (75)).2) else F_t_makes_s 310 0 ((F_d_begin ((F_r_run ((F_r_run (x) (7 + 2 * (a).toNat) (73)).2) (7 + 2 * (b).toNat) (75)).2)).2) (a) (b) ((0 : Int))))))) = F_t_makes x a b := rfl
    refine lv_aload_n hx hb dX11_makes_0 rfl (lv_at hl 0 rfl) ?_
    refine lv_iload_n hx hb dX11_makes_1 rfl (lv_at hl 1 rfl) ?_
    have hFc : ∀ q, va_A (kWd cI cJ cZ cR wl ad M (x)) H.size q → A q := fun q hq => Or.elim hq (fun ⟨k, e, hk⟩ => hD.2 k (q, e) hk) (fun hk => hA q (Nat.le_trans hS.1 hk))
    refine va_calli (va_runV (b := ad (0)) (As := [.int (iI (a))]) (rest := []) ⟨hx, hb, hml, hown, hts⟩ (c_t_isSlot l dC dI ad cI cJ cZ cR M wl H.size (x)  (a) hM ra) (cwV 1 hts gX11_makes_X11_isSlot rfl rfl rfl (by decide +kernel) ⟨Nat.le_of_ble_eq_true rfl, Nat.le_of_ble_eq_true rfl⟩) ⟨fun a U g mk q => by obtain ⟨q0, q1, qP, qK, qD, qN⟩ := q; exact ⟨q0, q1, qP, va_K.moved (u := U) (U := U.calling g mk a) (Vm.Alike.refl U.vm) qK, qD, kNw.same (u := U) (U := U.calling g mk a) rfl qN⟩, va_recv hK hP (ci := 11) (q0 := 0) rfl (kg0 (by omega)), fun U hU hW => ⟨rfl, by rw [hU], by rw [hU]; exact hP, va_K.moved hW.alike hK, hD.weaken (fun _ _ _ _ => trivial), kNw.warm hW hNw⟩⟩ rfl rfl hl.1 rfl (lv_room (Nat.le_of_ble_eq_true rfl)) dX11_makes_2 ⟨(show _ ≤ kPo x - kPo (F_t_makes x a b).2 by omega), (show _ ≤ kPs x - kPs (F_t_makes x a b).2 by omega)⟩) hS (fun q _ h => hFc q h) hFc (fun r9 u9 t H1 locs ht hvm hw hB hz1 hk1 hS => ?_)
    obtain ⟨hP1, hK1, hD1⟩ := hB
    rw [ht] at hP1
    obtain ⟨hw1, hw2⟩ := hw
    rw [hw2] at hP1 hD1
    rw [hw1]
    rw [F_t_isSlot_2] at hP1 hD1
    have hD2 := hD1.weaken (B := A) (fun _ q _ h => hFc q.1 h)
    have hP := hP1
    have hD := hD2
    generalize H1 = H at hP hS ⊢
    refine wi_if_eq (tgt := 16) hx hb (kR01 (F_t_isSlot_01 _ _)) dX11_makes_5 (by decide) (fun c_5 => ?_) (fun c_5 => ?_)
    · skip
      rw [if_pos c_5] at hres
      refine lv_iconst (v := iI (-1 : Int)) hx hb dX11_makes_16 (by decide) ?_
      have kg9 : kG (x) (x) := (kG_rf _)
      have eM9 : M = kM (x) := hkM.trans (kG_M kg9).symm
      have eW9 : wl = kWl (x) := hkW.trans (kG_W kg9).symm
      have eP9 := (kG_p kg9).1
      have eS9 := (kG_p kg9).2
      have kl1 := kle.1
      have kl2 := kle.2
      have hF2 : (F_t_makes x a b).2 = x := by
        have h9 := congrArg Prod.snd hres
        exact h9.symm
      refine W.widen (k := kPo x - kPo (F_t_makes x a b).2) (n := kPs x - kPs (F_t_makes x a b).2) (by rw [hF2]; omega) (by rw [hF2]; omega) ?_
      exact W.iret (v := iI ((-1 : Int))) hx hb hr (fun t ht hW => ⟨⟨iI ((-1 : Int)), (x, ad), rfl, ⟨(by have h9 := congrArg (fun z : Int × KS => iI z.1) hres; exact h9), (by have h9 := congrArg (fun z : Int × KS => z.2) hres; exact h9), had⟩, by rw [ht]; show va_P (dC, dI) vwCl (kWd cI cJ cZ cR (kWl (x)) ad (kM (x)) (x)) H; rw [← eM9, ← eW9]; exact hP, va_K.moved hW.alike hK, by show va_D A (kWd cI cJ cZ cR (kWl (x)) ad (kM (x)) (x)); rw [← eM9, ← eW9]; exact hD⟩, hS.F ht⟩) hS.2.2 dX11_makes_17
    · skip
      rw [if_neg c_5] at hres
      refine lv_aload_n hx hb dX11_makes_8 rfl (lv_at hl 0 rfl) ?_
      refine lv_iload_n hx hb dX11_makes_9 rfl (lv_at hl 2 rfl) ?_
      have hFc : ∀ q, va_A (kWd cI cJ cZ cR wl ad M (x)) H.size q → A q := fun q hq => Or.elim hq (fun ⟨k, e, hk⟩ => hD.2 k (q, e) hk) (fun hk => hA q (Nat.le_trans hS.1 hk))
      refine va_calli (va_runV (b := ad (0)) (As := [.int (iI (b))]) (rest := []) ⟨hx, hb, hml, hown, hts⟩ (c_t_isSlot l dC dI ad cI cJ cZ cR M wl H.size (x)  (b) hM rb) (cwV 1 hts gX11_makes_X11_isSlot rfl rfl rfl (by decide +kernel) ⟨Nat.le_of_ble_eq_true rfl, Nat.le_of_ble_eq_true rfl⟩) ⟨fun a U g mk q => by obtain ⟨q0, q1, qP, qK, qD, qN⟩ := q; exact ⟨q0, q1, qP, va_K.moved (u := U) (U := U.calling g mk a) (Vm.Alike.refl U.vm) qK, qD, kNw.same (u := U) (U := U.calling g mk a) rfl qN⟩, va_recv hK hP (ci := 11) (q0 := 0) rfl (kg0 (by omega)), fun U hU hW => ⟨rfl, by rw [hU], by rw [hU]; exact hP, va_K.moved hW.alike hK, hD.weaken (fun _ _ _ _ => trivial), kNw.warm hW hNw⟩⟩ rfl rfl hl.1 rfl (lv_room (Nat.le_of_ble_eq_true rfl)) dX11_makes_10 ⟨(show _ ≤ kPo x - kPo (F_t_makes x a b).2 by omega), (show _ ≤ kPs x - kPs (F_t_makes x a b).2 by omega)⟩) hS (fun q _ h => hFc q h) hFc (fun r9 u9 t H1 locs ht hvm hw hB hz1 hk1 hS => ?_)
      obtain ⟨hP1, hK1, hD1⟩ := hB
      rw [ht] at hP1
      obtain ⟨hw1, hw2⟩ := hw
      rw [hw2] at hP1 hD1
      rw [hw1]
      rw [F_t_isSlot_2] at hP1 hD1
      have hD2 := hD1.weaken (B := A) (fun _ q _ h => hFc q.1 h)
      have hP := hP1
      have hD := hD2
      generalize H1 = H at hP hS ⊢
      refine wi_if_ne (tgt := 18) hx hb (kR01 (F_t_isSlot_01 _ _)) dX11_makes_13 (by decide) (fun c_13 => ?_) (fun c_13 => ?_)
      · skip
        rw [if_neg c_13] at hres
        obtain ⟨a0, a1⟩ := F_t_isSlot_1 c_5
        obtain ⟨b0, b1⟩ := F_t_isSlot_1 c_13
        refine lv_aload_n hx hb dX11_makes_18 rfl (lv_at hl 0 rfl) ?_
        have hFc : ∀ q, va_A (kWd cI cJ cZ cR wl ad M (x)) H.size q → A q := fun q hq => Or.elim hq (fun ⟨k, e, hk⟩ => hD.2 k (q, e) hk) (fun hk => hA q (Nat.le_trans hS.1 hk))
        refine va_calli (va_runV (b := ad (0)) (As := []) (rest := []) ⟨hx, hb, hml, hown, hts⟩ (c_t_isProved l dC dI ad cI cJ cZ cR M wl H.size (x)   hM bp.1.1 bp.1.2 bp.2.1) (cwV 0 hts gX11_makes_X11_isProved rfl rfl rfl (by decide +kernel) ⟨Nat.le_of_ble_eq_true rfl, Nat.le_of_ble_eq_true rfl⟩) ⟨fun a U g mk q => by obtain ⟨q0, q1, qP, qK, qD, qN⟩ := q; exact ⟨q0, q1, qP, va_K.moved (u := U) (U := U.calling g mk a) (Vm.Alike.refl U.vm) qK, qD, kNw.same (u := U) (U := U.calling g mk a) rfl qN⟩, va_recv hK hP (ci := 11) (q0 := 0) rfl (kg0 (by omega)), fun U hU hW => ⟨rfl, by rw [hU], by rw [hU]; exact hP, va_K.moved hW.alike hK, hD.weaken (fun _ _ _ _ => trivial), kNw.warm hW hNw⟩⟩ rfl rfl hl.1 rfl (lv_room (Nat.le_of_ble_eq_true rfl)) dX11_makes_19 ⟨(show _ ≤ kPo x - kPo (F_t_makes x a b).2 by omega), (show _ ≤ kPs x - kPs (F_t_makes x a b).2 by omega)⟩) hS (fun q _ h => hFc q h) hFc (fun r9 u9 t H1 locs ht hvm hw hB hz1 hk1 hS => ?_)
        obtain ⟨hP1, hK1, hD1⟩ := hB
        rw [ht] at hP1
        obtain ⟨hw1, hw2⟩ := hw
        rw [hw2] at hP1 hD1
        rw [hw1]
        rw [F_t_isProved_2] at hP1 hD1
        have hD2 := hD1.weaken (B := A) (fun _ q _ h => hFc q.1 h)
        have hP := hP1
        have hD := hD2
        generalize H1 = H at hP hS ⊢
        refine wi_if_ne (tgt := 28) hx hb (kR01 (F_t_isProved_01 _)) dX11_makes_22 (by decide) (fun c_22 => ?_) (fun c_22 => ?_)
        · skip
          rw [if_neg c_22] at hres
          refine lv_aload_n hx hb dX11_makes_28 rfl (lv_at hl 0 rfl) ?_
          refine va_get (D := (dC, dI)) (ci := 11) (v := .ref (ad (70))) (C := RX11) (T := TX11) (N := 17) hx hb hts hinX11 hown hK hP (0) (kg0 (by omega)) rfl 7 (by decide) (hts (.fieldLink RX11 62 "LikeWords" "rewriter" "LLikeWords$Rewriter;") (by decide +kernel)) (fun _ h9 => h9) rfl dX11_makes_29 ?_
          refine lv_aload_n hx hb dX11_makes_32 rfl (lv_at hl 0 rfl) ?_
          refine va_get (D := (dC, dI)) (ci := 11) (v := .ref (ad (6))) (C := RX11) (T := TX11) (N := 17) hx hb hts hinX11 hown hK hP (0) (kg0 (by omega)) rfl 2 (by decide) (hts (.fieldLink RX11 25 "LikeWords" "slots" "[LLikeWords$Word;") (by decide +kernel)) (fun _ h9 => h9) rfl dX11_makes_33 ?_
          refine lv_iload_n hx hb dX11_makes_36 rfl (lv_at hl 1 rfl) ?_
          refine va_aldq (C := "LikeWords$Word") (n := 8) (f := fun j => some (ad (7 + 2 * j))) hx hb hK hP 6 3 (kget (by omega)) rfl (iI_in (z := a) (by omega) (by omega) (by decide)) dX11_makes_37 ?_
          rw [iI_clamp ⟨by omega, by omega⟩]
          refine W.eq (g2 := F0 m 38 ls [.ref (ad (7 + 2 * (a).toNat)), .ref (ad (70))]) rfl ?_
          refine lv_aload_n hx hb dX11_makes_38 rfl (lv_at hl 0 rfl) ?_
          refine va_get (D := (dC, dI)) (ci := 11) (v := .ref (ad (73))) (C := RX11) (T := TX11) (N := 17) hx hb hts hinX11 hown hK hP (0) (kg0 (by omega)) rfl 11 (by decide) (hts (.fieldLink RX11 66 "LikeWords" "first" "LLikeWords$Word;") (by decide +kernel)) (fun _ h9 => h9) rfl dX11_makes_39 ?_
          have ok9 : rOK x := bp.2.2.2.2.1 (F_t_isProved_1 bp.2.1 c_22)
          have kg9 : kG (x) (x) := (kG_rf _)
          have eM9 : M = kM (x) := hkM.trans (kG_M kg9).symm
          have eW9 : wl = kWl (x) := hkW.trans (kG_W kg9).symm
          have eP9 := (kG_p kg9).1
          have eS9 := (kG_p kg9).2
          have kl1 := kle.1
          have kl2 := kle.2
          have kfn : kLe (F_r_run (x) (7 + 2 * (a).toNat) (73)).2 (F_t_makes x a b).2 := by
            rw [← hres]
            by_cases hc9 : ((F_r_run (x) (7 + 2 * (a).toNat) (73)).1) = (0)
            · rw [if_pos hc9]
              exact (kLe_rf _)
            · rw [if_neg hc9]
              by_cases hc9 : ((F_r_run ((F_r_run (x) (7 + 2 * (a).toNat) (73)).2) (7 + 2 * (b).toNat) (75)).1) = (0)
              · rw [if_pos hc9]
                exact (kLe_tr (kLe_rf _) (F_r_run_le rfl (by omega) ((F_r_run (x) (7 + 2 * (a).toNat) (73)).2) (7 + 2 * (b).toNat)))
              · rw [if_neg hc9]
                exact kLe_tr (kLe_tr (kLe_tr (kLe_rf _) (F_r_run_le rfl (by omega) ((F_r_run (x) (7 + 2 * (a).toNat) (73)).2) (7 + 2 * (b).toNat))) (kLe_G (kG_of (F_d_begin_fr ((F_r_run ((F_r_run (x) (7 + 2 * (a).toNat) (73)).2) (7 + 2 * (b).toNat) (75)).2)) (by first | decide | (intro h9; simp at h9; done) | (intro h9; simp at h9; omega)) (by first | decide | (intro h9; simp at h9; done) | (intro h9; simp at h9; omega))))) ((F_t_makes_sle   _) ((F_d_begin ((F_r_run ((F_r_run (x) (7 + 2 * (a).toNat) (73)).2) (7 + 2 * (b).toNat) (75)).2)).2) (a) (b) ((0 : Int)))
          have kf1 := kfn.1
          have kf2 := kfn.2
          have kd9 : kLe (x) (F_r_run (x) (7 + 2 * (a).toNat) (73)).2 := (F_r_run_le rfl (by omega) (x) (7 + 2 * (a).toNat))
          have kd1 := kd9.1
          have kd2 := kd9.2
          have hFc : ∀ q, va_A (kWd cI cJ cZ cR wl ad M (x)) H.size q → A q := fun q hq => Or.elim hq (fun ⟨k, e, hk⟩ => hD.2 k (q, e) hk) (fun hk => hA q (Nat.le_trans hS.1 hk))
          refine va_calli (va_runV (b := ad (70)) (As := [.ref (ad (7 + 2 * (a).toNat)), .ref (ad (73))]) (rest := []) ⟨hx, hb, hml, hown, hts⟩ (c_r_run l dC dI ad cI cJ cZ cR M wl H.size (x) (7 + 2 * (a).toNat) (73)  hM (kW_slot (by omega) (by omega)) (by omega) rfl (by omega) eM9 eW9 ok9 (su a a0 a1) (kL_slot a0 a1) rfl r3) (cwV 2 hts gX11_makes_X6_run rfl rfl rfl (by decide +kernel) ⟨Nat.le_of_ble_eq_true rfl, Nat.le_of_ble_eq_true rfl⟩) ⟨fun a U g mk q => by obtain ⟨q0, q1, qP, qK, qD, qN⟩ := q; exact ⟨q0, q1, qP, va_K.moved (u := U) (U := U.calling g mk a) (Vm.Alike.refl U.vm) qK, qD, kNw.same (u := U) (U := U.calling g mk a) rfl qN⟩, va_recv hK hP (ci := 6) (q0 := 70) rfl (kg70 (by omega)), fun U hU hW => ⟨rfl, by rw [hU], by rw [hU]; exact hP, va_K.moved hW.alike hK, hD.weaken (fun _ _ _ _ => trivial), kNw.warm hW hNw⟩⟩ rfl rfl hl.1 rfl (lv_room (Nat.le_of_ble_eq_true rfl)) dX11_makes_42 ⟨(show _ ≤ kPo x - kPo (F_t_makes x a b).2 by omega), (show _ ≤ kPs x - kPs (F_t_makes x a b).2 by omega)⟩) hS (fun q _ h => hFc q h) hFc (fun r9 u9 t H1 locs ht hvm hw hB hz1 hk1 hS => ?_)
          obtain ⟨hP1, hK1, hD1⟩ := hB
          rw [ht] at hP1
          obtain ⟨z9, ad⟩ := u9
          obtain ⟨hw1, hw2, hw3⟩ := hw
          rw [hw1]
          have hw2 : z9 = (F_r_run (x) (7 + 2 * (a).toNat) (73)).2 := hw2
          subst hw2
          have hw3 := fun c (hc : c < 87) => (show ad c = _ from hw3 c hc)
          have had : ∀ c, c < 87 → ad c = ao c := fun c hc => (hw3 c hc).trans (had c hc)
          have hl : lv_has ls 4 [(0, .ref (ad (0))), (1, .int (iI (a))), (2, .int (iI (b)))] := by
            rw [hw3 (0) (by omega)]
            exact hl
          have hP1 : va_P (dC, dI) vwCl (kWd cI cJ cZ cR (kWl (F_r_run (x) (7 + 2 * (a).toNat) (73)).2) ad (kM (F_r_run (x) (7 + 2 * (a).toNat) (73)).2) (F_r_run (x) (7 + 2 * (a).toNat) (73)).2) H1 := hP1
          have hD1 : va_D A (kWd cI cJ cZ cR (kWl (F_r_run (x) (7 + 2 * (a).toNat) (73)).2) ad (kM (F_r_run (x) (7 + 2 * (a).toNat) (73)).2) (F_r_run (x) (7 + 2 * (a).toNat) (73)).2) := hD1.weaken (B := A) (fun _ q _ h => hFc q.1 h)
          have kle : kLe x (F_r_run (x) (7 + 2 * (a).toNat) (73)).2 := ⟨by omega, by omega⟩
          refine W.widen (k := kPo x - kPo (F_r_run (x) (7 + 2 * (a).toNat) (73)).2) (n := kPs x - kPs (F_r_run (x) (7 + 2 * (a).toNat) (73)).2) (by omega) (by omega) ?_
          obtain ⟨M, hkM⟩ : ∃ M9, M9 = kM (F_r_run (x) (7 + 2 * (a).toNat) (73)).2 := ⟨_, rfl⟩
          obtain ⟨wl, hkW⟩ : ∃ W9, W9 = kWl (F_r_run (x) (7 + 2 * (a).toNat) (73)).2 := ⟨_, rfl⟩
          rw [← hkM, ← hkW] at hP1 hD1
          have hM : 87 ≤ M := by rw [hkM]; exact kM_ge _
          have hP := hP1
          have hD := hD1
          generalize H1 = H at hP hS ⊢
          have rg := run_G ok9 (w1 := 7 + 2 * (a).toNat) (w2 := 73) (kW_slot a0 a1) rfl rfl (by decide) (su a a0 a1) r3
          refine wi_if_eq (tgt := 68) hx hb (kR01 (Or.inr rg.2.2.2)) dX11_makes_45 (by decide) (fun c_45 => ?_) (fun c_45 => ?_)
          · skip
            rw [if_pos c_45] at hres
            refine lv_bipush (v := iI (-4 : Int)) hx hb dX11_makes_68 (by decide) ?_
            have kg9 : kG ((F_r_run (x) (7 + 2 * (a).toNat) (73)).2) ((F_r_run (x) (7 + 2 * (a).toNat) (73)).2) := (kG_rf _)
            have eM9 : M = kM ((F_r_run (x) (7 + 2 * (a).toNat) (73)).2) := hkM.trans (kG_M kg9).symm
            have eW9 : wl = kWl ((F_r_run (x) (7 + 2 * (a).toNat) (73)).2) := hkW.trans (kG_W kg9).symm
            have eP9 := (kG_p kg9).1
            have eS9 := (kG_p kg9).2
            have kl1 := kle.1
            have kl2 := kle.2
            have hF2 : (F_t_makes x a b).2 = (F_r_run (x) (7 + 2 * (a).toNat) (73)).2 := by
              have h9 := congrArg Prod.snd hres
              exact h9.symm
            refine W.widen (k := kPo x - kPo (F_t_makes x a b).2) (n := kPs x - kPs (F_t_makes x a b).2) (by rw [hF2]; omega) (by rw [hF2]; omega) ?_
            exact W.iret (v := iI ((-4 : Int))) hx hb hr (fun t ht hW => ⟨⟨iI ((-4 : Int)), ((F_r_run (x) (7 + 2 * (a).toNat) (73)).2, ad), rfl, ⟨(by have h9 := congrArg (fun z : Int × KS => iI z.1) hres; exact h9), (by have h9 := congrArg (fun z : Int × KS => z.2) hres; exact h9), had⟩, by rw [ht]; show va_P (dC, dI) vwCl (kWd cI cJ cZ cR (kWl ((F_r_run (x) (7 + 2 * (a).toNat) (73)).2)) ad (kM ((F_r_run (x) (7 + 2 * (a).toNat) (73)).2)) ((F_r_run (x) (7 + 2 * (a).toNat) (73)).2)) H; rw [← eM9, ← eW9]; exact hP, va_K.moved hW.alike hK, by show va_D A (kWd cI cJ cZ cR (kWl ((F_r_run (x) (7 + 2 * (a).toNat) (73)).2)) ad (kM ((F_r_run (x) (7 + 2 * (a).toNat) (73)).2)) ((F_r_run (x) (7 + 2 * (a).toNat) (73)).2)); rw [← eM9, ← eW9]; exact hD⟩, hS.F ht⟩) hS.2.2 dX11_makes_70
          · skip
            rw [if_neg c_45] at hres
            refine lv_aload_n hx hb dX11_makes_48 rfl (lv_at hl 0 rfl) ?_
            refine va_get (D := (dC, dI)) (ci := 11) (v := .ref (ad (70))) (C := RX11) (T := TX11) (N := 17) hx hb hts hinX11 hown hK hP (0) (kg0 (by omega)) rfl 7 (by decide) (hts (.fieldLink RX11 62 "LikeWords" "rewriter" "LLikeWords$Rewriter;") (by decide +kernel)) (fun _ h9 => h9) rfl dX11_makes_49 ?_
            refine lv_aload_n hx hb dX11_makes_52 rfl (lv_at hl 0 rfl) ?_
            refine va_get (D := (dC, dI)) (ci := 11) (v := .ref (ad (6))) (C := RX11) (T := TX11) (N := 17) hx hb hts hinX11 hown hK hP (0) (kg0 (by omega)) rfl 2 (by decide) (hts (.fieldLink RX11 25 "LikeWords" "slots" "[LLikeWords$Word;") (by decide +kernel)) (fun _ h9 => h9) rfl dX11_makes_53 ?_
            refine lv_iload_n hx hb dX11_makes_56 rfl (lv_at hl 2 rfl) ?_
            refine va_aldq (C := "LikeWords$Word") (n := 8) (f := fun j => some (ad (7 + 2 * j))) hx hb hK hP 6 3 (kget (by omega)) rfl (iI_in (z := b) (by omega) (by omega) (by decide)) dX11_makes_57 ?_
            rw [iI_clamp ⟨by omega, by omega⟩]
            refine W.eq (g2 := F0 m 58 ls [.ref (ad (7 + 2 * (b).toNat)), .ref (ad (70))]) rfl ?_
            refine lv_aload_n hx hb dX11_makes_58 rfl (lv_at hl 0 rfl) ?_
            refine va_get (D := (dC, dI)) (ci := 11) (v := .ref (ad (75))) (C := RX11) (T := TX11) (N := 17) hx hb hts hinX11 hown hK hP (0) (kg0 (by omega)) rfl 12 (by decide) (hts (.fieldLink RX11 69 "LikeWords" "second" "LLikeWords$Word;") (by decide +kernel)) (fun _ h9 => h9) rfl dX11_makes_59 ?_
            have gb := rg.2.2.1 (7 + 2 * (b).toNat) (kW_slot b0 b1) (by omega) (by omega) (su b b0 b1)
            have r6z : r03 ((F_r_run x (7 + 2 * (a).toNat) 73).2.2 76) := by rw [(F_r_run_fr x (7 + 2 * (a).toNat) 73).2 76 (by decide) (by decide)]; exact r6
            have kg9 : kG ((F_r_run (x) (7 + 2 * (a).toNat) (73)).2) ((F_r_run (x) (7 + 2 * (a).toNat) (73)).2) := (kG_rf _)
            have eM9 : M = kM ((F_r_run (x) (7 + 2 * (a).toNat) (73)).2) := hkM.trans (kG_M kg9).symm
            have eW9 : wl = kWl ((F_r_run (x) (7 + 2 * (a).toNat) (73)).2) := hkW.trans (kG_W kg9).symm
            have eP9 := (kG_p kg9).1
            have eS9 := (kG_p kg9).2
            have kl1 := kle.1
            have kl2 := kle.2
            have kfn : kLe (F_r_run ((F_r_run (x) (7 + 2 * (a).toNat) (73)).2) (7 + 2 * (b).toNat) (75)).2 (F_t_makes x a b).2 := by
              rw [← hres]
              by_cases hc9 : ((F_r_run ((F_r_run (x) (7 + 2 * (a).toNat) (73)).2) (7 + 2 * (b).toNat) (75)).1) = (0)
              · rw [if_pos hc9]
                exact (kLe_rf _)
              · rw [if_neg hc9]
                exact kLe_tr (kLe_tr (kLe_rf _) (kLe_G (kG_of (F_d_begin_fr ((F_r_run ((F_r_run (x) (7 + 2 * (a).toNat) (73)).2) (7 + 2 * (b).toNat) (75)).2)) (by first | decide | (intro h9; simp at h9; done) | (intro h9; simp at h9; omega)) (by first | decide | (intro h9; simp at h9; done) | (intro h9; simp at h9; omega))))) ((F_t_makes_sle   _) ((F_d_begin ((F_r_run ((F_r_run (x) (7 + 2 * (a).toNat) (73)).2) (7 + 2 * (b).toNat) (75)).2)).2) (a) (b) ((0 : Int)))
            have kf1 := kfn.1
            have kf2 := kfn.2
            have kd9 : kLe ((F_r_run (x) (7 + 2 * (a).toNat) (73)).2) (F_r_run ((F_r_run (x) (7 + 2 * (a).toNat) (73)).2) (7 + 2 * (b).toNat) (75)).2 := (F_r_run_le rfl (by omega) ((F_r_run (x) (7 + 2 * (a).toNat) (73)).2) (7 + 2 * (b).toNat))
            have kd1 := kd9.1
            have kd2 := kd9.2
            have hFc : ∀ q, va_A (kWd cI cJ cZ cR wl ad M ((F_r_run (x) (7 + 2 * (a).toNat) (73)).2)) H.size q → A q := fun q hq => Or.elim hq (fun ⟨k, e, hk⟩ => hD.2 k (q, e) hk) (fun hk => hA q (Nat.le_trans hS.1 hk))
            refine va_calli (va_runV (b := ad (70)) (As := [.ref (ad (7 + 2 * (b).toNat)), .ref (ad (75))]) (rest := []) ⟨hx, hb, hml, hown, hts⟩ (c_r_run l dC dI ad cI cJ cZ cR M wl H.size ((F_r_run (x) (7 + 2 * (a).toNat) (73)).2) (7 + 2 * (b).toNat) (75)  hM (kW_slot (by omega) (by omega)) (by omega) rfl (by omega) eM9 eW9 rg.1 gb (kL_slot b0 b1) rfl r6z) (cwV 2 hts gX11_makes_X6_run rfl rfl rfl (by decide +kernel) ⟨Nat.le_of_ble_eq_true rfl, Nat.le_of_ble_eq_true rfl⟩) ⟨fun a U g mk q => by obtain ⟨q0, q1, qP, qK, qD, qN⟩ := q; exact ⟨q0, q1, qP, va_K.moved (u := U) (U := U.calling g mk a) (Vm.Alike.refl U.vm) qK, qD, kNw.same (u := U) (U := U.calling g mk a) rfl qN⟩, va_recv hK hP (ci := 6) (q0 := 70) rfl (kg70 (by omega)), fun U hU hW => ⟨rfl, by rw [hU], by rw [hU]; exact hP, va_K.moved hW.alike hK, hD.weaken (fun _ _ _ _ => trivial), kNw.warm hW hNw⟩⟩ rfl rfl hl.1 rfl (lv_room (Nat.le_of_ble_eq_true rfl)) dX11_makes_62 ⟨(show _ ≤ kPo x - kPo (F_t_makes x a b).2 by omega), (show _ ≤ kPs x - kPs (F_t_makes x a b).2 by omega)⟩) hS (fun q _ h => hFc q h) hFc (fun r9 u9 t H1 locs ht hvm hw hB hz1 hk1 hS => ?_)
            obtain ⟨hP1, hK1, hD1⟩ := hB
            rw [ht] at hP1
            obtain ⟨z9, ad⟩ := u9
            obtain ⟨hw1, hw2, hw3⟩ := hw
            rw [hw1]
            have hw2 : z9 = (F_r_run ((F_r_run (x) (7 + 2 * (a).toNat) (73)).2) (7 + 2 * (b).toNat) (75)).2 := hw2
            subst hw2
            have hw3 := fun c (hc : c < 87) => (show ad c = _ from hw3 c hc)
            have had : ∀ c, c < 87 → ad c = ao c := fun c hc => (hw3 c hc).trans (had c hc)
            have hl : lv_has ls 4 [(0, .ref (ad (0))), (1, .int (iI (a))), (2, .int (iI (b)))] := by
              rw [hw3 (0) (by omega)]
              exact hl
            have hP1 : va_P (dC, dI) vwCl (kWd cI cJ cZ cR (kWl (F_r_run ((F_r_run (x) (7 + 2 * (a).toNat) (73)).2) (7 + 2 * (b).toNat) (75)).2) ad (kM (F_r_run ((F_r_run (x) (7 + 2 * (a).toNat) (73)).2) (7 + 2 * (b).toNat) (75)).2) (F_r_run ((F_r_run (x) (7 + 2 * (a).toNat) (73)).2) (7 + 2 * (b).toNat) (75)).2) H1 := hP1
            have hD1 : va_D A (kWd cI cJ cZ cR (kWl (F_r_run ((F_r_run (x) (7 + 2 * (a).toNat) (73)).2) (7 + 2 * (b).toNat) (75)).2) ad (kM (F_r_run ((F_r_run (x) (7 + 2 * (a).toNat) (73)).2) (7 + 2 * (b).toNat) (75)).2) (F_r_run ((F_r_run (x) (7 + 2 * (a).toNat) (73)).2) (7 + 2 * (b).toNat) (75)).2) := hD1.weaken (B := A) (fun _ q _ h => hFc q.1 h)
            have kle : kLe x (F_r_run ((F_r_run (x) (7 + 2 * (a).toNat) (73)).2) (7 + 2 * (b).toNat) (75)).2 := ⟨by omega, by omega⟩
            refine W.widen (k := kPo x - kPo (F_r_run ((F_r_run (x) (7 + 2 * (a).toNat) (73)).2) (7 + 2 * (b).toNat) (75)).2) (n := kPs x - kPs (F_r_run ((F_r_run (x) (7 + 2 * (a).toNat) (73)).2) (7 + 2 * (b).toNat) (75)).2) (by omega) (by omega) ?_
            obtain ⟨M, hkM⟩ : ∃ M9, M9 = kM (F_r_run ((F_r_run (x) (7 + 2 * (a).toNat) (73)).2) (7 + 2 * (b).toNat) (75)).2 := ⟨_, rfl⟩
            obtain ⟨wl, hkW⟩ : ∃ W9, W9 = kWl (F_r_run ((F_r_run (x) (7 + 2 * (a).toNat) (73)).2) (7 + 2 * (b).toNat) (75)).2 := ⟨_, rfl⟩
            rw [← hkM, ← hkW] at hP1 hD1
            have hM : 87 ≤ M := by rw [hkM]; exact kM_ge _
            have hP := hP1
            have hD := hD1
            generalize H1 = H at hP hS ⊢
            have rh := run_G rg.1 (w1 := 7 + 2 * (b).toNat) (w2 := 75) (kW_slot b0 b1) rfl rfl (by decide) gb r6z
            have fz : gfr [(70, 4), (70, 5), (64, 8), (73, 1), (75, 1)] [71, 72, 74, 76] x (F_r_run (F_r_run x (7 + 2 * (a).toNat) 73).2 (7 + 2 * (b).toNat) 75).2 := gm_tr (gm_mono (by decide) (by decide) (F_r_run_fr x (7 + 2 * (a).toNat) 73)) (gm_mono (by decide) (by decide) (F_r_run_fr _ (7 + 2 * (b).toNat) 75))
            refine wi_if_ne (tgt := 71) hx hb (kR01 (Or.inr rh.2.2.2)) dX11_makes_65 (by decide) (fun c_65 => ?_) (fun c_65 => ?_)
            · skip
              rw [if_neg c_65] at hres
              refine lv_aload_n hx hb dX11_makes_71 rfl (lv_at hl 0 rfl) ?_
              refine va_get (D := (dC, dI)) (ci := 11) (v := .ref (ad (84))) (C := RX11) (T := TX11) (N := 17) hx hb hts hinX11 hown hK hP (0) (kg0 (by omega)) rfl 10 (by decide) (hts (.fieldLink RX11 96 "LikeWords" "made" "LLikeWords$Made;") (by decide +kernel)) (fun _ h9 => h9) rfl dX11_makes_72 ?_
              have hFc : ∀ q, va_A (kWd cI cJ cZ cR wl ad M ((F_r_run ((F_r_run (x) (7 + 2 * (a).toNat) (73)).2) (7 + 2 * (b).toNat) (75)).2)) H.size q → A q := fun q hq => Or.elim hq (fun ⟨k, e, hk⟩ => hD.2 k (q, e) hk) (fun hk => hA q (Nat.le_trans hS.1 hk))
              refine va_callv (va_runV (b := ad (84)) (As := []) (rest := []) ⟨hx, hb, hml, hown, hts⟩ (c_d_begin l dC dI ad cI cJ cZ cR M wl H.size ((F_r_run ((F_r_run (x) (7 + 2 * (a).toNat) (73)).2) (7 + 2 * (b).toNat) (75)).2)   hM ) (cwV 0 hts gX11_makes_X4_begin rfl rfl rfl (by decide +kernel) ⟨Nat.le_of_ble_eq_true rfl, Nat.le_of_ble_eq_true rfl⟩) ⟨fun a U g mk q => by obtain ⟨q0, q1, qP, qK, qD, qN⟩ := q; exact ⟨q0, q1, qP, va_K.moved (u := U) (U := U.calling g mk a) (Vm.Alike.refl U.vm) qK, qD, kNw.same (u := U) (U := U.calling g mk a) rfl qN⟩, va_recv hK hP (ci := 4) (q0 := 84) rfl (kg84 (by omega)), fun U hU hW => ⟨rfl, by rw [hU], by rw [hU]; exact hP, va_K.moved hW.alike hK, hD.weaken (fun _ _ _ _ => trivial), kNw.warm hW hNw⟩⟩ rfl rfl hl.1 rfl (lv_room (Nat.le_of_ble_eq_true rfl)) dX11_makes_75 ⟨(show _ ≤ kPo x - kPo (F_t_makes x a b).2 by omega), (show _ ≤ kPs x - kPs (F_t_makes x a b).2 by omega)⟩) hS (fun q _ h => hFc q h) hFc (fun u9 t H1 locs ht hvm hw hB hz1 hk1 hS => ?_)
              obtain ⟨hP1, hK1, hD1⟩ := hB
              rw [ht] at hP1
              rw [hw] at hP1 hD1
              have hD2 := hD1.weaken (B := A) (fun _ q _ h => hFc q.1 h)
              have hP := hP1
              have hD := hD2
              generalize H1 = H at hP hS ⊢
              refine lv_iconst (v := iI (0 : Int)) hx hb dX11_makes_78 (by decide) ?_
              refine lv_istore_n (lv' := [(3, .int (iI ((0 : Int)))), (0, .ref (ad (0))), (1, .int (iI (a))), (2, .int (iI (b)))]) hx hb dX11_makes_79 rfl hl (by decide) rfl (fun ls hl => ?_)
              have kg9 : kG ((F_r_run ((F_r_run (x) (7 + 2 * (a).toNat) (73)).2) (7 + 2 * (b).toNat) (75)).2) ((F_d_begin ((F_r_run ((F_r_run (x) (7 + 2 * (a).toNat) (73)).2) (7 + 2 * (b).toNat) (75)).2)).2) := (kG_tr (kG_rf _) (kG_of (F_d_begin_fr ((F_r_run ((F_r_run (x) (7 + 2 * (a).toNat) (73)).2) (7 + 2 * (b).toNat) (75)).2)) (by first | decide | (intro h9; simp at h9; done) | (intro h9; simp at h9; omega)) (by first | decide | (intro h9; simp at h9; done) | (intro h9; simp at h9; omega))))
              have eM9 : M = kM ((F_d_begin ((F_r_run ((F_r_run (x) (7 + 2 * (a).toNat) (73)).2) (7 + 2 * (b).toNat) (75)).2)).2) := hkM.trans (kG_M kg9).symm
              have eW9 : wl = kWl ((F_d_begin ((F_r_run ((F_r_run (x) (7 + 2 * (a).toNat) (73)).2) (7 + 2 * (b).toNat) (75)).2)).2) := hkW.trans (kG_W kg9).symm
              have eP9 := (kG_p kg9).1
              have eS9 := (kG_p kg9).2
              have kl1 := kle.1
              have kl2 := kle.2
              refine W.widen (k := kPo x - kPo ((F_d_begin ((F_r_run ((F_r_run (x) (7 + 2 * (a).toNat) (73)).2) (7 + 2 * (b).toNat) (75)).2)).2)) (n := kPs x - kPs ((F_d_begin ((F_r_run ((F_r_run (x) (7 + 2 * (a).toNat) (73)).2) (7 + 2 * (b).toNat) (75)).2)).2)) (by omega) (by omega) ?_
              exact (L (310)) ((F_d_begin ((F_r_run ((F_r_run (x) (7 + 2 * (a).toNat) (73)).2) (7 + 2 * (b).toNat) (75)).2)).2) M wl ad ((0 : Int)) hM eM9 eW9 had ⟨by omega, by omega⟩ (rOK_fr (F_d_begin_fr _) (by unfold rSs sMs; decide) (by unfold rAs sMa; decide) rh.1) (wG_fr (F_d_begin_fr _) (by decide) (by decide) (by decide) (rh.2.2.1 73 rfl (by decide) (by decide) rg.2.1)) (wG_fr (F_d_begin_fr _) (by decide) (by decide) (by decide) rh.2.1) (by rw [(F_d_begin_fr _).2 78 (by decide), fz.2 78 (by decide) (by decide)]; exact r8) (mdR_begin (mdR_eq (fz.1 84 2 (by decide) (by decide)) (fz.2 85 (by decide) (by decide)) (fz.2 86 (by decide) (by decide)) md)) (⟨_, mdL_begin _⟩) (by omega) (by omega) (by omega) hres _ _ ls hP hD hS (lv_sub hl [1, 2, 3, 0] rfl)
            · skip
              rw [if_pos c_65] at hres
              refine lv_bipush (v := iI (-4 : Int)) hx hb dX11_makes_68 (by decide) ?_
              have kg9 : kG ((F_r_run ((F_r_run (x) (7 + 2 * (a).toNat) (73)).2) (7 + 2 * (b).toNat) (75)).2) ((F_r_run ((F_r_run (x) (7 + 2 * (a).toNat) (73)).2) (7 + 2 * (b).toNat) (75)).2) := (kG_rf _)
              have eM9 : M = kM ((F_r_run ((F_r_run (x) (7 + 2 * (a).toNat) (73)).2) (7 + 2 * (b).toNat) (75)).2) := hkM.trans (kG_M kg9).symm
              have eW9 : wl = kWl ((F_r_run ((F_r_run (x) (7 + 2 * (a).toNat) (73)).2) (7 + 2 * (b).toNat) (75)).2) := hkW.trans (kG_W kg9).symm
              have eP9 := (kG_p kg9).1
              have eS9 := (kG_p kg9).2
              have kl1 := kle.1
              have kl2 := kle.2
              have hF2 : (F_t_makes x a b).2 = (F_r_run ((F_r_run (x) (7 + 2 * (a).toNat) (73)).2) (7 + 2 * (b).toNat) (75)).2 := by
                have h9 := congrArg Prod.snd hres
                exact h9.symm
              refine W.widen (k := kPo x - kPo (F_t_makes x a b).2) (n := kPs x - kPs (F_t_makes x a b).2) (by rw [hF2]; omega) (by rw [hF2]; omega) ?_
              exact W.iret (v := iI ((-4 : Int))) hx hb hr (fun t ht hW => ⟨⟨iI ((-4 : Int)), ((F_r_run ((F_r_run (x) (7 + 2 * (a).toNat) (73)).2) (7 + 2 * (b).toNat) (75)).2, ad), rfl, ⟨(by have h9 := congrArg (fun z : Int × KS => iI z.1) hres; exact h9), (by have h9 := congrArg (fun z : Int × KS => z.2) hres; exact h9), had⟩, by rw [ht]; show va_P (dC, dI) vwCl (kWd cI cJ cZ cR (kWl ((F_r_run ((F_r_run (x) (7 + 2 * (a).toNat) (73)).2) (7 + 2 * (b).toNat) (75)).2)) ad (kM ((F_r_run ((F_r_run (x) (7 + 2 * (a).toNat) (73)).2) (7 + 2 * (b).toNat) (75)).2)) ((F_r_run ((F_r_run (x) (7 + 2 * (a).toNat) (73)).2) (7 + 2 * (b).toNat) (75)).2)) H; rw [← eM9, ← eW9]; exact hP, va_K.moved hW.alike hK, by show va_D A (kWd cI cJ cZ cR (kWl ((F_r_run ((F_r_run (x) (7 + 2 * (a).toNat) (73)).2) (7 + 2 * (b).toNat) (75)).2)) ad (kM ((F_r_run ((F_r_run (x) (7 + 2 * (a).toNat) (73)).2) (7 + 2 * (b).toNat) (75)).2)) ((F_r_run ((F_r_run (x) (7 + 2 * (a).toNat) (73)).2) (7 + 2 * (b).toNat) (75)).2)); rw [← eM9, ← eW9]; exact hD⟩, hS.F ht⟩) hS.2.2 dX11_makes_70
        · skip
          rw [if_pos c_22] at hres
          refine lv_bipush (v := iI (-3 : Int)) hx hb dX11_makes_25 (by decide) ?_
          have kg9 : kG (x) (x) := (kG_rf _)
          have eM9 : M = kM (x) := hkM.trans (kG_M kg9).symm
          have eW9 : wl = kWl (x) := hkW.trans (kG_W kg9).symm
          have eP9 := (kG_p kg9).1
          have eS9 := (kG_p kg9).2
          have kl1 := kle.1
          have kl2 := kle.2
          have hF2 : (F_t_makes x a b).2 = x := by
            have h9 := congrArg Prod.snd hres
            exact h9.symm
          refine W.widen (k := kPo x - kPo (F_t_makes x a b).2) (n := kPs x - kPs (F_t_makes x a b).2) (by rw [hF2]; omega) (by rw [hF2]; omega) ?_
          exact W.iret (v := iI ((-3 : Int))) hx hb hr (fun t ht hW => ⟨⟨iI ((-3 : Int)), (x, ad), rfl, ⟨(by have h9 := congrArg (fun z : Int × KS => iI z.1) hres; exact h9), (by have h9 := congrArg (fun z : Int × KS => z.2) hres; exact h9), had⟩, by rw [ht]; show va_P (dC, dI) vwCl (kWd cI cJ cZ cR (kWl (x)) ad (kM (x)) (x)) H; rw [← eM9, ← eW9]; exact hP, va_K.moved hW.alike hK, by show va_D A (kWd cI cJ cZ cR (kWl (x)) ad (kM (x)) (x)); rw [← eM9, ← eW9]; exact hD⟩, hS.F ht⟩) hS.2.2 dX11_makes_27
      · skip
        rw [if_pos c_13] at hres
        refine lv_iconst (v := iI (-1 : Int)) hx hb dX11_makes_16 (by decide) ?_
        have kg9 : kG (x) (x) := (kG_rf _)
        have eM9 : M = kM (x) := hkM.trans (kG_M kg9).symm
        have eW9 : wl = kWl (x) := hkW.trans (kG_W kg9).symm
        have eP9 := (kG_p kg9).1
        have eS9 := (kG_p kg9).2
        have kl1 := kle.1
        have kl2 := kle.2
        have hF2 : (F_t_makes x a b).2 = x := by
          have h9 := congrArg Prod.snd hres
          exact h9.symm
        refine W.widen (k := kPo x - kPo (F_t_makes x a b).2) (n := kPs x - kPs (F_t_makes x a b).2) (by rw [hF2]; omega) (by rw [hF2]; omega) ?_
        exact W.iret (v := iI ((-1 : Int))) hx hb hr (fun t ht hW => ⟨⟨iI ((-1 : Int)), (x, ad), rfl, ⟨(by have h9 := congrArg (fun z : Int × KS => iI z.1) hres; exact h9), (by have h9 := congrArg (fun z : Int × KS => z.2) hres; exact h9), had⟩, by rw [ht]; show va_P (dC, dI) vwCl (kWd cI cJ cZ cR (kWl (x)) ad (kM (x)) (x)) H; rw [← eM9, ← eW9]; exact hP, va_K.moved hW.alike hK, by show va_D A (kWd cI cJ cZ cR (kWl (x)) ad (kM (x)) (x)); rw [← eM9, ← eW9]; exact hD⟩, hS.F ht⟩) hS.2.2 dX11_makes_17
  exact key M wl ao _ _ ls hM hkM hkW (fun _ _ => rfl) hP hD hS hl
theorem F_t_makes_sfr  : ∀ n : Nat, (∀ (y : KS) (v0 : Int) (v1 : Int) (v2 : Int), gfr [(77, 1), (70, 4), (70, 5), (64, 8), (84, 2), (73, 1), (75, 1)] [78, 71, 72, 85, 86, 74, 76] y (F_t_makes_s n 0 y v0 v1 v2).2) := by
  intro n
  induction n with
  | zero => exact fun y _ _ _ => gm_rf _ _ _
  | succ n ih =>
    skip
    · intro y a b i
      rw [F_t_makes_e0]
      by_cases hc : ((300 : Int)) ≤ (i)
      · rw [if_pos hc]
        exact (gm_rf _ _ _)
      · rw [if_neg hc]
        by_cases hc : ((y).1 (84) 2) ≤ (i)
        · rw [if_pos hc]
          exact (gm_rf _ _ _)
        · rw [if_neg hc]
          by_cases hc : ((F_t_makeFrom (y) (73) (i)).1) = (0)
          · rw [if_pos hc]
            exact (gm_tr (gm_rf _ _ _) (gm_mono (km1 (List.Mem.head _) (km1 (List.Mem.tail _ (List.Mem.head _)) (km1 (List.Mem.tail _ (List.Mem.tail _ (List.Mem.head _))) (km1 (List.Mem.tail _ (List.Mem.tail _ (List.Mem.tail _ (List.Mem.head _)))) (km1 (List.Mem.tail _ (List.Mem.tail _ (List.Mem.tail _ (List.Mem.tail _ (List.Mem.head _))))) km0))))) (km1 (List.Mem.head _) (km1 (List.Mem.tail _ (List.Mem.head _)) (km1 (List.Mem.tail _ (List.Mem.tail _ (List.Mem.head _))) (km1 (List.Mem.tail _ (List.Mem.tail _ (List.Mem.tail _ (List.Mem.head _)))) (km1 (List.Mem.tail _ (List.Mem.tail _ (List.Mem.tail _ (List.Mem.tail _ (List.Mem.head _))))) km0))))) (F_t_makeFrom_fr (y) (73) (i))))
          · rw [if_neg hc]
            by_cases hc : ((F_t_makeFrom ((F_t_makeFrom (y) (73) (i)).2) (75) (i)).1) = (0)
            · rw [if_pos hc]
              exact (gm_tr (gm_tr (gm_rf _ _ _) (gm_mono (km1 (List.Mem.head _) (km1 (List.Mem.tail _ (List.Mem.head _)) (km1 (List.Mem.tail _ (List.Mem.tail _ (List.Mem.head _))) (km1 (List.Mem.tail _ (List.Mem.tail _ (List.Mem.tail _ (List.Mem.head _)))) (km1 (List.Mem.tail _ (List.Mem.tail _ (List.Mem.tail _ (List.Mem.tail _ (List.Mem.head _))))) km0))))) (km1 (List.Mem.head _) (km1 (List.Mem.tail _ (List.Mem.head _)) (km1 (List.Mem.tail _ (List.Mem.tail _ (List.Mem.head _))) (km1 (List.Mem.tail _ (List.Mem.tail _ (List.Mem.tail _ (List.Mem.head _)))) (km1 (List.Mem.tail _ (List.Mem.tail _ (List.Mem.tail _ (List.Mem.tail _ (List.Mem.head _))))) km0))))) (F_t_makeFrom_fr (y) (73) (i)))) (gm_mono (km1 (List.Mem.head _) (km1 (List.Mem.tail _ (List.Mem.head _)) (km1 (List.Mem.tail _ (List.Mem.tail _ (List.Mem.head _))) (km1 (List.Mem.tail _ (List.Mem.tail _ (List.Mem.tail _ (List.Mem.head _)))) (km1 (List.Mem.tail _ (List.Mem.tail _ (List.Mem.tail _ (List.Mem.tail _ (List.Mem.head _))))) km0))))) (km1 (List.Mem.head _) (km1 (List.Mem.tail _ (List.Mem.head _)) (km1 (List.Mem.tail _ (List.Mem.tail _ (List.Mem.head _))) (km1 (List.Mem.tail _ (List.Mem.tail _ (List.Mem.tail _ (List.Mem.head _)))) (km1 (List.Mem.tail _ (List.Mem.tail _ (List.Mem.tail _ (List.Mem.tail _ (List.Mem.head _))))) km0))))) (F_t_makeFrom_fr ((F_t_makeFrom (y) (73) (i)).2) (75) (i))))
            · rw [if_neg hc]
              exact gm_tr ((gm_tr (gm_tr (gm_rf _ _ _) (gm_mono (km1 (List.Mem.head _) (km1 (List.Mem.tail _ (List.Mem.head _)) (km1 (List.Mem.tail _ (List.Mem.tail _ (List.Mem.head _))) (km1 (List.Mem.tail _ (List.Mem.tail _ (List.Mem.tail _ (List.Mem.head _)))) (km1 (List.Mem.tail _ (List.Mem.tail _ (List.Mem.tail _ (List.Mem.tail _ (List.Mem.head _))))) km0))))) (km1 (List.Mem.head _) (km1 (List.Mem.tail _ (List.Mem.head _)) (km1 (List.Mem.tail _ (List.Mem.tail _ (List.Mem.head _))) (km1 (List.Mem.tail _ (List.Mem.tail _ (List.Mem.tail _ (List.Mem.head _)))) (km1 (List.Mem.tail _ (List.Mem.tail _ (List.Mem.tail _ (List.Mem.tail _ (List.Mem.head _))))) km0))))) (F_t_makeFrom_fr (y) (73) (i)))) (gm_mono (km1 (List.Mem.head _) (km1 (List.Mem.tail _ (List.Mem.head _)) (km1 (List.Mem.tail _ (List.Mem.tail _ (List.Mem.head _))) (km1 (List.Mem.tail _ (List.Mem.tail _ (List.Mem.tail _ (List.Mem.head _)))) (km1 (List.Mem.tail _ (List.Mem.tail _ (List.Mem.tail _ (List.Mem.tail _ (List.Mem.head _))))) km0))))) (km1 (List.Mem.head _) (km1 (List.Mem.tail _ (List.Mem.head _)) (km1 (List.Mem.tail _ (List.Mem.tail _ (List.Mem.head _))) (km1 (List.Mem.tail _ (List.Mem.tail _ (List.Mem.tail _ (List.Mem.head _)))) (km1 (List.Mem.tail _ (List.Mem.tail _ (List.Mem.tail _ (List.Mem.tail _ (List.Mem.head _))))) km0))))) (F_t_makeFrom_fr ((F_t_makeFrom (y) (73) (i)).2) (75) (i))))) (ih ((F_t_makeFrom ((F_t_makeFrom (y) (73) (i)).2) (75) (i)).2) (a) (b) ((i) + (1 : Int)))
theorem F_t_makes_fr (x : KS) (a : Int) (b : Int) : gfr [(77, 1), (70, 4), (70, 5), (64, 8), (84, 2), (73, 1), (75, 1)] [78, 71, 72, 85, 86, 74, 76] x (F_t_makes x a b).2 := by
  unfold F_t_makes
  by_cases hc : ((F_t_isSlot (x) (a)).1) = (0)
  · rw [if_pos hc]
    exact (gm_rf _ _ _)
  · rw [if_neg hc]
    by_cases hc : ((F_t_isSlot (x) (b)).1) = (0)
    · rw [if_pos hc]
      exact (gm_rf _ _ _)
    · rw [if_neg hc]
      by_cases hc : ((F_t_isProved (x)).1) = (0)
      · rw [if_pos hc]
        exact (gm_rf _ _ _)
      · rw [if_neg hc]
        by_cases hc : ((F_r_run (x) (7 + 2 * (a).toNat) (73)).1) = (0)
        · rw [if_pos hc]
          exact (gm_tr (gm_rf _ _ _) (gm_mono (km1 (List.Mem.tail _ (List.Mem.head _)) (km1 (List.Mem.tail _ (List.Mem.tail _ (List.Mem.head _))) (km1 (List.Mem.tail _ (List.Mem.tail _ (List.Mem.tail _ (List.Mem.head _)))) (km1 (List.Mem.tail _ (List.Mem.tail _ (List.Mem.tail _ (List.Mem.tail _ (List.Mem.tail _ (List.Mem.head _)))))) km0)))) (km1 (List.Mem.tail _ (List.Mem.head _)) (km1 (List.Mem.tail _ (List.Mem.tail _ (List.Mem.head _))) (km1 (List.Mem.tail _ (List.Mem.tail _ (List.Mem.tail _ (List.Mem.tail _ (List.Mem.tail _ (List.Mem.head _)))))) km0))) (F_r_run_fr (x) (7 + 2 * (a).toNat) (73))))
        · rw [if_neg hc]
          by_cases hc : ((F_r_run ((F_r_run (x) (7 + 2 * (a).toNat) (73)).2) (7 + 2 * (b).toNat) (75)).1) = (0)
          · rw [if_pos hc]
            exact (gm_tr (gm_tr (gm_rf _ _ _) (gm_mono (km1 (List.Mem.tail _ (List.Mem.head _)) (km1 (List.Mem.tail _ (List.Mem.tail _ (List.Mem.head _))) (km1 (List.Mem.tail _ (List.Mem.tail _ (List.Mem.tail _ (List.Mem.head _)))) (km1 (List.Mem.tail _ (List.Mem.tail _ (List.Mem.tail _ (List.Mem.tail _ (List.Mem.tail _ (List.Mem.head _)))))) km0)))) (km1 (List.Mem.tail _ (List.Mem.head _)) (km1 (List.Mem.tail _ (List.Mem.tail _ (List.Mem.head _))) (km1 (List.Mem.tail _ (List.Mem.tail _ (List.Mem.tail _ (List.Mem.tail _ (List.Mem.tail _ (List.Mem.head _)))))) km0))) (F_r_run_fr (x) (7 + 2 * (a).toNat) (73)))) (gm_mono (km1 (List.Mem.tail _ (List.Mem.head _)) (km1 (List.Mem.tail _ (List.Mem.tail _ (List.Mem.head _))) (km1 (List.Mem.tail _ (List.Mem.tail _ (List.Mem.tail _ (List.Mem.head _)))) (km1 (List.Mem.tail _ (List.Mem.tail _ (List.Mem.tail _ (List.Mem.tail _ (List.Mem.tail _ (List.Mem.tail _ (List.Mem.head _))))))) km0)))) (km1 (List.Mem.tail _ (List.Mem.head _)) (km1 (List.Mem.tail _ (List.Mem.tail _ (List.Mem.head _))) (km1 (List.Mem.tail _ (List.Mem.tail _ (List.Mem.tail _ (List.Mem.tail _ (List.Mem.tail _ (List.Mem.tail _ (List.Mem.head _))))))) km0))) (F_r_run_fr ((F_r_run (x) (7 + 2 * (a).toNat) (73)).2) (7 + 2 * (b).toNat) (75))))
          · rw [if_neg hc]
            exact gm_tr ((gm_tr (gm_tr (gm_tr (gm_rf _ _ _) (gm_mono (km1 (List.Mem.tail _ (List.Mem.head _)) (km1 (List.Mem.tail _ (List.Mem.tail _ (List.Mem.head _))) (km1 (List.Mem.tail _ (List.Mem.tail _ (List.Mem.tail _ (List.Mem.head _)))) (km1 (List.Mem.tail _ (List.Mem.tail _ (List.Mem.tail _ (List.Mem.tail _ (List.Mem.tail _ (List.Mem.head _)))))) km0)))) (km1 (List.Mem.tail _ (List.Mem.head _)) (km1 (List.Mem.tail _ (List.Mem.tail _ (List.Mem.head _))) (km1 (List.Mem.tail _ (List.Mem.tail _ (List.Mem.tail _ (List.Mem.tail _ (List.Mem.tail _ (List.Mem.head _)))))) km0))) (F_r_run_fr (x) (7 + 2 * (a).toNat) (73)))) (gm_mono (km1 (List.Mem.tail _ (List.Mem.head _)) (km1 (List.Mem.tail _ (List.Mem.tail _ (List.Mem.head _))) (km1 (List.Mem.tail _ (List.Mem.tail _ (List.Mem.tail _ (List.Mem.head _)))) (km1 (List.Mem.tail _ (List.Mem.tail _ (List.Mem.tail _ (List.Mem.tail _ (List.Mem.tail _ (List.Mem.tail _ (List.Mem.head _))))))) km0)))) (km1 (List.Mem.tail _ (List.Mem.head _)) (km1 (List.Mem.tail _ (List.Mem.tail _ (List.Mem.head _))) (km1 (List.Mem.tail _ (List.Mem.tail _ (List.Mem.tail _ (List.Mem.tail _ (List.Mem.tail _ (List.Mem.tail _ (List.Mem.head _))))))) km0))) (F_r_run_fr ((F_r_run (x) (7 + 2 * (a).toNat) (73)).2) (7 + 2 * (b).toNat) (75)))) (gm_mono (km1 (List.Mem.tail _ (List.Mem.tail _ (List.Mem.tail _ (List.Mem.tail _ (List.Mem.head _))))) km0) (km1 (List.Mem.tail _ (List.Mem.tail _ (List.Mem.tail _ (List.Mem.head _)))) (km1 (List.Mem.tail _ (List.Mem.tail _ (List.Mem.tail _ (List.Mem.tail _ (List.Mem.head _))))) km0)) (gm_of (F_d_begin_fr ((F_r_run ((F_r_run (x) (7 + 2 * (a).toNat) (73)).2) (7 + 2 * (b).toNat) (75)).2)))))) ((F_t_makes_sfr  (310)) ((F_d_begin ((F_r_run ((F_r_run (x) (7 + 2 * (a).toNat) (73)).2) (7 + 2 * (b).toNat) (75)).2)).2) (a) (b) ((0 : Int)))
