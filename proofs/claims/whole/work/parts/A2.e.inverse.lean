-- deps: A2.d
theorem ivY_g {x z : KS} {S : List (Nat × Nat)} {A : List Nat} (f : gfr S A x z) (h : ivY x) (h1 : (1, 2) ∉ S := by first | decide | (intro h9; simp at h9)) (h2 : (64, 7) ∉ S := by first | decide | (intro h9; simp at h9)) (h3 : 66 ∉ A := by first | decide | (intro h9; simp at h9)) : ivY z := by
  obtain ⟨Y, hs⟩ := h
  have e1 := f.1 1 2 (by decide) h1
  have e2 := f.1 64 7 (by decide) h2
  have e3 := f.2 66 (by decide) h3
  exact ⟨Y, by rw [e2, e1]; exact hs.1, fun g l g0 g1 l0 l1 => by rw [F_a_step_cg e1 e2 e3]; exact hs.2 g l g0 g1 l0 l1⟩
def F_t_inverse_s  : Nat → Nat → KS → Int → Int → Int → Int × KS
  | 0, _, x, _, _, _ => (0, x)
  | n + 1, t, x, p0, p1, p2 => match t with
    | 0 => (fun (a : Int) (k : Int) (i : Int) => (if ((2000 : Int)) ≤ (i) then ((-9 : Int), x) else (if (i) ≤ (0) then F_t_inverse_s n 1 (x) (a) (k) (i) else (if ((F_v_advance (x)).1) = (0) then ((-9 : Int), (F_v_advance (x)).2) else F_t_inverse_s n 1 ((F_v_advance (x)).2) (a) (k) (i))))) p0 p1 p2
    | 1 => (fun (a : Int) (k : Int) (i : Int) => (if ((F_t_putBehind ((F_w_take (x) (77) (73)).2) (82)).1) = (0) then ((-4 : Int), (F_t_putBehind ((F_w_take (x) (77) (73)).2) (82)).2) else (if (((F_t_putBehind ((F_w_take (x) (77) (73)).2) (82)).2).1 (77) 1) = (0) then (((F_w_take ((F_t_putBehind ((F_w_take (x) (77) (73)).2) (82)).2) (7 + 2 * (k).toNat) (82)).2).1 (82) 1, (F_w_take ((F_t_putBehind ((F_w_take (x) (77) (73)).2) (82)).2) (7 + 2 * (k).toNat) (82)).2) else F_t_inverse_s n 0 ((F_t_putBehind ((F_w_take (x) (77) (73)).2) (82)).2) (a) (k) ((i) + (1 : Int))))) p0 p1 p2
    | _ => (0, x)
theorem F_t_inverse_e0  (n : Nat) (x : KS) (a : Int) (k : Int) (i : Int) : F_t_inverse_s (n + 1) 0 x a k i = (if ((2000 : Int)) ≤ (i) then ((-9 : Int), x) else (if (i) ≤ (0) then F_t_inverse_s n 1 (x) (a) (k) (i) else (if ((F_v_advance (x)).1) = (0) then ((-9 : Int), (F_v_advance (x)).2) else F_t_inverse_s n 1 ((F_v_advance (x)).2) (a) (k) (i)))) := rfl
theorem F_t_inverse_e1  (n : Nat) (x : KS) (a : Int) (k : Int) (i : Int) : F_t_inverse_s (n + 1) 1 x a k i = (if ((F_t_putBehind ((F_w_take (x) (77) (73)).2) (82)).1) = (0) then ((-4 : Int), (F_t_putBehind ((F_w_take (x) (77) (73)).2) (82)).2) else (if (((F_t_putBehind ((F_w_take (x) (77) (73)).2) (82)).2).1 (77) 1) = (0) then (((F_w_take ((F_t_putBehind ((F_w_take (x) (77) (73)).2) (82)).2) (7 + 2 * (k).toNat) (82)).2).1 (82) 1, (F_w_take ((F_t_putBehind ((F_w_take (x) (77) (73)).2) (82)).2) (7 + 2 * (k).toNat) (82)).2) else F_t_inverse_s n 0 ((F_t_putBehind ((F_w_take (x) (77) (73)).2) (82)).2) (a) (k) ((i) + (1 : Int)))) := rfl
def F_t_inverse (x : KS) (a : Int) (k : Int) : Int × KS := (if ((F_t_isSlot (x) (a)).1) = (0) then ((-1 : Int), x) else (if ((F_t_isSlot (x) (k)).1) = (0) then ((-1 : Int), x) else (if ((F_t_isProved (x)).1) = (0) then ((-3 : Int), x) else (if ((F_r_run (x) (7 + 2 * (a).toNat) (73)).1) = (0) then ((-4 : Int), (F_r_run (x) (7 + 2 * (a).toNat) (73)).2) else F_t_inverse_s 5000 0 ((F_v_begin ((F_r_run (x) (7 + 2 * (a).toNat) (73)).2)).2) (a) (k) ((0 : Int))))))
theorem F_t_inverse_sle   : ∀ n : Nat, (∀ (y : KS) (v0 : Int) (v1 : Int) (v2 : Int), kLe y (F_t_inverse_s n 0 y v0 v1 v2).2) ∧ (∀ (y : KS) (v0 : Int) (v1 : Int) (v2 : Int), kLe y (F_t_inverse_s n 1 y v0 v1 v2).2) := by
  intro n
  induction n with
  | zero => exact ⟨fun y _ _ _ => kLe_rf _, fun y _ _ _ => kLe_rf _⟩
  | succ n ih =>
    refine ⟨?_, ?_⟩
    · intro y a k i
      rw [F_t_inverse_e0]
      by_cases hc9 : ((2000 : Int)) ≤ (i)
      · rw [if_pos hc9]
        exact (kLe_rf _)
      · rw [if_neg hc9]
        by_cases hc9 : (i) ≤ (0)
        · rw [if_pos hc9]
          exact kLe_tr (kLe_rf _) (ih.2 (y) (a) (k) (i))
        · rw [if_neg hc9]
          by_cases hc9 : ((F_v_advance (y)).1) = (0)
          · rw [if_pos hc9]
            exact (kLe_tr (kLe_rf _) (kLe_G (kG_of (F_v_advance_fr (y)) (by first | decide | (intro h9; simp at h9; done) | (intro h9; simp at h9; omega)) (by first | decide | (intro h9; simp at h9; done) | (intro h9; simp at h9; omega)))))
          · rw [if_neg hc9]
            exact kLe_tr (kLe_tr (kLe_rf _) (kLe_G (kG_of (F_v_advance_fr (y)) (by first | decide | (intro h9; simp at h9; done) | (intro h9; simp at h9; omega)) (by first | decide | (intro h9; simp at h9; done) | (intro h9; simp at h9; omega))))) (ih.2 ((F_v_advance (y)).2) (a) (k) (i))
    · intro y a k i
      rw [F_t_inverse_e1]
      by_cases hc9 : ((F_t_putBehind ((F_w_take (y) (77) (73)).2) (82)).1) = (0)
      · rw [if_pos hc9]
        exact (kLe_tr (kLe_tr (kLe_rf _) (kLe_G (kG_of (F_w_take_fr (y) (77) (73)) (by first | decide | (intro h9; simp at h9; done) | (intro h9; simp at h9; omega)) (by first | decide | (intro h9; simp at h9; done) | (intro h9; simp at h9; omega))))) (F_t_putBehind_le ((F_w_take (y) (77) (73)).2) (82)))
      · rw [if_neg hc9]
        by_cases hc9 : (((F_t_putBehind ((F_w_take (y) (77) (73)).2) (82)).2).1 (77) 1) = (0)
        · rw [if_pos hc9]
          exact (kLe_tr (kLe_tr (kLe_tr (kLe_rf _) (kLe_G (kG_of (F_w_take_fr (y) (77) (73)) (by first | decide | (intro h9; simp at h9; done) | (intro h9; simp at h9; omega)) (by first | decide | (intro h9; simp at h9; done) | (intro h9; simp at h9; omega))))) (F_t_putBehind_le ((F_w_take (y) (77) (73)).2) (82))) (kLe_G (kG_of (F_w_take_fr ((F_t_putBehind ((F_w_take (y) (77) (73)).2) (82)).2) (7 + 2 * (k).toNat) (82)) (by first | decide | (intro h9; simp at h9; done) | (intro h9; simp at h9; omega)) (by first | decide | (intro h9; simp at h9; done) | (intro h9; simp at h9; omega)))))
        · rw [if_neg hc9]
          exact kLe_tr (kLe_tr (kLe_tr (kLe_rf _) (kLe_G (kG_of (F_w_take_fr (y) (77) (73)) (by first | decide | (intro h9; simp at h9; done) | (intro h9; simp at h9; omega)) (by first | decide | (intro h9; simp at h9; done) | (intro h9; simp at h9; omega))))) (F_t_putBehind_le ((F_w_take (y) (77) (73)).2) (82))) (ih.1 ((F_t_putBehind ((F_w_take (y) (77) (73)).2) (82)).2) (a) (k) ((i) + (1 : Int)))
theorem F_t_inverse_le  (x : KS) (a : Int) (k : Int) : kLe x (F_t_inverse x a k).2 := by
  unfold F_t_inverse
  by_cases hc9 : ((F_t_isSlot (x) (a)).1) = (0)
  · rw [if_pos hc9]
    exact (kLe_rf _)
  · rw [if_neg hc9]
    by_cases hc9 : ((F_t_isSlot (x) (k)).1) = (0)
    · rw [if_pos hc9]
      exact (kLe_rf _)
    · rw [if_neg hc9]
      by_cases hc9 : ((F_t_isProved (x)).1) = (0)
      · rw [if_pos hc9]
        exact (kLe_rf _)
      · rw [if_neg hc9]
        by_cases hc9 : ((F_r_run (x) (7 + 2 * (a).toNat) (73)).1) = (0)
        · rw [if_pos hc9]
          exact (kLe_tr (kLe_rf _) (F_r_run_le rfl (by omega) (x) (7 + 2 * (a).toNat)))
        · rw [if_neg hc9]
          exact kLe_tr (kLe_tr (kLe_tr (kLe_rf _) (F_r_run_le rfl (by omega) (x) (7 + 2 * (a).toNat))) (kLe_G (kG_of (F_v_begin_fr ((F_r_run (x) (7 + 2 * (a).toNat) (73)).2)) (by first | decide | (intro h9; simp at h9; done) | (intro h9; simp at h9; omega)) (by first | decide | (intro h9; simp at h9; done) | (intro h9; simp at h9; omega))))) ((F_t_inverse_sle   _).1 ((F_v_begin ((F_r_run (x) (7 + 2 * (a).toNat) (73)).2)).2) (a) (k) ((0 : Int)))
set_option maxHeartbeats 4000000 in
set_option maxRecDepth 100000 in
/-- LikeWords, inverse -/
theorem c_t_inverse (l : Launch) (dC : Nat → ClassId) (dI : Nat → Nat → Nat) (ao : Nat → Nat) (cI cJ cZ cR : ClassId) (M wl sz : Nat) (x : KS) (a : Int) (k : Int) (hM : 87 ≤ M) (hkM : M = kM x) (hkW : wl = kWl x) (ra : iR a) (rk : iR k) (bp : bdP x) (su : ∀ j : Int, 0 ≤ j → j < 8 → wG x (7 + 2 * j.toNat)) (r3 : r03 (x.2 74)) (r8 : r03 (x.2 78)) (wa : waR x) (hY : ¬ (F_t_isProved x).1 = 0 → ivY x) : Met l yX11_inverse wsX11_inverse ({ frames := 6, cells := kPo x - kPo (F_t_inverse x a k).2, slots := kPs x - kPs (F_t_inverse x a k).2, locals := 153 }) (kPc dC dI ao cI cJ cZ cR M wl sz x [.ref (ao 0), .int (iI a), .int (iI k)]) (va_Qi (fun (r : Int32) (u : KS × (Nat → Nat)) => r = iI (F_t_inverse x a k).1 ∧ u.1 = (F_t_inverse x a k).2 ∧ (∀ c, c < 87 → u.2 c = ao c)) (fun u t => kAt dC dI u.2 cI cJ cZ cR (kM u.1) (kWl u.1) (va_A (kWd cI cJ cZ cR wl ao M x) sz) u.1 t) (va_A (kWd cI cJ cZ cR wl ao M x) sz)) (kPo x - kPo (F_t_inverse x a k).2) (kPs x - kPs (F_t_inverse x a k).2) (va_A (kWd cI cJ cZ cR wl ao M x) sz) := by
  refine Met.ofW (cc := cX11_inverse) (maxL := 4) (ret := (some .int)) (by decide) rfl ?_
  intro p e s m args below meth c s₁ B hml hv
  obtain ⟨rfl, hsz, hP, hK, hD0, hNw⟩ := hv
  have hx := B.exec
  have hb := B.bytes
  have hr := B.returns
  have hts := atoms_spec (ws := wsX11_inverse) B.pre
  have hown : s.vm.findClass RX11 = some m.cls := findClass_of_methodNamed B.named
  have hlocks := B.notSynchronized
  have hinX10 : ∀ w ∈ u_ws RX10 TX10 2, w ∈ wsX11_inverse := by decide +kernel
  have hinX11 : ∀ w ∈ u_ws RX11 TX11 17, w ∈ wsX11_inverse := by decide +kernel
  have hinX9 : ∀ w ∈ u_ws RX9 TX9 3, w ∈ wsX11_inverse := by decide +kernel
  subst hsz
  have hD := hD0.self (sz := s.heap.size)
  generalize hAe : va_A (kWd cI cJ cZ cR wl ao M x) s.heap.size = A at hD ⊢
  have hA : ∀ q : Nat, s.heap.size ≤ q → A q := fun q h => by rw [← hAe]; exact Or.inr h
  have hS : va_S A s.heap s.heap [] := va_S.rf
  have hl := lv_entry ([.ref (ao 0), .int (iI a), .int (iI k)]) (n := 4) (Nat.le_of_ble_eq_true rfl)
  rw [lg_entry_eq]
  generalize (lg_sl ([.ref (ao 0), .int (iI a), .int (iI k)]) ++ List.replicate (4 - (lg_sl ([.ref (ao 0), .int (iI a), .int (iI k)])).length) Slot.unset).toArray = ls at hl ⊢
  have hl : lv_has ls 4 [(0, .ref (ao (0))), (1, .int (iI (a))), (2, .int (iI (k)))] := hl
  have L : ∀ n : Nat, (∀ (y : KS) (M wl : Nat) (ad : Nat → Nat) (i : Int), 87 ≤ M → M = kM y → wl = kWl y → (∀ c, c < 87 → ad c = ao c) → kLe x y → (rOK y) → (wG y 73) → (r03 (y.2 78)) → (ivK y i) → (0 ≤ k) → (k < 8) → (0 ≤ i) → (i ≤ 2000) → (2 * (2000 - i) + 5 < n) → F_t_inverse_s n 0 y a k i = F_t_inverse x a k → ∀ (H : Heap) (locs : List Loc) (ls : Array Slot), va_P (dC, dI) vwCl (kWd cI cJ cZ cR wl ad M (y)) H → va_D A (kWd cI cJ cZ cR wl ad M (y)) → va_S A s.heap H locs → lv_has ls 4 [(0, .ref (ad (0))), (1, .int (iI (a))), (2, .int (iI (k))), (3, .int (iI (i)))] → W p l e (headSpec wsX11_inverse ({ frames := 6, cells := kPo x - kPo (F_t_inverse x a k).2, slots := kPs x - kPs (F_t_inverse x a k).2, locals := 153 })).room s m ([.ref (ao 0), .int (iI a), .int (iI k)] : List Value).toArray below meth c H locs (kPo x - kPo y) (kPs x - kPs y) (MQ below (va_Qi (fun (r : Int32) (u : KS × (Nat → Nat)) => r = iI (F_t_inverse x a k).1 ∧ u.1 = (F_t_inverse x a k).2 ∧ (∀ c, c < 87 → u.2 c = ao c)) (fun u t => kAt dC dI u.2 cI cJ cZ cR (kM u.1) (kWl u.1) (A) u.1 t) (A)) ([.ref (ao 0), .int (iI a), .int (iI k)] : List Value).toArray s (kPo x - kPo (F_t_inverse x a k).2) (kPs x - kPs (F_t_inverse x a k).2) A) (F0 m 60 ls [])) ∧ (∀ (y : KS) (M wl : Nat) (ad : Nat → Nat) (i : Int), 87 ≤ M → M = kM y → wl = kWl y → (∀ c, c < 87 → ad c = ao c) → kLe x y → (rOK y) → (wG y 73) → (r03 (y.2 78)) → (ivL y i) → (0 ≤ k) → (k < 8) → (0 ≤ i) → (i < 2000) → (2 * (2000 - i) + 4 < n) → F_t_inverse_s n 1 y a k i = F_t_inverse x a k → ∀ (H : Heap) (locs : List Loc) (ls : Array Slot), va_P (dC, dI) vwCl (kWd cI cJ cZ cR wl ad M (y)) H → va_D A (kWd cI cJ cZ cR wl ad M (y)) → va_S A s.heap H locs → lv_has ls 4 [(0, .ref (ad (0))), (1, .int (iI (a))), (2, .int (iI (k))), (3, .int (iI (i)))] → W p l e (headSpec wsX11_inverse ({ frames := 6, cells := kPo x - kPo (F_t_inverse x a k).2, slots := kPs x - kPs (F_t_inverse x a k).2, locals := 153 })).room s m ([.ref (ao 0), .int (iI a), .int (iI k)] : List Value).toArray below meth c H locs (kPo x - kPo y) (kPs x - kPs y) (MQ below (va_Qi (fun (r : Int32) (u : KS × (Nat → Nat)) => r = iI (F_t_inverse x a k).1 ∧ u.1 = (F_t_inverse x a k).2 ∧ (∀ c, c < 87 → u.2 c = ao c)) (fun u t => kAt dC dI u.2 cI cJ cZ cR (kM u.1) (kWl u.1) (A) u.1 t) (A)) ([.ref (ao 0), .int (iI a), .int (iI k)] : List Value).toArray s (kPo x - kPo (F_t_inverse x a k).2) (kPs x - kPs (F_t_inverse x a k).2) A) (F0 m 84 ls [])) := by
    intro n
    induction n with
    | zero =>
      refine ⟨?_, ?_⟩
      · intro y M wl ad i hM hkM hkW had kle oy g3 r8y wk k0 k1 i0 i1 fu hres
        exact absurd fu (by omega)
      · intro y M wl ad i hM hkM hkW had kle oy g3 r8y wl9 k0 k1 i0 i1 fu hres
        exact absurd fu (by omega)
    | succ n ih =>
      refine ⟨?_, ?_⟩
      · intro y M wl ad i hM hkM hkW had kle oy g3 r8y wk k0 k1 i0 i1 fu hres H locs ls hP hD hS hl
        have kf9 : kLe y (F_t_inverse x a k).2 := by
          rw [← hres]
          exact (F_t_inverse_sle   (n + 1)).1 _ _ _ _
        have kf1 := kf9.1
        have kf2 := kf9.2
        rw [F_t_inverse_e0] at hres
        have klx1 := kle.1
        have klx2 := kle.2
        refine lv_iload_n hx hb dX11_inverse_60 rfl (lv_at hl 3 rfl) ?_
        refine lv_sipush (v := iI (2000 : Int)) hx hb dX11_inverse_61 (by decide) ?_
        refine wi_icmp_ge (tgt := 155) hx hb (by first | assumption | (unfold iR; omega) | exact kR01 (by assumption)) ⟨by decide, by decide⟩ dX11_inverse_64 (by decide) (fun c_64 => ?_) (fun c_64 => ?_)
        · skip
          rw [if_pos c_64] at hres
          refine lv_bipush (v := iI (-9 : Int)) hx hb dX11_inverse_155 (by decide) ?_
          have kg9 : kG (y) (y) := (kG_rf _)
          have eM9 : M = kM (y) := hkM.trans (kG_M kg9).symm
          have eW9 : wl = kWl (y) := hkW.trans (kG_W kg9).symm
          have eP9 := (kG_p kg9).1
          have eS9 := (kG_p kg9).2
          have kl1 := kle.1
          have kl2 := kle.2
          have hF2 : (F_t_inverse x a k).2 = y := by
            have h9 := congrArg Prod.snd hres
            exact h9.symm
          refine W.widen (k := kPo x - kPo (F_t_inverse x a k).2) (n := kPs x - kPs (F_t_inverse x a k).2) (by rw [hF2]; omega) (by rw [hF2]; omega) ?_
          exact W.iret (v := iI ((-9 : Int))) hx hb hr (fun t ht hW => ⟨⟨iI ((-9 : Int)), (y, ad), rfl, ⟨(by have h9 := congrArg (fun z : Int × KS => iI z.1) hres; exact h9), (by have h9 := congrArg (fun z : Int × KS => z.2) hres; exact h9), had⟩, by rw [ht]; show va_P (dC, dI) vwCl (kWd cI cJ cZ cR (kWl (y)) ad (kM (y)) (y)) H; rw [← eM9, ← eW9]; exact hP, va_K.moved hW.alike hK, by show va_D A (kWd cI cJ cZ cR (kWl (y)) ad (kM (y)) (y)); rw [← eM9, ← eW9]; exact hD⟩, hS.F ht⟩) hS.2.2 dX11_inverse_157
        · skip
          rw [if_neg c_64] at hres
          refine lv_iload_n hx hb dX11_inverse_67 rfl (lv_at hl 3 rfl) ?_
          refine wi_if_le (tgt := 84) hx hb (by first | assumption | (unfold iR; omega) | exact kR01 (by assumption)) dX11_inverse_68 (by decide) (fun c_68 => ?_) (fun c_68 => ?_)
          · skip
            rw [if_pos c_68] at hres
            have kg9 : kG (y) (y) := (kG_rf _)
            have eM9 : M = kM (y) := hkM.trans (kG_M kg9).symm
            have eW9 : wl = kWl (y) := hkW.trans (kG_W kg9).symm
            have eP9 := (kG_p kg9).1
            have eS9 := (kG_p kg9).2
            have kl1 := kle.1
            have kl2 := kle.2
            refine W.widen (k := kPo x - kPo (y)) (n := kPs x - kPs (y)) (by omega) (by omega) ?_
            exact ih.2 (y) M wl ad (i) hM eM9 eW9 had ⟨by omega, by omega⟩ (oy) (g3) (r8y) (ivL_0 wk (by omega) i0) (by omega) (by omega) (by omega) (by omega) (by omega) hres _ _ ls hP hD hS (lv_sub hl [0, 1, 2, 3] rfl)
          · skip
            rw [if_neg c_68] at hres
            have may := oy.1.2.2.2.2.1
            have l2y := oy.1.1.1.1
            have way := ivK_w wk
            refine lv_aload_n hx hb dX11_inverse_71 rfl (lv_at hl 0 rfl) ?_
            refine va_get (D := (dC, dI)) (ci := 11) (v := .ref (ad (80))) (C := RX11) (T := TX11) (N := 17) hx hb hts hinX11 hown hK hP (0) (kg0 (by omega)) rfl 9 (by decide) (hts (.fieldLink RX11 89 "LikeWords" "walk" "LLikeWords$Walk;") (by decide +kernel)) (fun _ h9 => h9) rfl dX11_inverse_72 ?_
            have hFc : ∀ q, va_A (kWd cI cJ cZ cR wl ad M (y)) H.size q → A q := fun q hq => Or.elim hq (fun ⟨k, e, hk⟩ => hD.2 k (q, e) hk) (fun hk => hA q (Nat.le_trans hS.1 hk))
            refine va_calli (va_runV (b := ad (80)) (As := []) (rest := []) ⟨hx, hb, hml, hown, hts⟩ (c_v_advance l dC dI ad cI cJ cZ cR M wl H.size (y)   hM may l2y way) (cwV 0 hts gX11_inverse_X9_advance rfl rfl rfl (by decide +kernel) ⟨Nat.le_of_ble_eq_true rfl, Nat.le_of_ble_eq_true rfl⟩) ⟨fun a U g mk q => by obtain ⟨q0, q1, qP, qK, qD, qN⟩ := q; exact ⟨q0, q1, qP, va_K.moved (u := U) (U := U.calling g mk a) (Vm.Alike.refl U.vm) qK, qD, kNw.same (u := U) (U := U.calling g mk a) rfl qN⟩, va_recv hK hP (ci := 9) (q0 := 80) rfl (kg80 (by omega)), fun U hU hW => ⟨rfl, by rw [hU], by rw [hU]; exact hP, va_K.moved hW.alike hK, hD.weaken (fun _ _ _ _ => trivial), kNw.warm hW hNw⟩⟩ rfl rfl hl.1 rfl (lv_room (Nat.le_of_ble_eq_true rfl)) dX11_inverse_75 ⟨(show _ ≤ kPo x - kPo (F_t_inverse x a k).2 by omega), (show _ ≤ kPs x - kPs (F_t_inverse x a k).2 by omega)⟩) hS (fun q _ h => hFc q h) hFc (fun r9 u9 t H1 locs ht hvm hw hB hz1 hk1 hS => ?_)
            obtain ⟨hP1, hK1, hD1⟩ := hB
            rw [ht] at hP1
            obtain ⟨hw1, hw2⟩ := hw
            rw [hw2] at hP1 hD1
            rw [hw1]
            have hD2 := hD1.weaken (B := A) (fun _ q _ h => hFc q.1 h)
            have hP := hP1
            have hD := hD2
            generalize H1 = H at hP hS ⊢
            have av := ivL_a may wk (by omega) (by omega)
            refine wi_if_ne (tgt := 84) hx hb (kR01 av.1) dX11_inverse_78 (by decide) (fun c_78 => ?_) (fun c_78 => ?_)
            · skip
              rw [if_neg c_78] at hres
              have kg9 : kG (y) ((F_v_advance (y)).2) := (kG_tr (kG_rf _) (kG_of (F_v_advance_fr (y)) (by first | decide | (intro h9; simp at h9; done) | (intro h9; simp at h9; omega)) (by first | decide | (intro h9; simp at h9; done) | (intro h9; simp at h9; omega))))
              have eM9 : M = kM ((F_v_advance (y)).2) := hkM.trans (kG_M kg9).symm
              have eW9 : wl = kWl ((F_v_advance (y)).2) := hkW.trans (kG_W kg9).symm
              have eP9 := (kG_p kg9).1
              have eS9 := (kG_p kg9).2
              have kl1 := kle.1
              have kl2 := kle.2
              refine W.widen (k := kPo x - kPo ((F_v_advance (y)).2)) (n := kPs x - kPs ((F_v_advance (y)).2)) (by omega) (by omega) ?_
              exact ih.2 ((F_v_advance (y)).2) M wl ad (i) hM eM9 eW9 had ⟨by omega, by omega⟩ (rOK_fr (F_v_advance_fr _) (by unfold rSs sMs; decide) (by unfold rAs sMa; decide) oy) (wG_fr (F_v_advance_fr _) (by decide) (by decide) (by decide) g3) (by rw [(F_v_advance_fr _).2 78 (by decide)]; exact r8y) (av.2 (by assumption)) (by omega) (by omega) (by omega) (by omega) (by omega) hres _ _ ls hP hD hS (lv_sub hl [0, 1, 2, 3] rfl)
            · skip
              rw [if_pos c_78] at hres
              refine lv_bipush (v := iI (-9 : Int)) hx hb dX11_inverse_81 (by decide) ?_
              have kg9 : kG (y) ((F_v_advance (y)).2) := (kG_tr (kG_rf _) (kG_of (F_v_advance_fr (y)) (by first | decide | (intro h9; simp at h9; done) | (intro h9; simp at h9; omega)) (by first | decide | (intro h9; simp at h9; done) | (intro h9; simp at h9; omega))))
              have eM9 : M = kM ((F_v_advance (y)).2) := hkM.trans (kG_M kg9).symm
              have eW9 : wl = kWl ((F_v_advance (y)).2) := hkW.trans (kG_W kg9).symm
              have eP9 := (kG_p kg9).1
              have eS9 := (kG_p kg9).2
              have kl1 := kle.1
              have kl2 := kle.2
              have hF2 : (F_t_inverse x a k).2 = (F_v_advance (y)).2 := by
                have h9 := congrArg Prod.snd hres
                exact h9.symm
              refine W.widen (k := kPo x - kPo (F_t_inverse x a k).2) (n := kPs x - kPs (F_t_inverse x a k).2) (by rw [hF2]; omega) (by rw [hF2]; omega) ?_
              exact W.iret (v := iI ((-9 : Int))) hx hb hr (fun t ht hW => ⟨⟨iI ((-9 : Int)), ((F_v_advance (y)).2, ad), rfl, ⟨(by have h9 := congrArg (fun z : Int × KS => iI z.1) hres; exact h9), (by have h9 := congrArg (fun z : Int × KS => z.2) hres; exact h9), had⟩, by rw [ht]; show va_P (dC, dI) vwCl (kWd cI cJ cZ cR (kWl ((F_v_advance (y)).2)) ad (kM ((F_v_advance (y)).2)) ((F_v_advance (y)).2)) H; rw [← eM9, ← eW9]; exact hP, va_K.moved hW.alike hK, by show va_D A (kWd cI cJ cZ cR (kWl ((F_v_advance (y)).2)) ad (kM ((F_v_advance (y)).2)) ((F_v_advance (y)).2)); rw [← eM9, ← eW9]; exact hD⟩, hS.F ht⟩) hS.2.2 dX11_inverse_83
      · intro y M wl ad i hM hkM hkW had kle oy g3 r8y wl9 k0 k1 i0 i1 fu hres H locs ls hP hD hS hl
        have kf9 : kLe y (F_t_inverse x a k).2 := by
          rw [← hres]
          exact (F_t_inverse_sle   (n + 1)).2 _ _ _ _
        have kf1 := kf9.1
        have kf2 := kf9.2
        rw [F_t_inverse_e1] at hres
        have klx1 := kle.1
        have klx2 := kle.2
        refine lv_aload_n hx hb dX11_inverse_84 rfl (lv_at hl 0 rfl) ?_
        refine va_get (D := (dC, dI)) (ci := 11) (v := .ref (ad (77))) (C := RX11) (T := TX11) (N := 17) hx hb hts hinX11 hown hK hP (0) (kg0 (by omega)) rfl 13 (by decide) (hts (.fieldLink RX11 72 "LikeWords" "sum" "LLikeWords$Word;") (by decide +kernel)) (fun _ h9 => h9) rfl dX11_inverse_85 ?_
        refine lv_aload_n hx hb dX11_inverse_88 rfl (lv_at hl 0 rfl) ?_
        refine va_get (D := (dC, dI)) (ci := 11) (v := .ref (ad (73))) (C := RX11) (T := TX11) (N := 17) hx hb hts hinX11 hown hK hP (0) (kg0 (by omega)) rfl 11 (by decide) (hts (.fieldLink RX11 66 "LikeWords" "first" "LLikeWords$Word;") (by decide +kernel)) (fun _ h9 => h9) rfl dX11_inverse_89 ?_
        have hq := ivL_H wl9
        have hFc : ∀ q, va_A (kWd cI cJ cZ cR wl ad M (y)) H.size q → A q := fun q hq => Or.elim hq (fun ⟨k, e, hk⟩ => hD.2 k (q, e) hk) (fun hk => hA q (Nat.le_trans hS.1 hk))
        refine va_callv (va_runV (b := ad (77)) (As := [.ref (ad (73))]) (rest := []) ⟨hx, hb, hml, hown, hts⟩ (c_w_take l dC dI ad cI cJ cZ cR M wl H.size (y) (77) (73)  hM rfl (by omega) rfl (by omega) g3.1.1 (by show _ ≤ ((60 : Nat) : Int); exact g3.1.2)) (cwV 1 hts gX11_inverse_X10_take rfl rfl rfl (by decide +kernel) ⟨Nat.le_of_ble_eq_true rfl, Nat.le_of_ble_eq_true rfl⟩) ⟨fun a U g mk q => by obtain ⟨q0, q1, qP, qK, qD, qN⟩ := q; exact ⟨q0, q1, qP, va_K.moved (u := U) (U := U.calling g mk a) (Vm.Alike.refl U.vm) qK, qD, kNw.same (u := U) (U := U.calling g mk a) rfl qN⟩, va_recv hK hP (ci := 10) (q0 := 77) rfl (kgw rfl (by omega)), fun U hU hW => ⟨rfl, by rw [hU], by rw [hU]; exact hP, va_K.moved hW.alike hK, hD.weaken (fun _ _ _ _ => trivial), kNw.warm hW hNw⟩⟩ rfl rfl hl.1 rfl (lv_room (Nat.le_of_ble_eq_true rfl)) dX11_inverse_92 ⟨(show _ ≤ kPo x - kPo (F_t_inverse x a k).2 by omega), (show _ ≤ kPs x - kPs (F_t_inverse x a k).2 by omega)⟩) hS (fun q _ h => hFc q h) hFc (fun u9 t H1 locs ht hvm hw hB hz1 hk1 hS => ?_)
        obtain ⟨hP1, hK1, hD1⟩ := hB
        rw [ht] at hP1
        rw [hw] at hP1 hD1
        have hD2 := hD1.weaken (B := A) (fun _ q _ h => hFc q.1 h)
        have hP := hP1
        have hD := hD2
        generalize H1 = H at hP hS ⊢
        have gt := take_G (x := y) (w := 77) (q := 73) rfl rfl (by decide) g3 r8y (by show _ ≤ ((60 : Nat) : Int); exact g3.1.2)
        have ft := F_w_take_fr y 77 73
        have ot : rOK (F_w_take (y) 77 73).2 := rOK_w (w := 77) rfl (by decide) ft oy
        have hwt : wH (F_w_take (y) 77 73).2 82 := wH_eq (ft.1 82 1 (by decide)) (ft.2 83 (by decide)) (ft.1 1 2 (by decide)) hq.1
        have hu : (F_w_take (y) 77 73).2.1 82 1 ≤ 30 := by rw [ft.1 82 1 (by decide)]; exact hq.2
        refine lv_aload_n hx hb dX11_inverse_95 rfl (lv_at hl 0 rfl) ?_
        refine lv_aload_n hx hb dX11_inverse_96 rfl (lv_at hl 0 rfl) ?_
        refine va_get (D := (dC, dI)) (ci := 11) (v := .ref (ad (80))) (C := RX11) (T := TX11) (N := 17) hx hb hts hinX11 hown hK hP (0) (kg0 (by omega)) rfl 9 (by decide) (hts (.fieldLink RX11 89 "LikeWords" "walk" "LLikeWords$Walk;") (by decide +kernel)) (fun _ h9 => h9) rfl dX11_inverse_97 ?_
        refine va_get (D := (dC, dI)) (ci := 9) (v := .ref (ad (82))) (C := RX9) (T := TX9) (N := 3) hx hb hts hinX9 hown hK hP (80) (kg80 (by omega)) rfl 2 (by decide) (hts (.fieldLink RX11 254 "LikeWords$Walk" "word" "LLikeWords$Word;") (by decide +kernel)) (fun _ h9 => h9) rfl dX11_inverse_100 ?_
        have kg9 : kG (y) ((F_w_take (y) (77) (73)).2) := (kG_tr (kG_rf _) (kG_of (F_w_take_fr (y) (77) (73)) (by first | decide | (intro h9; simp at h9; done) | (intro h9; simp at h9; omega)) (by first | decide | (intro h9; simp at h9; done) | (intro h9; simp at h9; omega))))
        have eM9 : M = kM ((F_w_take (y) (77) (73)).2) := hkM.trans (kG_M kg9).symm
        have eW9 : wl = kWl ((F_w_take (y) (77) (73)).2) := hkW.trans (kG_W kg9).symm
        have eP9 := (kG_p kg9).1
        have eS9 := (kG_p kg9).2
        have kl1 := kle.1
        have kl2 := kle.2
        have kfn : kLe (F_t_putBehind ((F_w_take (y) (77) (73)).2) (82)).2 (F_t_inverse x a k).2 := by
          rw [← hres]
          by_cases hc9 : ((F_t_putBehind ((F_w_take (y) (77) (73)).2) (82)).1) = (0)
          · rw [if_pos hc9]
            exact (kLe_rf _)
          · rw [if_neg hc9]
            by_cases hc9 : (((F_t_putBehind ((F_w_take (y) (77) (73)).2) (82)).2).1 (77) 1) = (0)
            · rw [if_pos hc9]
              exact (kLe_tr (kLe_rf _) (kLe_G (kG_of (F_w_take_fr ((F_t_putBehind ((F_w_take (y) (77) (73)).2) (82)).2) (7 + 2 * (k).toNat) (82)) (by first | decide | (intro h9; simp at h9; done) | (intro h9; simp at h9; omega)) (by first | decide | (intro h9; simp at h9; done) | (intro h9; simp at h9; omega)))))
            · rw [if_neg hc9]
              exact kLe_tr (kLe_rf _) ((F_t_inverse_sle   _).1 ((F_t_putBehind ((F_w_take (y) (77) (73)).2) (82)).2) (a) (k) ((i) + (1 : Int)))
        have kf1 := kfn.1
        have kf2 := kfn.2
        have kd9 : kLe ((F_w_take (y) (77) (73)).2) (F_t_putBehind ((F_w_take (y) (77) (73)).2) (82)).2 := (F_t_putBehind_le ((F_w_take (y) (77) (73)).2) (82))
        have kd1 := kd9.1
        have kd2 := kd9.2
        have hFc : ∀ q, va_A (kWd cI cJ cZ cR wl ad M ((F_w_take (y) (77) (73)).2)) H.size q → A q := fun q hq => Or.elim hq (fun ⟨k, e, hk⟩ => hD.2 k (q, e) hk) (fun hk => hA q (Nat.le_trans hS.1 hk))
        refine va_calli (va_runV (b := ad (0)) (As := [.ref (ad (82))]) (rest := []) ⟨hx, hb, hml, hown, hts⟩ (d_t_putBehind l dC dI ad cI cJ cZ cR M wl H.size ((F_w_take (y) (77) (73)).2) (82)  hM rfl (by omega) eM9 eW9 ot gt.1 hwt (by show _ ≤ ((30 : Nat) : Int); exact hu) (by decide)) (cwV 1 hts gX11_inverse_X11_putBehind rfl rfl rfl (by decide +kernel) ⟨Nat.le_of_ble_eq_true rfl, Nat.le_of_ble_eq_true rfl⟩) ⟨fun a U g mk q => by obtain ⟨q0, q1, qP, qK, qD, qN⟩ := q; exact ⟨q0, q1, qP, va_K.moved (u := U) (U := U.calling g mk a) (Vm.Alike.refl U.vm) qK, qD, kNw.same (u := U) (U := U.calling g mk a) rfl qN⟩, va_recv hK hP (ci := 11) (q0 := 0) rfl (kg0 (by omega)), fun U hU hW => ⟨rfl, by rw [hU], by rw [hU]; exact hP, va_K.moved hW.alike hK, hD.weaken (fun _ _ _ _ => trivial), kNw.warm hW hNw⟩⟩ rfl rfl hl.1 rfl (lv_room (Nat.le_of_ble_eq_true rfl)) dX11_inverse_103 ⟨(show _ ≤ kPo x - kPo (F_t_inverse x a k).2 by omega), (show _ ≤ kPs x - kPs (F_t_inverse x a k).2 by omega)⟩) hS (fun q _ h => hFc q h) hFc (fun r9 u9 t H1 locs ht hvm hw hB hz1 hk1 hS => ?_)
        obtain ⟨hP1, hK1, hD1⟩ := hB
        rw [ht] at hP1
        obtain ⟨z9, ad⟩ := u9
        obtain ⟨hw1, hw2, hw3⟩ := hw
        rw [hw1]
        have hw2 : z9 = (F_t_putBehind ((F_w_take (y) (77) (73)).2) (82)).2 := hw2
        subst hw2
        have hw3 := fun c (hc : c < 87) => (show ad c = _ from hw3 c hc)
        have had : ∀ c, c < 87 → ad c = ao c := fun c hc => (hw3 c hc).trans (had c hc)
        have hl : lv_has ls 4 [(0, .ref (ad (0))), (1, .int (iI (a))), (2, .int (iI (k))), (3, .int (iI (i)))] := by
          rw [hw3 (0) (by omega)]
          exact hl
        have hP1 : va_P (dC, dI) vwCl (kWd cI cJ cZ cR (kWl (F_t_putBehind ((F_w_take (y) (77) (73)).2) (82)).2) ad (kM (F_t_putBehind ((F_w_take (y) (77) (73)).2) (82)).2) (F_t_putBehind ((F_w_take (y) (77) (73)).2) (82)).2) H1 := hP1
        have hD1 : va_D A (kWd cI cJ cZ cR (kWl (F_t_putBehind ((F_w_take (y) (77) (73)).2) (82)).2) ad (kM (F_t_putBehind ((F_w_take (y) (77) (73)).2) (82)).2) (F_t_putBehind ((F_w_take (y) (77) (73)).2) (82)).2) := hD1.weaken (B := A) (fun _ q _ h => hFc q.1 h)
        have kle : kLe x (F_t_putBehind ((F_w_take (y) (77) (73)).2) (82)).2 := ⟨by omega, by omega⟩
        refine W.widen (k := kPo x - kPo (F_t_putBehind ((F_w_take (y) (77) (73)).2) (82)).2) (n := kPs x - kPs (F_t_putBehind ((F_w_take (y) (77) (73)).2) (82)).2) (by omega) (by omega) ?_
        obtain ⟨M, hkM⟩ : ∃ M9, M9 = kM (F_t_putBehind ((F_w_take (y) (77) (73)).2) (82)).2 := ⟨_, rfl⟩
        obtain ⟨wl, hkW⟩ : ∃ W9, W9 = kWl (F_t_putBehind ((F_w_take (y) (77) (73)).2) (82)).2 := ⟨_, rfl⟩
        rw [← hkM, ← hkW] at hP1 hD1
        have hM : 87 ≤ M := by rw [hkM]; exact kM_ge _
        have hP := hP1
        have hD := hD1
        generalize H1 = H at hP hS ⊢
        have px := putBehind_H ot gt.1 (w1 := 82) rfl (by decide) hwt
        have fp := F_t_putBehind_fr (F_w_take (y) 77 73).2 82
        have u7 := px.2.1.1
        refine wi_if_ne (tgt := 112) hx hb (kR01 px.2.2.1) dX11_inverse_106 (by decide) (fun c_106 => ?_) (fun c_106 => ?_)
        · skip
          rw [if_neg c_106] at hres
          refine lv_aload_n hx hb dX11_inverse_112 rfl (lv_at hl 0 rfl) ?_
          refine va_get (D := (dC, dI)) (ci := 11) (v := .ref (ad (77))) (C := RX11) (T := TX11) (N := 17) hx hb hts hinX11 hown hK hP (0) (kg0 (by omega)) rfl 13 (by decide) (hts (.fieldLink RX11 72 "LikeWords" "sum" "LLikeWords$Word;") (by decide +kernel)) (fun _ h9 => h9) rfl dX11_inverse_113 ?_
          refine va_get (D := (dC, dI)) (ci := 10) (v := .int (iI (((F_t_putBehind ((F_w_take (y) (77) (73)).2) (82)).2).1 (77) 1))) (C := RX10) (T := TX10) (N := 2) hx hb hts hinX10 hown hK hP (77) (kgw rfl (by omega)) rfl 1 (by decide) (hts (.fieldLink RX11 123 "LikeWords$Word" "used" "I") (by decide +kernel)) (fun _ h9 => h9) rfl dX11_inverse_116 ?_
          refine wi_if_ne (tgt := 149) hx hb (by unfold iR; omega) dX11_inverse_119 (by decide) (fun c_119 => ?_) (fun c_119 => ?_)
          · skip
            rw [if_neg c_119] at hres
            have gy : gfr [(77, 1), (70, 4), (70, 5), (64, 8)] [78, 71, 72] y (F_t_putBehind (F_w_take (y) 77 73).2 82).2 := gm_tr (gm_mono (by decide) (by decide) (gm_of ft)) fp
            refine lv_iinc (v := iI ((i) + (1 : Int))) (lv' := [(3, .int (iI ((i) + (1 : Int)))), (0, .ref (ad (0))), (1, .int (iI (a))), (2, .int (iI (k)))]) hx hb dX11_inverse_149 hl (k := 3) rfl (iI_add _ _) (by decide) rfl (fun ls hl => ?_)
            refine lv_goto (tgt := 60) hx hb dX11_inverse_152 (by decide) ?_
            have kg9 : kG ((F_t_putBehind ((F_w_take (y) (77) (73)).2) (82)).2) ((F_t_putBehind ((F_w_take (y) (77) (73)).2) (82)).2) := (kG_rf _)
            have eM9 : M = kM ((F_t_putBehind ((F_w_take (y) (77) (73)).2) (82)).2) := hkM.trans (kG_M kg9).symm
            have eW9 : wl = kWl ((F_t_putBehind ((F_w_take (y) (77) (73)).2) (82)).2) := hkW.trans (kG_W kg9).symm
            have eP9 := (kG_p kg9).1
            have eS9 := (kG_p kg9).2
            have kl1 := kle.1
            have kl2 := kle.2
            refine W.widen (k := kPo x - kPo ((F_t_putBehind ((F_w_take (y) (77) (73)).2) (82)).2)) (n := kPs x - kPs ((F_t_putBehind ((F_w_take (y) (77) (73)).2) (82)).2)) (by omega) (by omega) ?_
            exact ih.1 ((F_t_putBehind ((F_w_take (y) (77) (73)).2) (82)).2) M wl ad ((i) + (1 : Int)) hM eM9 eW9 had ⟨by omega, by omega⟩ (px.1) (wG_g gy (by decide) (by decide) (by decide) (by decide) g3) (px.2.1.2.1) (ivK_s gy (by decide) (by decide) (by decide) (by decide) (by decide) (by decide) i0 wl9) (by omega) (by omega) (by omega) (by omega) (by omega) hres _ _ ls hP hD hS (lv_sub hl [1, 2, 3, 0] rfl)
          · skip
            rw [if_pos c_119] at hres
            have hp : wH (F_t_putBehind (F_w_take (y) 77 73).2 82).2 82 := wH_eq (fp.1 82 1 (by decide) (by decide)) (fp.2 83 (by decide) (by decide)) (fp.1 1 2 (by decide) (by decide)) hwt
            have hpu : (F_t_putBehind (F_w_take (y) 77 73).2 82).2.1 82 1 ≤ 30 := by rw [fp.1 82 1 (by decide) (by decide)]; exact hu
            refine lv_aload_n hx hb dX11_inverse_122 rfl (lv_at hl 0 rfl) ?_
            refine va_get (D := (dC, dI)) (ci := 11) (v := .ref (ad (6))) (C := RX11) (T := TX11) (N := 17) hx hb hts hinX11 hown hK hP (0) (kg0 (by omega)) rfl 2 (by decide) (hts (.fieldLink RX11 25 "LikeWords" "slots" "[LLikeWords$Word;") (by decide +kernel)) (fun _ h9 => h9) rfl dX11_inverse_123 ?_
            refine lv_iload_n hx hb dX11_inverse_126 rfl (lv_at hl 2 rfl) ?_
            refine va_aldq (C := "LikeWords$Word") (n := 8) (f := fun j => some (ad (7 + 2 * j))) hx hb hK hP 6 3 (kget (by omega)) rfl (iI_in (z := k) (by omega) (by omega) (by decide)) dX11_inverse_127 ?_
            rw [iI_clamp ⟨by omega, by omega⟩]
            refine W.eq (g2 := F0 m 128 ls [.ref (ad (7 + 2 * (k).toNat))]) rfl ?_
            refine lv_aload_n hx hb dX11_inverse_128 rfl (lv_at hl 0 rfl) ?_
            refine va_get (D := (dC, dI)) (ci := 11) (v := .ref (ad (80))) (C := RX11) (T := TX11) (N := 17) hx hb hts hinX11 hown hK hP (0) (kg0 (by omega)) rfl 9 (by decide) (hts (.fieldLink RX11 89 "LikeWords" "walk" "LLikeWords$Walk;") (by decide +kernel)) (fun _ h9 => h9) rfl dX11_inverse_129 ?_
            refine va_get (D := (dC, dI)) (ci := 9) (v := .ref (ad (82))) (C := RX9) (T := TX9) (N := 3) hx hb hts hinX9 hown hK hP (80) (kg80 (by omega)) rfl 2 (by decide) (hts (.fieldLink RX11 254 "LikeWords$Walk" "word" "LLikeWords$Word;") (by decide +kernel)) (fun _ h9 => h9) rfl dX11_inverse_132 ?_
            have hFc : ∀ q, va_A (kWd cI cJ cZ cR wl ad M ((F_t_putBehind ((F_w_take (y) (77) (73)).2) (82)).2)) H.size q → A q := fun q hq => Or.elim hq (fun ⟨k, e, hk⟩ => hD.2 k (q, e) hk) (fun hk => hA q (Nat.le_trans hS.1 hk))
            refine va_callv (va_runV (b := ad (7 + 2 * (k).toNat)) (As := [.ref (ad (82))]) (rest := []) ⟨hx, hb, hml, hown, hts⟩ (c_w_take l dC dI ad cI cJ cZ cR M wl H.size ((F_t_putBehind ((F_w_take (y) (77) (73)).2) (82)).2) (7 + 2 * (k).toNat) (82)  hM (kW_slot (by omega) (by omega)) (by omega) rfl (by omega) hp.1.1 (by show _ ≤ ((30 : Nat) : Int); exact hpu)) (cwV 1 hts gX11_inverse_X10_take rfl rfl rfl (by decide +kernel) ⟨Nat.le_of_ble_eq_true rfl, Nat.le_of_ble_eq_true rfl⟩) ⟨fun a U g mk q => by obtain ⟨q0, q1, qP, qK, qD, qN⟩ := q; exact ⟨q0, q1, qP, va_K.moved (u := U) (U := U.calling g mk a) (Vm.Alike.refl U.vm) qK, qD, kNw.same (u := U) (U := U.calling g mk a) rfl qN⟩, va_recv hK hP (ci := 10) (q0 := 7 + 2 * (k).toNat) rfl (kgw (kW_slot (by omega) (by omega)) (by omega)), fun U hU hW => ⟨rfl, by rw [hU], by rw [hU]; exact hP, va_K.moved hW.alike hK, hD.weaken (fun _ _ _ _ => trivial), kNw.warm hW hNw⟩⟩ rfl rfl hl.1 rfl (lv_room (Nat.le_of_ble_eq_true rfl)) dX11_inverse_135 ⟨(show _ ≤ kPo x - kPo (F_t_inverse x a k).2 by omega), (show _ ≤ kPs x - kPs (F_t_inverse x a k).2 by omega)⟩) hS (fun q _ h => hFc q h) hFc (fun u9 t H1 locs ht hvm hw hB hz1 hk1 hS => ?_)
            obtain ⟨hP1, hK1, hD1⟩ := hB
            rw [ht] at hP1
            rw [hw] at hP1 hD1
            have hD2 := hD1.weaken (B := A) (fun _ q _ h => hFc q.1 h)
            have hP := hP1
            have hD := hD2
            generalize H1 = H at hP hS ⊢
            refine lv_aload_n hx hb dX11_inverse_138 rfl (lv_at hl 0 rfl) ?_
            refine va_get (D := (dC, dI)) (ci := 11) (v := .ref (ad (80))) (C := RX11) (T := TX11) (N := 17) hx hb hts hinX11 hown hK hP (0) (kg0 (by omega)) rfl 9 (by decide) (hts (.fieldLink RX11 89 "LikeWords" "walk" "LLikeWords$Walk;") (by decide +kernel)) (fun _ h9 => h9) rfl dX11_inverse_139 ?_
            refine va_get (D := (dC, dI)) (ci := 9) (v := .ref (ad (82))) (C := RX9) (T := TX9) (N := 3) hx hb hts hinX9 hown hK hP (80) (kg80 (by omega)) rfl 2 (by decide) (hts (.fieldLink RX11 254 "LikeWords$Walk" "word" "LLikeWords$Word;") (by decide +kernel)) (fun _ h9 => h9) rfl dX11_inverse_142 ?_
            refine va_get (D := (dC, dI)) (ci := 10) (v := .int (iI (((F_w_take ((F_t_putBehind ((F_w_take (y) (77) (73)).2) (82)).2) (7 + 2 * (k).toNat) (82)).2).1 (82) 1))) (C := RX10) (T := TX10) (N := 2) hx hb hts hinX10 hown hK hP (82) (kgw rfl (by omega)) rfl 1 (by decide) (hts (.fieldLink RX11 123 "LikeWords$Word" "used" "I") (by decide +kernel)) (fun _ h9 => h9) rfl dX11_inverse_145 ?_
            have kg9 : kG ((F_t_putBehind ((F_w_take (y) (77) (73)).2) (82)).2) ((F_w_take ((F_t_putBehind ((F_w_take (y) (77) (73)).2) (82)).2) (7 + 2 * (k).toNat) (82)).2) := (kG_tr (kG_rf _) (kG_of (F_w_take_fr ((F_t_putBehind ((F_w_take (y) (77) (73)).2) (82)).2) (7 + 2 * (k).toNat) (82)) (by first | decide | (intro h9; simp at h9; done) | (intro h9; simp at h9; omega)) (by first | decide | (intro h9; simp at h9; done) | (intro h9; simp at h9; omega))))
            have eM9 : M = kM ((F_w_take ((F_t_putBehind ((F_w_take (y) (77) (73)).2) (82)).2) (7 + 2 * (k).toNat) (82)).2) := hkM.trans (kG_M kg9).symm
            have eW9 : wl = kWl ((F_w_take ((F_t_putBehind ((F_w_take (y) (77) (73)).2) (82)).2) (7 + 2 * (k).toNat) (82)).2) := hkW.trans (kG_W kg9).symm
            have eP9 := (kG_p kg9).1
            have eS9 := (kG_p kg9).2
            have kl1 := kle.1
            have kl2 := kle.2
            have hF2 : (F_t_inverse x a k).2 = (F_w_take ((F_t_putBehind ((F_w_take (y) (77) (73)).2) (82)).2) (7 + 2 * (k).toNat) (82)).2 := by
              have h9 := congrArg Prod.snd hres
              exact h9.symm
            refine W.widen (k := kPo x - kPo (F_t_inverse x a k).2) (n := kPs x - kPs (F_t_inverse x a k).2) (by rw [hF2]; omega) (by rw [hF2]; omega) ?_
            exact W.iret (v := iI (((F_w_take ((F_t_putBehind ((F_w_take (y) (77) (73)).2) (82)).2) (7 + 2 * (k).toNat) (82)).2).1 (82) 1)) hx hb hr (fun t ht hW => ⟨⟨iI (((F_w_take ((F_t_putBehind ((F_w_take (y) (77) (73)).2) (82)).2) (7 + 2 * (k).toNat) (82)).2).1 (82) 1), ((F_w_take ((F_t_putBehind ((F_w_take (y) (77) (73)).2) (82)).2) (7 + 2 * (k).toNat) (82)).2, ad), rfl, ⟨(by have h9 := congrArg (fun z : Int × KS => iI z.1) hres; exact h9), (by have h9 := congrArg (fun z : Int × KS => z.2) hres; exact h9), had⟩, by rw [ht]; show va_P (dC, dI) vwCl (kWd cI cJ cZ cR (kWl ((F_w_take ((F_t_putBehind ((F_w_take (y) (77) (73)).2) (82)).2) (7 + 2 * (k).toNat) (82)).2)) ad (kM ((F_w_take ((F_t_putBehind ((F_w_take (y) (77) (73)).2) (82)).2) (7 + 2 * (k).toNat) (82)).2)) ((F_w_take ((F_t_putBehind ((F_w_take (y) (77) (73)).2) (82)).2) (7 + 2 * (k).toNat) (82)).2)) H; rw [← eM9, ← eW9]; exact hP, va_K.moved hW.alike hK, by show va_D A (kWd cI cJ cZ cR (kWl ((F_w_take ((F_t_putBehind ((F_w_take (y) (77) (73)).2) (82)).2) (7 + 2 * (k).toNat) (82)).2)) ad (kM ((F_w_take ((F_t_putBehind ((F_w_take (y) (77) (73)).2) (82)).2) (7 + 2 * (k).toNat) (82)).2)) ((F_w_take ((F_t_putBehind ((F_w_take (y) (77) (73)).2) (82)).2) (7 + 2 * (k).toNat) (82)).2)); rw [← eM9, ← eW9]; exact hD⟩, hS.F ht⟩) hS.2.2 dX11_inverse_148
        · skip
          rw [if_pos c_106] at hres
          refine lv_bipush (v := iI (-4 : Int)) hx hb dX11_inverse_109 (by decide) ?_
          have kg9 : kG ((F_t_putBehind ((F_w_take (y) (77) (73)).2) (82)).2) ((F_t_putBehind ((F_w_take (y) (77) (73)).2) (82)).2) := (kG_rf _)
          have eM9 : M = kM ((F_t_putBehind ((F_w_take (y) (77) (73)).2) (82)).2) := hkM.trans (kG_M kg9).symm
          have eW9 : wl = kWl ((F_t_putBehind ((F_w_take (y) (77) (73)).2) (82)).2) := hkW.trans (kG_W kg9).symm
          have eP9 := (kG_p kg9).1
          have eS9 := (kG_p kg9).2
          have kl1 := kle.1
          have kl2 := kle.2
          have hF2 : (F_t_inverse x a k).2 = (F_t_putBehind ((F_w_take (y) (77) (73)).2) (82)).2 := by
            have h9 := congrArg Prod.snd hres
            exact h9.symm
          refine W.widen (k := kPo x - kPo (F_t_inverse x a k).2) (n := kPs x - kPs (F_t_inverse x a k).2) (by rw [hF2]; omega) (by rw [hF2]; omega) ?_
          exact W.iret (v := iI ((-4 : Int))) hx hb hr (fun t ht hW => ⟨⟨iI ((-4 : Int)), ((F_t_putBehind ((F_w_take (y) (77) (73)).2) (82)).2, ad), rfl, ⟨(by have h9 := congrArg (fun z : Int × KS => iI z.1) hres; exact h9), (by have h9 := congrArg (fun z : Int × KS => z.2) hres; exact h9), had⟩, by rw [ht]; show va_P (dC, dI) vwCl (kWd cI cJ cZ cR (kWl ((F_t_putBehind ((F_w_take (y) (77) (73)).2) (82)).2)) ad (kM ((F_t_putBehind ((F_w_take (y) (77) (73)).2) (82)).2)) ((F_t_putBehind ((F_w_take (y) (77) (73)).2) (82)).2)) H; rw [← eM9, ← eW9]; exact hP, va_K.moved hW.alike hK, by show va_D A (kWd cI cJ cZ cR (kWl ((F_t_putBehind ((F_w_take (y) (77) (73)).2) (82)).2)) ad (kM ((F_t_putBehind ((F_w_take (y) (77) (73)).2) (82)).2)) ((F_t_putBehind ((F_w_take (y) (77) (73)).2) (82)).2)); rw [← eM9, ← eW9]; exact hD⟩, hS.F ht⟩) hS.2.2 dX11_inverse_111
  have key : ∀ (M wl : Nat) (ad : Nat → Nat) (H : Heap) (locs : List Loc) (ls : Array Slot), 87 ≤ M → M = kM x → wl = kWl x → (∀ c, c < 87 → ad c = ao c) → va_P (dC, dI) vwCl (kWd cI cJ cZ cR wl ad M (x)) H → va_D A (kWd cI cJ cZ cR wl ad M (x)) → va_S A s.heap H locs → lv_has ls 4 [(0, .ref (ad (0))), (1, .int (iI (a))), (2, .int (iI (k)))] → W p l e (headSpec wsX11_inverse ({ frames := 6, cells := kPo x - kPo (F_t_inverse x a k).2, slots := kPs x - kPs (F_t_inverse x a k).2, locals := 153 })).room s m ([.ref (ao 0), .int (iI a), .int (iI k)] : List Value).toArray below meth c H locs 0 0 (MQ below (va_Qi (fun (r : Int32) (u : KS × (Nat → Nat)) => r = iI (F_t_inverse x a k).1 ∧ u.1 = (F_t_inverse x a k).2 ∧ (∀ c, c < 87 → u.2 c = ao c)) (fun u t => kAt dC dI u.2 cI cJ cZ cR (kM u.1) (kWl u.1) (A) u.1 t) (A)) ([.ref (ao 0), .int (iI a), .int (iI k)] : List Value).toArray s (kPo x - kPo (F_t_inverse x a k).2) (kPs x - kPs (F_t_inverse x a k).2) A) (F0 m 0 ls []) := by
    intro M wl ad H locs ls hM hkM hkW had hP hD hS hl
    have kle : kLe x x := kLe_rf x
    have kf9 := F_t_inverse_le  x a k
    have kf1 := kf9.1
    have kf2 := kf9.2
    have hres : (if ((F_t_isSlot (x) (a)).1) = (0) then ((-1 : Int), x) else (if ((F_t_isSlot (x) (k)).1) = (0) then ((-1 : Int), x) else (if ((F_t_isProved (x)).1) = (0) then ((-3 : Int), x) else (if ((F_r_run (x) (7 + 2 * (a).toNat) (73)).1) = (0) then ((-4 : Int), (F_r_run (x) (7 + 2 * (a).toNat) (73)).2) else F_t_inverse_s 5000 0 ((F_v_begin ((F_r_run (x) (7 + 2 * (a).toNat) (73)).2)).2) (a) (k) ((0 : Int)))))) = F_t_inverse x a k := rfl
    refine lv_aload_n hx hb dX11_inverse_0 rfl (lv_at hl 0 rfl) ?_
    refine lv_iload_n hx hb dX11_inverse_1 rfl (lv_at hl 1 rfl) ?_
    have hFc : ∀ q, va_A (kWd cI cJ cZ cR wl ad M (x)) H.size q → A q := fun q hq => Or.elim hq (fun ⟨k, e, hk⟩ => hD.2 k (q, e) hk) (fun hk => hA q (Nat.le_trans hS.1 hk))
    refine va_calli (va_runV (b := ad (0)) (As := [.int (iI (a))]) (rest := []) ⟨hx, hb, hml, hown, hts⟩ (c_t_isSlot l dC dI ad cI cJ cZ cR M wl H.size (x)  (a) hM ra) (cwV 1 hts gX11_inverse_X11_isSlot rfl rfl rfl (by decide +kernel) ⟨Nat.le_of_ble_eq_true rfl, Nat.le_of_ble_eq_true rfl⟩) ⟨fun a U g mk q => by obtain ⟨q0, q1, qP, qK, qD, qN⟩ := q; exact ⟨q0, q1, qP, va_K.moved (u := U) (U := U.calling g mk a) (Vm.Alike.refl U.vm) qK, qD, kNw.same (u := U) (U := U.calling g mk a) rfl qN⟩, va_recv hK hP (ci := 11) (q0 := 0) rfl (kg0 (by omega)), fun U hU hW => ⟨rfl, by rw [hU], by rw [hU]; exact hP, va_K.moved hW.alike hK, hD.weaken (fun _ _ _ _ => trivial), kNw.warm hW hNw⟩⟩ rfl rfl hl.1 rfl (lv_room (Nat.le_of_ble_eq_true rfl)) dX11_inverse_2 ⟨(show _ ≤ kPo x - kPo (F_t_inverse x a k).2 by omega), (show _ ≤ kPs x - kPs (F_t_inverse x a k).2 by omega)⟩) hS (fun q _ h => hFc q h) hFc (fun r9 u9 t H1 locs ht hvm hw hB hz1 hk1 hS => ?_)
    obtain ⟨hP1, hK1, hD1⟩ := hB
    rw [ht] at hP1
    obtain ⟨hw1, hw2⟩ := hw
    rw [hw2] at hP1 hD1
    rw [hw1]
    rw [F_t_isSlot_2] at hP1 hD1
    have hD2 := hD1.weaken (B := A) (fun _ q _ h => hFc q.1 h)
    have hP := hP1
    have hD := hD2
    generalize H1 = H at hP hS ⊢
    refine wi_if_eq (tgt := 16) hx hb (kR01 (F_t_isSlot_01 _ _)) dX11_inverse_5 (by decide) (fun c_5 => ?_) (fun c_5 => ?_)
    · skip
      rw [if_pos c_5] at hres
      refine lv_iconst (v := iI (-1 : Int)) hx hb dX11_inverse_16 (by decide) ?_
      have kg9 : kG (x) (x) := (kG_rf _)
      have eM9 : M = kM (x) := hkM.trans (kG_M kg9).symm
      have eW9 : wl = kWl (x) := hkW.trans (kG_W kg9).symm
      have eP9 := (kG_p kg9).1
      have eS9 := (kG_p kg9).2
      have kl1 := kle.1
      have kl2 := kle.2
      have hF2 : (F_t_inverse x a k).2 = x := by
        have h9 := congrArg Prod.snd hres
        exact h9.symm
      refine W.widen (k := kPo x - kPo (F_t_inverse x a k).2) (n := kPs x - kPs (F_t_inverse x a k).2) (by rw [hF2]; omega) (by rw [hF2]; omega) ?_
      exact W.iret (v := iI ((-1 : Int))) hx hb hr (fun t ht hW => ⟨⟨iI ((-1 : Int)), (x, ad), rfl, ⟨(by have h9 := congrArg (fun z : Int × KS => iI z.1) hres; exact h9), (by have h9 := congrArg (fun z : Int × KS => z.2) hres; exact h9), had⟩, by rw [ht]; show va_P (dC, dI) vwCl (kWd cI cJ cZ cR (kWl (x)) ad (kM (x)) (x)) H; rw [← eM9, ← eW9]; exact hP, va_K.moved hW.alike hK, by show va_D A (kWd cI cJ cZ cR (kWl (x)) ad (kM (x)) (x)); rw [← eM9, ← eW9]; exact hD⟩, hS.F ht⟩) hS.2.2 dX11_inverse_17
    · skip
      rw [if_neg c_5] at hres
      refine lv_aload_n hx hb dX11_inverse_8 rfl (lv_at hl 0 rfl) ?_
      refine lv_iload_n hx hb dX11_inverse_9 rfl (lv_at hl 2 rfl) ?_
      have hFc : ∀ q, va_A (kWd cI cJ cZ cR wl ad M (x)) H.size q → A q := fun q hq => Or.elim hq (fun ⟨k, e, hk⟩ => hD.2 k (q, e) hk) (fun hk => hA q (Nat.le_trans hS.1 hk))
      refine va_calli (va_runV (b := ad (0)) (As := [.int (iI (k))]) (rest := []) ⟨hx, hb, hml, hown, hts⟩ (c_t_isSlot l dC dI ad cI cJ cZ cR M wl H.size (x)  (k) hM rk) (cwV 1 hts gX11_inverse_X11_isSlot rfl rfl rfl (by decide +kernel) ⟨Nat.le_of_ble_eq_true rfl, Nat.le_of_ble_eq_true rfl⟩) ⟨fun a U g mk q => by obtain ⟨q0, q1, qP, qK, qD, qN⟩ := q; exact ⟨q0, q1, qP, va_K.moved (u := U) (U := U.calling g mk a) (Vm.Alike.refl U.vm) qK, qD, kNw.same (u := U) (U := U.calling g mk a) rfl qN⟩, va_recv hK hP (ci := 11) (q0 := 0) rfl (kg0 (by omega)), fun U hU hW => ⟨rfl, by rw [hU], by rw [hU]; exact hP, va_K.moved hW.alike hK, hD.weaken (fun _ _ _ _ => trivial), kNw.warm hW hNw⟩⟩ rfl rfl hl.1 rfl (lv_room (Nat.le_of_ble_eq_true rfl)) dX11_inverse_10 ⟨(show _ ≤ kPo x - kPo (F_t_inverse x a k).2 by omega), (show _ ≤ kPs x - kPs (F_t_inverse x a k).2 by omega)⟩) hS (fun q _ h => hFc q h) hFc (fun r9 u9 t H1 locs ht hvm hw hB hz1 hk1 hS => ?_)
      obtain ⟨hP1, hK1, hD1⟩ := hB
      rw [ht] at hP1
      obtain ⟨hw1, hw2⟩ := hw
      rw [hw2] at hP1 hD1
      rw [hw1]
      rw [F_t_isSlot_2] at hP1 hD1
      have hD2 := hD1.weaken (B := A) (fun _ q _ h => hFc q.1 h)
      have hP := hP1
      have hD := hD2
      generalize H1 = H at hP hS ⊢
      refine wi_if_ne (tgt := 18) hx hb (kR01 (F_t_isSlot_01 _ _)) dX11_inverse_13 (by decide) (fun c_13 => ?_) (fun c_13 => ?_)
      · skip
        rw [if_neg c_13] at hres
        obtain ⟨a0, a1⟩ := F_t_isSlot_1 c_5
        obtain ⟨k0, k1⟩ := F_t_isSlot_1 c_13
        refine lv_aload_n hx hb dX11_inverse_18 rfl (lv_at hl 0 rfl) ?_
        have hFc : ∀ q, va_A (kWd cI cJ cZ cR wl ad M (x)) H.size q → A q := fun q hq => Or.elim hq (fun ⟨k, e, hk⟩ => hD.2 k (q, e) hk) (fun hk => hA q (Nat.le_trans hS.1 hk))
        refine va_calli (va_runV (b := ad (0)) (As := []) (rest := []) ⟨hx, hb, hml, hown, hts⟩ (c_t_isProved l dC dI ad cI cJ cZ cR M wl H.size (x)   hM bp.1.1 bp.1.2 bp.2.1) (cwV 0 hts gX11_inverse_X11_isProved rfl rfl rfl (by decide +kernel) ⟨Nat.le_of_ble_eq_true rfl, Nat.le_of_ble_eq_true rfl⟩) ⟨fun a U g mk q => by obtain ⟨q0, q1, qP, qK, qD, qN⟩ := q; exact ⟨q0, q1, qP, va_K.moved (u := U) (U := U.calling g mk a) (Vm.Alike.refl U.vm) qK, qD, kNw.same (u := U) (U := U.calling g mk a) rfl qN⟩, va_recv hK hP (ci := 11) (q0 := 0) rfl (kg0 (by omega)), fun U hU hW => ⟨rfl, by rw [hU], by rw [hU]; exact hP, va_K.moved hW.alike hK, hD.weaken (fun _ _ _ _ => trivial), kNw.warm hW hNw⟩⟩ rfl rfl hl.1 rfl (lv_room (Nat.le_of_ble_eq_true rfl)) dX11_inverse_19 ⟨(show _ ≤ kPo x - kPo (F_t_inverse x a k).2 by omega), (show _ ≤ kPs x - kPs (F_t_inverse x a k).2 by omega)⟩) hS (fun q _ h => hFc q h) hFc (fun r9 u9 t H1 locs ht hvm hw hB hz1 hk1 hS => ?_)
        obtain ⟨hP1, hK1, hD1⟩ := hB
        rw [ht] at hP1
        obtain ⟨hw1, hw2⟩ := hw
        rw [hw2] at hP1 hD1
        rw [hw1]
        rw [F_t_isProved_2] at hP1 hD1
        have hD2 := hD1.weaken (B := A) (fun _ q _ h => hFc q.1 h)
        have hP := hP1
        have hD := hD2
        generalize H1 = H at hP hS ⊢
        refine wi_if_ne (tgt := 28) hx hb (kR01 (F_t_isProved_01 _)) dX11_inverse_22 (by decide) (fun c_22 => ?_) (fun c_22 => ?_)
        · skip
          rw [if_neg c_22] at hres
          refine lv_aload_n hx hb dX11_inverse_28 rfl (lv_at hl 0 rfl) ?_
          refine va_get (D := (dC, dI)) (ci := 11) (v := .ref (ad (70))) (C := RX11) (T := TX11) (N := 17) hx hb hts hinX11 hown hK hP (0) (kg0 (by omega)) rfl 7 (by decide) (hts (.fieldLink RX11 62 "LikeWords" "rewriter" "LLikeWords$Rewriter;") (by decide +kernel)) (fun _ h9 => h9) rfl dX11_inverse_29 ?_
          refine lv_aload_n hx hb dX11_inverse_32 rfl (lv_at hl 0 rfl) ?_
          refine va_get (D := (dC, dI)) (ci := 11) (v := .ref (ad (6))) (C := RX11) (T := TX11) (N := 17) hx hb hts hinX11 hown hK hP (0) (kg0 (by omega)) rfl 2 (by decide) (hts (.fieldLink RX11 25 "LikeWords" "slots" "[LLikeWords$Word;") (by decide +kernel)) (fun _ h9 => h9) rfl dX11_inverse_33 ?_
          refine lv_iload_n hx hb dX11_inverse_36 rfl (lv_at hl 1 rfl) ?_
          refine va_aldq (C := "LikeWords$Word") (n := 8) (f := fun j => some (ad (7 + 2 * j))) hx hb hK hP 6 3 (kget (by omega)) rfl (iI_in (z := a) (by omega) (by omega) (by decide)) dX11_inverse_37 ?_
          rw [iI_clamp ⟨by omega, by omega⟩]
          refine W.eq (g2 := F0 m 38 ls [.ref (ad (7 + 2 * (a).toNat)), .ref (ad (70))]) rfl ?_
          refine lv_aload_n hx hb dX11_inverse_38 rfl (lv_at hl 0 rfl) ?_
          refine va_get (D := (dC, dI)) (ci := 11) (v := .ref (ad (73))) (C := RX11) (T := TX11) (N := 17) hx hb hts hinX11 hown hK hP (0) (kg0 (by omega)) rfl 11 (by decide) (hts (.fieldLink RX11 66 "LikeWords" "first" "LLikeWords$Word;") (by decide +kernel)) (fun _ h9 => h9) rfl dX11_inverse_39 ?_
          have ok9 : rOK x := bp.2.2.2.2.1 (F_t_isProved_1 bp.2.1 c_22)
          have kg9 : kG (x) (x) := (kG_rf _)
          have eM9 : M = kM (x) := hkM.trans (kG_M kg9).symm
          have eW9 : wl = kWl (x) := hkW.trans (kG_W kg9).symm
          have eP9 := (kG_p kg9).1
          have eS9 := (kG_p kg9).2
          have kl1 := kle.1
          have kl2 := kle.2
          have kfn : kLe (F_r_run (x) (7 + 2 * (a).toNat) (73)).2 (F_t_inverse x a k).2 := by
            rw [← hres]
            by_cases hc9 : ((F_r_run (x) (7 + 2 * (a).toNat) (73)).1) = (0)
            · rw [if_pos hc9]
              exact (kLe_rf _)
            · rw [if_neg hc9]
              exact kLe_tr (kLe_tr (kLe_rf _) (kLe_G (kG_of (F_v_begin_fr ((F_r_run (x) (7 + 2 * (a).toNat) (73)).2)) (by first | decide | (intro h9; simp at h9; done) | (intro h9; simp at h9; omega)) (by first | decide | (intro h9; simp at h9; done) | (intro h9; simp at h9; omega))))) ((F_t_inverse_sle   _).1 ((F_v_begin ((F_r_run (x) (7 + 2 * (a).toNat) (73)).2)).2) (a) (k) ((0 : Int)))
          have kf1 := kfn.1
          have kf2 := kfn.2
          have kd9 : kLe (x) (F_r_run (x) (7 + 2 * (a).toNat) (73)).2 := (F_r_run_le rfl (by omega) (x) (7 + 2 * (a).toNat))
          have kd1 := kd9.1
          have kd2 := kd9.2
          have hFc : ∀ q, va_A (kWd cI cJ cZ cR wl ad M (x)) H.size q → A q := fun q hq => Or.elim hq (fun ⟨k, e, hk⟩ => hD.2 k (q, e) hk) (fun hk => hA q (Nat.le_trans hS.1 hk))
          refine va_calli (va_runV (b := ad (70)) (As := [.ref (ad (7 + 2 * (a).toNat)), .ref (ad (73))]) (rest := []) ⟨hx, hb, hml, hown, hts⟩ (c_r_run l dC dI ad cI cJ cZ cR M wl H.size (x) (7 + 2 * (a).toNat) (73)  hM (kW_slot (by omega) (by omega)) (by omega) rfl (by omega) eM9 eW9 ok9 (su a a0 a1) (kL_slot a0 a1) rfl r3) (cwV 2 hts gX11_inverse_X6_run rfl rfl rfl (by decide +kernel) ⟨Nat.le_of_ble_eq_true rfl, Nat.le_of_ble_eq_true rfl⟩) ⟨fun a U g mk q => by obtain ⟨q0, q1, qP, qK, qD, qN⟩ := q; exact ⟨q0, q1, qP, va_K.moved (u := U) (U := U.calling g mk a) (Vm.Alike.refl U.vm) qK, qD, kNw.same (u := U) (U := U.calling g mk a) rfl qN⟩, va_recv hK hP (ci := 6) (q0 := 70) rfl (kg70 (by omega)), fun U hU hW => ⟨rfl, by rw [hU], by rw [hU]; exact hP, va_K.moved hW.alike hK, hD.weaken (fun _ _ _ _ => trivial), kNw.warm hW hNw⟩⟩ rfl rfl hl.1 rfl (lv_room (Nat.le_of_ble_eq_true rfl)) dX11_inverse_42 ⟨(show _ ≤ kPo x - kPo (F_t_inverse x a k).2 by omega), (show _ ≤ kPs x - kPs (F_t_inverse x a k).2 by omega)⟩) hS (fun q _ h => hFc q h) hFc (fun r9 u9 t H1 locs ht hvm hw hB hz1 hk1 hS => ?_)
          obtain ⟨hP1, hK1, hD1⟩ := hB
          rw [ht] at hP1
          obtain ⟨z9, ad⟩ := u9
          obtain ⟨hw1, hw2, hw3⟩ := hw
          rw [hw1]
          have hw2 : z9 = (F_r_run (x) (7 + 2 * (a).toNat) (73)).2 := hw2
          subst hw2
          have hw3 := fun c (hc : c < 87) => (show ad c = _ from hw3 c hc)
          have had : ∀ c, c < 87 → ad c = ao c := fun c hc => (hw3 c hc).trans (had c hc)
          have hl : lv_has ls 4 [(0, .ref (ad (0))), (1, .int (iI (a))), (2, .int (iI (k)))] := by
            rw [hw3 (0) (by omega)]
            exact hl
          have hP1 : va_P (dC, dI) vwCl (kWd cI cJ cZ cR (kWl (F_r_run (x) (7 + 2 * (a).toNat) (73)).2) ad (kM (F_r_run (x) (7 + 2 * (a).toNat) (73)).2) (F_r_run (x) (7 + 2 * (a).toNat) (73)).2) H1 := hP1
          have hD1 : va_D A (kWd cI cJ cZ cR (kWl (F_r_run (x) (7 + 2 * (a).toNat) (73)).2) ad (kM (F_r_run (x) (7 + 2 * (a).toNat) (73)).2) (F_r_run (x) (7 + 2 * (a).toNat) (73)).2) := hD1.weaken (B := A) (fun _ q _ h => hFc q.1 h)
          have kle : kLe x (F_r_run (x) (7 + 2 * (a).toNat) (73)).2 := ⟨by omega, by omega⟩
          refine W.widen (k := kPo x - kPo (F_r_run (x) (7 + 2 * (a).toNat) (73)).2) (n := kPs x - kPs (F_r_run (x) (7 + 2 * (a).toNat) (73)).2) (by omega) (by omega) ?_
          obtain ⟨M, hkM⟩ : ∃ M9, M9 = kM (F_r_run (x) (7 + 2 * (a).toNat) (73)).2 := ⟨_, rfl⟩
          obtain ⟨wl, hkW⟩ : ∃ W9, W9 = kWl (F_r_run (x) (7 + 2 * (a).toNat) (73)).2 := ⟨_, rfl⟩
          rw [← hkM, ← hkW] at hP1 hD1
          have hM : 87 ≤ M := by rw [hkM]; exact kM_ge _
          have hP := hP1
          have hD := hD1
          generalize H1 = H at hP hS ⊢
          have rg := run_G ok9 (w1 := 7 + 2 * (a).toNat) (w2 := 73) (kW_slot a0 a1) rfl rfl (by decide) (su a a0 a1) r3
          refine wi_if_ne (tgt := 51) hx hb (kR01 (Or.inr rg.2.2.2)) dX11_inverse_45 (by decide) (fun c_45 => ?_) (fun c_45 => ?_)
          · skip
            rw [if_neg c_45] at hres
            refine lv_aload_n hx hb dX11_inverse_51 rfl (lv_at hl 0 rfl) ?_
            refine va_get (D := (dC, dI)) (ci := 11) (v := .ref (ad (80))) (C := RX11) (T := TX11) (N := 17) hx hb hts hinX11 hown hK hP (0) (kg0 (by omega)) rfl 9 (by decide) (hts (.fieldLink RX11 89 "LikeWords" "walk" "LLikeWords$Walk;") (by decide +kernel)) (fun _ h9 => h9) rfl dX11_inverse_52 ?_
            have hFc : ∀ q, va_A (kWd cI cJ cZ cR wl ad M ((F_r_run (x) (7 + 2 * (a).toNat) (73)).2)) H.size q → A q := fun q hq => Or.elim hq (fun ⟨k, e, hk⟩ => hD.2 k (q, e) hk) (fun hk => hA q (Nat.le_trans hS.1 hk))
            refine va_callv (va_runV (b := ad (80)) (As := []) (rest := []) ⟨hx, hb, hml, hown, hts⟩ (c_v_begin l dC dI ad cI cJ cZ cR M wl H.size ((F_r_run (x) (7 + 2 * (a).toNat) (73)).2)   hM ) (cwV 0 hts gX11_inverse_X9_begin rfl rfl rfl (by decide +kernel) ⟨Nat.le_of_ble_eq_true rfl, Nat.le_of_ble_eq_true rfl⟩) ⟨fun a U g mk q => by obtain ⟨q0, q1, qP, qK, qD, qN⟩ := q; exact ⟨q0, q1, qP, va_K.moved (u := U) (U := U.calling g mk a) (Vm.Alike.refl U.vm) qK, qD, kNw.same (u := U) (U := U.calling g mk a) rfl qN⟩, va_recv hK hP (ci := 9) (q0 := 80) rfl (kg80 (by omega)), fun U hU hW => ⟨rfl, by rw [hU], by rw [hU]; exact hP, va_K.moved hW.alike hK, hD.weaken (fun _ _ _ _ => trivial), kNw.warm hW hNw⟩⟩ rfl rfl hl.1 rfl (lv_room (Nat.le_of_ble_eq_true rfl)) dX11_inverse_55 ⟨(show _ ≤ kPo x - kPo (F_t_inverse x a k).2 by omega), (show _ ≤ kPs x - kPs (F_t_inverse x a k).2 by omega)⟩) hS (fun q _ h => hFc q h) hFc (fun u9 t H1 locs ht hvm hw hB hz1 hk1 hS => ?_)
            obtain ⟨hP1, hK1, hD1⟩ := hB
            rw [ht] at hP1
            rw [hw] at hP1 hD1
            have hD2 := hD1.weaken (B := A) (fun _ q _ h => hFc q.1 h)
            have hP := hP1
            have hD := hD2
            generalize H1 = H at hP hS ⊢
            refine lv_iconst (v := iI (0 : Int)) hx hb dX11_inverse_58 (by decide) ?_
            refine lv_istore_n (lv' := [(3, .int (iI ((0 : Int)))), (0, .ref (ad (0))), (1, .int (iI (a))), (2, .int (iI (k)))]) hx hb dX11_inverse_59 rfl hl (by decide) rfl (fun ls hl => ?_)
            have kg9 : kG ((F_r_run (x) (7 + 2 * (a).toNat) (73)).2) ((F_v_begin ((F_r_run (x) (7 + 2 * (a).toNat) (73)).2)).2) := (kG_tr (kG_rf _) (kG_of (F_v_begin_fr ((F_r_run (x) (7 + 2 * (a).toNat) (73)).2)) (by first | decide | (intro h9; simp at h9; done) | (intro h9; simp at h9; omega)) (by first | decide | (intro h9; simp at h9; done) | (intro h9; simp at h9; omega))))
            have eM9 : M = kM ((F_v_begin ((F_r_run (x) (7 + 2 * (a).toNat) (73)).2)).2) := hkM.trans (kG_M kg9).symm
            have eW9 : wl = kWl ((F_v_begin ((F_r_run (x) (7 + 2 * (a).toNat) (73)).2)).2) := hkW.trans (kG_W kg9).symm
            have eP9 := (kG_p kg9).1
            have eS9 := (kG_p kg9).2
            have kl1 := kle.1
            have kl2 := kle.2
            refine W.widen (k := kPo x - kPo ((F_v_begin ((F_r_run (x) (7 + 2 * (a).toNat) (73)).2)).2)) (n := kPs x - kPs ((F_v_begin ((F_r_run (x) (7 + 2 * (a).toNat) (73)).2)).2)) (by omega) (by omega) ?_
            exact (L (5000)).1 ((F_v_begin ((F_r_run (x) (7 + 2 * (a).toNat) (73)).2)).2) M wl ad ((0 : Int)) hM eM9 eW9 had ⟨by omega, by omega⟩ (rOK_fr (F_v_begin_fr _) (by unfold rSs sMs; decide) (by unfold rAs sMa; decide) rg.1) (wG_fr (F_v_begin_fr _) (by decide) (by decide) (by decide) rg.2.1) (by rw [(F_v_begin_fr _).2 78 (by decide), (F_r_run_fr x _ 73).2 78 (by decide) (by intro h9; simp at h9)]; exact r8) (ivK_0 (ivY_g (F_r_run_fr x _ 73) (hY c_22)) (by have f9 := F_r_run_fr x (7 + 2 * (a).toNat) 73; unfold waR; rw [f9.1 82 1 (by decide) (by decide), f9.2 83 (by decide) (by decide), f9.2 81 (by decide) (by decide)]; exact wa)) (by omega) (by omega) (by omega) (by omega) (by omega) hres _ _ ls hP hD hS (lv_sub hl [1, 2, 3, 0] rfl)
          · skip
            rw [if_pos c_45] at hres
            refine lv_bipush (v := iI (-4 : Int)) hx hb dX11_inverse_48 (by decide) ?_
            have kg9 : kG ((F_r_run (x) (7 + 2 * (a).toNat) (73)).2) ((F_r_run (x) (7 + 2 * (a).toNat) (73)).2) := (kG_rf _)
            have eM9 : M = kM ((F_r_run (x) (7 + 2 * (a).toNat) (73)).2) := hkM.trans (kG_M kg9).symm
            have eW9 : wl = kWl ((F_r_run (x) (7 + 2 * (a).toNat) (73)).2) := hkW.trans (kG_W kg9).symm
            have eP9 := (kG_p kg9).1
            have eS9 := (kG_p kg9).2
            have kl1 := kle.1
            have kl2 := kle.2
            have hF2 : (F_t_inverse x a k).2 = (F_r_run (x) (7 + 2 * (a).toNat) (73)).2 := by
              have h9 := congrArg Prod.snd hres
              exact h9.symm
            refine W.widen (k := kPo x - kPo (F_t_inverse x a k).2) (n := kPs x - kPs (F_t_inverse x a k).2) (by rw [hF2]; omega) (by rw [hF2]; omega) ?_
            exact W.iret (v := iI ((-4 : Int))) hx hb hr (fun t ht hW => ⟨⟨iI ((-4 : Int)), ((F_r_run (x) (7 + 2 * (a).toNat) (73)).2, ad), rfl, ⟨(by have h9 := congrArg (fun z : Int × KS => iI z.1) hres; exact h9), (by have h9 := congrArg (fun z : Int × KS => z.2) hres; exact h9), had⟩, by rw [ht]; show va_P (dC, dI) vwCl (kWd cI cJ cZ cR (kWl ((F_r_run (x) (7 + 2 * (a).toNat) (73)).2)) ad (kM ((F_r_run (x) (7 + 2 * (a).toNat) (73)).2)) ((F_r_run (x) (7 + 2 * (a).toNat) (73)).2)) H; rw [← eM9, ← eW9]; exact hP, va_K.moved hW.alike hK, by show va_D A (kWd cI cJ cZ cR (kWl ((F_r_run (x) (7 + 2 * (a).toNat) (73)).2)) ad (kM ((F_r_run (x) (7 + 2 * (a).toNat) (73)).2)) ((F_r_run (x) (7 + 2 * (a).toNat) (73)).2)); rw [← eM9, ← eW9]; exact hD⟩, hS.F ht⟩) hS.2.2 dX11_inverse_50
        · skip
          rw [if_pos c_22] at hres
          refine lv_bipush (v := iI (-3 : Int)) hx hb dX11_inverse_25 (by decide) ?_
          have kg9 : kG (x) (x) := (kG_rf _)
          have eM9 : M = kM (x) := hkM.trans (kG_M kg9).symm
          have eW9 : wl = kWl (x) := hkW.trans (kG_W kg9).symm
          have eP9 := (kG_p kg9).1
          have eS9 := (kG_p kg9).2
          have kl1 := kle.1
          have kl2 := kle.2
          have hF2 : (F_t_inverse x a k).2 = x := by
            have h9 := congrArg Prod.snd hres
            exact h9.symm
          refine W.widen (k := kPo x - kPo (F_t_inverse x a k).2) (n := kPs x - kPs (F_t_inverse x a k).2) (by rw [hF2]; omega) (by rw [hF2]; omega) ?_
          exact W.iret (v := iI ((-3 : Int))) hx hb hr (fun t ht hW => ⟨⟨iI ((-3 : Int)), (x, ad), rfl, ⟨(by have h9 := congrArg (fun z : Int × KS => iI z.1) hres; exact h9), (by have h9 := congrArg (fun z : Int × KS => z.2) hres; exact h9), had⟩, by rw [ht]; show va_P (dC, dI) vwCl (kWd cI cJ cZ cR (kWl (x)) ad (kM (x)) (x)) H; rw [← eM9, ← eW9]; exact hP, va_K.moved hW.alike hK, by show va_D A (kWd cI cJ cZ cR (kWl (x)) ad (kM (x)) (x)); rw [← eM9, ← eW9]; exact hD⟩, hS.F ht⟩) hS.2.2 dX11_inverse_27
      · skip
        rw [if_pos c_13] at hres
        refine lv_iconst (v := iI (-1 : Int)) hx hb dX11_inverse_16 (by decide) ?_
        have kg9 : kG (x) (x) := (kG_rf _)
        have eM9 : M = kM (x) := hkM.trans (kG_M kg9).symm
        have eW9 : wl = kWl (x) := hkW.trans (kG_W kg9).symm
        have eP9 := (kG_p kg9).1
        have eS9 := (kG_p kg9).2
        have kl1 := kle.1
        have kl2 := kle.2
        have hF2 : (F_t_inverse x a k).2 = x := by
          have h9 := congrArg Prod.snd hres
          exact h9.symm
        refine W.widen (k := kPo x - kPo (F_t_inverse x a k).2) (n := kPs x - kPs (F_t_inverse x a k).2) (by rw [hF2]; omega) (by rw [hF2]; omega) ?_
        exact W.iret (v := iI ((-1 : Int))) hx hb hr (fun t ht hW => ⟨⟨iI ((-1 : Int)), (x, ad), rfl, ⟨(by have h9 := congrArg (fun z : Int × KS => iI z.1) hres; exact h9), (by have h9 := congrArg (fun z : Int × KS => z.2) hres; exact h9), had⟩, by rw [ht]; show va_P (dC, dI) vwCl (kWd cI cJ cZ cR (kWl (x)) ad (kM (x)) (x)) H; rw [← eM9, ← eW9]; exact hP, va_K.moved hW.alike hK, by show va_D A (kWd cI cJ cZ cR (kWl (x)) ad (kM (x)) (x)); rw [← eM9, ← eW9]; exact hD⟩, hS.F ht⟩) hS.2.2 dX11_inverse_17
  exact key M wl ao _ _ ls hM hkM hkW (fun _ _ => rfl) hP hD hS hl
theorem F_t_inverse_sfr  : ∀ n : Nat, (∀ (y : KS) (v0 : Int) (v1 : Int) (v2 : Int), gfr [(82, 1), (77, 1), (70, 4), (70, 5), (64, 8), (7 + 2 * (v1).toNat, 1), (73, 1)] [83, 81, 78, 71, 72, (7 + 2 * (v1).toNat) + 1, 74] y (F_t_inverse_s n 0 y v0 v1 v2).2) ∧ (∀ (y : KS) (v0 : Int) (v1 : Int) (v2 : Int), gfr [(82, 1), (77, 1), (70, 4), (70, 5), (64, 8), (7 + 2 * (v1).toNat, 1), (73, 1)] [83, 81, 78, 71, 72, (7 + 2 * (v1).toNat) + 1, 74] y (F_t_inverse_s n 1 y v0 v1 v2).2) := by
  intro n
  induction n with
  | zero => exact ⟨fun y _ _ _ => gm_rf _ _ _, fun y _ _ _ => gm_rf _ _ _⟩
  | succ n ih =>
    refine ⟨?_, ?_⟩
    · intro y a k i
      rw [F_t_inverse_e0]
      by_cases hc : ((2000 : Int)) ≤ (i)
      · rw [if_pos hc]
        exact (gm_rf _ _ _)
      · rw [if_neg hc]
        by_cases hc : (i) ≤ (0)
        · rw [if_pos hc]
          exact gm_tr ((gm_rf _ _ _)) (ih.2 (y) (a) (k) (i))
        · rw [if_neg hc]
          by_cases hc : ((F_v_advance (y)).1) = (0)
          · rw [if_pos hc]
            exact (gm_tr (gm_rf _ _ _) (gm_mono (km1 (List.Mem.head _) km0) (km1 (List.Mem.head _) (km1 (List.Mem.tail _ (List.Mem.head _)) km0)) (gm_of (F_v_advance_fr (y)))))
          · rw [if_neg hc]
            exact gm_tr ((gm_tr (gm_rf _ _ _) (gm_mono (km1 (List.Mem.head _) km0) (km1 (List.Mem.head _) (km1 (List.Mem.tail _ (List.Mem.head _)) km0)) (gm_of (F_v_advance_fr (y)))))) (ih.2 ((F_v_advance (y)).2) (a) (k) (i))
    · intro y a k i
      rw [F_t_inverse_e1]
      by_cases hc : ((F_t_putBehind ((F_w_take (y) (77) (73)).2) (82)).1) = (0)
      · rw [if_pos hc]
        exact (gm_tr (gm_tr (gm_rf _ _ _) (gm_mono (km1 (List.Mem.tail _ (List.Mem.head _)) km0) (km1 (List.Mem.tail _ (List.Mem.tail _ (List.Mem.head _))) km0) (gm_of (F_w_take_fr (y) (77) (73))))) (gm_mono (km1 (List.Mem.tail _ (List.Mem.head _)) (km1 (List.Mem.tail _ (List.Mem.tail _ (List.Mem.head _))) (km1 (List.Mem.tail _ (List.Mem.tail _ (List.Mem.tail _ (List.Mem.head _)))) (km1 (List.Mem.tail _ (List.Mem.tail _ (List.Mem.tail _ (List.Mem.tail _ (List.Mem.head _))))) km0)))) (km1 (List.Mem.tail _ (List.Mem.tail _ (List.Mem.head _))) (km1 (List.Mem.tail _ (List.Mem.tail _ (List.Mem.tail _ (List.Mem.head _)))) (km1 (List.Mem.tail _ (List.Mem.tail _ (List.Mem.tail _ (List.Mem.tail _ (List.Mem.head _))))) km0))) (F_t_putBehind_fr ((F_w_take (y) (77) (73)).2) (82))))
      · rw [if_neg hc]
        by_cases hc : (((F_t_putBehind ((F_w_take (y) (77) (73)).2) (82)).2).1 (77) 1) = (0)
        · rw [if_pos hc]
          exact (gm_tr (gm_tr (gm_tr (gm_rf _ _ _) (gm_mono (km1 (List.Mem.tail _ (List.Mem.head _)) km0) (km1 (List.Mem.tail _ (List.Mem.tail _ (List.Mem.head _))) km0) (gm_of (F_w_take_fr (y) (77) (73))))) (gm_mono (km1 (List.Mem.tail _ (List.Mem.head _)) (km1 (List.Mem.tail _ (List.Mem.tail _ (List.Mem.head _))) (km1 (List.Mem.tail _ (List.Mem.tail _ (List.Mem.tail _ (List.Mem.head _)))) (km1 (List.Mem.tail _ (List.Mem.tail _ (List.Mem.tail _ (List.Mem.tail _ (List.Mem.head _))))) km0)))) (km1 (List.Mem.tail _ (List.Mem.tail _ (List.Mem.head _))) (km1 (List.Mem.tail _ (List.Mem.tail _ (List.Mem.tail _ (List.Mem.head _)))) (km1 (List.Mem.tail _ (List.Mem.tail _ (List.Mem.tail _ (List.Mem.tail _ (List.Mem.head _))))) km0))) (F_t_putBehind_fr ((F_w_take (y) (77) (73)).2) (82)))) (gm_mono (km1 (List.Mem.tail _ (List.Mem.tail _ (List.Mem.tail _ (List.Mem.tail _ (List.Mem.tail _ (List.Mem.head _)))))) km0) (km1 (List.Mem.tail _ (List.Mem.tail _ (List.Mem.tail _ (List.Mem.tail _ (List.Mem.tail _ (List.Mem.head _)))))) km0) (gm_of (F_w_take_fr ((F_t_putBehind ((F_w_take (y) (77) (73)).2) (82)).2) (7 + 2 * (k).toNat) (82)))))
        · rw [if_neg hc]
          exact gm_tr ((gm_tr (gm_tr (gm_rf _ _ _) (gm_mono (km1 (List.Mem.tail _ (List.Mem.head _)) km0) (km1 (List.Mem.tail _ (List.Mem.tail _ (List.Mem.head _))) km0) (gm_of (F_w_take_fr (y) (77) (73))))) (gm_mono (km1 (List.Mem.tail _ (List.Mem.head _)) (km1 (List.Mem.tail _ (List.Mem.tail _ (List.Mem.head _))) (km1 (List.Mem.tail _ (List.Mem.tail _ (List.Mem.tail _ (List.Mem.head _)))) (km1 (List.Mem.tail _ (List.Mem.tail _ (List.Mem.tail _ (List.Mem.tail _ (List.Mem.head _))))) km0)))) (km1 (List.Mem.tail _ (List.Mem.tail _ (List.Mem.head _))) (km1 (List.Mem.tail _ (List.Mem.tail _ (List.Mem.tail _ (List.Mem.head _)))) (km1 (List.Mem.tail _ (List.Mem.tail _ (List.Mem.tail _ (List.Mem.tail _ (List.Mem.head _))))) km0))) (F_t_putBehind_fr ((F_w_take (y) (77) (73)).2) (82))))) (ih.1 ((F_t_putBehind ((F_w_take (y) (77) (73)).2) (82)).2) (a) (k) ((i) + (1 : Int)))
theorem F_t_inverse_fr (x : KS) (a : Int) (k : Int) : gfr [(82, 1), (77, 1), (70, 4), (70, 5), (64, 8), (7 + 2 * (k).toNat, 1), (73, 1)] [83, 81, 78, 71, 72, (7 + 2 * (k).toNat) + 1, 74] x (F_t_inverse x a k).2 := by
  unfold F_t_inverse
  by_cases hc : ((F_t_isSlot (x) (a)).1) = (0)
  · rw [if_pos hc]
    exact (gm_rf _ _ _)
  · rw [if_neg hc]
    by_cases hc : ((F_t_isSlot (x) (k)).1) = (0)
    · rw [if_pos hc]
      exact (gm_rf _ _ _)
    · rw [if_neg hc]
      by_cases hc : ((F_t_isProved (x)).1) = (0)
      · rw [if_pos hc]
        exact (gm_rf _ _ _)
      · rw [if_neg hc]
        by_cases hc : ((F_r_run (x) (7 + 2 * (a).toNat) (73)).1) = (0)
        · rw [if_pos hc]
          exact (gm_tr (gm_rf _ _ _) (gm_mono (km1 (List.Mem.tail _ (List.Mem.tail _ (List.Mem.head _))) (km1 (List.Mem.tail _ (List.Mem.tail _ (List.Mem.tail _ (List.Mem.head _)))) (km1 (List.Mem.tail _ (List.Mem.tail _ (List.Mem.tail _ (List.Mem.tail _ (List.Mem.head _))))) (km1 (List.Mem.tail _ (List.Mem.tail _ (List.Mem.tail _ (List.Mem.tail _ (List.Mem.tail _ (List.Mem.tail _ (List.Mem.head _))))))) km0)))) (km1 (List.Mem.tail _ (List.Mem.tail _ (List.Mem.tail _ (List.Mem.head _)))) (km1 (List.Mem.tail _ (List.Mem.tail _ (List.Mem.tail _ (List.Mem.tail _ (List.Mem.head _))))) (km1 (List.Mem.tail _ (List.Mem.tail _ (List.Mem.tail _ (List.Mem.tail _ (List.Mem.tail _ (List.Mem.tail _ (List.Mem.head _))))))) km0))) (F_r_run_fr (x) (7 + 2 * (a).toNat) (73))))
        · rw [if_neg hc]
          exact gm_tr ((gm_tr (gm_tr (gm_rf _ _ _) (gm_mono (km1 (List.Mem.tail _ (List.Mem.tail _ (List.Mem.head _))) (km1 (List.Mem.tail _ (List.Mem.tail _ (List.Mem.tail _ (List.Mem.head _)))) (km1 (List.Mem.tail _ (List.Mem.tail _ (List.Mem.tail _ (List.Mem.tail _ (List.Mem.head _))))) (km1 (List.Mem.tail _ (List.Mem.tail _ (List.Mem.tail _ (List.Mem.tail _ (List.Mem.tail _ (List.Mem.tail _ (List.Mem.head _))))))) km0)))) (km1 (List.Mem.tail _ (List.Mem.tail _ (List.Mem.tail _ (List.Mem.head _)))) (km1 (List.Mem.tail _ (List.Mem.tail _ (List.Mem.tail _ (List.Mem.tail _ (List.Mem.head _))))) (km1 (List.Mem.tail _ (List.Mem.tail _ (List.Mem.tail _ (List.Mem.tail _ (List.Mem.tail _ (List.Mem.tail _ (List.Mem.head _))))))) km0))) (F_r_run_fr (x) (7 + 2 * (a).toNat) (73)))) (gm_mono (km1 (List.Mem.head _) km0) (km1 (List.Mem.tail _ (List.Mem.head _)) km0) (gm_of (F_v_begin_fr ((F_r_run (x) (7 + 2 * (a).toNat) (73)).2)))))) ((F_t_inverse_sfr  (5000)).1 ((F_v_begin ((F_r_run (x) (7 + 2 * (a).toNat) (73)).2)).2) (a) (k) ((0 : Int)))
