-- deps: 98.m
set_option maxHeartbeats 4000000 in
set_option maxRecDepth 100000 in
/-- LikeWords$Proof, holds -/
theorem c_p_holds (l : Launch) (dC : Nat → ClassId) (dI : Nat → Nat → Nat) (ao : Nat → Nat) (cI cJ cZ cR : ClassId) (M wl sz : Nat) (x : KS) (n0 : Int) (hM : 87 ≤ M) (hkM : M = kM x) (hkW : wl = kWl x) (ok : rOK x) (n1 : 0 ≤ n0) (n8 : n0 ≤ 8) (lw : ∀ j : Nat, (j : Int) < 2 * n0 → wG x (24 + 2 * j) ∧ x.1 (24 + 2 * j) 1 ≤ 12) (r3 : r03 (x.2 74)) (r6 : r03 (x.2 76)) : Met l yX5_holds wsX5_holds ({ frames := 6, cells := kPo x - kPo (F_p_holds x n0).2, slots := kPs x - kPs (F_p_holds x n0).2, locals := 152 }) (kPc dC dI ao cI cJ cZ cR M wl sz x [.ref (ao 79), .ref (ao 23), .int (iI n0)]) (va_Qi (fun (r : Int32) (u : KS × (Nat → Nat)) => r = iI (F_p_holds x n0).1 ∧ u.1 = (F_p_holds x n0).2 ∧ (∀ c, c < 87 → u.2 c = ao c)) (fun u t => kAt dC dI u.2 cI cJ cZ cR (kM u.1) (kWl u.1) (va_A (kWd cI cJ cZ cR wl ao M x) sz) u.1 t) (va_A (kWd cI cJ cZ cR wl ao M x) sz)) (kPo x - kPo (F_p_holds x n0).2) (kPs x - kPs (F_p_holds x n0).2) (va_A (kWd cI cJ cZ cR wl ao M x) sz) := by
  refine Met.ofW (cc := cX5_holds) (maxL := 8) (ret := (some .boolean)) (by decide) rfl ?_
  intro p e s m args below meth c s₁ B hml hv
  obtain ⟨rfl, hsz, hP, hK, hD0, hNw⟩ := hv
  have hx := B.exec
  have hb := B.bytes
  have hr := B.returns
  have hts := atoms_spec (ws := wsX5_holds) B.pre
  have hown : s.vm.findClass RX5 = some m.cls := findClass_of_methodNamed B.named
  have hlocks := B.notSynchronized
  have hinX5 : ∀ w ∈ u_ws RX5 TX5 4, w ∈ wsX5_holds := by decide +kernel
  have hinX7 : ∀ w ∈ u_ws RX7 TX7 7, w ∈ wsX5_holds := by decide +kernel
  subst hsz
  have hD := hD0.self (sz := s.heap.size)
  generalize hAe : va_A (kWd cI cJ cZ cR wl ao M x) s.heap.size = A at hD ⊢
  have hA : ∀ q : Nat, s.heap.size ≤ q → A q := fun q h => by rw [← hAe]; exact Or.inr h
  have hS : va_S A s.heap s.heap [] := va_S.rf
  have hl := lv_entry ([.ref (ao 79), .ref (ao 23), .int (iI n0)]) (n := 8) (Nat.le_of_ble_eq_true rfl)
  rw [lg_entry_eq]
  generalize (lg_sl ([.ref (ao 79), .ref (ao 23), .int (iI n0)]) ++ List.replicate (8 - (lg_sl ([.ref (ao 79), .ref (ao 23), .int (iI n0)])).length) Slot.unset).toArray = ls at hl ⊢
  have hl : lv_has ls 8 [(0, .ref (ao (79))), (1, .ref (ao (23))), (2, .int (iI (n0)))] := hl
  have L : ∀ n : Nat, (∀ (y : KS) (M wl : Nat) (ad : Nat → Nat) (i : Int), 87 ≤ M → M = kM y → wl = kWl y → (∀ c, c < 87 → ad c = ao c) → kLe x y → (hI x y) → (0 ≤ i) → (i ≤ 8) → (90000 + (8 - i) < n) → F_p_holds_s n 0 y n0 i 0 0 0 0 = F_p_holds x n0 → ∀ (H : Heap) (locs : List Loc) (ls : Array Slot), va_P (dC, dI) vwCl (kWd cI cJ cZ cR wl ad M (y)) H → va_D A (kWd cI cJ cZ cR wl ad M (y)) → va_S A s.heap H locs → lv_has ls 8 [(0, .ref (ad (79))), (1, .ref (ad (23))), (2, .int (iI (n0))), (3, .int (iI (i)))] → W p l e (headSpec wsX5_holds ({ frames := 6, cells := kPo x - kPo (F_p_holds x n0).2, slots := kPs x - kPs (F_p_holds x n0).2, locals := 152 })).room s m ([.ref (ao 79), .ref (ao 23), .int (iI n0)] : List Value).toArray below meth c H locs (kPo x - kPo y) (kPs x - kPs y) (MQ below (va_Qi (fun (r : Int32) (u : KS × (Nat → Nat)) => r = iI (F_p_holds x n0).1 ∧ u.1 = (F_p_holds x n0).2 ∧ (∀ c, c < 87 → u.2 c = ao c)) (fun u t => kAt dC dI u.2 cI cJ cZ cR (kM u.1) (kWl u.1) (A) u.1 t) (A)) ([.ref (ao 79), .ref (ao 23), .int (iI n0)] : List Value).toArray s (kPo x - kPo (F_p_holds x n0).2) (kPs x - kPs (F_p_holds x n0).2) A) (F0 m 2 ls [])) ∧ (∀ (y : KS) (M wl : Nat) (ad : Nat → Nat) (d : Int), 87 ≤ M → M = kM y → wl = kWl y → (∀ c, c < 87 → ad c = ao c) → kLe x y → (hI x y) → (0 ≤ d) → (d ≤ 40) → ((40 - d) * 2100 + 2050 < n) → F_p_holds_s n 1 y n0 d 0 0 0 0 = F_p_holds x n0 → ∀ (H : Heap) (locs : List Loc) (ls : Array Slot), va_P (dC, dI) vwCl (kWd cI cJ cZ cR wl ad M (y)) H → va_D A (kWd cI cJ cZ cR wl ad M (y)) → va_S A s.heap H locs → lv_has ls 8 [(0, .ref (ad (79))), (1, .ref (ad (23))), (2, .int (iI (n0))), (3, .int (iI (d)))] → W p l e (headSpec wsX5_holds ({ frames := 6, cells := kPo x - kPo (F_p_holds x n0).2, slots := kPs x - kPs (F_p_holds x n0).2, locals := 152 })).room s m ([.ref (ao 79), .ref (ao 23), .int (iI n0)] : List Value).toArray below meth c H locs (kPo x - kPo y) (kPs x - kPs y) (MQ below (va_Qi (fun (r : Int32) (u : KS × (Nat → Nat)) => r = iI (F_p_holds x n0).1 ∧ u.1 = (F_p_holds x n0).2 ∧ (∀ c, c < 87 → u.2 c = ao c)) (fun u t => kAt dC dI u.2 cI cJ cZ cR (kM u.1) (kWl u.1) (A) u.1 t) (A)) ([.ref (ao 79), .ref (ao 23), .int (iI n0)] : List Value).toArray s (kPo x - kPo (F_p_holds x n0).2) (kPs x - kPs (F_p_holds x n0).2) A) (F0 m 60 ls [])) ∧ (∀ (y : KS) (M wl : Nat) (ad : Nat → Nat) (d : Int) (g : Int) (k : Int), 87 ≤ M → M = kM y → wl = kWl y → (∀ c, c < 87 → ad c = ao c) → kLe x y → (hI x y) → (0 ≤ d) → (d < y.1 58 6) → (d < 40) → (0 ≤ k) → (k ≤ 40) → (g = ((lS x d.toNat).length : Int)) → (g ≤ 20) → ((40 - d) * 2100 + (40 - k) * 50 + 45 < n) → F_p_holds_s n 2 y n0 d g k 0 0 = F_p_holds x n0 → ∀ (H : Heap) (locs : List Loc) (ls : Array Slot), va_P (dC, dI) vwCl (kWd cI cJ cZ cR wl ad M (y)) H → va_D A (kWd cI cJ cZ cR wl ad M (y)) → va_S A s.heap H locs → lv_has ls 8 [(0, .ref (ad (79))), (1, .ref (ad (23))), (2, .int (iI (n0))), (3, .int (iI (d))), (4, .int (iI (g))), (5, .int (iI (k)))] → W p l e (headSpec wsX5_holds ({ frames := 6, cells := kPo x - kPo (F_p_holds x n0).2, slots := kPs x - kPs (F_p_holds x n0).2, locals := 152 })).room s m ([.ref (ao 79), .ref (ao 23), .int (iI n0)] : List Value).toArray below meth c H locs (kPo x - kPo y) (kPs x - kPs y) (MQ below (va_Qi (fun (r : Int32) (u : KS × (Nat → Nat)) => r = iI (F_p_holds x n0).1 ∧ u.1 = (F_p_holds x n0).2 ∧ (∀ c, c < 87 → u.2 c = ao c)) (fun u t => kAt dC dI u.2 cI cJ cZ cR (kM u.1) (kWl u.1) (A) u.1 t) (A)) ([.ref (ao 79), .ref (ao 23), .int (iI n0)] : List Value).toArray s (kPo x - kPo (F_p_holds x n0).2) (kPs x - kPs (F_p_holds x n0).2) A) (F0 m 85 ls [])) ∧ (∀ (y : KS) (M wl : Nat) (ad : Nat → Nat) (d : Int) (g : Int) (k : Int) (j9 : Int) (v : Int), 87 ≤ M → M = kM y → wl = kWl y → (∀ c, c < 87 → ad c = ao c) → kLe x y → (hI x y) → (0 ≤ d) → (d < y.1 58 6) → (0 ≤ k) → (k < y.1 58 6) → (d < 40) → (k < 40) → (g = ((lS x d.toNat).length : Int)) → (j9 = ((lS x k.toNat).length : Int)) → (g ≤ 20) → (j9 ≤ 20) → (1 ≤ v) → (v ≤ 20) → ((40 - d) * 2100 + (40 - k) * 50 + 42 - v < n) → F_p_holds_s n 3 y n0 d g k j9 v = F_p_holds x n0 → ∀ (H : Heap) (locs : List Loc) (ls : Array Slot), va_P (dC, dI) vwCl (kWd cI cJ cZ cR wl ad M (y)) H → va_D A (kWd cI cJ cZ cR wl ad M (y)) → va_S A s.heap H locs → lv_has ls 8 [(0, .ref (ad (79))), (1, .ref (ad (23))), (2, .int (iI (n0))), (3, .int (iI (d))), (4, .int (iI (g))), (5, .int (iI (k))), (6, .int (iI (j9))), (7, .int (iI (v)))] → W p l e (headSpec wsX5_holds ({ frames := 6, cells := kPo x - kPo (F_p_holds x n0).2, slots := kPs x - kPs (F_p_holds x n0).2, locals := 152 })).room s m ([.ref (ao 79), .ref (ao 23), .int (iI n0)] : List Value).toArray below meth c H locs (kPo x - kPo y) (kPs x - kPs y) (MQ below (va_Qi (fun (r : Int32) (u : KS × (Nat → Nat)) => r = iI (F_p_holds x n0).1 ∧ u.1 = (F_p_holds x n0).2 ∧ (∀ c, c < 87 → u.2 c = ao c)) (fun u t => kAt dC dI u.2 cI cJ cZ cR (kM u.1) (kWl u.1) (A) u.1 t) (A)) ([.ref (ao 79), .ref (ao 23), .int (iI n0)] : List Value).toArray s (kPo x - kPo (F_p_holds x n0).2) (kPs x - kPs (F_p_holds x n0).2) A) (F0 m 112 ls [])) ∧ (∀ (y : KS) (M wl : Nat) (ad : Nat → Nat) (d : Int) (g : Int) (k : Int) (j9 : Int) (v : Int), 87 ≤ M → M = kM y → wl = kWl y → (∀ c, c < 87 → ad c = ao c) → kLe x y → (hI x y) → (0 ≤ d) → (d < y.1 58 6) → (0 ≤ k) → (k < y.1 58 6) → (d < 40) → (k < 40) → (g = ((lS x d.toNat).length : Int)) → (j9 = ((lS x k.toNat).length : Int)) → (g ≤ 20) → (j9 ≤ 20) → (0 ≤ v) → (v ≤ 21) → ((40 - d) * 2100 + (40 - k) * 50 + 21 - v < n) → F_p_holds_s n 4 y n0 d g k j9 v = F_p_holds x n0 → ∀ (H : Heap) (locs : List Loc) (ls : Array Slot), va_P (dC, dI) vwCl (kWd cI cJ cZ cR wl ad M (y)) H → va_D A (kWd cI cJ cZ cR wl ad M (y)) → va_S A s.heap H locs → lv_has ls 8 [(0, .ref (ad (79))), (1, .ref (ad (23))), (2, .int (iI (n0))), (3, .int (iI (d))), (4, .int (iI (g))), (5, .int (iI (k))), (6, .int (iI (j9))), (7, .int (iI (v)))] → W p l e (headSpec wsX5_holds ({ frames := 6, cells := kPo x - kPo (F_p_holds x n0).2, slots := kPs x - kPs (F_p_holds x n0).2, locals := 152 })).room s m ([.ref (ao 79), .ref (ao 23), .int (iI n0)] : List Value).toArray below meth c H locs (kPo x - kPo y) (kPs x - kPs y) (MQ below (va_Qi (fun (r : Int32) (u : KS × (Nat → Nat)) => r = iI (F_p_holds x n0).1 ∧ u.1 = (F_p_holds x n0).2 ∧ (∀ c, c < 87 → u.2 c = ao c)) (fun u t => kAt dC dI u.2 cI cJ cZ cR (kM u.1) (kWl u.1) (A) u.1 t) (A)) ([.ref (ao 79), .ref (ao 23), .int (iI n0)] : List Value).toArray s (kPo x - kPo (F_p_holds x n0).2) (kPs x - kPs (F_p_holds x n0).2) A) (F0 m 156 ls [])) := by
    intro n
    induction n with
    | zero =>
      refine ⟨?_, ?_, ?_, ?_, ?_⟩
      · intro y M wl ad i hM hkM hkW had kle hy i0 i1 fu hres
        exact absurd fu (by omega)
      · intro y M wl ad d hM hkM hkW had kle hy d0 d1 fu hres
        exact absurd fu (by omega)
      · intro y M wl ad d g k hM hkM hkW had kle hy d0 d1 d9 k0 k9 hg g9 fu hres
        exact absurd fu (by omega)
      · intro y M wl ad d g k j9 v hM hkM hkW had kle hy d0 d1 k0 k1 d9 k9 hg hj g9 j8 v0 v1 fu hres
        exact absurd fu (by omega)
      · intro y M wl ad d g k j9 v hM hkM hkW had kle hy d0 d1 k0 k1 d9 k9 hg hj g9 j8 v0 v1 fu hres
        exact absurd fu (by omega)
    | succ n ih =>
      refine ⟨?_, ?_, ?_, ?_, ?_⟩
      · intro y M wl ad i hM hkM hkW had kle hy i0 i1 fu hres H locs ls hP hD hS hl
        have kf9 : kLe y (F_p_holds x n0).2 := by
          rw [← hres]
          exact (F_p_holds_sle   (n + 1)).1 _ _ _ _ _ _ _
        have kf1 := kf9.1
        have kf2 := kf9.2
        rw [F_p_holds_e0] at hres
        have klx1 := kle.1
        have klx2 := kle.2
        refine lv_iload_n hx hb dX5_holds_2 rfl (lv_at hl 3 rfl) ?_
        refine lv_iload_n hx hb dX5_holds_3 rfl (lv_at hl 2 rfl) ?_
        refine wi_icmp_ge (tgt := 58) hx hb (by first | assumption | (unfold iR; omega) | exact kR01 (by assumption)) (by first | assumption | (unfold iR; omega) | exact kR01 (by assumption)) dX5_holds_4 (by decide) (fun c_4 => ?_) (fun c_4 => ?_)
        · skip
          rw [if_pos c_4] at hres
          refine lv_iconst (v := iI (0 : Int)) hx hb dX5_holds_58 (by decide) ?_
          refine lv_istore_n (lv' := [(3, .int (iI ((0 : Int)))), (0, .ref (ad (79))), (1, .ref (ad (23))), (2, .int (iI (n0)))]) hx hb dX5_holds_59 rfl hl (by decide) rfl (fun ls hl => ?_)
          have kg9 : kG (y) (y) := (kG_rf _)
          have eM9 : M = kM (y) := hkM.trans (kG_M kg9).symm
          have eW9 : wl = kWl (y) := hkW.trans (kG_W kg9).symm
          have eP9 := (kG_p kg9).1
          have eS9 := (kG_p kg9).2
          have kl1 := kle.1
          have kl2 := kle.2
          refine W.widen (k := kPo x - kPo (y)) (n := kPs x - kPs (y)) (by omega) (by omega) ?_
          exact ih.2.1 (y) M wl ad ((0 : Int)) hM eM9 eW9 had ⟨by omega, by omega⟩ (hy) (by omega) (by omega) (by omega) hres _ _ ls hP hD hS (lv_sub hl [1, 2, 3, 0] rfl)
        · skip
          rw [if_neg c_4] at hres
          refine lv_iconst (v := iI (2 : Int)) hx hb dX5_holds_7 (by decide) ?_
          refine lv_iload_n hx hb dX5_holds_8 rfl (lv_at hl 3 rfl) ?_
          refine wi_imul hx hb dX5_holds_9 ?_
          refine lv_iconst (v := iI (1 : Int)) hx hb dX5_holds_10 (by decide) ?_
          refine wi_iadd hx hb dX5_holds_11 ?_
          refine lv_aload_n hx hb dX5_holds_12 rfl (lv_at hl 1 rfl) ?_
          refine va_alen (v := iI ((16 : Int))) hx hb hK hP (23) 3 (kget (by omega)) rfl rfl dX5_holds_13 ?_
          refine wi_icmp_ge (tgt := 58) hx hb (by first | assumption | (unfold iR; omega) | exact kR01 (by assumption)) ⟨by decide, by decide⟩ dX5_holds_14 (by decide) (fun c_14 => ?_) (fun c_14 => ?_)
          · skip
            rw [if_pos c_14] at hres
            refine lv_iconst (v := iI (0 : Int)) hx hb dX5_holds_58 (by decide) ?_
            refine lv_istore_n (lv' := [(3, .int (iI ((0 : Int)))), (0, .ref (ad (79))), (1, .ref (ad (23))), (2, .int (iI (n0)))]) hx hb dX5_holds_59 rfl hl (by decide) rfl (fun ls hl => ?_)
            have kg9 : kG (y) (y) := (kG_rf _)
            have eM9 : M = kM (y) := hkM.trans (kG_M kg9).symm
            have eW9 : wl = kWl (y) := hkW.trans (kG_W kg9).symm
            have eP9 := (kG_p kg9).1
            have eS9 := (kG_p kg9).2
            have kl1 := kle.1
            have kl2 := kle.2
            refine W.widen (k := kPo x - kPo (y)) (n := kPs x - kPs (y)) (by omega) (by omega) ?_
            exact ih.2.1 (y) M wl ad ((0 : Int)) hM eM9 eW9 had ⟨by omega, by omega⟩ (hy) (by omega) (by omega) (by omega) hres _ _ ls hP hD hS (lv_sub hl [1, 2, 3, 0] rfl)
          · skip
            rw [if_neg c_14] at hres
            refine lv_aload_n hx hb dX5_holds_17 rfl (lv_at hl 0 rfl) ?_
            refine va_get (D := (dC, dI)) (ci := 5) (v := .ref (ad (73))) (C := RX5) (T := TX5) (N := 4) hx hb hts hinX5 hown hK hP (79) (kg79 (by omega)) rfl 2 (by decide) (hts (.fieldLink RX5 17 "LikeWords$Proof" "one" "LLikeWords$Word;") (by decide +kernel)) (fun _ h9 => h9) rfl dX5_holds_18 ?_
            refine lv_aload_n hx hb dX5_holds_21 rfl (lv_at hl 1 rfl) ?_
            refine lv_iconst (v := iI (2 : Int)) hx hb dX5_holds_22 (by decide) ?_
            refine lv_iload_n hx hb dX5_holds_23 rfl (lv_at hl 3 rfl) ?_
            refine wi_imul hx hb dX5_holds_24 ?_
            refine va_aldq (C := "LikeWords$Word") (n := 16) (f := fun j => some (ad (24 + 2 * j))) hx hb hK hP 23 3 (kget (by omega)) rfl (iI_in (z := ((2 : Int)) * (i)) (by omega) (by omega) (by decide)) dX5_holds_25 ?_
            rw [iI_clamp ⟨by omega, by omega⟩]
            refine W.eq (g2 := F0 m 26 ls [.ref (ad (24 + 2 * (((2 : Int)) * (i)).toNat)), .ref (ad (73))]) rfl ?_
            have la := hI_lw hy n8 lw (j := ((2 : Int) * i).toNat) (by omega)
            have hFc : ∀ q, va_A (kWd cI cJ cZ cR wl ad M (y)) H.size q → A q := fun q hq => Or.elim hq (fun ⟨k, e, hk⟩ => hD.2 k (q, e) hk) (fun hk => hA q (Nat.le_trans hS.1 hk))
            refine va_callv (va_runV (b := ad (73)) (As := [.ref (ad (24 + 2 * (((2 : Int)) * (i)).toNat))]) (rest := []) ⟨hx, hb, hml, hown, hts⟩ (c_w_take l dC dI ad cI cJ cZ cR M wl H.size (y) (73) (24 + 2 * (((2 : Int)) * (i)).toNat)  hM rfl (by omega) (kW_law (by omega) (by omega)) (by omega) la.1.1.1 (by rw [la.2.2.1]; exact la.2.1)) (cwV 1 hts gX5_holds_X10_take rfl rfl rfl (by decide +kernel) ⟨Nat.le_of_ble_eq_true rfl, Nat.le_of_ble_eq_true rfl⟩) ⟨fun a U g mk q => by obtain ⟨q0, q1, qP, qK, qD, qN⟩ := q; exact ⟨q0, q1, qP, va_K.moved (u := U) (U := U.calling g mk a) (Vm.Alike.refl U.vm) qK, qD, kNw.same (u := U) (U := U.calling g mk a) rfl qN⟩, va_recv hK hP (ci := 10) (q0 := 73) rfl (kgw rfl (by omega)), fun U hU hW => ⟨rfl, by rw [hU], by rw [hU]; exact hP, va_K.moved hW.alike hK, hD.weaken (fun _ _ _ _ => trivial), kNw.warm hW hNw⟩⟩ rfl rfl hl.1 rfl (lv_room (Nat.le_of_ble_eq_true rfl)) dX5_holds_26 ⟨(show _ ≤ kPo x - kPo (F_p_holds x n0).2 by omega), (show _ ≤ kPs x - kPs (F_p_holds x n0).2 by omega)⟩) hS (fun q _ h => hFc q h) hFc (fun u9 t H1 locs ht hvm hw hB hz1 hk1 hS => ?_)
            obtain ⟨hP1, hK1, hD1⟩ := hB
            rw [ht] at hP1
            rw [hw] at hP1 hD1
            have hD2 := hD1.weaken (B := A) (fun _ q _ h => hFc q.1 h)
            have hP := hP1
            have hD := hD2
            generalize H1 = H at hP hS ⊢
            refine lv_aload_n hx hb dX5_holds_29 rfl (lv_at hl 0 rfl) ?_
            refine va_get (D := (dC, dI)) (ci := 5) (v := .ref (ad (75))) (C := RX5) (T := TX5) (N := 4) hx hb hts hinX5 hown hK hP (79) (kg79 (by omega)) rfl 3 (by decide) (hts (.fieldLink RX5 21 "LikeWords$Proof" "other" "LLikeWords$Word;") (by decide +kernel)) (fun _ h9 => h9) rfl dX5_holds_30 ?_
            refine lv_aload_n hx hb dX5_holds_33 rfl (lv_at hl 1 rfl) ?_
            refine lv_iconst (v := iI (2 : Int)) hx hb dX5_holds_34 (by decide) ?_
            refine lv_iload_n hx hb dX5_holds_35 rfl (lv_at hl 3 rfl) ?_
            refine wi_imul hx hb dX5_holds_36 ?_
            refine lv_iconst (v := iI (1 : Int)) hx hb dX5_holds_37 (by decide) ?_
            refine wi_iadd hx hb dX5_holds_38 ?_
            refine va_aldq (C := "LikeWords$Word") (n := 16) (f := fun j => some (ad (24 + 2 * j))) hx hb hK hP 23 3 (kget (by omega)) rfl (iI_in (z := (((2 : Int)) * (i)) + ((1 : Int))) (by omega) (by omega) (by decide)) dX5_holds_39 ?_
            rw [iI_clamp ⟨by omega, by omega⟩]
            refine W.eq (g2 := F0 m 40 ls [.ref (ad (24 + 2 * ((((2 : Int)) * (i)) + ((1 : Int))).toNat)), .ref (ad (75))]) rfl ?_
            have lb := hI_lw hy n8 lw (j := ((2 : Int) * i + (1 : Int)).toNat) (by omega)
            have e40 : ((F_w_take (y) (73) (24 + 2 * (((2 : Int)) * (i)).toNat)).2).1 (24 + 2 * ((2 : Int) * i + (1 : Int)).toNat) 1 = y.1 (24 + 2 * ((2 : Int) * i + (1 : Int)).toNat) 1 := (F_w_take_fr y 73 (24 + 2 * ((2 : Int) * i).toNat)).1 _ 1 (by intro h9; simp at h9; omega)
            have h3 := hI_take3 hy (c := 24 + 2 * ((2 : Int) * i).toNat) (kW_law (by omega) (by omega)) (by omega) la.1
            have lb2 : wG ((F_w_take (y) (73) (24 + 2 * (((2 : Int)) * (i)).toNat)).2) (24 + 2 * ((2 : Int) * i + (1 : Int)).toNat) := wG_fr (F_w_take_fr y 73 (24 + 2 * ((2 : Int) * i).toNat)) (by intro h9; simp at h9; omega) (by intro h9; simp at h9; omega) (by intro h9; simp at h9) lb.1
            have hFc : ∀ q, va_A (kWd cI cJ cZ cR wl ad M ((F_w_take (y) (73) (24 + 2 * (((2 : Int)) * (i)).toNat)).2)) H.size q → A q := fun q hq => Or.elim hq (fun ⟨k, e, hk⟩ => hD.2 k (q, e) hk) (fun hk => hA q (Nat.le_trans hS.1 hk))
            refine va_callv (va_runV (b := ad (75)) (As := [.ref (ad (24 + 2 * ((((2 : Int)) * (i)) + ((1 : Int))).toNat))]) (rest := []) ⟨hx, hb, hml, hown, hts⟩ (c_w_take l dC dI ad cI cJ cZ cR M wl H.size ((F_w_take (y) (73) (24 + 2 * (((2 : Int)) * (i)).toNat)).2) (75) (24 + 2 * ((((2 : Int)) * (i)) + ((1 : Int))).toNat)  hM rfl (by omega) (kW_law (by omega) (by omega)) (by omega) (by rw [e40]; exact lb.1.1.1) (by rw [e40, lb.2.2.1]; exact lb.2.1)) (cwV 1 hts gX5_holds_X10_take rfl rfl rfl (by decide +kernel) ⟨Nat.le_of_ble_eq_true rfl, Nat.le_of_ble_eq_true rfl⟩) ⟨fun a U g mk q => by obtain ⟨q0, q1, qP, qK, qD, qN⟩ := q; exact ⟨q0, q1, qP, va_K.moved (u := U) (U := U.calling g mk a) (Vm.Alike.refl U.vm) qK, qD, kNw.same (u := U) (U := U.calling g mk a) rfl qN⟩, va_recv hK hP (ci := 10) (q0 := 75) rfl (kgw rfl (by omega)), fun U hU hW => ⟨rfl, by rw [hU], by rw [hU]; exact hP, va_K.moved hW.alike hK, hD.weaken (fun _ _ _ _ => trivial), kNw.warm hW hNw⟩⟩ rfl rfl hl.1 rfl (lv_room (Nat.le_of_ble_eq_true rfl)) dX5_holds_40 ⟨(show _ ≤ kPo x - kPo (F_p_holds x n0).2 by omega), (show _ ≤ kPs x - kPs (F_p_holds x n0).2 by omega)⟩) hS (fun q _ h => hFc q h) hFc (fun u9 t H1 locs ht hvm hw hB hz1 hk1 hS => ?_)
            obtain ⟨hP1, hK1, hD1⟩ := hB
            rw [ht] at hP1
            rw [hw] at hP1 hD1
            have hD2 := hD1.weaken (B := A) (fun _ q _ h => hFc q.1 h)
            have hP := hP1
            have hD := hD2
            generalize H1 = H at hP hS ⊢
            refine lv_aload_n hx hb dX5_holds_43 rfl (lv_at hl 0 rfl) ?_
            have h5 := hI_take5 h3.1 (c := 24 + 2 * ((2 : Int) * i + (1 : Int)).toNat) (kW_law (by omega) (by omega)) (by omega) lb2
            have kg9 : kG (y) ((F_w_take ((F_w_take (y) (73) (24 + 2 * (((2 : Int)) * (i)).toNat)).2) (75) (24 + 2 * ((((2 : Int)) * (i)) + ((1 : Int))).toNat)).2) := (kG_tr (kG_tr (kG_rf _) (kG_of (F_w_take_fr (y) (73) (24 + 2 * (((2 : Int)) * (i)).toNat)) (by first | decide | (intro h9; simp at h9; done) | (intro h9; simp at h9; omega)) (by first | decide | (intro h9; simp at h9; done) | (intro h9; simp at h9; omega)))) (kG_of (F_w_take_fr ((F_w_take (y) (73) (24 + 2 * (((2 : Int)) * (i)).toNat)).2) (75) (24 + 2 * ((((2 : Int)) * (i)) + ((1 : Int))).toNat)) (by first | decide | (intro h9; simp at h9; done) | (intro h9; simp at h9; omega)) (by first | decide | (intro h9; simp at h9; done) | (intro h9; simp at h9; omega))))
            have eM9 : M = kM ((F_w_take ((F_w_take (y) (73) (24 + 2 * (((2 : Int)) * (i)).toNat)).2) (75) (24 + 2 * ((((2 : Int)) * (i)) + ((1 : Int))).toNat)).2) := hkM.trans (kG_M kg9).symm
            have eW9 : wl = kWl ((F_w_take ((F_w_take (y) (73) (24 + 2 * (((2 : Int)) * (i)).toNat)).2) (75) (24 + 2 * ((((2 : Int)) * (i)) + ((1 : Int))).toNat)).2) := hkW.trans (kG_W kg9).symm
            have eP9 := (kG_p kg9).1
            have eS9 := (kG_p kg9).2
            have kl1 := kle.1
            have kl2 := kle.2
            have kfn : kLe (F_p_agree ((F_w_take ((F_w_take (y) (73) (24 + 2 * (((2 : Int)) * (i)).toNat)).2) (75) (24 + 2 * ((((2 : Int)) * (i)) + ((1 : Int))).toNat)).2)).2 (F_p_holds x n0).2 := by
              rw [← hres]
              by_cases hc9 : ((F_p_agree ((F_w_take ((F_w_take (y) (73) (24 + 2 * (((2 : Int)) * (i)).toNat)).2) (75) (24 + 2 * ((((2 : Int)) * (i)) + ((1 : Int))).toNat)).2)).1) = (0)
              · rw [if_pos hc9]
                exact (kLe_rf _)
              · rw [if_neg hc9]
                exact kLe_tr (kLe_rf _) ((F_p_holds_sle   _).1 ((F_p_agree ((F_w_take ((F_w_take (y) (73) (24 + 2 * (((2 : Int)) * (i)).toNat)).2) (75) (24 + 2 * ((((2 : Int)) * (i)) + ((1 : Int))).toNat)).2)).2) (n0) ((i) + (1 : Int)) (0) (0) (0) (0))
            have kf1 := kfn.1
            have kf2 := kfn.2
            have kd9 : kLe ((F_w_take ((F_w_take (y) (73) (24 + 2 * (((2 : Int)) * (i)).toNat)).2) (75) (24 + 2 * ((((2 : Int)) * (i)) + ((1 : Int))).toNat)).2) (F_p_agree ((F_w_take ((F_w_take (y) (73) (24 + 2 * (((2 : Int)) * (i)).toNat)).2) (75) (24 + 2 * ((((2 : Int)) * (i)) + ((1 : Int))).toNat)).2)).2 := (F_p_agree_le ((F_w_take ((F_w_take (y) (73) (24 + 2 * (((2 : Int)) * (i)).toNat)).2) (75) (24 + 2 * ((((2 : Int)) * (i)) + ((1 : Int))).toNat)).2))
            have kd1 := kd9.1
            have kd2 := kd9.2
            have hFc : ∀ q, va_A (kWd cI cJ cZ cR wl ad M ((F_w_take ((F_w_take (y) (73) (24 + 2 * (((2 : Int)) * (i)).toNat)).2) (75) (24 + 2 * ((((2 : Int)) * (i)) + ((1 : Int))).toNat)).2)) H.size q → A q := fun q hq => Or.elim hq (fun ⟨k, e, hk⟩ => hD.2 k (q, e) hk) (fun hk => hA q (Nat.le_trans hS.1 hk))
            refine va_calli (va_runV (b := ad (79)) (As := []) (rest := []) ⟨hx, hb, hml, hown, hts⟩ (c_p_agree l dC dI ad cI cJ cZ cR M wl H.size ((F_w_take ((F_w_take (y) (73) (24 + 2 * (((2 : Int)) * (i)).toNat)).2) (75) (24 + 2 * ((((2 : Int)) * (i)) + ((1 : Int))).toNat)).2)   hM eM9 eW9 h5.1.1 (h5.2.2.2.1 h3.2.1) h5.2.1) (cwV 0 hts gX5_holds_X5_agree rfl rfl rfl (by decide +kernel) ⟨Nat.le_of_ble_eq_true rfl, Nat.le_of_ble_eq_true rfl⟩) ⟨fun a U g mk q => by obtain ⟨q0, q1, qP, qK, qD, qN⟩ := q; exact ⟨q0, q1, qP, va_K.moved (u := U) (U := U.calling g mk a) (Vm.Alike.refl U.vm) qK, qD, kNw.same (u := U) (U := U.calling g mk a) rfl qN⟩, va_recv hK hP (ci := 5) (q0 := 79) rfl (kg79 (by omega)), fun U hU hW => ⟨rfl, by rw [hU], by rw [hU]; exact hP, va_K.moved hW.alike hK, hD.weaken (fun _ _ _ _ => trivial), kNw.warm hW hNw⟩⟩ rfl rfl hl.1 rfl (lv_room (Nat.le_of_ble_eq_true rfl)) dX5_holds_44 ⟨(show _ ≤ kPo x - kPo (F_p_holds x n0).2 by omega), (show _ ≤ kPs x - kPs (F_p_holds x n0).2 by omega)⟩) hS (fun q _ h => hFc q h) hFc (fun r9 u9 t H1 locs ht hvm hw hB hz1 hk1 hS => ?_)
            obtain ⟨hP1, hK1, hD1⟩ := hB
            rw [ht] at hP1
            obtain ⟨z9, ad⟩ := u9
            obtain ⟨hw1, hw2, hw3⟩ := hw
            rw [hw1]
            have hw2 : z9 = (F_p_agree ((F_w_take ((F_w_take (y) (73) (24 + 2 * (((2 : Int)) * (i)).toNat)).2) (75) (24 + 2 * ((((2 : Int)) * (i)) + ((1 : Int))).toNat)).2)).2 := hw2
            subst hw2
            have hw3 := fun c (hc : c < 87) => (show ad c = _ from hw3 c hc)
            have had : ∀ c, c < 87 → ad c = ao c := fun c hc => (hw3 c hc).trans (had c hc)
            have hl : lv_has ls 8 [(0, .ref (ad (79))), (1, .ref (ad (23))), (2, .int (iI (n0))), (3, .int (iI (i)))] := by
              rw [hw3 (79) (by omega), hw3 (23) (by omega)]
              exact hl
            have hP1 : va_P (dC, dI) vwCl (kWd cI cJ cZ cR (kWl (F_p_agree ((F_w_take ((F_w_take (y) (73) (24 + 2 * (((2 : Int)) * (i)).toNat)).2) (75) (24 + 2 * ((((2 : Int)) * (i)) + ((1 : Int))).toNat)).2)).2) ad (kM (F_p_agree ((F_w_take ((F_w_take (y) (73) (24 + 2 * (((2 : Int)) * (i)).toNat)).2) (75) (24 + 2 * ((((2 : Int)) * (i)) + ((1 : Int))).toNat)).2)).2) (F_p_agree ((F_w_take ((F_w_take (y) (73) (24 + 2 * (((2 : Int)) * (i)).toNat)).2) (75) (24 + 2 * ((((2 : Int)) * (i)) + ((1 : Int))).toNat)).2)).2) H1 := hP1
            have hD1 : va_D A (kWd cI cJ cZ cR (kWl (F_p_agree ((F_w_take ((F_w_take (y) (73) (24 + 2 * (((2 : Int)) * (i)).toNat)).2) (75) (24 + 2 * ((((2 : Int)) * (i)) + ((1 : Int))).toNat)).2)).2) ad (kM (F_p_agree ((F_w_take ((F_w_take (y) (73) (24 + 2 * (((2 : Int)) * (i)).toNat)).2) (75) (24 + 2 * ((((2 : Int)) * (i)) + ((1 : Int))).toNat)).2)).2) (F_p_agree ((F_w_take ((F_w_take (y) (73) (24 + 2 * (((2 : Int)) * (i)).toNat)).2) (75) (24 + 2 * ((((2 : Int)) * (i)) + ((1 : Int))).toNat)).2)).2) := hD1.weaken (B := A) (fun _ q _ h => hFc q.1 h)
            have kle : kLe x (F_p_agree ((F_w_take ((F_w_take (y) (73) (24 + 2 * (((2 : Int)) * (i)).toNat)).2) (75) (24 + 2 * ((((2 : Int)) * (i)) + ((1 : Int))).toNat)).2)).2 := ⟨by omega, by omega⟩
            refine W.widen (k := kPo x - kPo (F_p_agree ((F_w_take ((F_w_take (y) (73) (24 + 2 * (((2 : Int)) * (i)).toNat)).2) (75) (24 + 2 * ((((2 : Int)) * (i)) + ((1 : Int))).toNat)).2)).2) (n := kPs x - kPs (F_p_agree ((F_w_take ((F_w_take (y) (73) (24 + 2 * (((2 : Int)) * (i)).toNat)).2) (75) (24 + 2 * ((((2 : Int)) * (i)) + ((1 : Int))).toNat)).2)).2) (by omega) (by omega) ?_
            obtain ⟨M, hkM⟩ : ∃ M9, M9 = kM (F_p_agree ((F_w_take ((F_w_take (y) (73) (24 + 2 * (((2 : Int)) * (i)).toNat)).2) (75) (24 + 2 * ((((2 : Int)) * (i)) + ((1 : Int))).toNat)).2)).2 := ⟨_, rfl⟩
            obtain ⟨wl, hkW⟩ : ∃ W9, W9 = kWl (F_p_agree ((F_w_take ((F_w_take (y) (73) (24 + 2 * (((2 : Int)) * (i)).toNat)).2) (75) (24 + 2 * ((((2 : Int)) * (i)) + ((1 : Int))).toNat)).2)).2 := ⟨_, rfl⟩
            rw [← hkM, ← hkW] at hP1 hD1
            have hM : 87 ≤ M := by rw [hkM]; exact kM_ge _
            have hP := hP1
            have hD := hD1
            generalize H1 = H at hP hS ⊢
            have ha := hI_agree h5.1 (h5.2.2.2.1 h3.2.1) h5.2.1
            refine wi_if_ne (tgt := 52) hx hb (kR01 ha.2) dX5_holds_47 (by decide) (fun c_47 => ?_) (fun c_47 => ?_)
            · skip
              rw [if_neg c_47] at hres
              refine lv_iinc (v := iI ((i) + (1 : Int))) (lv' := [(3, .int (iI ((i) + (1 : Int)))), (0, .ref (ad (79))), (1, .ref (ad (23))), (2, .int (iI (n0)))]) hx hb dX5_holds_52 hl (k := 3) rfl (iI_add _ _) (by decide) rfl (fun ls hl => ?_)
              refine lv_goto (tgt := 2) hx hb dX5_holds_55 (by decide) ?_
              have kg9 : kG ((F_p_agree ((F_w_take ((F_w_take (y) (73) (24 + 2 * (((2 : Int)) * (i)).toNat)).2) (75) (24 + 2 * ((((2 : Int)) * (i)) + ((1 : Int))).toNat)).2)).2) ((F_p_agree ((F_w_take ((F_w_take (y) (73) (24 + 2 * (((2 : Int)) * (i)).toNat)).2) (75) (24 + 2 * ((((2 : Int)) * (i)) + ((1 : Int))).toNat)).2)).2) := (kG_rf _)
              have eM9 : M = kM ((F_p_agree ((F_w_take ((F_w_take (y) (73) (24 + 2 * (((2 : Int)) * (i)).toNat)).2) (75) (24 + 2 * ((((2 : Int)) * (i)) + ((1 : Int))).toNat)).2)).2) := hkM.trans (kG_M kg9).symm
              have eW9 : wl = kWl ((F_p_agree ((F_w_take ((F_w_take (y) (73) (24 + 2 * (((2 : Int)) * (i)).toNat)).2) (75) (24 + 2 * ((((2 : Int)) * (i)) + ((1 : Int))).toNat)).2)).2) := hkW.trans (kG_W kg9).symm
              have eP9 := (kG_p kg9).1
              have eS9 := (kG_p kg9).2
              have kl1 := kle.1
              have kl2 := kle.2
              refine W.widen (k := kPo x - kPo ((F_p_agree ((F_w_take ((F_w_take (y) (73) (24 + 2 * (((2 : Int)) * (i)).toNat)).2) (75) (24 + 2 * ((((2 : Int)) * (i)) + ((1 : Int))).toNat)).2)).2)) (n := kPs x - kPs ((F_p_agree ((F_w_take ((F_w_take (y) (73) (24 + 2 * (((2 : Int)) * (i)).toNat)).2) (75) (24 + 2 * ((((2 : Int)) * (i)) + ((1 : Int))).toNat)).2)).2)) (by omega) (by omega) ?_
              exact ih.1 ((F_p_agree ((F_w_take ((F_w_take (y) (73) (24 + 2 * (((2 : Int)) * (i)).toNat)).2) (75) (24 + 2 * ((((2 : Int)) * (i)) + ((1 : Int))).toNat)).2)).2) M wl ad ((i) + (1 : Int)) hM eM9 eW9 had ⟨by omega, by omega⟩ (ha.1) (by omega) (by omega) (by omega) hres _ _ ls hP hD hS (lv_sub hl [1, 2, 3, 0] rfl)
            · skip
              rw [if_pos c_47] at hres
              refine lv_iconst (v := iI (0 : Int)) hx hb dX5_holds_50 (by decide) ?_
              have kg9 : kG ((F_p_agree ((F_w_take ((F_w_take (y) (73) (24 + 2 * (((2 : Int)) * (i)).toNat)).2) (75) (24 + 2 * ((((2 : Int)) * (i)) + ((1 : Int))).toNat)).2)).2) ((F_p_agree ((F_w_take ((F_w_take (y) (73) (24 + 2 * (((2 : Int)) * (i)).toNat)).2) (75) (24 + 2 * ((((2 : Int)) * (i)) + ((1 : Int))).toNat)).2)).2) := (kG_rf _)
              have eM9 : M = kM ((F_p_agree ((F_w_take ((F_w_take (y) (73) (24 + 2 * (((2 : Int)) * (i)).toNat)).2) (75) (24 + 2 * ((((2 : Int)) * (i)) + ((1 : Int))).toNat)).2)).2) := hkM.trans (kG_M kg9).symm
              have eW9 : wl = kWl ((F_p_agree ((F_w_take ((F_w_take (y) (73) (24 + 2 * (((2 : Int)) * (i)).toNat)).2) (75) (24 + 2 * ((((2 : Int)) * (i)) + ((1 : Int))).toNat)).2)).2) := hkW.trans (kG_W kg9).symm
              have eP9 := (kG_p kg9).1
              have eS9 := (kG_p kg9).2
              have kl1 := kle.1
              have kl2 := kle.2
              have hF2 : (F_p_holds x n0).2 = (F_p_agree ((F_w_take ((F_w_take (y) (73) (24 + 2 * (((2 : Int)) * (i)).toNat)).2) (75) (24 + 2 * ((((2 : Int)) * (i)) + ((1 : Int))).toNat)).2)).2 := by
                have h9 := congrArg Prod.snd hres
                exact h9.symm
              refine W.widen (k := kPo x - kPo (F_p_holds x n0).2) (n := kPs x - kPs (F_p_holds x n0).2) (by rw [hF2]; omega) (by rw [hF2]; omega) ?_
              exact W.zret (v := iI ((0 : Int))) hx hb hr (kz _ (by first | assumption | omega)) (fun t ht hW => ⟨⟨iI ((0 : Int)), ((F_p_agree ((F_w_take ((F_w_take (y) (73) (24 + 2 * (((2 : Int)) * (i)).toNat)).2) (75) (24 + 2 * ((((2 : Int)) * (i)) + ((1 : Int))).toNat)).2)).2, ad), rfl, ⟨(by have h9 := congrArg (fun z : Int × KS => iI z.1) hres; exact h9), (by have h9 := congrArg (fun z : Int × KS => z.2) hres; exact h9), had⟩, by rw [ht]; show va_P (dC, dI) vwCl (kWd cI cJ cZ cR (kWl ((F_p_agree ((F_w_take ((F_w_take (y) (73) (24 + 2 * (((2 : Int)) * (i)).toNat)).2) (75) (24 + 2 * ((((2 : Int)) * (i)) + ((1 : Int))).toNat)).2)).2)) ad (kM ((F_p_agree ((F_w_take ((F_w_take (y) (73) (24 + 2 * (((2 : Int)) * (i)).toNat)).2) (75) (24 + 2 * ((((2 : Int)) * (i)) + ((1 : Int))).toNat)).2)).2)) ((F_p_agree ((F_w_take ((F_w_take (y) (73) (24 + 2 * (((2 : Int)) * (i)).toNat)).2) (75) (24 + 2 * ((((2 : Int)) * (i)) + ((1 : Int))).toNat)).2)).2)) H; rw [← eM9, ← eW9]; exact hP, va_K.moved hW.alike hK, by show va_D A (kWd cI cJ cZ cR (kWl ((F_p_agree ((F_w_take ((F_w_take (y) (73) (24 + 2 * (((2 : Int)) * (i)).toNat)).2) (75) (24 + 2 * ((((2 : Int)) * (i)) + ((1 : Int))).toNat)).2)).2)) ad (kM ((F_p_agree ((F_w_take ((F_w_take (y) (73) (24 + 2 * (((2 : Int)) * (i)).toNat)).2) (75) (24 + 2 * ((((2 : Int)) * (i)) + ((1 : Int))).toNat)).2)).2)) ((F_p_agree ((F_w_take ((F_w_take (y) (73) (24 + 2 * (((2 : Int)) * (i)).toNat)).2) (75) (24 + 2 * ((((2 : Int)) * (i)) + ((1 : Int))).toNat)).2)).2)); rw [← eM9, ← eW9]; exact hD⟩, hS.F ht⟩) hS.2.2 dX5_holds_51
      · intro y M wl ad d hM hkM hkW had kle hy d0 d1 fu hres H locs ls hP hD hS hl
        have kf9 : kLe y (F_p_holds x n0).2 := by
          rw [← hres]
          exact (F_p_holds_sle   (n + 1)).2.1 _ _ _ _ _ _ _
        have kf1 := kf9.1
        have kf2 := kf9.2
        rw [F_p_holds_e1] at hres
        have klx1 := kle.1
        have klx2 := kle.2
        have m58 := hy.1.1.2.1.1
        have eh : y.1 58 6 = x.1 58 6 := (hI_M hy).2.1.1
        refine lv_iload_n hx hb dX5_holds_60 rfl (lv_at hl 3 rfl) ?_
        refine lv_aload_n hx hb dX5_holds_61 rfl (lv_at hl 0 rfl) ?_
        refine va_get (D := (dC, dI)) (ci := 5) (v := .ref (ad (58))) (C := RX5) (T := TX5) (N := 4) hx hb hts hinX5 hown hK hP (79) (kg79 (by omega)) rfl 0 (by decide) (hts (.fieldLink RX5 7 "LikeWords$Proof" "rules" "LLikeWords$Rules;") (by decide +kernel)) (fun _ h9 => h9) rfl dX5_holds_62 ?_
        refine va_get (D := (dC, dI)) (ci := 7) (v := .int (iI ((y).1 (58) 6))) (C := RX7) (T := TX7) (N := 7) hx hb hts hinX7 hown hK hP (58) (kg58 (by omega)) rfl 6 (by decide) (hts (.fieldLink RX5 34 "LikeWords$Rules" "held" "I") (by decide +kernel)) (fun _ h9 => h9) rfl dX5_holds_65 ?_
        refine wi_icmp_ge (tgt := 211) hx hb (by first | assumption | (unfold iR; omega) | exact kR01 (by assumption)) (by first | assumption | (unfold iR; omega) | exact kR01 (by assumption)) dX5_holds_68 (by decide) (fun c_68 => ?_) (fun c_68 => ?_)
        · skip
          rw [if_pos c_68] at hres
          refine lv_iconst (v := iI (1 : Int)) hx hb dX5_holds_211 (by decide) ?_
          have kg9 : kG (y) (y) := (kG_rf _)
          have eM9 : M = kM (y) := hkM.trans (kG_M kg9).symm
          have eW9 : wl = kWl (y) := hkW.trans (kG_W kg9).symm
          have eP9 := (kG_p kg9).1
          have eS9 := (kG_p kg9).2
          have kl1 := kle.1
          have kl2 := kle.2
          have hF2 : (F_p_holds x n0).2 = y := by
            have h9 := congrArg Prod.snd hres
            exact h9.symm
          refine W.widen (k := kPo x - kPo (F_p_holds x n0).2) (n := kPs x - kPs (F_p_holds x n0).2) (by rw [hF2]; omega) (by rw [hF2]; omega) ?_
          exact W.zret (v := iI ((1 : Int))) hx hb hr (kz _ (by first | assumption | omega)) (fun t ht hW => ⟨⟨iI ((1 : Int)), (y, ad), rfl, ⟨(by have h9 := congrArg (fun z : Int × KS => iI z.1) hres; exact h9), (by have h9 := congrArg (fun z : Int × KS => z.2) hres; exact h9), had⟩, by rw [ht]; show va_P (dC, dI) vwCl (kWd cI cJ cZ cR (kWl (y)) ad (kM (y)) (y)) H; rw [← eM9, ← eW9]; exact hP, va_K.moved hW.alike hK, by show va_D A (kWd cI cJ cZ cR (kWl (y)) ad (kM (y)) (y)); rw [← eM9, ← eW9]; exact hD⟩, hS.F ht⟩) hS.2.2 dX5_holds_212
        · skip
          rw [if_neg c_68] at hres
          refine lv_aload_n hx hb dX5_holds_71 rfl (lv_at hl 0 rfl) ?_
          refine va_get (D := (dC, dI)) (ci := 5) (v := .ref (ad (58))) (C := RX5) (T := TX5) (N := 4) hx hb hts hinX5 hown hK hP (79) (kg79 (by omega)) rfl 0 (by decide) (hts (.fieldLink RX5 7 "LikeWords$Proof" "rules" "LLikeWords$Rules;") (by decide +kernel)) (fun _ h9 => h9) rfl dX5_holds_72 ?_
          refine lv_iload_n hx hb dX5_holds_75 rfl (lv_at hl 3 rfl) ?_
          refine lv_iconst (v := iI (1 : Int)) hx hb dX5_holds_76 (by decide) ?_
          have hFc : ∀ q, va_A (kWd cI cJ cZ cR wl ad M (y)) H.size q → A q := fun q hq => Or.elim hq (fun ⟨k, e, hk⟩ => hD.2 k (q, e) hk) (fun hk => hA q (Nat.le_trans hS.1 hk))
          refine va_calli (va_runV (b := ad (58)) (As := [.int (iI (d)), .int (iI ((1 : Int)))]) (rest := []) ⟨hx, hb, hml, hown, hts⟩ (c_u_spanOf l dC dI ad cI cJ cZ cR M wl H.size (y)  (d) ((1 : Int)) hM (by unfold iR; omega) (Or.inr rfl)) (cwV 2 hts gX5_holds_X7_spanOf rfl rfl rfl (by decide +kernel) ⟨Nat.le_of_ble_eq_true rfl, Nat.le_of_ble_eq_true rfl⟩) ⟨fun a U g mk q => by obtain ⟨q0, q1, qP, qK, qD, qN⟩ := q; exact ⟨q0, q1, qP, va_K.moved (u := U) (U := U.calling g mk a) (Vm.Alike.refl U.vm) qK, qD, kNw.same (u := U) (U := U.calling g mk a) rfl qN⟩, va_recv hK hP (ci := 7) (q0 := 58) rfl (kg58 (by omega)), fun U hU hW => ⟨rfl, by rw [hU], by rw [hU]; exact hP, va_K.moved hW.alike hK, hD.weaken (fun _ _ _ _ => trivial), kNw.warm hW hNw⟩⟩ rfl rfl hl.1 rfl (lv_room (Nat.le_of_ble_eq_true rfl)) dX5_holds_77 ⟨(show _ ≤ kPo x - kPo (F_p_holds x n0).2 by omega), (show _ ≤ kPs x - kPs (F_p_holds x n0).2 by omega)⟩) hS (fun q _ h => hFc q h) hFc (fun r9 u9 t H1 locs ht hvm hw hB hz1 hk1 hS => ?_)
          obtain ⟨hP1, hK1, hD1⟩ := hB
          rw [ht] at hP1
          obtain ⟨hw1, hw2⟩ := hw
          rw [hw2] at hP1 hD1
          rw [hw1]
          rw [F_u_spanOf_2] at hP1 hD1
          have hD2 := hD1.weaken (B := A) (fun _ q _ h => hFc q.1 h)
          have hP := hP1
          have hD := hD2
          generalize H1 = H at hP hS ⊢
          have hp := hI_span hy d0 (by omega)
          refine lv_istore (lv' := [(4, .int (iI ((F_u_spanOf (y) (d) ((1 : Int))).1))), (0, .ref (ad (79))), (1, .ref (ad (23))), (2, .int (iI (n0))), (3, .int (iI (d)))]) hx hb dX5_holds_80 hl (by decide) rfl (fun ls hl => ?_)
          refine lv_iconst (v := iI (0 : Int)) hx hb dX5_holds_82 (by decide) ?_
          refine lv_istore (lv' := [(5, .int (iI ((0 : Int)))), (4, .int (iI ((F_u_spanOf (y) (d) ((1 : Int))).1))), (0, .ref (ad (79))), (1, .ref (ad (23))), (2, .int (iI (n0))), (3, .int (iI (d)))]) hx hb dX5_holds_83 hl (by decide) rfl (fun ls hl => ?_)
          have kg9 : kG (y) (y) := (kG_rf _)
          have eM9 : M = kM (y) := hkM.trans (kG_M kg9).symm
          have eW9 : wl = kWl (y) := hkW.trans (kG_W kg9).symm
          have eP9 := (kG_p kg9).1
          have eS9 := (kG_p kg9).2
          have kl1 := kle.1
          have kl2 := kle.2
          refine W.widen (k := kPo x - kPo (y)) (n := kPs x - kPs (y)) (by omega) (by omega) ?_
          exact ih.2.2.1 (y) M wl ad (d) ((F_u_spanOf (y) (d) ((1 : Int))).1) ((0 : Int)) hM eM9 eW9 had ⟨by omega, by omega⟩ (hy) (by omega) (by omega) (by omega) (by omega) (by omega) (by first | exact hg | exact hp.1) (by first | omega | (rw [hp.1]; have := hp.2.1; omega)) (by omega) hres _ _ ls hP hD hS (lv_sub hl [2, 3, 4, 5, 1, 0] rfl)
      · intro y M wl ad d g k hM hkM hkW had kle hy d0 d1 d9 k0 k9 hg g9 fu hres H locs ls hP hD hS hl
        have kf9 : kLe y (F_p_holds x n0).2 := by
          rw [← hres]
          exact (F_p_holds_sle   (n + 1)).2.2.1 _ _ _ _ _ _ _
        have kf1 := kf9.1
        have kf2 := kf9.2
        rw [F_p_holds_e2] at hres
        have klx1 := kle.1
        have klx2 := kle.2
        have m58 := hy.1.1.2.1.1
        have eh : y.1 58 6 = x.1 58 6 := (hI_M hy).2.1.1
        refine lv_iload hx hb dX5_holds_85 (lv_at hl 5 rfl) ?_
        refine lv_aload_n hx hb dX5_holds_87 rfl (lv_at hl 0 rfl) ?_
        refine va_get (D := (dC, dI)) (ci := 5) (v := .ref (ad (58))) (C := RX5) (T := TX5) (N := 4) hx hb hts hinX5 hown hK hP (79) (kg79 (by omega)) rfl 0 (by decide) (hts (.fieldLink RX5 7 "LikeWords$Proof" "rules" "LLikeWords$Rules;") (by decide +kernel)) (fun _ h9 => h9) rfl dX5_holds_88 ?_
        refine va_get (D := (dC, dI)) (ci := 7) (v := .int (iI ((y).1 (58) 6))) (C := RX7) (T := TX7) (N := 7) hx hb hts hinX7 hown hK hP (58) (kg58 (by omega)) rfl 6 (by decide) (hts (.fieldLink RX5 34 "LikeWords$Rules" "held" "I") (by decide +kernel)) (fun _ h9 => h9) rfl dX5_holds_91 ?_
        refine wi_icmp_ge (tgt := 205) hx hb (by first | assumption | (unfold iR; omega) | exact kR01 (by assumption)) (by first | assumption | (unfold iR; omega) | exact kR01 (by assumption)) dX5_holds_94 (by decide) (fun c_94 => ?_) (fun c_94 => ?_)
        · skip
          rw [if_pos c_94] at hres
          refine lv_iinc (v := iI ((d) + (1 : Int))) (lv' := [(3, .int (iI ((d) + (1 : Int)))), (0, .ref (ad (79))), (1, .ref (ad (23))), (2, .int (iI (n0))), (4, .int (iI (g))), (5, .int (iI (k)))]) hx hb dX5_holds_205 hl (k := 3) rfl (iI_add _ _) (by decide) rfl (fun ls hl => ?_)
          refine lv_goto (tgt := 60) hx hb dX5_holds_208 (by decide) ?_
          have kg9 : kG (y) (y) := (kG_rf _)
          have eM9 : M = kM (y) := hkM.trans (kG_M kg9).symm
          have eW9 : wl = kWl (y) := hkW.trans (kG_W kg9).symm
          have eP9 := (kG_p kg9).1
          have eS9 := (kG_p kg9).2
          have kl1 := kle.1
          have kl2 := kle.2
          refine W.widen (k := kPo x - kPo (y)) (n := kPs x - kPs (y)) (by omega) (by omega) ?_
          exact ih.2.1 (y) M wl ad ((d) + (1 : Int)) hM eM9 eW9 had ⟨by omega, by omega⟩ (hy) (by omega) (by omega) (by omega) hres _ _ ls hP hD hS (lv_sub hl [1, 2, 3, 0] rfl)
        · skip
          rw [if_neg c_94] at hres
          refine lv_aload_n hx hb dX5_holds_97 rfl (lv_at hl 0 rfl) ?_
          refine va_get (D := (dC, dI)) (ci := 5) (v := .ref (ad (58))) (C := RX5) (T := TX5) (N := 4) hx hb hts hinX5 hown hK hP (79) (kg79 (by omega)) rfl 0 (by decide) (hts (.fieldLink RX5 7 "LikeWords$Proof" "rules" "LLikeWords$Rules;") (by decide +kernel)) (fun _ h9 => h9) rfl dX5_holds_98 ?_
          refine lv_iload hx hb dX5_holds_101 (lv_at hl 5 rfl) ?_
          refine lv_iconst (v := iI (1 : Int)) hx hb dX5_holds_103 (by decide) ?_
          have hFc : ∀ q, va_A (kWd cI cJ cZ cR wl ad M (y)) H.size q → A q := fun q hq => Or.elim hq (fun ⟨k, e, hk⟩ => hD.2 k (q, e) hk) (fun hk => hA q (Nat.le_trans hS.1 hk))
          refine va_calli (va_runV (b := ad (58)) (As := [.int (iI (k)), .int (iI ((1 : Int)))]) (rest := []) ⟨hx, hb, hml, hown, hts⟩ (c_u_spanOf l dC dI ad cI cJ cZ cR M wl H.size (y)  (k) ((1 : Int)) hM (by unfold iR; omega) (Or.inr rfl)) (cwV 2 hts gX5_holds_X7_spanOf rfl rfl rfl (by decide +kernel) ⟨Nat.le_of_ble_eq_true rfl, Nat.le_of_ble_eq_true rfl⟩) ⟨fun a U g mk q => by obtain ⟨q0, q1, qP, qK, qD, qN⟩ := q; exact ⟨q0, q1, qP, va_K.moved (u := U) (U := U.calling g mk a) (Vm.Alike.refl U.vm) qK, qD, kNw.same (u := U) (U := U.calling g mk a) rfl qN⟩, va_recv hK hP (ci := 7) (q0 := 58) rfl (kg58 (by omega)), fun U hU hW => ⟨rfl, by rw [hU], by rw [hU]; exact hP, va_K.moved hW.alike hK, hD.weaken (fun _ _ _ _ => trivial), kNw.warm hW hNw⟩⟩ rfl rfl hl.1 rfl (lv_room (Nat.le_of_ble_eq_true rfl)) dX5_holds_104 ⟨(show _ ≤ kPo x - kPo (F_p_holds x n0).2 by omega), (show _ ≤ kPs x - kPs (F_p_holds x n0).2 by omega)⟩) hS (fun q _ h => hFc q h) hFc (fun r9 u9 t H1 locs ht hvm hw hB hz1 hk1 hS => ?_)
          obtain ⟨hP1, hK1, hD1⟩ := hB
          rw [ht] at hP1
          obtain ⟨hw1, hw2⟩ := hw
          rw [hw2] at hP1 hD1
          rw [hw1]
          rw [F_u_spanOf_2] at hP1 hD1
          have hD2 := hD1.weaken (B := A) (fun _ q _ h => hFc q.1 h)
          have hP := hP1
          have hD := hD2
          generalize H1 = H at hP hS ⊢
          have hp := hI_span hy k0 (by omega)
          refine lv_istore (lv' := [(6, .int (iI ((F_u_spanOf (y) (k) ((1 : Int))).1))), (0, .ref (ad (79))), (1, .ref (ad (23))), (2, .int (iI (n0))), (3, .int (iI (d))), (4, .int (iI (g))), (5, .int (iI (k)))]) hx hb dX5_holds_107 hl (by decide) rfl (fun ls hl => ?_)
          refine lv_iconst (v := iI (1 : Int)) hx hb dX5_holds_109 (by decide) ?_
          refine lv_istore (lv' := [(7, .int (iI ((1 : Int)))), (6, .int (iI ((F_u_spanOf (y) (k) ((1 : Int))).1))), (0, .ref (ad (79))), (1, .ref (ad (23))), (2, .int (iI (n0))), (3, .int (iI (d))), (4, .int (iI (g))), (5, .int (iI (k)))]) hx hb dX5_holds_110 hl (by decide) rfl (fun ls hl => ?_)
          have kg9 : kG (y) (y) := (kG_rf _)
          have eM9 : M = kM (y) := hkM.trans (kG_M kg9).symm
          have eW9 : wl = kWl (y) := hkW.trans (kG_W kg9).symm
          have eP9 := (kG_p kg9).1
          have eS9 := (kG_p kg9).2
          have kl1 := kle.1
          have kl2 := kle.2
          refine W.widen (k := kPo x - kPo (y)) (n := kPs x - kPs (y)) (by omega) (by omega) ?_
          exact ih.2.2.2.1 (y) M wl ad (d) (g) (k) ((F_u_spanOf (y) (k) ((1 : Int))).1) ((1 : Int)) hM eM9 eW9 had ⟨by omega, by omega⟩ (hy) (by omega) (by first | omega | (rw [ez]; omega)) (by omega) (by first | omega | (rw [ez]; omega)) (by omega) (by omega) (by exact hg) (by first | exact hj | exact hp.1) (by omega) (by first | omega | (rw [hp.1]; have := hp.2.1; omega)) (by omega) (by omega) (by omega) hres _ _ ls hP hD hS (lv_sub hl [2, 3, 4, 5, 6, 7, 1, 0] rfl)
      · intro y M wl ad d g k j9 v hM hkM hkW had kle hy d0 d1 k0 k1 d9 k9 hg hj g9 j8 v0 v1 fu hres H locs ls hP hD hS hl
        have kf9 : kLe y (F_p_holds x n0).2 := by
          rw [← hres]
          exact (F_p_holds_sle   (n + 1)).2.2.2.1 _ _ _ _ _ _ _
        have kf1 := kf9.1
        have kf2 := kf9.2
        rw [F_p_holds_e3] at hres
        have klx1 := kle.1
        have klx2 := kle.2
        have m58 := hy.1.1.2.1.1
        have eh : y.1 58 6 = x.1 58 6 := (hI_M hy).2.1.1
        refine lv_iload hx hb dX5_holds_112 (lv_at hl 7 rfl) ?_
        refine lv_iload hx hb dX5_holds_114 (lv_at hl 4 rfl) ?_
        refine wi_icmp_ge (tgt := 153) hx hb (by first | assumption | (unfold iR; omega) | exact kR01 (by assumption)) (by first | assumption | (unfold iR; omega) | exact kR01 (by assumption)) dX5_holds_116 (by decide) (fun c_116 => ?_) (fun c_116 => ?_)
        · skip
          rw [if_pos c_116] at hres
          refine lv_iconst (v := iI (0 : Int)) hx hb dX5_holds_153 (by decide) ?_
          refine lv_istore (lv' := [(7, .int (iI ((0 : Int)))), (0, .ref (ad (79))), (1, .ref (ad (23))), (2, .int (iI (n0))), (3, .int (iI (d))), (4, .int (iI (g))), (5, .int (iI (k))), (6, .int (iI (j9)))]) hx hb dX5_holds_154 hl (by decide) rfl (fun ls hl => ?_)
          have kg9 : kG (y) (y) := (kG_rf _)
          have eM9 : M = kM (y) := hkM.trans (kG_M kg9).symm
          have eW9 : wl = kWl (y) := hkW.trans (kG_W kg9).symm
          have eP9 := (kG_p kg9).1
          have eS9 := (kG_p kg9).2
          have kl1 := kle.1
          have kl2 := kle.2
          refine W.widen (k := kPo x - kPo (y)) (n := kPs x - kPs (y)) (by omega) (by omega) ?_
          exact ih.2.2.2.2 (y) M wl ad (d) (g) (k) (j9) ((0 : Int)) hM eM9 eW9 had ⟨by omega, by omega⟩ (hy) (by omega) (by first | omega | (rw [ez]; omega)) (by omega) (by first | omega | (rw [ez]; omega)) (by omega) (by omega) (by exact hg) (by exact hj) (by omega) (by omega) (by omega) (by omega) (by omega) hres _ _ ls hP hD hS (lv_sub hl [1, 2, 3, 4, 5, 6, 7, 0] rfl)
        · skip
          rw [if_neg c_116] at hres
          refine lv_iload hx hb dX5_holds_119 (lv_at hl 7 rfl) ?_
          refine lv_iload hx hb dX5_holds_121 (lv_at hl 6 rfl) ?_
          refine wi_icmp_ge (tgt := 153) hx hb (by first | assumption | (unfold iR; omega) | exact kR01 (by assumption)) (by first | assumption | (unfold iR; omega) | exact kR01 (by assumption)) dX5_holds_123 (by decide) (fun c_123 => ?_) (fun c_123 => ?_)
          · skip
            rw [if_pos c_123] at hres
            refine lv_iconst (v := iI (0 : Int)) hx hb dX5_holds_153 (by decide) ?_
            refine lv_istore (lv' := [(7, .int (iI ((0 : Int)))), (0, .ref (ad (79))), (1, .ref (ad (23))), (2, .int (iI (n0))), (3, .int (iI (d))), (4, .int (iI (g))), (5, .int (iI (k))), (6, .int (iI (j9)))]) hx hb dX5_holds_154 hl (by decide) rfl (fun ls hl => ?_)
            have kg9 : kG (y) (y) := (kG_rf _)
            have eM9 : M = kM (y) := hkM.trans (kG_M kg9).symm
            have eW9 : wl = kWl (y) := hkW.trans (kG_W kg9).symm
            have eP9 := (kG_p kg9).1
            have eS9 := (kG_p kg9).2
            have kl1 := kle.1
            have kl2 := kle.2
            refine W.widen (k := kPo x - kPo (y)) (n := kPs x - kPs (y)) (by omega) (by omega) ?_
            exact ih.2.2.2.2 (y) M wl ad (d) (g) (k) (j9) ((0 : Int)) hM eM9 eW9 had ⟨by omega, by omega⟩ (hy) (by omega) (by first | omega | (rw [ez]; omega)) (by omega) (by first | omega | (rw [ez]; omega)) (by omega) (by omega) (by exact hg) (by exact hj) (by omega) (by omega) (by omega) (by omega) (by omega) hres _ _ ls hP hD hS (lv_sub hl [1, 2, 3, 4, 5, 6, 7, 0] rfl)
          · skip
            rw [if_neg c_123] at hres
            refine lv_aload_n hx hb dX5_holds_126 rfl (lv_at hl 0 rfl) ?_
            refine lv_iload_n hx hb dX5_holds_127 rfl (lv_at hl 3 rfl) ?_
            refine lv_iload hx hb dX5_holds_128 (lv_at hl 5 rfl) ?_
            refine lv_iload hx hb dX5_holds_130 (lv_at hl 7 rfl) ?_
            have hFc : ∀ q, va_A (kWd cI cJ cZ cR wl ad M (y)) H.size q → A q := fun q hq => Or.elim hq (fun ⟨k, e, hk⟩ => hD.2 k (q, e) hk) (fun hk => hA q (Nat.le_trans hS.1 hk))
            refine va_calli (va_runV (b := ad (79)) (As := [.int (iI (d)), .int (iI (k)), .int (iI (v))]) (rest := []) ⟨hx, hb, hml, hown, hts⟩ (c_p_meets l dC dI ad cI cJ cZ cR M wl H.size (y)  (d) (k) (v) hM hy.1.1.2.1 (by unfold iR; omega) (by unfold iR; omega) (by omega) (by omega)) (cwV 3 hts gX5_holds_X5_meets rfl rfl rfl (by decide +kernel) ⟨Nat.le_of_ble_eq_true rfl, Nat.le_of_ble_eq_true rfl⟩) ⟨fun a U g mk q => by obtain ⟨q0, q1, qP, qK, qD, qN⟩ := q; exact ⟨q0, q1, qP, va_K.moved (u := U) (U := U.calling g mk a) (Vm.Alike.refl U.vm) qK, qD, kNw.same (u := U) (U := U.calling g mk a) rfl qN⟩, va_recv hK hP (ci := 5) (q0 := 79) rfl (kg79 (by omega)), fun U hU hW => ⟨rfl, by rw [hU], by rw [hU]; exact hP, va_K.moved hW.alike hK, hD.weaken (fun _ _ _ _ => trivial), kNw.warm hW hNw⟩⟩ rfl rfl hl.1 rfl (lv_room (Nat.le_of_ble_eq_true rfl)) dX5_holds_132 ⟨(show _ ≤ kPo x - kPo (F_p_holds x n0).2 by omega), (show _ ≤ kPs x - kPs (F_p_holds x n0).2 by omega)⟩) hS (fun q _ h => hFc q h) hFc (fun r9 u9 t H1 locs ht hvm hw hB hz1 hk1 hS => ?_)
            obtain ⟨hP1, hK1, hD1⟩ := hB
            rw [ht] at hP1
            obtain ⟨hw1, hw2⟩ := hw
            rw [hw2] at hP1 hD1
            rw [hw1]
            have hD2 := hD1.weaken (B := A) (fun _ q _ h => hFc q.1 h)
            have hP := hP1
            have hD := hD2
            generalize H1 = H at hP hS ⊢
            have hm := hI_meets hy (v := v) d0 d1 k0 k1 (by omega) (by rw [sM_lS (hI_M hy)]; omega) (by rw [sM_lS (hI_M hy)]; omega)
            have ez : ((F_p_meets (y) (d) (k) (v)).2).1 58 6 = y.1 58 6 := (F_p_meets_fr y d k v).1 58 6 (by decide)
            refine wi_if_eq (tgt := 147) hx hb (kR01 hm.2.1) dX5_holds_135 (by decide) (fun c_135 => ?_) (fun c_135 => ?_)
            · skip
              rw [if_pos c_135] at hres
              refine lv_iinc (v := iI ((v) + (1 : Int))) (lv' := [(7, .int (iI ((v) + (1 : Int)))), (0, .ref (ad (79))), (1, .ref (ad (23))), (2, .int (iI (n0))), (3, .int (iI (d))), (4, .int (iI (g))), (5, .int (iI (k))), (6, .int (iI (j9)))]) hx hb dX5_holds_147 hl (k := 7) rfl (iI_add _ _) (by decide) rfl (fun ls hl => ?_)
              refine lv_goto (tgt := 112) hx hb dX5_holds_150 (by decide) ?_
              have kg9 : kG (y) ((F_p_meets (y) (d) (k) (v)).2) := (kG_tr (kG_rf _) (kG_of (F_p_meets_fr (y) (d) (k) (v)) (by first | decide | (intro h9; simp at h9; done) | (intro h9; simp at h9; omega)) (by first | decide | (intro h9; simp at h9; done) | (intro h9; simp at h9; omega))))
              have eM9 : M = kM ((F_p_meets (y) (d) (k) (v)).2) := hkM.trans (kG_M kg9).symm
              have eW9 : wl = kWl ((F_p_meets (y) (d) (k) (v)).2) := hkW.trans (kG_W kg9).symm
              have eP9 := (kG_p kg9).1
              have eS9 := (kG_p kg9).2
              have kl1 := kle.1
              have kl2 := kle.2
              refine W.widen (k := kPo x - kPo ((F_p_meets (y) (d) (k) (v)).2)) (n := kPs x - kPs ((F_p_meets (y) (d) (k) (v)).2)) (by omega) (by omega) ?_
              exact ih.2.2.2.1 ((F_p_meets (y) (d) (k) (v)).2) M wl ad (d) (g) (k) (j9) ((v) + (1 : Int)) hM eM9 eW9 had ⟨by omega, by omega⟩ (hm.1) (by omega) (by first | omega | (rw [ez]; omega)) (by omega) (by first | omega | (rw [ez]; omega)) (by omega) (by omega) (by exact hg) (by first | exact hj | exact hp.1) (by omega) (by first | omega | (rw [hp.1]; have := hp.2.1; omega)) (by omega) (by omega) (by omega) hres _ _ ls hP hD hS (lv_sub hl [1, 2, 3, 4, 5, 6, 7, 0] rfl)
            · skip
              rw [if_neg c_135] at hres
              refine lv_aload_n hx hb dX5_holds_138 rfl (lv_at hl 0 rfl) ?_
              have hn := hm.2.2 c_135
              have kg9 : kG (y) ((F_p_meets (y) (d) (k) (v)).2) := (kG_tr (kG_rf _) (kG_of (F_p_meets_fr (y) (d) (k) (v)) (by first | decide | (intro h9; simp at h9; done) | (intro h9; simp at h9; omega)) (by first | decide | (intro h9; simp at h9; done) | (intro h9; simp at h9; omega))))
              have eM9 : M = kM ((F_p_meets (y) (d) (k) (v)).2) := hkM.trans (kG_M kg9).symm
              have eW9 : wl = kWl ((F_p_meets (y) (d) (k) (v)).2) := hkW.trans (kG_W kg9).symm
              have eP9 := (kG_p kg9).1
              have eS9 := (kG_p kg9).2
              have kl1 := kle.1
              have kl2 := kle.2
              have kfn : kLe (F_p_agree ((F_p_meets (y) (d) (k) (v)).2)).2 (F_p_holds x n0).2 := by
                rw [← hres]
                by_cases hc9 : ((F_p_agree ((F_p_meets (y) (d) (k) (v)).2)).1) = (0)
                · rw [if_pos hc9]
                  exact (kLe_rf _)
                · rw [if_neg hc9]
                  exact kLe_tr (kLe_rf _) ((F_p_holds_sle   _).2.2.2.1 ((F_p_agree ((F_p_meets (y) (d) (k) (v)).2)).2) (n0) (d) (g) (k) (j9) ((v) + (1 : Int)))
              have kf1 := kfn.1
              have kf2 := kfn.2
              have kd9 : kLe ((F_p_meets (y) (d) (k) (v)).2) (F_p_agree ((F_p_meets (y) (d) (k) (v)).2)).2 := (F_p_agree_le ((F_p_meets (y) (d) (k) (v)).2))
              have kd1 := kd9.1
              have kd2 := kd9.2
              have hFc : ∀ q, va_A (kWd cI cJ cZ cR wl ad M ((F_p_meets (y) (d) (k) (v)).2)) H.size q → A q := fun q hq => Or.elim hq (fun ⟨k, e, hk⟩ => hD.2 k (q, e) hk) (fun hk => hA q (Nat.le_trans hS.1 hk))
              refine va_calli (va_runV (b := ad (79)) (As := []) (rest := []) ⟨hx, hb, hml, hown, hts⟩ (c_p_agree l dC dI ad cI cJ cZ cR M wl H.size ((F_p_meets (y) (d) (k) (v)).2)   hM eM9 eW9 hm.1.1 hn.1 hn.2) (cwV 0 hts gX5_holds_X5_agree rfl rfl rfl (by decide +kernel) ⟨Nat.le_of_ble_eq_true rfl, Nat.le_of_ble_eq_true rfl⟩) ⟨fun a U g mk q => by obtain ⟨q0, q1, qP, qK, qD, qN⟩ := q; exact ⟨q0, q1, qP, va_K.moved (u := U) (U := U.calling g mk a) (Vm.Alike.refl U.vm) qK, qD, kNw.same (u := U) (U := U.calling g mk a) rfl qN⟩, va_recv hK hP (ci := 5) (q0 := 79) rfl (kg79 (by omega)), fun U hU hW => ⟨rfl, by rw [hU], by rw [hU]; exact hP, va_K.moved hW.alike hK, hD.weaken (fun _ _ _ _ => trivial), kNw.warm hW hNw⟩⟩ rfl rfl hl.1 rfl (lv_room (Nat.le_of_ble_eq_true rfl)) dX5_holds_139 ⟨(show _ ≤ kPo x - kPo (F_p_holds x n0).2 by omega), (show _ ≤ kPs x - kPs (F_p_holds x n0).2 by omega)⟩) hS (fun q _ h => hFc q h) hFc (fun r9 u9 t H1 locs ht hvm hw hB hz1 hk1 hS => ?_)
              obtain ⟨hP1, hK1, hD1⟩ := hB
              rw [ht] at hP1
              obtain ⟨z9, ad⟩ := u9
              obtain ⟨hw1, hw2, hw3⟩ := hw
              rw [hw1]
              have hw2 : z9 = (F_p_agree ((F_p_meets (y) (d) (k) (v)).2)).2 := hw2
              subst hw2
              have hw3 := fun c (hc : c < 87) => (show ad c = _ from hw3 c hc)
              have had : ∀ c, c < 87 → ad c = ao c := fun c hc => (hw3 c hc).trans (had c hc)
              have hl : lv_has ls 8 [(0, .ref (ad (79))), (1, .ref (ad (23))), (2, .int (iI (n0))), (3, .int (iI (d))), (4, .int (iI (g))), (5, .int (iI (k))), (6, .int (iI (j9))), (7, .int (iI (v)))] := by
                rw [hw3 (79) (by omega), hw3 (23) (by omega)]
                exact hl
              have hP1 : va_P (dC, dI) vwCl (kWd cI cJ cZ cR (kWl (F_p_agree ((F_p_meets (y) (d) (k) (v)).2)).2) ad (kM (F_p_agree ((F_p_meets (y) (d) (k) (v)).2)).2) (F_p_agree ((F_p_meets (y) (d) (k) (v)).2)).2) H1 := hP1
              have hD1 : va_D A (kWd cI cJ cZ cR (kWl (F_p_agree ((F_p_meets (y) (d) (k) (v)).2)).2) ad (kM (F_p_agree ((F_p_meets (y) (d) (k) (v)).2)).2) (F_p_agree ((F_p_meets (y) (d) (k) (v)).2)).2) := hD1.weaken (B := A) (fun _ q _ h => hFc q.1 h)
              have kle : kLe x (F_p_agree ((F_p_meets (y) (d) (k) (v)).2)).2 := ⟨by omega, by omega⟩
              refine W.widen (k := kPo x - kPo (F_p_agree ((F_p_meets (y) (d) (k) (v)).2)).2) (n := kPs x - kPs (F_p_agree ((F_p_meets (y) (d) (k) (v)).2)).2) (by omega) (by omega) ?_
              obtain ⟨M, hkM⟩ : ∃ M9, M9 = kM (F_p_agree ((F_p_meets (y) (d) (k) (v)).2)).2 := ⟨_, rfl⟩
              obtain ⟨wl, hkW⟩ : ∃ W9, W9 = kWl (F_p_agree ((F_p_meets (y) (d) (k) (v)).2)).2 := ⟨_, rfl⟩
              rw [← hkM, ← hkW] at hP1 hD1
              have hM : 87 ≤ M := by rw [hkM]; exact kM_ge _
              have hP := hP1
              have hD := hD1
              generalize H1 = H at hP hS ⊢
              have ha := hI_agree hm.1 hn.1 hn.2
              have ez : ((F_p_agree ((F_p_meets (y) (d) (k) (v)).2)).2).1 58 6 = y.1 58 6 := by rw [(F_p_agree_fr (F_p_meets (y) (d) (k) (v)).2).1 58 6 (by decide) (by decide), (F_p_meets_fr y d k v).1 58 6 (by decide)]
              refine wi_if_ne (tgt := 147) hx hb (kR01 ha.2) dX5_holds_142 (by decide) (fun c_142 => ?_) (fun c_142 => ?_)
              · skip
                rw [if_neg c_142] at hres
                refine lv_iinc (v := iI ((v) + (1 : Int))) (lv' := [(7, .int (iI ((v) + (1 : Int)))), (0, .ref (ad (79))), (1, .ref (ad (23))), (2, .int (iI (n0))), (3, .int (iI (d))), (4, .int (iI (g))), (5, .int (iI (k))), (6, .int (iI (j9)))]) hx hb dX5_holds_147 hl (k := 7) rfl (iI_add _ _) (by decide) rfl (fun ls hl => ?_)
                refine lv_goto (tgt := 112) hx hb dX5_holds_150 (by decide) ?_
                have kg9 : kG ((F_p_agree ((F_p_meets (y) (d) (k) (v)).2)).2) ((F_p_agree ((F_p_meets (y) (d) (k) (v)).2)).2) := (kG_rf _)
                have eM9 : M = kM ((F_p_agree ((F_p_meets (y) (d) (k) (v)).2)).2) := hkM.trans (kG_M kg9).symm
                have eW9 : wl = kWl ((F_p_agree ((F_p_meets (y) (d) (k) (v)).2)).2) := hkW.trans (kG_W kg9).symm
                have eP9 := (kG_p kg9).1
                have eS9 := (kG_p kg9).2
                have kl1 := kle.1
                have kl2 := kle.2
                refine W.widen (k := kPo x - kPo ((F_p_agree ((F_p_meets (y) (d) (k) (v)).2)).2)) (n := kPs x - kPs ((F_p_agree ((F_p_meets (y) (d) (k) (v)).2)).2)) (by omega) (by omega) ?_
                exact ih.2.2.2.1 ((F_p_agree ((F_p_meets (y) (d) (k) (v)).2)).2) M wl ad (d) (g) (k) (j9) ((v) + (1 : Int)) hM eM9 eW9 had ⟨by omega, by omega⟩ (ha.1) (by omega) (by first | omega | (rw [ez]; omega)) (by omega) (by first | omega | (rw [ez]; omega)) (by omega) (by omega) (by exact hg) (by first | exact hj | exact hp.1) (by omega) (by first | omega | (rw [hp.1]; have := hp.2.1; omega)) (by omega) (by omega) (by omega) hres _ _ ls hP hD hS (lv_sub hl [1, 2, 3, 4, 5, 6, 7, 0] rfl)
              · skip
                rw [if_pos c_142] at hres
                refine lv_iconst (v := iI (0 : Int)) hx hb dX5_holds_145 (by decide) ?_
                have kg9 : kG ((F_p_agree ((F_p_meets (y) (d) (k) (v)).2)).2) ((F_p_agree ((F_p_meets (y) (d) (k) (v)).2)).2) := (kG_rf _)
                have eM9 : M = kM ((F_p_agree ((F_p_meets (y) (d) (k) (v)).2)).2) := hkM.trans (kG_M kg9).symm
                have eW9 : wl = kWl ((F_p_agree ((F_p_meets (y) (d) (k) (v)).2)).2) := hkW.trans (kG_W kg9).symm
                have eP9 := (kG_p kg9).1
                have eS9 := (kG_p kg9).2
                have kl1 := kle.1
                have kl2 := kle.2
                have hF2 : (F_p_holds x n0).2 = (F_p_agree ((F_p_meets (y) (d) (k) (v)).2)).2 := by
                  have h9 := congrArg Prod.snd hres
                  exact h9.symm
                refine W.widen (k := kPo x - kPo (F_p_holds x n0).2) (n := kPs x - kPs (F_p_holds x n0).2) (by rw [hF2]; omega) (by rw [hF2]; omega) ?_
                exact W.zret (v := iI ((0 : Int))) hx hb hr (kz _ (by first | assumption | omega)) (fun t ht hW => ⟨⟨iI ((0 : Int)), ((F_p_agree ((F_p_meets (y) (d) (k) (v)).2)).2, ad), rfl, ⟨(by have h9 := congrArg (fun z : Int × KS => iI z.1) hres; exact h9), (by have h9 := congrArg (fun z : Int × KS => z.2) hres; exact h9), had⟩, by rw [ht]; show va_P (dC, dI) vwCl (kWd cI cJ cZ cR (kWl ((F_p_agree ((F_p_meets (y) (d) (k) (v)).2)).2)) ad (kM ((F_p_agree ((F_p_meets (y) (d) (k) (v)).2)).2)) ((F_p_agree ((F_p_meets (y) (d) (k) (v)).2)).2)) H; rw [← eM9, ← eW9]; exact hP, va_K.moved hW.alike hK, by show va_D A (kWd cI cJ cZ cR (kWl ((F_p_agree ((F_p_meets (y) (d) (k) (v)).2)).2)) ad (kM ((F_p_agree ((F_p_meets (y) (d) (k) (v)).2)).2)) ((F_p_agree ((F_p_meets (y) (d) (k) (v)).2)).2)); rw [← eM9, ← eW9]; exact hD⟩, hS.F ht⟩) hS.2.2 dX5_holds_146
      · intro y M wl ad d g k j9 v hM hkM hkW had kle hy d0 d1 k0 k1 d9 k9 hg hj g9 j8 v0 v1 fu hres H locs ls hP hD hS hl
        have kf9 : kLe y (F_p_holds x n0).2 := by
          rw [← hres]
          exact (F_p_holds_sle   (n + 1)).2.2.2.2 _ _ _ _ _ _ _
        have kf1 := kf9.1
        have kf2 := kf9.2
        rw [F_p_holds_e4] at hres
        have klx1 := kle.1
        have klx2 := kle.2
        have m58 := hy.1.1.2.1.1
        have eh : y.1 58 6 = x.1 58 6 := (hI_M hy).2.1.1
        have j1 : 1 ≤ j9 := by
          have hr9 : k.toNat < nR y := by unfold nR; omega
          have ne9 := mc_left0 hy.1.1 k.toNat hr9
          rw [sM_lS (hI_M hy)] at ne9
          have := List.length_pos_iff.mpr ne9
          omega
        refine lv_iload_n hx hb dX5_holds_156 rfl (lv_at hl 3 rfl) ?_
        refine lv_iload hx hb dX5_holds_157 (lv_at hl 5 rfl) ?_
        refine wi_icmp_eq (tgt := 199) hx hb (by first | assumption | (unfold iR; omega) | exact kR01 (by assumption)) (by first | assumption | (unfold iR; omega) | exact kR01 (by assumption)) dX5_holds_159 (by decide) (fun c_159 => ?_) (fun c_159 => ?_)
        · skip
          rw [if_pos c_159] at hres
          refine lv_iinc (v := iI ((k) + (1 : Int))) (lv' := [(5, .int (iI ((k) + (1 : Int)))), (0, .ref (ad (79))), (1, .ref (ad (23))), (2, .int (iI (n0))), (3, .int (iI (d))), (4, .int (iI (g))), (6, .int (iI (j9))), (7, .int (iI (v)))]) hx hb dX5_holds_199 hl (k := 5) rfl (iI_add _ _) (by decide) rfl (fun ls hl => ?_)
          refine lv_goto (tgt := 85) hx hb dX5_holds_202 (by decide) ?_
          have kg9 : kG (y) (y) := (kG_rf _)
          have eM9 : M = kM (y) := hkM.trans (kG_M kg9).symm
          have eW9 : wl = kWl (y) := hkW.trans (kG_W kg9).symm
          have eP9 := (kG_p kg9).1
          have eS9 := (kG_p kg9).2
          have kl1 := kle.1
          have kl2 := kle.2
          refine W.widen (k := kPo x - kPo (y)) (n := kPs x - kPs (y)) (by omega) (by omega) ?_
          exact ih.2.2.1 (y) M wl ad (d) (g) ((k) + (1 : Int)) hM eM9 eW9 had ⟨by omega, by omega⟩ (hy) (by omega) (by omega) (by omega) (by omega) (by omega) (by first | exact hg | exact hp.1) (by first | omega | (rw [hp.1]; have := hp.2.1; omega)) (by omega) hres _ _ ls hP hD hS (lv_sub hl [1, 2, 3, 4, 5, 0] rfl)
        · skip
          rw [if_neg c_159] at hres
          refine lv_iload hx hb dX5_holds_162 (lv_at hl 7 rfl) ?_
          refine lv_iload hx hb dX5_holds_164 (lv_at hl 6 rfl) ?_
          refine wi_iadd hx hb dX5_holds_166 ?_
          refine lv_iload hx hb dX5_holds_167 (lv_at hl 4 rfl) ?_
          refine wi_icmp_gt (tgt := 199) hx hb (by first | assumption | (unfold iR; omega) | exact kR01 (by assumption)) (by first | assumption | (unfold iR; omega) | exact kR01 (by assumption)) dX5_holds_169 (by decide) (fun c_169 => ?_) (fun c_169 => ?_)
          · skip
            rw [if_pos c_169] at hres
            refine lv_iinc (v := iI ((k) + (1 : Int))) (lv' := [(5, .int (iI ((k) + (1 : Int)))), (0, .ref (ad (79))), (1, .ref (ad (23))), (2, .int (iI (n0))), (3, .int (iI (d))), (4, .int (iI (g))), (6, .int (iI (j9))), (7, .int (iI (v)))]) hx hb dX5_holds_199 hl (k := 5) rfl (iI_add _ _) (by decide) rfl (fun ls hl => ?_)
            refine lv_goto (tgt := 85) hx hb dX5_holds_202 (by decide) ?_
            have kg9 : kG (y) (y) := (kG_rf _)
            have eM9 : M = kM (y) := hkM.trans (kG_M kg9).symm
            have eW9 : wl = kWl (y) := hkW.trans (kG_W kg9).symm
            have eP9 := (kG_p kg9).1
            have eS9 := (kG_p kg9).2
            have kl1 := kle.1
            have kl2 := kle.2
            refine W.widen (k := kPo x - kPo (y)) (n := kPs x - kPs (y)) (by omega) (by omega) ?_
            exact ih.2.2.1 (y) M wl ad (d) (g) ((k) + (1 : Int)) hM eM9 eW9 had ⟨by omega, by omega⟩ (hy) (by omega) (by omega) (by omega) (by omega) (by omega) (by first | exact hg | exact hp.1) (by first | omega | (rw [hp.1]; have := hp.2.1; omega)) (by omega) hres _ _ ls hP hD hS (lv_sub hl [1, 2, 3, 4, 5, 0] rfl)
          · skip
            rw [if_neg c_169] at hres
            refine lv_aload_n hx hb dX5_holds_172 rfl (lv_at hl 0 rfl) ?_
            refine lv_iload_n hx hb dX5_holds_173 rfl (lv_at hl 3 rfl) ?_
            refine lv_iload hx hb dX5_holds_174 (lv_at hl 5 rfl) ?_
            refine lv_iload hx hb dX5_holds_176 (lv_at hl 7 rfl) ?_
            have hFc : ∀ q, va_A (kWd cI cJ cZ cR wl ad M (y)) H.size q → A q := fun q hq => Or.elim hq (fun ⟨k, e, hk⟩ => hD.2 k (q, e) hk) (fun hk => hA q (Nat.le_trans hS.1 hk))
            refine va_calli (va_runV (b := ad (79)) (As := [.int (iI (d)), .int (iI (k)), .int (iI (v))]) (rest := []) ⟨hx, hb, hml, hown, hts⟩ (c_p_encloses l dC dI ad cI cJ cZ cR M wl H.size (y)  (d) (k) (v) hM hy.1.1.2.1 (by unfold iR; omega) (by unfold iR; omega) (by omega) (by omega)) (cwV 3 hts gX5_holds_X5_encloses rfl rfl rfl (by decide +kernel) ⟨Nat.le_of_ble_eq_true rfl, Nat.le_of_ble_eq_true rfl⟩) ⟨fun a U g mk q => by obtain ⟨q0, q1, qP, qK, qD, qN⟩ := q; exact ⟨q0, q1, qP, va_K.moved (u := U) (U := U.calling g mk a) (Vm.Alike.refl U.vm) qK, qD, kNw.same (u := U) (U := U.calling g mk a) rfl qN⟩, va_recv hK hP (ci := 5) (q0 := 79) rfl (kg79 (by omega)), fun U hU hW => ⟨rfl, by rw [hU], by rw [hU]; exact hP, va_K.moved hW.alike hK, hD.weaken (fun _ _ _ _ => trivial), kNw.warm hW hNw⟩⟩ rfl rfl hl.1 rfl (lv_room (Nat.le_of_ble_eq_true rfl)) dX5_holds_178 ⟨(show _ ≤ kPo x - kPo (F_p_holds x n0).2 by omega), (show _ ≤ kPs x - kPs (F_p_holds x n0).2 by omega)⟩) hS (fun q _ h => hFc q h) hFc (fun r9 u9 t H1 locs ht hvm hw hB hz1 hk1 hS => ?_)
            obtain ⟨hP1, hK1, hD1⟩ := hB
            rw [ht] at hP1
            obtain ⟨hw1, hw2⟩ := hw
            rw [hw2] at hP1 hD1
            rw [hw1]
            have hD2 := hD1.weaken (B := A) (fun _ q _ h => hFc q.1 h)
            have hP := hP1
            have hD := hD2
            generalize H1 = H at hP hS ⊢
            have hm := hI_encloses hy (v := v) d0 d1 k0 k1 (by omega) (by rw [sM_lS (hI_M hy), ← hg, ← hj]; omega)
            have ez : ((F_p_encloses (y) (d) (k) (v)).2).1 58 6 = y.1 58 6 := (F_p_encloses_fr y d k v).1 58 6 (by decide)
            refine wi_if_eq (tgt := 193) hx hb (kR01 hm.2.1) dX5_holds_181 (by decide) (fun c_181 => ?_) (fun c_181 => ?_)
            · skip
              rw [if_pos c_181] at hres
              refine lv_iinc (v := iI ((v) + (1 : Int))) (lv' := [(7, .int (iI ((v) + (1 : Int)))), (0, .ref (ad (79))), (1, .ref (ad (23))), (2, .int (iI (n0))), (3, .int (iI (d))), (4, .int (iI (g))), (5, .int (iI (k))), (6, .int (iI (j9)))]) hx hb dX5_holds_193 hl (k := 7) rfl (iI_add _ _) (by decide) rfl (fun ls hl => ?_)
              refine lv_goto (tgt := 156) hx hb dX5_holds_196 (by decide) ?_
              have kg9 : kG (y) ((F_p_encloses (y) (d) (k) (v)).2) := (kG_tr (kG_rf _) (kG_of (F_p_encloses_fr (y) (d) (k) (v)) (by first | decide | (intro h9; simp at h9; done) | (intro h9; simp at h9; omega)) (by first | decide | (intro h9; simp at h9; done) | (intro h9; simp at h9; omega))))
              have eM9 : M = kM ((F_p_encloses (y) (d) (k) (v)).2) := hkM.trans (kG_M kg9).symm
              have eW9 : wl = kWl ((F_p_encloses (y) (d) (k) (v)).2) := hkW.trans (kG_W kg9).symm
              have eP9 := (kG_p kg9).1
              have eS9 := (kG_p kg9).2
              have kl1 := kle.1
              have kl2 := kle.2
              refine W.widen (k := kPo x - kPo ((F_p_encloses (y) (d) (k) (v)).2)) (n := kPs x - kPs ((F_p_encloses (y) (d) (k) (v)).2)) (by omega) (by omega) ?_
              exact ih.2.2.2.2 ((F_p_encloses (y) (d) (k) (v)).2) M wl ad (d) (g) (k) (j9) ((v) + (1 : Int)) hM eM9 eW9 had ⟨by omega, by omega⟩ (hm.1) (by omega) (by first | omega | (rw [ez]; omega)) (by omega) (by first | omega | (rw [ez]; omega)) (by omega) (by omega) (by exact hg) (by exact hj) (by omega) (by omega) (by omega) (by omega) (by omega) hres _ _ ls hP hD hS (lv_sub hl [1, 2, 3, 4, 5, 6, 7, 0] rfl)
            · skip
              rw [if_neg c_181] at hres
              refine lv_aload_n hx hb dX5_holds_184 rfl (lv_at hl 0 rfl) ?_
              have hn := hm.2.2 c_181
              have kg9 : kG (y) ((F_p_encloses (y) (d) (k) (v)).2) := (kG_tr (kG_rf _) (kG_of (F_p_encloses_fr (y) (d) (k) (v)) (by first | decide | (intro h9; simp at h9; done) | (intro h9; simp at h9; omega)) (by first | decide | (intro h9; simp at h9; done) | (intro h9; simp at h9; omega))))
              have eM9 : M = kM ((F_p_encloses (y) (d) (k) (v)).2) := hkM.trans (kG_M kg9).symm
              have eW9 : wl = kWl ((F_p_encloses (y) (d) (k) (v)).2) := hkW.trans (kG_W kg9).symm
              have eP9 := (kG_p kg9).1
              have eS9 := (kG_p kg9).2
              have kl1 := kle.1
              have kl2 := kle.2
              have kfn : kLe (F_p_agree ((F_p_encloses (y) (d) (k) (v)).2)).2 (F_p_holds x n0).2 := by
                rw [← hres]
                by_cases hc9 : ((F_p_agree ((F_p_encloses (y) (d) (k) (v)).2)).1) = (0)
                · rw [if_pos hc9]
                  exact (kLe_rf _)
                · rw [if_neg hc9]
                  exact kLe_tr (kLe_rf _) ((F_p_holds_sle   _).2.2.2.2 ((F_p_agree ((F_p_encloses (y) (d) (k) (v)).2)).2) (n0) (d) (g) (k) (j9) ((v) + (1 : Int)))
              have kf1 := kfn.1
              have kf2 := kfn.2
              have kd9 : kLe ((F_p_encloses (y) (d) (k) (v)).2) (F_p_agree ((F_p_encloses (y) (d) (k) (v)).2)).2 := (F_p_agree_le ((F_p_encloses (y) (d) (k) (v)).2))
              have kd1 := kd9.1
              have kd2 := kd9.2
              have hFc : ∀ q, va_A (kWd cI cJ cZ cR wl ad M ((F_p_encloses (y) (d) (k) (v)).2)) H.size q → A q := fun q hq => Or.elim hq (fun ⟨k, e, hk⟩ => hD.2 k (q, e) hk) (fun hk => hA q (Nat.le_trans hS.1 hk))
              refine va_calli (va_runV (b := ad (79)) (As := []) (rest := []) ⟨hx, hb, hml, hown, hts⟩ (c_p_agree l dC dI ad cI cJ cZ cR M wl H.size ((F_p_encloses (y) (d) (k) (v)).2)   hM eM9 eW9 hm.1.1 hn.1 hn.2) (cwV 0 hts gX5_holds_X5_agree rfl rfl rfl (by decide +kernel) ⟨Nat.le_of_ble_eq_true rfl, Nat.le_of_ble_eq_true rfl⟩) ⟨fun a U g mk q => by obtain ⟨q0, q1, qP, qK, qD, qN⟩ := q; exact ⟨q0, q1, qP, va_K.moved (u := U) (U := U.calling g mk a) (Vm.Alike.refl U.vm) qK, qD, kNw.same (u := U) (U := U.calling g mk a) rfl qN⟩, va_recv hK hP (ci := 5) (q0 := 79) rfl (kg79 (by omega)), fun U hU hW => ⟨rfl, by rw [hU], by rw [hU]; exact hP, va_K.moved hW.alike hK, hD.weaken (fun _ _ _ _ => trivial), kNw.warm hW hNw⟩⟩ rfl rfl hl.1 rfl (lv_room (Nat.le_of_ble_eq_true rfl)) dX5_holds_185 ⟨(show _ ≤ kPo x - kPo (F_p_holds x n0).2 by omega), (show _ ≤ kPs x - kPs (F_p_holds x n0).2 by omega)⟩) hS (fun q _ h => hFc q h) hFc (fun r9 u9 t H1 locs ht hvm hw hB hz1 hk1 hS => ?_)
              obtain ⟨hP1, hK1, hD1⟩ := hB
              rw [ht] at hP1
              obtain ⟨z9, ad⟩ := u9
              obtain ⟨hw1, hw2, hw3⟩ := hw
              rw [hw1]
              have hw2 : z9 = (F_p_agree ((F_p_encloses (y) (d) (k) (v)).2)).2 := hw2
              subst hw2
              have hw3 := fun c (hc : c < 87) => (show ad c = _ from hw3 c hc)
              have had : ∀ c, c < 87 → ad c = ao c := fun c hc => (hw3 c hc).trans (had c hc)
              have hl : lv_has ls 8 [(0, .ref (ad (79))), (1, .ref (ad (23))), (2, .int (iI (n0))), (3, .int (iI (d))), (4, .int (iI (g))), (5, .int (iI (k))), (6, .int (iI (j9))), (7, .int (iI (v)))] := by
                rw [hw3 (79) (by omega), hw3 (23) (by omega)]
                exact hl
              have hP1 : va_P (dC, dI) vwCl (kWd cI cJ cZ cR (kWl (F_p_agree ((F_p_encloses (y) (d) (k) (v)).2)).2) ad (kM (F_p_agree ((F_p_encloses (y) (d) (k) (v)).2)).2) (F_p_agree ((F_p_encloses (y) (d) (k) (v)).2)).2) H1 := hP1
              have hD1 : va_D A (kWd cI cJ cZ cR (kWl (F_p_agree ((F_p_encloses (y) (d) (k) (v)).2)).2) ad (kM (F_p_agree ((F_p_encloses (y) (d) (k) (v)).2)).2) (F_p_agree ((F_p_encloses (y) (d) (k) (v)).2)).2) := hD1.weaken (B := A) (fun _ q _ h => hFc q.1 h)
              have kle : kLe x (F_p_agree ((F_p_encloses (y) (d) (k) (v)).2)).2 := ⟨by omega, by omega⟩
              refine W.widen (k := kPo x - kPo (F_p_agree ((F_p_encloses (y) (d) (k) (v)).2)).2) (n := kPs x - kPs (F_p_agree ((F_p_encloses (y) (d) (k) (v)).2)).2) (by omega) (by omega) ?_
              obtain ⟨M, hkM⟩ : ∃ M9, M9 = kM (F_p_agree ((F_p_encloses (y) (d) (k) (v)).2)).2 := ⟨_, rfl⟩
              obtain ⟨wl, hkW⟩ : ∃ W9, W9 = kWl (F_p_agree ((F_p_encloses (y) (d) (k) (v)).2)).2 := ⟨_, rfl⟩
              rw [← hkM, ← hkW] at hP1 hD1
              have hM : 87 ≤ M := by rw [hkM]; exact kM_ge _
              have hP := hP1
              have hD := hD1
              generalize H1 = H at hP hS ⊢
              have ha := hI_agree hm.1 hn.1 hn.2
              have ez : ((F_p_agree ((F_p_encloses (y) (d) (k) (v)).2)).2).1 58 6 = y.1 58 6 := by rw [(F_p_agree_fr (F_p_encloses (y) (d) (k) (v)).2).1 58 6 (by decide) (by decide), (F_p_encloses_fr y d k v).1 58 6 (by decide)]
              refine wi_if_ne (tgt := 193) hx hb (kR01 ha.2) dX5_holds_188 (by decide) (fun c_188 => ?_) (fun c_188 => ?_)
              · skip
                rw [if_neg c_188] at hres
                refine lv_iinc (v := iI ((v) + (1 : Int))) (lv' := [(7, .int (iI ((v) + (1 : Int)))), (0, .ref (ad (79))), (1, .ref (ad (23))), (2, .int (iI (n0))), (3, .int (iI (d))), (4, .int (iI (g))), (5, .int (iI (k))), (6, .int (iI (j9)))]) hx hb dX5_holds_193 hl (k := 7) rfl (iI_add _ _) (by decide) rfl (fun ls hl => ?_)
                refine lv_goto (tgt := 156) hx hb dX5_holds_196 (by decide) ?_
                have kg9 : kG ((F_p_agree ((F_p_encloses (y) (d) (k) (v)).2)).2) ((F_p_agree ((F_p_encloses (y) (d) (k) (v)).2)).2) := (kG_rf _)
                have eM9 : M = kM ((F_p_agree ((F_p_encloses (y) (d) (k) (v)).2)).2) := hkM.trans (kG_M kg9).symm
                have eW9 : wl = kWl ((F_p_agree ((F_p_encloses (y) (d) (k) (v)).2)).2) := hkW.trans (kG_W kg9).symm
                have eP9 := (kG_p kg9).1
                have eS9 := (kG_p kg9).2
                have kl1 := kle.1
                have kl2 := kle.2
                refine W.widen (k := kPo x - kPo ((F_p_agree ((F_p_encloses (y) (d) (k) (v)).2)).2)) (n := kPs x - kPs ((F_p_agree ((F_p_encloses (y) (d) (k) (v)).2)).2)) (by omega) (by omega) ?_
                exact ih.2.2.2.2 ((F_p_agree ((F_p_encloses (y) (d) (k) (v)).2)).2) M wl ad (d) (g) (k) (j9) ((v) + (1 : Int)) hM eM9 eW9 had ⟨by omega, by omega⟩ (ha.1) (by omega) (by first | omega | (rw [ez]; omega)) (by omega) (by first | omega | (rw [ez]; omega)) (by omega) (by omega) (by exact hg) (by exact hj) (by omega) (by omega) (by omega) (by omega) (by omega) hres _ _ ls hP hD hS (lv_sub hl [1, 2, 3, 4, 5, 6, 7, 0] rfl)
              · skip
                rw [if_pos c_188] at hres
                refine lv_iconst (v := iI (0 : Int)) hx hb dX5_holds_191 (by decide) ?_
                have kg9 : kG ((F_p_agree ((F_p_encloses (y) (d) (k) (v)).2)).2) ((F_p_agree ((F_p_encloses (y) (d) (k) (v)).2)).2) := (kG_rf _)
                have eM9 : M = kM ((F_p_agree ((F_p_encloses (y) (d) (k) (v)).2)).2) := hkM.trans (kG_M kg9).symm
                have eW9 : wl = kWl ((F_p_agree ((F_p_encloses (y) (d) (k) (v)).2)).2) := hkW.trans (kG_W kg9).symm
                have eP9 := (kG_p kg9).1
                have eS9 := (kG_p kg9).2
                have kl1 := kle.1
                have kl2 := kle.2
                have hF2 : (F_p_holds x n0).2 = (F_p_agree ((F_p_encloses (y) (d) (k) (v)).2)).2 := by
                  have h9 := congrArg Prod.snd hres
                  exact h9.symm
                refine W.widen (k := kPo x - kPo (F_p_holds x n0).2) (n := kPs x - kPs (F_p_holds x n0).2) (by rw [hF2]; omega) (by rw [hF2]; omega) ?_
                exact W.zret (v := iI ((0 : Int))) hx hb hr (kz _ (by first | assumption | omega)) (fun t ht hW => ⟨⟨iI ((0 : Int)), ((F_p_agree ((F_p_encloses (y) (d) (k) (v)).2)).2, ad), rfl, ⟨(by have h9 := congrArg (fun z : Int × KS => iI z.1) hres; exact h9), (by have h9 := congrArg (fun z : Int × KS => z.2) hres; exact h9), had⟩, by rw [ht]; show va_P (dC, dI) vwCl (kWd cI cJ cZ cR (kWl ((F_p_agree ((F_p_encloses (y) (d) (k) (v)).2)).2)) ad (kM ((F_p_agree ((F_p_encloses (y) (d) (k) (v)).2)).2)) ((F_p_agree ((F_p_encloses (y) (d) (k) (v)).2)).2)) H; rw [← eM9, ← eW9]; exact hP, va_K.moved hW.alike hK, by show va_D A (kWd cI cJ cZ cR (kWl ((F_p_agree ((F_p_encloses (y) (d) (k) (v)).2)).2)) ad (kM ((F_p_agree ((F_p_encloses (y) (d) (k) (v)).2)).2)) ((F_p_agree ((F_p_encloses (y) (d) (k) (v)).2)).2)); rw [← eM9, ← eW9]; exact hD⟩, hS.F ht⟩) hS.2.2 dX5_holds_192
  have key : ∀ (M wl : Nat) (ad : Nat → Nat) (H : Heap) (locs : List Loc) (ls : Array Slot), 87 ≤ M → M = kM x → wl = kWl x → (∀ c, c < 87 → ad c = ao c) → va_P (dC, dI) vwCl (kWd cI cJ cZ cR wl ad M (x)) H → va_D A (kWd cI cJ cZ cR wl ad M (x)) → va_S A s.heap H locs → lv_has ls 8 [(0, .ref (ad (79))), (1, .ref (ad (23))), (2, .int (iI (n0)))] → W p l e (headSpec wsX5_holds ({ frames := 6, cells := kPo x - kPo (F_p_holds x n0).2, slots := kPs x - kPs (F_p_holds x n0).2, locals := 152 })).room s m ([.ref (ao 79), .ref (ao 23), .int (iI n0)] : List Value).toArray below meth c H locs 0 0 (MQ below (va_Qi (fun (r : Int32) (u : KS × (Nat → Nat)) => r = iI (F_p_holds x n0).1 ∧ u.1 = (F_p_holds x n0).2 ∧ (∀ c, c < 87 → u.2 c = ao c)) (fun u t => kAt dC dI u.2 cI cJ cZ cR (kM u.1) (kWl u.1) (A) u.1 t) (A)) ([.ref (ao 79), .ref (ao 23), .int (iI n0)] : List Value).toArray s (kPo x - kPo (F_p_holds x n0).2) (kPs x - kPs (F_p_holds x n0).2) A) (F0 m 0 ls []) := by
    intro M wl ad H locs ls hM hkM hkW had hP hD hS hl
    have kle : kLe x x := kLe_rf x
    have kf9 := F_p_holds_le  x n0
    have kf1 := kf9.1
    have kf2 := kf9.2
    have hres : F_p_holds_s 90100 0 (x) (n0) ((0 : Int)) (0) (0) (0) (0) = F_p_holds x n0 := rfl
    refine lv_iconst (v := iI (0 : Int)) hx hb dX5_holds_0 (by decide) ?_
    refine lv_istore_n (lv' := [(3, .int (iI ((0 : Int)))), (0, .ref (ad (79))), (1, .ref (ad (23))), (2, .int (iI (n0)))]) hx hb dX5_holds_1 rfl hl (by decide) rfl (fun ls hl => ?_)
    have kg9 : kG (x) (x) := (kG_rf _)
    have eM9 : M = kM (x) := hkM.trans (kG_M kg9).symm
    have eW9 : wl = kWl (x) := hkW.trans (kG_W kg9).symm
    have eP9 := (kG_p kg9).1
    have eS9 := (kG_p kg9).2
    have kl1 := kle.1
    have kl2 := kle.2
    refine W.widen (k := kPo x - kPo (x)) (n := kPs x - kPs (x)) (by omega) (by omega) ?_
    exact (L (90100)).1 (x) M wl ad ((0 : Int)) hM eM9 eW9 had ⟨by omega, by omega⟩ (⟨ok, gm_rf _ _ _, r3, r6⟩) (by omega) (by omega) (by omega) hres _ _ ls hP hD hS (lv_sub hl [1, 2, 3, 0] rfl)
  exact key M wl ao _ _ ls hM hkM hkW (fun _ _ => rfl) hP hD hS hl
