-- deps: 98.p
set_option maxHeartbeats 4000000 in
set_option maxRecDepth 100000 in
/-- LikeWords, see -/
theorem c_t_see (l : Launch) (dC : Nat → ClassId) (dI : Nat → Nat → Nat) (ao : Nat → Nat) (cI cJ cZ cR : ClassId) (M wl sz : Nat) (x : KS) (m0 : Int) (hM : 87 ≤ M) (hkM : M = kM x) (hkW : wl = kWl x) (rm : iR m0) (sp : seP x) : Met l yX11_see wsX11_see ({ frames := 7, cells := kPo x - kPo (F_t_see x m0).2, slots := kPs x - kPs (F_t_see x m0).2, locals := 179 }) (kPc dC dI ao cI cJ cZ cR M wl sz x [.ref (ao 0), .int (iI m0)]) (va_Qi (fun (r : Int32) (u : KS × (Nat → Nat)) => r = iI (F_t_see x m0).1 ∧ u.1 = (F_t_see x m0).2 ∧ (∀ c, c < 87 → u.2 c = ao c)) (fun u t => kAt dC dI u.2 cI cJ cZ cR (kM u.1) (kWl u.1) (va_A (kWd cI cJ cZ cR wl ao M x) sz) u.1 t) (va_A (kWd cI cJ cZ cR wl ao M x) sz)) (kPo x - kPo (F_t_see x m0).2) (kPs x - kPs (F_t_see x m0).2) (va_A (kWd cI cJ cZ cR wl ao M x) sz) := by
  refine Met.ofW (cc := cX11_see) (maxL := 3) (ret := (some .int)) (by decide) rfl ?_
  intro p e s m args below meth c s₁ B hml hv
  obtain ⟨rfl, hsz, hP, hK, hD0, hNw⟩ := hv
  have hx := B.exec
  have hb := B.bytes
  have hr := B.returns
  have hts := atoms_spec (ws := wsX11_see) B.pre
  have hown : s.vm.findClass RX11 = some m.cls := findClass_of_methodNamed B.named
  have hlocks := B.notSynchronized
  have hinX11 : ∀ w ∈ u_ws RX11 TX11 17, w ∈ wsX11_see := by decide +kernel
  have hinX7 : ∀ w ∈ u_ws RX7 TX7 7, w ∈ wsX11_see := by decide +kernel
  have hinX8 : ∀ w ∈ u_ws RX8 TX8 4, w ∈ wsX11_see := by decide +kernel
  subst hsz
  have hD := hD0.self (sz := s.heap.size)
  generalize hAe : va_A (kWd cI cJ cZ cR wl ao M x) s.heap.size = A at hD ⊢
  have hA : ∀ q : Nat, s.heap.size ≤ q → A q := fun q h => by rw [← hAe]; exact Or.inr h
  have hS : va_S A s.heap s.heap [] := va_S.rf
  have hl := lv_entry ([.ref (ao 0), .int (iI m0)]) (n := 3) (Nat.le_of_ble_eq_true rfl)
  rw [lg_entry_eq]
  generalize (lg_sl ([.ref (ao 0), .int (iI m0)]) ++ List.replicate (3 - (lg_sl ([.ref (ao 0), .int (iI m0)])).length) Slot.unset).toArray = ls at hl ⊢
  have hl : lv_has ls 3 [(0, .ref (ao (0))), (1, .int (iI (m0)))] := hl
  have L : ∀ n : Nat, (∀ (y : KS) (M wl : Nat) (ad : Nat → Nat) (i : Int), 87 ≤ M → M = kM y → wl = kWl y → (∀ c, c < 87 → ad c = ao c) → kLe x y → (seJ x m0 y) → (1 ≤ m0) → (m0 ≤ x.1 1 3) → (0 ≤ i) → (i ≤ 8) → (8 - i < n) → F_t_see_s n 0 y m0 i = F_t_see x m0 → ∀ (H : Heap) (locs : List Loc) (ls : Array Slot), va_P (dC, dI) vwCl (kWd cI cJ cZ cR wl ad M (y)) H → va_D A (kWd cI cJ cZ cR wl ad M (y)) → va_S A s.heap H locs → lv_has ls 3 [(0, .ref (ad (0))), (1, .int (iI (m0))), (2, .int (iI (i)))] → W p l e (headSpec wsX11_see ({ frames := 7, cells := kPo x - kPo (F_t_see x m0).2, slots := kPs x - kPs (F_t_see x m0).2, locals := 179 })).room s m ([.ref (ao 0), .int (iI m0)] : List Value).toArray below meth c H locs (kPo x - kPo y) (kPs x - kPs y) (MQ below (va_Qi (fun (r : Int32) (u : KS × (Nat → Nat)) => r = iI (F_t_see x m0).1 ∧ u.1 = (F_t_see x m0).2 ∧ (∀ c, c < 87 → u.2 c = ao c)) (fun u t => kAt dC dI u.2 cI cJ cZ cR (kM u.1) (kWl u.1) (A) u.1 t) (A)) ([.ref (ao 0), .int (iI m0)] : List Value).toArray s (kPo x - kPo (F_t_see x m0).2) (kPs x - kPs (F_t_see x m0).2) A) (F0 m 40 ls [])) := by
    intro n
    induction n with
    | zero =>
      skip
      · intro y M wl ad i hM hkM hkW had kle jy m1 m2 i0 i8 fu hres
        exact absurd fu (by omega)
    | succ n ih =>
      skip
      · intro y M wl ad i hM hkM hkW had kle jy m1 m2 i0 i8 fu hres H locs ls hP hD hS hl
        have kf9 : kLe y (F_t_see x m0).2 := by
          rw [← hres]
          exact (F_t_see_sle   (n + 1)) _ _ _
        have kf1 := kf9.1
        have kf2 := kf9.2
        rw [F_t_see_e0] at hres
        have klx1 := kle.1
        have klx2 := kle.2
        have e14 : y.1 0 14 = x.1 0 14 := jy.1.1 0 14 (by decide)
        have l8 := sp.2.2.2.2.2.2.2.1
        refine lv_iload_n hx hb dX11_see_40 rfl (lv_at hl 2 rfl) ?_
        refine lv_aload_n hx hb dX11_see_41 rfl (lv_at hl 0 rfl) ?_
        refine va_get (D := (dC, dI)) (ci := 11) (v := .int (iI ((y).1 (0) 14))) (C := RX11) (T := TX11) (N := 17) hx hb hts hinX11 hown hK hP (0) (kg0 (by omega)) rfl 14 (by decide) (hts (.fieldLink RX11 110 "LikeWords" "lawsHeld" "I") (by decide +kernel)) (fun _ h9 => h9) rfl dX11_see_42 ?_
        refine wi_icmp_ge (tgt := 84) hx hb (by unfold iR; omega) (by unfold iR; omega) dX11_see_45 (by decide) (fun c_45 => ?_) (fun c_45 => ?_)
        · skip
          rw [if_pos c_45] at hres
          refine lv_aload_n hx hb dX11_see_84 rfl (lv_at hl 0 rfl) ?_
          refine va_get (D := (dC, dI)) (ci := 11) (v := .ref (ad (56))) (C := RX11) (T := TX11) (N := 17) hx hb hts hinX11 hown hK hP (0) (kg0 (by omega)) rfl 4 (by decide) (hts (.fieldLink RX11 35 "LikeWords" "joins" "LLikeWords$Joins;") (by decide +kernel)) (fun _ h9 => h9) rfl dX11_see_85 ?_
          have hFc : ∀ q, va_A (kWd cI cJ cZ cR wl ad M (y)) H.size q → A q := fun q hq => Or.elim hq (fun ⟨k, e, hk⟩ => hD.2 k (q, e) hk) (fun hk => hA q (Nat.le_trans hS.1 hk))
          refine va_callv (va_runV (b := ad (56)) (As := []) (rest := []) ⟨hx, hb, hml, hown, hts⟩ (c_j_settle l dC dI ad cI cJ cZ cR M wl H.size (y)   hM jy.2.1) (cwV 0 hts gX11_see_X1_settle rfl rfl rfl (by decide +kernel) ⟨Nat.le_of_ble_eq_true rfl, Nat.le_of_ble_eq_true rfl⟩) ⟨fun a U g mk q => by obtain ⟨q0, q1, qP, qK, qD, qN⟩ := q; exact ⟨q0, q1, qP, va_K.moved (u := U) (U := U.calling g mk a) (Vm.Alike.refl U.vm) qK, qD, kNw.same (u := U) (U := U.calling g mk a) rfl qN⟩, va_recv hK hP (ci := 1) (q0 := 56) rfl (kg56 (by omega)), fun U hU hW => ⟨rfl, by rw [hU], by rw [hU]; exact hP, va_K.moved hW.alike hK, hD.weaken (fun _ _ _ _ => trivial), kNw.warm hW hNw⟩⟩ rfl rfl hl.1 rfl (lv_room (Nat.le_of_ble_eq_true rfl)) dX11_see_88 ⟨(show _ ≤ kPo x - kPo (F_t_see x m0).2 by omega), (show _ ≤ kPs x - kPs (F_t_see x m0).2 by omega)⟩) hS (fun q _ h => hFc q h) hFc (fun u9 t H1 locs ht hvm hw hB hz1 hk1 hS => ?_)
          obtain ⟨hP1, hK1, hD1⟩ := hB
          rw [ht] at hP1
          rw [hw] at hP1 hD1
          have hD2 := hD1.weaken (B := A) (fun _ q _ h => hFc q.1 h)
          have hP := hP1
          have hD := hD2
          generalize H1 = H at hP hS ⊢
          refine lv_aload_n hx hb dX11_see_91 rfl (lv_at hl 0 rfl) ?_
          refine va_get (D := (dC, dI)) (ci := 11) (v := .ref (ad (58))) (C := RX11) (T := TX11) (N := 17) hx hb hts hinX11 hown hK hP (0) (kg0 (by omega)) rfl 5 (by decide) (hts (.fieldLink RX11 44 "LikeWords" "rules" "LLikeWords$Rules;") (by decide +kernel)) (fun _ h9 => h9) rfl dX11_see_92 ?_
          refine lv_aload_n hx hb dX11_see_95 rfl (lv_at hl 0 rfl) ?_
          refine va_get (D := (dC, dI)) (ci := 11) (v := .ref (ad (56))) (C := RX11) (T := TX11) (N := 17) hx hb hts hinX11 hown hK hP (0) (kg0 (by omega)) rfl 4 (by decide) (hts (.fieldLink RX11 35 "LikeWords" "joins" "LLikeWords$Joins;") (by decide +kernel)) (fun _ h9 => h9) rfl dX11_see_96 ?_
          refine lv_iload_n hx hb dX11_see_99 rfl (lv_at hl 1 rfl) ?_
          have st := se_set sp m1 m2 jy
          have hFc : ∀ q, va_A (kWd cI cJ cZ cR wl ad M ((F_j_settle (y)).2)) H.size q → A q := fun q hq => Or.elim hq (fun ⟨k, e, hk⟩ => hD.2 k (q, e) hk) (fun hk => hA q (Nat.le_trans hS.1 hk))
          refine va_calli (va_runV (b := ad (58)) (As := [.ref (ad (56)), .int (iI (m0))]) (rest := []) ⟨hx, hb, hml, hown, hts⟩ (c_u_gather l dC dI ad cI cJ cZ cR M wl H.size ((F_j_settle (y)).2)  (m0) hM st.1 st.2.1 st.2.2.1 m1 (by have := sp.1.1.2.1; omega)) (cwV 2 hts gX11_see_X7_gather rfl rfl rfl (by decide +kernel) ⟨Nat.le_of_ble_eq_true rfl, Nat.le_of_ble_eq_true rfl⟩) ⟨fun a U g mk q => by obtain ⟨q0, q1, qP, qK, qD, qN⟩ := q; exact ⟨q0, q1, qP, va_K.moved (u := U) (U := U.calling g mk a) (Vm.Alike.refl U.vm) qK, qD, kNw.same (u := U) (U := U.calling g mk a) rfl qN⟩, va_recv hK hP (ci := 7) (q0 := 58) rfl (kg58 (by omega)), fun U hU hW => ⟨rfl, by rw [hU], by rw [hU]; exact hP, va_K.moved hW.alike hK, hD.weaken (fun _ _ _ _ => trivial), kNw.warm hW hNw⟩⟩ rfl rfl hl.1 rfl (lv_room (Nat.le_of_ble_eq_true rfl)) dX11_see_100 ⟨(show _ ≤ kPo x - kPo (F_t_see x m0).2 by omega), (show _ ≤ kPs x - kPs (F_t_see x m0).2 by omega)⟩) hS (fun q _ h => hFc q h) hFc (fun r9 u9 t H1 locs ht hvm hw hB hz1 hk1 hS => ?_)
          obtain ⟨hP1, hK1, hD1⟩ := hB
          rw [ht] at hP1
          obtain ⟨hw1, hw2⟩ := hw
          rw [hw2] at hP1 hD1
          rw [hw1]
          have hD2 := hD1.weaken (B := A) (fun _ q _ h => hFc q.1 h)
          have hP := hP1
          have hD := hD2
          generalize H1 = H at hP hS ⊢
          refine wi_if_ne (tgt := 109) hx hb (kR01 (F_u_gather_b01 _ _)) dX11_see_103 (by decide) (fun c_103 => ?_) (fun c_103 => ?_)
          · skip
            rw [if_neg c_103] at hres
            refine lv_aload_n hx hb dX11_see_109 rfl (lv_at hl 0 rfl) ?_
            refine va_get (D := (dC, dI)) (ci := 11) (v := .ref (ad (64))) (C := RX11) (T := TX11) (N := 17) hx hb hts hinX11 hown hK hP (0) (kg0 (by omega)) rfl 6 (by decide) (hts (.fieldLink RX11 53 "LikeWords" "machine" "LLikeWords$Machine;") (by decide +kernel)) (fun _ h9 => h9) rfl dX11_see_110 ?_
            have sg := se_G sp m1 m2 jy
            have sb9 := se_B sp sg
            have hFc : ∀ q, va_A (kWd cI cJ cZ cR wl ad M ((F_u_gather ((F_j_settle (y)).2) (m0)).2)) H.size q → A q := fun q hq => Or.elim hq (fun ⟨k, e, hk⟩ => hD.2 k (q, e) hk) (fun hk => hA q (Nat.le_trans hS.1 hk))
            refine va_callv (va_runV (b := ad (64)) (As := []) (rest := []) ⟨hx, hb, hml, hown, hts⟩ (c_a_build l dC dI ad cI cJ cZ cR M wl H.size ((F_u_gather ((F_j_settle (y)).2) (m0)).2)   hM sg.2.1.1 sg.2.1.2.2.1 sb9.2.2.2.1 sb9.2.2.2.2.1) (cwV 0 hts gX11_see_X3_build rfl rfl rfl (by decide +kernel) ⟨Nat.le_of_ble_eq_true rfl, Nat.le_of_ble_eq_true rfl⟩) ⟨fun a U g mk q => by obtain ⟨q0, q1, qP, qK, qD, qN⟩ := q; exact ⟨q0, q1, qP, va_K.moved (u := U) (U := U.calling g mk a) (Vm.Alike.refl U.vm) qK, qD, kNw.same (u := U) (U := U.calling g mk a) rfl qN⟩, va_recv hK hP (ci := 3) (q0 := 64) rfl (kg64 (by omega)), fun U hU hW => ⟨rfl, by rw [hU], by rw [hU]; exact hP, va_K.moved hW.alike hK, hD.weaken (fun _ _ _ _ => trivial), kNw.warm hW hNw⟩⟩ rfl rfl hl.1 rfl (lv_room (Nat.le_of_ble_eq_true rfl)) dX11_see_113 ⟨(show _ ≤ kPo x - kPo (F_t_see x m0).2 by omega), (show _ ≤ kPs x - kPs (F_t_see x m0).2 by omega)⟩) hS (fun q _ h => hFc q h) hFc (fun u9 t H1 locs ht hvm hw hB hz1 hk1 hS => ?_)
            obtain ⟨hP1, hK1, hD1⟩ := hB
            rw [ht] at hP1
            rw [hw] at hP1 hD1
            have hD2 := hD1.weaken (B := A) (fun _ q _ h => hFc q.1 h)
            have hP := hP1
            have hD := hD2
            generalize H1 = H at hP hS ⊢
            refine lv_aload_n hx hb dX11_see_116 rfl (lv_at hl 0 rfl) ?_
            refine va_get (D := (dC, dI)) (ci := 11) (v := .ref (ad (70))) (C := RX11) (T := TX11) (N := 17) hx hb hts hinX11 hown hK hP (0) (kg0 (by omega)) rfl 7 (by decide) (hts (.fieldLink RX11 62 "LikeWords" "rewriter" "LLikeWords$Rewriter;") (by decide +kernel)) (fun _ h9 => h9) rfl dX11_see_117 ?_
            have kg8 : kG (y) ((F_a_build ((F_u_gather ((F_j_settle (y)).2) (m0)).2)).2) := (kG_tr (kG_tr (kG_tr (kG_rf _) (kG_of (F_j_settle_fr (y)) (by first | decide | (intro h9; simp at h9; done) | (intro h9; simp at h9; omega)) (by first | decide | (intro h9; simp at h9; done) | (intro h9; simp at h9; omega)))) (kG_of (F_u_gather_fr ((F_j_settle (y)).2) (m0)) (by first | decide | (intro h9; simp at h9; done) | (intro h9; simp at h9; omega)) (by first | decide | (intro h9; simp at h9; done) | (intro h9; simp at h9; omega)))) (kG_of (F_a_build_fr ((F_u_gather ((F_j_settle (y)).2) (m0)).2)) (by first | decide | (intro h9; simp at h9; done) | (intro h9; simp at h9; omega)) (by first | decide | (intro h9; simp at h9; done) | (intro h9; simp at h9; omega))))
            have eM8 : M = kM ((F_a_build ((F_u_gather ((F_j_settle (y)).2) (m0)).2)).2) := hkM.trans (kG_M kg8).symm
            have eW8 : wl = kWl ((F_a_build ((F_u_gather ((F_j_settle (y)).2) (m0)).2)).2) := hkW.trans (kG_W kg8).symm
            have kn8 := se_kn sp sb9.2.2.1
            have hFc : ∀ q, va_A (kWd cI cJ cZ cR wl ad M ((F_a_build ((F_u_gather ((F_j_settle (y)).2) (m0)).2)).2)) H.size q → A q := fun q hq => Or.elim hq (fun ⟨k, e, hk⟩ => hD.2 k (q, e) hk) (fun hk => hA q (Nat.le_trans hS.1 hk))
            refine va_callv (va_runV (b := ad (70)) (As := []) (rest := []) ⟨hx, hb, hml, hown, hts⟩ (c_r_forget l dC dI ad cI cJ cZ cR M wl H.size ((F_a_build ((F_u_gather ((F_j_settle (y)).2) (m0)).2)).2)   hM (fun h9 => by rw [eM8]; exact Nat.le_of_eq (if_neg h9).symm) (fun h9 => by rw [eW8]; exact kn8.1 h9) kn8.2) (cwV 0 hts gX11_see_X6_forget rfl rfl rfl (by decide +kernel) ⟨Nat.le_of_ble_eq_true rfl, Nat.le_of_ble_eq_true rfl⟩) ⟨fun a U g mk q => by obtain ⟨q0, q1, qP, qK, qD, qN⟩ := q; exact ⟨q0, q1, qP, va_K.moved (u := U) (U := U.calling g mk a) (Vm.Alike.refl U.vm) qK, qD, kNw.same (u := U) (U := U.calling g mk a) rfl qN⟩, va_recv hK hP (ci := 6) (q0 := 70) rfl (kg70 (by omega)), fun U hU hW => ⟨rfl, by rw [hU], by rw [hU]; exact hP, va_K.moved hW.alike hK, hD.weaken (fun _ _ _ _ => trivial), kNw.warm hW hNw⟩⟩ rfl rfl hl.1 rfl (lv_room (Nat.le_of_ble_eq_true rfl)) dX11_see_120 ⟨(show _ ≤ kPo x - kPo (F_t_see x m0).2 by omega), (show _ ≤ kPs x - kPs (F_t_see x m0).2 by omega)⟩) hS (fun q _ h => hFc q h) hFc (fun u9 t H1 locs ht hvm hw hB hz1 hk1 hS => ?_)
            obtain ⟨hP1, hK1, hD1⟩ := hB
            rw [ht] at hP1
            rw [hw] at hP1 hD1
            have hD2 := hD1.weaken (B := A) (fun _ q _ h => hFc q.1 h)
            have hP := hP1
            have hD := hD2
            generalize H1 = H at hP hS ⊢
            refine lv_aload_n hx hb dX11_see_123 rfl (lv_at hl 0 rfl) ?_
            refine lv_aload_n hx hb dX11_see_124 rfl (lv_at hl 0 rfl) ?_
            refine va_get (D := (dC, dI)) (ci := 11) (v := .ref (ad (79))) (C := RX11) (T := TX11) (N := 17) hx hb hts hinX11 hown hK hP (0) (kg0 (by omega)) rfl 8 (by decide) (hts (.fieldLink RX11 80 "LikeWords" "proof" "LLikeWords$Proof;") (by decide +kernel)) (fun _ h9 => h9) rfl dX11_see_125 ?_
            refine lv_aload_n hx hb dX11_see_128 rfl (lv_at hl 0 rfl) ?_
            refine va_get (D := (dC, dI)) (ci := 11) (v := .ref (ad (23))) (C := RX11) (T := TX11) (N := 17) hx hb hts hinX11 hown hK hP (0) (kg0 (by omega)) rfl 3 (by decide) (hts (.fieldLink RX11 29 "LikeWords" "lawSides" "[LLikeWords$Word;") (by decide +kernel)) (fun _ h9 => h9) rfl dX11_see_129 ?_
            refine lv_aload_n hx hb dX11_see_132 rfl (lv_at hl 0 rfl) ?_
            refine va_get (D := (dC, dI)) (ci := 11) (v := .int (iI (((F_r_forget ((F_a_build ((F_u_gather ((F_j_settle (y)).2) (m0)).2)).2)).2).1 (0) 14))) (C := RX11) (T := TX11) (N := 17) hx hb hts hinX11 hown hK hP (0) (kg0 (by omega)) rfl 14 (by decide) (hts (.fieldLink RX11 110 "LikeWords" "lawsHeld" "I") (by decide +kernel)) (fun _ h9 => h9) rfl dX11_see_133 ?_
            have sf := se_F sp sb9.1 sb9.2.1 sb9.2.2.1
            have sh := se_H sp sf.2.1
            have kg9 : kG (y) ((F_r_forget ((F_a_build ((F_u_gather ((F_j_settle (y)).2) (m0)).2)).2)).2) := (kG_tr (kG_tr (kG_tr (kG_tr (kG_rf _) (kG_of (F_j_settle_fr (y)) (by first | decide | (intro h9; simp at h9; done) | (intro h9; simp at h9; omega)) (by first | decide | (intro h9; simp at h9; done) | (intro h9; simp at h9; omega)))) (kG_of (F_u_gather_fr ((F_j_settle (y)).2) (m0)) (by first | decide | (intro h9; simp at h9; done) | (intro h9; simp at h9; omega)) (by first | decide | (intro h9; simp at h9; done) | (intro h9; simp at h9; omega)))) (kG_of (F_a_build_fr ((F_u_gather ((F_j_settle (y)).2) (m0)).2)) (by first | decide | (intro h9; simp at h9; done) | (intro h9; simp at h9; omega)) (by first | decide | (intro h9; simp at h9; done) | (intro h9; simp at h9; omega)))) (kG_of (F_r_forget_fr ((F_a_build ((F_u_gather ((F_j_settle (y)).2) (m0)).2)).2)) (by first | decide | (intro h9; simp at h9; done) | (intro h9; simp at h9; omega)) (by first | decide | (intro h9; simp at h9; done) | (intro h9; simp at h9; omega))))
            have eM9 : M = kM ((F_r_forget ((F_a_build ((F_u_gather ((F_j_settle (y)).2) (m0)).2)).2)).2) := hkM.trans (kG_M kg9).symm
            have eW9 : wl = kWl ((F_r_forget ((F_a_build ((F_u_gather ((F_j_settle (y)).2) (m0)).2)).2)).2) := hkW.trans (kG_W kg9).symm
            have eP9 := (kG_p kg9).1
            have eS9 := (kG_p kg9).2
            have kl1 := kle.1
            have kl2 := kle.2
            have kfn : kLe (F_p_holds ((F_r_forget ((F_a_build ((F_u_gather ((F_j_settle (y)).2) (m0)).2)).2)).2) (((F_r_forget ((F_a_build ((F_u_gather ((F_j_settle (y)).2) (m0)).2)).2)).2).1 (0) 14)).2 (F_t_see x m0).2 := by
              rw [← hres]
              by_cases hc9 : ((F_p_holds ((F_r_forget ((F_a_build ((F_u_gather ((F_j_settle (y)).2) (m0)).2)).2)).2) (((F_r_forget ((F_a_build ((F_u_gather ((F_j_settle (y)).2) (m0)).2)).2)).2).1 (0) 14)).1) = (0)
              · rw [if_pos hc9]
                exact (kLe_tr (kLe_tr (kLe_rf _) (kLe_s (by first | decide | (intro h9; simp at h9; done) | (intro h9; simp at h9; omega)) (by first | decide | (intro h9; simp at h9; done) | (intro h9; simp at h9; omega)))) (kLe_s (by first | decide | (intro h9; simp at h9; done) | (intro h9; simp at h9; omega)) (by first | decide | (intro h9; simp at h9; done) | (intro h9; simp at h9; omega))))
              · rw [if_neg hc9]
                exact (kLe_tr (kLe_tr (kLe_tr (kLe_rf _) (kLe_s (by first | decide | (intro h9; simp at h9; done) | (intro h9; simp at h9; omega)) (by first | decide | (intro h9; simp at h9; done) | (intro h9; simp at h9; omega)))) (kLe_G (kG_of (F_a_tally_fr (kS ((F_p_holds ((F_r_forget ((F_a_build ((F_u_gather ((F_j_settle (y)).2) (m0)).2)).2)).2) (((F_r_forget ((F_a_build ((F_u_gather ((F_j_settle (y)).2) (m0)).2)).2)).2).1 (0) 14)).2) (0) 16 ((F_p_holds ((F_r_forget ((F_a_build ((F_u_gather ((F_j_settle (y)).2) (m0)).2)).2)).2) (((F_r_forget ((F_a_build ((F_u_gather ((F_j_settle (y)).2) (m0)).2)).2)).2).1 (0) 14)).1))) (by first | decide | (intro h9; simp at h9; done) | (intro h9; simp at h9; omega)) (by first | decide | (intro h9; simp at h9; done) | (intro h9; simp at h9; omega))))) (kLe_s (by first | decide | (intro h9; simp at h9; done) | (intro h9; simp at h9; omega)) (by first | decide | (intro h9; simp at h9; done) | (intro h9; simp at h9; omega))))
            have kf1 := kfn.1
            have kf2 := kfn.2
            have kd9 : kLe ((F_r_forget ((F_a_build ((F_u_gather ((F_j_settle (y)).2) (m0)).2)).2)).2) (F_p_holds ((F_r_forget ((F_a_build ((F_u_gather ((F_j_settle (y)).2) (m0)).2)).2)).2) (((F_r_forget ((F_a_build ((F_u_gather ((F_j_settle (y)).2) (m0)).2)).2)).2).1 (0) 14)).2 := (F_p_holds_le ((F_r_forget ((F_a_build ((F_u_gather ((F_j_settle (y)).2) (m0)).2)).2)).2) (((F_r_forget ((F_a_build ((F_u_gather ((F_j_settle (y)).2) (m0)).2)).2)).2).1 (0) 14))
            have kd1 := kd9.1
            have kd2 := kd9.2
            have hFc : ∀ q, va_A (kWd cI cJ cZ cR wl ad M ((F_r_forget ((F_a_build ((F_u_gather ((F_j_settle (y)).2) (m0)).2)).2)).2)) H.size q → A q := fun q hq => Or.elim hq (fun ⟨k, e, hk⟩ => hD.2 k (q, e) hk) (fun hk => hA q (Nat.le_trans hS.1 hk))
            refine va_calli (va_runV (b := ad (79)) (As := [.ref (ad (23)), .int (iI (((F_r_forget ((F_a_build ((F_u_gather ((F_j_settle (y)).2) (m0)).2)).2)).2).1 (0) 14))]) (rest := [.ref (ad (0))]) ⟨hx, hb, hml, hown, hts⟩ (c_p_holds l dC dI ad cI cJ cZ cR M wl H.size ((F_r_forget ((F_a_build ((F_u_gather ((F_j_settle (y)).2) (m0)).2)).2)).2)  (((F_r_forget ((F_a_build ((F_u_gather ((F_j_settle (y)).2) (m0)).2)).2)).2).1 (0) 14) hM eM9 eW9 sf.1 sh.1.1 sh.1.2 sh.2.1 sh.2.2.1 sh.2.2.2.1) (cwV 2 hts gX11_see_X5_holds rfl rfl rfl (by decide +kernel) ⟨Nat.le_of_ble_eq_true rfl, Nat.le_of_ble_eq_true rfl⟩) ⟨fun a U g mk q => by obtain ⟨q0, q1, qP, qK, qD, qN⟩ := q; exact ⟨q0, q1, qP, va_K.moved (u := U) (U := U.calling g mk a) (Vm.Alike.refl U.vm) qK, qD, kNw.same (u := U) (U := U.calling g mk a) rfl qN⟩, va_recv hK hP (ci := 5) (q0 := 79) rfl (kg79 (by omega)), fun U hU hW => ⟨rfl, by rw [hU], by rw [hU]; exact hP, va_K.moved hW.alike hK, hD.weaken (fun _ _ _ _ => trivial), kNw.warm hW hNw⟩⟩ rfl rfl hl.1 rfl (lv_room (Nat.le_of_ble_eq_true rfl)) dX11_see_136 ⟨(show _ ≤ kPo x - kPo (F_t_see x m0).2 by omega), (show _ ≤ kPs x - kPs (F_t_see x m0).2 by omega)⟩) hS (fun q _ h => hFc q h) hFc (fun r9 u9 t H1 locs ht hvm hw hB hz1 hk1 hS => ?_)
            obtain ⟨hP1, hK1, hD1⟩ := hB
            rw [ht] at hP1
            obtain ⟨z9, ad⟩ := u9
            obtain ⟨hw1, hw2, hw3⟩ := hw
            rw [hw1]
            have hw2 : z9 = (F_p_holds ((F_r_forget ((F_a_build ((F_u_gather ((F_j_settle (y)).2) (m0)).2)).2)).2) (((F_r_forget ((F_a_build ((F_u_gather ((F_j_settle (y)).2) (m0)).2)).2)).2).1 (0) 14)).2 := hw2
            subst hw2
            have hw3 := fun c (hc : c < 87) => (show ad c = _ from hw3 c hc)
            have had : ∀ c, c < 87 → ad c = ao c := fun c hc => (hw3 c hc).trans (had c hc)
            have hl : lv_has ls 3 [(0, .ref (ad (0))), (1, .int (iI (m0))), (2, .int (iI (i)))] := by
              rw [hw3 (0) (by omega)]
              exact hl
            refine W.eq (g2 := F0 m 139 ls [.int (iI ((F_p_holds ((F_r_forget ((F_a_build ((F_u_gather ((F_j_settle (y)).2) (m0)).2)).2)).2) (((F_r_forget ((F_a_build ((F_u_gather ((F_j_settle (y)).2) (m0)).2)).2)).2).1 (0) 14)).1)), .ref (ad (0))]) (by rw [hw3 (0) (by omega)]) ?_
            have hP1 : va_P (dC, dI) vwCl (kWd cI cJ cZ cR (kWl (F_p_holds ((F_r_forget ((F_a_build ((F_u_gather ((F_j_settle (y)).2) (m0)).2)).2)).2) (((F_r_forget ((F_a_build ((F_u_gather ((F_j_settle (y)).2) (m0)).2)).2)).2).1 (0) 14)).2) ad (kM (F_p_holds ((F_r_forget ((F_a_build ((F_u_gather ((F_j_settle (y)).2) (m0)).2)).2)).2) (((F_r_forget ((F_a_build ((F_u_gather ((F_j_settle (y)).2) (m0)).2)).2)).2).1 (0) 14)).2) (F_p_holds ((F_r_forget ((F_a_build ((F_u_gather ((F_j_settle (y)).2) (m0)).2)).2)).2) (((F_r_forget ((F_a_build ((F_u_gather ((F_j_settle (y)).2) (m0)).2)).2)).2).1 (0) 14)).2) H1 := hP1
            have hD1 : va_D A (kWd cI cJ cZ cR (kWl (F_p_holds ((F_r_forget ((F_a_build ((F_u_gather ((F_j_settle (y)).2) (m0)).2)).2)).2) (((F_r_forget ((F_a_build ((F_u_gather ((F_j_settle (y)).2) (m0)).2)).2)).2).1 (0) 14)).2) ad (kM (F_p_holds ((F_r_forget ((F_a_build ((F_u_gather ((F_j_settle (y)).2) (m0)).2)).2)).2) (((F_r_forget ((F_a_build ((F_u_gather ((F_j_settle (y)).2) (m0)).2)).2)).2).1 (0) 14)).2) (F_p_holds ((F_r_forget ((F_a_build ((F_u_gather ((F_j_settle (y)).2) (m0)).2)).2)).2) (((F_r_forget ((F_a_build ((F_u_gather ((F_j_settle (y)).2) (m0)).2)).2)).2).1 (0) 14)).2) := hD1.weaken (B := A) (fun _ q _ h => hFc q.1 h)
            have kle : kLe x (F_p_holds ((F_r_forget ((F_a_build ((F_u_gather ((F_j_settle (y)).2) (m0)).2)).2)).2) (((F_r_forget ((F_a_build ((F_u_gather ((F_j_settle (y)).2) (m0)).2)).2)).2).1 (0) 14)).2 := ⟨by omega, by omega⟩
            refine W.widen (k := kPo x - kPo (F_p_holds ((F_r_forget ((F_a_build ((F_u_gather ((F_j_settle (y)).2) (m0)).2)).2)).2) (((F_r_forget ((F_a_build ((F_u_gather ((F_j_settle (y)).2) (m0)).2)).2)).2).1 (0) 14)).2) (n := kPs x - kPs (F_p_holds ((F_r_forget ((F_a_build ((F_u_gather ((F_j_settle (y)).2) (m0)).2)).2)).2) (((F_r_forget ((F_a_build ((F_u_gather ((F_j_settle (y)).2) (m0)).2)).2)).2).1 (0) 14)).2) (by omega) (by omega) ?_
            obtain ⟨M, hkM⟩ : ∃ M9, M9 = kM (F_p_holds ((F_r_forget ((F_a_build ((F_u_gather ((F_j_settle (y)).2) (m0)).2)).2)).2) (((F_r_forget ((F_a_build ((F_u_gather ((F_j_settle (y)).2) (m0)).2)).2)).2).1 (0) 14)).2 := ⟨_, rfl⟩
            obtain ⟨wl, hkW⟩ : ∃ W9, W9 = kWl (F_p_holds ((F_r_forget ((F_a_build ((F_u_gather ((F_j_settle (y)).2) (m0)).2)).2)).2) (((F_r_forget ((F_a_build ((F_u_gather ((F_j_settle (y)).2) (m0)).2)).2)).2).1 (0) 14)).2 := ⟨_, rfl⟩
            rw [← hkM, ← hkW] at hP1 hD1
            have hM : 87 ≤ M := by rw [hkM]; exact kM_ge _
            have hP := hP1
            have hD := hD1
            generalize H1 = H at hP hS ⊢
            have h01 := F_p_holds_01 (F_r_forget (F_a_build (F_u_gather (F_j_settle y).2 m0).2).2).2 ((F_r_forget (F_a_build (F_u_gather (F_j_settle y).2 m0).2).2).2.1 0 14)
            refine va_put (D := (dC, dI)) (ci := 11) (v := .int (iI ((F_p_holds ((F_r_forget ((F_a_build ((F_u_gather ((F_j_settle (y)).2) (m0)).2)).2)).2) (((F_r_forget ((F_a_build ((F_u_gather ((F_j_settle (y)).2) (m0)).2)).2)).2).1 (0) 14)).1))) (ty := .boolean) (C := RX11) (T := TX11) (N := 17) hx hb hts hinX11 tyX11 tyX11_ok nmX11 hown hK hP hD hS (0) (kg0 (by omega)) rfl 16 (by decide) (hts (.fieldLink RX11 165 "LikeWords" "proved" "Z") (by decide +kernel)) (fun _ h9 => h9) rfl (by decide +kernel) (kz _ h01) (kfit _ h01) (Nat.le_of_ble_eq_true rfl) dX11_see_139 (fun H locs hP hD hS => ?_)
            rw [ks0_16] at hP hD
            refine lv_aload_n hx hb dX11_see_142 rfl (lv_at hl 0 rfl) ?_
            refine va_get (D := (dC, dI)) (ci := 11) (v := .int (iI ((F_p_holds ((F_r_forget ((F_a_build ((F_u_gather ((F_j_settle (y)).2) (m0)).2)).2)).2) (((F_r_forget ((F_a_build ((F_u_gather ((F_j_settle (y)).2) (m0)).2)).2)).2).1 (0) 14)).1))) (C := RX11) (T := TX11) (N := 17) hx hb hts hinX11 hown hK hP (0) (kg0 (by omega)) rfl 16 (by decide) (hts (.fieldLink RX11 165 "LikeWords" "proved" "Z") (by decide +kernel)) (fun _ h9 => h9) (congrArg (fun z9 => some (Value.int (iI z9))) (kS_s)) dX11_see_143 ?_
            refine wi_if_eq (tgt := 156) hx hb (kR01 h01) dX11_see_146 (by decide) (fun c_146 => ?_) (fun c_146 => ?_)
            · skip
              rw [if_pos c_146] at hres
              refine lv_aload_n hx hb dX11_see_156 rfl (lv_at hl 0 rfl) ?_
              refine lv_iload_n hx hb dX11_see_157 rfl (lv_at hl 1 rfl) ?_
              refine va_put (D := (dC, dI)) (ci := 11) (v := .int (iI (m0))) (ty := .int) (C := RX11) (T := TX11) (N := 17) hx hb hts hinX11 tyX11 tyX11_ok nmX11 hown hK hP hD hS (0) (kg0 (by omega)) rfl 15 (by decide) (hts (.fieldLink RX11 172 "LikeWords" "seenTo" "I") (by decide +kernel)) (fun _ h9 => h9) rfl (by decide +kernel) rfl rfl (Nat.le_of_ble_eq_true rfl) dX11_see_158 (fun H locs hP hD hS => ?_)
              rw [ks0_15] at hP hD
              refine lv_aload_n hx hb dX11_see_161 rfl (lv_at hl 0 rfl) ?_
              refine va_get (D := (dC, dI)) (ci := 11) (v := .ref (ad (58))) (C := RX11) (T := TX11) (N := 17) hx hb hts hinX11 hown hK hP (0) (kg0 (by omega)) rfl 5 (by decide) (hts (.fieldLink RX11 44 "LikeWords" "rules" "LLikeWords$Rules;") (by decide +kernel)) (fun _ h9 => h9) rfl dX11_see_162 ?_
              refine va_get (D := (dC, dI)) (ci := 7) (v := .int (iI (((F_p_holds ((F_r_forget ((F_a_build ((F_u_gather ((F_j_settle (y)).2) (m0)).2)).2)).2) (((F_r_forget ((F_a_build ((F_u_gather ((F_j_settle (y)).2) (m0)).2)).2)).2).1 (0) 14)).2).1 (58) 6))) (C := RX7) (T := TX7) (N := 7) hx hb hts hinX7 hown hK hP (58) (kg58 (by omega)) rfl 6 (by decide) (hts (.fieldLink RX11 175 "LikeWords$Rules" "held" "I") (by decide +kernel)) (fun _ h9 => h9) (congrArg (fun z9 => some (Value.int (iI z9))) ((congrFun (kS_c (by decide)) 6).trans (congrFun (kS_c (by decide)) 6))) dX11_see_165 ?_
              have kg9 : kG ((F_p_holds ((F_r_forget ((F_a_build ((F_u_gather ((F_j_settle (y)).2) (m0)).2)).2)).2) (((F_r_forget ((F_a_build ((F_u_gather ((F_j_settle (y)).2) (m0)).2)).2)).2).1 (0) 14)).2) (kS (kS ((F_p_holds ((F_r_forget ((F_a_build ((F_u_gather ((F_j_settle (y)).2) (m0)).2)).2)).2) (((F_r_forget ((F_a_build ((F_u_gather ((F_j_settle (y)).2) (m0)).2)).2)).2).1 (0) 14)).2) (0) 16 ((F_p_holds ((F_r_forget ((F_a_build ((F_u_gather ((F_j_settle (y)).2) (m0)).2)).2)).2) (((F_r_forget ((F_a_build ((F_u_gather ((F_j_settle (y)).2) (m0)).2)).2)).2).1 (0) 14)).1)) (0) 15 (m0)) := (kG_s (by first | decide | (intro h9; simp at h9; done) | (intro h9; simp at h9; omega)) (by first | decide | (intro h9; simp at h9; done) | (intro h9; simp at h9; omega)) (kG_s (by first | decide | (intro h9; simp at h9; done) | (intro h9; simp at h9; omega)) (by first | decide | (intro h9; simp at h9; done) | (intro h9; simp at h9; omega)) (kG_rf _)))
              have eM9 : M = kM (kS (kS ((F_p_holds ((F_r_forget ((F_a_build ((F_u_gather ((F_j_settle (y)).2) (m0)).2)).2)).2) (((F_r_forget ((F_a_build ((F_u_gather ((F_j_settle (y)).2) (m0)).2)).2)).2).1 (0) 14)).2) (0) 16 ((F_p_holds ((F_r_forget ((F_a_build ((F_u_gather ((F_j_settle (y)).2) (m0)).2)).2)).2) (((F_r_forget ((F_a_build ((F_u_gather ((F_j_settle (y)).2) (m0)).2)).2)).2).1 (0) 14)).1)) (0) 15 (m0)) := hkM.trans (kG_M kg9).symm
              have eW9 : wl = kWl (kS (kS ((F_p_holds ((F_r_forget ((F_a_build ((F_u_gather ((F_j_settle (y)).2) (m0)).2)).2)).2) (((F_r_forget ((F_a_build ((F_u_gather ((F_j_settle (y)).2) (m0)).2)).2)).2).1 (0) 14)).2) (0) 16 ((F_p_holds ((F_r_forget ((F_a_build ((F_u_gather ((F_j_settle (y)).2) (m0)).2)).2)).2) (((F_r_forget ((F_a_build ((F_u_gather ((F_j_settle (y)).2) (m0)).2)).2)).2).1 (0) 14)).1)) (0) 15 (m0)) := hkW.trans (kG_W kg9).symm
              have eP9 := (kG_p kg9).1
              have eS9 := (kG_p kg9).2
              have kl1 := kle.1
              have kl2 := kle.2
              have hF2 : (F_t_see x m0).2 = kS (kS ((F_p_holds ((F_r_forget ((F_a_build ((F_u_gather ((F_j_settle (y)).2) (m0)).2)).2)).2) (((F_r_forget ((F_a_build ((F_u_gather ((F_j_settle (y)).2) (m0)).2)).2)).2).1 (0) 14)).2) (0) 16 ((F_p_holds ((F_r_forget ((F_a_build ((F_u_gather ((F_j_settle (y)).2) (m0)).2)).2)).2) (((F_r_forget ((F_a_build ((F_u_gather ((F_j_settle (y)).2) (m0)).2)).2)).2).1 (0) 14)).1)) (0) 15 (m0) := by
                have h9 := congrArg Prod.snd hres
                exact h9.symm
              refine W.widen (k := kPo x - kPo (F_t_see x m0).2) (n := kPs x - kPs (F_t_see x m0).2) (by rw [hF2]; omega) (by rw [hF2]; omega) ?_
              exact W.iret (v := iI (((F_p_holds ((F_r_forget ((F_a_build ((F_u_gather ((F_j_settle (y)).2) (m0)).2)).2)).2) (((F_r_forget ((F_a_build ((F_u_gather ((F_j_settle (y)).2) (m0)).2)).2)).2).1 (0) 14)).2).1 (58) 6)) hx hb hr (fun t ht hW => ⟨⟨iI (((F_p_holds ((F_r_forget ((F_a_build ((F_u_gather ((F_j_settle (y)).2) (m0)).2)).2)).2) (((F_r_forget ((F_a_build ((F_u_gather ((F_j_settle (y)).2) (m0)).2)).2)).2).1 (0) 14)).2).1 (58) 6), (kS (kS ((F_p_holds ((F_r_forget ((F_a_build ((F_u_gather ((F_j_settle (y)).2) (m0)).2)).2)).2) (((F_r_forget ((F_a_build ((F_u_gather ((F_j_settle (y)).2) (m0)).2)).2)).2).1 (0) 14)).2) (0) 16 ((F_p_holds ((F_r_forget ((F_a_build ((F_u_gather ((F_j_settle (y)).2) (m0)).2)).2)).2) (((F_r_forget ((F_a_build ((F_u_gather ((F_j_settle (y)).2) (m0)).2)).2)).2).1 (0) 14)).1)) (0) 15 (m0), ad), rfl, ⟨(by have h9 := congrArg (fun z : Int × KS => iI z.1) hres; exact h9), (by have h9 := congrArg (fun z : Int × KS => z.2) hres; exact h9), had⟩, by rw [ht]; show va_P (dC, dI) vwCl (kWd cI cJ cZ cR (kWl (kS (kS ((F_p_holds ((F_r_forget ((F_a_build ((F_u_gather ((F_j_settle (y)).2) (m0)).2)).2)).2) (((F_r_forget ((F_a_build ((F_u_gather ((F_j_settle (y)).2) (m0)).2)).2)).2).1 (0) 14)).2) (0) 16 ((F_p_holds ((F_r_forget ((F_a_build ((F_u_gather ((F_j_settle (y)).2) (m0)).2)).2)).2) (((F_r_forget ((F_a_build ((F_u_gather ((F_j_settle (y)).2) (m0)).2)).2)).2).1 (0) 14)).1)) (0) 15 (m0))) ad (kM (kS (kS ((F_p_holds ((F_r_forget ((F_a_build ((F_u_gather ((F_j_settle (y)).2) (m0)).2)).2)).2) (((F_r_forget ((F_a_build ((F_u_gather ((F_j_settle (y)).2) (m0)).2)).2)).2).1 (0) 14)).2) (0) 16 ((F_p_holds ((F_r_forget ((F_a_build ((F_u_gather ((F_j_settle (y)).2) (m0)).2)).2)).2) (((F_r_forget ((F_a_build ((F_u_gather ((F_j_settle (y)).2) (m0)).2)).2)).2).1 (0) 14)).1)) (0) 15 (m0))) (kS (kS ((F_p_holds ((F_r_forget ((F_a_build ((F_u_gather ((F_j_settle (y)).2) (m0)).2)).2)).2) (((F_r_forget ((F_a_build ((F_u_gather ((F_j_settle (y)).2) (m0)).2)).2)).2).1 (0) 14)).2) (0) 16 ((F_p_holds ((F_r_forget ((F_a_build ((F_u_gather ((F_j_settle (y)).2) (m0)).2)).2)).2) (((F_r_forget ((F_a_build ((F_u_gather ((F_j_settle (y)).2) (m0)).2)).2)).2).1 (0) 14)).1)) (0) 15 (m0))) H; rw [← eM9, ← eW9]; exact hP, va_K.moved hW.alike hK, by show va_D A (kWd cI cJ cZ cR (kWl (kS (kS ((F_p_holds ((F_r_forget ((F_a_build ((F_u_gather ((F_j_settle (y)).2) (m0)).2)).2)).2) (((F_r_forget ((F_a_build ((F_u_gather ((F_j_settle (y)).2) (m0)).2)).2)).2).1 (0) 14)).2) (0) 16 ((F_p_holds ((F_r_forget ((F_a_build ((F_u_gather ((F_j_settle (y)).2) (m0)).2)).2)).2) (((F_r_forget ((F_a_build ((F_u_gather ((F_j_settle (y)).2) (m0)).2)).2)).2).1 (0) 14)).1)) (0) 15 (m0))) ad (kM (kS (kS ((F_p_holds ((F_r_forget ((F_a_build ((F_u_gather ((F_j_settle (y)).2) (m0)).2)).2)).2) (((F_r_forget ((F_a_build ((F_u_gather ((F_j_settle (y)).2) (m0)).2)).2)).2).1 (0) 14)).2) (0) 16 ((F_p_holds ((F_r_forget ((F_a_build ((F_u_gather ((F_j_settle (y)).2) (m0)).2)).2)).2) (((F_r_forget ((F_a_build ((F_u_gather ((F_j_settle (y)).2) (m0)).2)).2)).2).1 (0) 14)).1)) (0) 15 (m0))) (kS (kS ((F_p_holds ((F_r_forget ((F_a_build ((F_u_gather ((F_j_settle (y)).2) (m0)).2)).2)).2) (((F_r_forget ((F_a_build ((F_u_gather ((F_j_settle (y)).2) (m0)).2)).2)).2).1 (0) 14)).2) (0) 16 ((F_p_holds ((F_r_forget ((F_a_build ((F_u_gather ((F_j_settle (y)).2) (m0)).2)).2)).2) (((F_r_forget ((F_a_build ((F_u_gather ((F_j_settle (y)).2) (m0)).2)).2)).2).1 (0) 14)).1)) (0) 15 (m0))); rw [← eM9, ← eW9]; exact hD⟩, hS.F ht⟩) hS.2.2 dX11_see_168
            · skip
              rw [if_neg c_146] at hres
              refine lv_aload_n hx hb dX11_see_149 rfl (lv_at hl 0 rfl) ?_
              refine va_get (D := (dC, dI)) (ci := 11) (v := .ref (ad (64))) (C := RX11) (T := TX11) (N := 17) hx hb hts hinX11 hown hK hP (0) (kg0 (by omega)) rfl 6 (by decide) (hts (.fieldLink RX11 53 "LikeWords" "machine" "LLikeWords$Machine;") (by decide +kernel)) (fun _ h9 => h9) rfl dX11_see_150 ?_
              have fh := F_p_holds_fr (F_r_forget (F_a_build (F_u_gather (F_j_settle y).2 m0).2).2).2 ((F_r_forget (F_a_build (F_u_gather (F_j_settle y).2 m0).2).2).2.1 0 14)
              have maf := sf.1.1.2.2.2.2.1
              have mat : maR (kS ((F_p_holds ((F_r_forget ((F_a_build ((F_u_gather ((F_j_settle (y)).2) (m0)).2)).2)).2) (((F_r_forget ((F_a_build ((F_u_gather ((F_j_settle (y)).2) (m0)).2)).2)).2).1 (0) 14)).2) (0) 16 ((F_p_holds ((F_r_forget ((F_a_build ((F_u_gather ((F_j_settle (y)).2) (m0)).2)).2)).2) (((F_r_forget ((F_a_build ((F_u_gather ((F_j_settle (y)).2) (m0)).2)).2)).2).1 (0) 14)).1)) := by
                unfold maR
                rw [kS_c (by decide), kS_2, fh.1 64 7 (by decide) (by decide), fh.2 65 (by decide) (by decide), fh.2 66 (by decide) (by decide)]
                exact maf
              have l2t : 1 ≤ (kS ((F_p_holds ((F_r_forget ((F_a_build ((F_u_gather ((F_j_settle (y)).2) (m0)).2)).2)).2) (((F_r_forget ((F_a_build ((F_u_gather ((F_j_settle (y)).2) (m0)).2)).2)).2).1 (0) 14)).2) (0) 16 ((F_p_holds ((F_r_forget ((F_a_build ((F_u_gather ((F_j_settle (y)).2) (m0)).2)).2)).2) (((F_r_forget ((F_a_build ((F_u_gather ((F_j_settle (y)).2) (m0)).2)).2)).2).1 (0) 14)).1)).1 1 2 ∧ (kS ((F_p_holds ((F_r_forget ((F_a_build ((F_u_gather ((F_j_settle (y)).2) (m0)).2)).2)).2) (((F_r_forget ((F_a_build ((F_u_gather ((F_j_settle (y)).2) (m0)).2)).2)).2).1 (0) 14)).2) (0) 16 ((F_p_holds ((F_r_forget ((F_a_build ((F_u_gather ((F_j_settle (y)).2) (m0)).2)).2)).2) (((F_r_forget ((F_a_build ((F_u_gather ((F_j_settle (y)).2) (m0)).2)).2)).2).1 (0) 14)).1)).1 1 2 ≤ 4 := by
                rw [kS_c (by decide), fh.1 1 2 (by decide) (by decide)]
                exact sf.1.1.1.1.1
              have rwt : ∀ j : Nat, iRL ((kS ((F_p_holds ((F_r_forget ((F_a_build ((F_u_gather ((F_j_settle (y)).2) (m0)).2)).2)).2) (((F_r_forget ((F_a_build ((F_u_gather ((F_j_settle (y)).2) (m0)).2)).2)).2).1 (0) 14)).2) (0) 16 ((F_p_holds ((F_r_forget ((F_a_build ((F_u_gather ((F_j_settle (y)).2) (m0)).2)).2)).2) (((F_r_forget ((F_a_build ((F_u_gather ((F_j_settle (y)).2) (m0)).2)).2)).2).1 (0) 14)).1)).2 (kWs ((kS ((F_p_holds ((F_r_forget ((F_a_build ((F_u_gather ((F_j_settle (y)).2) (m0)).2)).2)).2) (((F_r_forget ((F_a_build ((F_u_gather ((F_j_settle (y)).2) (m0)).2)).2)).2).1 (0) 14)).2) (0) 16 ((F_p_holds ((F_r_forget ((F_a_build ((F_u_gather ((F_j_settle (y)).2) (m0)).2)).2)).2) (((F_r_forget ((F_a_build ((F_u_gather ((F_j_settle (y)).2) (m0)).2)).2)).2).1 (0) 14)).1)).1 64 4)) j) := by
                rw [kS_2]
                unfold kWs
                split
                · rw [fh.2 67 (by decide) (by decide)]; exact sh.2.2.2.2.1
                · rw [fh.2 68 (by decide) (by decide)]; exact sh.2.2.2.2.2
              have hFc : ∀ q, va_A (kWd cI cJ cZ cR wl ad M (kS ((F_p_holds ((F_r_forget ((F_a_build ((F_u_gather ((F_j_settle (y)).2) (m0)).2)).2)).2) (((F_r_forget ((F_a_build ((F_u_gather ((F_j_settle (y)).2) (m0)).2)).2)).2).1 (0) 14)).2) (0) 16 ((F_p_holds ((F_r_forget ((F_a_build ((F_u_gather ((F_j_settle (y)).2) (m0)).2)).2)).2) (((F_r_forget ((F_a_build ((F_u_gather ((F_j_settle (y)).2) (m0)).2)).2)).2).1 (0) 14)).1))) H.size q → A q := fun q hq => Or.elim hq (fun ⟨k, e, hk⟩ => hD.2 k (q, e) hk) (fun hk => hA q (Nat.le_trans hS.1 hk))
              refine va_callv (va_runV (b := ad (64)) (As := []) (rest := []) ⟨hx, hb, hml, hown, hts⟩ (c_a_tally l dC dI ad cI cJ cZ cR M wl H.size (kS ((F_p_holds ((F_r_forget ((F_a_build ((F_u_gather ((F_j_settle (y)).2) (m0)).2)).2)).2) (((F_r_forget ((F_a_build ((F_u_gather ((F_j_settle (y)).2) (m0)).2)).2)).2).1 (0) 14)).2) (0) 16 ((F_p_holds ((F_r_forget ((F_a_build ((F_u_gather ((F_j_settle (y)).2) (m0)).2)).2)).2) (((F_r_forget ((F_a_build ((F_u_gather ((F_j_settle (y)).2) (m0)).2)).2)).2).1 (0) 14)).1))   hM mat l2t rwt) (cwV 0 hts gX11_see_X3_tally rfl rfl rfl (by decide +kernel) ⟨Nat.le_of_ble_eq_true rfl, Nat.le_of_ble_eq_true rfl⟩) ⟨fun a U g mk q => by obtain ⟨q0, q1, qP, qK, qD, qN⟩ := q; exact ⟨q0, q1, qP, va_K.moved (u := U) (U := U.calling g mk a) (Vm.Alike.refl U.vm) qK, qD, kNw.same (u := U) (U := U.calling g mk a) rfl qN⟩, va_recv hK hP (ci := 3) (q0 := 64) rfl (kg64 (by omega)), fun U hU hW => ⟨rfl, by rw [hU], by rw [hU]; exact hP, va_K.moved hW.alike hK, hD.weaken (fun _ _ _ _ => trivial), kNw.warm hW hNw⟩⟩ rfl rfl hl.1 rfl (lv_room (Nat.le_of_ble_eq_true rfl)) dX11_see_153 ⟨(show _ ≤ kPo x - kPo (F_t_see x m0).2 by omega), (show _ ≤ kPs x - kPs (F_t_see x m0).2 by omega)⟩) hS (fun q _ h => hFc q h) hFc (fun u9 t H1 locs ht hvm hw hB hz1 hk1 hS => ?_)
              obtain ⟨hP1, hK1, hD1⟩ := hB
              rw [ht] at hP1
              rw [hw] at hP1 hD1
              have hD2 := hD1.weaken (B := A) (fun _ q _ h => hFc q.1 h)
              have hP := hP1
              have hD := hD2
              generalize H1 = H at hP hS ⊢
              refine lv_aload_n hx hb dX11_see_156 rfl (lv_at hl 0 rfl) ?_
              refine lv_iload_n hx hb dX11_see_157 rfl (lv_at hl 1 rfl) ?_
              refine va_put (D := (dC, dI)) (ci := 11) (v := .int (iI (m0))) (ty := .int) (C := RX11) (T := TX11) (N := 17) hx hb hts hinX11 tyX11 tyX11_ok nmX11 hown hK hP hD hS (0) (kg0 (by omega)) rfl 15 (by decide) (hts (.fieldLink RX11 172 "LikeWords" "seenTo" "I") (by decide +kernel)) (fun _ h9 => h9) rfl (by decide +kernel) rfl rfl (Nat.le_of_ble_eq_true rfl) dX11_see_158 (fun H locs hP hD hS => ?_)
              rw [ks0_15] at hP hD
              refine lv_aload_n hx hb dX11_see_161 rfl (lv_at hl 0 rfl) ?_
              refine va_get (D := (dC, dI)) (ci := 11) (v := .ref (ad (58))) (C := RX11) (T := TX11) (N := 17) hx hb hts hinX11 hown hK hP (0) (kg0 (by omega)) rfl 5 (by decide) (hts (.fieldLink RX11 44 "LikeWords" "rules" "LLikeWords$Rules;") (by decide +kernel)) (fun _ h9 => h9) rfl dX11_see_162 ?_
              refine va_get (D := (dC, dI)) (ci := 7) (v := .int (iI (((F_a_tally (kS ((F_p_holds ((F_r_forget ((F_a_build ((F_u_gather ((F_j_settle (y)).2) (m0)).2)).2)).2) (((F_r_forget ((F_a_build ((F_u_gather ((F_j_settle (y)).2) (m0)).2)).2)).2).1 (0) 14)).2) (0) 16 ((F_p_holds ((F_r_forget ((F_a_build ((F_u_gather ((F_j_settle (y)).2) (m0)).2)).2)).2) (((F_r_forget ((F_a_build ((F_u_gather ((F_j_settle (y)).2) (m0)).2)).2)).2).1 (0) 14)).1))).2).1 (58) 6))) (C := RX7) (T := TX7) (N := 7) hx hb hts hinX7 hown hK hP (58) (kg58 (by omega)) rfl 6 (by decide) (hts (.fieldLink RX11 175 "LikeWords$Rules" "held" "I") (by decide +kernel)) (fun _ h9 => h9) (congrArg (fun z9 => some (Value.int (iI z9))) (congrFun (kS_c (by decide)) 6)) dX11_see_165 ?_
              have kg9 : kG ((F_p_holds ((F_r_forget ((F_a_build ((F_u_gather ((F_j_settle (y)).2) (m0)).2)).2)).2) (((F_r_forget ((F_a_build ((F_u_gather ((F_j_settle (y)).2) (m0)).2)).2)).2).1 (0) 14)).2) (kS ((F_a_tally (kS ((F_p_holds ((F_r_forget ((F_a_build ((F_u_gather ((F_j_settle (y)).2) (m0)).2)).2)).2) (((F_r_forget ((F_a_build ((F_u_gather ((F_j_settle (y)).2) (m0)).2)).2)).2).1 (0) 14)).2) (0) 16 ((F_p_holds ((F_r_forget ((F_a_build ((F_u_gather ((F_j_settle (y)).2) (m0)).2)).2)).2) (((F_r_forget ((F_a_build ((F_u_gather ((F_j_settle (y)).2) (m0)).2)).2)).2).1 (0) 14)).1))).2) (0) 15 (m0)) := (kG_s (by first | decide | (intro h9; simp at h9; done) | (intro h9; simp at h9; omega)) (by first | decide | (intro h9; simp at h9; done) | (intro h9; simp at h9; omega)) (kG_tr (kG_s (by first | decide | (intro h9; simp at h9; done) | (intro h9; simp at h9; omega)) (by first | decide | (intro h9; simp at h9; done) | (intro h9; simp at h9; omega)) (kG_rf _)) (kG_of (F_a_tally_fr (kS ((F_p_holds ((F_r_forget ((F_a_build ((F_u_gather ((F_j_settle (y)).2) (m0)).2)).2)).2) (((F_r_forget ((F_a_build ((F_u_gather ((F_j_settle (y)).2) (m0)).2)).2)).2).1 (0) 14)).2) (0) 16 ((F_p_holds ((F_r_forget ((F_a_build ((F_u_gather ((F_j_settle (y)).2) (m0)).2)).2)).2) (((F_r_forget ((F_a_build ((F_u_gather ((F_j_settle (y)).2) (m0)).2)).2)).2).1 (0) 14)).1))) (by first | decide | (intro h9; simp at h9; done) | (intro h9; simp at h9; omega)) (by first | decide | (intro h9; simp at h9; done) | (intro h9; simp at h9; omega)))))
              have eM9 : M = kM (kS ((F_a_tally (kS ((F_p_holds ((F_r_forget ((F_a_build ((F_u_gather ((F_j_settle (y)).2) (m0)).2)).2)).2) (((F_r_forget ((F_a_build ((F_u_gather ((F_j_settle (y)).2) (m0)).2)).2)).2).1 (0) 14)).2) (0) 16 ((F_p_holds ((F_r_forget ((F_a_build ((F_u_gather ((F_j_settle (y)).2) (m0)).2)).2)).2) (((F_r_forget ((F_a_build ((F_u_gather ((F_j_settle (y)).2) (m0)).2)).2)).2).1 (0) 14)).1))).2) (0) 15 (m0)) := hkM.trans (kG_M kg9).symm
              have eW9 : wl = kWl (kS ((F_a_tally (kS ((F_p_holds ((F_r_forget ((F_a_build ((F_u_gather ((F_j_settle (y)).2) (m0)).2)).2)).2) (((F_r_forget ((F_a_build ((F_u_gather ((F_j_settle (y)).2) (m0)).2)).2)).2).1 (0) 14)).2) (0) 16 ((F_p_holds ((F_r_forget ((F_a_build ((F_u_gather ((F_j_settle (y)).2) (m0)).2)).2)).2) (((F_r_forget ((F_a_build ((F_u_gather ((F_j_settle (y)).2) (m0)).2)).2)).2).1 (0) 14)).1))).2) (0) 15 (m0)) := hkW.trans (kG_W kg9).symm
              have eP9 := (kG_p kg9).1
              have eS9 := (kG_p kg9).2
              have kl1 := kle.1
              have kl2 := kle.2
              have hF2 : (F_t_see x m0).2 = kS ((F_a_tally (kS ((F_p_holds ((F_r_forget ((F_a_build ((F_u_gather ((F_j_settle (y)).2) (m0)).2)).2)).2) (((F_r_forget ((F_a_build ((F_u_gather ((F_j_settle (y)).2) (m0)).2)).2)).2).1 (0) 14)).2) (0) 16 ((F_p_holds ((F_r_forget ((F_a_build ((F_u_gather ((F_j_settle (y)).2) (m0)).2)).2)).2) (((F_r_forget ((F_a_build ((F_u_gather ((F_j_settle (y)).2) (m0)).2)).2)).2).1 (0) 14)).1))).2) (0) 15 (m0) := by
                have h9 := congrArg Prod.snd hres
                exact h9.symm
              refine W.widen (k := kPo x - kPo (F_t_see x m0).2) (n := kPs x - kPs (F_t_see x m0).2) (by rw [hF2]; omega) (by rw [hF2]; omega) ?_
              exact W.iret (v := iI (((F_a_tally (kS ((F_p_holds ((F_r_forget ((F_a_build ((F_u_gather ((F_j_settle (y)).2) (m0)).2)).2)).2) (((F_r_forget ((F_a_build ((F_u_gather ((F_j_settle (y)).2) (m0)).2)).2)).2).1 (0) 14)).2) (0) 16 ((F_p_holds ((F_r_forget ((F_a_build ((F_u_gather ((F_j_settle (y)).2) (m0)).2)).2)).2) (((F_r_forget ((F_a_build ((F_u_gather ((F_j_settle (y)).2) (m0)).2)).2)).2).1 (0) 14)).1))).2).1 (58) 6)) hx hb hr (fun t ht hW => ⟨⟨iI (((F_a_tally (kS ((F_p_holds ((F_r_forget ((F_a_build ((F_u_gather ((F_j_settle (y)).2) (m0)).2)).2)).2) (((F_r_forget ((F_a_build ((F_u_gather ((F_j_settle (y)).2) (m0)).2)).2)).2).1 (0) 14)).2) (0) 16 ((F_p_holds ((F_r_forget ((F_a_build ((F_u_gather ((F_j_settle (y)).2) (m0)).2)).2)).2) (((F_r_forget ((F_a_build ((F_u_gather ((F_j_settle (y)).2) (m0)).2)).2)).2).1 (0) 14)).1))).2).1 (58) 6), (kS ((F_a_tally (kS ((F_p_holds ((F_r_forget ((F_a_build ((F_u_gather ((F_j_settle (y)).2) (m0)).2)).2)).2) (((F_r_forget ((F_a_build ((F_u_gather ((F_j_settle (y)).2) (m0)).2)).2)).2).1 (0) 14)).2) (0) 16 ((F_p_holds ((F_r_forget ((F_a_build ((F_u_gather ((F_j_settle (y)).2) (m0)).2)).2)).2) (((F_r_forget ((F_a_build ((F_u_gather ((F_j_settle (y)).2) (m0)).2)).2)).2).1 (0) 14)).1))).2) (0) 15 (m0), ad), rfl, ⟨(by have h9 := congrArg (fun z : Int × KS => iI z.1) hres; exact h9), (by have h9 := congrArg (fun z : Int × KS => z.2) hres; exact h9), had⟩, by rw [ht]; show va_P (dC, dI) vwCl (kWd cI cJ cZ cR (kWl (kS ((F_a_tally (kS ((F_p_holds ((F_r_forget ((F_a_build ((F_u_gather ((F_j_settle (y)).2) (m0)).2)).2)).2) (((F_r_forget ((F_a_build ((F_u_gather ((F_j_settle (y)).2) (m0)).2)).2)).2).1 (0) 14)).2) (0) 16 ((F_p_holds ((F_r_forget ((F_a_build ((F_u_gather ((F_j_settle (y)).2) (m0)).2)).2)).2) (((F_r_forget ((F_a_build ((F_u_gather ((F_j_settle (y)).2) (m0)).2)).2)).2).1 (0) 14)).1))).2) (0) 15 (m0))) ad (kM (kS ((F_a_tally (kS ((F_p_holds ((F_r_forget ((F_a_build ((F_u_gather ((F_j_settle (y)).2) (m0)).2)).2)).2) (((F_r_forget ((F_a_build ((F_u_gather ((F_j_settle (y)).2) (m0)).2)).2)).2).1 (0) 14)).2) (0) 16 ((F_p_holds ((F_r_forget ((F_a_build ((F_u_gather ((F_j_settle (y)).2) (m0)).2)).2)).2) (((F_r_forget ((F_a_build ((F_u_gather ((F_j_settle (y)).2) (m0)).2)).2)).2).1 (0) 14)).1))).2) (0) 15 (m0))) (kS ((F_a_tally (kS ((F_p_holds ((F_r_forget ((F_a_build ((F_u_gather ((F_j_settle (y)).2) (m0)).2)).2)).2) (((F_r_forget ((F_a_build ((F_u_gather ((F_j_settle (y)).2) (m0)).2)).2)).2).1 (0) 14)).2) (0) 16 ((F_p_holds ((F_r_forget ((F_a_build ((F_u_gather ((F_j_settle (y)).2) (m0)).2)).2)).2) (((F_r_forget ((F_a_build ((F_u_gather ((F_j_settle (y)).2) (m0)).2)).2)).2).1 (0) 14)).1))).2) (0) 15 (m0))) H; rw [← eM9, ← eW9]; exact hP, va_K.moved hW.alike hK, by show va_D A (kWd cI cJ cZ cR (kWl (kS ((F_a_tally (kS ((F_p_holds ((F_r_forget ((F_a_build ((F_u_gather ((F_j_settle (y)).2) (m0)).2)).2)).2) (((F_r_forget ((F_a_build ((F_u_gather ((F_j_settle (y)).2) (m0)).2)).2)).2).1 (0) 14)).2) (0) 16 ((F_p_holds ((F_r_forget ((F_a_build ((F_u_gather ((F_j_settle (y)).2) (m0)).2)).2)).2) (((F_r_forget ((F_a_build ((F_u_gather ((F_j_settle (y)).2) (m0)).2)).2)).2).1 (0) 14)).1))).2) (0) 15 (m0))) ad (kM (kS ((F_a_tally (kS ((F_p_holds ((F_r_forget ((F_a_build ((F_u_gather ((F_j_settle (y)).2) (m0)).2)).2)).2) (((F_r_forget ((F_a_build ((F_u_gather ((F_j_settle (y)).2) (m0)).2)).2)).2).1 (0) 14)).2) (0) 16 ((F_p_holds ((F_r_forget ((F_a_build ((F_u_gather ((F_j_settle (y)).2) (m0)).2)).2)).2) (((F_r_forget ((F_a_build ((F_u_gather ((F_j_settle (y)).2) (m0)).2)).2)).2).1 (0) 14)).1))).2) (0) 15 (m0))) (kS ((F_a_tally (kS ((F_p_holds ((F_r_forget ((F_a_build ((F_u_gather ((F_j_settle (y)).2) (m0)).2)).2)).2) (((F_r_forget ((F_a_build ((F_u_gather ((F_j_settle (y)).2) (m0)).2)).2)).2).1 (0) 14)).2) (0) 16 ((F_p_holds ((F_r_forget ((F_a_build ((F_u_gather ((F_j_settle (y)).2) (m0)).2)).2)).2) (((F_r_forget ((F_a_build ((F_u_gather ((F_j_settle (y)).2) (m0)).2)).2)).2).1 (0) 14)).1))).2) (0) 15 (m0))); rw [← eM9, ← eW9]; exact hD⟩, hS.F ht⟩) hS.2.2 dX11_see_168
          · skip
            rw [if_pos c_103] at hres
            refine lv_bipush (v := iI (-4 : Int)) hx hb dX11_see_106 (by decide) ?_
            have kg9 : kG (y) ((F_u_gather ((F_j_settle (y)).2) (m0)).2) := (kG_tr (kG_tr (kG_rf _) (kG_of (F_j_settle_fr (y)) (by first | decide | (intro h9; simp at h9; done) | (intro h9; simp at h9; omega)) (by first | decide | (intro h9; simp at h9; done) | (intro h9; simp at h9; omega)))) (kG_of (F_u_gather_fr ((F_j_settle (y)).2) (m0)) (by first | decide | (intro h9; simp at h9; done) | (intro h9; simp at h9; omega)) (by first | decide | (intro h9; simp at h9; done) | (intro h9; simp at h9; omega))))
            have eM9 : M = kM ((F_u_gather ((F_j_settle (y)).2) (m0)).2) := hkM.trans (kG_M kg9).symm
            have eW9 : wl = kWl ((F_u_gather ((F_j_settle (y)).2) (m0)).2) := hkW.trans (kG_W kg9).symm
            have eP9 := (kG_p kg9).1
            have eS9 := (kG_p kg9).2
            have kl1 := kle.1
            have kl2 := kle.2
            have hF2 : (F_t_see x m0).2 = (F_u_gather ((F_j_settle (y)).2) (m0)).2 := by
              have h9 := congrArg Prod.snd hres
              exact h9.symm
            refine W.widen (k := kPo x - kPo (F_t_see x m0).2) (n := kPs x - kPs (F_t_see x m0).2) (by rw [hF2]; omega) (by rw [hF2]; omega) ?_
            exact W.iret (v := iI ((-4 : Int))) hx hb hr (fun t ht hW => ⟨⟨iI ((-4 : Int)), ((F_u_gather ((F_j_settle (y)).2) (m0)).2, ad), rfl, ⟨(by have h9 := congrArg (fun z : Int × KS => iI z.1) hres; exact h9), (by have h9 := congrArg (fun z : Int × KS => z.2) hres; exact h9), had⟩, by rw [ht]; show va_P (dC, dI) vwCl (kWd cI cJ cZ cR (kWl ((F_u_gather ((F_j_settle (y)).2) (m0)).2)) ad (kM ((F_u_gather ((F_j_settle (y)).2) (m0)).2)) ((F_u_gather ((F_j_settle (y)).2) (m0)).2)) H; rw [← eM9, ← eW9]; exact hP, va_K.moved hW.alike hK, by show va_D A (kWd cI cJ cZ cR (kWl ((F_u_gather ((F_j_settle (y)).2) (m0)).2)) ad (kM ((F_u_gather ((F_j_settle (y)).2) (m0)).2)) ((F_u_gather ((F_j_settle (y)).2) (m0)).2)); rw [← eM9, ← eW9]; exact hD⟩, hS.F ht⟩) hS.2.2 dX11_see_108
        · skip
          rw [if_neg c_45] at hres
          refine lv_aload_n hx hb dX11_see_48 rfl (lv_at hl 0 rfl) ?_
          refine va_get (D := (dC, dI)) (ci := 11) (v := .ref (ad (56))) (C := RX11) (T := TX11) (N := 17) hx hb hts hinX11 hown hK hP (0) (kg0 (by omega)) rfl 4 (by decide) (hts (.fieldLink RX11 35 "LikeWords" "joins" "LLikeWords$Joins;") (by decide +kernel)) (fun _ h9 => h9) rfl dX11_see_49 ?_
          refine lv_aload_n hx hb dX11_see_52 rfl (lv_at hl 0 rfl) ?_
          refine va_get (D := (dC, dI)) (ci := 11) (v := .ref (ad (23))) (C := RX11) (T := TX11) (N := 17) hx hb hts hinX11 hown hK hP (0) (kg0 (by omega)) rfl 3 (by decide) (hts (.fieldLink RX11 29 "LikeWords" "lawSides" "[LLikeWords$Word;") (by decide +kernel)) (fun _ h9 => h9) rfl dX11_see_53 ?_
          refine lv_iconst (v := iI (2 : Int)) hx hb dX11_see_56 (by decide) ?_
          refine lv_iload_n hx hb dX11_see_57 rfl (lv_at hl 2 rfl) ?_
          refine wi_imul hx hb dX11_see_58 ?_
          refine va_aldq (C := "LikeWords$Word") (n := 16) (f := fun j => some (ad (24 + 2 * j))) hx hb hK hP 23 3 (kget (by omega)) rfl (iI_in (z := ((2 : Int)) * (i)) (by omega) (by omega) (by decide)) dX11_see_59 ?_
          rw [iI_clamp ⟨by omega, by omega⟩]
          refine W.eq (g2 := F0 m 60 ls [.ref (ad (24 + 2 * (((2 : Int)) * (i)).toNat)), .ref (ad (56))]) rfl ?_
          refine lv_aload_n hx hb dX11_see_60 rfl (lv_at hl 0 rfl) ?_
          refine va_get (D := (dC, dI)) (ci := 11) (v := .ref (ad (23))) (C := RX11) (T := TX11) (N := 17) hx hb hts hinX11 hown hK hP (0) (kg0 (by omega)) rfl 3 (by decide) (hts (.fieldLink RX11 29 "LikeWords" "lawSides" "[LLikeWords$Word;") (by decide +kernel)) (fun _ h9 => h9) rfl dX11_see_61 ?_
          refine lv_iconst (v := iI (2 : Int)) hx hb dX11_see_64 (by decide) ?_
          refine lv_iload_n hx hb dX11_see_65 rfl (lv_at hl 2 rfl) ?_
          refine wi_imul hx hb dX11_see_66 ?_
          refine lv_iconst (v := iI (1 : Int)) hx hb dX11_see_67 (by decide) ?_
          refine wi_iadd hx hb dX11_see_68 ?_
          refine va_aldq (C := "LikeWords$Word") (n := 16) (f := fun j => some (ad (24 + 2 * j))) hx hb hK hP 23 3 (kget (by omega)) rfl (iI_in (z := (((2 : Int)) * (i)) + ((1 : Int))) (by omega) (by omega) (by decide)) dX11_see_69 ?_
          rw [iI_clamp ⟨by omega, by omega⟩]
          refine W.eq (g2 := F0 m 70 ls [.ref (ad (24 + 2 * ((((2 : Int)) * (i)) + ((1 : Int))).toNat)), .ref (ad (24 + 2 * (((2 : Int)) * (i)).toNat)), .ref (ad (56))]) rfl ?_
          refine lv_aload_n hx hb dX11_see_70 rfl (lv_at hl 0 rfl) ?_
          refine va_get (D := (dC, dI)) (ci := 11) (v := .ref (ad (1))) (C := RX11) (T := TX11) (N := 17) hx hb hts hinX11 hown hK hP (0) (kg0 (by omega)) rfl 0 (by decide) (hts (.fieldLink RX11 14 "LikeWords" "scale" "LLikeWords$Scale;") (by decide +kernel)) (fun _ h9 => h9) rfl dX11_see_71 ?_
          refine lv_iload_n hx hb dX11_see_74 rfl (lv_at hl 1 rfl) ?_
          have sa := se_side sp jy (k := ((2 : Int) * i).toNat) (by omega)
          have sb := se_side sp jy (k := ((2 : Int) * i + (1 : Int)).toNat) (by omega)
          have hFc : ∀ q, va_A (kWd cI cJ cZ cR wl ad M (y)) H.size q → A q := fun q hq => Or.elim hq (fun ⟨k, e, hk⟩ => hD.2 k (q, e) hk) (fun hk => hA q (Nat.le_trans hS.1 hk))
          refine va_callv (va_runV (b := ad (56)) (As := [.ref (ad (24 + 2 * (((2 : Int)) * (i)).toNat)), .ref (ad (24 + 2 * ((((2 : Int)) * (i)) + ((1 : Int))).toNat)), .ref (ad (1)), .int (iI (m0))]) (rest := []) ⟨hx, hb, hml, hown, hts⟩ (c_j_joinByLaw l dC dI ad cI cJ cZ cR M wl H.size (y) (24 + 2 * (((2 : Int)) * (i)).toNat) (24 + 2 * ((((2 : Int)) * (i)) + ((1 : Int))).toNat) (m0) hM (kW_law (by omega) (by omega)) (by omega) (kW_law (by omega) (by omega)) (by omega) sa.2.2.2.1 jy.2.1 sa.1.1.1 (by rw [sa.2.2.1]; exact sa.2.1) sa.2.2.2.2.1 sb.1.1.1 (by rw [sb.2.2.1]; exact sb.2.1) sb.2.2.2.2.1 (by omega) (by rw [jy.1.1 1 3 (by decide)]; exact m2) (r03_R sa.1.2.1) (r03_R sb.1.2.1)) (cwV 4 hts gX11_see_X1_joinByLaw rfl rfl rfl (by decide +kernel) ⟨Nat.le_of_ble_eq_true rfl, Nat.le_of_ble_eq_true rfl⟩) ⟨fun a U g mk q => by obtain ⟨q0, q1, qP, qK, qD, qN⟩ := q; exact ⟨q0, q1, qP, va_K.moved (u := U) (U := U.calling g mk a) (Vm.Alike.refl U.vm) qK, qD, kNw.same (u := U) (U := U.calling g mk a) rfl qN⟩, va_recv hK hP (ci := 1) (q0 := 56) rfl (kg56 (by omega)), fun U hU hW => ⟨rfl, by rw [hU], by rw [hU]; exact hP, va_K.moved hW.alike hK, hD.weaken (fun _ _ _ _ => trivial), kNw.warm hW hNw⟩⟩ rfl rfl hl.1 rfl (lv_room (Nat.le_of_ble_eq_true rfl)) dX11_see_75 ⟨(show _ ≤ kPo x - kPo (F_t_see x m0).2 by omega), (show _ ≤ kPs x - kPs (F_t_see x m0).2 by omega)⟩) hS (fun q _ h => hFc q h) hFc (fun u9 t H1 locs ht hvm hw hB hz1 hk1 hS => ?_)
          obtain ⟨hP1, hK1, hD1⟩ := hB
          rw [ht] at hP1
          rw [hw] at hP1 hD1
          have hD2 := hD1.weaken (B := A) (fun _ q _ h => hFc q.1 h)
          have hP := hP1
          have hD := hD2
          generalize H1 = H at hP hS ⊢
          refine lv_iinc (v := iI ((i) + (1 : Int))) (lv' := [(2, .int (iI ((i) + (1 : Int)))), (0, .ref (ad (0))), (1, .int (iI (m0)))]) hx hb dX11_see_78 hl (k := 2) rfl (iI_add _ _) (by decide) rfl (fun ls hl => ?_)
          refine lv_goto (tgt := 40) hx hb dX11_see_81 (by decide) ?_
          have kg9 : kG (y) ((F_j_joinByLaw (y) (24 + 2 * (((2 : Int)) * (i)).toNat) (24 + 2 * ((((2 : Int)) * (i)) + ((1 : Int))).toNat) (m0)).2) := (kG_tr (kG_rf _) (kG_of (F_j_joinByLaw_fr (y) (24 + 2 * (((2 : Int)) * (i)).toNat) (24 + 2 * ((((2 : Int)) * (i)) + ((1 : Int))).toNat) (m0)) (by first | decide | (intro h9; simp at h9; done) | (intro h9; simp at h9; omega)) (by first | decide | (intro h9; simp at h9; done) | (intro h9; simp at h9; omega))))
          have eM9 : M = kM ((F_j_joinByLaw (y) (24 + 2 * (((2 : Int)) * (i)).toNat) (24 + 2 * ((((2 : Int)) * (i)) + ((1 : Int))).toNat) (m0)).2) := hkM.trans (kG_M kg9).symm
          have eW9 : wl = kWl ((F_j_joinByLaw (y) (24 + 2 * (((2 : Int)) * (i)).toNat) (24 + 2 * ((((2 : Int)) * (i)) + ((1 : Int))).toNat) (m0)).2) := hkW.trans (kG_W kg9).symm
          have eP9 := (kG_p kg9).1
          have eS9 := (kG_p kg9).2
          have kl1 := kle.1
          have kl2 := kle.2
          refine W.widen (k := kPo x - kPo ((F_j_joinByLaw (y) (24 + 2 * (((2 : Int)) * (i)).toNat) (24 + 2 * ((((2 : Int)) * (i)) + ((1 : Int))).toNat) (m0)).2)) (n := kPs x - kPs ((F_j_joinByLaw (y) (24 + 2 * (((2 : Int)) * (i)).toNat) (24 + 2 * ((((2 : Int)) * (i)) + ((1 : Int))).toNat) (m0)).2)) (by omega) (by omega) ?_
          exact ih ((F_j_joinByLaw (y) (24 + 2 * (((2 : Int)) * (i)).toNat) (24 + 2 * ((((2 : Int)) * (i)) + ((1 : Int))).toNat) (m0)).2) M wl ad ((i) + (1 : Int)) hM eM9 eW9 had ⟨by omega, by omega⟩ (se_law jy _ _) (m1) (m2) (by omega) (by omega) (by omega) hres _ _ ls hP hD hS (lv_sub hl [1, 2, 0] rfl)
  have key : ∀ (M wl : Nat) (ad : Nat → Nat) (H : Heap) (locs : List Loc) (ls : Array Slot), 87 ≤ M → M = kM x → wl = kWl x → (∀ c, c < 87 → ad c = ao c) → va_P (dC, dI) vwCl (kWd cI cJ cZ cR wl ad M (x)) H → va_D A (kWd cI cJ cZ cR wl ad M (x)) → va_S A s.heap H locs → lv_has ls 3 [(0, .ref (ad (0))), (1, .int (iI (m0)))] → W p l e (headSpec wsX11_see ({ frames := 7, cells := kPo x - kPo (F_t_see x m0).2, slots := kPs x - kPs (F_t_see x m0).2, locals := 179 })).room s m ([.ref (ao 0), .int (iI m0)] : List Value).toArray below meth c H locs 0 0 (MQ below (va_Qi (fun (r : Int32) (u : KS × (Nat → Nat)) => r = iI (F_t_see x m0).1 ∧ u.1 = (F_t_see x m0).2 ∧ (∀ c, c < 87 → u.2 c = ao c)) (fun u t => kAt dC dI u.2 cI cJ cZ cR (kM u.1) (kWl u.1) (A) u.1 t) (A)) ([.ref (ao 0), .int (iI m0)] : List Value).toArray s (kPo x - kPo (F_t_see x m0).2) (kPs x - kPs (F_t_see x m0).2) A) (F0 m 0 ls []) := by
    intro M wl ad H locs ls hM hkM hkW had hP hD hS hl
    have kle : kLe x x := kLe_rf x
    have kf9 := F_t_see_le  x m0
    have kf1 := kf9.1
    have kf2 := kf9.2
    have hres : (if (m0) < ((1 : Int)) then ((-2 : Int), x) else (if (m0) ≤ ((x).1 (1) 3) then F_t_see_s 20 0 ((F_j_begin ((F_t_forget (x)).2) ((F_s_countTo ((F_t_forget (x)).2) (m0)).1)).2) (m0) ((0 : Int)) else ((-2 : Int), x))) = F_t_see x m0 := rfl
    refine lv_iload_n hx hb dX11_see_0 rfl (lv_at hl 1 rfl) ?_
    refine lv_iconst (v := iI (1 : Int)) hx hb dX11_see_1 (by decide) ?_
    refine wi_icmp_lt (tgt := 16) hx hb (by first | assumption | (unfold iR; omega) | exact kR01 (by assumption)) ⟨by decide, by decide⟩ dX11_see_2 (by decide) (fun c_2 => ?_) (fun c_2 => ?_)
    · skip
      rw [if_pos c_2] at hres
      refine lv_bipush (v := iI (-2 : Int)) hx hb dX11_see_16 (by decide) ?_
      have kg9 : kG (x) (x) := (kG_rf _)
      have eM9 : M = kM (x) := hkM.trans (kG_M kg9).symm
      have eW9 : wl = kWl (x) := hkW.trans (kG_W kg9).symm
      have eP9 := (kG_p kg9).1
      have eS9 := (kG_p kg9).2
      have kl1 := kle.1
      have kl2 := kle.2
      have hF2 : (F_t_see x m0).2 = x := by
        have h9 := congrArg Prod.snd hres
        exact h9.symm
      refine W.widen (k := kPo x - kPo (F_t_see x m0).2) (n := kPs x - kPs (F_t_see x m0).2) (by rw [hF2]; omega) (by rw [hF2]; omega) ?_
      exact W.iret (v := iI ((-2 : Int))) hx hb hr (fun t ht hW => ⟨⟨iI ((-2 : Int)), (x, ad), rfl, ⟨(by have h9 := congrArg (fun z : Int × KS => iI z.1) hres; exact h9), (by have h9 := congrArg (fun z : Int × KS => z.2) hres; exact h9), had⟩, by rw [ht]; show va_P (dC, dI) vwCl (kWd cI cJ cZ cR (kWl (x)) ad (kM (x)) (x)) H; rw [← eM9, ← eW9]; exact hP, va_K.moved hW.alike hK, by show va_D A (kWd cI cJ cZ cR (kWl (x)) ad (kM (x)) (x)); rw [← eM9, ← eW9]; exact hD⟩, hS.F ht⟩) hS.2.2 dX11_see_18
    · skip
      rw [if_neg c_2] at hres
      refine lv_iload_n hx hb dX11_see_5 rfl (lv_at hl 1 rfl) ?_
      refine lv_aload_n hx hb dX11_see_6 rfl (lv_at hl 0 rfl) ?_
      refine va_get (D := (dC, dI)) (ci := 11) (v := .ref (ad (1))) (C := RX11) (T := TX11) (N := 17) hx hb hts hinX11 hown hK hP (0) (kg0 (by omega)) rfl 0 (by decide) (hts (.fieldLink RX11 14 "LikeWords" "scale" "LLikeWords$Scale;") (by decide +kernel)) (fun _ h9 => h9) rfl dX11_see_7 ?_
      refine va_get (D := (dC, dI)) (ci := 8) (v := .int (iI ((x).1 (1) 3))) (C := RX8) (T := TX8) (N := 4) hx hb hts hinX8 hown hK hP (1) (kg1 (by omega)) rfl 3 (by decide) (hts (.fieldLink RX11 137 "LikeWords$Scale" "longest" "I") (by decide +kernel)) (fun _ h9 => h9) rfl dX11_see_10 ?_
      refine wi_icmp_le (tgt := 19) hx hb rm (by have := sp.1.1.2.1; unfold iR; omega) dX11_see_13 (by decide) (fun c_13 => ?_) (fun c_13 => ?_)
      · skip
        rw [if_pos c_13] at hres
        refine lv_aload_n hx hb dX11_see_19 rfl (lv_at hl 0 rfl) ?_
        have hFc : ∀ q, va_A (kWd cI cJ cZ cR wl ad M (x)) H.size q → A q := fun q hq => Or.elim hq (fun ⟨k, e, hk⟩ => hD.2 k (q, e) hk) (fun hk => hA q (Nat.le_trans hS.1 hk))
        refine va_callv (va_runV (b := ad (0)) (As := []) (rest := []) ⟨hx, hb, hml, hown, hts⟩ (c_t_forget l dC dI ad cI cJ cZ cR M wl H.size (x)   hM ) (cwV 0 hts gX11_see_X11_forget rfl rfl rfl (by decide +kernel) ⟨Nat.le_of_ble_eq_true rfl, Nat.le_of_ble_eq_true rfl⟩) ⟨fun a U g mk q => by obtain ⟨q0, q1, qP, qK, qD, qN⟩ := q; exact ⟨q0, q1, qP, va_K.moved (u := U) (U := U.calling g mk a) (Vm.Alike.refl U.vm) qK, qD, kNw.same (u := U) (U := U.calling g mk a) rfl qN⟩, va_recv hK hP (ci := 11) (q0 := 0) rfl (kg0 (by omega)), fun U hU hW => ⟨rfl, by rw [hU], by rw [hU]; exact hP, va_K.moved hW.alike hK, hD.weaken (fun _ _ _ _ => trivial), kNw.warm hW hNw⟩⟩ rfl rfl hl.1 rfl (lv_room (Nat.le_of_ble_eq_true rfl)) dX11_see_20 ⟨(show _ ≤ kPo x - kPo (F_t_see x m0).2 by omega), (show _ ≤ kPs x - kPs (F_t_see x m0).2 by omega)⟩) hS (fun q _ h => hFc q h) hFc (fun u9 t H1 locs ht hvm hw hB hz1 hk1 hS => ?_)
        obtain ⟨hP1, hK1, hD1⟩ := hB
        rw [ht] at hP1
        rw [hw] at hP1 hD1
        have hD2 := hD1.weaken (B := A) (fun _ q _ h => hFc q.1 h)
        have hP := hP1
        have hD := hD2
        generalize H1 = H at hP hS ⊢
        refine lv_aload_n hx hb dX11_see_23 rfl (lv_at hl 0 rfl) ?_
        refine va_get (D := (dC, dI)) (ci := 11) (v := .ref (ad (56))) (C := RX11) (T := TX11) (N := 17) hx hb hts hinX11 hown hK hP (0) (kg0 (by omega)) rfl 4 (by decide) (hts (.fieldLink RX11 35 "LikeWords" "joins" "LLikeWords$Joins;") (by decide +kernel)) (fun _ h9 => h9) rfl dX11_see_24 ?_
        refine lv_aload_n hx hb dX11_see_27 rfl (lv_at hl 0 rfl) ?_
        refine va_get (D := (dC, dI)) (ci := 11) (v := .ref (ad (1))) (C := RX11) (T := TX11) (N := 17) hx hb hts hinX11 hown hK hP (0) (kg0 (by omega)) rfl 0 (by decide) (hts (.fieldLink RX11 14 "LikeWords" "scale" "LLikeWords$Scale;") (by decide +kernel)) (fun _ h9 => h9) rfl dX11_see_28 ?_
        refine lv_iload_n hx hb dX11_see_31 rfl (lv_at hl 1 rfl) ?_
        have sc1 : scR (F_t_forget x).2 := scR_same (by show (kS (kS x 0 15 0) 0 16 0).1 1 = x.1 1; rw [kS_c (by decide), kS_c (by decide)]) rfl rfl sp.1.1
        have hFc : ∀ q, va_A (kWd cI cJ cZ cR wl ad M ((F_t_forget (x)).2)) H.size q → A q := fun q hq => Or.elim hq (fun ⟨k, e, hk⟩ => hD.2 k (q, e) hk) (fun hk => hA q (Nat.le_trans hS.1 hk))
        refine va_calli (va_runV (b := ad (1)) (As := [.int (iI (m0))]) (rest := [.ref (ad (56))]) ⟨hx, hb, hml, hown, hts⟩ (c_s_countTo l dC dI ad cI cJ cZ cR M wl H.size ((F_t_forget (x)).2)  (m0) hM sc1 rm) (cwV 1 hts gX11_see_X8_countTo rfl rfl rfl (by decide +kernel) ⟨Nat.le_of_ble_eq_true rfl, Nat.le_of_ble_eq_true rfl⟩) ⟨fun a U g mk q => by obtain ⟨q0, q1, qP, qK, qD, qN⟩ := q; exact ⟨q0, q1, qP, va_K.moved (u := U) (U := U.calling g mk a) (Vm.Alike.refl U.vm) qK, qD, kNw.same (u := U) (U := U.calling g mk a) rfl qN⟩, va_recv hK hP (ci := 8) (q0 := 1) rfl (kg1 (by omega)), fun U hU hW => ⟨rfl, by rw [hU], by rw [hU]; exact hP, va_K.moved hW.alike hK, hD.weaken (fun _ _ _ _ => trivial), kNw.warm hW hNw⟩⟩ rfl rfl hl.1 rfl (lv_room (Nat.le_of_ble_eq_true rfl)) dX11_see_32 ⟨(show _ ≤ kPo x - kPo (F_t_see x m0).2 by omega), (show _ ≤ kPs x - kPs (F_t_see x m0).2 by omega)⟩) hS (fun q _ h => hFc q h) hFc (fun r9 u9 t H1 locs ht hvm hw hB hz1 hk1 hS => ?_)
        obtain ⟨hP1, hK1, hD1⟩ := hB
        rw [ht] at hP1
        obtain ⟨hw1, hw2⟩ := hw
        rw [hw2] at hP1 hD1
        rw [hw1]
        rw [F_s_countTo_2] at hP1 hD1
        have hD2 := hD1.weaken (B := A) (fun _ q _ h => hFc q.1 h)
        have hP := hP1
        have hD := hD2
        generalize H1 = H at hP hS ⊢
        have cn := se_cnt sp (m := m0) (by omega) (by omega)
        have hFc : ∀ q, va_A (kWd cI cJ cZ cR wl ad M ((F_t_forget (x)).2)) H.size q → A q := fun q hq => Or.elim hq (fun ⟨k, e, hk⟩ => hD.2 k (q, e) hk) (fun hk => hA q (Nat.le_trans hS.1 hk))
        refine va_callv (va_runV (b := ad (56)) (As := [.int (iI ((F_s_countTo ((F_t_forget (x)).2) (m0)).1))]) (rest := []) ⟨hx, hb, hml, hown, hts⟩ (c_j_begin l dC dI ad cI cJ cZ cR M wl H.size ((F_t_forget (x)).2)  ((F_s_countTo ((F_t_forget (x)).2) (m0)).1) hM (by rw [cn.1]; exact cn.2.1) (by rw [cn.1]; have := cn.2; unfold iR; omega)) (cwV 1 hts gX11_see_X1_begin rfl rfl rfl (by decide +kernel) ⟨Nat.le_of_ble_eq_true rfl, Nat.le_of_ble_eq_true rfl⟩) ⟨fun a U g mk q => by obtain ⟨q0, q1, qP, qK, qD, qN⟩ := q; exact ⟨q0, q1, qP, va_K.moved (u := U) (U := U.calling g mk a) (Vm.Alike.refl U.vm) qK, qD, kNw.same (u := U) (U := U.calling g mk a) rfl qN⟩, va_recv hK hP (ci := 1) (q0 := 56) rfl (kg56 (by omega)), fun U hU hW => ⟨rfl, by rw [hU], by rw [hU]; exact hP, va_K.moved hW.alike hK, hD.weaken (fun _ _ _ _ => trivial), kNw.warm hW hNw⟩⟩ rfl rfl hl.1 rfl (lv_room (Nat.le_of_ble_eq_true rfl)) dX11_see_35 ⟨(show _ ≤ kPo x - kPo (F_t_see x m0).2 by omega), (show _ ≤ kPs x - kPs (F_t_see x m0).2 by omega)⟩) hS (fun q _ h => hFc q h) hFc (fun u9 t H1 locs ht hvm hw hB hz1 hk1 hS => ?_)
        obtain ⟨hP1, hK1, hD1⟩ := hB
        rw [ht] at hP1
        rw [hw] at hP1 hD1
        have hD2 := hD1.weaken (B := A) (fun _ q _ h => hFc q.1 h)
        have hP := hP1
        have hD := hD2
        generalize H1 = H at hP hS ⊢
        refine lv_iconst (v := iI (0 : Int)) hx hb dX11_see_38 (by decide) ?_
        refine lv_istore_n (lv' := [(2, .int (iI ((0 : Int)))), (0, .ref (ad (0))), (1, .int (iI (m0)))]) hx hb dX11_see_39 rfl hl (by decide) rfl (fun ls hl => ?_)
        have kg9 : kG (x) ((F_j_begin ((F_t_forget (x)).2) ((F_s_countTo ((F_t_forget (x)).2) (m0)).1)).2) := (kG_tr (kG_tr (kG_rf _) (kG_of (F_t_forget_fr (x)) (by first | decide | (intro h9; simp at h9; done) | (intro h9; simp at h9; omega)) (by first | decide | (intro h9; simp at h9; done) | (intro h9; simp at h9; omega)))) (kG_of (F_j_begin_fr ((F_t_forget (x)).2) ((F_s_countTo ((F_t_forget (x)).2) (m0)).1)) (by first | decide | (intro h9; simp at h9; done) | (intro h9; simp at h9; omega)) (by first | decide | (intro h9; simp at h9; done) | (intro h9; simp at h9; omega))))
        have eM9 : M = kM ((F_j_begin ((F_t_forget (x)).2) ((F_s_countTo ((F_t_forget (x)).2) (m0)).1)).2) := hkM.trans (kG_M kg9).symm
        have eW9 : wl = kWl ((F_j_begin ((F_t_forget (x)).2) ((F_s_countTo ((F_t_forget (x)).2) (m0)).1)).2) := hkW.trans (kG_W kg9).symm
        have eP9 := (kG_p kg9).1
        have eS9 := (kG_p kg9).2
        have kl1 := kle.1
        have kl2 := kle.2
        refine W.widen (k := kPo x - kPo ((F_j_begin ((F_t_forget (x)).2) ((F_s_countTo ((F_t_forget (x)).2) (m0)).1)).2)) (n := kPs x - kPs ((F_j_begin ((F_t_forget (x)).2) ((F_s_countTo ((F_t_forget (x)).2) (m0)).1)).2)) (by omega) (by omega) ?_
        exact (L (20)) ((F_j_begin ((F_t_forget (x)).2) ((F_s_countTo ((F_t_forget (x)).2) (m0)).1)).2) M wl ad ((0 : Int)) hM eM9 eW9 had ⟨by omega, by omega⟩ (se_0 sp (by omega) (by omega)) (by omega) (by omega) (by omega) (by omega) (by omega) hres _ _ ls hP hD hS (lv_sub hl [1, 2, 0] rfl)
      · skip
        rw [if_neg c_13] at hres
        refine lv_bipush (v := iI (-2 : Int)) hx hb dX11_see_16 (by decide) ?_
        have kg9 : kG (x) (x) := (kG_rf _)
        have eM9 : M = kM (x) := hkM.trans (kG_M kg9).symm
        have eW9 : wl = kWl (x) := hkW.trans (kG_W kg9).symm
        have eP9 := (kG_p kg9).1
        have eS9 := (kG_p kg9).2
        have kl1 := kle.1
        have kl2 := kle.2
        have hF2 : (F_t_see x m0).2 = x := by
          have h9 := congrArg Prod.snd hres
          exact h9.symm
        refine W.widen (k := kPo x - kPo (F_t_see x m0).2) (n := kPs x - kPs (F_t_see x m0).2) (by rw [hF2]; omega) (by rw [hF2]; omega) ?_
        exact W.iret (v := iI ((-2 : Int))) hx hb hr (fun t ht hW => ⟨⟨iI ((-2 : Int)), (x, ad), rfl, ⟨(by have h9 := congrArg (fun z : Int × KS => iI z.1) hres; exact h9), (by have h9 := congrArg (fun z : Int × KS => z.2) hres; exact h9), had⟩, by rw [ht]; show va_P (dC, dI) vwCl (kWd cI cJ cZ cR (kWl (x)) ad (kM (x)) (x)) H; rw [← eM9, ← eW9]; exact hP, va_K.moved hW.alike hK, by show va_D A (kWd cI cJ cZ cR (kWl (x)) ad (kM (x)) (x)); rw [← eM9, ← eW9]; exact hD⟩, hS.F ht⟩) hS.2.2 dX11_see_18
  exact key M wl ao _ _ ls hM hkM hkW (fun _ _ => rfl) hP hD hS hl
