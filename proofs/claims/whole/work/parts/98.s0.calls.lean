-- deps: 98.r
/-! calls with the Rewriter -/
theorem F_t_isProved_1 {x : KS} (p01 : x.1 0 16 = 0 ∨ x.1 0 16 = 1) (h : ¬ (F_t_isProved x).1 = 0) : x.1 0 16 = 1 := by
  unfold F_t_isProved at h
  revert h
  repeat' split
  all_goals first | (intro _; omega) | (intro h; exact absurd rfl h)
theorem kl60 {x : KS} {w : Nat} (h : kL w = 60) (g : wG x w) : x.1 w 1 ≤ kL w := by rw [h]; exact g.1.2
theorem makeFrom_G {x : KS} (ok : rOK x) (r77 : r03 (x.2 78)) {w1 : Nat} (hw : kW w1 = true) (hc : w1 + 1 < 87) (nw : w1 ≠ 77) (g1 : wG x w1) (md : mdR x) (ml : ∃ Ls, mdL x Ls) {i0 : Int} (h0 : 0 ≤ i0) (h1 : i0 < x.1 84 2) : rOK (F_t_makeFrom x w1 i0).2 ∧ r03 ((F_t_makeFrom x w1 i0).2.2 78) ∧ mdR (F_t_makeFrom x w1 i0).2 ∧ (∀ w, kW w = true → w + 1 < 87 → w ≠ 77 → wG x w → wG (F_t_makeFrom x w1 i0).2 w) ∧ (∃ Ls, mdL (F_t_makeFrom x w1 i0).2 Ls) ∧ ((F_t_makeFrom x w1 i0).1 = 0 ∨ (F_t_makeFrom x w1 i0).1 = 1) ∧ x.1 84 2 ≤ (F_t_makeFrom x w1 i0).2.1 84 2 := by
  obtain ⟨Ls, ml⟩ := ml
  have hi : i0.toNat < Ls.length := by have := ml.1; omega
  obtain ⟨a, b, c, d, e⟩ := makeFrom_x ok r77 hw hc nw g1 md ml h0 h1 (V0 := Ls[i0.toNat]) (List.getElem?_eq_getElem hi)
  refine ⟨a, b, c, d, ?_⟩
  rcases e with ⟨_, e1, e2⟩ | ⟨_, V, _, _, _, _, ⟨_, e1, e2⟩ | ⟨_, _, e1, e2⟩ | ⟨_, _, e1, e2⟩⟩
  · exact ⟨⟨_, e2⟩, Or.inl e1, by rw [ml.1, e2.1]; exact Int.le_refl _⟩
  · exact ⟨⟨_, e2⟩, Or.inr e1, by rw [ml.1, e2.1]; exact Int.le_refl _⟩
  · refine ⟨⟨_, e2⟩, Or.inr e1, ?_⟩
    rw [ml.1, e2.1, List.length_append]
    omega
  · exact ⟨⟨_, e2⟩, Or.inl e1, by rw [ml.1, e2.1]; exact Int.le_refl _⟩
def F_t_reduce (x : KS) (a : Int) (k : Int) : Int × KS := (if ((F_t_isSlot (x) (a)).1) = (0) then ((-1 : Int), x) else (if ((F_t_isSlot (x) (k)).1) = (0) then ((-1 : Int), x) else (if ((F_t_bringDown (x) (7 + 2 * (a).toNat) (73)).1) < (0) then ((F_t_bringDown (x) (7 + 2 * (a).toNat) (73)).1, (F_t_bringDown (x) (7 + 2 * (a).toNat) (73)).2) else ((F_t_bringDown (x) (7 + 2 * (a).toNat) (73)).1, (F_w_take ((F_t_bringDown (x) (7 + 2 * (a).toNat) (73)).2) (7 + 2 * (k).toNat) (73)).2))))
theorem F_t_reduce_le  (x : KS) (a : Int) (k : Int) : kLe x (F_t_reduce x a k).2 := by
  unfold F_t_reduce
  by_cases hc9 : ((F_t_isSlot (x) (a)).1) = (0)
  · rw [if_pos hc9]
    exact (kLe_rf _)
  · rw [if_neg hc9]
    by_cases hc9 : ((F_t_isSlot (x) (k)).1) = (0)
    · rw [if_pos hc9]
      exact (kLe_rf _)
    · rw [if_neg hc9]
      by_cases hc9 : ((F_t_bringDown (x) (7 + 2 * (a).toNat) (73)).1) < (0)
      · rw [if_pos hc9]
        exact (kLe_tr (kLe_rf _) (F_t_bringDown_le rfl (by omega) (x) (7 + 2 * (a).toNat)))
      · rw [if_neg hc9]
        exact (kLe_tr (kLe_tr (kLe_rf _) (F_t_bringDown_le rfl (by omega) (x) (7 + 2 * (a).toNat))) (kLe_G (kG_of (F_w_take_fr ((F_t_bringDown (x) (7 + 2 * (a).toNat) (73)).2) (7 + 2 * (k).toNat) (73)) (by first | decide | (intro h9; simp at h9; done) | (intro h9; simp at h9; omega)) (by first | decide | (intro h9; simp at h9; done) | (intro h9; simp at h9; omega)))))
set_option maxHeartbeats 4000000 in
set_option maxRecDepth 100000 in
/-- LikeWords, reduce -/
theorem c_t_reduce (l : Launch) (dC : Nat → ClassId) (dI : Nat → Nat → Nat) (ao : Nat → Nat) (cI cJ cZ cR : ClassId) (M wl sz : Nat) (x : KS) (a : Int) (k : Int) (hM : 87 ≤ M) (hkM : M = kM x) (hkW : wl = kWl x) (ra : iR a) (rk : iR k) (bp : bdP x) (su : ∀ j : Int, 0 ≤ j → j < 8 → wG x (7 + 2 * j.toNat)) (r3 : r03 (x.2 74)) : Met l yX11_reduce wsX11_reduce ({ frames := 6, cells := kPo x - kPo (F_t_reduce x a k).2, slots := kPs x - kPs (F_t_reduce x a k).2, locals := 154 }) (kPc dC dI ao cI cJ cZ cR M wl sz x [.ref (ao 0), .int (iI a), .int (iI k)]) (va_Qi (fun (r : Int32) (u : KS × (Nat → Nat)) => r = iI (F_t_reduce x a k).1 ∧ u.1 = (F_t_reduce x a k).2 ∧ (∀ c, c < 87 → u.2 c = ao c)) (fun u t => kAt dC dI u.2 cI cJ cZ cR (kM u.1) (kWl u.1) (va_A (kWd cI cJ cZ cR wl ao M x) sz) u.1 t) (va_A (kWd cI cJ cZ cR wl ao M x) sz)) (kPo x - kPo (F_t_reduce x a k).2) (kPs x - kPs (F_t_reduce x a k).2) (va_A (kWd cI cJ cZ cR wl ao M x) sz) := by
  refine Met.ofW (cc := cX11_reduce) (maxL := 4) (ret := (some .int)) (by decide) rfl ?_
  intro p e s m args below meth c s₁ B hml hv
  obtain ⟨rfl, hsz, hP, hK, hD0, hNw⟩ := hv
  have hx := B.exec
  have hb := B.bytes
  have hr := B.returns
  have hts := atoms_spec (ws := wsX11_reduce) B.pre
  have hown : s.vm.findClass RX11 = some m.cls := findClass_of_methodNamed B.named
  have hlocks := B.notSynchronized
  have hinX11 : ∀ w ∈ u_ws RX11 TX11 17, w ∈ wsX11_reduce := by decide +kernel
  subst hsz
  have hD := hD0.self (sz := s.heap.size)
  generalize hAe : va_A (kWd cI cJ cZ cR wl ao M x) s.heap.size = A at hD ⊢
  have hA : ∀ q : Nat, s.heap.size ≤ q → A q := fun q h => by rw [← hAe]; exact Or.inr h
  have hS : va_S A s.heap s.heap [] := va_S.rf
  have hl := lv_entry ([.ref (ao 0), .int (iI a), .int (iI k)]) (n := 4) (Nat.le_of_ble_eq_true rfl)
  rw [lg_entry_eq]
  generalize (lg_sl ([.ref (ao 0), .int (iI a), .int (iI k)]) ++ List.replicate (4 - (lg_sl ([.ref (ao 0), .int (iI a), .int (iI k)])).length) Slot.unset).toArray = ls at hl ⊢
  have hl : lv_has ls 4 [(0, .ref (ao (0))), (1, .int (iI (a))), (2, .int (iI (k)))] := hl
  have key : ∀ (M wl : Nat) (ad : Nat → Nat) (H : Heap) (locs : List Loc) (ls : Array Slot), 87 ≤ M → M = kM x → wl = kWl x → (∀ c, c < 87 → ad c = ao c) → va_P (dC, dI) vwCl (kWd cI cJ cZ cR wl ad M (x)) H → va_D A (kWd cI cJ cZ cR wl ad M (x)) → va_S A s.heap H locs → lv_has ls 4 [(0, .ref (ad (0))), (1, .int (iI (a))), (2, .int (iI (k)))] → W p l e (headSpec wsX11_reduce ({ frames := 6, cells := kPo x - kPo (F_t_reduce x a k).2, slots := kPs x - kPs (F_t_reduce x a k).2, locals := 154 })).room s m ([.ref (ao 0), .int (iI a), .int (iI k)] : List Value).toArray below meth c H locs 0 0 (MQ below (va_Qi (fun (r : Int32) (u : KS × (Nat → Nat)) => r = iI (F_t_reduce x a k).1 ∧ u.1 = (F_t_reduce x a k).2 ∧ (∀ c, c < 87 → u.2 c = ao c)) (fun u t => kAt dC dI u.2 cI cJ cZ cR (kM u.1) (kWl u.1) (A) u.1 t) (A)) ([.ref (ao 0), .int (iI a), .int (iI k)] : List Value).toArray s (kPo x - kPo (F_t_reduce x a k).2) (kPs x - kPs (F_t_reduce x a k).2) A) (F0 m 0 ls []) := by
    intro M wl ad H locs ls hM hkM hkW had hP hD hS hl
    have kle : kLe x x := kLe_rf x
    have kf9 := F_t_reduce_le  x a k
    have kf1 := kf9.1
    have kf2 := kf9.2
    have hres : (if ((F_t_isSlot (x) (a)).1) = (0) then ((-1 : Int), x) else (if ((F_t_isSlot (x) (k)).1) = (0) then ((-1 : Int), x) else (if ((F_t_bringDown (x) (7 + 2 * (a).toNat) (73)).1) < (0) then ((F_t_bringDown (x) (7 + 2 * (a).toNat) (73)).1, (F_t_bringDown (x) (7 + 2 * (a).toNat) (73)).2) else ((F_t_bringDown (x) (7 + 2 * (a).toNat) (73)).1, (F_w_take ((F_t_bringDown (x) (7 + 2 * (a).toNat) (73)).2) (7 + 2 * (k).toNat) (73)).2)))) = F_t_reduce x a k := rfl
    refine lv_aload_n hx hb dX11_reduce_0 rfl (lv_at hl 0 rfl) ?_
    refine lv_iload_n hx hb dX11_reduce_1 rfl (lv_at hl 1 rfl) ?_
    have hFc : ∀ q, va_A (kWd cI cJ cZ cR wl ad M (x)) H.size q → A q := fun q hq => Or.elim hq (fun ⟨k, e, hk⟩ => hD.2 k (q, e) hk) (fun hk => hA q (Nat.le_trans hS.1 hk))
    refine va_calli (va_runV (b := ad (0)) (As := [.int (iI (a))]) (rest := []) ⟨hx, hb, hml, hown, hts⟩ (c_t_isSlot l dC dI ad cI cJ cZ cR M wl H.size (x)  (a) hM ra) (cwV 1 hts gX11_reduce_X11_isSlot rfl rfl rfl (by decide +kernel) ⟨Nat.le_of_ble_eq_true rfl, Nat.le_of_ble_eq_true rfl⟩) ⟨fun a U g mk q => by obtain ⟨q0, q1, qP, qK, qD, qN⟩ := q; exact ⟨q0, q1, qP, va_K.moved (u := U) (U := U.calling g mk a) (Vm.Alike.refl U.vm) qK, qD, kNw.same (u := U) (U := U.calling g mk a) rfl qN⟩, va_recv hK hP (ci := 11) (q0 := 0) rfl (kg0 (by omega)), fun U hU hW => ⟨rfl, by rw [hU], by rw [hU]; exact hP, va_K.moved hW.alike hK, hD.weaken (fun _ _ _ _ => trivial), kNw.warm hW hNw⟩⟩ rfl rfl hl.1 rfl (lv_room (Nat.le_of_ble_eq_true rfl)) dX11_reduce_2 ⟨(show _ ≤ kPo x - kPo (F_t_reduce x a k).2 by omega), (show _ ≤ kPs x - kPs (F_t_reduce x a k).2 by omega)⟩) hS (fun q _ h => hFc q h) hFc (fun r9 u9 t H1 locs ht hvm hw hB hz1 hk1 hS => ?_)
    obtain ⟨hP1, hK1, hD1⟩ := hB
    rw [ht] at hP1
    obtain ⟨hw1, hw2⟩ := hw
    rw [hw2] at hP1 hD1
    rw [hw1]
    rw [F_t_isSlot_2] at hP1 hD1
    have hD2 := hD1.weaken (B := A) (fun _ q _ h => hFc q.1 h)
    have hP := hP1
    have hD := hD2
    generalize H1 = H at hP hS ⊢
    refine wi_if_eq (tgt := 16) hx hb (kR01 (F_t_isSlot_01 _ _)) dX11_reduce_5 (by decide) (fun c_5 => ?_) (fun c_5 => ?_)
    · skip
      rw [if_pos c_5] at hres
      refine lv_iconst (v := iI (-1 : Int)) hx hb dX11_reduce_16 (by decide) ?_
      have kg9 : kG (x) (x) := (kG_rf _)
      have eM9 : M = kM (x) := hkM.trans (kG_M kg9).symm
      have eW9 : wl = kWl (x) := hkW.trans (kG_W kg9).symm
      have eP9 := (kG_p kg9).1
      have eS9 := (kG_p kg9).2
      have kl1 := kle.1
      have kl2 := kle.2
      have hF2 : (F_t_reduce x a k).2 = x := by
        have h9 := congrArg Prod.snd hres
        exact h9.symm
      refine W.widen (k := kPo x - kPo (F_t_reduce x a k).2) (n := kPs x - kPs (F_t_reduce x a k).2) (by rw [hF2]; omega) (by rw [hF2]; omega) ?_
      exact W.iret (v := iI ((-1 : Int))) hx hb hr (fun t ht hW => ⟨⟨iI ((-1 : Int)), (x, ad), rfl, ⟨(by have h9 := congrArg (fun z : Int × KS => iI z.1) hres; exact h9), (by have h9 := congrArg (fun z : Int × KS => z.2) hres; exact h9), had⟩, by rw [ht]; show va_P (dC, dI) vwCl (kWd cI cJ cZ cR (kWl (x)) ad (kM (x)) (x)) H; rw [← eM9, ← eW9]; exact hP, va_K.moved hW.alike hK, by show va_D A (kWd cI cJ cZ cR (kWl (x)) ad (kM (x)) (x)); rw [← eM9, ← eW9]; exact hD⟩, hS.F ht⟩) hS.2.2 dX11_reduce_17
    · skip
      rw [if_neg c_5] at hres
      refine lv_aload_n hx hb dX11_reduce_8 rfl (lv_at hl 0 rfl) ?_
      refine lv_iload_n hx hb dX11_reduce_9 rfl (lv_at hl 2 rfl) ?_
      have hFc : ∀ q, va_A (kWd cI cJ cZ cR wl ad M (x)) H.size q → A q := fun q hq => Or.elim hq (fun ⟨k, e, hk⟩ => hD.2 k (q, e) hk) (fun hk => hA q (Nat.le_trans hS.1 hk))
      refine va_calli (va_runV (b := ad (0)) (As := [.int (iI (k))]) (rest := []) ⟨hx, hb, hml, hown, hts⟩ (c_t_isSlot l dC dI ad cI cJ cZ cR M wl H.size (x)  (k) hM rk) (cwV 1 hts gX11_reduce_X11_isSlot rfl rfl rfl (by decide +kernel) ⟨Nat.le_of_ble_eq_true rfl, Nat.le_of_ble_eq_true rfl⟩) ⟨fun a U g mk q => by obtain ⟨q0, q1, qP, qK, qD, qN⟩ := q; exact ⟨q0, q1, qP, va_K.moved (u := U) (U := U.calling g mk a) (Vm.Alike.refl U.vm) qK, qD, kNw.same (u := U) (U := U.calling g mk a) rfl qN⟩, va_recv hK hP (ci := 11) (q0 := 0) rfl (kg0 (by omega)), fun U hU hW => ⟨rfl, by rw [hU], by rw [hU]; exact hP, va_K.moved hW.alike hK, hD.weaken (fun _ _ _ _ => trivial), kNw.warm hW hNw⟩⟩ rfl rfl hl.1 rfl (lv_room (Nat.le_of_ble_eq_true rfl)) dX11_reduce_10 ⟨(show _ ≤ kPo x - kPo (F_t_reduce x a k).2 by omega), (show _ ≤ kPs x - kPs (F_t_reduce x a k).2 by omega)⟩) hS (fun q _ h => hFc q h) hFc (fun r9 u9 t H1 locs ht hvm hw hB hz1 hk1 hS => ?_)
      obtain ⟨hP1, hK1, hD1⟩ := hB
      rw [ht] at hP1
      obtain ⟨hw1, hw2⟩ := hw
      rw [hw2] at hP1 hD1
      rw [hw1]
      rw [F_t_isSlot_2] at hP1 hD1
      have hD2 := hD1.weaken (B := A) (fun _ q _ h => hFc q.1 h)
      have hP := hP1
      have hD := hD2
      generalize H1 = H at hP hS ⊢
      refine wi_if_ne (tgt := 18) hx hb (kR01 (F_t_isSlot_01 _ _)) dX11_reduce_13 (by decide) (fun c_13 => ?_) (fun c_13 => ?_)
      · skip
        rw [if_neg c_13] at hres
        obtain ⟨a0, a1⟩ := F_t_isSlot_1 c_5
        obtain ⟨k0, k1⟩ := F_t_isSlot_1 c_13
        refine lv_aload_n hx hb dX11_reduce_18 rfl (lv_at hl 0 rfl) ?_
        refine lv_aload_n hx hb dX11_reduce_19 rfl (lv_at hl 0 rfl) ?_
        refine va_get (D := (dC, dI)) (ci := 11) (v := .ref (ad (6))) (C := RX11) (T := TX11) (N := 17) hx hb hts hinX11 hown hK hP (0) (kg0 (by omega)) rfl 2 (by decide) (hts (.fieldLink RX11 25 "LikeWords" "slots" "[LLikeWords$Word;") (by decide +kernel)) (fun _ h9 => h9) rfl dX11_reduce_20 ?_
        refine lv_iload_n hx hb dX11_reduce_23 rfl (lv_at hl 1 rfl) ?_
        refine va_aldq (C := "LikeWords$Word") (n := 8) (f := fun j => some (ad (7 + 2 * j))) hx hb hK hP 6 3 (kget (by omega)) rfl (iI_in (z := a) (by omega) (by omega) (by decide)) dX11_reduce_24 ?_
        rw [iI_clamp ⟨by omega, by omega⟩]
        refine W.eq (g2 := F0 m 25 ls [.ref (ad (7 + 2 * (a).toNat)), .ref (ad (0))]) rfl ?_
        refine lv_aload_n hx hb dX11_reduce_25 rfl (lv_at hl 0 rfl) ?_
        refine va_get (D := (dC, dI)) (ci := 11) (v := .ref (ad (73))) (C := RX11) (T := TX11) (N := 17) hx hb hts hinX11 hown hK hP (0) (kg0 (by omega)) rfl 11 (by decide) (hts (.fieldLink RX11 66 "LikeWords" "first" "LLikeWords$Word;") (by decide +kernel)) (fun _ h9 => h9) rfl dX11_reduce_26 ?_
        have kg9 : kG (x) (x) := (kG_rf _)
        have eM9 : M = kM (x) := hkM.trans (kG_M kg9).symm
        have eW9 : wl = kWl (x) := hkW.trans (kG_W kg9).symm
        have eP9 := (kG_p kg9).1
        have eS9 := (kG_p kg9).2
        have kl1 := kle.1
        have kl2 := kle.2
        have kfn : kLe (F_t_bringDown (x) (7 + 2 * (a).toNat) (73)).2 (F_t_reduce x a k).2 := by
          rw [← hres]
          by_cases hc9 : ((F_t_bringDown (x) (7 + 2 * (a).toNat) (73)).1) < (0)
          · rw [if_pos hc9]
            exact (kLe_rf _)
          · rw [if_neg hc9]
            exact (kLe_tr (kLe_rf _) (kLe_G (kG_of (F_w_take_fr ((F_t_bringDown (x) (7 + 2 * (a).toNat) (73)).2) (7 + 2 * (k).toNat) (73)) (by first | decide | (intro h9; simp at h9; done) | (intro h9; simp at h9; omega)) (by first | decide | (intro h9; simp at h9; done) | (intro h9; simp at h9; omega)))))
        have kf1 := kfn.1
        have kf2 := kfn.2
        have kd9 : kLe (x) (F_t_bringDown (x) (7 + 2 * (a).toNat) (73)).2 := (F_t_bringDown_le rfl (by omega) (x) (7 + 2 * (a).toNat))
        have kd1 := kd9.1
        have kd2 := kd9.2
        have hFc : ∀ q, va_A (kWd cI cJ cZ cR wl ad M (x)) H.size q → A q := fun q hq => Or.elim hq (fun ⟨k, e, hk⟩ => hD.2 k (q, e) hk) (fun hk => hA q (Nat.le_trans hS.1 hk))
        refine va_calli (va_runV (b := ad (0)) (As := [.ref (ad (7 + 2 * (a).toNat)), .ref (ad (73))]) (rest := []) ⟨hx, hb, hml, hown, hts⟩ (c_t_bringDown l dC dI ad cI cJ cZ cR M wl H.size (x) (7 + 2 * (a).toNat) (73)  hM (kW_slot (by omega) (by omega)) (by omega) rfl (by omega) eM9 eW9 bp.1.1 bp.1.2 bp.2.1 bp.2.2.1 bp.2.2.2.1 bp.2.2.2.2.1 (su a a0 a1) (kL_slot a0 a1) rfl r3 (by omega) bp.2.2.2.2.2) (cwV 2 hts gX11_reduce_X11_bringDown rfl rfl rfl (by decide +kernel) ⟨Nat.le_of_ble_eq_true rfl, Nat.le_of_ble_eq_true rfl⟩) ⟨fun a U g mk q => by obtain ⟨q0, q1, qP, qK, qD, qN⟩ := q; exact ⟨q0, q1, qP, va_K.moved (u := U) (U := U.calling g mk a) (Vm.Alike.refl U.vm) qK, qD, kNw.same (u := U) (U := U.calling g mk a) rfl qN⟩, va_recv hK hP (ci := 11) (q0 := 0) rfl (kg0 (by omega)), fun U hU hW => ⟨rfl, by rw [hU], by rw [hU]; exact hP, va_K.moved hW.alike hK, hD.weaken (fun _ _ _ _ => trivial), kNw.warm hW hNw⟩⟩ rfl rfl hl.1 rfl (lv_room (Nat.le_of_ble_eq_true rfl)) dX11_reduce_29 ⟨(show _ ≤ kPo x - kPo (F_t_reduce x a k).2 by omega), (show _ ≤ kPs x - kPs (F_t_reduce x a k).2 by omega)⟩) hS (fun q _ h => hFc q h) hFc (fun r9 u9 t H1 locs ht hvm hw hB hz1 hk1 hS => ?_)
        obtain ⟨hP1, hK1, hD1⟩ := hB
        rw [ht] at hP1
        obtain ⟨z9, ad⟩ := u9
        obtain ⟨hw1, hw2, hw3⟩ := hw
        rw [hw1]
        have hw2 : z9 = (F_t_bringDown (x) (7 + 2 * (a).toNat) (73)).2 := hw2
        subst hw2
        have hw3 := fun c (hc : c < 87) => (show ad c = _ from hw3 c hc)
        have had : ∀ c, c < 87 → ad c = ao c := fun c hc => (hw3 c hc).trans (had c hc)
        have hl : lv_has ls 4 [(0, .ref (ad (0))), (1, .int (iI (a))), (2, .int (iI (k)))] := by
          rw [hw3 (0) (by omega)]
          exact hl
        have hP1 : va_P (dC, dI) vwCl (kWd cI cJ cZ cR (kWl (F_t_bringDown (x) (7 + 2 * (a).toNat) (73)).2) ad (kM (F_t_bringDown (x) (7 + 2 * (a).toNat) (73)).2) (F_t_bringDown (x) (7 + 2 * (a).toNat) (73)).2) H1 := hP1
        have hD1 : va_D A (kWd cI cJ cZ cR (kWl (F_t_bringDown (x) (7 + 2 * (a).toNat) (73)).2) ad (kM (F_t_bringDown (x) (7 + 2 * (a).toNat) (73)).2) (F_t_bringDown (x) (7 + 2 * (a).toNat) (73)).2) := hD1.weaken (B := A) (fun _ q _ h => hFc q.1 h)
        have kle : kLe x (F_t_bringDown (x) (7 + 2 * (a).toNat) (73)).2 := ⟨by omega, by omega⟩
        refine W.widen (k := kPo x - kPo (F_t_bringDown (x) (7 + 2 * (a).toNat) (73)).2) (n := kPs x - kPs (F_t_bringDown (x) (7 + 2 * (a).toNat) (73)).2) (by omega) (by omega) ?_
        obtain ⟨M, hkM⟩ : ∃ M9, M9 = kM (F_t_bringDown (x) (7 + 2 * (a).toNat) (73)).2 := ⟨_, rfl⟩
        obtain ⟨wl, hkW⟩ : ∃ W9, W9 = kWl (F_t_bringDown (x) (7 + 2 * (a).toNat) (73)).2 := ⟨_, rfl⟩
        rw [← hkM, ← hkW] at hP1 hD1
        have hM : 87 ≤ M := by rw [hkM]; exact kM_ge _
        have hP := hP1
        have hD := hD1
        generalize H1 = H at hP hS ⊢
        have bb := bringDown_b bp (kW_slot a0 a1) (w2 := 73) rfl (by decide) (kL_slot a0 a1) rfl (by omega) (su a a0 a1) r3
        refine lv_istore_n (lv' := [(3, .int (iI ((F_t_bringDown (x) (7 + 2 * (a).toNat) (73)).1))), (0, .ref (ad (0))), (1, .int (iI (a))), (2, .int (iI (k)))]) hx hb dX11_reduce_32 rfl hl (by decide) rfl (fun ls hl => ?_)
        refine lv_iload_n hx hb dX11_reduce_33 rfl (lv_at hl 0 rfl) ?_
        refine wi_if_lt (tgt := 50) hx hb (by unfold iR; omega) dX11_reduce_34 (by decide) (fun c_34 => ?_) (fun c_34 => ?_)
        · skip
          rw [if_pos c_34] at hres
          refine lv_iload_n hx hb dX11_reduce_50 rfl (lv_at hl 0 rfl) ?_
          have kg9 : kG ((F_t_bringDown (x) (7 + 2 * (a).toNat) (73)).2) ((F_t_bringDown (x) (7 + 2 * (a).toNat) (73)).2) := (kG_rf _)
          have eM9 : M = kM ((F_t_bringDown (x) (7 + 2 * (a).toNat) (73)).2) := hkM.trans (kG_M kg9).symm
          have eW9 : wl = kWl ((F_t_bringDown (x) (7 + 2 * (a).toNat) (73)).2) := hkW.trans (kG_W kg9).symm
          have eP9 := (kG_p kg9).1
          have eS9 := (kG_p kg9).2
          have kl1 := kle.1
          have kl2 := kle.2
          have hF2 : (F_t_reduce x a k).2 = (F_t_bringDown (x) (7 + 2 * (a).toNat) (73)).2 := by
            have h9 := congrArg Prod.snd hres
            exact h9.symm
          refine W.widen (k := kPo x - kPo (F_t_reduce x a k).2) (n := kPs x - kPs (F_t_reduce x a k).2) (by rw [hF2]; omega) (by rw [hF2]; omega) ?_
          exact W.iret (v := iI ((F_t_bringDown (x) (7 + 2 * (a).toNat) (73)).1)) hx hb hr (fun t ht hW => ⟨⟨iI ((F_t_bringDown (x) (7 + 2 * (a).toNat) (73)).1), ((F_t_bringDown (x) (7 + 2 * (a).toNat) (73)).2, ad), rfl, ⟨(by have h9 := congrArg (fun z : Int × KS => iI z.1) hres; exact h9), (by have h9 := congrArg (fun z : Int × KS => z.2) hres; exact h9), had⟩, by rw [ht]; show va_P (dC, dI) vwCl (kWd cI cJ cZ cR (kWl ((F_t_bringDown (x) (7 + 2 * (a).toNat) (73)).2)) ad (kM ((F_t_bringDown (x) (7 + 2 * (a).toNat) (73)).2)) ((F_t_bringDown (x) (7 + 2 * (a).toNat) (73)).2)) H; rw [← eM9, ← eW9]; exact hP, va_K.moved hW.alike hK, by show va_D A (kWd cI cJ cZ cR (kWl ((F_t_bringDown (x) (7 + 2 * (a).toNat) (73)).2)) ad (kM ((F_t_bringDown (x) (7 + 2 * (a).toNat) (73)).2)) ((F_t_bringDown (x) (7 + 2 * (a).toNat) (73)).2)); rw [← eM9, ← eW9]; exact hD⟩, hS.F ht⟩) hS.2.2 dX11_reduce_51
        · skip
          rw [if_neg c_34] at hres
          refine lv_aload_n hx hb dX11_reduce_37 rfl (lv_at hl 1 rfl) ?_
          refine va_get (D := (dC, dI)) (ci := 11) (v := .ref (ad (6))) (C := RX11) (T := TX11) (N := 17) hx hb hts hinX11 hown hK hP (0) (kg0 (by omega)) rfl 2 (by decide) (hts (.fieldLink RX11 25 "LikeWords" "slots" "[LLikeWords$Word;") (by decide +kernel)) (fun _ h9 => h9) rfl dX11_reduce_38 ?_
          refine lv_iload_n hx hb dX11_reduce_41 rfl (lv_at hl 3 rfl) ?_
          refine va_aldq (C := "LikeWords$Word") (n := 8) (f := fun j => some (ad (7 + 2 * j))) hx hb hK hP 6 3 (kget (by omega)) rfl (iI_in (z := k) (by omega) (by omega) (by decide)) dX11_reduce_42 ?_
          rw [iI_clamp ⟨by omega, by omega⟩]
          refine W.eq (g2 := F0 m 43 ls [.ref (ad (7 + 2 * (k).toNat))]) rfl ?_
          refine lv_aload_n hx hb dX11_reduce_43 rfl (lv_at hl 1 rfl) ?_
          refine va_get (D := (dC, dI)) (ci := 11) (v := .ref (ad (73))) (C := RX11) (T := TX11) (N := 17) hx hb hts hinX11 hown hK hP (0) (kg0 (by omega)) rfl 11 (by decide) (hts (.fieldLink RX11 66 "LikeWords" "first" "LLikeWords$Word;") (by decide +kernel)) (fun _ h9 => h9) rfl dX11_reduce_44 ?_
          have hFc : ∀ q, va_A (kWd cI cJ cZ cR wl ad M ((F_t_bringDown (x) (7 + 2 * (a).toNat) (73)).2)) H.size q → A q := fun q hq => Or.elim hq (fun ⟨k, e, hk⟩ => hD.2 k (q, e) hk) (fun hk => hA q (Nat.le_trans hS.1 hk))
          refine va_callv (va_runV (b := ad (7 + 2 * (k).toNat)) (As := [.ref (ad (73))]) (rest := []) ⟨hx, hb, hml, hown, hts⟩ (c_w_take l dC dI ad cI cJ cZ cR M wl H.size ((F_t_bringDown (x) (7 + 2 * (a).toNat) (73)).2) (7 + 2 * (k).toNat) (73)  hM (kW_slot (by omega) (by omega)) (by omega) rfl (by omega) (bb.2.2 (by omega)).1.1.1 (by show _ ≤ ((60 : Nat) : Int); exact (bb.2.2 (by omega)).1.1.2)) (cwV 1 hts gX11_reduce_X10_take rfl rfl rfl (by decide +kernel) ⟨Nat.le_of_ble_eq_true rfl, Nat.le_of_ble_eq_true rfl⟩) ⟨fun a U g mk q => by obtain ⟨q0, q1, qP, qK, qD, qN⟩ := q; exact ⟨q0, q1, qP, va_K.moved (u := U) (U := U.calling g mk a) (Vm.Alike.refl U.vm) qK, qD, kNw.same (u := U) (U := U.calling g mk a) rfl qN⟩, va_recv hK hP (ci := 10) (q0 := 7 + 2 * (k).toNat) rfl (kgw (kW_slot (by omega) (by omega)) (by omega)), fun U hU hW => ⟨rfl, by rw [hU], by rw [hU]; exact hP, va_K.moved hW.alike hK, hD.weaken (fun _ _ _ _ => trivial), kNw.warm hW hNw⟩⟩ rfl rfl hl.1 rfl (lv_room (Nat.le_of_ble_eq_true rfl)) dX11_reduce_47 ⟨(show _ ≤ kPo x - kPo (F_t_reduce x a k).2 by omega), (show _ ≤ kPs x - kPs (F_t_reduce x a k).2 by omega)⟩) hS (fun q _ h => hFc q h) hFc (fun u9 t H1 locs ht hvm hw hB hz1 hk1 hS => ?_)
          obtain ⟨hP1, hK1, hD1⟩ := hB
          rw [ht] at hP1
          rw [hw] at hP1 hD1
          have hD2 := hD1.weaken (B := A) (fun _ q _ h => hFc q.1 h)
          have hP := hP1
          have hD := hD2
          generalize H1 = H at hP hS ⊢
          refine lv_iload_n hx hb dX11_reduce_50 rfl (lv_at hl 0 rfl) ?_
          have kg9 : kG ((F_t_bringDown (x) (7 + 2 * (a).toNat) (73)).2) ((F_w_take ((F_t_bringDown (x) (7 + 2 * (a).toNat) (73)).2) (7 + 2 * (k).toNat) (73)).2) := (kG_tr (kG_rf _) (kG_of (F_w_take_fr ((F_t_bringDown (x) (7 + 2 * (a).toNat) (73)).2) (7 + 2 * (k).toNat) (73)) (by first | decide | (intro h9; simp at h9; done) | (intro h9; simp at h9; omega)) (by first | decide | (intro h9; simp at h9; done) | (intro h9; simp at h9; omega))))
          have eM9 : M = kM ((F_w_take ((F_t_bringDown (x) (7 + 2 * (a).toNat) (73)).2) (7 + 2 * (k).toNat) (73)).2) := hkM.trans (kG_M kg9).symm
          have eW9 : wl = kWl ((F_w_take ((F_t_bringDown (x) (7 + 2 * (a).toNat) (73)).2) (7 + 2 * (k).toNat) (73)).2) := hkW.trans (kG_W kg9).symm
          have eP9 := (kG_p kg9).1
          have eS9 := (kG_p kg9).2
          have kl1 := kle.1
          have kl2 := kle.2
          have hF2 : (F_t_reduce x a k).2 = (F_w_take ((F_t_bringDown (x) (7 + 2 * (a).toNat) (73)).2) (7 + 2 * (k).toNat) (73)).2 := by
            have h9 := congrArg Prod.snd hres
            exact h9.symm
          refine W.widen (k := kPo x - kPo (F_t_reduce x a k).2) (n := kPs x - kPs (F_t_reduce x a k).2) (by rw [hF2]; omega) (by rw [hF2]; omega) ?_
          exact W.iret (v := iI ((F_t_bringDown (x) (7 + 2 * (a).toNat) (73)).1)) hx hb hr (fun t ht hW => ⟨⟨iI ((F_t_bringDown (x) (7 + 2 * (a).toNat) (73)).1), ((F_w_take ((F_t_bringDown (x) (7 + 2 * (a).toNat) (73)).2) (7 + 2 * (k).toNat) (73)).2, ad), rfl, ⟨(by have h9 := congrArg (fun z : Int × KS => iI z.1) hres; exact h9), (by have h9 := congrArg (fun z : Int × KS => z.2) hres; exact h9), had⟩, by rw [ht]; show va_P (dC, dI) vwCl (kWd cI cJ cZ cR (kWl ((F_w_take ((F_t_bringDown (x) (7 + 2 * (a).toNat) (73)).2) (7 + 2 * (k).toNat) (73)).2)) ad (kM ((F_w_take ((F_t_bringDown (x) (7 + 2 * (a).toNat) (73)).2) (7 + 2 * (k).toNat) (73)).2)) ((F_w_take ((F_t_bringDown (x) (7 + 2 * (a).toNat) (73)).2) (7 + 2 * (k).toNat) (73)).2)) H; rw [← eM9, ← eW9]; exact hP, va_K.moved hW.alike hK, by show va_D A (kWd cI cJ cZ cR (kWl ((F_w_take ((F_t_bringDown (x) (7 + 2 * (a).toNat) (73)).2) (7 + 2 * (k).toNat) (73)).2)) ad (kM ((F_w_take ((F_t_bringDown (x) (7 + 2 * (a).toNat) (73)).2) (7 + 2 * (k).toNat) (73)).2)) ((F_w_take ((F_t_bringDown (x) (7 + 2 * (a).toNat) (73)).2) (7 + 2 * (k).toNat) (73)).2)); rw [← eM9, ← eW9]; exact hD⟩, hS.F ht⟩) hS.2.2 dX11_reduce_51
      · skip
        rw [if_pos c_13] at hres
        refine lv_iconst (v := iI (-1 : Int)) hx hb dX11_reduce_16 (by decide) ?_
        have kg9 : kG (x) (x) := (kG_rf _)
        have eM9 : M = kM (x) := hkM.trans (kG_M kg9).symm
        have eW9 : wl = kWl (x) := hkW.trans (kG_W kg9).symm
        have eP9 := (kG_p kg9).1
        have eS9 := (kG_p kg9).2
        have kl1 := kle.1
        have kl2 := kle.2
        have hF2 : (F_t_reduce x a k).2 = x := by
          have h9 := congrArg Prod.snd hres
          exact h9.symm
        refine W.widen (k := kPo x - kPo (F_t_reduce x a k).2) (n := kPs x - kPs (F_t_reduce x a k).2) (by rw [hF2]; omega) (by rw [hF2]; omega) ?_
        exact W.iret (v := iI ((-1 : Int))) hx hb hr (fun t ht hW => ⟨⟨iI ((-1 : Int)), (x, ad), rfl, ⟨(by have h9 := congrArg (fun z : Int × KS => iI z.1) hres; exact h9), (by have h9 := congrArg (fun z : Int × KS => z.2) hres; exact h9), had⟩, by rw [ht]; show va_P (dC, dI) vwCl (kWd cI cJ cZ cR (kWl (x)) ad (kM (x)) (x)) H; rw [← eM9, ← eW9]; exact hP, va_K.moved hW.alike hK, by show va_D A (kWd cI cJ cZ cR (kWl (x)) ad (kM (x)) (x)); rw [← eM9, ← eW9]; exact hD⟩, hS.F ht⟩) hS.2.2 dX11_reduce_17
  exact key M wl ao _ _ ls hM hkM hkW (fun _ _ => rfl) hP hD hS hl
theorem F_t_reduce_fr (x : KS) (a : Int) (k : Int) : gfr [(70, 4), (70, 5), (64, 8), (73, 1), (7 + 2 * (k).toNat, 1)] [71, 72, 74, 57, (7 + 2 * (k).toNat) + 1] x (F_t_reduce x a k).2 := by
  unfold F_t_reduce
  by_cases hc : ((F_t_isSlot (x) (a)).1) = (0)
  · rw [if_pos hc]
    exact (gm_rf _ _ _)
  · rw [if_neg hc]
    by_cases hc : ((F_t_isSlot (x) (k)).1) = (0)
    · rw [if_pos hc]
      exact (gm_rf _ _ _)
    · rw [if_neg hc]
      by_cases hc : ((F_t_bringDown (x) (7 + 2 * (a).toNat) (73)).1) < (0)
      · rw [if_pos hc]
        exact (gm_tr (gm_rf _ _ _) (gm_mono (km1 (List.Mem.head _) (km1 (List.Mem.tail _ (List.Mem.head _)) (km1 (List.Mem.tail _ (List.Mem.tail _ (List.Mem.head _))) (km1 (List.Mem.tail _ (List.Mem.tail _ (List.Mem.tail _ (List.Mem.head _)))) km0)))) (km1 (List.Mem.head _) (km1 (List.Mem.tail _ (List.Mem.head _)) (km1 (List.Mem.tail _ (List.Mem.tail _ (List.Mem.head _))) (km1 (List.Mem.tail _ (List.Mem.tail _ (List.Mem.tail _ (List.Mem.head _)))) km0)))) (F_t_bringDown_fr (x) (7 + 2 * (a).toNat) (73))))
      · rw [if_neg hc]
        exact (gm_tr (gm_tr (gm_rf _ _ _) (gm_mono (km1 (List.Mem.head _) (km1 (List.Mem.tail _ (List.Mem.head _)) (km1 (List.Mem.tail _ (List.Mem.tail _ (List.Mem.head _))) (km1 (List.Mem.tail _ (List.Mem.tail _ (List.Mem.tail _ (List.Mem.head _)))) km0)))) (km1 (List.Mem.head _) (km1 (List.Mem.tail _ (List.Mem.head _)) (km1 (List.Mem.tail _ (List.Mem.tail _ (List.Mem.head _))) (km1 (List.Mem.tail _ (List.Mem.tail _ (List.Mem.tail _ (List.Mem.head _)))) km0)))) (F_t_bringDown_fr (x) (7 + 2 * (a).toNat) (73)))) (gm_mono (km1 (List.Mem.tail _ (List.Mem.tail _ (List.Mem.tail _ (List.Mem.tail _ (List.Mem.head _))))) km0) (km1 (List.Mem.tail _ (List.Mem.tail _ (List.Mem.tail _ (List.Mem.tail _ (List.Mem.head _))))) km0) (gm_of (F_w_take_fr ((F_t_bringDown (x) (7 + 2 * (a).toNat) (73)).2) (7 + 2 * (k).toNat) (73)))))
def F_t_like (x : KS) (a : Int) (b : Int) : Int × KS := (if ((F_t_isSlot (x) (a)).1) = (0) then ((-1 : Int), x) else (if ((F_t_isSlot (x) (b)).1) = (0) then ((-1 : Int), x) else (if (0) ≤ ((F_t_bringDown (x) (7 + 2 * (a).toNat) (73)).1) then (if (0) ≤ ((F_t_bringDown ((F_t_bringDown (x) (7 + 2 * (a).toNat) (73)).2) (7 + 2 * (b).toNat) (75)).1) then (if ((F_w_isSame ((F_t_bringDown ((F_t_bringDown (x) (7 + 2 * (a).toNat) (73)).2) (7 + 2 * (b).toNat) (75)).2) (73) (75)).1) = (0) then ((0 : Int), (F_t_bringDown ((F_t_bringDown (x) (7 + 2 * (a).toNat) (73)).2) (7 + 2 * (b).toNat) (75)).2) else ((1 : Int), (F_t_bringDown ((F_t_bringDown (x) (7 + 2 * (a).toNat) (73)).2) (7 + 2 * (b).toNat) (75)).2)) else ((F_t_bringDown ((F_t_bringDown (x) (7 + 2 * (a).toNat) (73)).2) (7 + 2 * (b).toNat) (75)).1, (F_t_bringDown ((F_t_bringDown (x) (7 + 2 * (a).toNat) (73)).2) (7 + 2 * (b).toNat) (75)).2)) else ((F_t_bringDown (x) (7 + 2 * (a).toNat) (73)).1, (F_t_bringDown (x) (7 + 2 * (a).toNat) (73)).2))))
theorem F_t_like_le  (x : KS) (a : Int) (b : Int) : kLe x (F_t_like x a b).2 := by
  unfold F_t_like
  by_cases hc9 : ((F_t_isSlot (x) (a)).1) = (0)
  · rw [if_pos hc9]
    exact (kLe_rf _)
  · rw [if_neg hc9]
    by_cases hc9 : ((F_t_isSlot (x) (b)).1) = (0)
    · rw [if_pos hc9]
      exact (kLe_rf _)
    · rw [if_neg hc9]
      by_cases hc9 : (0) ≤ ((F_t_bringDown (x) (7 + 2 * (a).toNat) (73)).1)
      · rw [if_pos hc9]
        by_cases hc9 : (0) ≤ ((F_t_bringDown ((F_t_bringDown (x) (7 + 2 * (a).toNat) (73)).2) (7 + 2 * (b).toNat) (75)).1)
        · rw [if_pos hc9]
          by_cases hc9 : ((F_w_isSame ((F_t_bringDown ((F_t_bringDown (x) (7 + 2 * (a).toNat) (73)).2) (7 + 2 * (b).toNat) (75)).2) (73) (75)).1) = (0)
          · rw [if_pos hc9]
            exact (kLe_tr (kLe_tr (kLe_rf _) (F_t_bringDown_le rfl (by omega) (x) (7 + 2 * (a).toNat))) (F_t_bringDown_le rfl (by omega) ((F_t_bringDown (x) (7 + 2 * (a).toNat) (73)).2) (7 + 2 * (b).toNat)))
          · rw [if_neg hc9]
            exact (kLe_tr (kLe_tr (kLe_rf _) (F_t_bringDown_le rfl (by omega) (x) (7 + 2 * (a).toNat))) (F_t_bringDown_le rfl (by omega) ((F_t_bringDown (x) (7 + 2 * (a).toNat) (73)).2) (7 + 2 * (b).toNat)))
        · rw [if_neg hc9]
          exact (kLe_tr (kLe_tr (kLe_rf _) (F_t_bringDown_le rfl (by omega) (x) (7 + 2 * (a).toNat))) (F_t_bringDown_le rfl (by omega) ((F_t_bringDown (x) (7 + 2 * (a).toNat) (73)).2) (7 + 2 * (b).toNat)))
      · rw [if_neg hc9]
        exact (kLe_tr (kLe_rf _) (F_t_bringDown_le rfl (by omega) (x) (7 + 2 * (a).toNat)))
set_option maxHeartbeats 4000000 in
set_option maxRecDepth 100000 in
/-- LikeWords, like -/
theorem c_t_like (l : Launch) (dC : Nat → ClassId) (dI : Nat → Nat → Nat) (ao : Nat → Nat) (cI cJ cZ cR : ClassId) (M wl sz : Nat) (x : KS) (a : Int) (b : Int) (hM : 87 ≤ M) (hkM : M = kM x) (hkW : wl = kWl x) (ra : iR a) (rb : iR b) (bp : bdP x) (su : ∀ j : Int, 0 ≤ j → j < 8 → wG x (7 + 2 * j.toNat)) (r3 : r03 (x.2 74)) (r6 : r03 (x.2 76)) : Met l yX11_like wsX11_like ({ frames := 6, cells := kPo x - kPo (F_t_like x a b).2, slots := kPs x - kPs (F_t_like x a b).2, locals := 154 }) (kPc dC dI ao cI cJ cZ cR M wl sz x [.ref (ao 0), .int (iI a), .int (iI b)]) (va_Qi (fun (r : Int32) (u : KS × (Nat → Nat)) => r = iI (F_t_like x a b).1 ∧ u.1 = (F_t_like x a b).2 ∧ (∀ c, c < 87 → u.2 c = ao c)) (fun u t => kAt dC dI u.2 cI cJ cZ cR (kM u.1) (kWl u.1) (va_A (kWd cI cJ cZ cR wl ao M x) sz) u.1 t) (va_A (kWd cI cJ cZ cR wl ao M x) sz)) (kPo x - kPo (F_t_like x a b).2) (kPs x - kPs (F_t_like x a b).2) (va_A (kWd cI cJ cZ cR wl ao M x) sz) := by
  refine Met.ofW (cc := cX11_like) (maxL := 4) (ret := (some .int)) (by decide) rfl ?_
  intro p e s m args below meth c s₁ B hml hv
  obtain ⟨rfl, hsz, hP, hK, hD0, hNw⟩ := hv
  have hx := B.exec
  have hb := B.bytes
  have hr := B.returns
  have hts := atoms_spec (ws := wsX11_like) B.pre
  have hown : s.vm.findClass RX11 = some m.cls := findClass_of_methodNamed B.named
  have hlocks := B.notSynchronized
  have hinX11 : ∀ w ∈ u_ws RX11 TX11 17, w ∈ wsX11_like := by decide +kernel
  subst hsz
  have hD := hD0.self (sz := s.heap.size)
  generalize hAe : va_A (kWd cI cJ cZ cR wl ao M x) s.heap.size = A at hD ⊢
  have hA : ∀ q : Nat, s.heap.size ≤ q → A q := fun q h => by rw [← hAe]; exact Or.inr h
  have hS : va_S A s.heap s.heap [] := va_S.rf
  have hl := lv_entry ([.ref (ao 0), .int (iI a), .int (iI b)]) (n := 4) (Nat.le_of_ble_eq_true rfl)
  rw [lg_entry_eq]
  generalize (lg_sl ([.ref (ao 0), .int (iI a), .int (iI b)]) ++ List.replicate (4 - (lg_sl ([.ref (ao 0), .int (iI a), .int (iI b)])).length) Slot.unset).toArray = ls at hl ⊢
  have hl : lv_has ls 4 [(0, .ref (ao (0))), (1, .int (iI (a))), (2, .int (iI (b)))] := hl
  have key : ∀ (M wl : Nat) (ad : Nat → Nat) (H : Heap) (locs : List Loc) (ls : Array Slot), 87 ≤ M → M = kM x → wl = kWl x → (∀ c, c < 87 → ad c = ao c) → va_P (dC, dI) vwCl (kWd cI cJ cZ cR wl ad M (x)) H → va_D A (kWd cI cJ cZ cR wl ad M (x)) → va_S A s.heap H locs → lv_has ls 4 [(0, .ref (ad (0))), (1, .int (iI (a))), (2, .int (iI (b)))] → W p l e (headSpec wsX11_like ({ frames := 6, cells := kPo x - kPo (F_t_like x a b).2, slots := kPs x - kPs (F_t_like x a b).2, locals := 154 })).room s m ([.ref (ao 0), .int (iI a), .int (iI b)] : List Value).toArray below meth c H locs 0 0 (MQ below (va_Qi (fun (r : Int32) (u : KS × (Nat → Nat)) => r = iI (F_t_like x a b).1 ∧ u.1 = (F_t_like x a b).2 ∧ (∀ c, c < 87 → u.2 c = ao c)) (fun u t => kAt dC dI u.2 cI cJ cZ cR (kM u.1) (kWl u.1) (A) u.1 t) (A)) ([.ref (ao 0), .int (iI a), .int (iI b)] : List Value).toArray s (kPo x - kPo (F_t_like x a b).2) (kPs x - kPs (F_t_like x a b).2) A) (F0 m 0 ls []) := by
    intro M wl ad H locs ls hM hkM hkW had hP hD hS hl
    have kle : kLe x x := kLe_rf x
    have kf9 := F_t_like_le  x a b
    have kf1 := kf9.1
    have kf2 := kf9.2
    have hres : (if ((F_t_isSlot (x) (a)).1) = (0) then ((-1 : Int), x) else (if ((F_t_isSlot (x) (b)).1) = (0) then ((-1 : Int), x) else (if (0) ≤ ((F_t_bringDown (x) (7 + 2 * (a).toNat) (73)).1) then (if (0) ≤ ((F_t_bringDown ((F_t_bringDown (x) (7 + 2 * (a).toNat) (73)).2) (7 + 2 * (b).toNat) (75)).1) then (if ((F_w_isSame ((F_t_bringDown ((F_t_bringDown (x) (7 + 2 * (a).toNat) (73)).2) (7 + 2 * (b).toNat) (75)).2) (73) (75)).1) = (0) then ((0 : Int), (F_t_bringDown ((F_t_bringDown (x) (7 + 2 * (a).toNat) (73)).2) (7 + 2 * (b).toNat) (75)).2) else ((1 : Int), (F_t_bringDown ((F_t_bringDown (x) (7 + 2 * (a).toNat) (73)).2) (7 + 2 * (b).toNat) (75)).2)) else ((F_t_bringDown ((F_t_bringDown (x) (7 + 2 * (a).toNat) (73)).2) (7 + 2 * (b).toNat) (75)).1, (F_t_bringDown ((F_t_bringDown (x) (7 + 2 * (a).toNat) (73)).2) (7 + 2 * (b).toNat) (75)).2)) else ((F_t_bringDown (x) (7 + 2 * (a).toNat) (73)).1, (F_t_bringDown (x) (7 + 2 * (a).toNat) (73)).2)))) = F_t_like x a b := rfl
    refine lv_aload_n hx hb dX11_like_0 rfl (lv_at hl 0 rfl) ?_
    refine lv_iload_n hx hb dX11_like_1 rfl (lv_at hl 1 rfl) ?_
    have hFc : ∀ q, va_A (kWd cI cJ cZ cR wl ad M (x)) H.size q → A q := fun q hq => Or.elim hq (fun ⟨k, e, hk⟩ => hD.2 k (q, e) hk) (fun hk => hA q (Nat.le_trans hS.1 hk))
    refine va_calli (va_runV (b := ad (0)) (As := [.int (iI (a))]) (rest := []) ⟨hx, hb, hml, hown, hts⟩ (c_t_isSlot l dC dI ad cI cJ cZ cR M wl H.size (x)  (a) hM ra) (cwV 1 hts gX11_like_X11_isSlot rfl rfl rfl (by decide +kernel) ⟨Nat.le_of_ble_eq_true rfl, Nat.le_of_ble_eq_true rfl⟩) ⟨fun a U g mk q => by obtain ⟨q0, q1, qP, qK, qD, qN⟩ := q; exact ⟨q0, q1, qP, va_K.moved (u := U) (U := U.calling g mk a) (Vm.Alike.refl U.vm) qK, qD, kNw.same (u := U) (U := U.calling g mk a) rfl qN⟩, va_recv hK hP (ci := 11) (q0 := 0) rfl (kg0 (by omega)), fun U hU hW => ⟨rfl, by rw [hU], by rw [hU]; exact hP, va_K.moved hW.alike hK, hD.weaken (fun _ _ _ _ => trivial), kNw.warm hW hNw⟩⟩ rfl rfl hl.1 rfl (lv_room (Nat.le_of_ble_eq_true rfl)) dX11_like_2 ⟨(show _ ≤ kPo x - kPo (F_t_like x a b).2 by omega), (show _ ≤ kPs x - kPs (F_t_like x a b).2 by omega)⟩) hS (fun q _ h => hFc q h) hFc (fun r9 u9 t H1 locs ht hvm hw hB hz1 hk1 hS => ?_)
    obtain ⟨hP1, hK1, hD1⟩ := hB
    rw [ht] at hP1
    obtain ⟨hw1, hw2⟩ := hw
    rw [hw2] at hP1 hD1
    rw [hw1]
    rw [F_t_isSlot_2] at hP1 hD1
    have hD2 := hD1.weaken (B := A) (fun _ q _ h => hFc q.1 h)
    have hP := hP1
    have hD := hD2
    generalize H1 = H at hP hS ⊢
    refine wi_if_eq (tgt := 16) hx hb (kR01 (F_t_isSlot_01 _ _)) dX11_like_5 (by decide) (fun c_5 => ?_) (fun c_5 => ?_)
    · skip
      rw [if_pos c_5] at hres
      refine lv_iconst (v := iI (-1 : Int)) hx hb dX11_like_16 (by decide) ?_
      have kg9 : kG (x) (x) := (kG_rf _)
      have eM9 : M = kM (x) := hkM.trans (kG_M kg9).symm
      have eW9 : wl = kWl (x) := hkW.trans (kG_W kg9).symm
      have eP9 := (kG_p kg9).1
      have eS9 := (kG_p kg9).2
      have kl1 := kle.1
      have kl2 := kle.2
      have hF2 : (F_t_like x a b).2 = x := by
        have h9 := congrArg Prod.snd hres
        exact h9.symm
      refine W.widen (k := kPo x - kPo (F_t_like x a b).2) (n := kPs x - kPs (F_t_like x a b).2) (by rw [hF2]; omega) (by rw [hF2]; omega) ?_
      exact W.iret (v := iI ((-1 : Int))) hx hb hr (fun t ht hW => ⟨⟨iI ((-1 : Int)), (x, ad), rfl, ⟨(by have h9 := congrArg (fun z : Int × KS => iI z.1) hres; exact h9), (by have h9 := congrArg (fun z : Int × KS => z.2) hres; exact h9), had⟩, by rw [ht]; show va_P (dC, dI) vwCl (kWd cI cJ cZ cR (kWl (x)) ad (kM (x)) (x)) H; rw [← eM9, ← eW9]; exact hP, va_K.moved hW.alike hK, by show va_D A (kWd cI cJ cZ cR (kWl (x)) ad (kM (x)) (x)); rw [← eM9, ← eW9]; exact hD⟩, hS.F ht⟩) hS.2.2 dX11_like_17
    · skip
      rw [if_neg c_5] at hres
      refine lv_aload_n hx hb dX11_like_8 rfl (lv_at hl 0 rfl) ?_
      refine lv_iload_n hx hb dX11_like_9 rfl (lv_at hl 2 rfl) ?_
      have hFc : ∀ q, va_A (kWd cI cJ cZ cR wl ad M (x)) H.size q → A q := fun q hq => Or.elim hq (fun ⟨k, e, hk⟩ => hD.2 k (q, e) hk) (fun hk => hA q (Nat.le_trans hS.1 hk))
      refine va_calli (va_runV (b := ad (0)) (As := [.int (iI (b))]) (rest := []) ⟨hx, hb, hml, hown, hts⟩ (c_t_isSlot l dC dI ad cI cJ cZ cR M wl H.size (x)  (b) hM rb) (cwV 1 hts gX11_like_X11_isSlot rfl rfl rfl (by decide +kernel) ⟨Nat.le_of_ble_eq_true rfl, Nat.le_of_ble_eq_true rfl⟩) ⟨fun a U g mk q => by obtain ⟨q0, q1, qP, qK, qD, qN⟩ := q; exact ⟨q0, q1, qP, va_K.moved (u := U) (U := U.calling g mk a) (Vm.Alike.refl U.vm) qK, qD, kNw.same (u := U) (U := U.calling g mk a) rfl qN⟩, va_recv hK hP (ci := 11) (q0 := 0) rfl (kg0 (by omega)), fun U hU hW => ⟨rfl, by rw [hU], by rw [hU]; exact hP, va_K.moved hW.alike hK, hD.weaken (fun _ _ _ _ => trivial), kNw.warm hW hNw⟩⟩ rfl rfl hl.1 rfl (lv_room (Nat.le_of_ble_eq_true rfl)) dX11_like_10 ⟨(show _ ≤ kPo x - kPo (F_t_like x a b).2 by omega), (show _ ≤ kPs x - kPs (F_t_like x a b).2 by omega)⟩) hS (fun q _ h => hFc q h) hFc (fun r9 u9 t H1 locs ht hvm hw hB hz1 hk1 hS => ?_)
      obtain ⟨hP1, hK1, hD1⟩ := hB
      rw [ht] at hP1
      obtain ⟨hw1, hw2⟩ := hw
      rw [hw2] at hP1 hD1
      rw [hw1]
      rw [F_t_isSlot_2] at hP1 hD1
      have hD2 := hD1.weaken (B := A) (fun _ q _ h => hFc q.1 h)
      have hP := hP1
      have hD := hD2
      generalize H1 = H at hP hS ⊢
      refine wi_if_ne (tgt := 18) hx hb (kR01 (F_t_isSlot_01 _ _)) dX11_like_13 (by decide) (fun c_13 => ?_) (fun c_13 => ?_)
      · skip
        rw [if_neg c_13] at hres
        obtain ⟨a0, a1⟩ := F_t_isSlot_1 c_5
        obtain ⟨b0, b1⟩ := F_t_isSlot_1 c_13
        refine lv_aload_n hx hb dX11_like_18 rfl (lv_at hl 0 rfl) ?_
        refine lv_aload_n hx hb dX11_like_19 rfl (lv_at hl 0 rfl) ?_
        refine va_get (D := (dC, dI)) (ci := 11) (v := .ref (ad (6))) (C := RX11) (T := TX11) (N := 17) hx hb hts hinX11 hown hK hP (0) (kg0 (by omega)) rfl 2 (by decide) (hts (.fieldLink RX11 25 "LikeWords" "slots" "[LLikeWords$Word;") (by decide +kernel)) (fun _ h9 => h9) rfl dX11_like_20 ?_
        refine lv_iload_n hx hb dX11_like_23 rfl (lv_at hl 1 rfl) ?_
        refine va_aldq (C := "LikeWords$Word") (n := 8) (f := fun j => some (ad (7 + 2 * j))) hx hb hK hP 6 3 (kget (by omega)) rfl (iI_in (z := a) (by omega) (by omega) (by decide)) dX11_like_24 ?_
        rw [iI_clamp ⟨by omega, by omega⟩]
        refine W.eq (g2 := F0 m 25 ls [.ref (ad (7 + 2 * (a).toNat)), .ref (ad (0))]) rfl ?_
        refine lv_aload_n hx hb dX11_like_25 rfl (lv_at hl 0 rfl) ?_
        refine va_get (D := (dC, dI)) (ci := 11) (v := .ref (ad (73))) (C := RX11) (T := TX11) (N := 17) hx hb hts hinX11 hown hK hP (0) (kg0 (by omega)) rfl 11 (by decide) (hts (.fieldLink RX11 66 "LikeWords" "first" "LLikeWords$Word;") (by decide +kernel)) (fun _ h9 => h9) rfl dX11_like_26 ?_
        have kg9 : kG (x) (x) := (kG_rf _)
        have eM9 : M = kM (x) := hkM.trans (kG_M kg9).symm
        have eW9 : wl = kWl (x) := hkW.trans (kG_W kg9).symm
        have eP9 := (kG_p kg9).1
        have eS9 := (kG_p kg9).2
        have kl1 := kle.1
        have kl2 := kle.2
        have kfn : kLe (F_t_bringDown (x) (7 + 2 * (a).toNat) (73)).2 (F_t_like x a b).2 := by
          rw [← hres]
          by_cases hc9 : (0) ≤ ((F_t_bringDown (x) (7 + 2 * (a).toNat) (73)).1)
          · rw [if_pos hc9]
            by_cases hc9 : (0) ≤ ((F_t_bringDown ((F_t_bringDown (x) (7 + 2 * (a).toNat) (73)).2) (7 + 2 * (b).toNat) (75)).1)
            · rw [if_pos hc9]
              by_cases hc9 : ((F_w_isSame ((F_t_bringDown ((F_t_bringDown (x) (7 + 2 * (a).toNat) (73)).2) (7 + 2 * (b).toNat) (75)).2) (73) (75)).1) = (0)
              · rw [if_pos hc9]
                exact (kLe_tr (kLe_rf _) (F_t_bringDown_le rfl (by omega) ((F_t_bringDown (x) (7 + 2 * (a).toNat) (73)).2) (7 + 2 * (b).toNat)))
              · rw [if_neg hc9]
                exact (kLe_tr (kLe_rf _) (F_t_bringDown_le rfl (by omega) ((F_t_bringDown (x) (7 + 2 * (a).toNat) (73)).2) (7 + 2 * (b).toNat)))
            · rw [if_neg hc9]
              exact (kLe_tr (kLe_rf _) (F_t_bringDown_le rfl (by omega) ((F_t_bringDown (x) (7 + 2 * (a).toNat) (73)).2) (7 + 2 * (b).toNat)))
          · rw [if_neg hc9]
            exact (kLe_rf _)
        have kf1 := kfn.1
        have kf2 := kfn.2
        have kd9 : kLe (x) (F_t_bringDown (x) (7 + 2 * (a).toNat) (73)).2 := (F_t_bringDown_le rfl (by omega) (x) (7 + 2 * (a).toNat))
        have kd1 := kd9.1
        have kd2 := kd9.2
        have hFc : ∀ q, va_A (kWd cI cJ cZ cR wl ad M (x)) H.size q → A q := fun q hq => Or.elim hq (fun ⟨k, e, hk⟩ => hD.2 k (q, e) hk) (fun hk => hA q (Nat.le_trans hS.1 hk))
        refine va_calli (va_runV (b := ad (0)) (As := [.ref (ad (7 + 2 * (a).toNat)), .ref (ad (73))]) (rest := []) ⟨hx, hb, hml, hown, hts⟩ (c_t_bringDown l dC dI ad cI cJ cZ cR M wl H.size (x) (7 + 2 * (a).toNat) (73)  hM (kW_slot (by omega) (by omega)) (by omega) rfl (by omega) eM9 eW9 bp.1.1 bp.1.2 bp.2.1 bp.2.2.1 bp.2.2.2.1 bp.2.2.2.2.1 (su a a0 a1) (kL_slot a0 a1) rfl r3 (by omega) bp.2.2.2.2.2) (cwV 2 hts gX11_like_X11_bringDown rfl rfl rfl (by decide +kernel) ⟨Nat.le_of_ble_eq_true rfl, Nat.le_of_ble_eq_true rfl⟩) ⟨fun a U g mk q => by obtain ⟨q0, q1, qP, qK, qD, qN⟩ := q; exact ⟨q0, q1, qP, va_K.moved (u := U) (U := U.calling g mk a) (Vm.Alike.refl U.vm) qK, qD, kNw.same (u := U) (U := U.calling g mk a) rfl qN⟩, va_recv hK hP (ci := 11) (q0 := 0) rfl (kg0 (by omega)), fun U hU hW => ⟨rfl, by rw [hU], by rw [hU]; exact hP, va_K.moved hW.alike hK, hD.weaken (fun _ _ _ _ => trivial), kNw.warm hW hNw⟩⟩ rfl rfl hl.1 rfl (lv_room (Nat.le_of_ble_eq_true rfl)) dX11_like_29 ⟨(show _ ≤ kPo x - kPo (F_t_like x a b).2 by omega), (show _ ≤ kPs x - kPs (F_t_like x a b).2 by omega)⟩) hS (fun q _ h => hFc q h) hFc (fun r9 u9 t H1 locs ht hvm hw hB hz1 hk1 hS => ?_)
        obtain ⟨hP1, hK1, hD1⟩ := hB
        rw [ht] at hP1
        obtain ⟨z9, ad⟩ := u9
        obtain ⟨hw1, hw2, hw3⟩ := hw
        rw [hw1]
        have hw2 : z9 = (F_t_bringDown (x) (7 + 2 * (a).toNat) (73)).2 := hw2
        subst hw2
        have hw3 := fun c (hc : c < 87) => (show ad c = _ from hw3 c hc)
        have had : ∀ c, c < 87 → ad c = ao c := fun c hc => (hw3 c hc).trans (had c hc)
        have hl : lv_has ls 4 [(0, .ref (ad (0))), (1, .int (iI (a))), (2, .int (iI (b)))] := by
          rw [hw3 (0) (by omega)]
          exact hl
        have hP1 : va_P (dC, dI) vwCl (kWd cI cJ cZ cR (kWl (F_t_bringDown (x) (7 + 2 * (a).toNat) (73)).2) ad (kM (F_t_bringDown (x) (7 + 2 * (a).toNat) (73)).2) (F_t_bringDown (x) (7 + 2 * (a).toNat) (73)).2) H1 := hP1
        have hD1 : va_D A (kWd cI cJ cZ cR (kWl (F_t_bringDown (x) (7 + 2 * (a).toNat) (73)).2) ad (kM (F_t_bringDown (x) (7 + 2 * (a).toNat) (73)).2) (F_t_bringDown (x) (7 + 2 * (a).toNat) (73)).2) := hD1.weaken (B := A) (fun _ q _ h => hFc q.1 h)
        have kle : kLe x (F_t_bringDown (x) (7 + 2 * (a).toNat) (73)).2 := ⟨by omega, by omega⟩
        refine W.widen (k := kPo x - kPo (F_t_bringDown (x) (7 + 2 * (a).toNat) (73)).2) (n := kPs x - kPs (F_t_bringDown (x) (7 + 2 * (a).toNat) (73)).2) (by omega) (by omega) ?_
        obtain ⟨M, hkM⟩ : ∃ M9, M9 = kM (F_t_bringDown (x) (7 + 2 * (a).toNat) (73)).2 := ⟨_, rfl⟩
        obtain ⟨wl, hkW⟩ : ∃ W9, W9 = kWl (F_t_bringDown (x) (7 + 2 * (a).toNat) (73)).2 := ⟨_, rfl⟩
        rw [← hkM, ← hkW] at hP1 hD1
        have hM : 87 ≤ M := by rw [hkM]; exact kM_ge _
        have hP := hP1
        have hD := hD1
        generalize H1 = H at hP hS ⊢
        have bb := bringDown_b bp (kW_slot a0 a1) (w2 := 73) rfl (by decide) (kL_slot a0 a1) rfl (by omega) (su a a0 a1) r3
        have bx := bringDown_x bp (kW_slot a0 a1) (w2 := 73) rfl (by decide) (kL_slot a0 a1) rfl (by omega) (su a a0 a1) r3
        refine lv_istore_n (lv' := [(3, .int (iI ((F_t_bringDown (x) (7 + 2 * (a).toNat) (73)).1))), (0, .ref (ad (0))), (1, .int (iI (a))), (2, .int (iI (b)))]) hx hb dX11_like_32 rfl hl (by decide) rfl (fun ls hl => ?_)
        refine lv_iload_n hx hb dX11_like_33 rfl (lv_at hl 0 rfl) ?_
        refine wi_if_ge (tgt := 39) hx hb (by unfold iR; omega) dX11_like_34 (by decide) (fun c_34 => ?_) (fun c_34 => ?_)
        · skip
          rw [if_pos c_34] at hres
          refine lv_aload_n hx hb dX11_like_39 rfl (lv_at hl 1 rfl) ?_
          refine lv_aload_n hx hb dX11_like_40 rfl (lv_at hl 1 rfl) ?_
          refine va_get (D := (dC, dI)) (ci := 11) (v := .ref (ad (6))) (C := RX11) (T := TX11) (N := 17) hx hb hts hinX11 hown hK hP (0) (kg0 (by omega)) rfl 2 (by decide) (hts (.fieldLink RX11 25 "LikeWords" "slots" "[LLikeWords$Word;") (by decide +kernel)) (fun _ h9 => h9) rfl dX11_like_41 ?_
          refine lv_iload_n hx hb dX11_like_44 rfl (lv_at hl 3 rfl) ?_
          refine va_aldq (C := "LikeWords$Word") (n := 8) (f := fun j => some (ad (7 + 2 * j))) hx hb hK hP 6 3 (kget (by omega)) rfl (iI_in (z := b) (by omega) (by omega) (by decide)) dX11_like_45 ?_
          rw [iI_clamp ⟨by omega, by omega⟩]
          refine W.eq (g2 := F0 m 46 ls [.ref (ad (7 + 2 * (b).toNat)), .ref (ad (0))]) rfl ?_
          refine lv_aload_n hx hb dX11_like_46 rfl (lv_at hl 1 rfl) ?_
          refine va_get (D := (dC, dI)) (ci := 11) (v := .ref (ad (75))) (C := RX11) (T := TX11) (N := 17) hx hb hts hinX11 hown hK hP (0) (kg0 (by omega)) rfl 12 (by decide) (hts (.fieldLink RX11 69 "LikeWords" "second" "LLikeWords$Word;") (by decide +kernel)) (fun _ h9 => h9) rfl dX11_like_47 ?_
          have bq := bx.1
          have sb9 : wG (F_t_bringDown x (7 + 2 * (a).toNat) 73).2 (7 + 2 * (b).toNat) := bringDown_G (kW_slot b0 b1) (by omega) (by omega) (su b b0 b1) rfl
          have rq : r03 ((F_t_bringDown x (7 + 2 * (a).toNat) 73).2.2 76) := by rw [(F_t_bringDown_fr x (7 + 2 * (a).toNat) 73).2 76 (by decide) (by decide)]; exact r6
          have kg9 : kG ((F_t_bringDown (x) (7 + 2 * (a).toNat) (73)).2) ((F_t_bringDown (x) (7 + 2 * (a).toNat) (73)).2) := (kG_rf _)
          have eM9 : M = kM ((F_t_bringDown (x) (7 + 2 * (a).toNat) (73)).2) := hkM.trans (kG_M kg9).symm
          have eW9 : wl = kWl ((F_t_bringDown (x) (7 + 2 * (a).toNat) (73)).2) := hkW.trans (kG_W kg9).symm
          have eP9 := (kG_p kg9).1
          have eS9 := (kG_p kg9).2
          have kl1 := kle.1
          have kl2 := kle.2
          have kfn : kLe (F_t_bringDown ((F_t_bringDown (x) (7 + 2 * (a).toNat) (73)).2) (7 + 2 * (b).toNat) (75)).2 (F_t_like x a b).2 := by
            rw [← hres]
            by_cases hc9 : (0) ≤ ((F_t_bringDown ((F_t_bringDown (x) (7 + 2 * (a).toNat) (73)).2) (7 + 2 * (b).toNat) (75)).1)
            · rw [if_pos hc9]
              by_cases hc9 : ((F_w_isSame ((F_t_bringDown ((F_t_bringDown (x) (7 + 2 * (a).toNat) (73)).2) (7 + 2 * (b).toNat) (75)).2) (73) (75)).1) = (0)
              · rw [if_pos hc9]
                exact (kLe_rf _)
              · rw [if_neg hc9]
                exact (kLe_rf _)
            · rw [if_neg hc9]
              exact (kLe_rf _)
          have kf1 := kfn.1
          have kf2 := kfn.2
          have kd9 : kLe ((F_t_bringDown (x) (7 + 2 * (a).toNat) (73)).2) (F_t_bringDown ((F_t_bringDown (x) (7 + 2 * (a).toNat) (73)).2) (7 + 2 * (b).toNat) (75)).2 := (F_t_bringDown_le rfl (by omega) ((F_t_bringDown (x) (7 + 2 * (a).toNat) (73)).2) (7 + 2 * (b).toNat))
          have kd1 := kd9.1
          have kd2 := kd9.2
          have hFc : ∀ q, va_A (kWd cI cJ cZ cR wl ad M ((F_t_bringDown (x) (7 + 2 * (a).toNat) (73)).2)) H.size q → A q := fun q hq => Or.elim hq (fun ⟨k, e, hk⟩ => hD.2 k (q, e) hk) (fun hk => hA q (Nat.le_trans hS.1 hk))
          refine va_calli (va_runV (b := ad (0)) (As := [.ref (ad (7 + 2 * (b).toNat)), .ref (ad (75))]) (rest := []) ⟨hx, hb, hml, hown, hts⟩ (c_t_bringDown l dC dI ad cI cJ cZ cR M wl H.size ((F_t_bringDown (x) (7 + 2 * (a).toNat) (73)).2) (7 + 2 * (b).toNat) (75)  hM (kW_slot (by omega) (by omega)) (by omega) rfl (by omega) eM9 eW9 bq.1.1 bq.1.2 bq.2.1 bq.2.2.1 bq.2.2.2.1 bq.2.2.2.2.1 sb9 (kL_slot b0 b1) rfl rq (by omega) bq.2.2.2.2.2) (cwV 2 hts gX11_like_X11_bringDown rfl rfl rfl (by decide +kernel) ⟨Nat.le_of_ble_eq_true rfl, Nat.le_of_ble_eq_true rfl⟩) ⟨fun a U g mk q => by obtain ⟨q0, q1, qP, qK, qD, qN⟩ := q; exact ⟨q0, q1, qP, va_K.moved (u := U) (U := U.calling g mk a) (Vm.Alike.refl U.vm) qK, qD, kNw.same (u := U) (U := U.calling g mk a) rfl qN⟩, va_recv hK hP (ci := 11) (q0 := 0) rfl (kg0 (by omega)), fun U hU hW => ⟨rfl, by rw [hU], by rw [hU]; exact hP, va_K.moved hW.alike hK, hD.weaken (fun _ _ _ _ => trivial), kNw.warm hW hNw⟩⟩ rfl rfl hl.1 rfl (lv_room (Nat.le_of_ble_eq_true rfl)) dX11_like_50 ⟨(show _ ≤ kPo x - kPo (F_t_like x a b).2 by omega), (show _ ≤ kPs x - kPs (F_t_like x a b).2 by omega)⟩) hS (fun q _ h => hFc q h) hFc (fun r9 u9 t H1 locs ht hvm hw hB hz1 hk1 hS => ?_)
          obtain ⟨hP1, hK1, hD1⟩ := hB
          rw [ht] at hP1
          obtain ⟨z9, ad⟩ := u9
          obtain ⟨hw1, hw2, hw3⟩ := hw
          rw [hw1]
          have hw2 : z9 = (F_t_bringDown ((F_t_bringDown (x) (7 + 2 * (a).toNat) (73)).2) (7 + 2 * (b).toNat) (75)).2 := hw2
          subst hw2
          have hw3 := fun c (hc : c < 87) => (show ad c = _ from hw3 c hc)
          have had : ∀ c, c < 87 → ad c = ao c := fun c hc => (hw3 c hc).trans (had c hc)
          have hl : lv_has ls 4 [(3, .int (iI ((F_t_bringDown (x) (7 + 2 * (a).toNat) (73)).1))), (0, .ref (ad (0))), (1, .int (iI (a))), (2, .int (iI (b)))] := by
            rw [hw3 (0) (by omega)]
            exact hl
          have hP1 : va_P (dC, dI) vwCl (kWd cI cJ cZ cR (kWl (F_t_bringDown ((F_t_bringDown (x) (7 + 2 * (a).toNat) (73)).2) (7 + 2 * (b).toNat) (75)).2) ad (kM (F_t_bringDown ((F_t_bringDown (x) (7 + 2 * (a).toNat) (73)).2) (7 + 2 * (b).toNat) (75)).2) (F_t_bringDown ((F_t_bringDown (x) (7 + 2 * (a).toNat) (73)).2) (7 + 2 * (b).toNat) (75)).2) H1 := hP1
          have hD1 : va_D A (kWd cI cJ cZ cR (kWl (F_t_bringDown ((F_t_bringDown (x) (7 + 2 * (a).toNat) (73)).2) (7 + 2 * (b).toNat) (75)).2) ad (kM (F_t_bringDown ((F_t_bringDown (x) (7 + 2 * (a).toNat) (73)).2) (7 + 2 * (b).toNat) (75)).2) (F_t_bringDown ((F_t_bringDown (x) (7 + 2 * (a).toNat) (73)).2) (7 + 2 * (b).toNat) (75)).2) := hD1.weaken (B := A) (fun _ q _ h => hFc q.1 h)
          have kle : kLe x (F_t_bringDown ((F_t_bringDown (x) (7 + 2 * (a).toNat) (73)).2) (7 + 2 * (b).toNat) (75)).2 := ⟨by omega, by omega⟩
          refine W.widen (k := kPo x - kPo (F_t_bringDown ((F_t_bringDown (x) (7 + 2 * (a).toNat) (73)).2) (7 + 2 * (b).toNat) (75)).2) (n := kPs x - kPs (F_t_bringDown ((F_t_bringDown (x) (7 + 2 * (a).toNat) (73)).2) (7 + 2 * (b).toNat) (75)).2) (by omega) (by omega) ?_
          obtain ⟨M, hkM⟩ : ∃ M9, M9 = kM (F_t_bringDown ((F_t_bringDown (x) (7 + 2 * (a).toNat) (73)).2) (7 + 2 * (b).toNat) (75)).2 := ⟨_, rfl⟩
          obtain ⟨wl, hkW⟩ : ∃ W9, W9 = kWl (F_t_bringDown ((F_t_bringDown (x) (7 + 2 * (a).toNat) (73)).2) (7 + 2 * (b).toNat) (75)).2 := ⟨_, rfl⟩
          rw [← hkM, ← hkW] at hP1 hD1
          have hM : 87 ≤ M := by rw [hkM]; exact kM_ge _
          have hP := hP1
          have hD := hD1
          generalize H1 = H at hP hS ⊢
          have bc := bringDown_b bq (kW_slot b0 b1) (w2 := 75) rfl (by decide) (kL_slot b0 b1) rfl (by omega) sb9 rq
          refine lv_istore_n (lv' := [(3, .int (iI ((F_t_bringDown ((F_t_bringDown (x) (7 + 2 * (a).toNat) (73)).2) (7 + 2 * (b).toNat) (75)).1))), (0, .ref (ad (0))), (1, .int (iI (a))), (2, .int (iI (b)))]) hx hb dX11_like_53 rfl hl (by decide) rfl (fun ls hl => ?_)
          refine lv_iload_n hx hb dX11_like_54 rfl (lv_at hl 0 rfl) ?_
          refine wi_if_ge (tgt := 60) hx hb (by unfold iR; omega) dX11_like_55 (by decide) (fun c_55 => ?_) (fun c_55 => ?_)
          · skip
            rw [if_pos c_55] at hres
            refine lv_aload_n hx hb dX11_like_60 rfl (lv_at hl 1 rfl) ?_
            refine va_get (D := (dC, dI)) (ci := 11) (v := .ref (ad (73))) (C := RX11) (T := TX11) (N := 17) hx hb hts hinX11 hown hK hP (0) (kg0 (by omega)) rfl 11 (by decide) (hts (.fieldLink RX11 66 "LikeWords" "first" "LLikeWords$Word;") (by decide +kernel)) (fun _ h9 => h9) rfl dX11_like_61 ?_
            refine lv_aload_n hx hb dX11_like_64 rfl (lv_at hl 1 rfl) ?_
            refine va_get (D := (dC, dI)) (ci := 11) (v := .ref (ad (75))) (C := RX11) (T := TX11) (N := 17) hx hb hts hinX11 hown hK hP (0) (kg0 (by omega)) rfl 12 (by decide) (hts (.fieldLink RX11 69 "LikeWords" "second" "LLikeWords$Word;") (by decide +kernel)) (fun _ h9 => h9) rfl dX11_like_65 ?_
            have g5 := (bc.2.2 (by omega)).1
            have g3 : wG (F_t_bringDown (F_t_bringDown x (7 + 2 * (a).toNat) 73).2 (7 + 2 * (b).toNat) 75).2 73 := bringDown_G rfl (by decide) (by decide) (bb.2.2 (by omega)).1 rfl
            have hFc : ∀ q, va_A (kWd cI cJ cZ cR wl ad M ((F_t_bringDown ((F_t_bringDown (x) (7 + 2 * (a).toNat) (73)).2) (7 + 2 * (b).toNat) (75)).2)) H.size q → A q := fun q hq => Or.elim hq (fun ⟨k, e, hk⟩ => hD.2 k (q, e) hk) (fun hk => hA q (Nat.le_trans hS.1 hk))
            refine va_calli (va_runV (b := ad (73)) (As := [.ref (ad (75))]) (rest := []) ⟨hx, hb, hml, hown, hts⟩ (c_w_isSame l dC dI ad cI cJ cZ cR M wl H.size ((F_t_bringDown ((F_t_bringDown (x) (7 + 2 * (a).toNat) (73)).2) (7 + 2 * (b).toNat) (75)).2) (73) (75)  hM rfl (by omega) rfl (by omega) g3.1.1 (by show _ ≤ ((60 : Nat) : Int); exact g3.1.2) g5.1.1 (by show _ ≤ ((60 : Nat) : Int); exact g5.1.2) (r03_R g3.2.1) (r03_R g5.2.1)) (cwV 1 hts gX11_like_X10_isSame rfl rfl rfl (by decide +kernel) ⟨Nat.le_of_ble_eq_true rfl, Nat.le_of_ble_eq_true rfl⟩) ⟨fun a U g mk q => by obtain ⟨q0, q1, qP, qK, qD, qN⟩ := q; exact ⟨q0, q1, qP, va_K.moved (u := U) (U := U.calling g mk a) (Vm.Alike.refl U.vm) qK, qD, kNw.same (u := U) (U := U.calling g mk a) rfl qN⟩, va_recv hK hP (ci := 10) (q0 := 73) rfl (kgw rfl (by omega)), fun U hU hW => ⟨rfl, by rw [hU], by rw [hU]; exact hP, va_K.moved hW.alike hK, hD.weaken (fun _ _ _ _ => trivial), kNw.warm hW hNw⟩⟩ rfl rfl hl.1 rfl (lv_room (Nat.le_of_ble_eq_true rfl)) dX11_like_68 ⟨(show _ ≤ kPo x - kPo (F_t_like x a b).2 by omega), (show _ ≤ kPs x - kPs (F_t_like x a b).2 by omega)⟩) hS (fun q _ h => hFc q h) hFc (fun r9 u9 t H1 locs ht hvm hw hB hz1 hk1 hS => ?_)
            obtain ⟨hP1, hK1, hD1⟩ := hB
            rw [ht] at hP1
            obtain ⟨hw1, hw2⟩ := hw
            rw [hw2] at hP1 hD1
            rw [hw1]
            rw [F_w_isSame_2] at hP1 hD1
            have hD2 := hD1.weaken (B := A) (fun _ q _ h => hFc q.1 h)
            have hP := hP1
            have hD := hD2
            generalize H1 = H at hP hS ⊢
            refine wi_if_eq (tgt := 78) hx hb (kR01 (F_w_isSame_01 _ _ _)) dX11_like_71 (by decide) (fun c_71 => ?_) (fun c_71 => ?_)
            · skip
              rw [if_pos c_71] at hres
              refine lv_iconst (v := iI (0 : Int)) hx hb dX11_like_78 (by decide) ?_
              have kg9 : kG ((F_t_bringDown ((F_t_bringDown (x) (7 + 2 * (a).toNat) (73)).2) (7 + 2 * (b).toNat) (75)).2) ((F_t_bringDown ((F_t_bringDown (x) (7 + 2 * (a).toNat) (73)).2) (7 + 2 * (b).toNat) (75)).2) := (kG_rf _)
              have eM9 : M = kM ((F_t_bringDown ((F_t_bringDown (x) (7 + 2 * (a).toNat) (73)).2) (7 + 2 * (b).toNat) (75)).2) := hkM.trans (kG_M kg9).symm
              have eW9 : wl = kWl ((F_t_bringDown ((F_t_bringDown (x) (7 + 2 * (a).toNat) (73)).2) (7 + 2 * (b).toNat) (75)).2) := hkW.trans (kG_W kg9).symm
              have eP9 := (kG_p kg9).1
              have eS9 := (kG_p kg9).2
              have kl1 := kle.1
              have kl2 := kle.2
              have hF2 : (F_t_like x a b).2 = (F_t_bringDown ((F_t_bringDown (x) (7 + 2 * (a).toNat) (73)).2) (7 + 2 * (b).toNat) (75)).2 := by
                have h9 := congrArg Prod.snd hres
                exact h9.symm
              refine W.widen (k := kPo x - kPo (F_t_like x a b).2) (n := kPs x - kPs (F_t_like x a b).2) (by rw [hF2]; omega) (by rw [hF2]; omega) ?_
              exact W.iret (v := iI ((0 : Int))) hx hb hr (fun t ht hW => ⟨⟨iI ((0 : Int)), ((F_t_bringDown ((F_t_bringDown (x) (7 + 2 * (a).toNat) (73)).2) (7 + 2 * (b).toNat) (75)).2, ad), rfl, ⟨(by have h9 := congrArg (fun z : Int × KS => iI z.1) hres; exact h9), (by have h9 := congrArg (fun z : Int × KS => z.2) hres; exact h9), had⟩, by rw [ht]; show va_P (dC, dI) vwCl (kWd cI cJ cZ cR (kWl ((F_t_bringDown ((F_t_bringDown (x) (7 + 2 * (a).toNat) (73)).2) (7 + 2 * (b).toNat) (75)).2)) ad (kM ((F_t_bringDown ((F_t_bringDown (x) (7 + 2 * (a).toNat) (73)).2) (7 + 2 * (b).toNat) (75)).2)) ((F_t_bringDown ((F_t_bringDown (x) (7 + 2 * (a).toNat) (73)).2) (7 + 2 * (b).toNat) (75)).2)) H; rw [← eM9, ← eW9]; exact hP, va_K.moved hW.alike hK, by show va_D A (kWd cI cJ cZ cR (kWl ((F_t_bringDown ((F_t_bringDown (x) (7 + 2 * (a).toNat) (73)).2) (7 + 2 * (b).toNat) (75)).2)) ad (kM ((F_t_bringDown ((F_t_bringDown (x) (7 + 2 * (a).toNat) (73)).2) (7 + 2 * (b).toNat) (75)).2)) ((F_t_bringDown ((F_t_bringDown (x) (7 + 2 * (a).toNat) (73)).2) (7 + 2 * (b).toNat) (75)).2)); rw [← eM9, ← eW9]; exact hD⟩, hS.F ht⟩) hS.2.2 dX11_like_79
            · skip
              rw [if_neg c_71] at hres
              refine lv_iconst (v := iI (1 : Int)) hx hb dX11_like_74 (by decide) ?_
              refine lv_goto (tgt := 79) hx hb dX11_like_75 (by decide) ?_
              have kg9 : kG ((F_t_bringDown ((F_t_bringDown (x) (7 + 2 * (a).toNat) (73)).2) (7 + 2 * (b).toNat) (75)).2) ((F_t_bringDown ((F_t_bringDown (x) (7 + 2 * (a).toNat) (73)).2) (7 + 2 * (b).toNat) (75)).2) := (kG_rf _)
              have eM9 : M = kM ((F_t_bringDown ((F_t_bringDown (x) (7 + 2 * (a).toNat) (73)).2) (7 + 2 * (b).toNat) (75)).2) := hkM.trans (kG_M kg9).symm
              have eW9 : wl = kWl ((F_t_bringDown ((F_t_bringDown (x) (7 + 2 * (a).toNat) (73)).2) (7 + 2 * (b).toNat) (75)).2) := hkW.trans (kG_W kg9).symm
              have eP9 := (kG_p kg9).1
              have eS9 := (kG_p kg9).2
              have kl1 := kle.1
              have kl2 := kle.2
              have hF2 : (F_t_like x a b).2 = (F_t_bringDown ((F_t_bringDown (x) (7 + 2 * (a).toNat) (73)).2) (7 + 2 * (b).toNat) (75)).2 := by
                have h9 := congrArg Prod.snd hres
                exact h9.symm
              refine W.widen (k := kPo x - kPo (F_t_like x a b).2) (n := kPs x - kPs (F_t_like x a b).2) (by rw [hF2]; omega) (by rw [hF2]; omega) ?_
              exact W.iret (v := iI ((1 : Int))) hx hb hr (fun t ht hW => ⟨⟨iI ((1 : Int)), ((F_t_bringDown ((F_t_bringDown (x) (7 + 2 * (a).toNat) (73)).2) (7 + 2 * (b).toNat) (75)).2, ad), rfl, ⟨(by have h9 := congrArg (fun z : Int × KS => iI z.1) hres; exact h9), (by have h9 := congrArg (fun z : Int × KS => z.2) hres; exact h9), had⟩, by rw [ht]; show va_P (dC, dI) vwCl (kWd cI cJ cZ cR (kWl ((F_t_bringDown ((F_t_bringDown (x) (7 + 2 * (a).toNat) (73)).2) (7 + 2 * (b).toNat) (75)).2)) ad (kM ((F_t_bringDown ((F_t_bringDown (x) (7 + 2 * (a).toNat) (73)).2) (7 + 2 * (b).toNat) (75)).2)) ((F_t_bringDown ((F_t_bringDown (x) (7 + 2 * (a).toNat) (73)).2) (7 + 2 * (b).toNat) (75)).2)) H; rw [← eM9, ← eW9]; exact hP, va_K.moved hW.alike hK, by show va_D A (kWd cI cJ cZ cR (kWl ((F_t_bringDown ((F_t_bringDown (x) (7 + 2 * (a).toNat) (73)).2) (7 + 2 * (b).toNat) (75)).2)) ad (kM ((F_t_bringDown ((F_t_bringDown (x) (7 + 2 * (a).toNat) (73)).2) (7 + 2 * (b).toNat) (75)).2)) ((F_t_bringDown ((F_t_bringDown (x) (7 + 2 * (a).toNat) (73)).2) (7 + 2 * (b).toNat) (75)).2)); rw [← eM9, ← eW9]; exact hD⟩, hS.F ht⟩) hS.2.2 dX11_like_79
          · skip
            rw [if_neg c_55] at hres
            refine lv_iload_n hx hb dX11_like_58 rfl (lv_at hl 0 rfl) ?_
            have kg9 : kG ((F_t_bringDown ((F_t_bringDown (x) (7 + 2 * (a).toNat) (73)).2) (7 + 2 * (b).toNat) (75)).2) ((F_t_bringDown ((F_t_bringDown (x) (7 + 2 * (a).toNat) (73)).2) (7 + 2 * (b).toNat) (75)).2) := (kG_rf _)
            have eM9 : M = kM ((F_t_bringDown ((F_t_bringDown (x) (7 + 2 * (a).toNat) (73)).2) (7 + 2 * (b).toNat) (75)).2) := hkM.trans (kG_M kg9).symm
            have eW9 : wl = kWl ((F_t_bringDown ((F_t_bringDown (x) (7 + 2 * (a).toNat) (73)).2) (7 + 2 * (b).toNat) (75)).2) := hkW.trans (kG_W kg9).symm
            have eP9 := (kG_p kg9).1
            have eS9 := (kG_p kg9).2
            have kl1 := kle.1
            have kl2 := kle.2
            have hF2 : (F_t_like x a b).2 = (F_t_bringDown ((F_t_bringDown (x) (7 + 2 * (a).toNat) (73)).2) (7 + 2 * (b).toNat) (75)).2 := by
              have h9 := congrArg Prod.snd hres
              exact h9.symm
            refine W.widen (k := kPo x - kPo (F_t_like x a b).2) (n := kPs x - kPs (F_t_like x a b).2) (by rw [hF2]; omega) (by rw [hF2]; omega) ?_
            exact W.iret (v := iI ((F_t_bringDown ((F_t_bringDown (x) (7 + 2 * (a).toNat) (73)).2) (7 + 2 * (b).toNat) (75)).1)) hx hb hr (fun t ht hW => ⟨⟨iI ((F_t_bringDown ((F_t_bringDown (x) (7 + 2 * (a).toNat) (73)).2) (7 + 2 * (b).toNat) (75)).1), ((F_t_bringDown ((F_t_bringDown (x) (7 + 2 * (a).toNat) (73)).2) (7 + 2 * (b).toNat) (75)).2, ad), rfl, ⟨(by have h9 := congrArg (fun z : Int × KS => iI z.1) hres; exact h9), (by have h9 := congrArg (fun z : Int × KS => z.2) hres; exact h9), had⟩, by rw [ht]; show va_P (dC, dI) vwCl (kWd cI cJ cZ cR (kWl ((F_t_bringDown ((F_t_bringDown (x) (7 + 2 * (a).toNat) (73)).2) (7 + 2 * (b).toNat) (75)).2)) ad (kM ((F_t_bringDown ((F_t_bringDown (x) (7 + 2 * (a).toNat) (73)).2) (7 + 2 * (b).toNat) (75)).2)) ((F_t_bringDown ((F_t_bringDown (x) (7 + 2 * (a).toNat) (73)).2) (7 + 2 * (b).toNat) (75)).2)) H; rw [← eM9, ← eW9]; exact hP, va_K.moved hW.alike hK, by show va_D A (kWd cI cJ cZ cR (kWl ((F_t_bringDown ((F_t_bringDown (x) (7 + 2 * (a).toNat) (73)).2) (7 + 2 * (b).toNat) (75)).2)) ad (kM ((F_t_bringDown ((F_t_bringDown (x) (7 + 2 * (a).toNat) (73)).2) (7 + 2 * (b).toNat) (75)).2)) ((F_t_bringDown ((F_t_bringDown (x) (7 + 2 * (a).toNat) (73)).2) (7 + 2 * (b).toNat) (75)).2)); rw [← eM9, ← eW9]; exact hD⟩, hS.F ht⟩) hS.2.2 dX11_like_59
        · skip
          rw [if_neg c_34] at hres
          refine lv_iload_n hx hb dX11_like_37 rfl (lv_at hl 0 rfl) ?_
          have kg9 : kG ((F_t_bringDown (x) (7 + 2 * (a).toNat) (73)).2) ((F_t_bringDown (x) (7 + 2 * (a).toNat) (73)).2) := (kG_rf _)
          have eM9 : M = kM ((F_t_bringDown (x) (7 + 2 * (a).toNat) (73)).2) := hkM.trans (kG_M kg9).symm
          have eW9 : wl = kWl ((F_t_bringDown (x) (7 + 2 * (a).toNat) (73)).2) := hkW.trans (kG_W kg9).symm
          have eP9 := (kG_p kg9).1
          have eS9 := (kG_p kg9).2
          have kl1 := kle.1
          have kl2 := kle.2
          have hF2 : (F_t_like x a b).2 = (F_t_bringDown (x) (7 + 2 * (a).toNat) (73)).2 := by
            have h9 := congrArg Prod.snd hres
            exact h9.symm
          refine W.widen (k := kPo x - kPo (F_t_like x a b).2) (n := kPs x - kPs (F_t_like x a b).2) (by rw [hF2]; omega) (by rw [hF2]; omega) ?_
          exact W.iret (v := iI ((F_t_bringDown (x) (7 + 2 * (a).toNat) (73)).1)) hx hb hr (fun t ht hW => ⟨⟨iI ((F_t_bringDown (x) (7 + 2 * (a).toNat) (73)).1), ((F_t_bringDown (x) (7 + 2 * (a).toNat) (73)).2, ad), rfl, ⟨(by have h9 := congrArg (fun z : Int × KS => iI z.1) hres; exact h9), (by have h9 := congrArg (fun z : Int × KS => z.2) hres; exact h9), had⟩, by rw [ht]; show va_P (dC, dI) vwCl (kWd cI cJ cZ cR (kWl ((F_t_bringDown (x) (7 + 2 * (a).toNat) (73)).2)) ad (kM ((F_t_bringDown (x) (7 + 2 * (a).toNat) (73)).2)) ((F_t_bringDown (x) (7 + 2 * (a).toNat) (73)).2)) H; rw [← eM9, ← eW9]; exact hP, va_K.moved hW.alike hK, by show va_D A (kWd cI cJ cZ cR (kWl ((F_t_bringDown (x) (7 + 2 * (a).toNat) (73)).2)) ad (kM ((F_t_bringDown (x) (7 + 2 * (a).toNat) (73)).2)) ((F_t_bringDown (x) (7 + 2 * (a).toNat) (73)).2)); rw [← eM9, ← eW9]; exact hD⟩, hS.F ht⟩) hS.2.2 dX11_like_38
      · skip
        rw [if_pos c_13] at hres
        refine lv_iconst (v := iI (-1 : Int)) hx hb dX11_like_16 (by decide) ?_
        have kg9 : kG (x) (x) := (kG_rf _)
        have eM9 : M = kM (x) := hkM.trans (kG_M kg9).symm
        have eW9 : wl = kWl (x) := hkW.trans (kG_W kg9).symm
        have eP9 := (kG_p kg9).1
        have eS9 := (kG_p kg9).2
        have kl1 := kle.1
        have kl2 := kle.2
        have hF2 : (F_t_like x a b).2 = x := by
          have h9 := congrArg Prod.snd hres
          exact h9.symm
        refine W.widen (k := kPo x - kPo (F_t_like x a b).2) (n := kPs x - kPs (F_t_like x a b).2) (by rw [hF2]; omega) (by rw [hF2]; omega) ?_
        exact W.iret (v := iI ((-1 : Int))) hx hb hr (fun t ht hW => ⟨⟨iI ((-1 : Int)), (x, ad), rfl, ⟨(by have h9 := congrArg (fun z : Int × KS => iI z.1) hres; exact h9), (by have h9 := congrArg (fun z : Int × KS => z.2) hres; exact h9), had⟩, by rw [ht]; show va_P (dC, dI) vwCl (kWd cI cJ cZ cR (kWl (x)) ad (kM (x)) (x)) H; rw [← eM9, ← eW9]; exact hP, va_K.moved hW.alike hK, by show va_D A (kWd cI cJ cZ cR (kWl (x)) ad (kM (x)) (x)); rw [← eM9, ← eW9]; exact hD⟩, hS.F ht⟩) hS.2.2 dX11_like_17
  exact key M wl ao _ _ ls hM hkM hkW (fun _ _ => rfl) hP hD hS hl
theorem F_t_like_fr (x : KS) (a : Int) (b : Int) : gfr [(70, 4), (70, 5), (64, 8), (73, 1), (75, 1)] [71, 72, 74, 57, 76] x (F_t_like x a b).2 := by
  unfold F_t_like
  by_cases hc : ((F_t_isSlot (x) (a)).1) = (0)
  · rw [if_pos hc]
    exact (gm_rf _ _ _)
  · rw [if_neg hc]
    by_cases hc : ((F_t_isSlot (x) (b)).1) = (0)
    · rw [if_pos hc]
      exact (gm_rf _ _ _)
    · rw [if_neg hc]
      by_cases hc : (0) ≤ ((F_t_bringDown (x) (7 + 2 * (a).toNat) (73)).1)
      · rw [if_pos hc]
        by_cases hc : (0) ≤ ((F_t_bringDown ((F_t_bringDown (x) (7 + 2 * (a).toNat) (73)).2) (7 + 2 * (b).toNat) (75)).1)
        · rw [if_pos hc]
          by_cases hc : ((F_w_isSame ((F_t_bringDown ((F_t_bringDown (x) (7 + 2 * (a).toNat) (73)).2) (7 + 2 * (b).toNat) (75)).2) (73) (75)).1) = (0)
          · rw [if_pos hc]
            exact (gm_tr (gm_tr (gm_rf _ _ _) (gm_mono (km1 (List.Mem.head _) (km1 (List.Mem.tail _ (List.Mem.head _)) (km1 (List.Mem.tail _ (List.Mem.tail _ (List.Mem.head _))) (km1 (List.Mem.tail _ (List.Mem.tail _ (List.Mem.tail _ (List.Mem.head _)))) km0)))) (km1 (List.Mem.head _) (km1 (List.Mem.tail _ (List.Mem.head _)) (km1 (List.Mem.tail _ (List.Mem.tail _ (List.Mem.head _))) (km1 (List.Mem.tail _ (List.Mem.tail _ (List.Mem.tail _ (List.Mem.head _)))) km0)))) (F_t_bringDown_fr (x) (7 + 2 * (a).toNat) (73)))) (gm_mono (km1 (List.Mem.head _) (km1 (List.Mem.tail _ (List.Mem.head _)) (km1 (List.Mem.tail _ (List.Mem.tail _ (List.Mem.head _))) (km1 (List.Mem.tail _ (List.Mem.tail _ (List.Mem.tail _ (List.Mem.tail _ (List.Mem.head _))))) km0)))) (km1 (List.Mem.head _) (km1 (List.Mem.tail _ (List.Mem.head _)) (km1 (List.Mem.tail _ (List.Mem.tail _ (List.Mem.tail _ (List.Mem.tail _ (List.Mem.head _))))) (km1 (List.Mem.tail _ (List.Mem.tail _ (List.Mem.tail _ (List.Mem.head _)))) km0)))) (F_t_bringDown_fr ((F_t_bringDown (x) (7 + 2 * (a).toNat) (73)).2) (7 + 2 * (b).toNat) (75))))
          · rw [if_neg hc]
            exact (gm_tr (gm_tr (gm_rf _ _ _) (gm_mono (km1 (List.Mem.head _) (km1 (List.Mem.tail _ (List.Mem.head _)) (km1 (List.Mem.tail _ (List.Mem.tail _ (List.Mem.head _))) (km1 (List.Mem.tail _ (List.Mem.tail _ (List.Mem.tail _ (List.Mem.head _)))) km0)))) (km1 (List.Mem.head _) (km1 (List.Mem.tail _ (List.Mem.head _)) (km1 (List.Mem.tail _ (List.Mem.tail _ (List.Mem.head _))) (km1 (List.Mem.tail _ (List.Mem.tail _ (List.Mem.tail _ (List.Mem.head _)))) km0)))) (F_t_bringDown_fr (x) (7 + 2 * (a).toNat) (73)))) (gm_mono (km1 (List.Mem.head _) (km1 (List.Mem.tail _ (List.Mem.head _)) (km1 (List.Mem.tail _ (List.Mem.tail _ (List.Mem.head _))) (km1 (List.Mem.tail _ (List.Mem.tail _ (List.Mem.tail _ (List.Mem.tail _ (List.Mem.head _))))) km0)))) (km1 (List.Mem.head _) (km1 (List.Mem.tail _ (List.Mem.head _)) (km1 (List.Mem.tail _ (List.Mem.tail _ (List.Mem.tail _ (List.Mem.tail _ (List.Mem.head _))))) (km1 (List.Mem.tail _ (List.Mem.tail _ (List.Mem.tail _ (List.Mem.head _)))) km0)))) (F_t_bringDown_fr ((F_t_bringDown (x) (7 + 2 * (a).toNat) (73)).2) (7 + 2 * (b).toNat) (75))))
        · rw [if_neg hc]
          exact (gm_tr (gm_tr (gm_rf _ _ _) (gm_mono (km1 (List.Mem.head _) (km1 (List.Mem.tail _ (List.Mem.head _)) (km1 (List.Mem.tail _ (List.Mem.tail _ (List.Mem.head _))) (km1 (List.Mem.tail _ (List.Mem.tail _ (List.Mem.tail _ (List.Mem.head _)))) km0)))) (km1 (List.Mem.head _) (km1 (List.Mem.tail _ (List.Mem.head _)) (km1 (List.Mem.tail _ (List.Mem.tail _ (List.Mem.head _))) (km1 (List.Mem.tail _ (List.Mem.tail _ (List.Mem.tail _ (List.Mem.head _)))) km0)))) (F_t_bringDown_fr (x) (7 + 2 * (a).toNat) (73)))) (gm_mono (km1 (List.Mem.head _) (km1 (List.Mem.tail _ (List.Mem.head _)) (km1 (List.Mem.tail _ (List.Mem.tail _ (List.Mem.head _))) (km1 (List.Mem.tail _ (List.Mem.tail _ (List.Mem.tail _ (List.Mem.tail _ (List.Mem.head _))))) km0)))) (km1 (List.Mem.head _) (km1 (List.Mem.tail _ (List.Mem.head _)) (km1 (List.Mem.tail _ (List.Mem.tail _ (List.Mem.tail _ (List.Mem.tail _ (List.Mem.head _))))) (km1 (List.Mem.tail _ (List.Mem.tail _ (List.Mem.tail _ (List.Mem.head _)))) km0)))) (F_t_bringDown_fr ((F_t_bringDown (x) (7 + 2 * (a).toNat) (73)).2) (7 + 2 * (b).toNat) (75))))
      · rw [if_neg hc]
        exact (gm_tr (gm_rf _ _ _) (gm_mono (km1 (List.Mem.head _) (km1 (List.Mem.tail _ (List.Mem.head _)) (km1 (List.Mem.tail _ (List.Mem.tail _ (List.Mem.head _))) (km1 (List.Mem.tail _ (List.Mem.tail _ (List.Mem.tail _ (List.Mem.head _)))) km0)))) (km1 (List.Mem.head _) (km1 (List.Mem.tail _ (List.Mem.head _)) (km1 (List.Mem.tail _ (List.Mem.tail _ (List.Mem.head _))) (km1 (List.Mem.tail _ (List.Mem.tail _ (List.Mem.tail _ (List.Mem.head _)))) km0)))) (F_t_bringDown_fr (x) (7 + 2 * (a).toNat) (73))))
def F_t_rank (x : KS) (a : Int) : Int × KS := (if ((F_t_isSlot (x) (a)).1) = (0) then ((-1 : Int), x) else (if ((F_t_isProved (x)).1) = (0) then ((-3 : Int), x) else (if ((F_r_run (x) (7 + 2 * (a).toNat) (73)).1) = (0) then ((-4 : Int), (F_r_run (x) (7 + 2 * (a).toNat) (73)).2) else (if (((F_r_run (x) (7 + 2 * (a).toNat) (73)).2).1 (73) 1) ≤ ((30 : Int)) then ((F_a_numberOf ((F_r_run (x) (7 + 2 * (a).toNat) (73)).2) (73)).1, (F_a_numberOf ((F_r_run (x) (7 + 2 * (a).toNat) (73)).2) (73)).2) else ((-4 : Int), (F_r_run (x) (7 + 2 * (a).toNat) (73)).2)))))
theorem F_t_rank_le  (x : KS) (a : Int) : kLe x (F_t_rank x a).2 := by
  unfold F_t_rank
  by_cases hc9 : ((F_t_isSlot (x) (a)).1) = (0)
  · rw [if_pos hc9]
    exact (kLe_rf _)
  · rw [if_neg hc9]
    by_cases hc9 : ((F_t_isProved (x)).1) = (0)
    · rw [if_pos hc9]
      exact (kLe_rf _)
    · rw [if_neg hc9]
      by_cases hc9 : ((F_r_run (x) (7 + 2 * (a).toNat) (73)).1) = (0)
      · rw [if_pos hc9]
        exact (kLe_tr (kLe_rf _) (F_r_run_le rfl (by omega) (x) (7 + 2 * (a).toNat)))
      · rw [if_neg hc9]
        by_cases hc9 : (((F_r_run (x) (7 + 2 * (a).toNat) (73)).2).1 (73) 1) ≤ ((30 : Int))
        · rw [if_pos hc9]
          exact (kLe_tr (kLe_tr (kLe_rf _) (F_r_run_le rfl (by omega) (x) (7 + 2 * (a).toNat))) (kLe_G (kG_of (F_a_numberOf_fr ((F_r_run (x) (7 + 2 * (a).toNat) (73)).2) (73)) (by first | decide | (intro h9; simp at h9; done) | (intro h9; simp at h9; omega)) (by first | decide | (intro h9; simp at h9; done) | (intro h9; simp at h9; omega)))))
        · rw [if_neg hc9]
          exact (kLe_tr (kLe_rf _) (F_r_run_le rfl (by omega) (x) (7 + 2 * (a).toNat)))
set_option maxHeartbeats 4000000 in
set_option maxRecDepth 100000 in
/-- LikeWords, rank -/
theorem c_t_rank (l : Launch) (dC : Nat → ClassId) (dI : Nat → Nat → Nat) (ao : Nat → Nat) (cI cJ cZ cR : ClassId) (M wl sz : Nat) (x : KS) (a : Int) (hM : 87 ≤ M) (hkM : M = kM x) (hkW : wl = kWl x) (ra : iR a) (bp : bdP x) (su : ∀ j : Int, 0 ≤ j → j < 8 → wG x (7 + 2 * j.toNat)) (r3 : r03 (x.2 74)) : Met l yX11_rank wsX11_rank ({ frames := 5, cells := kPo x - kPo (F_t_rank x a).2, slots := kPs x - kPs (F_t_rank x a).2, locals := 132 }) (kPc dC dI ao cI cJ cZ cR M wl sz x [.ref (ao 0), .int (iI a)]) (va_Ql (fun (r : Int64) (u : KS × (Nat → Nat)) => r = iL (F_t_rank x a).1 ∧ u.1 = (F_t_rank x a).2 ∧ (∀ c, c < 87 → u.2 c = ao c)) (fun u t => kAt dC dI u.2 cI cJ cZ cR (kM u.1) (kWl u.1) (va_A (kWd cI cJ cZ cR wl ao M x) sz) u.1 t) (va_A (kWd cI cJ cZ cR wl ao M x) sz)) (kPo x - kPo (F_t_rank x a).2) (kPs x - kPs (F_t_rank x a).2) (va_A (kWd cI cJ cZ cR wl ao M x) sz) := by
  refine Met.ofW (cc := cX11_rank) (maxL := 2) (ret := (some .long)) (by decide) rfl ?_
  intro p e s m args below meth c s₁ B hml hv
  obtain ⟨rfl, hsz, hP, hK, hD0, hNw⟩ := hv
  have hx := B.exec
  have hb := B.bytes
  have hr := B.returns
  have hts := atoms_spec (ws := wsX11_rank) B.pre
  have hown : s.vm.findClass RX11 = some m.cls := findClass_of_methodNamed B.named
  have hlocks := B.notSynchronized
  have hinX10 : ∀ w ∈ u_ws RX10 TX10 2, w ∈ wsX11_rank := by decide +kernel
  have hinX11 : ∀ w ∈ u_ws RX11 TX11 17, w ∈ wsX11_rank := by decide +kernel
  subst hsz
  have hD := hD0.self (sz := s.heap.size)
  generalize hAe : va_A (kWd cI cJ cZ cR wl ao M x) s.heap.size = A at hD ⊢
  have hA : ∀ q : Nat, s.heap.size ≤ q → A q := fun q h => by rw [← hAe]; exact Or.inr h
  have hS : va_S A s.heap s.heap [] := va_S.rf
  have hl := lv_entry ([.ref (ao 0), .int (iI a)]) (n := 2) (Nat.le_of_ble_eq_true rfl)
  rw [lg_entry_eq]
  generalize (lg_sl ([.ref (ao 0), .int (iI a)]) ++ List.replicate (2 - (lg_sl ([.ref (ao 0), .int (iI a)])).length) Slot.unset).toArray = ls at hl ⊢
  have hl : lv_has ls 2 [(0, .ref (ao (0))), (1, .int (iI (a)))] := hl
  have key : ∀ (M wl : Nat) (ad : Nat → Nat) (H : Heap) (locs : List Loc) (ls : Array Slot), 87 ≤ M → M = kM x → wl = kWl x → (∀ c, c < 87 → ad c = ao c) → va_P (dC, dI) vwCl (kWd cI cJ cZ cR wl ad M (x)) H → va_D A (kWd cI cJ cZ cR wl ad M (x)) → va_S A s.heap H locs → lv_has ls 2 [(0, .ref (ad (0))), (1, .int (iI (a)))] → W p l e (headSpec wsX11_rank ({ frames := 5, cells := kPo x - kPo (F_t_rank x a).2, slots := kPs x - kPs (F_t_rank x a).2, locals := 132 })).room s m ([.ref (ao 0), .int (iI a)] : List Value).toArray below meth c H locs 0 0 (MQ below (va_Ql (fun (r : Int64) (u : KS × (Nat → Nat)) => r = iL (F_t_rank x a).1 ∧ u.1 = (F_t_rank x a).2 ∧ (∀ c, c < 87 → u.2 c = ao c)) (fun u t => kAt dC dI u.2 cI cJ cZ cR (kM u.1) (kWl u.1) (A) u.1 t) (A)) ([.ref (ao 0), .int (iI a)] : List Value).toArray s (kPo x - kPo (F_t_rank x a).2) (kPs x - kPs (F_t_rank x a).2) A) (F0 m 0 ls []) := by
    intro M wl ad H locs ls hM hkM hkW had hP hD hS hl
    have kle : kLe x x := kLe_rf x
    have kf9 := F_t_rank_le  x a
    have kf1 := kf9.1
    have kf2 := kf9.2
    have hres : (if ((F_t_isSlot (x) (a)).1) = (0) then ((-1 : Int), x) else (if ((F_t_isProved (x)).1) = (0) then ((-3 : Int), x) else (if ((F_r_run (x) (7 + 2 * (a).toNat) (73)).1) = (0) then ((-4 : Int), (F_r_run (x) (7 + 2 * (a).toNat) (73)).2) else (if (((F_r_run (x) (7 + 2 * (a).toNat) (73)).2).1 (73) 1) ≤ ((30 : Int)) then ((F_a_numberOf ((F_r_run (x) (7 + 2 * (a).toNat) (73)).2) (73)).1, (F_a_numberOf ((F_r_run (x) (7 + 2 * (a).toNat) (73)).2) (73)).2) else ((-4 : Int), (F_r_run (x) (7 + 2 * (a).toNat) (73)).2))))) = F_t_rank x a := rfl
    refine lv_aload_n hx hb dX11_rank_0 rfl (lv_at hl 0 rfl) ?_
    refine lv_iload_n hx hb dX11_rank_1 rfl (lv_at hl 1 rfl) ?_
    have hFc : ∀ q, va_A (kWd cI cJ cZ cR wl ad M (x)) H.size q → A q := fun q hq => Or.elim hq (fun ⟨k, e, hk⟩ => hD.2 k (q, e) hk) (fun hk => hA q (Nat.le_trans hS.1 hk))
    refine va_calli (va_runV (b := ad (0)) (As := [.int (iI (a))]) (rest := []) ⟨hx, hb, hml, hown, hts⟩ (c_t_isSlot l dC dI ad cI cJ cZ cR M wl H.size (x)  (a) hM ra) (cwV 1 hts gX11_rank_X11_isSlot rfl rfl rfl (by decide +kernel) ⟨Nat.le_of_ble_eq_true rfl, Nat.le_of_ble_eq_true rfl⟩) ⟨fun a U g mk q => by obtain ⟨q0, q1, qP, qK, qD, qN⟩ := q; exact ⟨q0, q1, qP, va_K.moved (u := U) (U := U.calling g mk a) (Vm.Alike.refl U.vm) qK, qD, kNw.same (u := U) (U := U.calling g mk a) rfl qN⟩, va_recv hK hP (ci := 11) (q0 := 0) rfl (kg0 (by omega)), fun U hU hW => ⟨rfl, by rw [hU], by rw [hU]; exact hP, va_K.moved hW.alike hK, hD.weaken (fun _ _ _ _ => trivial), kNw.warm hW hNw⟩⟩ rfl rfl hl.1 rfl (lv_room (Nat.le_of_ble_eq_true rfl)) dX11_rank_2 ⟨(show _ ≤ kPo x - kPo (F_t_rank x a).2 by omega), (show _ ≤ kPs x - kPs (F_t_rank x a).2 by omega)⟩) hS (fun q _ h => hFc q h) hFc (fun r9 u9 t H1 locs ht hvm hw hB hz1 hk1 hS => ?_)
    obtain ⟨hP1, hK1, hD1⟩ := hB
    rw [ht] at hP1
    obtain ⟨hw1, hw2⟩ := hw
    rw [hw2] at hP1 hD1
    rw [hw1]
    rw [F_t_isSlot_2] at hP1 hD1
    have hD2 := hD1.weaken (B := A) (fun _ q _ h => hFc q.1 h)
    have hP := hP1
    have hD := hD2
    generalize H1 = H at hP hS ⊢
    refine wi_if_ne (tgt := 12) hx hb (kR01 (F_t_isSlot_01 _ _)) dX11_rank_5 (by decide) (fun c_5 => ?_) (fun c_5 => ?_)
    · skip
      rw [if_neg c_5] at hres
      obtain ⟨a0, a1⟩ := F_t_isSlot_1 c_5
      refine lv_aload_n hx hb dX11_rank_12 rfl (lv_at hl 0 rfl) ?_
      have hFc : ∀ q, va_A (kWd cI cJ cZ cR wl ad M (x)) H.size q → A q := fun q hq => Or.elim hq (fun ⟨k, e, hk⟩ => hD.2 k (q, e) hk) (fun hk => hA q (Nat.le_trans hS.1 hk))
      refine va_calli (va_runV (b := ad (0)) (As := []) (rest := []) ⟨hx, hb, hml, hown, hts⟩ (c_t_isProved l dC dI ad cI cJ cZ cR M wl H.size (x)   hM bp.1.1 bp.1.2 bp.2.1) (cwV 0 hts gX11_rank_X11_isProved rfl rfl rfl (by decide +kernel) ⟨Nat.le_of_ble_eq_true rfl, Nat.le_of_ble_eq_true rfl⟩) ⟨fun a U g mk q => by obtain ⟨q0, q1, qP, qK, qD, qN⟩ := q; exact ⟨q0, q1, qP, va_K.moved (u := U) (U := U.calling g mk a) (Vm.Alike.refl U.vm) qK, qD, kNw.same (u := U) (U := U.calling g mk a) rfl qN⟩, va_recv hK hP (ci := 11) (q0 := 0) rfl (kg0 (by omega)), fun U hU hW => ⟨rfl, by rw [hU], by rw [hU]; exact hP, va_K.moved hW.alike hK, hD.weaken (fun _ _ _ _ => trivial), kNw.warm hW hNw⟩⟩ rfl rfl hl.1 rfl (lv_room (Nat.le_of_ble_eq_true rfl)) dX11_rank_13 ⟨(show _ ≤ kPo x - kPo (F_t_rank x a).2 by omega), (show _ ≤ kPs x - kPs (F_t_rank x a).2 by omega)⟩) hS (fun q _ h => hFc q h) hFc (fun r9 u9 t H1 locs ht hvm hw hB hz1 hk1 hS => ?_)
      obtain ⟨hP1, hK1, hD1⟩ := hB
      rw [ht] at hP1
      obtain ⟨hw1, hw2⟩ := hw
      rw [hw2] at hP1 hD1
      rw [hw1]
      rw [F_t_isProved_2] at hP1 hD1
      have hD2 := hD1.weaken (B := A) (fun _ q _ h => hFc q.1 h)
      have hP := hP1
      have hD := hD2
      generalize H1 = H at hP hS ⊢
      refine wi_if_ne (tgt := 23) hx hb (kR01 (F_t_isProved_01 _)) dX11_rank_16 (by decide) (fun c_16 => ?_) (fun c_16 => ?_)
      · skip
        rw [if_neg c_16] at hres
        refine lv_aload_n hx hb dX11_rank_23 rfl (lv_at hl 0 rfl) ?_
        refine va_get (D := (dC, dI)) (ci := 11) (v := .ref (ad (70))) (C := RX11) (T := TX11) (N := 17) hx hb hts hinX11 hown hK hP (0) (kg0 (by omega)) rfl 7 (by decide) (hts (.fieldLink RX11 62 "LikeWords" "rewriter" "LLikeWords$Rewriter;") (by decide +kernel)) (fun _ h9 => h9) rfl dX11_rank_24 ?_
        refine lv_aload_n hx hb dX11_rank_27 rfl (lv_at hl 0 rfl) ?_
        refine va_get (D := (dC, dI)) (ci := 11) (v := .ref (ad (6))) (C := RX11) (T := TX11) (N := 17) hx hb hts hinX11 hown hK hP (0) (kg0 (by omega)) rfl 2 (by decide) (hts (.fieldLink RX11 25 "LikeWords" "slots" "[LLikeWords$Word;") (by decide +kernel)) (fun _ h9 => h9) rfl dX11_rank_28 ?_
        refine lv_iload_n hx hb dX11_rank_31 rfl (lv_at hl 1 rfl) ?_
        refine va_aldq (C := "LikeWords$Word") (n := 8) (f := fun j => some (ad (7 + 2 * j))) hx hb hK hP 6 3 (kget (by omega)) rfl (iI_in (z := a) (by omega) (by omega) (by decide)) dX11_rank_32 ?_
        rw [iI_clamp ⟨by omega, by omega⟩]
        refine W.eq (g2 := F0 m 33 ls [.ref (ad (7 + 2 * (a).toNat)), .ref (ad (70))]) rfl ?_
        refine lv_aload_n hx hb dX11_rank_33 rfl (lv_at hl 0 rfl) ?_
        refine va_get (D := (dC, dI)) (ci := 11) (v := .ref (ad (73))) (C := RX11) (T := TX11) (N := 17) hx hb hts hinX11 hown hK hP (0) (kg0 (by omega)) rfl 11 (by decide) (hts (.fieldLink RX11 66 "LikeWords" "first" "LLikeWords$Word;") (by decide +kernel)) (fun _ h9 => h9) rfl dX11_rank_34 ?_
        have ok9 : rOK x := bp.2.2.2.2.1 (F_t_isProved_1 bp.2.1 c_16)
        have kg9 : kG (x) (x) := (kG_rf _)
        have eM9 : M = kM (x) := hkM.trans (kG_M kg9).symm
        have eW9 : wl = kWl (x) := hkW.trans (kG_W kg9).symm
        have eP9 := (kG_p kg9).1
        have eS9 := (kG_p kg9).2
        have kl1 := kle.1
        have kl2 := kle.2
        have kfn : kLe (F_r_run (x) (7 + 2 * (a).toNat) (73)).2 (F_t_rank x a).2 := by
          rw [← hres]
          by_cases hc9 : ((F_r_run (x) (7 + 2 * (a).toNat) (73)).1) = (0)
          · rw [if_pos hc9]
            exact (kLe_rf _)
          · rw [if_neg hc9]
            by_cases hc9 : (((F_r_run (x) (7 + 2 * (a).toNat) (73)).2).1 (73) 1) ≤ ((30 : Int))
            · rw [if_pos hc9]
              exact (kLe_tr (kLe_rf _) (kLe_G (kG_of (F_a_numberOf_fr ((F_r_run (x) (7 + 2 * (a).toNat) (73)).2) (73)) (by first | decide | (intro h9; simp at h9; done) | (intro h9; simp at h9; omega)) (by first | decide | (intro h9; simp at h9; done) | (intro h9; simp at h9; omega)))))
            · rw [if_neg hc9]
              exact (kLe_rf _)
        have kf1 := kfn.1
        have kf2 := kfn.2
        have kd9 : kLe (x) (F_r_run (x) (7 + 2 * (a).toNat) (73)).2 := (F_r_run_le rfl (by omega) (x) (7 + 2 * (a).toNat))
        have kd1 := kd9.1
        have kd2 := kd9.2
        have hFc : ∀ q, va_A (kWd cI cJ cZ cR wl ad M (x)) H.size q → A q := fun q hq => Or.elim hq (fun ⟨k, e, hk⟩ => hD.2 k (q, e) hk) (fun hk => hA q (Nat.le_trans hS.1 hk))
        refine va_calli (va_runV (b := ad (70)) (As := [.ref (ad (7 + 2 * (a).toNat)), .ref (ad (73))]) (rest := []) ⟨hx, hb, hml, hown, hts⟩ (c_r_run l dC dI ad cI cJ cZ cR M wl H.size (x) (7 + 2 * (a).toNat) (73)  hM (kW_slot (by omega) (by omega)) (by omega) rfl (by omega) eM9 eW9 ok9 (su a a0 a1) (kL_slot a0 a1) rfl r3) (cwV 2 hts gX11_rank_X6_run rfl rfl rfl (by decide +kernel) ⟨Nat.le_of_ble_eq_true rfl, Nat.le_of_ble_eq_true rfl⟩) ⟨fun a U g mk q => by obtain ⟨q0, q1, qP, qK, qD, qN⟩ := q; exact ⟨q0, q1, qP, va_K.moved (u := U) (U := U.calling g mk a) (Vm.Alike.refl U.vm) qK, qD, kNw.same (u := U) (U := U.calling g mk a) rfl qN⟩, va_recv hK hP (ci := 6) (q0 := 70) rfl (kg70 (by omega)), fun U hU hW => ⟨rfl, by rw [hU], by rw [hU]; exact hP, va_K.moved hW.alike hK, hD.weaken (fun _ _ _ _ => trivial), kNw.warm hW hNw⟩⟩ rfl rfl hl.1 rfl (lv_room (Nat.le_of_ble_eq_true rfl)) dX11_rank_37 ⟨(show _ ≤ kPo x - kPo (F_t_rank x a).2 by omega), (show _ ≤ kPs x - kPs (F_t_rank x a).2 by omega)⟩) hS (fun q _ h => hFc q h) hFc (fun r9 u9 t H1 locs ht hvm hw hB hz1 hk1 hS => ?_)
        obtain ⟨hP1, hK1, hD1⟩ := hB
        rw [ht] at hP1
        obtain ⟨z9, ad⟩ := u9
        obtain ⟨hw1, hw2, hw3⟩ := hw
        rw [hw1]
        have hw2 : z9 = (F_r_run (x) (7 + 2 * (a).toNat) (73)).2 := hw2
        subst hw2
        have hw3 := fun c (hc : c < 87) => (show ad c = _ from hw3 c hc)
        have had : ∀ c, c < 87 → ad c = ao c := fun c hc => (hw3 c hc).trans (had c hc)
        have hl : lv_has ls 2 [(0, .ref (ad (0))), (1, .int (iI (a)))] := by
          rw [hw3 (0) (by omega)]
          exact hl
        have hP1 : va_P (dC, dI) vwCl (kWd cI cJ cZ cR (kWl (F_r_run (x) (7 + 2 * (a).toNat) (73)).2) ad (kM (F_r_run (x) (7 + 2 * (a).toNat) (73)).2) (F_r_run (x) (7 + 2 * (a).toNat) (73)).2) H1 := hP1
        have hD1 : va_D A (kWd cI cJ cZ cR (kWl (F_r_run (x) (7 + 2 * (a).toNat) (73)).2) ad (kM (F_r_run (x) (7 + 2 * (a).toNat) (73)).2) (F_r_run (x) (7 + 2 * (a).toNat) (73)).2) := hD1.weaken (B := A) (fun _ q _ h => hFc q.1 h)
        have kle : kLe x (F_r_run (x) (7 + 2 * (a).toNat) (73)).2 := ⟨by omega, by omega⟩
        refine W.widen (k := kPo x - kPo (F_r_run (x) (7 + 2 * (a).toNat) (73)).2) (n := kPs x - kPs (F_r_run (x) (7 + 2 * (a).toNat) (73)).2) (by omega) (by omega) ?_
        obtain ⟨M, hkM⟩ : ∃ M9, M9 = kM (F_r_run (x) (7 + 2 * (a).toNat) (73)).2 := ⟨_, rfl⟩
        obtain ⟨wl, hkW⟩ : ∃ W9, W9 = kWl (F_r_run (x) (7 + 2 * (a).toNat) (73)).2 := ⟨_, rfl⟩
        rw [← hkM, ← hkW] at hP1 hD1
        have hM : 87 ≤ M := by rw [hkM]; exact kM_ge _
        have hP := hP1
        have hD := hD1
        generalize H1 = H at hP hS ⊢
        have rg := run_G ok9 (w1 := 7 + 2 * (a).toNat) (w2 := 73) (kW_slot a0 a1) rfl rfl (by decide) (su a a0 a1) r3
        have u9 := rg.2.1.1
        refine wi_if_eq (tgt := 55) hx hb (kR01 (Or.inr rg.2.2.2)) dX11_rank_40 (by decide) (fun c_40 => ?_) (fun c_40 => ?_)
        · skip
          rw [if_pos c_40] at hres
          refine lv_ldc2 (v := iL (-4 : Int)) hx hb hown (hts (.constantLong RX11 226 (-4)) (by decide +kernel)) dX11_rank_55 ?_
          have kg9 : kG ((F_r_run (x) (7 + 2 * (a).toNat) (73)).2) ((F_r_run (x) (7 + 2 * (a).toNat) (73)).2) := (kG_rf _)
          have eM9 : M = kM ((F_r_run (x) (7 + 2 * (a).toNat) (73)).2) := hkM.trans (kG_M kg9).symm
          have eW9 : wl = kWl ((F_r_run (x) (7 + 2 * (a).toNat) (73)).2) := hkW.trans (kG_W kg9).symm
          have eP9 := (kG_p kg9).1
          have eS9 := (kG_p kg9).2
          have kl1 := kle.1
          have kl2 := kle.2
          have hF2 : (F_t_rank x a).2 = (F_r_run (x) (7 + 2 * (a).toNat) (73)).2 := by
            have h9 := congrArg Prod.snd hres
            exact h9.symm
          refine W.widen (k := kPo x - kPo (F_t_rank x a).2) (n := kPs x - kPs (F_t_rank x a).2) (by rw [hF2]; omega) (by rw [hF2]; omega) ?_
          exact W.lret (v := iL ((-4 : Int))) hx hb hr (fun t ht hW => ⟨⟨iL ((-4 : Int)), ((F_r_run (x) (7 + 2 * (a).toNat) (73)).2, ad), rfl, ⟨(by have h9 := congrArg (fun z : Int × KS => iL z.1) hres; exact h9), (by have h9 := congrArg (fun z : Int × KS => z.2) hres; exact h9), had⟩, by rw [ht]; show va_P (dC, dI) vwCl (kWd cI cJ cZ cR (kWl ((F_r_run (x) (7 + 2 * (a).toNat) (73)).2)) ad (kM ((F_r_run (x) (7 + 2 * (a).toNat) (73)).2)) ((F_r_run (x) (7 + 2 * (a).toNat) (73)).2)) H; rw [← eM9, ← eW9]; exact hP, va_K.moved hW.alike hK, by show va_D A (kWd cI cJ cZ cR (kWl ((F_r_run (x) (7 + 2 * (a).toNat) (73)).2)) ad (kM ((F_r_run (x) (7 + 2 * (a).toNat) (73)).2)) ((F_r_run (x) (7 + 2 * (a).toNat) (73)).2)); rw [← eM9, ← eW9]; exact hD⟩, hS.F ht⟩) hS.2.2 dX11_rank_58
        · skip
          rw [if_neg c_40] at hres
          refine lv_aload_n hx hb dX11_rank_43 rfl (lv_at hl 0 rfl) ?_
          refine va_get (D := (dC, dI)) (ci := 11) (v := .ref (ad (73))) (C := RX11) (T := TX11) (N := 17) hx hb hts hinX11 hown hK hP (0) (kg0 (by omega)) rfl 11 (by decide) (hts (.fieldLink RX11 66 "LikeWords" "first" "LLikeWords$Word;") (by decide +kernel)) (fun _ h9 => h9) rfl dX11_rank_44 ?_
          refine va_get (D := (dC, dI)) (ci := 10) (v := .int (iI (((F_r_run (x) (7 + 2 * (a).toNat) (73)).2).1 (73) 1))) (C := RX10) (T := TX10) (N := 2) hx hb hts hinX10 hown hK hP (73) (kgw rfl (by omega)) rfl 1 (by decide) (hts (.fieldLink RX11 123 "LikeWords$Word" "used" "I") (by decide +kernel)) (fun _ h9 => h9) rfl dX11_rank_47 ?_
          refine lv_bipush (v := iI (30 : Int)) hx hb dX11_rank_50 (by decide) ?_
          refine wi_icmp_le (tgt := 59) hx hb (by unfold iR; omega) (by unfold iR; omega) dX11_rank_52 (by decide) (fun c_52 => ?_) (fun c_52 => ?_)
          · skip
            rw [if_pos c_52] at hres
            refine lv_aload_n hx hb dX11_rank_59 rfl (lv_at hl 0 rfl) ?_
            refine va_get (D := (dC, dI)) (ci := 11) (v := .ref (ad (64))) (C := RX11) (T := TX11) (N := 17) hx hb hts hinX11 hown hK hP (0) (kg0 (by omega)) rfl 6 (by decide) (hts (.fieldLink RX11 53 "LikeWords" "machine" "LLikeWords$Machine;") (by decide +kernel)) (fun _ h9 => h9) rfl dX11_rank_60 ?_
            refine lv_aload_n hx hb dX11_rank_63 rfl (lv_at hl 0 rfl) ?_
            refine va_get (D := (dC, dI)) (ci := 11) (v := .ref (ad (73))) (C := RX11) (T := TX11) (N := 17) hx hb hts hinX11 hown hK hP (0) (kg0 (by omega)) rfl 11 (by decide) (hts (.fieldLink RX11 66 "LikeWords" "first" "LLikeWords$Word;") (by decide +kernel)) (fun _ h9 => h9) rfl dX11_rank_64 ?_
            have hFc : ∀ q, va_A (kWd cI cJ cZ cR wl ad M ((F_r_run (x) (7 + 2 * (a).toNat) (73)).2)) H.size q → A q := fun q hq => Or.elim hq (fun ⟨k, e, hk⟩ => hD.2 k (q, e) hk) (fun hk => hA q (Nat.le_trans hS.1 hk))
            refine va_calll (va_runV (b := ad (64)) (As := [.ref (ad (73))]) (rest := []) ⟨hx, hb, hml, hown, hts⟩ (c_a_numberOf l dC dI ad cI cJ cZ cR M wl H.size ((F_r_run (x) (7 + 2 * (a).toNat) (73)).2) (73)  hM rfl (by omega) rg.1.1.2.2.2.2.1 rg.1.1.1.1.1 rg.2.1.1.1 (by show _ ≤ ((60 : Nat) : Int); exact rg.2.1.1.2) (fun j => by have := rg.2.1.2.1 j; omega)) (cwV 1 hts gX11_rank_X3_numberOf rfl rfl rfl (by decide +kernel) ⟨Nat.le_of_ble_eq_true rfl, Nat.le_of_ble_eq_true rfl⟩) ⟨fun a U g mk q => by obtain ⟨q0, q1, qP, qK, qD, qN⟩ := q; exact ⟨q0, q1, qP, va_K.moved (u := U) (U := U.calling g mk a) (Vm.Alike.refl U.vm) qK, qD, kNw.same (u := U) (U := U.calling g mk a) rfl qN⟩, va_recv hK hP (ci := 3) (q0 := 64) rfl (kg64 (by omega)), fun U hU hW => ⟨rfl, by rw [hU], by rw [hU]; exact hP, va_K.moved hW.alike hK, hD.weaken (fun _ _ _ _ => trivial), kNw.warm hW hNw⟩⟩ rfl rfl hl.1 rfl (lv_room (Nat.le_of_ble_eq_true rfl)) dX11_rank_67 ⟨(show _ ≤ kPo x - kPo (F_t_rank x a).2 by omega), (show _ ≤ kPs x - kPs (F_t_rank x a).2 by omega)⟩) hS (fun q _ h => hFc q h) hFc (fun r9 u9 t H1 locs ht hvm hw hB hz1 hk1 hS => ?_)
            obtain ⟨hP1, hK1, hD1⟩ := hB
            rw [ht] at hP1
            obtain ⟨hw1, hw2⟩ := hw
            rw [hw2] at hP1 hD1
            rw [hw1]
            have hD2 := hD1.weaken (B := A) (fun _ q _ h => hFc q.1 h)
            have hP := hP1
            have hD := hD2
            generalize H1 = H at hP hS ⊢
            have kg9 : kG ((F_r_run (x) (7 + 2 * (a).toNat) (73)).2) ((F_a_numberOf ((F_r_run (x) (7 + 2 * (a).toNat) (73)).2) (73)).2) := (kG_tr (kG_rf _) (kG_of (F_a_numberOf_fr ((F_r_run (x) (7 + 2 * (a).toNat) (73)).2) (73)) (by first | decide | (intro h9; simp at h9; done) | (intro h9; simp at h9; omega)) (by first | decide | (intro h9; simp at h9; done) | (intro h9; simp at h9; omega))))
            have eM9 : M = kM ((F_a_numberOf ((F_r_run (x) (7 + 2 * (a).toNat) (73)).2) (73)).2) := hkM.trans (kG_M kg9).symm
            have eW9 : wl = kWl ((F_a_numberOf ((F_r_run (x) (7 + 2 * (a).toNat) (73)).2) (73)).2) := hkW.trans (kG_W kg9).symm
            have eP9 := (kG_p kg9).1
            have eS9 := (kG_p kg9).2
            have kl1 := kle.1
            have kl2 := kle.2
            have hF2 : (F_t_rank x a).2 = (F_a_numberOf ((F_r_run (x) (7 + 2 * (a).toNat) (73)).2) (73)).2 := by
              have h9 := congrArg Prod.snd hres
              exact h9.symm
            refine W.widen (k := kPo x - kPo (F_t_rank x a).2) (n := kPs x - kPs (F_t_rank x a).2) (by rw [hF2]; omega) (by rw [hF2]; omega) ?_
            exact W.lret (v := iL ((F_a_numberOf ((F_r_run (x) (7 + 2 * (a).toNat) (73)).2) (73)).1)) hx hb hr (fun t ht hW => ⟨⟨iL ((F_a_numberOf ((F_r_run (x) (7 + 2 * (a).toNat) (73)).2) (73)).1), ((F_a_numberOf ((F_r_run (x) (7 + 2 * (a).toNat) (73)).2) (73)).2, ad), rfl, ⟨(by have h9 := congrArg (fun z : Int × KS => iL z.1) hres; exact h9), (by have h9 := congrArg (fun z : Int × KS => z.2) hres; exact h9), had⟩, by rw [ht]; show va_P (dC, dI) vwCl (kWd cI cJ cZ cR (kWl ((F_a_numberOf ((F_r_run (x) (7 + 2 * (a).toNat) (73)).2) (73)).2)) ad (kM ((F_a_numberOf ((F_r_run (x) (7 + 2 * (a).toNat) (73)).2) (73)).2)) ((F_a_numberOf ((F_r_run (x) (7 + 2 * (a).toNat) (73)).2) (73)).2)) H; rw [← eM9, ← eW9]; exact hP, va_K.moved hW.alike hK, by show va_D A (kWd cI cJ cZ cR (kWl ((F_a_numberOf ((F_r_run (x) (7 + 2 * (a).toNat) (73)).2) (73)).2)) ad (kM ((F_a_numberOf ((F_r_run (x) (7 + 2 * (a).toNat) (73)).2) (73)).2)) ((F_a_numberOf ((F_r_run (x) (7 + 2 * (a).toNat) (73)).2) (73)).2)); rw [← eM9, ← eW9]; exact hD⟩, hS.F ht⟩) hS.2.2 dX11_rank_70
          · skip
            rw [if_neg c_52] at hres
            refine lv_ldc2 (v := iL (-4 : Int)) hx hb hown (hts (.constantLong RX11 226 (-4)) (by decide +kernel)) dX11_rank_55 ?_
            have kg9 : kG ((F_r_run (x) (7 + 2 * (a).toNat) (73)).2) ((F_r_run (x) (7 + 2 * (a).toNat) (73)).2) := (kG_rf _)
            have eM9 : M = kM ((F_r_run (x) (7 + 2 * (a).toNat) (73)).2) := hkM.trans (kG_M kg9).symm
            have eW9 : wl = kWl ((F_r_run (x) (7 + 2 * (a).toNat) (73)).2) := hkW.trans (kG_W kg9).symm
            have eP9 := (kG_p kg9).1
            have eS9 := (kG_p kg9).2
            have kl1 := kle.1
            have kl2 := kle.2
            have hF2 : (F_t_rank x a).2 = (F_r_run (x) (7 + 2 * (a).toNat) (73)).2 := by
              have h9 := congrArg Prod.snd hres
              exact h9.symm
            refine W.widen (k := kPo x - kPo (F_t_rank x a).2) (n := kPs x - kPs (F_t_rank x a).2) (by rw [hF2]; omega) (by rw [hF2]; omega) ?_
            exact W.lret (v := iL ((-4 : Int))) hx hb hr (fun t ht hW => ⟨⟨iL ((-4 : Int)), ((F_r_run (x) (7 + 2 * (a).toNat) (73)).2, ad), rfl, ⟨(by have h9 := congrArg (fun z : Int × KS => iL z.1) hres; exact h9), (by have h9 := congrArg (fun z : Int × KS => z.2) hres; exact h9), had⟩, by rw [ht]; show va_P (dC, dI) vwCl (kWd cI cJ cZ cR (kWl ((F_r_run (x) (7 + 2 * (a).toNat) (73)).2)) ad (kM ((F_r_run (x) (7 + 2 * (a).toNat) (73)).2)) ((F_r_run (x) (7 + 2 * (a).toNat) (73)).2)) H; rw [← eM9, ← eW9]; exact hP, va_K.moved hW.alike hK, by show va_D A (kWd cI cJ cZ cR (kWl ((F_r_run (x) (7 + 2 * (a).toNat) (73)).2)) ad (kM ((F_r_run (x) (7 + 2 * (a).toNat) (73)).2)) ((F_r_run (x) (7 + 2 * (a).toNat) (73)).2)); rw [← eM9, ← eW9]; exact hD⟩, hS.F ht⟩) hS.2.2 dX11_rank_58
      · skip
        rw [if_pos c_16] at hres
        refine lv_ldc2 (v := iL (-3 : Int)) hx hb hown (hts (.constantLong RX11 219 (-3)) (by decide +kernel)) dX11_rank_19 ?_
        have kg9 : kG (x) (x) := (kG_rf _)
        have eM9 : M = kM (x) := hkM.trans (kG_M kg9).symm
        have eW9 : wl = kWl (x) := hkW.trans (kG_W kg9).symm
        have eP9 := (kG_p kg9).1
        have eS9 := (kG_p kg9).2
        have kl1 := kle.1
        have kl2 := kle.2
        have hF2 : (F_t_rank x a).2 = x := by
          have h9 := congrArg Prod.snd hres
          exact h9.symm
        refine W.widen (k := kPo x - kPo (F_t_rank x a).2) (n := kPs x - kPs (F_t_rank x a).2) (by rw [hF2]; omega) (by rw [hF2]; omega) ?_
        exact W.lret (v := iL ((-3 : Int))) hx hb hr (fun t ht hW => ⟨⟨iL ((-3 : Int)), (x, ad), rfl, ⟨(by have h9 := congrArg (fun z : Int × KS => iL z.1) hres; exact h9), (by have h9 := congrArg (fun z : Int × KS => z.2) hres; exact h9), had⟩, by rw [ht]; show va_P (dC, dI) vwCl (kWd cI cJ cZ cR (kWl (x)) ad (kM (x)) (x)) H; rw [← eM9, ← eW9]; exact hP, va_K.moved hW.alike hK, by show va_D A (kWd cI cJ cZ cR (kWl (x)) ad (kM (x)) (x)); rw [← eM9, ← eW9]; exact hD⟩, hS.F ht⟩) hS.2.2 dX11_rank_22
    · skip
      rw [if_pos c_5] at hres
      refine lv_ldc2 (v := iL (-1 : Int)) hx hb hown (hts (.constantLong RX11 236 (-1)) (by decide +kernel)) dX11_rank_8 ?_
      have kg9 : kG (x) (x) := (kG_rf _)
      have eM9 : M = kM (x) := hkM.trans (kG_M kg9).symm
      have eW9 : wl = kWl (x) := hkW.trans (kG_W kg9).symm
      have eP9 := (kG_p kg9).1
      have eS9 := (kG_p kg9).2
      have kl1 := kle.1
      have kl2 := kle.2
      have hF2 : (F_t_rank x a).2 = x := by
        have h9 := congrArg Prod.snd hres
        exact h9.symm
      refine W.widen (k := kPo x - kPo (F_t_rank x a).2) (n := kPs x - kPs (F_t_rank x a).2) (by rw [hF2]; omega) (by rw [hF2]; omega) ?_
      exact W.lret (v := iL ((-1 : Int))) hx hb hr (fun t ht hW => ⟨⟨iL ((-1 : Int)), (x, ad), rfl, ⟨(by have h9 := congrArg (fun z : Int × KS => iL z.1) hres; exact h9), (by have h9 := congrArg (fun z : Int × KS => z.2) hres; exact h9), had⟩, by rw [ht]; show va_P (dC, dI) vwCl (kWd cI cJ cZ cR (kWl (x)) ad (kM (x)) (x)) H; rw [← eM9, ← eW9]; exact hP, va_K.moved hW.alike hK, by show va_D A (kWd cI cJ cZ cR (kWl (x)) ad (kM (x)) (x)); rw [← eM9, ← eW9]; exact hD⟩, hS.F ht⟩) hS.2.2 dX11_rank_11
  exact key M wl ao _ _ ls hM hkM hkW (fun _ _ => rfl) hP hD hS hl
theorem F_t_rank_fr (x : KS) (a : Int) : gfr [(70, 4), (70, 5), (64, 8), (73, 1), (64, 4), (64, 5)] [71, 72, 74, 67, 68] x (F_t_rank x a).2 := by
  unfold F_t_rank
  by_cases hc : ((F_t_isSlot (x) (a)).1) = (0)
  · rw [if_pos hc]
    exact (gm_rf _ _ _)
  · rw [if_neg hc]
    by_cases hc : ((F_t_isProved (x)).1) = (0)
    · rw [if_pos hc]
      exact (gm_rf _ _ _)
    · rw [if_neg hc]
      by_cases hc : ((F_r_run (x) (7 + 2 * (a).toNat) (73)).1) = (0)
      · rw [if_pos hc]
        exact (gm_tr (gm_rf _ _ _) (gm_mono (km1 (List.Mem.head _) (km1 (List.Mem.tail _ (List.Mem.head _)) (km1 (List.Mem.tail _ (List.Mem.tail _ (List.Mem.head _))) (km1 (List.Mem.tail _ (List.Mem.tail _ (List.Mem.tail _ (List.Mem.head _)))) km0)))) (km1 (List.Mem.head _) (km1 (List.Mem.tail _ (List.Mem.head _)) (km1 (List.Mem.tail _ (List.Mem.tail _ (List.Mem.head _))) km0))) (F_r_run_fr (x) (7 + 2 * (a).toNat) (73))))
      · rw [if_neg hc]
        by_cases hc : (((F_r_run (x) (7 + 2 * (a).toNat) (73)).2).1 (73) 1) ≤ ((30 : Int))
        · rw [if_pos hc]
          exact (gm_tr (gm_tr (gm_rf _ _ _) (gm_mono (km1 (List.Mem.head _) (km1 (List.Mem.tail _ (List.Mem.head _)) (km1 (List.Mem.tail _ (List.Mem.tail _ (List.Mem.head _))) (km1 (List.Mem.tail _ (List.Mem.tail _ (List.Mem.tail _ (List.Mem.head _)))) km0)))) (km1 (List.Mem.head _) (km1 (List.Mem.tail _ (List.Mem.head _)) (km1 (List.Mem.tail _ (List.Mem.tail _ (List.Mem.head _))) km0))) (F_r_run_fr (x) (7 + 2 * (a).toNat) (73)))) (gm_mono (km1 (List.Mem.tail _ (List.Mem.tail _ (List.Mem.tail _ (List.Mem.tail _ (List.Mem.head _))))) (km1 (List.Mem.tail _ (List.Mem.tail _ (List.Mem.tail _ (List.Mem.tail _ (List.Mem.tail _ (List.Mem.head _)))))) km0)) (km1 (List.Mem.tail _ (List.Mem.tail _ (List.Mem.tail _ (List.Mem.head _)))) (km1 (List.Mem.tail _ (List.Mem.tail _ (List.Mem.tail _ (List.Mem.tail _ (List.Mem.head _))))) km0)) (gm_of (F_a_numberOf_fr ((F_r_run (x) (7 + 2 * (a).toNat) (73)).2) (73)))))
        · rw [if_neg hc]
          exact (gm_tr (gm_rf _ _ _) (gm_mono (km1 (List.Mem.head _) (km1 (List.Mem.tail _ (List.Mem.head _)) (km1 (List.Mem.tail _ (List.Mem.tail _ (List.Mem.head _))) (km1 (List.Mem.tail _ (List.Mem.tail _ (List.Mem.tail _ (List.Mem.head _)))) km0)))) (km1 (List.Mem.head _) (km1 (List.Mem.tail _ (List.Mem.head _)) (km1 (List.Mem.tail _ (List.Mem.tail _ (List.Mem.head _))) km0))) (F_r_run_fr (x) (7 + 2 * (a).toNat) (73))))
