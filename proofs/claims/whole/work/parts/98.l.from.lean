-- deps: 98.k
/-! makeFrom -/
theorem readG {x : KS} (ok : rOK x) {Ls : List (List Int)} (ml : mdL x Ls) {i0 : Int} (h0 : 0 ≤ i0) (h1 : i0 < x.1 84 2) (r : r03 (x.2 78)) : rOK (F_d_read x 77 i0).2 ∧ wG (F_d_read x 77 i0).2 77 ∧ (∀ w, kW w = true → w + 1 < 87 → w ≠ 77 → wG x w → wG (F_d_read x 77 i0).2 w) ∧ mdL (F_d_read x 77 i0).2 Ls ∧ ∃ V, Ls[i0.toNat]? = some V ∧ wL (F_d_read x 77 i0).2 77 V := by
  have f := F_d_read_fr x 77 i0
  have n4 := (nL_b ok.1.1).2
  have hi : i0.toNat < Ls.length := by have := ml.1; omega
  obtain ⟨V, hV⟩ : ∃ V, Ls[i0.toNat]? = some V := ⟨Ls[i0.toNat], List.getElem?_eq_getElem hi⟩
  have rd := read_x ml n4 hV (w := 77) rfl rfl
  rw [Int.toNat_of_nonneg h0] at rd
  have pr := ml.2.2 _ V hV
  have nl : nL (F_d_read x 77 i0).2 = nL x := nL_w (w := 77) rfl f
  refine ⟨rOK_w (w := 77) rfl (by decide) f ok, wG_of rd pr.2.1 (read_r r) (by rw [nl]; exact pr.1), fun w hw l ne g => wG_fr f (by intro h9; simp at h9; omega) (by intro h9; simp at h9; omega) (by intro h9; simp at h9) g, mdL_eq (f.1 84 2 (by decide)) (f.2 85 (by decide)) (f.2 86 (by decide)) (f.1 1 2 (by decide)) ml, V, hV, rd⟩
theorem putBehind_01 {x : KS} (ok : rOK x) (g77 : wG x 77) {w1 : Nat} (hw : kW w1 = true) (nw : w1 ≠ 77) (g1 : wG x w1) : (F_t_putBehind x w1).1 = 0 ∨ (F_t_putBehind x w1).1 = 1 := by
  have p := putBehind_x ok g77 hw nw g1
  by_cases c : x.1 77 1 + x.1 w1 1 ≤ 60
  · exact Or.inr (p.2.2.2.2 c).1
  · rw [p.2.2.2.1 (by omega)]; exact Or.inl rfl
def F_t_makeFrom (x : KS) (w1 : Nat) (i0 : Int) : Int × KS := (if ((F_t_putBehind ((F_d_read (x) (77) (i0)).2) (w1)).1) = (0) then ((0 : Int), (F_t_putBehind ((F_d_read (x) (77) (i0)).2) (w1)).2) else (if ((F_d_add ((F_t_putBehind ((F_d_read (x) (77) (i0)).2) (w1)).2) (77)).1) = (0) then ((0 : Int), (F_d_add ((F_t_putBehind ((F_d_read (x) (77) (i0)).2) (w1)).2) (77)).2) else ((1 : Int), (F_d_add ((F_t_putBehind ((F_d_read (x) (77) (i0)).2) (w1)).2) (77)).2)))
theorem F_t_makeFrom_le  (x : KS) (w1 : Nat) (i0 : Int) : kLe x (F_t_makeFrom x w1 i0).2 := by
  unfold F_t_makeFrom
  by_cases hc9 : ((F_t_putBehind ((F_d_read (x) (77) (i0)).2) (w1)).1) = (0)
  · rw [if_pos hc9]
    exact (kLe_tr (kLe_tr (kLe_rf _) (kLe_G (kG_of (F_d_read_fr (x) (77) (i0)) (by first | decide | (intro h9; simp at h9; done) | (intro h9; simp at h9; omega)) (by first | decide | (intro h9; simp at h9; done) | (intro h9; simp at h9; omega))))) (F_t_putBehind_le ((F_d_read (x) (77) (i0)).2) (w1)))
  · rw [if_neg hc9]
    by_cases hc9 : ((F_d_add ((F_t_putBehind ((F_d_read (x) (77) (i0)).2) (w1)).2) (77)).1) = (0)
    · rw [if_pos hc9]
      exact (kLe_tr (kLe_tr (kLe_tr (kLe_rf _) (kLe_G (kG_of (F_d_read_fr (x) (77) (i0)) (by first | decide | (intro h9; simp at h9; done) | (intro h9; simp at h9; omega)) (by first | decide | (intro h9; simp at h9; done) | (intro h9; simp at h9; omega))))) (F_t_putBehind_le ((F_d_read (x) (77) (i0)).2) (w1))) (kLe_G (kG_of (F_d_add_fr ((F_t_putBehind ((F_d_read (x) (77) (i0)).2) (w1)).2) (77)) (by first | decide | (intro h9; simp at h9; done) | (intro h9; simp at h9; omega)) (by first | decide | (intro h9; simp at h9; done) | (intro h9; simp at h9; omega)))))
    · rw [if_neg hc9]
      exact (kLe_tr (kLe_tr (kLe_tr (kLe_rf _) (kLe_G (kG_of (F_d_read_fr (x) (77) (i0)) (by first | decide | (intro h9; simp at h9; done) | (intro h9; simp at h9; omega)) (by first | decide | (intro h9; simp at h9; done) | (intro h9; simp at h9; omega))))) (F_t_putBehind_le ((F_d_read (x) (77) (i0)).2) (w1))) (kLe_G (kG_of (F_d_add_fr ((F_t_putBehind ((F_d_read (x) (77) (i0)).2) (w1)).2) (77)) (by first | decide | (intro h9; simp at h9; done) | (intro h9; simp at h9; omega)) (by first | decide | (intro h9; simp at h9; done) | (intro h9; simp at h9; omega)))))
set_option maxHeartbeats 4000000 in
set_option maxRecDepth 100000 in
/-- LikeWords, makeFrom -/
theorem c_t_makeFrom (l : Launch) (dC : Nat → ClassId) (dI : Nat → Nat → Nat) (ao : Nat → Nat) (cI cJ cZ cR : ClassId) (M wl sz : Nat) (x : KS) (w1 : Nat) (i0 : Int) (hM : 87 ≤ M) (hw_w1 : kW w1 = true) (hc_w1 : w1 + 1 < 87) (hkM : M = kM x) (hkW : wl = kWl x) (ok : rOK x) (r77 : r03 (x.2 78)) (g1 : wG x w1) (ukl : x.1 w1 1 ≤ kL w1) (nw : w1 ≠ 77) (md : mdR x) (ml : ∃ Ls, mdL x Ls) (ri0 : 0 ≤ i0) (ri1 : i0 < x.1 84 2) : Met l yX11_makeFrom wsX11_makeFrom ({ frames := 6, cells := kPo x - kPo (F_t_makeFrom x w1 i0).2, slots := kPs x - kPs (F_t_makeFrom x w1 i0).2, locals := 153 }) (kPc dC dI ao cI cJ cZ cR M wl sz x [.ref (ao 0), .int (iI i0), .ref (ao w1)]) (va_Qi (fun (r : Int32) (u : KS × (Nat → Nat)) => r = iI (F_t_makeFrom x w1 i0).1 ∧ u.1 = (F_t_makeFrom x w1 i0).2 ∧ (∀ c, c < 87 → u.2 c = ao c)) (fun u t => kAt dC dI u.2 cI cJ cZ cR (kM u.1) (kWl u.1) (va_A (kWd cI cJ cZ cR wl ao M x) sz) u.1 t) (va_A (kWd cI cJ cZ cR wl ao M x) sz)) (kPo x - kPo (F_t_makeFrom x w1 i0).2) (kPs x - kPs (F_t_makeFrom x w1 i0).2) (va_A (kWd cI cJ cZ cR wl ao M x) sz) := by
  refine Met.ofW (cc := cX11_makeFrom) (maxL := 3) (ret := (some .boolean)) (by decide) rfl ?_
  intro p e s m args below meth c s₁ B hml hv
  obtain ⟨rfl, hsz, hP, hK, hD0, hNw⟩ := hv
  have hx := B.exec
  have hb := B.bytes
  have hr := B.returns
  have hts := atoms_spec (ws := wsX11_makeFrom) B.pre
  have hown : s.vm.findClass RX11 = some m.cls := findClass_of_methodNamed B.named
  have hlocks := B.notSynchronized
  have hinX11 : ∀ w ∈ u_ws RX11 TX11 17, w ∈ wsX11_makeFrom := by decide +kernel
  subst hsz
  have hD := hD0.self (sz := s.heap.size)
  generalize hAe : va_A (kWd cI cJ cZ cR wl ao M x) s.heap.size = A at hD ⊢
  have hA : ∀ q : Nat, s.heap.size ≤ q → A q := fun q h => by rw [← hAe]; exact Or.inr h
  have hS : va_S A s.heap s.heap [] := va_S.rf
  have hl := lv_entry ([.ref (ao 0), .int (iI i0), .ref (ao w1)]) (n := 3) (Nat.le_of_ble_eq_true rfl)
  rw [lg_entry_eq]
  generalize (lg_sl ([.ref (ao 0), .int (iI i0), .ref (ao w1)]) ++ List.replicate (3 - (lg_sl ([.ref (ao 0), .int (iI i0), .ref (ao w1)])).length) Slot.unset).toArray = ls at hl ⊢
  have hl : lv_has ls 3 [(0, .ref (ao (0))), (1, .int (iI (i0))), (2, .ref (ao (w1)))] := hl
  have key : ∀ (M wl : Nat) (ad : Nat → Nat) (H : Heap) (locs : List Loc) (ls : Array Slot), 87 ≤ M → M = kM x → wl = kWl x → (∀ c, c < 87 → ad c = ao c) → va_P (dC, dI) vwCl (kWd cI cJ cZ cR wl ad M (x)) H → va_D A (kWd cI cJ cZ cR wl ad M (x)) → va_S A s.heap H locs → lv_has ls 3 [(0, .ref (ad (0))), (1, .int (iI (i0))), (2, .ref (ad (w1)))] → W p l e (headSpec wsX11_makeFrom ({ frames := 6, cells := kPo x - kPo (F_t_makeFrom x w1 i0).2, slots := kPs x - kPs (F_t_makeFrom x w1 i0).2, locals := 153 })).room s m ([.ref (ao 0), .int (iI i0), .ref (ao w1)] : List Value).toArray below meth c H locs 0 0 (MQ below (va_Qi (fun (r : Int32) (u : KS × (Nat → Nat)) => r = iI (F_t_makeFrom x w1 i0).1 ∧ u.1 = (F_t_makeFrom x w1 i0).2 ∧ (∀ c, c < 87 → u.2 c = ao c)) (fun u t => kAt dC dI u.2 cI cJ cZ cR (kM u.1) (kWl u.1) (A) u.1 t) (A)) ([.ref (ao 0), .int (iI i0), .ref (ao w1)] : List Value).toArray s (kPo x - kPo (F_t_makeFrom x w1 i0).2) (kPs x - kPs (F_t_makeFrom x w1 i0).2) A) (F0 m 0 ls []) := by
    intro M wl ad H locs ls hM hkM hkW had hP hD hS hl
    have kle : kLe x x := kLe_rf x
    have kf9 := F_t_makeFrom_le  x w1 i0
    have kf1 := kf9.1
    have kf2 := kf9.2
    have hres : (if ((F_t_putBehind ((F_d_read (x) (77) (i0)).2) (w1)).1) = (0) then ((0 : Int), (F_t_putBehind ((F_d_read (x) (77) (i0)).2) (w1)).2) else (if ((F_d_add ((F_t_putBehind ((F_d_read (x) (77) (i0)).2) (w1)).2) (77)).1) = (0) then ((0 : Int), (F_d_add ((F_t_putBehind ((F_d_read (x) (77) (i0)).2) (w1)).2) (77)).2) else ((1 : Int), (F_d_add ((F_t_putBehind ((F_d_read (x) (77) (i0)).2) (w1)).2) (77)).2))) = F_t_makeFrom x w1 i0 := rfl
    refine lv_aload_n hx hb dX11_makeFrom_0 rfl (lv_at hl 0 rfl) ?_
    refine va_get (D := (dC, dI)) (ci := 11) (v := .ref (ad (84))) (C := RX11) (T := TX11) (N := 17) hx hb hts hinX11 hown hK hP (0) (kg0 (by omega)) rfl 10 (by decide) (hts (.fieldLink RX11 96 "LikeWords" "made" "LLikeWords$Made;") (by decide +kernel)) (fun _ h9 => h9) rfl dX11_makeFrom_1 ?_
    refine lv_iload_n hx hb dX11_makeFrom_4 rfl (lv_at hl 1 rfl) ?_
    refine lv_aload_n hx hb dX11_makeFrom_5 rfl (lv_at hl 0 rfl) ?_
    refine va_get (D := (dC, dI)) (ci := 11) (v := .ref (ad (77))) (C := RX11) (T := TX11) (N := 17) hx hb hts hinX11 hown hK hP (0) (kg0 (by omega)) rfl 13 (by decide) (hts (.fieldLink RX11 72 "LikeWords" "sum" "LLikeWords$Word;") (by decide +kernel)) (fun _ h9 => h9) rfl dX11_makeFrom_6 ?_
    have hFc : ∀ q, va_A (kWd cI cJ cZ cR wl ad M (x)) H.size q → A q := fun q hq => Or.elim hq (fun ⟨k, e, hk⟩ => hD.2 k (q, e) hk) (fun hk => hA q (Nat.le_trans hS.1 hk))
    refine va_callv (va_runV (b := ad (84)) (As := [.int (iI (i0)), .ref (ad (77))]) (rest := []) ⟨hx, hb, hml, hown, hts⟩ (c_d_read l dC dI ad cI cJ cZ cR M wl H.size (x) (77) (i0) hM rfl (by omega) md (by unfold iR; have := md.1; omega)) (cwV 2 hts gX11_makeFrom_X4_read rfl rfl rfl (by decide +kernel) ⟨Nat.le_of_ble_eq_true rfl, Nat.le_of_ble_eq_true rfl⟩) ⟨fun a U g mk q => by obtain ⟨q0, q1, qP, qK, qD, qN⟩ := q; exact ⟨q0, q1, qP, va_K.moved (u := U) (U := U.calling g mk a) (Vm.Alike.refl U.vm) qK, qD, kNw.same (u := U) (U := U.calling g mk a) rfl qN⟩, va_recv hK hP (ci := 4) (q0 := 84) rfl (kg84 (by omega)), fun U hU hW => ⟨rfl, by rw [hU], by rw [hU]; exact hP, va_K.moved hW.alike hK, hD.weaken (fun _ _ _ _ => trivial), kNw.warm hW hNw⟩⟩ rfl rfl hl.1 rfl (lv_room (Nat.le_of_ble_eq_true rfl)) dX11_makeFrom_9 ⟨(show _ ≤ kPo x - kPo (F_t_makeFrom x w1 i0).2 by omega), (show _ ≤ kPs x - kPs (F_t_makeFrom x w1 i0).2 by omega)⟩) hS (fun q _ h => hFc q h) hFc (fun u9 t H1 locs ht hvm hw hB hz1 hk1 hS => ?_)
    obtain ⟨hP1, hK1, hD1⟩ := hB
    rw [ht] at hP1
    rw [hw] at hP1 hD1
    have hD2 := hD1.weaken (B := A) (fun _ q _ h => hFc q.1 h)
    have hP := hP1
    have hD := hD2
    generalize H1 = H at hP hS ⊢
    obtain ⟨Ls9, ml9⟩ := ml
    have rd9 := readG ok ml9 ri0 ri1 r77
    have g19 := rd9.2.2.1 w1 hw_w1 hc_w1 nw g1
    have ukl9 : (F_d_read x 77 i0).2.1 w1 1 ≤ kL w1 := by rw [(F_d_read_fr x 77 i0).1 w1 1 (by intro h9; simp at h9; omega)]; exact ukl
    refine lv_aload_n hx hb dX11_makeFrom_12 rfl (lv_at hl 0 rfl) ?_
    refine lv_aload_n hx hb dX11_makeFrom_13 rfl (lv_at hl 2 rfl) ?_
    have kg9 : kG (x) ((F_d_read (x) (77) (i0)).2) := (kG_tr (kG_rf _) (kG_of (F_d_read_fr (x) (77) (i0)) (by first | decide | (intro h9; simp at h9; done) | (intro h9; simp at h9; omega)) (by first | decide | (intro h9; simp at h9; done) | (intro h9; simp at h9; omega))))
    have eM9 : M = kM ((F_d_read (x) (77) (i0)).2) := hkM.trans (kG_M kg9).symm
    have eW9 : wl = kWl ((F_d_read (x) (77) (i0)).2) := hkW.trans (kG_W kg9).symm
    have eP9 := (kG_p kg9).1
    have eS9 := (kG_p kg9).2
    have kl1 := kle.1
    have kl2 := kle.2
    have kfn : kLe (F_t_putBehind ((F_d_read (x) (77) (i0)).2) (w1)).2 (F_t_makeFrom x w1 i0).2 := by
      rw [← hres]
      by_cases hc9 : ((F_t_putBehind ((F_d_read (x) (77) (i0)).2) (w1)).1) = (0)
      · rw [if_pos hc9]
        exact (kLe_rf _)
      · rw [if_neg hc9]
        by_cases hc9 : ((F_d_add ((F_t_putBehind ((F_d_read (x) (77) (i0)).2) (w1)).2) (77)).1) = (0)
        · rw [if_pos hc9]
          exact (kLe_tr (kLe_rf _) (kLe_G (kG_of (F_d_add_fr ((F_t_putBehind ((F_d_read (x) (77) (i0)).2) (w1)).2) (77)) (by first | decide | (intro h9; simp at h9; done) | (intro h9; simp at h9; omega)) (by first | decide | (intro h9; simp at h9; done) | (intro h9; simp at h9; omega)))))
        · rw [if_neg hc9]
          exact (kLe_tr (kLe_rf _) (kLe_G (kG_of (F_d_add_fr ((F_t_putBehind ((F_d_read (x) (77) (i0)).2) (w1)).2) (77)) (by first | decide | (intro h9; simp at h9; done) | (intro h9; simp at h9; omega)) (by first | decide | (intro h9; simp at h9; done) | (intro h9; simp at h9; omega)))))
    have kf1 := kfn.1
    have kf2 := kfn.2
    have kd9 : kLe ((F_d_read (x) (77) (i0)).2) (F_t_putBehind ((F_d_read (x) (77) (i0)).2) (w1)).2 := (F_t_putBehind_le ((F_d_read (x) (77) (i0)).2) (w1))
    have kd1 := kd9.1
    have kd2 := kd9.2
    have hFc : ∀ q, va_A (kWd cI cJ cZ cR wl ad M ((F_d_read (x) (77) (i0)).2)) H.size q → A q := fun q hq => Or.elim hq (fun ⟨k, e, hk⟩ => hD.2 k (q, e) hk) (fun hk => hA q (Nat.le_trans hS.1 hk))
    refine va_calli (va_runV (b := ad (0)) (As := [.ref (ad (w1))]) (rest := []) ⟨hx, hb, hml, hown, hts⟩ (c_t_putBehind l dC dI ad cI cJ cZ cR M wl H.size ((F_d_read (x) (77) (i0)).2) (w1)  hM hw_w1 (by omega) eM9 eW9 rd9.1 rd9.2.1 g19 ukl9 nw) (cwV 1 hts gX11_makeFrom_X11_putBehind rfl rfl rfl (by decide +kernel) ⟨Nat.le_of_ble_eq_true rfl, Nat.le_of_ble_eq_true rfl⟩) ⟨fun a U g mk q => by obtain ⟨q0, q1, qP, qK, qD, qN⟩ := q; exact ⟨q0, q1, qP, va_K.moved (u := U) (U := U.calling g mk a) (Vm.Alike.refl U.vm) qK, qD, kNw.same (u := U) (U := U.calling g mk a) rfl qN⟩, va_recv hK hP (ci := 11) (q0 := 0) rfl (kg0 (by omega)), fun U hU hW => ⟨rfl, by rw [hU], by rw [hU]; exact hP, va_K.moved hW.alike hK, hD.weaken (fun _ _ _ _ => trivial), kNw.warm hW hNw⟩⟩ rfl rfl hl.1 rfl (lv_room (Nat.le_of_ble_eq_true rfl)) dX11_makeFrom_14 ⟨(show _ ≤ kPo x - kPo (F_t_makeFrom x w1 i0).2 by omega), (show _ ≤ kPs x - kPs (F_t_makeFrom x w1 i0).2 by omega)⟩) hS (fun q _ h => hFc q h) hFc (fun r9 u9 t H1 locs ht hvm hw hB hz1 hk1 hS => ?_)
    obtain ⟨hP1, hK1, hD1⟩ := hB
    rw [ht] at hP1
    obtain ⟨z9, ad⟩ := u9
    obtain ⟨hw1, hw2, hw3⟩ := hw
    rw [hw1]
    have hw2 : z9 = (F_t_putBehind ((F_d_read (x) (77) (i0)).2) (w1)).2 := hw2
    subst hw2
    have hw3 := fun c (hc : c < 87) => (show ad c = _ from hw3 c hc)
    have had : ∀ c, c < 87 → ad c = ao c := fun c hc => (hw3 c hc).trans (had c hc)
    have hl : lv_has ls 3 [(0, .ref (ad (0))), (1, .int (iI (i0))), (2, .ref (ad (w1)))] := by
      rw [hw3 (0) (by omega), hw3 (w1) (by omega)]
      exact hl
    have hP1 : va_P (dC, dI) vwCl (kWd cI cJ cZ cR (kWl (F_t_putBehind ((F_d_read (x) (77) (i0)).2) (w1)).2) ad (kM (F_t_putBehind ((F_d_read (x) (77) (i0)).2) (w1)).2) (F_t_putBehind ((F_d_read (x) (77) (i0)).2) (w1)).2) H1 := hP1
    have hD1 : va_D A (kWd cI cJ cZ cR (kWl (F_t_putBehind ((F_d_read (x) (77) (i0)).2) (w1)).2) ad (kM (F_t_putBehind ((F_d_read (x) (77) (i0)).2) (w1)).2) (F_t_putBehind ((F_d_read (x) (77) (i0)).2) (w1)).2) := hD1.weaken (B := A) (fun _ q _ h => hFc q.1 h)
    have kle : kLe x (F_t_putBehind ((F_d_read (x) (77) (i0)).2) (w1)).2 := ⟨by omega, by omega⟩
    refine W.widen (k := kPo x - kPo (F_t_putBehind ((F_d_read (x) (77) (i0)).2) (w1)).2) (n := kPs x - kPs (F_t_putBehind ((F_d_read (x) (77) (i0)).2) (w1)).2) (by omega) (by omega) ?_
    obtain ⟨M, hkM⟩ : ∃ M9, M9 = kM (F_t_putBehind ((F_d_read (x) (77) (i0)).2) (w1)).2 := ⟨_, rfl⟩
    obtain ⟨wl, hkW⟩ : ∃ W9, W9 = kWl (F_t_putBehind ((F_d_read (x) (77) (i0)).2) (w1)).2 := ⟨_, rfl⟩
    rw [← hkM, ← hkW] at hP1 hD1
    have hM : 87 ≤ M := by rw [hkM]; exact kM_ge _
    have hP := hP1
    have hD := hD1
    generalize H1 = H at hP hS ⊢
    have pg := putBehind_x rd9.1 rd9.2.1 hw_w1 nw g19
    have pb01 := putBehind_01 rd9.1 rd9.2.1 hw_w1 nw g19
    have gz := pg.2.1
    have fz := F_t_putBehind_fr (F_d_read x 77 i0).2 w1
    have md8 : mdR (F_t_putBehind (F_d_read x 77 i0).2 w1).2 := mdR_eq (fz.1 84 2 (by decide) (by decide)) (fz.2 85 (by decide) (by decide)) (fz.2 86 (by decide) (by decide)) (mdR_eq ((F_d_read_fr x 77 i0).1 84 2 (by decide)) ((F_d_read_fr x 77 i0).2 85 (by decide)) ((F_d_read_fr x 77 i0).2 86 (by decide)) md)
    have ml8 : mdL (F_t_putBehind (F_d_read x 77 i0).2 w1).2 Ls9 := mdL_eq (fz.1 84 2 (by decide) (by decide)) (fz.2 85 (by decide) (by decide)) (fz.2 86 (by decide) (by decide)) (fz.1 1 2 (by decide) (by decide)) rd9.2.2.2.1
    refine wi_if_eq (tgt := 38) hx hb (kR01 pb01) dX11_makeFrom_17 (by decide) (fun c_17 => ?_) (fun c_17 => ?_)
    · skip
      rw [if_pos c_17] at hres
      refine lv_iconst (v := iI (0 : Int)) hx hb dX11_makeFrom_38 (by decide) ?_
      have kg9 : kG ((F_t_putBehind ((F_d_read (x) (77) (i0)).2) (w1)).2) ((F_t_putBehind ((F_d_read (x) (77) (i0)).2) (w1)).2) := (kG_rf _)
      have eM9 : M = kM ((F_t_putBehind ((F_d_read (x) (77) (i0)).2) (w1)).2) := hkM.trans (kG_M kg9).symm
      have eW9 : wl = kWl ((F_t_putBehind ((F_d_read (x) (77) (i0)).2) (w1)).2) := hkW.trans (kG_W kg9).symm
      have eP9 := (kG_p kg9).1
      have eS9 := (kG_p kg9).2
      have kl1 := kle.1
      have kl2 := kle.2
      have hF2 : (F_t_makeFrom x w1 i0).2 = (F_t_putBehind ((F_d_read (x) (77) (i0)).2) (w1)).2 := by
        have h9 := congrArg Prod.snd hres
        exact h9.symm
      refine W.widen (k := kPo x - kPo (F_t_makeFrom x w1 i0).2) (n := kPs x - kPs (F_t_makeFrom x w1 i0).2) (by rw [hF2]; omega) (by rw [hF2]; omega) ?_
      exact W.zret (v := iI ((0 : Int))) hx hb hr (kz _ (by first | assumption | omega)) (fun t ht hW => ⟨⟨iI ((0 : Int)), ((F_t_putBehind ((F_d_read (x) (77) (i0)).2) (w1)).2, ad), rfl, ⟨(by have h9 := congrArg (fun z : Int × KS => iI z.1) hres; exact h9), (by have h9 := congrArg (fun z : Int × KS => z.2) hres; exact h9), had⟩, by rw [ht]; show va_P (dC, dI) vwCl (kWd cI cJ cZ cR (kWl ((F_t_putBehind ((F_d_read (x) (77) (i0)).2) (w1)).2)) ad (kM ((F_t_putBehind ((F_d_read (x) (77) (i0)).2) (w1)).2)) ((F_t_putBehind ((F_d_read (x) (77) (i0)).2) (w1)).2)) H; rw [← eM9, ← eW9]; exact hP, va_K.moved hW.alike hK, by show va_D A (kWd cI cJ cZ cR (kWl ((F_t_putBehind ((F_d_read (x) (77) (i0)).2) (w1)).2)) ad (kM ((F_t_putBehind ((F_d_read (x) (77) (i0)).2) (w1)).2)) ((F_t_putBehind ((F_d_read (x) (77) (i0)).2) (w1)).2)); rw [← eM9, ← eW9]; exact hD⟩, hS.F ht⟩) hS.2.2 dX11_makeFrom_39
    · skip
      rw [if_neg c_17] at hres
      refine lv_aload_n hx hb dX11_makeFrom_20 rfl (lv_at hl 0 rfl) ?_
      refine va_get (D := (dC, dI)) (ci := 11) (v := .ref (ad (84))) (C := RX11) (T := TX11) (N := 17) hx hb hts hinX11 hown hK hP (0) (kg0 (by omega)) rfl 10 (by decide) (hts (.fieldLink RX11 96 "LikeWords" "made" "LLikeWords$Made;") (by decide +kernel)) (fun _ h9 => h9) rfl dX11_makeFrom_21 ?_
      refine lv_aload_n hx hb dX11_makeFrom_24 rfl (lv_at hl 0 rfl) ?_
      refine va_get (D := (dC, dI)) (ci := 11) (v := .ref (ad (77))) (C := RX11) (T := TX11) (N := 17) hx hb hts hinX11 hown hK hP (0) (kg0 (by omega)) rfl 13 (by decide) (hts (.fieldLink RX11 72 "LikeWords" "sum" "LLikeWords$Word;") (by decide +kernel)) (fun _ h9 => h9) rfl dX11_makeFrom_25 ?_
      have hFc : ∀ q, va_A (kWd cI cJ cZ cR wl ad M ((F_t_putBehind ((F_d_read (x) (77) (i0)).2) (w1)).2)) H.size q → A q := fun q hq => Or.elim hq (fun ⟨k, e, hk⟩ => hD.2 k (q, e) hk) (fun hk => hA q (Nat.le_trans hS.1 hk))
      refine va_calli (va_runV (b := ad (84)) (As := [.ref (ad (77))]) (rest := []) ⟨hx, hb, hml, hown, hts⟩ (c_d_add l dC dI ad cI cJ cZ cR M wl H.size ((F_t_putBehind ((F_d_read (x) (77) (i0)).2) (w1)).2) (77)  hM rfl (by omega) md8 gz.1.1 (by show _ ≤ ((60 : Nat) : Int); exact gz.1.2) gz.2.1) (cwV 1 hts gX11_makeFrom_X4_add rfl rfl rfl (by decide +kernel) ⟨Nat.le_of_ble_eq_true rfl, Nat.le_of_ble_eq_true rfl⟩) ⟨fun a U g mk q => by obtain ⟨q0, q1, qP, qK, qD, qN⟩ := q; exact ⟨q0, q1, qP, va_K.moved (u := U) (U := U.calling g mk a) (Vm.Alike.refl U.vm) qK, qD, kNw.same (u := U) (U := U.calling g mk a) rfl qN⟩, va_recv hK hP (ci := 4) (q0 := 84) rfl (kg84 (by omega)), fun U hU hW => ⟨rfl, by rw [hU], by rw [hU]; exact hP, va_K.moved hW.alike hK, hD.weaken (fun _ _ _ _ => trivial), kNw.warm hW hNw⟩⟩ rfl rfl hl.1 rfl (lv_room (Nat.le_of_ble_eq_true rfl)) dX11_makeFrom_28 ⟨(show _ ≤ kPo x - kPo (F_t_makeFrom x w1 i0).2 by omega), (show _ ≤ kPs x - kPs (F_t_makeFrom x w1 i0).2 by omega)⟩) hS (fun q _ h => hFc q h) hFc (fun r9 u9 t H1 locs ht hvm hw hB hz1 hk1 hS => ?_)
      obtain ⟨hP1, hK1, hD1⟩ := hB
      rw [ht] at hP1
      obtain ⟨hw1, hw2⟩ := hw
      rw [hw2] at hP1 hD1
      rw [hw1]
      have hD2 := hD1.weaken (B := A) (fun _ q _ h => hFc q.1 h)
      have hP := hP1
      have hD := hD2
      generalize H1 = H at hP hS ⊢
      have a01 := F_d_add_01 ml8 (nL_b pg.1.1.1).2 (wL_G gz).1 gz.2.2 (wL_G gz).2 gz.2.1
      refine wi_if_eq (tgt := 38) hx hb (kR01 a01) dX11_makeFrom_31 (by decide) (fun c_31 => ?_) (fun c_31 => ?_)
      · skip
        rw [if_pos c_31] at hres
        refine lv_iconst (v := iI (0 : Int)) hx hb dX11_makeFrom_38 (by decide) ?_
        have kg9 : kG ((F_t_putBehind ((F_d_read (x) (77) (i0)).2) (w1)).2) ((F_d_add ((F_t_putBehind ((F_d_read (x) (77) (i0)).2) (w1)).2) (77)).2) := (kG_tr (kG_rf _) (kG_of (F_d_add_fr ((F_t_putBehind ((F_d_read (x) (77) (i0)).2) (w1)).2) (77)) (by first | decide | (intro h9; simp at h9; done) | (intro h9; simp at h9; omega)) (by first | decide | (intro h9; simp at h9; done) | (intro h9; simp at h9; omega))))
        have eM9 : M = kM ((F_d_add ((F_t_putBehind ((F_d_read (x) (77) (i0)).2) (w1)).2) (77)).2) := hkM.trans (kG_M kg9).symm
        have eW9 : wl = kWl ((F_d_add ((F_t_putBehind ((F_d_read (x) (77) (i0)).2) (w1)).2) (77)).2) := hkW.trans (kG_W kg9).symm
        have eP9 := (kG_p kg9).1
        have eS9 := (kG_p kg9).2
        have kl1 := kle.1
        have kl2 := kle.2
        have hF2 : (F_t_makeFrom x w1 i0).2 = (F_d_add ((F_t_putBehind ((F_d_read (x) (77) (i0)).2) (w1)).2) (77)).2 := by
          have h9 := congrArg Prod.snd hres
          exact h9.symm
        refine W.widen (k := kPo x - kPo (F_t_makeFrom x w1 i0).2) (n := kPs x - kPs (F_t_makeFrom x w1 i0).2) (by rw [hF2]; omega) (by rw [hF2]; omega) ?_
        exact W.zret (v := iI ((0 : Int))) hx hb hr (kz _ (by first | assumption | omega)) (fun t ht hW => ⟨⟨iI ((0 : Int)), ((F_d_add ((F_t_putBehind ((F_d_read (x) (77) (i0)).2) (w1)).2) (77)).2, ad), rfl, ⟨(by have h9 := congrArg (fun z : Int × KS => iI z.1) hres; exact h9), (by have h9 := congrArg (fun z : Int × KS => z.2) hres; exact h9), had⟩, by rw [ht]; show va_P (dC, dI) vwCl (kWd cI cJ cZ cR (kWl ((F_d_add ((F_t_putBehind ((F_d_read (x) (77) (i0)).2) (w1)).2) (77)).2)) ad (kM ((F_d_add ((F_t_putBehind ((F_d_read (x) (77) (i0)).2) (w1)).2) (77)).2)) ((F_d_add ((F_t_putBehind ((F_d_read (x) (77) (i0)).2) (w1)).2) (77)).2)) H; rw [← eM9, ← eW9]; exact hP, va_K.moved hW.alike hK, by show va_D A (kWd cI cJ cZ cR (kWl ((F_d_add ((F_t_putBehind ((F_d_read (x) (77) (i0)).2) (w1)).2) (77)).2)) ad (kM ((F_d_add ((F_t_putBehind ((F_d_read (x) (77) (i0)).2) (w1)).2) (77)).2)) ((F_d_add ((F_t_putBehind ((F_d_read (x) (77) (i0)).2) (w1)).2) (77)).2)); rw [← eM9, ← eW9]; exact hD⟩, hS.F ht⟩) hS.2.2 dX11_makeFrom_39
      · skip
        rw [if_neg c_31] at hres
        refine lv_iconst (v := iI (1 : Int)) hx hb dX11_makeFrom_34 (by decide) ?_
        refine lv_goto (tgt := 39) hx hb dX11_makeFrom_35 (by decide) ?_
        have kg9 : kG ((F_t_putBehind ((F_d_read (x) (77) (i0)).2) (w1)).2) ((F_d_add ((F_t_putBehind ((F_d_read (x) (77) (i0)).2) (w1)).2) (77)).2) := (kG_tr (kG_rf _) (kG_of (F_d_add_fr ((F_t_putBehind ((F_d_read (x) (77) (i0)).2) (w1)).2) (77)) (by first | decide | (intro h9; simp at h9; done) | (intro h9; simp at h9; omega)) (by first | decide | (intro h9; simp at h9; done) | (intro h9; simp at h9; omega))))
        have eM9 : M = kM ((F_d_add ((F_t_putBehind ((F_d_read (x) (77) (i0)).2) (w1)).2) (77)).2) := hkM.trans (kG_M kg9).symm
        have eW9 : wl = kWl ((F_d_add ((F_t_putBehind ((F_d_read (x) (77) (i0)).2) (w1)).2) (77)).2) := hkW.trans (kG_W kg9).symm
        have eP9 := (kG_p kg9).1
        have eS9 := (kG_p kg9).2
        have kl1 := kle.1
        have kl2 := kle.2
        have hF2 : (F_t_makeFrom x w1 i0).2 = (F_d_add ((F_t_putBehind ((F_d_read (x) (77) (i0)).2) (w1)).2) (77)).2 := by
          have h9 := congrArg Prod.snd hres
          exact h9.symm
        refine W.widen (k := kPo x - kPo (F_t_makeFrom x w1 i0).2) (n := kPs x - kPs (F_t_makeFrom x w1 i0).2) (by rw [hF2]; omega) (by rw [hF2]; omega) ?_
        exact W.zret (v := iI ((1 : Int))) hx hb hr (kz _ (by first | assumption | omega)) (fun t ht hW => ⟨⟨iI ((1 : Int)), ((F_d_add ((F_t_putBehind ((F_d_read (x) (77) (i0)).2) (w1)).2) (77)).2, ad), rfl, ⟨(by have h9 := congrArg (fun z : Int × KS => iI z.1) hres; exact h9), (by have h9 := congrArg (fun z : Int × KS => z.2) hres; exact h9), had⟩, by rw [ht]; show va_P (dC, dI) vwCl (kWd cI cJ cZ cR (kWl ((F_d_add ((F_t_putBehind ((F_d_read (x) (77) (i0)).2) (w1)).2) (77)).2)) ad (kM ((F_d_add ((F_t_putBehind ((F_d_read (x) (77) (i0)).2) (w1)).2) (77)).2)) ((F_d_add ((F_t_putBehind ((F_d_read (x) (77) (i0)).2) (w1)).2) (77)).2)) H; rw [← eM9, ← eW9]; exact hP, va_K.moved hW.alike hK, by show va_D A (kWd cI cJ cZ cR (kWl ((F_d_add ((F_t_putBehind ((F_d_read (x) (77) (i0)).2) (w1)).2) (77)).2)) ad (kM ((F_d_add ((F_t_putBehind ((F_d_read (x) (77) (i0)).2) (w1)).2) (77)).2)) ((F_d_add ((F_t_putBehind ((F_d_read (x) (77) (i0)).2) (w1)).2) (77)).2)); rw [← eM9, ← eW9]; exact hD⟩, hS.F ht⟩) hS.2.2 dX11_makeFrom_39
  exact key M wl ao _ _ ls hM hkM hkW (fun _ _ => rfl) hP hD hS hl
theorem F_t_makeFrom_fr (x : KS) (w1 : Nat) (i0 : Int) : gfr [(77, 1), (70, 4), (70, 5), (64, 8), (84, 2)] [78, 71, 72, 85, 86] x (F_t_makeFrom x w1 i0).2 := by
  unfold F_t_makeFrom
  by_cases hc : ((F_t_putBehind ((F_d_read (x) (77) (i0)).2) (w1)).1) = (0)
  · rw [if_pos hc]
    exact (gm_tr (gm_tr (gm_rf _ _ _) (gm_mono (km1 (List.Mem.head _) km0) (km1 (List.Mem.head _) km0) (gm_of (F_d_read_fr (x) (77) (i0))))) (gm_mono (km1 (List.Mem.head _) (km1 (List.Mem.tail _ (List.Mem.head _)) (km1 (List.Mem.tail _ (List.Mem.tail _ (List.Mem.head _))) (km1 (List.Mem.tail _ (List.Mem.tail _ (List.Mem.tail _ (List.Mem.head _)))) km0)))) (km1 (List.Mem.head _) (km1 (List.Mem.tail _ (List.Mem.head _)) (km1 (List.Mem.tail _ (List.Mem.tail _ (List.Mem.head _))) km0))) (F_t_putBehind_fr ((F_d_read (x) (77) (i0)).2) (w1))))
  · rw [if_neg hc]
    by_cases hc : ((F_d_add ((F_t_putBehind ((F_d_read (x) (77) (i0)).2) (w1)).2) (77)).1) = (0)
    · rw [if_pos hc]
      exact (gm_tr (gm_tr (gm_tr (gm_rf _ _ _) (gm_mono (km1 (List.Mem.head _) km0) (km1 (List.Mem.head _) km0) (gm_of (F_d_read_fr (x) (77) (i0))))) (gm_mono (km1 (List.Mem.head _) (km1 (List.Mem.tail _ (List.Mem.head _)) (km1 (List.Mem.tail _ (List.Mem.tail _ (List.Mem.head _))) (km1 (List.Mem.tail _ (List.Mem.tail _ (List.Mem.tail _ (List.Mem.head _)))) km0)))) (km1 (List.Mem.head _) (km1 (List.Mem.tail _ (List.Mem.head _)) (km1 (List.Mem.tail _ (List.Mem.tail _ (List.Mem.head _))) km0))) (F_t_putBehind_fr ((F_d_read (x) (77) (i0)).2) (w1)))) (gm_mono (km1 (List.Mem.tail _ (List.Mem.tail _ (List.Mem.tail _ (List.Mem.tail _ (List.Mem.head _))))) km0) (km1 (List.Mem.tail _ (List.Mem.tail _ (List.Mem.tail _ (List.Mem.head _)))) (km1 (List.Mem.tail _ (List.Mem.tail _ (List.Mem.tail _ (List.Mem.tail _ (List.Mem.head _))))) km0)) (gm_of (F_d_add_fr ((F_t_putBehind ((F_d_read (x) (77) (i0)).2) (w1)).2) (77)))))
    · rw [if_neg hc]
      exact (gm_tr (gm_tr (gm_tr (gm_rf _ _ _) (gm_mono (km1 (List.Mem.head _) km0) (km1 (List.Mem.head _) km0) (gm_of (F_d_read_fr (x) (77) (i0))))) (gm_mono (km1 (List.Mem.head _) (km1 (List.Mem.tail _ (List.Mem.head _)) (km1 (List.Mem.tail _ (List.Mem.tail _ (List.Mem.head _))) (km1 (List.Mem.tail _ (List.Mem.tail _ (List.Mem.tail _ (List.Mem.head _)))) km0)))) (km1 (List.Mem.head _) (km1 (List.Mem.tail _ (List.Mem.head _)) (km1 (List.Mem.tail _ (List.Mem.tail _ (List.Mem.head _))) km0))) (F_t_putBehind_fr ((F_d_read (x) (77) (i0)).2) (w1)))) (gm_mono (km1 (List.Mem.tail _ (List.Mem.tail _ (List.Mem.tail _ (List.Mem.tail _ (List.Mem.head _))))) km0) (km1 (List.Mem.tail _ (List.Mem.tail _ (List.Mem.tail _ (List.Mem.head _)))) (km1 (List.Mem.tail _ (List.Mem.tail _ (List.Mem.tail _ (List.Mem.tail _ (List.Mem.head _))))) km0)) (gm_of (F_d_add_fr ((F_t_putBehind ((F_d_read (x) (77) (i0)).2) (w1)).2) (77)))))
