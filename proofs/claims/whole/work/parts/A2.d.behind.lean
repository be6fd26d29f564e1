-- deps: A2.c
/-! the class: a STRING whose LETTERS alone are told, put behind the sum -/
def wH (x : KS) (w : Nat) : Prop := (0 ≤ x.1 w 1 ∧ x.1 w 1 ≤ 60) ∧ okL (nL x) (wS x w)
theorem wH_G {x : KS} {w : Nat} (g : wG x w) : wH x w := ⟨g.1, g.2.2⟩
theorem wH_eq {x y : KS} {w : Nat} (e1 : y.1 w 1 = x.1 w 1) (e2 : y.2 (w + 1) = x.2 (w + 1)) (e3 : y.1 1 2 = x.1 1 2) (h : wH x w) : wH y w := by
  unfold wH nL wS at h ⊢
  rw [e1, e2, e3]
  exact h
theorem wH_at {x : KS} {w : Nat} (n4 : nL x ≤ 4) (h : wH x w) : ∀ j : Nat, (j : Int) < x.1 w 1 → 0 ≤ x.2 (w + 1) j ∧ x.2 (w + 1) j ≤ 3 := by
  intro j hj
  have o := h.2 (x.2 (w + 1) j) (by unfold wS; exact List.mem_map.mpr ⟨j, List.mem_range.mpr (by omega), rfl⟩)
  omega
theorem app_s_r2 {w q : Nat} (hw : kW w = true) (hq : kW q = true) (ne : w ≠ q) : ∀ (n : Nat) (y : KS) (i : Int), 0 ≤ i → r03 (y.2 (w + 1)) → (∀ j : Nat, (j : Int) < y.1 q 1 → 0 ≤ y.2 (q + 1) j ∧ y.2 (q + 1) j ≤ 3) → r03 ((F_w_append_s w q n 0 y i).2.2 (w + 1)) := by
  intro n
  induction n with
  | zero => intro y i _ h _; exact h
  | succ n ih =>
    intro y i i0 h1 h2
    rw [F_w_append_e0]
    by_cases c : y.1 q 1 ≤ i
    · rw [if_pos c]; exact h1
    · rw [if_neg c]
      have b := h2 i.toNat (by omega)
      have e1 : r03 ((kA (kS y w 1 (y.1 w 1 + 1)) (w + 1) (y.1 w 1).toNat (y.2 (q + 1) i.toNat)).2 (w + 1)) := by rw [kA_s, kS_2]; exact r03_U h1 b.1 b.2
      refine ih _ _ (by omega) e1 ?_
      intro j hj
      have eq : (kA (kS y w 1 (y.1 w 1 + 1)) (w + 1) (y.1 w 1).toNat (y.2 (q + 1) i.toNat)).1 q 1 = y.1 q 1 := congrFun (kS_c (x := y) (c := w) (k := 1) (v := y.1 w 1 + 1) (Ne.symm ne)) 1
      rw [eq] at hj
      rw [kA_c (by omega), kS_2]
      exact h2 j hj
theorem append_H {x : KS} {w q : Nat} (n4 : nL x ≤ 4) (hw : kW w = true) (hq : kW q = true) (ne : w ≠ q) (hL : kL w = 60) (gw : wG x w) (gq : wH x q) : wG (F_w_append x w q).2 w ∧ (x.1 w 1 + x.1 q 1 ≤ 60 → (F_w_append x w q).1 = 1 ∧ wL (F_w_append x w q).2 w (wS x w ++ wS x q)) ∧ (60 < x.1 w 1 + x.1 q 1 → F_w_append x w q = (0, x)) := by
  obtain ⟨h1, l1⟩ := wL_G gw
  have h2 : wL x q (wS x q) := wL_of gq.1.1
  have no : 60 < x.1 w 1 + x.1 q 1 → F_w_append x w q = (0, x) := fun h => append_no (by rw [hL]; exact h)
  have ys : x.1 w 1 + x.1 q 1 ≤ 60 → (F_w_append x w q).1 = 1 ∧ wL (F_w_append x w q).2 w (wS x w ++ wS x q) := fun h => F_w_append_x hw hq ne h1 h2 (by rw [hL]; have := h1.1; have := h2.1; omega)
  refine ⟨?_, ys, no⟩
  by_cases c : x.1 w 1 + x.1 q 1 ≤ 60
  · have y := (ys c).2
    refine wG_of y (by rw [List.length_append]; have := h1.1; have := h2.1; omega) ?_ (by rw [nL_w hw (F_w_append_fr x w q)]; exact okL_app.mpr ⟨gw.2.2, gq.2⟩)
    unfold F_w_append
    rw [if_pos (by rw [hL]; exact c)]
    exact app_s_r2 hw hq ne _ _ _ (by decide) gw.2.1 (wH_at n4 gq)
  · rw [no (by omega)]
    exact gw
theorem putBehind_H {x : KS} (ok : rOK x) (g77 : wG x 77) {w1 : Nat} (hw : kW w1 = true) (nw : w1 ≠ 77) (g1 : wH x w1) : rOK (F_t_putBehind x w1).2 ∧ wG (F_t_putBehind x w1).2 77 ∧ ((F_t_putBehind x w1).1 = 0 ∨ (F_t_putBehind x w1).1 = 1) ∧ (60 < x.1 77 1 + x.1 w1 1 → F_t_putBehind x w1 = (0, x)) ∧ (x.1 77 1 + x.1 w1 1 ≤ 60 → (F_t_putBehind x w1).1 = 1 ∧ ∃ V : List Int, wL (F_t_putBehind x w1).2 77 V ∧ okL (nL x) V ∧ V.length ≤ 60 ∧ rch (lS x) (rS x) (nR x) (wS x 77 ++ wS x w1) V ∧ noL (lS x) (nR x) V) := by
  have n4 := (nL_b ok.1.1).2
  have ga := append_H (x := x) (w := 77) (q := w1) n4 rfl hw (Ne.symm nw) rfl g77 g1
  have fa := F_w_append_fr x 77 w1
  have oa : rOK (F_w_append x 77 w1).2 := rOK_w (w := 77) rfl (by decide) fa ok
  have rg := run_G oa (w1 := 77) (w2 := 77) rfl rfl rfl (by decide) ga.1 ga.1.2.1
  obtain ⟨_, _, e1, V, v1, v2, v3, v4, v5⟩ := rOK_run oa (w1 := 77) (w2 := 77) rfl rfl rfl (by decide) ga.1 ga.1.2.1
  by_cases c : x.1 77 1 + x.1 w1 1 ≤ 60
  · obtain ⟨a1, a2⟩ := ga.2.1 c
    have sma : sM x (F_w_append x 77 w1).2 := sM_of fa (fun p hp => by rw [List.mem_singleton] at hp; rw [hp]; exact sMs_w rfl) (fun a ha => by rw [List.mem_singleton] at ha; rw [ha]; exact sMa_w (c := 77) rfl)
    have key : F_t_putBehind x w1 = (1, (F_r_run (F_w_append x 77 w1).2 77 77).2) := by
      unfold F_t_putBehind
      rw [a1, if_neg (by decide), e1, if_neg (by decide)]
    rw [key]
    rw [sM_nL sma] at v2
    rw [sM_lS sma, sM_rS sma, sM_nR sma, wL_S a2] at v4
    rw [sM_lS sma, sM_nR sma] at v5
    exact ⟨rg.1, rg.2.1, Or.inr rfl, fun h => by exfalso; omega, fun _ => ⟨rfl, V, v1, v2, v3, v4, v5⟩⟩
  · have key : F_t_putBehind x w1 = (0, x) := by
      unfold F_t_putBehind
      rw [ga.2.2 (by omega), if_pos rfl]
    rw [key]
    exact ⟨ok, g77, Or.inl rfl, fun _ => rfl, fun h => absurd h c⟩
/-! inverse: where the walk stands -/
def ivY (x : KS) : Prop := ∃ Y, stE x Y
def ivK (y : KS) (i : Int) : Prop := ∃ Y, stE y Y ∧ wkI Y y ∧ (i = 0 → rkV Y (wS y 82) = 0) ∧ (0 < i → rkV Y (wS y 82) = i - 1)
def ivL (y : KS) (i : Int) : Prop := ∃ Y, stE y Y ∧ wkI Y y ∧ rkV Y (wS y 82) = i
theorem ivK_0 {x : KS} (h : ivY x) (wa : waR x) : ivK (F_v_begin x).2 0 := by
  obtain ⟨Y, hs⟩ := h
  obtain ⟨a, b⟩ := wk_begin (Y := Y) hs.1.2.2.1 wa
  exact ⟨Y, stE_fr (F_v_begin_fr x) (by decide) (by decide) (by decide) hs, a, fun _ => by rw [b]; rfl, fun h => by omega⟩
theorem ivL_0 {y : KS} {i : Int} (h : ivK y i) (hi : i ≤ 0) (i0 : 0 ≤ i) : ivL y i := by
  obtain ⟨Y, hs, wk, h0, _⟩ := h
  exact ⟨Y, hs, wk, by rw [h0 (by omega)]; omega⟩
theorem ivK_w {y : KS} {i : Int} (h : ivK y i) : waR y := by
  obtain ⟨Y, hs, wk, _⟩ := h
  exact wk.1
theorem ivL_a {y : KS} {i : Int} (ma : maR y) (h : ivK y i) (hi : 0 < i) (h2 : i < 2000) : ((F_v_advance y).1 = 0 ∨ (F_v_advance y).1 = 1) ∧ (¬ (F_v_advance y).1 = 0 → ivL (F_v_advance y).2 i) := by
  obtain ⟨Y, hs, wk, _, h1⟩ := h
  have h1 := h1 hi
  obtain ⟨f, w, ⟨e, a, b⟩ | ⟨e, _⟩⟩ := advance_x hs ma wk (by omega)
  · exact ⟨Or.inr e, fun _ => ⟨Y, stE_fr f (by decide) (by decide) (by decide) hs, a, by rw [b]; omega⟩⟩
  · exact ⟨Or.inl e, fun h => absurd e h⟩
theorem pth_ok {Y : MS} {n : Nat} (hn : (n : Int) = Y.1 0) : ∀ (u : List Int) (g : Int), pth Y g u → okL n u := by
  intro u
  induction u with
  | nil => intro g _ l hl; exact absurd hl List.not_mem_nil
  | cons a t ih =>
    intro g h l hl
    obtain ⟨h1, _, h3⟩ := h
    rcases List.mem_cons.mp hl with e | e
    · rw [e, hn]; exact h1
    · exact ih _ h3 l e
theorem ivL_H {y : KS} {i : Int} (h : ivL y i) : wH y 82 ∧ y.1 82 1 ≤ 30 := by
  obtain ⟨Y, hs, wk, _⟩ := h
  have u := wk.1.1
  have l2 := hs.1.2.1
  have l1 := hs.1.2.2.2.1
  exact ⟨⟨by omega, pth_ok (by unfold nL; omega) _ _ (wk_V wk).2⟩, by omega⟩
theorem ivK_s {y z : KS} {i : Int} {S : List (Nat × Nat)} {A : List Nat} (f : gfr S A y z) (h1 : (1, 2) ∉ S) (h2 : (64, 7) ∉ S) (h3 : 66 ∉ A) (h4 : (82, 1) ∉ S) (h5 : 81 ∉ A) (h6 : 83 ∉ A) (i0 : 0 ≤ i) (h : ivL y i) : ivK z (i + (1 : Int)) := by
  obtain ⟨Y, hs, wk, hr⟩ := h
  have e1 := f.1 1 2 (by decide) h1
  have e2 := f.1 64 7 (by decide) h2
  have e3 := f.2 66 (by decide) h3
  have e4 := f.1 82 1 (by decide) h4
  have e5 := f.2 81 (by decide) h5
  have e6 := f.2 83 (by decide) h6
  have ew : wS z 82 = wS y 82 := by unfold wS; rw [e4, e6]
  refine ⟨Y, ⟨by rw [e2, e1]; exact hs.1, fun g l g0 g1 l0 l1 => by rw [F_a_step_cg e1 e2 e3]; exact hs.2 g l g0 g1 l0 l1⟩, ⟨by unfold waR; rw [e4, e5, e6]; exact wk.1, by rw [e4, e5, e6]; exact wk.2⟩, fun h => by omega, fun _ => by rw [ew, hr]; omega⟩
set_option maxHeartbeats 4000000 in
set_option maxRecDepth 100000 in
/-- LikeWords, putBehind -/
theorem d_t_putBehind (l : Launch) (dC : Nat → ClassId) (dI : Nat → Nat → Nat) (ao : Nat → Nat) (cI cJ cZ cR : ClassId) (M wl sz : Nat) (x : KS) (w1 : Nat) (hM : 87 ≤ M) (hw_w1 : kW w1 = true) (hc_w1 : w1 + 1 < 87) (hkM : M = kM x) (hkW : wl = kWl x) (ok : rOK x) (g77 : wG x 77) (g1 : wH x w1) (ukl : x.1 w1 1 ≤ kL w1) (nw : w1 ≠ 77) : Met l yX11_putBehind wsX11_putBehind ({ frames := 5, cells := kPo x - kPo (F_t_putBehind x w1).2, slots := kPs x - kPs (F_t_putBehind x w1).2, locals := 132 }) (kPc dC dI ao cI cJ cZ cR M wl sz x [.ref (ao 0), .ref (ao w1)]) (va_Qi (fun (r : Int32) (u : KS × (Nat → Nat)) => r = iI (F_t_putBehind x w1).1 ∧ u.1 = (F_t_putBehind x w1).2 ∧ (∀ c, c < 87 → u.2 c = ao c)) (fun u t => kAt dC dI u.2 cI cJ cZ cR (kM u.1) (kWl u.1) (va_A (kWd cI cJ cZ cR wl ao M x) sz) u.1 t) (va_A (kWd cI cJ cZ cR wl ao M x) sz)) (kPo x - kPo (F_t_putBehind x w1).2) (kPs x - kPs (F_t_putBehind x w1).2) (va_A (kWd cI cJ cZ cR wl ao M x) sz) := by
  refine Met.ofW (cc := cX11_putBehind) (maxL := 2) (ret := (some .boolean)) (by decide) rfl ?_
  intro p e s m args below meth c s₁ B hml hv
  obtain ⟨rfl, hsz, hP, hK, hD0, hNw⟩ := hv
  have hx := B.exec
  have hb := B.bytes
  have hr := B.returns
  have hts := atoms_spec (ws := wsX11_putBehind) B.pre
  have hown : s.vm.findClass RX11 = some m.cls := findClass_of_methodNamed B.named
  have hlocks := B.notSynchronized
  have hinX11 : ∀ w ∈ u_ws RX11 TX11 17, w ∈ wsX11_putBehind := by decide +kernel
  subst hsz
  have hD := hD0.self (sz := s.heap.size)
  generalize hAe : va_A (kWd cI cJ cZ cR wl ao M x) s.heap.size = A at hD ⊢
  have hA : ∀ q : Nat, s.heap.size ≤ q → A q := fun q h => by rw [← hAe]; exact Or.inr h
  have hS : va_S A s.heap s.heap [] := va_S.rf
  have hl := lv_entry ([.ref (ao 0), .ref (ao w1)]) (n := 2) (Nat.le_of_ble_eq_true rfl)
  rw [lg_entry_eq]
  generalize (lg_sl ([.ref (ao 0), .ref (ao w1)]) ++ List.replicate (2 - (lg_sl ([.ref (ao 0), .ref (ao w1)])).length) Slot.unset).toArray = ls at hl ⊢
  have hl : lv_has ls 2 [(0, .ref (ao (0))), (1, .ref (ao (w1)))] := hl
  have key : ∀ (M wl : Nat) (ad : Nat → Nat) (H : Heap) (locs : List Loc) (ls : Array Slot), 87 ≤ M → M = kM x → wl = kWl x → (∀ c, c < 87 → ad c = ao c) → va_P (dC, dI) vwCl (kWd cI cJ cZ cR wl ad M (x)) H → va_D A (kWd cI cJ cZ cR wl ad M (x)) → va_S A s.heap H locs → lv_has ls 2 [(0, .ref (ad (0))), (1, .ref (ad (w1)))] → W p l e (headSpec wsX11_putBehind ({ frames := 5, cells := kPo x - kPo (F_t_putBehind x w1).2, slots := kPs x - kPs (F_t_putBehind x w1).2, locals := 132 })).room s m ([.ref (ao 0), .ref (ao w1)] : List Value).toArray below meth c H locs 0 0 (MQ below (va_Qi (fun (r : Int32) (u : KS × (Nat → Nat)) => r = iI (F_t_putBehind x w1).1 ∧ u.1 = (F_t_putBehind x w1).2 ∧ (∀ c, c < 87 → u.2 c = ao c)) (fun u t => kAt dC dI u.2 cI cJ cZ cR (kM u.1) (kWl u.1) (A) u.1 t) (A)) ([.ref (ao 0), .ref (ao w1)] : List Value).toArray s (kPo x - kPo (F_t_putBehind x w1).2) (kPs x - kPs (F_t_putBehind x w1).2) A) (F0 m 0 ls []) := by
    intro M wl ad H locs ls hM hkM hkW had hP hD hS hl
    have kle : kLe x x := kLe_rf x
    have kf9 := F_t_putBehind_le  x w1
    have kf1 := kf9.1
    have kf2 := kf9.2
    have hres : (if ((F_w_append (x) (77) (w1)).1) = (0) then ((0 : Int), (F_w_append (x) (77) (w1)).2) else (if ((F_r_run ((F_w_append (x) (77) (w1)).2) (77) (77)).1) = (0) then ((0 : Int), (F_r_run ((F_w_append (x) (77) (w1)).2) (77) (77)).2) else ((1 : Int), (F_r_run ((F_w_append (x) (77) (w1)).2) (77) (77)).2))) = F_t_putBehind x w1 := rfl
    refine lv_aload_n hx hb dX11_putBehind_0 rfl (lv_at hl 0 rfl) ?_
    refine va_get (D := (dC, dI)) (ci := 11) (v := .ref (ad (77))) (C := RX11) (T := TX11) (N := 17) hx hb hts hinX11 hown hK hP (0) (kg0 (by omega)) rfl 13 (by decide) (hts (.fieldLink RX11 72 "LikeWords" "sum" "LLikeWords$Word;") (by decide +kernel)) (fun _ h9 => h9) rfl dX11_putBehind_1 ?_
    refine lv_aload_n hx hb dX11_putBehind_4 rfl (lv_at hl 1 rfl) ?_
    have hFc : ∀ q, va_A (kWd cI cJ cZ cR wl ad M (x)) H.size q → A q := fun q hq => Or.elim hq (fun ⟨k, e, hk⟩ => hD.2 k (q, e) hk) (fun hk => hA q (Nat.le_trans hS.1 hk))
    refine va_calli (va_runV (b := ad (77)) (As := [.ref (ad (w1))]) (rest := []) ⟨hx, hb, hml, hown, hts⟩ (c_w_append l dC dI ad cI cJ cZ cR M wl H.size (x) (77) (w1)  hM rfl (by omega) hw_w1 (by omega) (by omega) g77.1.1 (by show _ ≤ ((60 : Nat) : Int); exact g77.1.2) g1.1.1 ukl) (cwV 1 hts gX11_putBehind_X10_append rfl rfl rfl (by decide +kernel) ⟨Nat.le_of_ble_eq_true rfl, Nat.le_of_ble_eq_true rfl⟩) ⟨fun a U g mk q => by obtain ⟨q0, q1, qP, qK, qD, qN⟩ := q; exact ⟨q0, q1, qP, va_K.moved (u := U) (U := U.calling g mk a) (Vm.Alike.refl U.vm) qK, qD, kNw.same (u := U) (U := U.calling g mk a) rfl qN⟩, va_recv hK hP (ci := 10) (q0 := 77) rfl (kgw rfl (by omega)), fun U hU hW => ⟨rfl, by rw [hU], by rw [hU]; exact hP, va_K.moved hW.alike hK, hD.weaken (fun _ _ _ _ => trivial), kNw.warm hW hNw⟩⟩ rfl rfl hl.1 rfl (lv_room (Nat.le_of_ble_eq_true rfl)) dX11_putBehind_5 ⟨(show _ ≤ kPo x - kPo (F_t_putBehind x w1).2 by omega), (show _ ≤ kPs x - kPs (F_t_putBehind x w1).2 by omega)⟩) hS (fun q _ h => hFc q h) hFc (fun r9 u9 t H1 locs ht hvm hw hB hz1 hk1 hS => ?_)
    obtain ⟨hP1, hK1, hD1⟩ := hB
    rw [ht] at hP1
    obtain ⟨hw1, hw2⟩ := hw
    rw [hw2] at hP1 hD1
    rw [hw1]
    have hD2 := hD1.weaken (B := A) (fun _ q _ h => hFc q.1 h)
    have hP := hP1
    have hD := hD2
    generalize H1 = H at hP hS ⊢
    have ga := append_H (x := x) (w := 77) (q := w1) (nL_b ok.1.1).2 rfl hw_w1 (Ne.symm nw) rfl g77 g1
    have oa : rOK (F_w_append x 77 w1).2 := rOK_w (w := 77) rfl (by decide) (F_w_append_fr x 77 w1) ok
    have a01 : (F_w_append x 77 w1).1 = 0 ∨ (F_w_append x 77 w1).1 = 1 := by
      by_cases c9 : x.1 77 1 + x.1 w1 1 ≤ 60
      · exact Or.inr (ga.2.1 c9).1
      · rw [ga.2.2 (by omega)]; exact Or.inl rfl
    refine wi_if_eq (tgt := 33) hx hb (kR01 a01) dX11_putBehind_8 (by decide) (fun c_8 => ?_) (fun c_8 => ?_)
    · skip
      rw [if_pos c_8] at hres
      refine lv_iconst (v := iI (0 : Int)) hx hb dX11_putBehind_33 (by decide) ?_
      have kg9 : kG (x) ((F_w_append (x) (77) (w1)).2) := (kG_tr (kG_rf _) (kG_of (F_w_append_fr (x) (77) (w1)) (by first | decide | (intro h9; simp at h9; done) | (intro h9; simp at h9; omega)) (by first | decide | (intro h9; simp at h9; done) | (intro h9; simp at h9; omega))))
      have eM9 : M = kM ((F_w_append (x) (77) (w1)).2) := hkM.trans (kG_M kg9).symm
      have eW9 : wl = kWl ((F_w_append (x) (77) (w1)).2) := hkW.trans (kG_W kg9).symm
      have eP9 := (kG_p kg9).1
      have eS9 := (kG_p kg9).2
      have kl1 := kle.1
      have kl2 := kle.2
      have hF2 : (F_t_putBehind x w1).2 = (F_w_append (x) (77) (w1)).2 := by
        have h9 := congrArg Prod.snd hres
        exact h9.symm
      refine W.widen (k := kPo x - kPo (F_t_putBehind x w1).2) (n := kPs x - kPs (F_t_putBehind x w1).2) (by rw [hF2]; omega) (by rw [hF2]; omega) ?_
      exact W.zret (v := iI ((0 : Int))) hx hb hr (kz _ (by first | assumption | omega)) (fun t ht hW => ⟨⟨iI ((0 : Int)), ((F_w_append (x) (77) (w1)).2, ad), rfl, ⟨(by have h9 := congrArg (fun z : Int × KS => iI z.1) hres; exact h9), (by have h9 := congrArg (fun z : Int × KS => z.2) hres; exact h9), had⟩, by rw [ht]; show va_P (dC, dI) vwCl (kWd cI cJ cZ cR (kWl ((F_w_append (x) (77) (w1)).2)) ad (kM ((F_w_append (x) (77) (w1)).2)) ((F_w_append (x) (77) (w1)).2)) H; rw [← eM9, ← eW9]; exact hP, va_K.moved hW.alike hK, by show va_D A (kWd cI cJ cZ cR (kWl ((F_w_append (x) (77) (w1)).2)) ad (kM ((F_w_append (x) (77) (w1)).2)) ((F_w_append (x) (77) (w1)).2)); rw [← eM9, ← eW9]; exact hD⟩, hS.F ht⟩) hS.2.2 dX11_putBehind_34
    · skip
      rw [if_neg c_8] at hres
      refine lv_aload_n hx hb dX11_putBehind_11 rfl (lv_at hl 0 rfl) ?_
      refine va_get (D := (dC, dI)) (ci := 11) (v := .ref (ad (70))) (C := RX11) (T := TX11) (N := 17) hx hb hts hinX11 hown hK hP (0) (kg0 (by omega)) rfl 7 (by decide) (hts (.fieldLink RX11 62 "LikeWords" "rewriter" "LLikeWords$Rewriter;") (by decide +kernel)) (fun _ h9 => h9) rfl dX11_putBehind_12 ?_
      refine lv_aload_n hx hb dX11_putBehind_15 rfl (lv_at hl 0 rfl) ?_
      refine va_get (D := (dC, dI)) (ci := 11) (v := .ref (ad (77))) (C := RX11) (T := TX11) (N := 17) hx hb hts hinX11 hown hK hP (0) (kg0 (by omega)) rfl 13 (by decide) (hts (.fieldLink RX11 72 "LikeWords" "sum" "LLikeWords$Word;") (by decide +kernel)) (fun _ h9 => h9) rfl dX11_putBehind_16 ?_
      refine lv_aload_n hx hb dX11_putBehind_19 rfl (lv_at hl 0 rfl) ?_
      refine va_get (D := (dC, dI)) (ci := 11) (v := .ref (ad (77))) (C := RX11) (T := TX11) (N := 17) hx hb hts hinX11 hown hK hP (0) (kg0 (by omega)) rfl 13 (by decide) (hts (.fieldLink RX11 72 "LikeWords" "sum" "LLikeWords$Word;") (by decide +kernel)) (fun _ h9 => h9) rfl dX11_putBehind_20 ?_
      have kg9 : kG (x) ((F_w_append (x) (77) (w1)).2) := (kG_tr (kG_rf _) (kG_of (F_w_append_fr (x) (77) (w1)) (by first | decide | (intro h9; simp at h9; done) | (intro h9; simp at h9; omega)) (by first | decide | (intro h9; simp at h9; done) | (intro h9; simp at h9; omega))))
      have eM9 : M = kM ((F_w_append (x) (77) (w1)).2) := hkM.trans (kG_M kg9).symm
      have eW9 : wl = kWl ((F_w_append (x) (77) (w1)).2) := hkW.trans (kG_W kg9).symm
      have eP9 := (kG_p kg9).1
      have eS9 := (kG_p kg9).2
      have kl1 := kle.1
      have kl2 := kle.2
      have kfn : kLe (F_r_run ((F_w_append (x) (77) (w1)).2) (77) (77)).2 (F_t_putBehind x w1).2 := by
        rw [← hres]
        by_cases hc9 : ((F_r_run ((F_w_append (x) (77) (w1)).2) (77) (77)).1) = (0)
        · rw [if_pos hc9]
          exact (kLe_rf _)
        · rw [if_neg hc9]
          exact (kLe_rf _)
      have kf1 := kfn.1
      have kf2 := kfn.2
      have kd9 : kLe ((F_w_append (x) (77) (w1)).2) (F_r_run ((F_w_append (x) (77) (w1)).2) (77) (77)).2 := (F_r_run_le rfl (by omega) ((F_w_append (x) (77) (w1)).2) (77))
      have kd1 := kd9.1
      have kd2 := kd9.2
      have hFc : ∀ q, va_A (kWd cI cJ cZ cR wl ad M ((F_w_append (x) (77) (w1)).2)) H.size q → A q := fun q hq => Or.elim hq (fun ⟨k, e, hk⟩ => hD.2 k (q, e) hk) (fun hk => hA q (Nat.le_trans hS.1 hk))
      refine va_calli (va_runV (b := ad (70)) (As := [.ref (ad (77)), .ref (ad (77))]) (rest := []) ⟨hx, hb, hml, hown, hts⟩ (c_r_run l dC dI ad cI cJ cZ cR M wl H.size ((F_w_append (x) (77) (w1)).2) (77) (77)  hM rfl (by omega) rfl (by omega) eM9 eW9 oa ga.1 rfl rfl ga.1.2.1) (cwV 2 hts gX11_putBehind_X6_run rfl rfl rfl (by decide +kernel) ⟨Nat.le_of_ble_eq_true rfl, Nat.le_of_ble_eq_true rfl⟩) ⟨fun a U g mk q => by obtain ⟨q0, q1, qP, qK, qD, qN⟩ := q; exact ⟨q0, q1, qP, va_K.moved (u := U) (U := U.calling g mk a) (Vm.Alike.refl U.vm) qK, qD, kNw.same (u := U) (U := U.calling g mk a) rfl qN⟩, va_recv hK hP (ci := 6) (q0 := 70) rfl (kg70 (by omega)), fun U hU hW => ⟨rfl, by rw [hU], by rw [hU]; exact hP, va_K.moved hW.alike hK, hD.weaken (fun _ _ _ _ => trivial), kNw.warm hW hNw⟩⟩ rfl rfl hl.1 rfl (lv_room (Nat.le_of_ble_eq_true rfl)) dX11_putBehind_23 ⟨(show _ ≤ kPo x - kPo (F_t_putBehind x w1).2 by omega), (show _ ≤ kPs x - kPs (F_t_putBehind x w1).2 by omega)⟩) hS (fun q _ h => hFc q h) hFc (fun r9 u9 t H1 locs ht hvm hw hB hz1 hk1 hS => ?_)
      obtain ⟨hP1, hK1, hD1⟩ := hB
      rw [ht] at hP1
      obtain ⟨z9, ad⟩ := u9
      obtain ⟨hw1, hw2, hw3⟩ := hw
      rw [hw1]
      have hw2 : z9 = (F_r_run ((F_w_append (x) (77) (w1)).2) (77) (77)).2 := hw2
      subst hw2
      have hw3 := fun c (hc : c < 87) => (show ad c = _ from hw3 c hc)
      have had : ∀ c, c < 87 → ad c = ao c := fun c hc => (hw3 c hc).trans (had c hc)
      have hl : lv_has ls 2 [(0, .ref (ad (0))), (1, .ref (ad (w1)))] := by
        rw [hw3 (0) (by omega), hw3 (w1) (by omega)]
        exact hl
      have hP1 : va_P (dC, dI) vwCl (kWd cI cJ cZ cR (kWl (F_r_run ((F_w_append (x) (77) (w1)).2) (77) (77)).2) ad (kM (F_r_run ((F_w_append (x) (77) (w1)).2) (77) (77)).2) (F_r_run ((F_w_append (x) (77) (w1)).2) (77) (77)).2) H1 := hP1
      have hD1 : va_D A (kWd cI cJ cZ cR (kWl (F_r_run ((F_w_append (x) (77) (w1)).2) (77) (77)).2) ad (kM (F_r_run ((F_w_append (x) (77) (w1)).2) (77) (77)).2) (F_r_run ((F_w_append (x) (77) (w1)).2) (77) (77)).2) := hD1.weaken (B := A) (fun _ q _ h => hFc q.1 h)
      have kle : kLe x (F_r_run ((F_w_append (x) (77) (w1)).2) (77) (77)).2 := ⟨by omega, by omega⟩
      refine W.widen (k := kPo x - kPo (F_r_run ((F_w_append (x) (77) (w1)).2) (77) (77)).2) (n := kPs x - kPs (F_r_run ((F_w_append (x) (77) (w1)).2) (77) (77)).2) (by omega) (by omega) ?_
      obtain ⟨M, hkM⟩ : ∃ M9, M9 = kM (F_r_run ((F_w_append (x) (77) (w1)).2) (77) (77)).2 := ⟨_, rfl⟩
      obtain ⟨wl, hkW⟩ : ∃ W9, W9 = kWl (F_r_run ((F_w_append (x) (77) (w1)).2) (77) (77)).2 := ⟨_, rfl⟩
      rw [← hkM, ← hkW] at hP1 hD1
      have hM : 87 ≤ M := by rw [hkM]; exact kM_ge _
      have hP := hP1
      have hD := hD1
      generalize H1 = H at hP hS ⊢
      have rg := run_G oa (w1 := 77) (w2 := 77) rfl rfl rfl (by decide) ga.1 ga.1.2.1
      refine wi_if_eq (tgt := 33) hx hb (kR01 (Or.inr rg.2.2.2)) dX11_putBehind_26 (by decide) (fun c_26 => ?_) (fun c_26 => ?_)
      · skip
        rw [if_pos c_26] at hres
        refine lv_iconst (v := iI (0 : Int)) hx hb dX11_putBehind_33 (by decide) ?_
        have kg9 : kG ((F_r_run ((F_w_append (x) (77) (w1)).2) (77) (77)).2) ((F_r_run ((F_w_append (x) (77) (w1)).2) (77) (77)).2) := (kG_rf _)
        have eM9 : M = kM ((F_r_run ((F_w_append (x) (77) (w1)).2) (77) (77)).2) := hkM.trans (kG_M kg9).symm
        have eW9 : wl = kWl ((F_r_run ((F_w_append (x) (77) (w1)).2) (77) (77)).2) := hkW.trans (kG_W kg9).symm
        have eP9 := (kG_p kg9).1
        have eS9 := (kG_p kg9).2
        have kl1 := kle.1
        have kl2 := kle.2
        have hF2 : (F_t_putBehind x w1).2 = (F_r_run ((F_w_append (x) (77) (w1)).2) (77) (77)).2 := by
          have h9 := congrArg Prod.snd hres
          exact h9.symm
        refine W.widen (k := kPo x - kPo (F_t_putBehind x w1).2) (n := kPs x - kPs (F_t_putBehind x w1).2) (by rw [hF2]; omega) (by rw [hF2]; omega) ?_
        exact W.zret (v := iI ((0 : Int))) hx hb hr (kz _ (by first | assumption | omega)) (fun t ht hW => ⟨⟨iI ((0 : Int)), ((F_r_run ((F_w_append (x) (77) (w1)).2) (77) (77)).2, ad), rfl, ⟨(by have h9 := congrArg (fun z : Int × KS => iI z.1) hres; exact h9), (by have h9 := congrArg (fun z : Int × KS => z.2) hres; exact h9), had⟩, by rw [ht]; show va_P (dC, dI) vwCl (kWd cI cJ cZ cR (kWl ((F_r_run ((F_w_append (x) (77) (w1)).2) (77) (77)).2)) ad (kM ((F_r_run ((F_w_append (x) (77) (w1)).2) (77) (77)).2)) ((F_r_run ((F_w_append (x) (77) (w1)).2) (77) (77)).2)) H; rw [← eM9, ← eW9]; exact hP, va_K.moved hW.alike hK, by show va_D A (kWd cI cJ cZ cR (kWl ((F_r_run ((F_w_append (x) (77) (w1)).2) (77) (77)).2)) ad (kM ((F_r_run ((F_w_append (x) (77) (w1)).2) (77) (77)).2)) ((F_r_run ((F_w_append (x) (77) (w1)).2) (77) (77)).2)); rw [← eM9, ← eW9]; exact hD⟩, hS.F ht⟩) hS.2.2 dX11_putBehind_34
      · skip
        rw [if_neg c_26] at hres
        refine lv_iconst (v := iI (1 : Int)) hx hb dX11_putBehind_29 (by decide) ?_
        refine lv_goto (tgt := 34) hx hb dX11_putBehind_30 (by decide) ?_
        have kg9 : kG ((F_r_run ((F_w_append (x) (77) (w1)).2) (77) (77)).2) ((F_r_run ((F_w_append (x) (77) (w1)).2) (77) (77)).2) := (kG_rf _)
        have eM9 : M = kM ((F_r_run ((F_w_append (x) (77) (w1)).2) (77) (77)).2) := hkM.trans (kG_M kg9).symm
        have eW9 : wl = kWl ((F_r_run ((F_w_append (x) (77) (w1)).2) (77) (77)).2) := hkW.trans (kG_W kg9).symm
        have eP9 := (kG_p kg9).1
        have eS9 := (kG_p kg9).2
        have kl1 := kle.1
        have kl2 := kle.2
        have hF2 : (F_t_putBehind x w1).2 = (F_r_run ((F_w_append (x) (77) (w1)).2) (77) (77)).2 := by
          have h9 := congrArg Prod.snd hres
          exact h9.symm
        refine W.widen (k := kPo x - kPo (F_t_putBehind x w1).2) (n := kPs x - kPs (F_t_putBehind x w1).2) (by rw [hF2]; omega) (by rw [hF2]; omega) ?_
        exact W.zret (v := iI ((1 : Int))) hx hb hr (kz _ (by first | assumption | omega)) (fun t ht hW => ⟨⟨iI ((1 : Int)), ((F_r_run ((F_w_append (x) (77) (w1)).2) (77) (77)).2, ad), rfl, ⟨(by have h9 := congrArg (fun z : Int × KS => iI z.1) hres; exact h9), (by have h9 := congrArg (fun z : Int × KS => z.2) hres; exact h9), had⟩, by rw [ht]; show va_P (dC, dI) vwCl (kWd cI cJ cZ cR (kWl ((F_r_run ((F_w_append (x) (77) (w1)).2) (77) (77)).2)) ad (kM ((F_r_run ((F_w_append (x) (77) (w1)).2) (77) (77)).2)) ((F_r_run ((F_w_append (x) (77) (w1)).2) (77) (77)).2)) H; rw [← eM9, ← eW9]; exact hP, va_K.moved hW.alike hK, by show va_D A (kWd cI cJ cZ cR (kWl ((F_r_run ((F_w_append (x) (77) (w1)).2) (77) (77)).2)) ad (kM ((F_r_run ((F_w_append (x) (77) (w1)).2) (77) (77)).2)) ((F_r_run ((F_w_append (x) (77) (w1)).2) (77) (77)).2)); rw [← eM9, ← eW9]; exact hD⟩, hS.F ht⟩) hS.2.2 dX11_putBehind_34
  exact key M wl ao _ _ ls hM hkM hkW (fun _ _ => rfl) hP hD hS hl
