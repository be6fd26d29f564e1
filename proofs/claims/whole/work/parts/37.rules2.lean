-- deps: 30 31 32 33 34 36
theorem F_s_powerOf_1 {x : KS} (sx : scX x) (k : Int) : 1 ≤ (F_s_powerOf x k).1 := by
  unfold F_s_powerOf
  repeat' split
  · simp
  · simp
  · exact scX_1 sx k.toNat (by omega)
theorem F_s_codeOf_s_RL : ∀ (n : Nat) (y : KS) (v g b q i : Int), iRL q → iRL (F_s_codeOf_s n 0 y v g b q i).1 := by
  intro n
  induction n with
  | zero => intro y v g b q i h; exact ⟨by show _ ≤ (0 : Int); decide, by show (0 : Int) < _; decide⟩
  | succ n ih =>
    intro y v g b q i h
    rw [F_s_codeOf_e0]
    split
    · exact h
    · exact ih _ _ _ _ _ _ (iO_RL _ _)
theorem F_s_codeOf_RL (x : KS) (v : Int) : iRL (F_s_codeOf x v).1 := F_s_codeOf_s_RL _ _ _ _ _ _ _ ⟨by decide, by decide⟩
theorem scX_of {S : List (Nat × Nat)} {A : List Nat} {x y : KS} (h : ksame S A x y) (h1 : ∀ q ∈ S, q.1 ≠ 1) (h2 : 2 ∉ A) (h3 : 3 ∉ A) (sx : scX x) : scX y := by
  unfold scX scR
  have e1 : y.1 1 = x.1 1 := funext fun k => h.1 1 k (fun hm => h1 _ hm rfl)
  rw [e1, h.2 2 h2, h.2 3 h3]
  exact sx
theorem F_j_isLeast_01 (x : KS) (v : Int) : (F_j_isLeast x v).1 = 0 ∨ (F_j_isLeast x v).1 = 1 := by
  unfold F_j_isLeast
  repeat' split
  all_goals first | exact Or.inl rfl | exact Or.inr rfl
theorem jnR_of {S : List (Nat × Nat)} {A : List Nat} {x y : KS} (h : ksame S A x y) (h1 : (56, 1) ∉ S) (h2 : 57 ∉ A) (jr : jnR x) : jnR y := by
  unfold jnR
  rw [h.1 56 1 h1, h.2 57 h2]
  exact jr
theorem ruR_of {S : List (Nat × Nat)} {A : List Nat} {x y : KS} (h : ksame S A x y) (h1 : (58, 6) ∉ S) (h2 : 59 ∉ A) (h3 : 60 ∉ A) (h4 : 61 ∉ A) (h5 : 62 ∉ A) (h6 : 63 ∉ A) (ru : ruR x) : ruR y := by
  unfold ruR
  rw [h.1 58 6 h1, h.2 59 h2, h.2 60 h3, h.2 61 h4, h.2 62 h5, h.2 63 h6]
  exact ru
theorem F_u_spanOf_b {x : KS} (ru : ruR x) (r b : Int) : 0 ≤ (F_u_spanOf x r b).1 ∧ (F_u_spanOf x r b).1 ≤ 20 := by
  obtain ⟨_, rn, rl, rr, rc, rd⟩ := ru
  unfold F_u_spanOf
  repeat' split
  all_goals first | exact rl _ | exact rr _ | exact ⟨by show (0 : Int) ≤ 0; decide, by show (0 : Int) ≤ 20; decide⟩
def F_u_arePartsLeast (x : KS) (g : Int) (v : Int) : Int × KS := (if ((F_j_isLeast (x) (((F_s_firstOf (x) ((g) - ((1 : Int)))).1) + ((v) / ((x).1 (1) 2)))).1) = (0) then ((0 : Int), x) else (if ((F_j_isLeast (x) (((F_s_firstOf (x) ((g) - ((1 : Int)))).1) + ((v) % ((F_s_powerOf (x) ((g) - ((1 : Int)))).1)))).1) = (0) then ((0 : Int), x) else ((1 : Int), x)))
set_option maxHeartbeats 4000000 in
set_option maxRecDepth 100000 in
/-- LikeWords$Rules, arePartsLeast -/
theorem c_u_arePartsLeast (l : Launch) (dC : Nat → ClassId) (dI : Nat → Nat → Nat) (ad : Nat → Nat) (cI cJ cZ cR : ClassId) (M wl sz : Nat) (x : KS) (g : Int) (v : Int) (hM : 87 ≤ M) (sx : scX x) (jr : jnR x) (v0 : 0 ≤ v) (v1 : v ≤ 10000) (g0 : 1 ≤ g) (g1 : g ≤ 20) : Met l yX7_arePartsLeast wsX7_arePartsLeast ({ frames := 1, cells := 0, slots := 0, locals := 21 }) (kPc dC dI ad cI cJ cZ cR M wl sz x [.ref (ad 58), .ref (ad 56), .int (iI g), .int (iI v)]) (va_Qi (fun (r : Int32) (u : KS) => r = iI (F_u_arePartsLeast x g v).1 ∧ u = (F_u_arePartsLeast x g v).2) (kAt dC dI ad cI cJ cZ cR M wl (va_A (kWd cI cJ cZ cR wl ad M (x)) sz)) (va_A (kWd cI cJ cZ cR wl ad M (x)) sz)) 0 0 (va_A (kWd cI cJ cZ cR wl ad M (x)) sz) := by
  refine Met.ofW (cc := cX7_arePartsLeast) (maxL := 5) (ret := (some .boolean)) (by decide) rfl ?_
  intro p e s m args below meth c s₁ B hml hv
  obtain ⟨rfl, hsz, hP, hK, hD0, hNw⟩ := hv
  have hx := B.exec
  have hb := B.bytes
  have hr := B.returns
  have hts := atoms_spec (ws := wsX7_arePartsLeast) B.pre
  have hown : s.vm.findClass RX7 = some m.cls := findClass_of_methodNamed B.named
  have hlocks := B.notSynchronized
  have hinX7 : ∀ w ∈ u_ws RX7 TX7 7, w ∈ wsX7_arePartsLeast := by decide +kernel
  have hinX8 : ∀ w ∈ u_ws RX8 TX8 4, w ∈ wsX7_arePartsLeast := by decide +kernel
  subst hsz
  have hD := hD0.self (sz := s.heap.size)
  generalize hAe : va_A (kWd cI cJ cZ cR wl ad M (x)) s.heap.size = A at hD ⊢
  have hA : ∀ q : Nat, s.heap.size ≤ q → A q := fun q h => by rw [← hAe]; exact Or.inr h
  have hS : va_S A s.heap s.heap [] := va_S.rf
  have hl := lv_entry ([.ref (ad 58), .ref (ad 56), .int (iI g), .int (iI v)]) (n := 5) (Nat.le_of_ble_eq_true rfl)
  rw [lg_entry_eq]
  generalize (lg_sl ([.ref (ad 58), .ref (ad 56), .int (iI g), .int (iI v)]) ++ List.replicate (5 - (lg_sl ([.ref (ad 58), .ref (ad 56), .int (iI g), .int (iI v)])).length) Slot.unset).toArray = ls at hl ⊢
  have hl : lv_has ls 5 [(0, .ref (ad (58))), (1, .ref (ad (56))), (2, .int (iI (g))), (3, .int (iI (v)))] := hl
  have sc := sx.1
  have l2 := sc.1
  have fb := F_s_firstOf_b sc (g - 1)
  have p1 := F_s_powerOf_1 sx (g - 1)
  have p2 := F_s_powerOf_b sc (g - 1)
  have dv := kdiv_b (a := v) (b := x.1 1 2) l2.1 v0
  have m0 := Int.emod_nonneg v (show (F_s_powerOf x (g - 1)).1 ≠ 0 by omega)
  have m1 := Int.emod_lt_of_pos v (show 0 < (F_s_powerOf x (g - 1)).1 by omega)
  have key : ∀ (H : Heap) (locs : List Loc), va_P (dC, dI) vwCl (kWd cI cJ cZ cR wl ad M (x)) H → va_S A s.heap H locs → W p l e (headSpec wsX7_arePartsLeast ({ frames := 1, cells := 0, slots := 0, locals := 21 })).room s m ([.ref (ad 58), .ref (ad 56), .int (iI g), .int (iI v)] : List Value).toArray below meth c H locs 0 0 (MQ below (va_Qi (fun (r : Int32) (u : KS) => r = iI (F_u_arePartsLeast x g v).1 ∧ u = (F_u_arePartsLeast x g v).2) (kAt dC dI ad cI cJ cZ cR M wl A) A) ([.ref (ad 58), .ref (ad 56), .int (iI g), .int (iI v)] : List Value).toArray s 0 0 A) (F0 m 0 ls []) := by
    intro H locs hP hS
    have hres : (if ((F_j_isLeast (x) (((F_s_firstOf (x) ((g) - ((1 : Int)))).1) + ((v) / ((x).1 (1) 2)))).1) = (0) then ((0 : Int), x) else (if ((F_j_isLeast (x) (((F_s_firstOf (x) ((g) - ((1 : Int)))).1) + ((v) % ((F_s_powerOf (x) ((g) - ((1 : Int)))).1)))).1) = (0) then ((0 : Int), x) else ((1 : Int), x))) = F_u_arePartsLeast x g v := rfl
    refine lv_aload_n hx hb dX7_arePartsLeast_0 rfl (lv_at hl 0 rfl) ?_
    refine va_get (D := (dC, dI)) (ci := 7) (v := .ref (ad (1))) (C := RX7) (T := TX7) (N := 7) hx hb hts hinX7 hown hK hP (58) (kg58 (by omega)) rfl 0 (by decide) (hts (.fieldLink RX7 9 "LikeWords$Rules" "scale" "LLikeWords$Scale;") (by decide +kernel)) (fun _ h9 => h9) rfl dX7_arePartsLeast_1 ?_
    refine lv_iload_n hx hb dX7_arePartsLeast_4 rfl (lv_at hl 2 rfl) ?_
    refine lv_iconst (v := iI (1 : Int)) hx hb dX7_arePartsLeast_5 (by decide) ?_
    refine wi_isub hx hb dX7_arePartsLeast_6 ?_
    have hFc : ∀ q, va_A (kWd cI cJ cZ cR wl ad M (x)) H.size q → A q := fun q hq => Or.elim hq (fun ⟨k, e, hk⟩ => hD.2 k (q, e) hk) (fun hk => hA q (Nat.le_trans hS.1 hk))
    refine va_calli (va_runV (b := ad (1)) (As := [.int (iI ((g) - ((1 : Int))))]) (rest := []) ⟨hx, hb, hml, hown, hts⟩ (c_s_firstOf l dC dI ad cI cJ cZ cR M wl H.size (x)  ((g) - ((1 : Int))) hM sc (by unfold iR; omega)) (cwV 1 hts gX7_arePartsLeast_X8_firstOf rfl rfl rfl (by decide +kernel) ⟨Nat.le_of_ble_eq_true rfl, Nat.le_of_ble_eq_true rfl⟩) ⟨fun a U g mk q => by obtain ⟨q0, q1, qP, qK, qD, qN⟩ := q; exact ⟨q0, q1, qP, va_K.moved (u := U) (U := U.calling g mk a) (Vm.Alike.refl U.vm) qK, qD, kNw.same (u := U) (U := U.calling g mk a) rfl qN⟩, va_recv hK hP (ci := 8) (q0 := 1) rfl (kg1 (by omega)), fun U hU hW => ⟨rfl, by rw [hU], by rw [hU]; exact hP, va_K.moved hW.alike hK, hD.weaken (fun _ _ _ _ => trivial), kNw.warm hW hNw⟩⟩ rfl rfl hl.1 rfl (lv_room (Nat.le_of_ble_eq_true rfl)) dX7_arePartsLeast_7 ⟨Nat.le_of_ble_eq_true rfl, Nat.le_of_ble_eq_true rfl⟩) hS (fun q _ h => hFc q h) hFc (fun r9 u9 t H1 locs ht hvm hw hB hz1 hk1 hS => ?_)
    obtain ⟨hP1, hK1, hD1⟩ := hB
    rw [ht] at hP1
    obtain ⟨hw1, hw2⟩ := hw
    rw [hw2] at hP1 hD1
    rw [hw1]
    rw [F_s_firstOf_2] at hP1 hD1
    have hD2 := hD1.weaken (B := A) (fun _ q _ h => hFc q.1 h)
    have hP := hP1
    have hD := hD2
    generalize H1 = H at hP hS ⊢
    refine lv_istore (lv' := [(4, .int (iI ((F_s_firstOf (x) ((g) - ((1 : Int)))).1))), (0, .ref (ad (58))), (1, .ref (ad (56))), (2, .int (iI (g))), (3, .int (iI (v)))]) hx hb dX7_arePartsLeast_10 hl (by decide) rfl (fun ls hl => ?_)
    refine lv_aload_n hx hb dX7_arePartsLeast_12 rfl (lv_at hl 2 rfl) ?_
    refine lv_iload hx hb dX7_arePartsLeast_13 (lv_at hl 0 rfl) ?_
    refine lv_iload_n hx hb dX7_arePartsLeast_15 rfl (lv_at hl 4 rfl) ?_
    refine lv_aload_n hx hb dX7_arePartsLeast_16 rfl (lv_at hl 1 rfl) ?_
    refine va_get (D := (dC, dI)) (ci := 7) (v := .ref (ad (1))) (C := RX7) (T := TX7) (N := 7) hx hb hts hinX7 hown hK hP (58) (kg58 (by omega)) rfl 0 (by decide) (hts (.fieldLink RX7 9 "LikeWords$Rules" "scale" "LLikeWords$Scale;") (by decide +kernel)) (fun _ h9 => h9) rfl dX7_arePartsLeast_17 ?_
    refine va_get (D := (dC, dI)) (ci := 8) (v := .int (iI ((x).1 (1) 2))) (C := RX8) (T := TX8) (N := 4) hx hb hts hinX8 hown hK hP (1) (kg1 (by omega)) rfl 2 (by decide) (hts (.fieldLink RX7 62 "LikeWords$Scale" "letterCount" "I") (by decide +kernel)) (fun _ h9 => h9) rfl dX7_arePartsLeast_20 ?_
    refine wi_idiv hx hb (by first | assumption | (unfold iR; omega) | exact kR01 (by assumption)) (by first | assumption | (unfold iR; omega) | exact kR01 (by assumption)) (by omega) (by omega) dX7_arePartsLeast_23 ?_
    refine wi_iadd hx hb dX7_arePartsLeast_24 ?_
    have hFc : ∀ q, va_A (kWd cI cJ cZ cR wl ad M (x)) H.size q → A q := fun q hq => Or.elim hq (fun ⟨k, e, hk⟩ => hD.2 k (q, e) hk) (fun hk => hA q (Nat.le_trans hS.1 hk))
    refine va_calli (va_runV (b := ad (56)) (As := [.int (iI (((F_s_firstOf (x) ((g) - ((1 : Int)))).1) + ((v) / ((x).1 (1) 2))))]) (rest := []) ⟨hx, hb, hml, hown, hts⟩ (c_j_isLeast l dC dI ad cI cJ cZ cR M wl H.size (x)  (((F_s_firstOf (x) ((g) - ((1 : Int)))).1) + ((v) / ((x).1 (1) 2))) hM (by unfold iR; omega) jr) (cwV 1 hts gX7_arePartsLeast_X1_isLeast rfl rfl rfl (by decide +kernel) ⟨Nat.le_of_ble_eq_true rfl, Nat.le_of_ble_eq_true rfl⟩) ⟨fun a U g mk q => by obtain ⟨q0, q1, qP, qK, qD, qN⟩ := q; exact ⟨q0, q1, qP, va_K.moved (u := U) (U := U.calling g mk a) (Vm.Alike.refl U.vm) qK, qD, kNw.same (u := U) (U := U.calling g mk a) rfl qN⟩, va_recv hK hP (ci := 1) (q0 := 56) rfl (kg56 (by omega)), fun U hU hW => ⟨rfl, by rw [hU], by rw [hU]; exact hP, va_K.moved hW.alike hK, hD.weaken (fun _ _ _ _ => trivial), kNw.warm hW hNw⟩⟩ rfl rfl hl.1 rfl (lv_room (Nat.le_of_ble_eq_true rfl)) dX7_arePartsLeast_25 ⟨Nat.le_of_ble_eq_true rfl, Nat.le_of_ble_eq_true rfl⟩) hS (fun q _ h => hFc q h) hFc (fun r9 u9 t H1 locs ht hvm hw hB hz1 hk1 hS => ?_)
    obtain ⟨hP1, hK1, hD1⟩ := hB
    rw [ht] at hP1
    obtain ⟨hw1, hw2⟩ := hw
    rw [hw2] at hP1 hD1
    rw [hw1]
    rw [F_j_isLeast_2] at hP1 hD1
    have hD2 := hD1.weaken (B := A) (fun _ q _ h => hFc q.1 h)
    have hP := hP1
    have hD := hD2
    generalize H1 = H at hP hS ⊢
    refine wi_if_eq (tgt := 57) hx hb (kR01 (F_j_isLeast_01 _ _)) dX7_arePartsLeast_28 (by decide) (fun c_28 => ?_) (fun c_28 => ?_)
    · skip
      rw [if_pos c_28] at hres
      refine lv_iconst (v := iI (0 : Int)) hx hb dX7_arePartsLeast_57 (by decide) ?_
      exact W.zret (v := iI ((0 : Int))) hx hb hr (kz _ (by first | assumption | omega)) (fun t ht hW => ⟨⟨iI ((0 : Int)), x, rfl, ⟨(by have h9 := congrArg (fun z : Int × KS => iI z.1) hres; exact h9), (by have h9 := congrArg (fun z : Int × KS => z.2) hres; exact h9)⟩, by rw [ht]; exact hP, va_K.moved hW.alike hK, hD⟩, hS.F ht⟩) hS.2.2 dX7_arePartsLeast_58
    · skip
      rw [if_neg c_28] at hres
      refine lv_aload_n hx hb dX7_arePartsLeast_31 rfl (lv_at hl 2 rfl) ?_
      refine lv_iload hx hb dX7_arePartsLeast_32 (lv_at hl 0 rfl) ?_
      refine lv_iload_n hx hb dX7_arePartsLeast_34 rfl (lv_at hl 4 rfl) ?_
      refine lv_aload_n hx hb dX7_arePartsLeast_35 rfl (lv_at hl 1 rfl) ?_
      refine va_get (D := (dC, dI)) (ci := 7) (v := .ref (ad (1))) (C := RX7) (T := TX7) (N := 7) hx hb hts hinX7 hown hK hP (58) (kg58 (by omega)) rfl 0 (by decide) (hts (.fieldLink RX7 9 "LikeWords$Rules" "scale" "LLikeWords$Scale;") (by decide +kernel)) (fun _ h9 => h9) rfl dX7_arePartsLeast_36 ?_
      refine lv_iload_n hx hb dX7_arePartsLeast_39 rfl (lv_at hl 3 rfl) ?_
      refine lv_iconst (v := iI (1 : Int)) hx hb dX7_arePartsLeast_40 (by decide) ?_
      refine wi_isub hx hb dX7_arePartsLeast_41 ?_
      have hFc : ∀ q, va_A (kWd cI cJ cZ cR wl ad M (x)) H.size q → A q := fun q hq => Or.elim hq (fun ⟨k, e, hk⟩ => hD.2 k (q, e) hk) (fun hk => hA q (Nat.le_trans hS.1 hk))
      refine va_calli (va_runV (b := ad (1)) (As := [.int (iI ((g) - ((1 : Int))))]) (rest := [.int (iI (v)), .int (iI ((F_s_firstOf (x) ((g) - ((1 : Int)))).1)), .ref (ad (56))]) ⟨hx, hb, hml, hown, hts⟩ (c_s_powerOf l dC dI ad cI cJ cZ cR M wl H.size (x)  ((g) - ((1 : Int))) hM sc (by unfold iR; omega)) (cwV 1 hts gX7_arePartsLeast_X8_powerOf rfl rfl rfl (by decide +kernel) ⟨Nat.le_of_ble_eq_true rfl, Nat.le_of_ble_eq_true rfl⟩) ⟨fun a U g mk q => by obtain ⟨q0, q1, qP, qK, qD, qN⟩ := q; exact ⟨q0, q1, qP, va_K.moved (u := U) (U := U.calling g mk a) (Vm.Alike.refl U.vm) qK, qD, kNw.same (u := U) (U := U.calling g mk a) rfl qN⟩, va_recv hK hP (ci := 8) (q0 := 1) rfl (kg1 (by omega)), fun U hU hW => ⟨rfl, by rw [hU], by rw [hU]; exact hP, va_K.moved hW.alike hK, hD.weaken (fun _ _ _ _ => trivial), kNw.warm hW hNw⟩⟩ rfl rfl hl.1 rfl (lv_room (Nat.le_of_ble_eq_true rfl)) dX7_arePartsLeast_42 ⟨Nat.le_of_ble_eq_true rfl, Nat.le_of_ble_eq_true rfl⟩) hS (fun q _ h => hFc q h) hFc (fun r9 u9 t H1 locs ht hvm hw hB hz1 hk1 hS => ?_)
      obtain ⟨hP1, hK1, hD1⟩ := hB
      rw [ht] at hP1
      obtain ⟨hw1, hw2⟩ := hw
      rw [hw2] at hP1 hD1
      rw [hw1]
      rw [F_s_powerOf_2] at hP1 hD1
      have hD2 := hD1.weaken (B := A) (fun _ q _ h => hFc q.1 h)
      have hP := hP1
      have hD := hD2
      generalize H1 = H at hP hS ⊢
      refine wi_irem hx hb (by first | assumption | (unfold iR; omega) | exact kR01 (by assumption)) (by first | assumption | (unfold iR; omega) | exact kR01 (by assumption)) (by omega) (by omega) dX7_arePartsLeast_45 ?_
      refine wi_iadd hx hb dX7_arePartsLeast_46 ?_
      have hFc : ∀ q, va_A (kWd cI cJ cZ cR wl ad M (x)) H.size q → A q := fun q hq => Or.elim hq (fun ⟨k, e, hk⟩ => hD.2 k (q, e) hk) (fun hk => hA q (Nat.le_trans hS.1 hk))
      refine va_calli (va_runV (b := ad (56)) (As := [.int (iI (((F_s_firstOf (x) ((g) - ((1 : Int)))).1) + ((v) % ((F_s_powerOf (x) ((g) - ((1 : Int)))).1))))]) (rest := []) ⟨hx, hb, hml, hown, hts⟩ (c_j_isLeast l dC dI ad cI cJ cZ cR M wl H.size (x)  (((F_s_firstOf (x) ((g) - ((1 : Int)))).1) + ((v) % ((F_s_powerOf (x) ((g) - ((1 : Int)))).1))) hM (by unfold iR; omega) jr) (cwV 1 hts gX7_arePartsLeast_X1_isLeast rfl rfl rfl (by decide +kernel) ⟨Nat.le_of_ble_eq_true rfl, Nat.le_of_ble_eq_true rfl⟩) ⟨fun a U g mk q => by obtain ⟨q0, q1, qP, qK, qD, qN⟩ := q; exact ⟨q0, q1, qP, va_K.moved (u := U) (U := U.calling g mk a) (Vm.Alike.refl U.vm) qK, qD, kNw.same (u := U) (U := U.calling g mk a) rfl qN⟩, va_recv hK hP (ci := 1) (q0 := 56) rfl (kg56 (by omega)), fun U hU hW => ⟨rfl, by rw [hU], by rw [hU]; exact hP, va_K.moved hW.alike hK, hD.weaken (fun _ _ _ _ => trivial), kNw.warm hW hNw⟩⟩ rfl rfl hl.1 rfl (lv_room (Nat.le_of_ble_eq_true rfl)) dX7_arePartsLeast_47 ⟨Nat.le_of_ble_eq_true rfl, Nat.le_of_ble_eq_true rfl⟩) hS (fun q _ h => hFc q h) hFc (fun r9 u9 t H1 locs ht hvm hw hB hz1 hk1 hS => ?_)
      obtain ⟨hP1, hK1, hD1⟩ := hB
      rw [ht] at hP1
      obtain ⟨hw1, hw2⟩ := hw
      rw [hw2] at hP1 hD1
      rw [hw1]
      rw [F_j_isLeast_2] at hP1 hD1
      have hD2 := hD1.weaken (B := A) (fun _ q _ h => hFc q.1 h)
      have hP := hP1
      have hD := hD2
      generalize H1 = H at hP hS ⊢
      refine wi_if_eq (tgt := 57) hx hb (kR01 (F_j_isLeast_01 _ _)) dX7_arePartsLeast_50 (by decide) (fun c_50 => ?_) (fun c_50 => ?_)
      · skip
        rw [if_pos c_50] at hres
        refine lv_iconst (v := iI (0 : Int)) hx hb dX7_arePartsLeast_57 (by decide) ?_
        exact W.zret (v := iI ((0 : Int))) hx hb hr (kz _ (by first | assumption | omega)) (fun t ht hW => ⟨⟨iI ((0 : Int)), x, rfl, ⟨(by have h9 := congrArg (fun z : Int × KS => iI z.1) hres; exact h9), (by have h9 := congrArg (fun z : Int × KS => z.2) hres; exact h9)⟩, by rw [ht]; exact hP, va_K.moved hW.alike hK, hD⟩, hS.F ht⟩) hS.2.2 dX7_arePartsLeast_58
      · skip
        rw [if_neg c_50] at hres
        refine lv_iconst (v := iI (1 : Int)) hx hb dX7_arePartsLeast_53 (by decide) ?_
        refine lv_goto (tgt := 58) hx hb dX7_arePartsLeast_54 (by decide) ?_
        exact W.zret (v := iI ((1 : Int))) hx hb hr (kz _ (by first | assumption | omega)) (fun t ht hW => ⟨⟨iI ((1 : Int)), x, rfl, ⟨(by have h9 := congrArg (fun z : Int × KS => iI z.1) hres; exact h9), (by have h9 := congrArg (fun z : Int × KS => z.2) hres; exact h9)⟩, by rw [ht]; exact hP, va_K.moved hW.alike hK, hD⟩, hS.F ht⟩) hS.2.2 dX7_arePartsLeast_58
  exact key _ _ hP hS
theorem F_u_arePartsLeast_fr (x : KS) (g : Int) (v : Int) : ksame [] [] x (F_u_arePartsLeast x g v).2 := by
  unfold F_u_arePartsLeast
  by_cases hc : ((F_j_isLeast (x) (((F_s_firstOf (x) ((g) - ((1 : Int)))).1) + ((v) / ((x).1 (1) 2)))).1) = (0)
  · rw [if_pos hc]
    exact (km_rf _ _ _)
  · rw [if_neg hc]
    by_cases hc : ((F_j_isLeast (x) (((F_s_firstOf (x) ((g) - ((1 : Int)))).1) + ((v) % ((F_s_powerOf (x) ((g) - ((1 : Int)))).1)))).1) = (0)
    · rw [if_pos hc]
      exact (km_rf _ _ _)
    · rw [if_neg hc]
      exact (km_rf _ _ _)
theorem F_u_arePartsLeast_2 (x : KS) (g : Int) (v : Int) : (F_u_arePartsLeast x g v).2 = x := km_nil (F_u_arePartsLeast_fr x g v)
theorem F_u_arePartsLeast_01 (x : KS) (g v : Int) : (F_u_arePartsLeast x g v).1 = 0 ∨ (F_u_arePartsLeast x g v).1 = 1 := by
  unfold F_u_arePartsLeast
  repeat' split
  all_goals first | exact Or.inl rfl | exact Or.inr rfl
def F_u_keep (x : KS) (a : Int) (b : Int) : Int × KS := (if ((x).1 (58) 6) < ((40 : Int)) then ((1 : Int), kS (kA (kA (kA (kA (kA (x) (59) ((x).1 (58) 6).toNat (a)) (60) ((x).1 (58) 6).toNat ((F_s_spanOf (kA (x) (59) ((x).1 (58) 6).toNat (a)) (a)).1)) (62) ((x).1 (58) 6).toNat ((F_s_codeOf (kA (kA (x) (59) ((x).1 (58) 6).toNat (a)) (60) ((x).1 (58) 6).toNat ((F_s_spanOf (kA (x) (59) ((x).1 (58) 6).toNat (a)) (a)).1)) (a)).1)) (61) ((x).1 (58) 6).toNat ((F_s_spanOf (kA (kA (kA (x) (59) ((x).1 (58) 6).toNat (a)) (60) ((x).1 (58) 6).toNat ((F_s_spanOf (kA (x) (59) ((x).1 (58) 6).toNat (a)) (a)).1)) (62) ((x).1 (58) 6).toNat ((F_s_codeOf (kA (kA (x) (59) ((x).1 (58) 6).toNat (a)) (60) ((x).1 (58) 6).toNat ((F_s_spanOf (kA (x) (59) ((x).1 (58) 6).toNat (a)) (a)).1)) (a)).1)) (b)).1)) (63) ((x).1 (58) 6).toNat ((F_s_codeOf (kA (kA (kA (kA (x) (59) ((x).1 (58) 6).toNat (a)) (60) ((x).1 (58) 6).toNat ((F_s_spanOf (kA (x) (59) ((x).1 (58) 6).toNat (a)) (a)).1)) (62) ((x).1 (58) 6).toNat ((F_s_codeOf (kA (kA (x) (59) ((x).1 (58) 6).toNat (a)) (60) ((x).1 (58) 6).toNat ((F_s_spanOf (kA (x) (59) ((x).1 (58) 6).toNat (a)) (a)).1)) (a)).1)) (61) ((x).1 (58) 6).toNat ((F_s_spanOf (kA (kA (kA (x) (59) ((x).1 (58) 6).toNat (a)) (60) ((x).1 (58) 6).toNat ((F_s_spanOf (kA (x) (59) ((x).1 (58) 6).toNat (a)) (a)).1)) (62) ((x).1 (58) 6).toNat ((F_s_codeOf (kA (kA (x) (59) ((x).1 (58) 6).toNat (a)) (60) ((x).1 (58) 6).toNat ((F_s_spanOf (kA (x) (59) ((x).1 (58) 6).toNat (a)) (a)).1)) (a)).1)) (b)).1)) (b)).1)) (58) 6 (((x).1 (58) 6) + ((1 : Int)))) else ((0 : Int), x))
set_option maxHeartbeats 4000000 in
set_option maxRecDepth 100000 in
/-- LikeWords$Rules, keep -/
theorem c_u_keep (l : Launch) (dC : Nat → ClassId) (dI : Nat → Nat → Nat) (ad : Nat → Nat) (cI cJ cZ cR : ClassId) (M wl sz : Nat) (x : KS) (a : Int) (b : Int) (hM : 87 ≤ M) (sc : scR x) (ru : ruR x) (a0 : 0 ≤ a) (a1 : a ≤ 20000) (b0 : 0 ≤ b) (b1 : b ≤ 20000) : Met l yX7_keep wsX7_keep ({ frames := 2, cells := 0, slots := 0, locals := 48 }) (kPc dC dI ad cI cJ cZ cR M wl sz x [.ref (ad 58), .int (iI a), .int (iI b)]) (va_Qi (fun (r : Int32) (u : KS) => r = iI (F_u_keep x a b).1 ∧ u = (F_u_keep x a b).2) (kAt dC dI ad cI cJ cZ cR M wl (va_A (kWd cI cJ cZ cR wl ad M (x)) sz)) (va_A (kWd cI cJ cZ cR wl ad M (x)) sz)) 0 0 (va_A (kWd cI cJ cZ cR wl ad M (x)) sz) := by
  refine Met.ofW (cc := cX7_keep) (maxL := 3) (ret := (some .boolean)) (by decide) rfl ?_
  intro p e s m args below meth c s₁ B hml hv
  obtain ⟨rfl, hsz, hP, hK, hD0, hNw⟩ := hv
  have hx := B.exec
  have hb := B.bytes
  have hr := B.returns
  have hts := atoms_spec (ws := wsX7_keep) B.pre
  have hown : s.vm.findClass RX7 = some m.cls := findClass_of_methodNamed B.named
  have hlocks := B.notSynchronized
  have hinX7 : ∀ w ∈ u_ws RX7 TX7 7, w ∈ wsX7_keep := by decide +kernel
  subst hsz
  have hD := hD0.self (sz := s.heap.size)
  generalize hAe : va_A (kWd cI cJ cZ cR wl ad M (x)) s.heap.size = A at hD ⊢
  have hA : ∀ q : Nat, s.heap.size ≤ q → A q := fun q h => by rw [← hAe]; exact Or.inr h
  have hS : va_S A s.heap s.heap [] := va_S.rf
  have hl := lv_entry ([.ref (ad 58), .int (iI a), .int (iI b)]) (n := 3) (Nat.le_of_ble_eq_true rfl)
  rw [lg_entry_eq]
  generalize (lg_sl ([.ref (ad 58), .int (iI a), .int (iI b)]) ++ List.replicate (3 - (lg_sl ([.ref (ad 58), .int (iI a), .int (iI b)])).length) Slot.unset).toArray = ls at hl ⊢
  have hl : lv_has ls 3 [(0, .ref (ad (58))), (1, .int (iI (a))), (2, .int (iI (b)))] := hl
  have ru1 := ru.1
  have key : ∀ (H : Heap) (locs : List Loc), va_P (dC, dI) vwCl (kWd cI cJ cZ cR wl ad M (x)) H → va_S A s.heap H locs → W p l e (headSpec wsX7_keep ({ frames := 2, cells := 0, slots := 0, locals := 48 })).room s m ([.ref (ad 58), .int (iI a), .int (iI b)] : List Value).toArray below meth c H locs 0 0 (MQ below (va_Qi (fun (r : Int32) (u : KS) => r = iI (F_u_keep x a b).1 ∧ u = (F_u_keep x a b).2) (kAt dC dI ad cI cJ cZ cR M wl A) A) ([.ref (ad 58), .int (iI a), .int (iI b)] : List Value).toArray s 0 0 A) (F0 m 0 ls []) := by
    intro H locs hP hS
    have hres : (if ((x).1 (58) 6) < ((40 : Int)) then ((1 : Int), kS (kA (kA (kA (kA (kA (x) (59) ((x).1 (58) 6).toNat (a)) (60) ((x).1 (58) 6).toNat ((F_s_spanOf (kA (x) (59) ((x).1 (58) 6).toNat (a)) (a)).1)) (62) ((x).1 (58) 6).toNat ((F_s_codeOf (kA (kA (x) (59) ((x).1 (58) 6).toNat (a)) (60) ((x).1 (58) 6).toNat ((F_s_spanOf (kA (x) (59) ((x).1 (58) 6).toNat (a)) (a)).1)) (a)).1)) (61) ((x).1 (58) 6).toNat ((F_s_spanOf (kA (kA (kA (x) (59) ((x).1 (58) 6).toNat (a)) (60) ((x).1 (58) 6).toNat ((F_s_spanOf (kA (x) (59) ((x).1 (58) 6).toNat (a)) (a)).1)) (62) ((x).1 (58) 6).toNat ((F_s_codeOf (kA (kA (x) (59) ((x).1 (58) 6).toNat (a)) (60) ((x).1 (58) 6).toNat ((F_s_spanOf (kA (x) (59) ((x).1 (58) 6).toNat (a)) (a)).1)) (a)).1)) (b)).1)) (63) ((x).1 (58) 6).toNat ((F_s_codeOf (kA (kA (kA (kA (x) (59) ((x).1 (58) 6).toNat (a)) (60) ((x).1 (58) 6).toNat ((F_s_spanOf (kA (x) (59) ((x).1 (58) 6).toNat (a)) (a)).1)) (62) ((x).1 (58) 6).toNat ((F_s_codeOf (kA (kA (x) (59) ((x).1 (58) 6).toNat (a)) (60) ((x).1 (58) 6).toNat ((F_s_spanOf (kA (x) (59) ((x).1 (58) 6).toNat (a)) (a)).1)) (a)).1)) (61) ((x).1 (58) 6).toNat ((F_s_spanOf (kA (kA (kA (x) (59) ((x).1 (58) 6).toNat (a)) (60) ((x).1 (58) 6).toNat ((F_s_spanOf (kA (x) (59) ((x).1 (58) 6).toNat (a)) (a)).1)) (62) ((x).1 (58) 6).toNat ((F_s_codeOf (kA (kA (x) (59) ((x).1 (58) 6).toNat (a)) (60) ((x).1 (58) 6).toNat ((F_s_spanOf (kA (x) (59) ((x).1 (58) 6).toNat (a)) (a)).1)) (a)).1)) (b)).1)) (b)).1)) (58) 6 (((x).1 (58) 6) + ((1 : Int)))) else ((0 : Int), x)) = F_u_keep x a b := rfl
    refine lv_aload_n hx hb dX7_keep_0 rfl (lv_at hl 0 rfl) ?_
    refine va_get (D := (dC, dI)) (ci := 7) (v := .int (iI ((x).1 (58) 6))) (C := RX7) (T := TX7) (N := 7) hx hb hts hinX7 hown hK hP (58) (kg58 (by omega)) rfl 6 (by decide) (hts (.fieldLink RX7 32 "LikeWords$Rules" "held" "I") (by decide +kernel)) (fun _ h9 => h9) rfl dX7_keep_1 ?_
    refine lv_bipush (v := iI (40 : Int)) hx hb dX7_keep_4 (by decide) ?_
    refine wi_icmp_lt (tgt := 11) hx hb (by first | assumption | (unfold iR; omega) | exact kR01 (by assumption)) ⟨by decide, by decide⟩ dX7_keep_6 (by decide) (fun c_6 => ?_) (fun c_6 => ?_)
    · skip
      rw [if_pos c_6] at hres
      refine lv_aload_n hx hb dX7_keep_11 rfl (lv_at hl 0 rfl) ?_
      refine va_get (D := (dC, dI)) (ci := 7) (v := .ref (ad (59))) (C := RX7) (T := TX7) (N := 7) hx hb hts hinX7 hown hK hP (58) (kg58 (by omega)) rfl 1 (by decide) (hts (.fieldLink RX7 15 "LikeWords$Rules" "leftNumbers" "[I") (by decide +kernel)) (fun _ h9 => h9) rfl dX7_keep_12 ?_
      refine lv_aload_n hx hb dX7_keep_15 rfl (lv_at hl 0 rfl) ?_
      refine va_get (D := (dC, dI)) (ci := 7) (v := .int (iI ((x).1 (58) 6))) (C := RX7) (T := TX7) (N := 7) hx hb hts hinX7 hown hK hP (58) (kg58 (by omega)) rfl 6 (by decide) (hts (.fieldLink RX7 32 "LikeWords$Rules" "held" "I") (by decide +kernel)) (fun _ h9 => h9) rfl dX7_keep_16 ?_
      refine lv_iload_n hx hb dX7_keep_19 rfl (lv_at hl 1 rfl) ?_
      refine wi_iast (f := (x).2 (59)) (n := kLen (59)) hx hb hK hP hD hS (59) 0 (kgi kC59 (by omega) rfl) rfl (i := (x).1 (58) 6) (x := a) (by omega) (by show _ < ((40 : Nat) : Int); exact (by omega)) (kLen_lt _) dX7_keep_20 (fun H locs hP hD hS => ?_)
      rw [ksi kC59] at hP hD
      refine lv_aload_n hx hb dX7_keep_21 rfl (lv_at hl 0 rfl) ?_
      refine va_get (D := (dC, dI)) (ci := 7) (v := .ref (ad (60))) (C := RX7) (T := TX7) (N := 7) hx hb hts hinX7 hown hK hP (58) (kg58 (by omega)) rfl 2 (by decide) (hts (.fieldLink RX7 19 "LikeWords$Rules" "leftSpans" "[I") (by decide +kernel)) (fun _ h9 => h9) rfl dX7_keep_22 ?_
      refine lv_aload_n hx hb dX7_keep_25 rfl (lv_at hl 0 rfl) ?_
      refine va_get (D := (dC, dI)) (ci := 7) (v := .int (iI ((x).1 (58) 6))) (C := RX7) (T := TX7) (N := 7) hx hb hts hinX7 hown hK hP (58) (kg58 (by omega)) rfl 6 (by decide) (hts (.fieldLink RX7 32 "LikeWords$Rules" "held" "I") (by decide +kernel)) (fun _ h9 => h9) rfl dX7_keep_26 ?_
      refine lv_aload_n hx hb dX7_keep_29 rfl (lv_at hl 0 rfl) ?_
      refine va_get (D := (dC, dI)) (ci := 7) (v := .ref (ad (1))) (C := RX7) (T := TX7) (N := 7) hx hb hts hinX7 hown hK hP (58) (kg58 (by omega)) rfl 0 (by decide) (hts (.fieldLink RX7 9 "LikeWords$Rules" "scale" "LLikeWords$Scale;") (by decide +kernel)) (fun _ h9 => h9) rfl dX7_keep_30 ?_
      refine lv_iload_n hx hb dX7_keep_33 rfl (lv_at hl 1 rfl) ?_
      have hFc : ∀ q, va_A (kWd cI cJ cZ cR wl ad M (kA (x) (59) ((x).1 (58) 6).toNat (a))) H.size q → A q := fun q hq => Or.elim hq (fun ⟨k, e, hk⟩ => hD.2 k (q, e) hk) (fun hk => hA q (Nat.le_trans hS.1 hk))
      refine va_calli (va_runV (b := ad (1)) (As := [.int (iI (a))]) (rest := [.int (iI ((x).1 (58) 6)), .ref (ad (60))]) ⟨hx, hb, hml, hown, hts⟩ (c_s_spanOf l dC dI ad cI cJ cZ cR M wl H.size (kA (x) (59) ((x).1 (58) 6).toNat (a))  (a) hM (scR_same rfl rfl rfl sc) (by unfold iR; omega)) (cwV 1 hts gX7_keep_X8_spanOf rfl rfl rfl (by decide +kernel) ⟨Nat.le_of_ble_eq_true rfl, Nat.le_of_ble_eq_true rfl⟩) ⟨fun a U g mk q => by obtain ⟨q0, q1, qP, qK, qD, qN⟩ := q; exact ⟨q0, q1, qP, va_K.moved (u := U) (U := U.calling g mk a) (Vm.Alike.refl U.vm) qK, qD, kNw.same (u := U) (U := U.calling g mk a) rfl qN⟩, va_recv hK hP (ci := 8) (q0 := 1) rfl (kg1 (by omega)), fun U hU hW => ⟨rfl, by rw [hU], by rw [hU]; exact hP, va_K.moved hW.alike hK, hD.weaken (fun _ _ _ _ => trivial), kNw.warm hW hNw⟩⟩ rfl rfl hl.1 rfl (lv_room (Nat.le_of_ble_eq_true rfl)) dX7_keep_34 ⟨Nat.le_of_ble_eq_true rfl, Nat.le_of_ble_eq_true rfl⟩) hS (fun q _ h => hFc q h) hFc (fun r9 u9 t H1 locs ht hvm hw hB hz1 hk1 hS => ?_)
      obtain ⟨hP1, hK1, hD1⟩ := hB
      rw [ht] at hP1
      obtain ⟨hw1, hw2⟩ := hw
      rw [hw2] at hP1 hD1
      rw [hw1]
      rw [F_s_spanOf_2] at hP1 hD1
      have hD2 := hD1.weaken (B := A) (fun _ q _ h => hFc q.1 h)
      have hP := hP1
      have hD := hD2
      generalize H1 = H at hP hS ⊢
      refine wi_iast (f := (kA (x) (59) ((x).1 (58) 6).toNat (a)).2 (60)) (n := kLen (60)) hx hb hK hP hD hS (60) 0 (kgi kC60 (by omega) rfl) rfl (i := (x).1 (58) 6) (x := (F_s_spanOf (kA (x) (59) ((x).1 (58) 6).toNat (a)) (a)).1) (by omega) (by show _ < ((40 : Nat) : Int); exact (by omega)) (kLen_lt _) dX7_keep_37 (fun H locs hP hD hS => ?_)
      rw [ksi kC60] at hP hD
      refine lv_aload_n hx hb dX7_keep_38 rfl (lv_at hl 0 rfl) ?_
      refine va_get (D := (dC, dI)) (ci := 7) (v := .ref (ad (62))) (C := RX7) (T := TX7) (N := 7) hx hb hts hinX7 hown hK hP (58) (kg58 (by omega)) rfl 4 (by decide) (hts (.fieldLink RX7 25 "LikeWords$Rules" "leftCodes" "[J") (by decide +kernel)) (fun _ h9 => h9) rfl dX7_keep_39 ?_
      refine lv_aload_n hx hb dX7_keep_42 rfl (lv_at hl 0 rfl) ?_
      refine va_get (D := (dC, dI)) (ci := 7) (v := .int (iI ((x).1 (58) 6))) (C := RX7) (T := TX7) (N := 7) hx hb hts hinX7 hown hK hP (58) (kg58 (by omega)) rfl 6 (by decide) (hts (.fieldLink RX7 32 "LikeWords$Rules" "held" "I") (by decide +kernel)) (fun _ h9 => h9) rfl dX7_keep_43 ?_
      refine lv_aload_n hx hb dX7_keep_46 rfl (lv_at hl 0 rfl) ?_
      refine va_get (D := (dC, dI)) (ci := 7) (v := .ref (ad (1))) (C := RX7) (T := TX7) (N := 7) hx hb hts hinX7 hown hK hP (58) (kg58 (by omega)) rfl 0 (by decide) (hts (.fieldLink RX7 9 "LikeWords$Rules" "scale" "LLikeWords$Scale;") (by decide +kernel)) (fun _ h9 => h9) rfl dX7_keep_47 ?_
      refine lv_iload_n hx hb dX7_keep_50 rfl (lv_at hl 1 rfl) ?_
      have hFc : ∀ q, va_A (kWd cI cJ cZ cR wl ad M (kA (kA (x) (59) ((x).1 (58) 6).toNat (a)) (60) ((x).1 (58) 6).toNat ((F_s_spanOf (kA (x) (59) ((x).1 (58) 6).toNat (a)) (a)).1))) H.size q → A q := fun q hq => Or.elim hq (fun ⟨k, e, hk⟩ => hD.2 k (q, e) hk) (fun hk => hA q (Nat.le_trans hS.1 hk))
      refine va_calll (va_runV (b := ad (1)) (As := [.int (iI (a))]) (rest := [.int (iI ((x).1 (58) 6)), .ref (ad (62))]) ⟨hx, hb, hml, hown, hts⟩ (c_s_codeOf l dC dI ad cI cJ cZ cR M wl H.size (kA (kA (x) (59) ((x).1 (58) 6).toNat (a)) (60) ((x).1 (58) 6).toNat ((F_s_spanOf (kA (x) (59) ((x).1 (58) 6).toNat (a)) (a)).1))  (a) hM (scR_same rfl rfl rfl sc) a0 a1) (cwV 1 hts gX7_keep_X8_codeOf rfl rfl rfl (by decide +kernel) ⟨Nat.le_of_ble_eq_true rfl, Nat.le_of_ble_eq_true rfl⟩) ⟨fun a U g mk q => by obtain ⟨q0, q1, qP, qK, qD, qN⟩ := q; exact ⟨q0, q1, qP, va_K.moved (u := U) (U := U.calling g mk a) (Vm.Alike.refl U.vm) qK, qD, kNw.same (u := U) (U := U.calling g mk a) rfl qN⟩, va_recv hK hP (ci := 8) (q0 := 1) rfl (kg1 (by omega)), fun U hU hW => ⟨rfl, by rw [hU], by rw [hU]; exact hP, va_K.moved hW.alike hK, hD.weaken (fun _ _ _ _ => trivial), kNw.warm hW hNw⟩⟩ rfl rfl hl.1 rfl (lv_room (Nat.le_of_ble_eq_true rfl)) dX7_keep_51 ⟨Nat.le_of_ble_eq_true rfl, Nat.le_of_ble_eq_true rfl⟩) hS (fun q _ h => hFc q h) hFc (fun r9 u9 t H1 locs ht hvm hw hB hz1 hk1 hS => ?_)
      obtain ⟨hP1, hK1, hD1⟩ := hB
      rw [ht] at hP1
      obtain ⟨hw1, hw2⟩ := hw
      rw [hw2] at hP1 hD1
      rw [hw1]
      rw [F_s_codeOf_2] at hP1 hD1
      have hD2 := hD1.weaken (B := A) (fun _ q _ h => hFc q.1 h)
      have hP := hP1
      have hD := hD2
      generalize H1 = H at hP hS ⊢
      refine wi_last (f := (kA (kA (x) (59) ((x).1 (58) 6).toNat (a)) (60) ((x).1 (58) 6).toNat ((F_s_spanOf (kA (x) (59) ((x).1 (58) 6).toNat (a)) (a)).1)).2 (62)) (n := kLen (62)) hx hb hK hP hD hS (62) 1 (kgj kC62 (by omega) rfl) rfl (i := (x).1 (58) 6) (x := (F_s_codeOf (kA (kA (x) (59) ((x).1 (58) 6).toNat (a)) (60) ((x).1 (58) 6).toNat ((F_s_spanOf (kA (x) (59) ((x).1 (58) 6).toNat (a)) (a)).1)) (a)).1) (by omega) (by show _ < ((40 : Nat) : Int); exact (by omega)) (kLen_lt _) dX7_keep_54 (fun H locs hP hD hS => ?_)
      rw [ksj kC62] at hP hD
      refine lv_aload_n hx hb dX7_keep_55 rfl (lv_at hl 0 rfl) ?_
      refine va_get (D := (dC, dI)) (ci := 7) (v := .ref (ad (61))) (C := RX7) (T := TX7) (N := 7) hx hb hts hinX7 hown hK hP (58) (kg58 (by omega)) rfl 3 (by decide) (hts (.fieldLink RX7 22 "LikeWords$Rules" "rightSpans" "[I") (by decide +kernel)) (fun _ h9 => h9) rfl dX7_keep_56 ?_
      refine lv_aload_n hx hb dX7_keep_59 rfl (lv_at hl 0 rfl) ?_
      refine va_get (D := (dC, dI)) (ci := 7) (v := .int (iI ((x).1 (58) 6))) (C := RX7) (T := TX7) (N := 7) hx hb hts hinX7 hown hK hP (58) (kg58 (by omega)) rfl 6 (by decide) (hts (.fieldLink RX7 32 "LikeWords$Rules" "held" "I") (by decide +kernel)) (fun _ h9 => h9) rfl dX7_keep_60 ?_
      refine lv_aload_n hx hb dX7_keep_63 rfl (lv_at hl 0 rfl) ?_
      refine va_get (D := (dC, dI)) (ci := 7) (v := .ref (ad (1))) (C := RX7) (T := TX7) (N := 7) hx hb hts hinX7 hown hK hP (58) (kg58 (by omega)) rfl 0 (by decide) (hts (.fieldLink RX7 9 "LikeWords$Rules" "scale" "LLikeWords$Scale;") (by decide +kernel)) (fun _ h9 => h9) rfl dX7_keep_64 ?_
      refine lv_iload_n hx hb dX7_keep_67 rfl (lv_at hl 2 rfl) ?_
      have hFc : ∀ q, va_A (kWd cI cJ cZ cR wl ad M (kA (kA (kA (x) (59) ((x).1 (58) 6).toNat (a)) (60) ((x).1 (58) 6).toNat ((F_s_spanOf (kA (x) (59) ((x).1 (58) 6).toNat (a)) (a)).1)) (62) ((x).1 (58) 6).toNat ((F_s_codeOf (kA (kA (x) (59) ((x).1 (58) 6).toNat (a)) (60) ((x).1 (58) 6).toNat ((F_s_spanOf (kA (x) (59) ((x).1 (58) 6).toNat (a)) (a)).1)) (a)).1))) H.size q → A q := fun q hq => Or.elim hq (fun ⟨k, e, hk⟩ => hD.2 k (q, e) hk) (fun hk => hA q (Nat.le_trans hS.1 hk))
      refine va_calli (va_runV (b := ad (1)) (As := [.int (iI (b))]) (rest := [.int (iI ((x).1 (58) 6)), .ref (ad (61))]) ⟨hx, hb, hml, hown, hts⟩ (c_s_spanOf l dC dI ad cI cJ cZ cR M wl H.size (kA (kA (kA (x) (59) ((x).1 (58) 6).toNat (a)) (60) ((x).1 (58) 6).toNat ((F_s_spanOf (kA (x) (59) ((x).1 (58) 6).toNat (a)) (a)).1)) (62) ((x).1 (58) 6).toNat ((F_s_codeOf (kA (kA (x) (59) ((x).1 (58) 6).toNat (a)) (60) ((x).1 (58) 6).toNat ((F_s_spanOf (kA (x) (59) ((x).1 (58) 6).toNat (a)) (a)).1)) (a)).1))  (b) hM (scR_same rfl rfl rfl sc) (by unfold iR; omega)) (cwV 1 hts gX7_keep_X8_spanOf rfl rfl rfl (by decide +kernel) ⟨Nat.le_of_ble_eq_true rfl, Nat.le_of_ble_eq_true rfl⟩) ⟨fun a U g mk q => by obtain ⟨q0, q1, qP, qK, qD, qN⟩ := q; exact ⟨q0, q1, qP, va_K.moved (u := U) (U := U.calling g mk a) (Vm.Alike.refl U.vm) qK, qD, kNw.same (u := U) (U := U.calling g mk a) rfl qN⟩, va_recv hK hP (ci := 8) (q0 := 1) rfl (kg1 (by omega)), fun U hU hW => ⟨rfl, by rw [hU], by rw [hU]; exact hP, va_K.moved hW.alike hK, hD.weaken (fun _ _ _ _ => trivial), kNw.warm hW hNw⟩⟩ rfl rfl hl.1 rfl (lv_room (Nat.le_of_ble_eq_true rfl)) dX7_keep_68 ⟨Nat.le_of_ble_eq_true rfl, Nat.le_of_ble_eq_true rfl⟩) hS (fun q _ h => hFc q h) hFc (fun r9 u9 t H1 locs ht hvm hw hB hz1 hk1 hS => ?_)
      obtain ⟨hP1, hK1, hD1⟩ := hB
      rw [ht] at hP1
      obtain ⟨hw1, hw2⟩ := hw
      rw [hw2] at hP1 hD1
      rw [hw1]
      rw [F_s_spanOf_2] at hP1 hD1
      have hD2 := hD1.weaken (B := A) (fun _ q _ h => hFc q.1 h)
      have hP := hP1
      have hD := hD2
      generalize H1 = H at hP hS ⊢
      refine wi_iast (f := (kA (kA (kA (x) (59) ((x).1 (58) 6).toNat (a)) (60) ((x).1 (58) 6).toNat ((F_s_spanOf (kA (x) (59) ((x).1 (58) 6).toNat (a)) (a)).1)) (62) ((x).1 (58) 6).toNat ((F_s_codeOf (kA (kA (x) (59) ((x).1 (58) 6).toNat (a)) (60) ((x).1 (58) 6).toNat ((F_s_spanOf (kA (x) (59) ((x).1 (58) 6).toNat (a)) (a)).1)) (a)).1)).2 (61)) (n := kLen (61)) hx hb hK hP hD hS (61) 0 (kgi kC61 (by omega) rfl) rfl (i := (x).1 (58) 6) (x := (F_s_spanOf (kA (kA (kA (x) (59) ((x).1 (58) 6).toNat (a)) (60) ((x).1 (58) 6).toNat ((F_s_spanOf (kA (x) (59) ((x).1 (58) 6).toNat (a)) (a)).1)) (62) ((x).1 (58) 6).toNat ((F_s_codeOf (kA (kA (x) (59) ((x).1 (58) 6).toNat (a)) (60) ((x).1 (58) 6).toNat ((F_s_spanOf (kA (x) (59) ((x).1 (58) 6).toNat (a)) (a)).1)) (a)).1)) (b)).1) (by omega) (by show _ < ((40 : Nat) : Int); exact (by omega)) (kLen_lt _) dX7_keep_71 (fun H locs hP hD hS => ?_)
      rw [ksi kC61] at hP hD
      refine lv_aload_n hx hb dX7_keep_72 rfl (lv_at hl 0 rfl) ?_
      refine va_get (D := (dC, dI)) (ci := 7) (v := .ref (ad (63))) (C := RX7) (T := TX7) (N := 7) hx hb hts hinX7 hown hK hP (58) (kg58 (by omega)) rfl 5 (by decide) (hts (.fieldLink RX7 29 "LikeWords$Rules" "rightCodes" "[J") (by decide +kernel)) (fun _ h9 => h9) rfl dX7_keep_73 ?_
      refine lv_aload_n hx hb dX7_keep_76 rfl (lv_at hl 0 rfl) ?_
      refine va_get (D := (dC, dI)) (ci := 7) (v := .int (iI ((x).1 (58) 6))) (C := RX7) (T := TX7) (N := 7) hx hb hts hinX7 hown hK hP (58) (kg58 (by omega)) rfl 6 (by decide) (hts (.fieldLink RX7 32 "LikeWords$Rules" "held" "I") (by decide +kernel)) (fun _ h9 => h9) rfl dX7_keep_77 ?_
      refine lv_aload_n hx hb dX7_keep_80 rfl (lv_at hl 0 rfl) ?_
      refine va_get (D := (dC, dI)) (ci := 7) (v := .ref (ad (1))) (C := RX7) (T := TX7) (N := 7) hx hb hts hinX7 hown hK hP (58) (kg58 (by omega)) rfl 0 (by decide) (hts (.fieldLink RX7 9 "LikeWords$Rules" "scale" "LLikeWords$Scale;") (by decide +kernel)) (fun _ h9 => h9) rfl dX7_keep_81 ?_
      refine lv_iload_n hx hb dX7_keep_84 rfl (lv_at hl 2 rfl) ?_
      have hFc : ∀ q, va_A (kWd cI cJ cZ cR wl ad M (kA (kA (kA (kA (x) (59) ((x).1 (58) 6).toNat (a)) (60) ((x).1 (58) 6).toNat ((F_s_spanOf (kA (x) (59) ((x).1 (58) 6).toNat (a)) (a)).1)) (62) ((x).1 (58) 6).toNat ((F_s_codeOf (kA (kA (x) (59) ((x).1 (58) 6).toNat (a)) (60) ((x).1 (58) 6).toNat ((F_s_spanOf (kA (x) (59) ((x).1 (58) 6).toNat (a)) (a)).1)) (a)).1)) (61) ((x).1 (58) 6).toNat ((F_s_spanOf (kA (kA (kA (x) (59) ((x).1 (58) 6).toNat (a)) (60) ((x).1 (58) 6).toNat ((F_s_spanOf (kA (x) (59) ((x).1 (58) 6).toNat (a)) (a)).1)) (62) ((x).1 (58) 6).toNat ((F_s_codeOf (kA (kA (x) (59) ((x).1 (58) 6).toNat (a)) (60) ((x).1 (58) 6).toNat ((F_s_spanOf (kA (x) (59) ((x).1 (58) 6).toNat (a)) (a)).1)) (a)).1)) (b)).1))) H.size q → A q := fun q hq => Or.elim hq (fun ⟨k, e, hk⟩ => hD.2 k (q, e) hk) (fun hk => hA q (Nat.le_trans hS.1 hk))
      refine va_calll (va_runV (b := ad (1)) (As := [.int (iI (b))]) (rest := [.int (iI ((x).1 (58) 6)), .ref (ad (63))]) ⟨hx, hb, hml, hown, hts⟩ (c_s_codeOf l dC dI ad cI cJ cZ cR M wl H.size (kA (kA (kA (kA (x) (59) ((x).1 (58) 6).toNat (a)) (60) ((x).1 (58) 6).toNat ((F_s_spanOf (kA (x) (59) ((x).1 (58) 6).toNat (a)) (a)).1)) (62) ((x).1 (58) 6).toNat ((F_s_codeOf (kA (kA (x) (59) ((x).1 (58) 6).toNat (a)) (60) ((x).1 (58) 6).toNat ((F_s_spanOf (kA (x) (59) ((x).1 (58) 6).toNat (a)) (a)).1)) (a)).1)) (61) ((x).1 (58) 6).toNat ((F_s_spanOf (kA (kA (kA (x) (59) ((x).1 (58) 6).toNat (a)) (60) ((x).1 (58) 6).toNat ((F_s_spanOf (kA (x) (59) ((x).1 (58) 6).toNat (a)) (a)).1)) (62) ((x).1 (58) 6).toNat ((F_s_codeOf (kA (kA (x) (59) ((x).1 (58) 6).toNat (a)) (60) ((x).1 (58) 6).toNat ((F_s_spanOf (kA (x) (59) ((x).1 (58) 6).toNat (a)) (a)).1)) (a)).1)) (b)).1))  (b) hM (scR_same rfl rfl rfl sc) b0 b1) (cwV 1 hts gX7_keep_X8_codeOf rfl rfl rfl (by decide +kernel) ⟨Nat.le_of_ble_eq_true rfl, Nat.le_of_ble_eq_true rfl⟩) ⟨fun a U g mk q => by obtain ⟨q0, q1, qP, qK, qD, qN⟩ := q; exact ⟨q0, q1, qP, va_K.moved (u := U) (U := U.calling g mk a) (Vm.Alike.refl U.vm) qK, qD, kNw.same (u := U) (U := U.calling g mk a) rfl qN⟩, va_recv hK hP (ci := 8) (q0 := 1) rfl (kg1 (by omega)), fun U hU hW => ⟨rfl, by rw [hU], by rw [hU]; exact hP, va_K.moved hW.alike hK, hD.weaken (fun _ _ _ _ => trivial), kNw.warm hW hNw⟩⟩ rfl rfl hl.1 rfl (lv_room (Nat.le_of_ble_eq_true rfl)) dX7_keep_85 ⟨Nat.le_of_ble_eq_true rfl, Nat.le_of_ble_eq_true rfl⟩) hS (fun q _ h => hFc q h) hFc (fun r9 u9 t H1 locs ht hvm hw hB hz1 hk1 hS => ?_)
      obtain ⟨hP1, hK1, hD1⟩ := hB
      rw [ht] at hP1
      obtain ⟨hw1, hw2⟩ := hw
      rw [hw2] at hP1 hD1
      rw [hw1]
      rw [F_s_codeOf_2] at hP1 hD1
      have hD2 := hD1.weaken (B := A) (fun _ q _ h => hFc q.1 h)
      have hP := hP1
      have hD := hD2
      generalize H1 = H at hP hS ⊢
      refine wi_last (f := (kA (kA (kA (kA (x) (59) ((x).1 (58) 6).toNat (a)) (60) ((x).1 (58) 6).toNat ((F_s_spanOf (kA (x) (59) ((x).1 (58) 6).toNat (a)) (a)).1)) (62) ((x).1 (58) 6).toNat ((F_s_codeOf (kA (kA (x) (59) ((x).1 (58) 6).toNat (a)) (60) ((x).1 (58) 6).toNat ((F_s_spanOf (kA (x) (59) ((x).1 (58) 6).toNat (a)) (a)).1)) (a)).1)) (61) ((x).1 (58) 6).toNat ((F_s_spanOf (kA (kA (kA (x) (59) ((x).1 (58) 6).toNat (a)) (60) ((x).1 (58) 6).toNat ((F_s_spanOf (kA (x) (59) ((x).1 (58) 6).toNat (a)) (a)).1)) (62) ((x).1 (58) 6).toNat ((F_s_codeOf (kA (kA (x) (59) ((x).1 (58) 6).toNat (a)) (60) ((x).1 (58) 6).toNat ((F_s_spanOf (kA (x) (59) ((x).1 (58) 6).toNat (a)) (a)).1)) (a)).1)) (b)).1)).2 (63)) (n := kLen (63)) hx hb hK hP hD hS (63) 1 (kgj kC63 (by omega) rfl) rfl (i := (x).1 (58) 6) (x := (F_s_codeOf (kA (kA (kA (kA (x) (59) ((x).1 (58) 6).toNat (a)) (60) ((x).1 (58) 6).toNat ((F_s_spanOf (kA (x) (59) ((x).1 (58) 6).toNat (a)) (a)).1)) (62) ((x).1 (58) 6).toNat ((F_s_codeOf (kA (kA (x) (59) ((x).1 (58) 6).toNat (a)) (60) ((x).1 (58) 6).toNat ((F_s_spanOf (kA (x) (59) ((x).1 (58) 6).toNat (a)) (a)).1)) (a)).1)) (61) ((x).1 (58) 6).toNat ((F_s_spanOf (kA (kA (kA (x) (59) ((x).1 (58) 6).toNat (a)) (60) ((x).1 (58) 6).toNat ((F_s_spanOf (kA (x) (59) ((x).1 (58) 6).toNat (a)) (a)).1)) (62) ((x).1 (58) 6).toNat ((F_s_codeOf (kA (kA (x) (59) ((x).1 (58) 6).toNat (a)) (60) ((x).1 (58) 6).toNat ((F_s_spanOf (kA (x) (59) ((x).1 (58) 6).toNat (a)) (a)).1)) (a)).1)) (b)).1)) (b)).1) (by omega) (by show _ < ((40 : Nat) : Int); exact (by omega)) (kLen_lt _) dX7_keep_88 (fun H locs hP hD hS => ?_)
      rw [ksj kC63] at hP hD
      refine lv_aload_n hx hb dX7_keep_89 rfl (lv_at hl 0 rfl) ?_
      refine lv_dup hx hb dX7_keep_90 rfl ?_
      refine va_get (D := (dC, dI)) (ci := 7) (v := .int (iI ((x).1 (58) 6))) (C := RX7) (T := TX7) (N := 7) hx hb hts hinX7 hown hK hP (58) (kg58 (by omega)) rfl 6 (by decide) (hts (.fieldLink RX7 32 "LikeWords$Rules" "held" "I") (by decide +kernel)) (fun _ h9 => h9) rfl dX7_keep_91 ?_
      refine lv_iconst (v := iI (1 : Int)) hx hb dX7_keep_94 (by decide) ?_
      refine wi_iadd hx hb dX7_keep_95 ?_
      refine va_put (D := (dC, dI)) (ci := 7) (v := .int (iI (((x).1 (58) 6) + ((1 : Int))))) (ty := .int) (C := RX7) (T := TX7) (N := 7) hx hb hts hinX7 tyX7 tyX7_ok nmX7 hown hK hP hD hS (58) (kg58 (by omega)) rfl 6 (by decide) (hts (.fieldLink RX7 32 "LikeWords$Rules" "held" "I") (by decide +kernel)) (fun _ h9 => h9) rfl (by decide +kernel) rfl rfl (Nat.le_of_ble_eq_true rfl) dX7_keep_96 (fun H locs hP hD hS => ?_)
      rw [ks58_6] at hP hD
      refine lv_iconst (v := iI (1 : Int)) hx hb dX7_keep_99 (by decide) ?_
      exact W.zret (v := iI ((1 : Int))) hx hb hr (kz _ (by first | assumption | omega)) (fun t ht hW => ⟨⟨iI ((1 : Int)), kS (kA (kA (kA (kA (kA (x) (59) ((x).1 (58) 6).toNat (a)) (60) ((x).1 (58) 6).toNat ((F_s_spanOf (kA (x) (59) ((x).1 (58) 6).toNat (a)) (a)).1)) (62) ((x).1 (58) 6).toNat ((F_s_codeOf (kA (kA (x) (59) ((x).1 (58) 6).toNat (a)) (60) ((x).1 (58) 6).toNat ((F_s_spanOf (kA (x) (59) ((x).1 (58) 6).toNat (a)) (a)).1)) (a)).1)) (61) ((x).1 (58) 6).toNat ((F_s_spanOf (kA (kA (kA (x) (59) ((x).1 (58) 6).toNat (a)) (60) ((x).1 (58) 6).toNat ((F_s_spanOf (kA (x) (59) ((x).1 (58) 6).toNat (a)) (a)).1)) (62) ((x).1 (58) 6).toNat ((F_s_codeOf (kA (kA (x) (59) ((x).1 (58) 6).toNat (a)) (60) ((x).1 (58) 6).toNat ((F_s_spanOf (kA (x) (59) ((x).1 (58) 6).toNat (a)) (a)).1)) (a)).1)) (b)).1)) (63) ((x).1 (58) 6).toNat ((F_s_codeOf (kA (kA (kA (kA (x) (59) ((x).1 (58) 6).toNat (a)) (60) ((x).1 (58) 6).toNat ((F_s_spanOf (kA (x) (59) ((x).1 (58) 6).toNat (a)) (a)).1)) (62) ((x).1 (58) 6).toNat ((F_s_codeOf (kA (kA (x) (59) ((x).1 (58) 6).toNat (a)) (60) ((x).1 (58) 6).toNat ((F_s_spanOf (kA (x) (59) ((x).1 (58) 6).toNat (a)) (a)).1)) (a)).1)) (61) ((x).1 (58) 6).toNat ((F_s_spanOf (kA (kA (kA (x) (59) ((x).1 (58) 6).toNat (a)) (60) ((x).1 (58) 6).toNat ((F_s_spanOf (kA (x) (59) ((x).1 (58) 6).toNat (a)) (a)).1)) (62) ((x).1 (58) 6).toNat ((F_s_codeOf (kA (kA (x) (59) ((x).1 (58) 6).toNat (a)) (60) ((x).1 (58) 6).toNat ((F_s_spanOf (kA (x) (59) ((x).1 (58) 6).toNat (a)) (a)).1)) (a)).1)) (b)).1)) (b)).1)) (58) 6 (((x).1 (58) 6) + ((1 : Int))), rfl, ⟨(by have h9 := congrArg (fun z : Int × KS => iI z.1) hres; exact h9), (by have h9 := congrArg (fun z : Int × KS => z.2) hres; exact h9)⟩, by rw [ht]; exact hP, va_K.moved hW.alike hK, hD⟩, hS.F ht⟩) hS.2.2 dX7_keep_100
    · skip
      rw [if_neg c_6] at hres
      refine lv_iconst (v := iI (0 : Int)) hx hb dX7_keep_9 (by decide) ?_
      exact W.zret (v := iI ((0 : Int))) hx hb hr (kz _ (by first | assumption | omega)) (fun t ht hW => ⟨⟨iI ((0 : Int)), x, rfl, ⟨(by have h9 := congrArg (fun z : Int × KS => iI z.1) hres; exact h9), (by have h9 := congrArg (fun z : Int × KS => z.2) hres; exact h9)⟩, by rw [ht]; exact hP, va_K.moved hW.alike hK, hD⟩, hS.F ht⟩) hS.2.2 dX7_keep_10
  exact key _ _ hP hS
theorem F_u_keep_fr (x : KS) (a : Int) (b : Int) : ksame [(58, 6)] [59, 60, 62, 61, 63] x (F_u_keep x a b).2 := by
  unfold F_u_keep
  by_cases hc : ((x).1 (58) 6) < ((40 : Int))
  · rw [if_pos hc]
    exact (km_s (List.Mem.head _) (km_a (List.Mem.tail _ (List.Mem.tail _ (List.Mem.tail _ (List.Mem.tail _ (List.Mem.head _))))) (km_a (List.Mem.tail _ (List.Mem.tail _ (List.Mem.tail _ (List.Mem.head _)))) (km_a (List.Mem.tail _ (List.Mem.tail _ (List.Mem.head _))) (km_a (List.Mem.tail _ (List.Mem.head _)) (km_a (List.Mem.head _) (km_rf _ _ _)))))))
  · rw [if_neg hc]
    exact (km_rf _ _ _)
theorem F_u_keep_q (x : KS) (a : Int) (b : Int)  : kq [58] [59, 60, 62, 61, 63] x (F_u_keep x a b).2 := kq_of (F_u_keep_fr x a b) (kq_c (Or.inr (by decide)) kq_m) (kq_c (Or.inr (by decide)) (kq_c (Or.inr (by decide)) (kq_c (Or.inr (by decide)) (kq_c (Or.inr (by decide)) (kq_c (Or.inr (by decide)) kq_n)))))
theorem iU_all {P : Int → Prop} {f : Nat → Int} {k : Nat} {v : Int} (hv : P v) (h : ∀ j, P (f j)) : ∀ j, P (iU f k v j) := by
  intro j
  unfold iU
  split
  · exact hv
  · exact h j
theorem F_u_keep_ok {x : KS} {a b : Int} (sc : scR x) (ru : ruR x) (a0 : 0 ≤ a) (a1 : a ≤ 20000) (b0 : 0 ≤ b) : ruR (F_u_keep x a b).2 := by
  unfold F_u_keep
  obtain ⟨⟨r0, r1⟩, rn, rl, rr, rc, rd⟩ := ru
  have l3 := sc.2.1
  split
  · refine ⟨?_, ?_, ?_, ?_, ?_, ?_⟩
    · show 0 ≤ x.1 58 6 + 1 ∧ x.1 58 6 + 1 ≤ 40
      omega
    · exact iU_all (P := fun z => 0 ≤ z ∧ z ≤ 20000) ⟨a0, a1⟩ rn
    · refine iU_all (P := fun z => 0 ≤ z ∧ z ≤ 20) ?_ rl
      have := F_s_spanOf_b (x := kA x 59 (x.1 58 6).toNat a) (scR_same rfl rfl rfl sc) a0
      exact ⟨this.1, Int.le_trans this.2.1 l3.2⟩
    · refine iU_all (P := fun z => 0 ≤ z ∧ z ≤ 20) ?_ rr
      have key : ∀ z : KS, scR z → 0 ≤ (F_s_spanOf z b).1 ∧ (F_s_spanOf z b).1 ≤ 20 := fun z hz => ⟨(F_s_spanOf_b hz b0).1, Int.le_trans (F_s_spanOf_b hz b0).2.1 hz.2.1.2⟩
      exact key _ (scR_same rfl rfl rfl sc)
    · exact iU_all (P := iRL) (F_s_codeOf_RL _ _) rc
    · exact iU_all (P := iRL) (F_s_codeOf_RL _ _) rd
  · exact ⟨⟨r0, r1⟩, rn, rl, rr, rc, rd⟩
theorem F_u_keep_01 (x : KS) (a b : Int) : (F_u_keep x a b).1 = 0 ∨ (F_u_keep x a b).1 = 1 := by
  unfold F_u_keep
  repeat' split
  all_goals first | exact Or.inl rfl | exact Or.inr rfl
def F_u_gather_s  : Nat → Nat → KS → Int → Int → Int → Int → Int → Int × KS
  | 0, _, x, _, _, _, _, _ => (0, x)
  | n + 1, t, x, p0, p1, p2, p3, p4 => match t with
    | 0 => (fun (m0 : Int) (g : Int) => (if (m0) < (g) then ((1 : Int), x) else F_u_gather_s n 1 (x) (m0) (g) ((F_s_firstOf (x) (g)).1) ((F_s_powerOf (x) (g)).1) ((0 : Int)))) p0 p1
    | 1 => (fun (m0 : Int) (g : Int) (s9 : Int) (p9 : Int) (v : Int) => (if (p9) ≤ (v) then F_u_gather_s n 0 (x) (m0) ((g) + (1 : Int)) (0) (0) (0) else (if ((F_j_isLeast (x) ((s9) + (v))).1) = (0) then (if ((F_u_arePartsLeast (x) (g) (v)).1) = (0) then F_u_gather_s n 1 (x) (m0) (g) (s9) (p9) ((v) + (1 : Int)) else (if ((F_u_keep ((F_j_leastOf (x) ((s9) + (v))).2) ((s9) + (v)) ((F_j_leastOf (x) ((s9) + (v))).1)).1) = (0) then ((0 : Int), (F_u_keep ((F_j_leastOf (x) ((s9) + (v))).2) ((s9) + (v)) ((F_j_leastOf (x) ((s9) + (v))).1)).2) else F_u_gather_s n 1 ((F_u_keep ((F_j_leastOf (x) ((s9) + (v))).2) ((s9) + (v)) ((F_j_leastOf (x) ((s9) + (v))).1)).2) (m0) (g) (s9) (p9) ((v) + (1 : Int)))) else F_u_gather_s n 1 (x) (m0) (g) (s9) (p9) ((v) + (1 : Int))))) p0 p1 p2 p3 p4
    | _ => (0, x)
theorem F_u_gather_e0  (n : Nat) (x : KS) (m0 : Int) (g : Int) (q0 : Int) (q1 : Int) (q2 : Int) : F_u_gather_s (n + 1) 0 x m0 g q0 q1 q2 = (if (m0) < (g) then ((1 : Int), x) else F_u_gather_s n 1 (x) (m0) (g) ((F_s_firstOf (x) (g)).1) ((F_s_powerOf (x) (g)).1) ((0 : Int))) := rfl
theorem F_u_gather_e1  (n : Nat) (x : KS) (m0 : Int) (g : Int) (s9 : Int) (p9 : Int) (v : Int) : F_u_gather_s (n + 1) 1 x m0 g s9 p9 v = (if (p9) ≤ (v) then F_u_gather_s n 0 (x) (m0) ((g) + (1 : Int)) (0) (0) (0) else (if ((F_j_isLeast (x) ((s9) + (v))).1) = (0) then (if ((F_u_arePartsLeast (x) (g) (v)).1) = (0) then F_u_gather_s n 1 (x) (m0) (g) (s9) (p9) ((v) + (1 : Int)) else (if ((F_u_keep ((F_j_leastOf (x) ((s9) + (v))).2) ((s9) + (v)) ((F_j_leastOf (x) ((s9) + (v))).1)).1) = (0) then ((0 : Int), (F_u_keep ((F_j_leastOf (x) ((s9) + (v))).2) ((s9) + (v)) ((F_j_leastOf (x) ((s9) + (v))).1)).2) else F_u_gather_s n 1 ((F_u_keep ((F_j_leastOf (x) ((s9) + (v))).2) ((s9) + (v)) ((F_j_leastOf (x) ((s9) + (v))).1)).2) (m0) (g) (s9) (p9) ((v) + (1 : Int)))) else F_u_gather_s n 1 (x) (m0) (g) (s9) (p9) ((v) + (1 : Int)))) := rfl
def F_u_gather (x : KS) (m0 : Int) : Int × KS := F_u_gather_s 300000 0 (kS (x) (58) 6 ((0 : Int))) (m0) ((1 : Int)) (0) (0) (0)
set_option maxHeartbeats 4000000 in
set_option maxRecDepth 100000 in
/-- LikeWords$Rules, gather -/
theorem c_u_gather (l : Launch) (dC : Nat → ClassId) (dI : Nat → Nat → Nat) (ad : Nat → Nat) (cI cJ cZ cR : ClassId) (M wl sz : Nat) (x : KS) (m0 : Int) (hM : 87 ≤ M) (sx : scX x) (jr : jnR x) (ru : ruR x) (ma : 1 ≤ m0) (mb : m0 ≤ 20) : Met l yX7_gather wsX7_gather ({ frames := 3, cells := 0, slots := 0, locals := 70 }) (kPc dC dI ad cI cJ cZ cR M wl sz x [.ref (ad 58), .ref (ad 56), .int (iI m0)]) (va_Qi (fun (r : Int32) (u : KS) => r = iI (F_u_gather x m0).1 ∧ u = (F_u_gather x m0).2) (kAt dC dI ad cI cJ cZ cR M wl (va_A (kWd cI cJ cZ cR wl ad M (x)) sz)) (va_A (kWd cI cJ cZ cR wl ad M (x)) sz)) 0 0 (va_A (kWd cI cJ cZ cR wl ad M (x)) sz) := by
  refine Met.ofW (cc := cX7_gather) (maxL := 7) (ret := (some .boolean)) (by decide) rfl ?_
  intro p e s m args below meth c s₁ B hml hv
  obtain ⟨rfl, hsz, hP, hK, hD0, hNw⟩ := hv
  have hx := B.exec
  have hb := B.bytes
  have hr := B.returns
  have hts := atoms_spec (ws := wsX7_gather) B.pre
  have hown : s.vm.findClass RX7 = some m.cls := findClass_of_methodNamed B.named
  have hlocks := B.notSynchronized
  have hinX7 : ∀ w ∈ u_ws RX7 TX7 7, w ∈ wsX7_gather := by decide +kernel
  subst hsz
  have hD := hD0.self (sz := s.heap.size)
  generalize hAe : va_A (kWd cI cJ cZ cR wl ad M (x)) s.heap.size = A at hD ⊢
  have hA : ∀ q : Nat, s.heap.size ≤ q → A q := fun q h => by rw [← hAe]; exact Or.inr h
  have hS : va_S A s.heap s.heap [] := va_S.rf
  have hl := lv_entry ([.ref (ad 58), .ref (ad 56), .int (iI m0)]) (n := 7) (Nat.le_of_ble_eq_true rfl)
  rw [lg_entry_eq]
  generalize (lg_sl ([.ref (ad 58), .ref (ad 56), .int (iI m0)]) ++ List.replicate (7 - (lg_sl ([.ref (ad 58), .ref (ad 56), .int (iI m0)])).length) Slot.unset).toArray = ls at hl ⊢
  have hl : lv_has ls 7 [(0, .ref (ad (58))), (1, .ref (ad (56))), (2, .int (iI (m0)))] := hl
  have L : ∀ n : Nat, (∀ (y : KS) (g : Int), (scX y) → (jnR y) → (ruR y) → (1 ≤ g) → (g ≤ m0 + 1) → ((21 - g) * 10010 + 10005 < n) → F_u_gather_s n 0 y m0 g 0 0 0 = F_u_gather x m0 → ∀ (H : Heap) (locs : List Loc) (ls : Array Slot), va_P (dC, dI) vwCl (kWd cI cJ cZ cR wl ad M (y)) H → va_D A (kWd cI cJ cZ cR wl ad M (y)) → va_S A s.heap H locs → lv_has ls 7 [(0, .ref (ad (58))), (1, .ref (ad (56))), (2, .int (iI (m0))), (3, .int (iI (g)))] → W p l e (headSpec wsX7_gather ({ frames := 3, cells := 0, slots := 0, locals := 70 })).room s m ([.ref (ad 58), .ref (ad 56), .int (iI m0)] : List Value).toArray below meth c H locs 0 0 (MQ below (va_Qi (fun (r : Int32) (u : KS) => r = iI (F_u_gather x m0).1 ∧ u = (F_u_gather x m0).2) (kAt dC dI ad cI cJ cZ cR M wl A) A) ([.ref (ad 58), .ref (ad 56), .int (iI m0)] : List Value).toArray s 0 0 A) (F0 m 7 ls [])) ∧ (∀ (y : KS) (g : Int) (s9 : Int) (p9 : Int) (v : Int), (scX y) → (jnR y) → (ruR y) → (1 ≤ g) → (g ≤ m0) → (0 ≤ s9) → (s9 ≤ 10000) → (0 ≤ p9) → (p9 ≤ 10000) → (0 ≤ v) → (v ≤ p9) → ((21 - g) * 10010 + 10001 - v < n) → F_u_gather_s n 1 y m0 g s9 p9 v = F_u_gather x m0 → ∀ (H : Heap) (locs : List Loc) (ls : Array Slot), va_P (dC, dI) vwCl (kWd cI cJ cZ cR wl ad M (y)) H → va_D A (kWd cI cJ cZ cR wl ad M (y)) → va_S A s.heap H locs → lv_has ls 7 [(0, .ref (ad (58))), (1, .ref (ad (56))), (2, .int (iI (m0))), (3, .int (iI (g))), (4, .int (iI (s9))), (5, .int (iI (p9))), (6, .int (iI (v)))] → W p l e (headSpec wsX7_gather ({ frames := 3, cells := 0, slots := 0, locals := 70 })).room s m ([.ref (ad 58), .ref (ad 56), .int (iI m0)] : List Value).toArray below meth c H locs 0 0 (MQ below (va_Qi (fun (r : Int32) (u : KS) => r = iI (F_u_gather x m0).1 ∧ u = (F_u_gather x m0).2) (kAt dC dI ad cI cJ cZ cR M wl A) A) ([.ref (ad 58), .ref (ad 56), .int (iI m0)] : List Value).toArray s 0 0 A) (F0 m 35 ls [])) := by
    intro n
    induction n with
    | zero =>
      refine ⟨?_, ?_⟩
      · intro y g sxy jy ry g0 g1 fu hres
        exact absurd fu (by omega)
      · intro y g s9 p9 v sxy jy ry g0 g1 s0 s1 p0 p1 v0 v1 fu hres
        exact absurd fu (by omega)
    | succ n ih =>
      refine ⟨?_, ?_⟩
      · intro y g sxy jy ry g0 g1 fu hres H locs ls hP hD hS hl
        rw [F_u_gather_e0] at hres
        refine lv_iload_n hx hb dX7_gather_7 rfl (lv_at hl 3 rfl) ?_
        refine lv_iload_n hx hb dX7_gather_8 rfl (lv_at hl 2 rfl) ?_
        refine wi_icmp_gt (tgt := 100) hx hb (by first | assumption | (unfold iR; omega) | exact kR01 (by assumption)) (by first | assumption | (unfold iR; omega) | exact kR01 (by assumption)) dX7_gather_9 (by decide) (fun c_9 => ?_) (fun c_9 => ?_)
        · skip
          rw [if_pos c_9] at hres
          refine lv_iconst (v := iI (1 : Int)) hx hb dX7_gather_100 (by decide) ?_
          exact W.zret (v := iI ((1 : Int))) hx hb hr (kz _ (by first | assumption | omega)) (fun t ht hW => ⟨⟨iI ((1 : Int)), y, rfl, ⟨(by have h9 := congrArg (fun z : Int × KS => iI z.1) hres; exact h9), (by have h9 := congrArg (fun z : Int × KS => z.2) hres; exact h9)⟩, by rw [ht]; exact hP, va_K.moved hW.alike hK, hD⟩, hS.F ht⟩) hS.2.2 dX7_gather_101
        · skip
          rw [if_neg c_9] at hres
          refine lv_aload_n hx hb dX7_gather_12 rfl (lv_at hl 0 rfl) ?_
          refine va_get (D := (dC, dI)) (ci := 7) (v := .ref (ad (1))) (C := RX7) (T := TX7) (N := 7) hx hb hts hinX7 hown hK hP (58) (kg58 (by omega)) rfl 0 (by decide) (hts (.fieldLink RX7 9 "LikeWords$Rules" "scale" "LLikeWords$Scale;") (by decide +kernel)) (fun _ h9 => h9) rfl dX7_gather_13 ?_
          refine lv_iload_n hx hb dX7_gather_16 rfl (lv_at hl 3 rfl) ?_
          have hFc : ∀ q, va_A (kWd cI cJ cZ cR wl ad M (y)) H.size q → A q := fun q hq => Or.elim hq (fun ⟨k, e, hk⟩ => hD.2 k (q, e) hk) (fun hk => hA q (Nat.le_trans hS.1 hk))
          refine va_calli (va_runV (b := ad (1)) (As := [.int (iI (g))]) (rest := []) ⟨hx, hb, hml, hown, hts⟩ (c_s_firstOf l dC dI ad cI cJ cZ cR M wl H.size (y)  (g) hM sxy.1 (by unfold iR; omega)) (cwV 1 hts gX7_gather_X8_firstOf rfl rfl rfl (by decide +kernel) ⟨Nat.le_of_ble_eq_true rfl, Nat.le_of_ble_eq_true rfl⟩) ⟨fun a U g mk q => by obtain ⟨q0, q1, qP, qK, qD, qN⟩ := q; exact ⟨q0, q1, qP, va_K.moved (u := U) (U := U.calling g mk a) (Vm.Alike.refl U.vm) qK, qD, kNw.same (u := U) (U := U.calling g mk a) rfl qN⟩, va_recv hK hP (ci := 8) (q0 := 1) rfl (kg1 (by omega)), fun U hU hW => ⟨rfl, by rw [hU], by rw [hU]; exact hP, va_K.moved hW.alike hK, hD.weaken (fun _ _ _ _ => trivial), kNw.warm hW hNw⟩⟩ rfl rfl hl.1 rfl (lv_room (Nat.le_of_ble_eq_true rfl)) dX7_gather_17 ⟨Nat.le_of_ble_eq_true rfl, Nat.le_of_ble_eq_true rfl⟩) hS (fun q _ h => hFc q h) hFc (fun r9 u9 t H1 locs ht hvm hw hB hz1 hk1 hS => ?_)
          obtain ⟨hP1, hK1, hD1⟩ := hB
          rw [ht] at hP1
          obtain ⟨hw1, hw2⟩ := hw
          rw [hw2] at hP1 hD1
          rw [hw1]
          rw [F_s_firstOf_2] at hP1 hD1
          have hD2 := hD1.weaken (B := A) (fun _ q _ h => hFc q.1 h)
          have hP := hP1
          have hD := hD2
          generalize H1 = H at hP hS ⊢
          have fb := F_s_firstOf_b sxy.1 g
          refine lv_istore (lv' := [(4, .int (iI ((F_s_firstOf (y) (g)).1))), (0, .ref (ad (58))), (1, .ref (ad (56))), (2, .int (iI (m0))), (3, .int (iI (g)))]) hx hb dX7_gather_20 hl (by decide) rfl (fun ls hl => ?_)
          refine lv_aload_n hx hb dX7_gather_22 rfl (lv_at hl 1 rfl) ?_
          refine va_get (D := (dC, dI)) (ci := 7) (v := .ref (ad (1))) (C := RX7) (T := TX7) (N := 7) hx hb hts hinX7 hown hK hP (58) (kg58 (by omega)) rfl 0 (by decide) (hts (.fieldLink RX7 9 "LikeWords$Rules" "scale" "LLikeWords$Scale;") (by decide +kernel)) (fun _ h9 => h9) rfl dX7_gather_23 ?_
          refine lv_iload_n hx hb dX7_gather_26 rfl (lv_at hl 4 rfl) ?_
          have hFc : ∀ q, va_A (kWd cI cJ cZ cR wl ad M (y)) H.size q → A q := fun q hq => Or.elim hq (fun ⟨k, e, hk⟩ => hD.2 k (q, e) hk) (fun hk => hA q (Nat.le_trans hS.1 hk))
          refine va_calli (va_runV (b := ad (1)) (As := [.int (iI (g))]) (rest := []) ⟨hx, hb, hml, hown, hts⟩ (c_s_powerOf l dC dI ad cI cJ cZ cR M wl H.size (y)  (g) hM sxy.1 (by unfold iR; omega)) (cwV 1 hts gX7_gather_X8_powerOf rfl rfl rfl (by decide +kernel) ⟨Nat.le_of_ble_eq_true rfl, Nat.le_of_ble_eq_true rfl⟩) ⟨fun a U g mk q => by obtain ⟨q0, q1, qP, qK, qD, qN⟩ := q; exact ⟨q0, q1, qP, va_K.moved (u := U) (U := U.calling g mk a) (Vm.Alike.refl U.vm) qK, qD, kNw.same (u := U) (U := U.calling g mk a) rfl qN⟩, va_recv hK hP (ci := 8) (q0 := 1) rfl (kg1 (by omega)), fun U hU hW => ⟨rfl, by rw [hU], by rw [hU]; exact hP, va_K.moved hW.alike hK, hD.weaken (fun _ _ _ _ => trivial), kNw.warm hW hNw⟩⟩ rfl rfl hl.1 rfl (lv_room (Nat.le_of_ble_eq_true rfl)) dX7_gather_27 ⟨Nat.le_of_ble_eq_true rfl, Nat.le_of_ble_eq_true rfl⟩) hS (fun q _ h => hFc q h) hFc (fun r9 u9 t H1 locs ht hvm hw hB hz1 hk1 hS => ?_)
          obtain ⟨hP1, hK1, hD1⟩ := hB
          rw [ht] at hP1
          obtain ⟨hw1, hw2⟩ := hw
          rw [hw2] at hP1 hD1
          rw [hw1]
          rw [F_s_powerOf_2] at hP1 hD1
          have hD2 := hD1.weaken (B := A) (fun _ q _ h => hFc q.1 h)
          have hP := hP1
          have hD := hD2
          generalize H1 = H at hP hS ⊢
          have pb := F_s_powerOf_b sxy.1 g
          refine lv_istore (lv' := [(5, .int (iI ((F_s_powerOf (y) (g)).1))), (4, .int (iI ((F_s_firstOf (y) (g)).1))), (0, .ref (ad (58))), (1, .ref (ad (56))), (2, .int (iI (m0))), (3, .int (iI (g)))]) hx hb dX7_gather_30 hl (by decide) rfl (fun ls hl => ?_)
          refine lv_iconst (v := iI (0 : Int)) hx hb dX7_gather_32 (by decide) ?_
          refine lv_istore (lv' := [(6, .int (iI ((0 : Int)))), (5, .int (iI ((F_s_powerOf (y) (g)).1))), (4, .int (iI ((F_s_firstOf (y) (g)).1))), (0, .ref (ad (58))), (1, .ref (ad (56))), (2, .int (iI (m0))), (3, .int (iI (g)))]) hx hb dX7_gather_33 hl (by decide) rfl (fun ls hl => ?_)
          exact ih.2 (y) (g) ((F_s_firstOf (y) (g)).1) ((F_s_powerOf (y) (g)).1) ((0 : Int)) (sxy) (jy) (ry) (g0) (by omega) (by omega) (by omega) (by omega) (by omega) (by omega) (by omega) (by omega) hres _ _ ls hP hD hS (lv_sub hl [3, 4, 5, 6, 2, 1, 0] rfl)
      · intro y g s9 p9 v sxy jy ry g0 g1 s0 s1 p0 p1 v0 v1 fu hres H locs ls hP hD hS hl
        rw [F_u_gather_e1] at hres
        refine lv_iload hx hb dX7_gather_35 (lv_at hl 6 rfl) ?_
        refine lv_iload hx hb dX7_gather_37 (lv_at hl 5 rfl) ?_
        refine wi_icmp_ge (tgt := 94) hx hb (by first | assumption | (unfold iR; omega) | exact kR01 (by assumption)) (by first | assumption | (unfold iR; omega) | exact kR01 (by assumption)) dX7_gather_39 (by decide) (fun c_39 => ?_) (fun c_39 => ?_)
        · skip
          rw [if_pos c_39] at hres
          refine lv_iinc (v := iI ((g) + (1 : Int))) (lv' := [(3, .int (iI ((g) + (1 : Int)))), (0, .ref (ad (58))), (1, .ref (ad (56))), (2, .int (iI (m0))), (4, .int (iI (s9))), (5, .int (iI (p9))), (6, .int (iI (v)))]) hx hb dX7_gather_94 hl (k := 3) rfl (iI_add _ _) (by decide) rfl (fun ls hl => ?_)
          refine lv_goto (tgt := 7) hx hb dX7_gather_97 (by decide) ?_
          exact ih.1 (y) ((g) + (1 : Int)) (sxy) (jy) (ry) (by omega) (by omega) (by omega) hres _ _ ls hP hD hS (lv_sub hl [1, 2, 3, 0] rfl)
        · skip
          rw [if_neg c_39] at hres
          refine lv_aload_n hx hb dX7_gather_42 rfl (lv_at hl 1 rfl) ?_
          refine lv_iload hx hb dX7_gather_43 (lv_at hl 4 rfl) ?_
          refine lv_iload hx hb dX7_gather_45 (lv_at hl 6 rfl) ?_
          refine wi_iadd hx hb dX7_gather_47 ?_
          have hFc : ∀ q, va_A (kWd cI cJ cZ cR wl ad M (y)) H.size q → A q := fun q hq => Or.elim hq (fun ⟨k, e, hk⟩ => hD.2 k (q, e) hk) (fun hk => hA q (Nat.le_trans hS.1 hk))
          refine va_calli (va_runV (b := ad (56)) (As := [.int (iI ((s9) + (v)))]) (rest := []) ⟨hx, hb, hml, hown, hts⟩ (c_j_isLeast l dC dI ad cI cJ cZ cR M wl H.size (y)  ((s9) + (v)) hM (by unfold iR; omega) jy) (cwV 1 hts gX7_gather_X1_isLeast rfl rfl rfl (by decide +kernel) ⟨Nat.le_of_ble_eq_true rfl, Nat.le_of_ble_eq_true rfl⟩) ⟨fun a U g mk q => by obtain ⟨q0, q1, qP, qK, qD, qN⟩ := q; exact ⟨q0, q1, qP, va_K.moved (u := U) (U := U.calling g mk a) (Vm.Alike.refl U.vm) qK, qD, kNw.same (u := U) (U := U.calling g mk a) rfl qN⟩, va_recv hK hP (ci := 1) (q0 := 56) rfl (kg56 (by omega)), fun U hU hW => ⟨rfl, by rw [hU], by rw [hU]; exact hP, va_K.moved hW.alike hK, hD.weaken (fun _ _ _ _ => trivial), kNw.warm hW hNw⟩⟩ rfl rfl hl.1 rfl (lv_room (Nat.le_of_ble_eq_true rfl)) dX7_gather_48 ⟨Nat.le_of_ble_eq_true rfl, Nat.le_of_ble_eq_true rfl⟩) hS (fun q _ h => hFc q h) hFc (fun r9 u9 t H1 locs ht hvm hw hB hz1 hk1 hS => ?_)
          obtain ⟨hP1, hK1, hD1⟩ := hB
          rw [ht] at hP1
          obtain ⟨hw1, hw2⟩ := hw
          rw [hw2] at hP1 hD1
          rw [hw1]
          rw [F_j_isLeast_2] at hP1 hD1
          have hD2 := hD1.weaken (B := A) (fun _ q _ h => hFc q.1 h)
          have hP := hP1
          have hD := hD2
          generalize H1 = H at hP hS ⊢
          refine wi_if_ne (tgt := 88) hx hb (kR01 (F_j_isLeast_01 _ _)) dX7_gather_51 (by decide) (fun c_51 => ?_) (fun c_51 => ?_)
          · skip
            rw [if_neg c_51] at hres
            refine lv_iinc (v := iI ((v) + (1 : Int))) (lv' := [(6, .int (iI ((v) + (1 : Int)))), (0, .ref (ad (58))), (1, .ref (ad (56))), (2, .int (iI (m0))), (3, .int (iI (g))), (4, .int (iI (s9))), (5, .int (iI (p9)))]) hx hb dX7_gather_88 hl (k := 6) rfl (iI_add _ _) (by decide) rfl (fun ls hl => ?_)
            refine lv_goto (tgt := 35) hx hb dX7_gather_91 (by decide) ?_
            exact ih.2 (y) (g) (s9) (p9) ((v) + (1 : Int)) (sxy) (jy) (ry) (g0) (by omega) (by omega) (by omega) (by omega) (by omega) (by omega) (by omega) (by omega) hres _ _ ls hP hD hS (lv_sub hl [1, 2, 3, 4, 5, 6, 0] rfl)
          · skip
            rw [if_pos c_51] at hres
            refine lv_aload_n hx hb dX7_gather_54 rfl (lv_at hl 0 rfl) ?_
            refine lv_aload_n hx hb dX7_gather_55 rfl (lv_at hl 1 rfl) ?_
            refine lv_iload_n hx hb dX7_gather_56 rfl (lv_at hl 3 rfl) ?_
            refine lv_iload hx hb dX7_gather_57 (lv_at hl 6 rfl) ?_
            have hFc : ∀ q, va_A (kWd cI cJ cZ cR wl ad M (y)) H.size q → A q := fun q hq => Or.elim hq (fun ⟨k, e, hk⟩ => hD.2 k (q, e) hk) (fun hk => hA q (Nat.le_trans hS.1 hk))
            refine va_calli (va_runV (b := ad (58)) (As := [.ref (ad (56)), .int (iI (g)), .int (iI (v))]) (rest := []) ⟨hx, hb, hml, hown, hts⟩ (c_u_arePartsLeast l dC dI ad cI cJ cZ cR M wl H.size (y)  (g) (v) hM sxy jy v0 (by omega) g0 (by omega)) (cwV 3 hts gX7_gather_X7_arePartsLeast rfl rfl rfl (by decide +kernel) ⟨Nat.le_of_ble_eq_true rfl, Nat.le_of_ble_eq_true rfl⟩) ⟨fun a U g mk q => by obtain ⟨q0, q1, qP, qK, qD, qN⟩ := q; exact ⟨q0, q1, qP, va_K.moved (u := U) (U := U.calling g mk a) (Vm.Alike.refl U.vm) qK, qD, kNw.same (u := U) (U := U.calling g mk a) rfl qN⟩, va_recv hK hP (ci := 7) (q0 := 58) rfl (kg58 (by omega)), fun U hU hW => ⟨rfl, by rw [hU], by rw [hU]; exact hP, va_K.moved hW.alike hK, hD.weaken (fun _ _ _ _ => trivial), kNw.warm hW hNw⟩⟩ rfl rfl hl.1 rfl (lv_room (Nat.le_of_ble_eq_true rfl)) dX7_gather_59 ⟨Nat.le_of_ble_eq_true rfl, Nat.le_of_ble_eq_true rfl⟩) hS (fun q _ h => hFc q h) hFc (fun r9 u9 t H1 locs ht hvm hw hB hz1 hk1 hS => ?_)
            obtain ⟨hP1, hK1, hD1⟩ := hB
            rw [ht] at hP1
            obtain ⟨hw1, hw2⟩ := hw
            rw [hw2] at hP1 hD1
            rw [hw1]
            rw [F_u_arePartsLeast_2] at hP1 hD1
            have hD2 := hD1.weaken (B := A) (fun _ q _ h => hFc q.1 h)
            have hP := hP1
            have hD := hD2
            generalize H1 = H at hP hS ⊢
            refine wi_if_eq (tgt := 88) hx hb (kR01 (F_u_arePartsLeast_01 _ _ _)) dX7_gather_62 (by decide) (fun c_62 => ?_) (fun c_62 => ?_)
            · skip
              rw [if_pos c_62] at hres
              refine lv_iinc (v := iI ((v) + (1 : Int))) (lv' := [(6, .int (iI ((v) + (1 : Int)))), (0, .ref (ad (58))), (1, .ref (ad (56))), (2, .int (iI (m0))), (3, .int (iI (g))), (4, .int (iI (s9))), (5, .int (iI (p9)))]) hx hb dX7_gather_88 hl (k := 6) rfl (iI_add _ _) (by decide) rfl (fun ls hl => ?_)
              refine lv_goto (tgt := 35) hx hb dX7_gather_91 (by decide) ?_
              exact ih.2 (y) (g) (s9) (p9) ((v) + (1 : Int)) (sxy) (jy) (ry) (g0) (by omega) (by omega) (by omega) (by omega) (by omega) (by omega) (by omega) (by omega) hres _ _ ls hP hD hS (lv_sub hl [1, 2, 3, 4, 5, 6, 0] rfl)
            · skip
              rw [if_neg c_62] at hres
              refine lv_aload_n hx hb dX7_gather_65 rfl (lv_at hl 0 rfl) ?_
              refine lv_iload hx hb dX7_gather_66 (lv_at hl 4 rfl) ?_
              refine lv_iload hx hb dX7_gather_68 (lv_at hl 6 rfl) ?_
              refine wi_iadd hx hb dX7_gather_70 ?_
              refine lv_aload_n hx hb dX7_gather_71 rfl (lv_at hl 1 rfl) ?_
              refine lv_iload hx hb dX7_gather_72 (lv_at hl 4 rfl) ?_
              refine lv_iload hx hb dX7_gather_74 (lv_at hl 6 rfl) ?_
              refine wi_iadd hx hb dX7_gather_76 ?_
              have hFc : ∀ q, va_A (kWd cI cJ cZ cR wl ad M (y)) H.size q → A q := fun q hq => Or.elim hq (fun ⟨k, e, hk⟩ => hD.2 k (q, e) hk) (fun hk => hA q (Nat.le_trans hS.1 hk))
              refine va_calli (va_runV (b := ad (56)) (As := [.int (iI ((s9) + (v)))]) (rest := [.int (iI ((s9) + (v))), .ref (ad (58))]) ⟨hx, hb, hml, hown, hts⟩ (c_j_leastOf l dC dI ad cI cJ cZ cR M wl H.size (y)  ((s9) + (v)) hM (by unfold iR; omega) jy) (cwV 1 hts gX7_gather_X1_leastOf rfl rfl rfl (by decide +kernel) ⟨Nat.le_of_ble_eq_true rfl, Nat.le_of_ble_eq_true rfl⟩) ⟨fun a U g mk q => by obtain ⟨q0, q1, qP, qK, qD, qN⟩ := q; exact ⟨q0, q1, qP, va_K.moved (u := U) (U := U.calling g mk a) (Vm.Alike.refl U.vm) qK, qD, kNw.same (u := U) (U := U.calling g mk a) rfl qN⟩, va_recv hK hP (ci := 1) (q0 := 56) rfl (kg56 (by omega)), fun U hU hW => ⟨rfl, by rw [hU], by rw [hU]; exact hP, va_K.moved hW.alike hK, hD.weaken (fun _ _ _ _ => trivial), kNw.warm hW hNw⟩⟩ rfl rfl hl.1 rfl (lv_room (Nat.le_of_ble_eq_true rfl)) dX7_gather_77 ⟨Nat.le_of_ble_eq_true rfl, Nat.le_of_ble_eq_true rfl⟩) hS (fun q _ h => hFc q h) hFc (fun r9 u9 t H1 locs ht hvm hw hB hz1 hk1 hS => ?_)
              obtain ⟨hP1, hK1, hD1⟩ := hB
              rw [ht] at hP1
              obtain ⟨hw1, hw2⟩ := hw
              rw [hw2] at hP1 hD1
              rw [hw1]
              have hD2 := hD1.weaken (B := A) (fun _ q _ h => hFc q.1 h)
              have hP := hP1
              have hD := hD2
              generalize H1 = H at hP hS ⊢
              have ol := F_j_leastOf_ok (v := s9 + v) jy
              have sx2 : scX (F_j_leastOf y (s9 + v)).2 := scX_of (F_j_leastOf_fr _ _) (by decide) (by decide) (by decide) sxy
              have ry2 : ruR (F_j_leastOf y (s9 + v)).2 := ruR_of (F_j_leastOf_fr _ _) (by decide) (by decide) (by decide) (by decide) (by decide) (by decide) ry
              have hFc : ∀ q, va_A (kWd cI cJ cZ cR wl ad M ((F_j_leastOf (y) ((s9) + (v))).2)) H.size q → A q := fun q hq => Or.elim hq (fun ⟨k, e, hk⟩ => hD.2 k (q, e) hk) (fun hk => hA q (Nat.le_trans hS.1 hk))
              refine va_calli (va_runV (b := ad (58)) (As := [.int (iI ((s9) + (v))), .int (iI ((F_j_leastOf (y) ((s9) + (v))).1))]) (rest := []) ⟨hx, hb, hml, hown, hts⟩ (c_u_keep l dC dI ad cI cJ cZ cR M wl H.size ((F_j_leastOf (y) ((s9) + (v))).2)  ((s9) + (v)) ((F_j_leastOf (y) ((s9) + (v))).1) hM sx2.1 ry2 (by omega) (by omega) ol.2.1 (by omega)) (cwV 2 hts gX7_gather_X7_keep rfl rfl rfl (by decide +kernel) ⟨Nat.le_of_ble_eq_true rfl, Nat.le_of_ble_eq_true rfl⟩) ⟨fun a U g mk q => by obtain ⟨q0, q1, qP, qK, qD, qN⟩ := q; exact ⟨q0, q1, qP, va_K.moved (u := U) (U := U.calling g mk a) (Vm.Alike.refl U.vm) qK, qD, kNw.same (u := U) (U := U.calling g mk a) rfl qN⟩, va_recv hK hP (ci := 7) (q0 := 58) rfl (kg58 (by omega)), fun U hU hW => ⟨rfl, by rw [hU], by rw [hU]; exact hP, va_K.moved hW.alike hK, hD.weaken (fun _ _ _ _ => trivial), kNw.warm hW hNw⟩⟩ rfl rfl hl.1 rfl (lv_room (Nat.le_of_ble_eq_true rfl)) dX7_gather_80 ⟨Nat.le_of_ble_eq_true rfl, Nat.le_of_ble_eq_true rfl⟩) hS (fun q _ h => hFc q h) hFc (fun r9 u9 t H1 locs ht hvm hw hB hz1 hk1 hS => ?_)
              obtain ⟨hP1, hK1, hD1⟩ := hB
              rw [ht] at hP1
              obtain ⟨hw1, hw2⟩ := hw
              rw [hw2] at hP1 hD1
              rw [hw1]
              have hD2 := hD1.weaken (B := A) (fun _ q _ h => hFc q.1 h)
              have hP := hP1
              have hD := hD2
              generalize H1 = H at hP hS ⊢
              refine wi_if_ne (tgt := 88) hx hb (kR01 (F_u_keep_01 _ _ _)) dX7_gather_83 (by decide) (fun c_83 => ?_) (fun c_83 => ?_)
              · skip
                rw [if_neg c_83] at hres
                refine lv_iinc (v := iI ((v) + (1 : Int))) (lv' := [(6, .int (iI ((v) + (1 : Int)))), (0, .ref (ad (58))), (1, .ref (ad (56))), (2, .int (iI (m0))), (3, .int (iI (g))), (4, .int (iI (s9))), (5, .int (iI (p9)))]) hx hb dX7_gather_88 hl (k := 6) rfl (iI_add _ _) (by decide) rfl (fun ls hl => ?_)
                refine lv_goto (tgt := 35) hx hb dX7_gather_91 (by decide) ?_
                exact ih.2 ((F_u_keep ((F_j_leastOf (y) ((s9) + (v))).2) ((s9) + (v)) ((F_j_leastOf (y) ((s9) + (v))).1)).2) (g) (s9) (p9) ((v) + (1 : Int)) ((scX_of (F_u_keep_fr _ _ _) (by decide) (by decide) (by decide) sx2)) ((jnR_of (F_u_keep_fr _ _ _) (by decide) (by decide) ol.1)) ((F_u_keep_ok sx2.1 ry2 (by omega) (by omega) ol.2.1)) (g0) (by omega) (by omega) (by omega) (by omega) (by omega) (by omega) (by omega) (by omega) hres _ _ ls hP hD hS (lv_sub hl [1, 2, 3, 4, 5, 6, 0] rfl)
              · skip
                rw [if_pos c_83] at hres
                refine lv_iconst (v := iI (0 : Int)) hx hb dX7_gather_86 (by decide) ?_
                exact W.zret (v := iI ((0 : Int))) hx hb hr (kz _ (by first | assumption | omega)) (fun t ht hW => ⟨⟨iI ((0 : Int)), (F_u_keep ((F_j_leastOf (y) ((s9) + (v))).2) ((s9) + (v)) ((F_j_leastOf (y) ((s9) + (v))).1)).2, rfl, ⟨(by have h9 := congrArg (fun z : Int × KS => iI z.1) hres; exact h9), (by have h9 := congrArg (fun z : Int × KS => z.2) hres; exact h9)⟩, by rw [ht]; exact hP, va_K.moved hW.alike hK, hD⟩, hS.F ht⟩) hS.2.2 dX7_gather_87
  have key : ∀ (H : Heap) (locs : List Loc), va_P (dC, dI) vwCl (kWd cI cJ cZ cR wl ad M (x)) H → va_S A s.heap H locs → W p l e (headSpec wsX7_gather ({ frames := 3, cells := 0, slots := 0, locals := 70 })).room s m ([.ref (ad 58), .ref (ad 56), .int (iI m0)] : List Value).toArray below meth c H locs 0 0 (MQ below (va_Qi (fun (r : Int32) (u : KS) => r = iI (F_u_gather x m0).1 ∧ u = (F_u_gather x m0).2) (kAt dC dI ad cI cJ cZ cR M wl A) A) ([.ref (ad 58), .ref (ad 56), .int (iI m0)] : List Value).toArray s 0 0 A) (F0 m 0 ls []) := by
    intro H locs hP hS
    have hres : F_u_gather_s 300000 0 (kS (x) (58) 6 ((0 : Int))) (m0) ((1 : Int)) (0) (0) (0) = F_u_gather x m0 := rfl
    refine lv_aload_n hx hb dX7_gather_0 rfl (lv_at hl 0 rfl) ?_
    refine lv_iconst (v := iI (0 : Int)) hx hb dX7_gather_1 (by decide) ?_
    refine va_put (D := (dC, dI)) (ci := 7) (v := .int (iI ((0 : Int)))) (ty := .int) (C := RX7) (T := TX7) (N := 7) hx hb hts hinX7 tyX7 tyX7_ok nmX7 hown hK hP hD hS (58) (kg58 (by omega)) rfl 6 (by decide) (hts (.fieldLink RX7 32 "LikeWords$Rules" "held" "I") (by decide +kernel)) (fun _ h9 => h9) rfl (by decide +kernel) rfl rfl (Nat.le_of_ble_eq_true rfl) dX7_gather_2 (fun H locs hP hD hS => ?_)
    rw [ks58_6] at hP hD
    refine lv_iconst (v := iI (1 : Int)) hx hb dX7_gather_5 (by decide) ?_
    refine lv_istore_n (lv' := [(3, .int (iI ((1 : Int)))), (0, .ref (ad (58))), (1, .ref (ad (56))), (2, .int (iI (m0)))]) hx hb dX7_gather_6 rfl hl (by decide) rfl (fun ls hl => ?_)
    exact (L (300000)).1 (kS (x) (58) 6 ((0 : Int))) ((1 : Int)) (scX_of (S := [(58, 6)]) (A := []) (km_s (List.Mem.head _) (km_rf _ _ _)) (by decide) (by decide) (by decide) sx) (jr) (⟨by show (0 : Int) ≤ 0 ∧ (0 : Int) ≤ 40; decide, ru.2⟩) (by omega) (by omega) (by omega) hres _ _ ls hP hD hS (lv_sub hl [1, 2, 3, 0] rfl)
  exact key _ _ hP hS
theorem F_u_gather_sfr  : ∀ n : Nat, (∀ (y : KS) (v0 : Int) (v1 : Int) (v2 : Int) (v3 : Int) (v4 : Int), ksame [(58, 6)] [57, 59, 60, 62, 61, 63] y (F_u_gather_s n 0 y v0 v1 v2 v3 v4).2) ∧ (∀ (y : KS) (v0 : Int) (v1 : Int) (v2 : Int) (v3 : Int) (v4 : Int), ksame [(58, 6)] [57, 59, 60, 62, 61, 63] y (F_u_gather_s n 1 y v0 v1 v2 v3 v4).2) := by
  intro n
  induction n with
  | zero => exact ⟨fun y _ _ _ _ _ => km_rf _ _ _, fun y _ _ _ _ _ => km_rf _ _ _⟩
  | succ n ih =>
    refine ⟨?_, ?_⟩
    · intro y m0 g q0 q1 q2
      rw [F_u_gather_e0]
      by_cases hc : (m0) < (g)
      · rw [if_pos hc]
        exact (km_rf _ _ _)
      · rw [if_neg hc]
        exact km_tr ((km_rf _ _ _)) (ih.2 (y) (m0) (g) ((F_s_firstOf (y) (g)).1) ((F_s_powerOf (y) (g)).1) ((0 : Int)))
    · intro y m0 g s9 p9 v
      rw [F_u_gather_e1]
      by_cases hc : (p9) ≤ (v)
      · rw [if_pos hc]
        exact km_tr ((km_rf _ _ _)) (ih.1 (y) (m0) ((g) + (1 : Int)) (0) (0) (0))
      · rw [if_neg hc]
        by_cases hc : ((F_j_isLeast (y) ((s9) + (v))).1) = (0)
        · rw [if_pos hc]
          by_cases hc : ((F_u_arePartsLeast (y) (g) (v)).1) = (0)
          · rw [if_pos hc]
            exact km_tr ((km_rf _ _ _)) (ih.2 (y) (m0) (g) (s9) (p9) ((v) + (1 : Int)))
          · rw [if_neg hc]
            by_cases hc : ((F_u_keep ((F_j_leastOf (y) ((s9) + (v))).2) ((s9) + (v)) ((F_j_leastOf (y) ((s9) + (v))).1)).1) = (0)
            · rw [if_pos hc]
              exact (km_tr (km_tr (km_rf _ _ _) (km_mono km0 (km1 (List.Mem.head _) km0) (F_j_leastOf_fr (y) ((s9) + (v))))) (km_mono (km1 (List.Mem.head _) km0) (km1 (List.Mem.tail _ (List.Mem.head _)) (km1 (List.Mem.tail _ (List.Mem.tail _ (List.Mem.head _))) (km1 (List.Mem.tail _ (List.Mem.tail _ (List.Mem.tail _ (List.Mem.head _)))) (km1 (List.Mem.tail _ (List.Mem.tail _ (List.Mem.tail _ (List.Mem.tail _ (List.Mem.head _))))) (km1 (List.Mem.tail _ (List.Mem.tail _ (List.Mem.tail _ (List.Mem.tail _ (List.Mem.tail _ (List.Mem.head _)))))) km0))))) (F_u_keep_fr ((F_j_leastOf (y) ((s9) + (v))).2) ((s9) + (v)) ((F_j_leastOf (y) ((s9) + (v))).1))))
            · rw [if_neg hc]
              exact km_tr ((km_tr (km_tr (km_rf _ _ _) (km_mono km0 (km1 (List.Mem.head _) km0) (F_j_leastOf_fr (y) ((s9) + (v))))) (km_mono (km1 (List.Mem.head _) km0) (km1 (List.Mem.tail _ (List.Mem.head _)) (km1 (List.Mem.tail _ (List.Mem.tail _ (List.Mem.head _))) (km1 (List.Mem.tail _ (List.Mem.tail _ (List.Mem.tail _ (List.Mem.head _)))) (km1 (List.Mem.tail _ (List.Mem.tail _ (List.Mem.tail _ (List.Mem.tail _ (List.Mem.head _))))) (km1 (List.Mem.tail _ (List.Mem.tail _ (List.Mem.tail _ (List.Mem.tail _ (List.Mem.tail _ (List.Mem.head _)))))) km0))))) (F_u_keep_fr ((F_j_leastOf (y) ((s9) + (v))).2) ((s9) + (v)) ((F_j_leastOf (y) ((s9) + (v))).1))))) (ih.2 ((F_u_keep ((F_j_leastOf (y) ((s9) + (v))).2) ((s9) + (v)) ((F_j_leastOf (y) ((s9) + (v))).1)).2) (m0) (g) (s9) (p9) ((v) + (1 : Int)))
        · rw [if_neg hc]
          exact km_tr ((km_rf _ _ _)) (ih.2 (y) (m0) (g) (s9) (p9) ((v) + (1 : Int)))
theorem F_u_gather_fr (x : KS) (m0 : Int) : ksame [(58, 6)] [57, 59, 60, 62, 61, 63] x (F_u_gather x m0).2 := by
  unfold F_u_gather
  exact km_tr ((km_s (List.Mem.head _) (km_rf _ _ _))) ((F_u_gather_sfr  (300000)).1 (kS (x) (58) 6 ((0 : Int))) (m0) ((1 : Int)) (0) (0) (0))
theorem F_u_gather_q (x : KS) (m0 : Int)  : kq [58] [57, 59, 60, 62, 61, 63] x (F_u_gather x m0).2 := kq_of (F_u_gather_fr x m0) (kq_c (Or.inr (by decide)) kq_m) (kq_c (Or.inr (by decide)) (kq_c (Or.inr (by decide)) (kq_c (Or.inr (by decide)) (kq_c (Or.inr (by decide)) (kq_c (Or.inr (by decide)) (kq_c (Or.inr (by decide)) kq_n))))))
def F_u_numberOfBeginning (x : KS) (q0 : Int) (k0 : Int) : Int × KS := (if (q0) < (0) then ((0 : Int), x) else (if (q0) < ((40 : Int)) then (((F_s_firstOf (x) (k0)).1) + (((((x).2 (59)) (q0).toNat) - ((F_s_firstOf (x) (((x).2 (60)) (q0).toNat)).1)) / ((F_s_powerOf (x) ((((x).2 (60)) (q0).toNat) - (k0))).1)), x) else ((0 : Int), x)))
set_option maxHeartbeats 4000000 in
set_option maxRecDepth 100000 in
/-- LikeWords$Rules, numberOfBeginning -/
theorem c_u_numberOfBeginning (l : Launch) (dC : Nat → ClassId) (dI : Nat → Nat → Nat) (ad : Nat → Nat) (cI cJ cZ cR : ClassId) (M wl sz : Nat) (x : KS) (q0 : Int) (k0 : Int) (hM : 87 ≤ M) (rr0 : iR q0) (sx : scX x) (ru : ruR x) (k1 : 0 ≤ k0) (k2 : k0 ≤ 20) (vb : (F_s_firstOf x (x.2 60 q0.toNat)).1 ≤ x.2 59 q0.toNat) : Met l yX7_numberOfBeginning wsX7_numberOfBeginning ({ frames := 1, cells := 0, slots := 0, locals := 21 }) (kPc dC dI ad cI cJ cZ cR M wl sz x [.ref (ad 58), .int (iI q0), .int (iI k0)]) (va_Qi (fun (r : Int32) (u : KS) => r = iI (F_u_numberOfBeginning x q0 k0).1 ∧ u = (F_u_numberOfBeginning x q0 k0).2) (kAt dC dI ad cI cJ cZ cR M wl (va_A (kWd cI cJ cZ cR wl ad M (x)) sz)) (va_A (kWd cI cJ cZ cR wl ad M (x)) sz)) 0 0 (va_A (kWd cI cJ cZ cR wl ad M (x)) sz) := by
  refine Met.ofW (cc := cX7_numberOfBeginning) (maxL := 4) (ret := (some .int)) (by decide) rfl ?_
  intro p e s m args below meth c s₁ B hml hv
  obtain ⟨rfl, hsz, hP, hK, hD0, hNw⟩ := hv
  have hx := B.exec
  have hb := B.bytes
  have hr := B.returns
  have hts := atoms_spec (ws := wsX7_numberOfBeginning) B.pre
  have hown : s.vm.findClass RX7 = some m.cls := findClass_of_methodNamed B.named
  have hlocks := B.notSynchronized
  have hinX7 : ∀ w ∈ u_ws RX7 TX7 7, w ∈ wsX7_numberOfBeginning := by decide +kernel
  subst hsz
  have hD := hD0.self (sz := s.heap.size)
  generalize hAe : va_A (kWd cI cJ cZ cR wl ad M (x)) s.heap.size = A at hD ⊢
  have hA : ∀ q : Nat, s.heap.size ≤ q → A q := fun q h => by rw [← hAe]; exact Or.inr h
  have hS : va_S A s.heap s.heap [] := va_S.rf
  have hl := lv_entry ([.ref (ad 58), .int (iI q0), .int (iI k0)]) (n := 4) (Nat.le_of_ble_eq_true rfl)
  rw [lg_entry_eq]
  generalize (lg_sl ([.ref (ad 58), .int (iI q0), .int (iI k0)]) ++ List.replicate (4 - (lg_sl ([.ref (ad 58), .int (iI q0), .int (iI k0)])).length) Slot.unset).toArray = ls at hl ⊢
  have hl : lv_has ls 4 [(0, .ref (ad (58))), (1, .int (iI (q0))), (2, .int (iI (k0)))] := hl
  have sc := sx.1
  obtain ⟨⟨r0, r1⟩, rn, rl, rr, rc, rd⟩ := id ru
  have rn0 := rn q0.toNat
  have rl0 := rl q0.toNat
  have fb := F_s_firstOf_b sc (x.2 60 q0.toNat)
  have p1 := F_s_powerOf_1 sx (x.2 60 q0.toNat - k0)
  have p2 := F_s_powerOf_b sc (x.2 60 q0.toNat - k0)
  have key : ∀ (H : Heap) (locs : List Loc), va_P (dC, dI) vwCl (kWd cI cJ cZ cR wl ad M (x)) H → va_S A s.heap H locs → W p l e (headSpec wsX7_numberOfBeginning ({ frames := 1, cells := 0, slots := 0, locals := 21 })).room s m ([.ref (ad 58), .int (iI q0), .int (iI k0)] : List Value).toArray below meth c H locs 0 0 (MQ below (va_Qi (fun (r : Int32) (u : KS) => r = iI (F_u_numberOfBeginning x q0 k0).1 ∧ u = (F_u_numberOfBeginning x q0 k0).2) (kAt dC dI ad cI cJ cZ cR M wl A) A) ([.ref (ad 58), .int (iI q0), .int (iI k0)] : List Value).toArray s 0 0 A) (F0 m 0 ls []) := by
    intro H locs hP hS
    have hres : (if (q0) < (0) then ((0 : Int), x) else (if (q0) < ((40 : Int)) then (((F_s_firstOf (x) (k0)).1) + (((((x).2 (59)) (q0).toNat) - ((F_s_firstOf (x) (((x).2 (60)) (q0).toNat)).1)) / ((F_s_powerOf (x) ((((x).2 (60)) (q0).toNat) - (k0))).1)), x) else ((0 : Int), x))) = F_u_numberOfBeginning x q0 k0 := rfl
    refine lv_iload_n hx hb dX7_numberOfBeginning_0 rfl (lv_at hl 1 rfl) ?_
    refine wi_if_lt (tgt := 10) hx hb (by first | assumption | (unfold iR; omega) | exact kR01 (by assumption)) dX7_numberOfBeginning_1 (by decide) (fun c_1 => ?_) (fun c_1 => ?_)
    · skip
      rw [if_pos c_1] at hres
      refine lv_iconst (v := iI (0 : Int)) hx hb dX7_numberOfBeginning_10 (by decide) ?_
      exact W.iret (v := iI ((0 : Int))) hx hb hr (fun t ht hW => ⟨⟨iI ((0 : Int)), x, rfl, ⟨(by have h9 := congrArg (fun z : Int × KS => iI z.1) hres; exact h9), (by have h9 := congrArg (fun z : Int × KS => z.2) hres; exact h9)⟩, by rw [ht]; exact hP, va_K.moved hW.alike hK, hD⟩, hS.F ht⟩) hS.2.2 dX7_numberOfBeginning_11
    · skip
      rw [if_neg c_1] at hres
      refine lv_iload_n hx hb dX7_numberOfBeginning_4 rfl (lv_at hl 1 rfl) ?_
      refine lv_bipush (v := iI (40 : Int)) hx hb dX7_numberOfBeginning_5 (by decide) ?_
      refine wi_icmp_lt (tgt := 12) hx hb (by first | assumption | (unfold iR; omega) | exact kR01 (by assumption)) ⟨by decide, by decide⟩ dX7_numberOfBeginning_7 (by decide) (fun c_7 => ?_) (fun c_7 => ?_)
      · skip
        rw [if_pos c_7] at hres
        refine lv_aload_n hx hb dX7_numberOfBeginning_12 rfl (lv_at hl 0 rfl) ?_
        refine va_get (D := (dC, dI)) (ci := 7) (v := .ref (ad (59))) (C := RX7) (T := TX7) (N := 7) hx hb hts hinX7 hown hK hP (58) (kg58 (by omega)) rfl 1 (by decide) (hts (.fieldLink RX7 15 "LikeWords$Rules" "leftNumbers" "[I") (by decide +kernel)) (fun _ h9 => h9) rfl dX7_numberOfBeginning_13 ?_
        refine lv_iload_n hx hb dX7_numberOfBeginning_16 rfl (lv_at hl 1 rfl) ?_
        refine wi_iald (f := (x).2 (59)) (n := kLen (59)) hx hb hK hP (59) 0 (kgi kC59 (by omega) rfl) rfl (i := q0) (by omega) (by show _ < ((40 : Nat) : Int); exact (by omega)) (kLen_lt _) dX7_numberOfBeginning_17 ?_
        refine lv_aload_n hx hb dX7_numberOfBeginning_18 rfl (lv_at hl 0 rfl) ?_
        refine va_get (D := (dC, dI)) (ci := 7) (v := .ref (ad (1))) (C := RX7) (T := TX7) (N := 7) hx hb hts hinX7 hown hK hP (58) (kg58 (by omega)) rfl 0 (by decide) (hts (.fieldLink RX7 9 "LikeWords$Rules" "scale" "LLikeWords$Scale;") (by decide +kernel)) (fun _ h9 => h9) rfl dX7_numberOfBeginning_19 ?_
        refine lv_aload_n hx hb dX7_numberOfBeginning_22 rfl (lv_at hl 0 rfl) ?_
        refine va_get (D := (dC, dI)) (ci := 7) (v := .ref (ad (60))) (C := RX7) (T := TX7) (N := 7) hx hb hts hinX7 hown hK hP (58) (kg58 (by omega)) rfl 2 (by decide) (hts (.fieldLink RX7 19 "LikeWords$Rules" "leftSpans" "[I") (by decide +kernel)) (fun _ h9 => h9) rfl dX7_numberOfBeginning_23 ?_
        refine lv_iload_n hx hb dX7_numberOfBeginning_26 rfl (lv_at hl 1 rfl) ?_
        refine wi_iald (f := (x).2 (60)) (n := kLen (60)) hx hb hK hP (60) 0 (kgi kC60 (by omega) rfl) rfl (i := q0) (by omega) (by show _ < ((40 : Nat) : Int); exact (by omega)) (kLen_lt _) dX7_numberOfBeginning_27 ?_
        have hFc : ∀ q, va_A (kWd cI cJ cZ cR wl ad M (x)) H.size q → A q := fun q hq => Or.elim hq (fun ⟨k, e, hk⟩ => hD.2 k (q, e) hk) (fun hk => hA q (Nat.le_trans hS.1 hk))
        refine va_calli (va_runV (b := ad (1)) (As := [.int (iI (((x).2 (60)) (q0).toNat))]) (rest := [.int (iI (((x).2 (59)) (q0).toNat))]) ⟨hx, hb, hml, hown, hts⟩ (c_s_firstOf l dC dI ad cI cJ cZ cR M wl H.size (x)  (((x).2 (60)) (q0).toNat) hM sc (by unfold iR; omega)) (cwV 1 hts gX7_numberOfBeginning_X8_firstOf rfl rfl rfl (by decide +kernel) ⟨Nat.le_of_ble_eq_true rfl, Nat.le_of_ble_eq_true rfl⟩) ⟨fun a U g mk q => by obtain ⟨q0, q1, qP, qK, qD, qN⟩ := q; exact ⟨q0, q1, qP, va_K.moved (u := U) (U := U.calling g mk a) (Vm.Alike.refl U.vm) qK, qD, kNw.same (u := U) (U := U.calling g mk a) rfl qN⟩, va_recv hK hP (ci := 8) (q0 := 1) rfl (kg1 (by omega)), fun U hU hW => ⟨rfl, by rw [hU], by rw [hU]; exact hP, va_K.moved hW.alike hK, hD.weaken (fun _ _ _ _ => trivial), kNw.warm hW hNw⟩⟩ rfl rfl hl.1 rfl (lv_room (Nat.le_of_ble_eq_true rfl)) dX7_numberOfBeginning_28 ⟨Nat.le_of_ble_eq_true rfl, Nat.le_of_ble_eq_true rfl⟩) hS (fun q _ h => hFc q h) hFc (fun r9 u9 t H1 locs ht hvm hw hB hz1 hk1 hS => ?_)
        obtain ⟨hP1, hK1, hD1⟩ := hB
        rw [ht] at hP1
        obtain ⟨hw1, hw2⟩ := hw
        rw [hw2] at hP1 hD1
        rw [hw1]
        rw [F_s_firstOf_2] at hP1 hD1
        have hD2 := hD1.weaken (B := A) (fun _ q _ h => hFc q.1 h)
        have hP := hP1
        have hD := hD2
        generalize H1 = H at hP hS ⊢
        refine wi_isub hx hb dX7_numberOfBeginning_31 ?_
        refine lv_istore_n (lv' := [(3, .int (iI ((((x).2 (59)) (q0).toNat) - ((F_s_firstOf (x) (((x).2 (60)) (q0).toNat)).1)))), (0, .ref (ad (58))), (1, .int (iI (q0))), (2, .int (iI (k0)))]) hx hb dX7_numberOfBeginning_32 rfl hl (by decide) rfl (fun ls hl => ?_)
        refine lv_aload_n hx hb dX7_numberOfBeginning_33 rfl (lv_at hl 1 rfl) ?_
        refine va_get (D := (dC, dI)) (ci := 7) (v := .ref (ad (1))) (C := RX7) (T := TX7) (N := 7) hx hb hts hinX7 hown hK hP (58) (kg58 (by omega)) rfl 0 (by decide) (hts (.fieldLink RX7 9 "LikeWords$Rules" "scale" "LLikeWords$Scale;") (by decide +kernel)) (fun _ h9 => h9) rfl dX7_numberOfBeginning_34 ?_
        refine lv_iload_n hx hb dX7_numberOfBeginning_37 rfl (lv_at hl 3 rfl) ?_
        have hFc : ∀ q, va_A (kWd cI cJ cZ cR wl ad M (x)) H.size q → A q := fun q hq => Or.elim hq (fun ⟨k, e, hk⟩ => hD.2 k (q, e) hk) (fun hk => hA q (Nat.le_trans hS.1 hk))
        refine va_calli (va_runV (b := ad (1)) (As := [.int (iI (k0))]) (rest := []) ⟨hx, hb, hml, hown, hts⟩ (c_s_firstOf l dC dI ad cI cJ cZ cR M wl H.size (x)  (k0) hM sc (by unfold iR; omega)) (cwV 1 hts gX7_numberOfBeginning_X8_firstOf rfl rfl rfl (by decide +kernel) ⟨Nat.le_of_ble_eq_true rfl, Nat.le_of_ble_eq_true rfl⟩) ⟨fun a U g mk q => by obtain ⟨q0, q1, qP, qK, qD, qN⟩ := q; exact ⟨q0, q1, qP, va_K.moved (u := U) (U := U.calling g mk a) (Vm.Alike.refl U.vm) qK, qD, kNw.same (u := U) (U := U.calling g mk a) rfl qN⟩, va_recv hK hP (ci := 8) (q0 := 1) rfl (kg1 (by omega)), fun U hU hW => ⟨rfl, by rw [hU], by rw [hU]; exact hP, va_K.moved hW.alike hK, hD.weaken (fun _ _ _ _ => trivial), kNw.warm hW hNw⟩⟩ rfl rfl hl.1 rfl (lv_room (Nat.le_of_ble_eq_true rfl)) dX7_numberOfBeginning_38 ⟨Nat.le_of_ble_eq_true rfl, Nat.le_of_ble_eq_true rfl⟩) hS (fun q _ h => hFc q h) hFc (fun r9 u9 t H1 locs ht hvm hw hB hz1 hk1 hS => ?_)
        obtain ⟨hP1, hK1, hD1⟩ := hB
        rw [ht] at hP1
        obtain ⟨hw1, hw2⟩ := hw
        rw [hw2] at hP1 hD1
        rw [hw1]
        rw [F_s_firstOf_2] at hP1 hD1
        have hD2 := hD1.weaken (B := A) (fun _ q _ h => hFc q.1 h)
        have hP := hP1
        have hD := hD2
        generalize H1 = H at hP hS ⊢
        refine lv_iload_n hx hb dX7_numberOfBeginning_41 rfl (lv_at hl 0 rfl) ?_
        refine lv_aload_n hx hb dX7_numberOfBeginning_42 rfl (lv_at hl 1 rfl) ?_
        refine va_get (D := (dC, dI)) (ci := 7) (v := .ref (ad (1))) (C := RX7) (T := TX7) (N := 7) hx hb hts hinX7 hown hK hP (58) (kg58 (by omega)) rfl 0 (by decide) (hts (.fieldLink RX7 9 "LikeWords$Rules" "scale" "LLikeWords$Scale;") (by decide +kernel)) (fun _ h9 => h9) rfl dX7_numberOfBeginning_43 ?_
        refine lv_aload_n hx hb dX7_numberOfBeginning_46 rfl (lv_at hl 1 rfl) ?_
        refine va_get (D := (dC, dI)) (ci := 7) (v := .ref (ad (60))) (C := RX7) (T := TX7) (N := 7) hx hb hts hinX7 hown hK hP (58) (kg58 (by omega)) rfl 2 (by decide) (hts (.fieldLink RX7 19 "LikeWords$Rules" "leftSpans" "[I") (by decide +kernel)) (fun _ h9 => h9) rfl dX7_numberOfBeginning_47 ?_
        refine lv_iload_n hx hb dX7_numberOfBeginning_50 rfl (lv_at hl 2 rfl) ?_
        refine wi_iald (f := (x).2 (60)) (n := kLen (60)) hx hb hK hP (60) 0 (kgi kC60 (by omega) rfl) rfl (i := q0) (by omega) (by show _ < ((40 : Nat) : Int); exact (by omega)) (kLen_lt _) dX7_numberOfBeginning_51 ?_
        refine lv_iload_n hx hb dX7_numberOfBeginning_52 rfl (lv_at hl 3 rfl) ?_
        refine wi_isub hx hb dX7_numberOfBeginning_53 ?_
        have hFc : ∀ q, va_A (kWd cI cJ cZ cR wl ad M (x)) H.size q → A q := fun q hq => Or.elim hq (fun ⟨k, e, hk⟩ => hD.2 k (q, e) hk) (fun hk => hA q (Nat.le_trans hS.1 hk))
        refine va_calli (va_runV (b := ad (1)) (As := [.int (iI ((((x).2 (60)) (q0).toNat) - (k0)))]) (rest := [.int (iI ((((x).2 (59)) (q0).toNat) - ((F_s_firstOf (x) (((x).2 (60)) (q0).toNat)).1))), .int (iI ((F_s_firstOf (x) (k0)).1))]) ⟨hx, hb, hml, hown, hts⟩ (c_s_powerOf l dC dI ad cI cJ cZ cR M wl H.size (x)  ((((x).2 (60)) (q0).toNat) - (k0)) hM sc (by unfold iR; omega)) (cwV 1 hts gX7_numberOfBeginning_X8_powerOf rfl rfl rfl (by decide +kernel) ⟨Nat.le_of_ble_eq_true rfl, Nat.le_of_ble_eq_true rfl⟩) ⟨fun a U g mk q => by obtain ⟨q0, q1, qP, qK, qD, qN⟩ := q; exact ⟨q0, q1, qP, va_K.moved (u := U) (U := U.calling g mk a) (Vm.Alike.refl U.vm) qK, qD, kNw.same (u := U) (U := U.calling g mk a) rfl qN⟩, va_recv hK hP (ci := 8) (q0 := 1) rfl (kg1 (by omega)), fun U hU hW => ⟨rfl, by rw [hU], by rw [hU]; exact hP, va_K.moved hW.alike hK, hD.weaken (fun _ _ _ _ => trivial), kNw.warm hW hNw⟩⟩ rfl rfl hl.1 rfl (lv_room (Nat.le_of_ble_eq_true rfl)) dX7_numberOfBeginning_54 ⟨Nat.le_of_ble_eq_true rfl, Nat.le_of_ble_eq_true rfl⟩) hS (fun q _ h => hFc q h) hFc (fun r9 u9 t H1 locs ht hvm hw hB hz1 hk1 hS => ?_)
        obtain ⟨hP1, hK1, hD1⟩ := hB
        rw [ht] at hP1
        obtain ⟨hw1, hw2⟩ := hw
        rw [hw2] at hP1 hD1
        rw [hw1]
        rw [F_s_powerOf_2] at hP1 hD1
        have hD2 := hD1.weaken (B := A) (fun _ q _ h => hFc q.1 h)
        have hP := hP1
        have hD := hD2
        generalize H1 = H at hP hS ⊢
        refine wi_idiv hx hb (by first | assumption | (unfold iR; omega) | exact kR01 (by assumption)) (by first | assumption | (unfold iR; omega) | exact kR01 (by assumption)) (by omega) (by omega) dX7_numberOfBeginning_57 ?_
        refine wi_iadd hx hb dX7_numberOfBeginning_58 ?_
        exact W.iret (v := iI (((F_s_firstOf (x) (k0)).1) + (((((x).2 (59)) (q0).toNat) - ((F_s_firstOf (x) (((x).2 (60)) (q0).toNat)).1)) / ((F_s_powerOf (x) ((((x).2 (60)) (q0).toNat) - (k0))).1)))) hx hb hr (fun t ht hW => ⟨⟨iI (((F_s_firstOf (x) (k0)).1) + (((((x).2 (59)) (q0).toNat) - ((F_s_firstOf (x) (((x).2 (60)) (q0).toNat)).1)) / ((F_s_powerOf (x) ((((x).2 (60)) (q0).toNat) - (k0))).1))), x, rfl, ⟨(by have h9 := congrArg (fun z : Int × KS => iI z.1) hres; exact h9), (by have h9 := congrArg (fun z : Int × KS => z.2) hres; exact h9)⟩, by rw [ht]; exact hP, va_K.moved hW.alike hK, hD⟩, hS.F ht⟩) hS.2.2 dX7_numberOfBeginning_59
      · skip
        rw [if_neg c_7] at hres
        refine lv_iconst (v := iI (0 : Int)) hx hb dX7_numberOfBeginning_10 (by decide) ?_
        exact W.iret (v := iI ((0 : Int))) hx hb hr (fun t ht hW => ⟨⟨iI ((0 : Int)), x, rfl, ⟨(by have h9 := congrArg (fun z : Int × KS => iI z.1) hres; exact h9), (by have h9 := congrArg (fun z : Int × KS => z.2) hres; exact h9)⟩, by rw [ht]; exact hP, va_K.moved hW.alike hK, hD⟩, hS.F ht⟩) hS.2.2 dX7_numberOfBeginning_11
  exact key _ _ hP hS
theorem F_u_numberOfBeginning_fr (x : KS) (q0 : Int) (k0 : Int) : ksame [] [] x (F_u_numberOfBeginning x q0 k0).2 := by
  unfold F_u_numberOfBeginning
  by_cases hc : (q0) < (0)
  · rw [if_pos hc]
    exact (km_rf _ _ _)
  · rw [if_neg hc]
    by_cases hc : (q0) < ((40 : Int))
    · rw [if_pos hc]
      exact (km_rf _ _ _)
    · rw [if_neg hc]
      exact (km_rf _ _ _)
theorem F_u_numberOfBeginning_2 (x : KS) (q0 : Int) (k0 : Int) : (F_u_numberOfBeginning x q0 k0).2 = x := km_nil (F_u_numberOfBeginning_fr x q0 k0)
def F_u_copy_s (w1 : Nat) : Nat → Nat → KS → Int → Int → Int → Int → Int → Int × KS
  | 0, _, x, _, _, _, _, _ => (0, x)
  | n + 1, t, x, p0, p1, p2, p3, p4 => match t with
    | 0 => (fun (r0 : Int) (b0 : Int) (f0 : Int) (t0 : Int) (i : Int) => (if (t0) ≤ (i) then (0, x) else F_u_copy_s w1 n 0 ((F_w_push (x) (w1) ((F_u_signAt (x) (r0) (b0) (i)).1)).2) (r0) (b0) (f0) (t0) ((i) + (1 : Int)))) p0 p1 p2 p3 p4
    | _ => (0, x)
theorem F_u_copy_e0 (w1 : Nat) (n : Nat) (x : KS) (r0 : Int) (b0 : Int) (f0 : Int) (t0 : Int) (i : Int) : F_u_copy_s w1 (n + 1) 0 x r0 b0 f0 t0 i = (if (t0) ≤ (i) then (0, x) else F_u_copy_s w1 n 0 ((F_w_push (x) (w1) ((F_u_signAt (x) (r0) (b0) (i)).1)).2) (r0) (b0) (f0) (t0) ((i) + (1 : Int))) := rfl
def F_u_copy (x : KS) (w1 : Nat) (r0 : Int) (b0 : Int) (f0 : Int) (t0 : Int) : Int × KS := F_u_copy_s w1 1010 0 (x) (r0) (b0) (f0) (t0) (max (f0) ((0 : Int)))
set_option maxHeartbeats 4000000 in
set_option maxRecDepth 100000 in
/-- LikeWords$Rules, copy -/
theorem c_u_copy (l : Launch) (dC : Nat → ClassId) (dI : Nat → Nat → Nat) (ad : Nat → Nat) (cI cJ cZ cR : ClassId) (M wl sz : Nat) (x : KS) (w1 : Nat) (r0 : Int) (b0 : Int) (f0 : Int) (t0 : Int) (hM : 87 ≤ M) (hw_w1 : kW w1 = true) (hc_w1 : w1 + 1 < M) (rr0 : iR r0) (b01 : b0 = 0 ∨ b0 = 1) (f1 : -1000 ≤ f0) (f2 : f0 ≤ 1000) (t1 : -1000 ≤ t0) (t2 : t0 ≤ 1000) (u0 : 0 ≤ x.1 w1 1) (u1 : x.1 w1 1 ≤ kL w1) : Met l yX7_copy wsX7_copy ({ frames := 1, cells := 0, slots := 0, locals := 24 }) (kPc dC dI ad cI cJ cZ cR M wl sz x [.ref (ad 58), .int (iI r0), .int (iI b0), .int (iI f0), .int (iI t0), .ref (ad w1)]) (va_Qv (fun u : KS => u = (F_u_copy x w1 r0 b0 f0 t0).2) (kAt dC dI ad cI cJ cZ cR M wl (va_A (kWd cI cJ cZ cR wl ad M (x)) sz)) (va_A (kWd cI cJ cZ cR wl ad M (x)) sz)) 0 0 (va_A (kWd cI cJ cZ cR wl ad M (x)) sz) := by
  refine Met.ofW (cc := cX7_copy) (maxL := 7) (ret := none) (by decide) rfl ?_
  intro p e s m args below meth c s₁ B hml hv
  obtain ⟨rfl, hsz, hP, hK, hD0, hNw⟩ := hv
  have hx := B.exec
  have hb := B.bytes
  have hr := B.returns
  have hts := atoms_spec (ws := wsX7_copy) B.pre
  have hown : s.vm.findClass RX7 = some m.cls := findClass_of_methodNamed B.named
  have hlocks := B.notSynchronized
  subst hsz
  have hD := hD0.self (sz := s.heap.size)
  generalize hAe : va_A (kWd cI cJ cZ cR wl ad M (x)) s.heap.size = A at hD ⊢
  have hA : ∀ q : Nat, s.heap.size ≤ q → A q := fun q h => by rw [← hAe]; exact Or.inr h
  have hS : va_S A s.heap s.heap [] := va_S.rf
  have hl := lv_entry ([.ref (ad 58), .int (iI r0), .int (iI b0), .int (iI f0), .int (iI t0), .ref (ad w1)]) (n := 7) (Nat.le_of_ble_eq_true rfl)
  rw [lg_entry_eq]
  generalize (lg_sl ([.ref (ad 58), .int (iI r0), .int (iI b0), .int (iI f0), .int (iI t0), .ref (ad w1)]) ++ List.replicate (7 - (lg_sl ([.ref (ad 58), .int (iI r0), .int (iI b0), .int (iI f0), .int (iI t0), .ref (ad w1)])).length) Slot.unset).toArray = ls at hl ⊢
  have hl : lv_has ls 7 [(0, .ref (ad (58))), (1, .int (iI (r0))), (2, .int (iI (b0))), (3, .int (iI (f0))), (4, .int (iI (t0))), (5, .ref (ad (w1)))] := hl
  have k61 := kL_le w1
  have L : ∀ n : Nat, (∀ (y : KS) (i : Int), (0 ≤ i) → (i ≤ 1000) → (0 ≤ y.1 w1 1) → (y.1 w1 1 ≤ kL w1) → (1000 - i < n) → F_u_copy_s w1 n 0 y r0 b0 f0 t0 i = F_u_copy x w1 r0 b0 f0 t0 → ∀ (H : Heap) (locs : List Loc) (ls : Array Slot), va_P (dC, dI) vwCl (kWd cI cJ cZ cR wl ad M (y)) H → va_D A (kWd cI cJ cZ cR wl ad M (y)) → va_S A s.heap H locs → lv_has ls 7 [(0, .ref (ad (58))), (1, .int (iI (r0))), (2, .int (iI (b0))), (3, .int (iI (f0))), (4, .int (iI (t0))), (5, .ref (ad (w1))), (6, .int (iI (i)))] → W p l e (headSpec wsX7_copy ({ frames := 1, cells := 0, slots := 0, locals := 24 })).room s m ([.ref (ad 58), .int (iI r0), .int (iI b0), .int (iI f0), .int (iI t0), .ref (ad w1)] : List Value).toArray below meth c H locs 0 0 (MQ below (va_Qv (fun u : KS => u = (F_u_copy x w1 r0 b0 f0 t0).2) (kAt dC dI ad cI cJ cZ cR M wl A) A) ([.ref (ad 58), .int (iI r0), .int (iI b0), .int (iI f0), .int (iI t0), .ref (ad w1)] : List Value).toArray s 0 0 A) (F0 m 7 ls [])) := by
    intro n
    induction n with
    | zero =>
      skip
      · intro y i i0 i1 y0 y1 fu hres
        exact absurd fu (by omega)
    | succ n ih =>
      skip
      · intro y i i0 i1 y0 y1 fu hres H locs ls hP hD hS hl
        rw [F_u_copy_e0] at hres
        refine lv_iload hx hb dX7_copy_7 (lv_at hl 6 rfl) ?_
        refine lv_iload hx hb dX7_copy_9 (lv_at hl 4 rfl) ?_
        refine wi_icmp_ge (tgt := 34) hx hb (by first | assumption | (unfold iR; omega) | exact kR01 (by assumption)) (by first | assumption | (unfold iR; omega) | exact kR01 (by assumption)) dX7_copy_11 (by decide) (fun c_11 => ?_) (fun c_11 => ?_)
        · skip
          rw [if_pos c_11] at hres
          exact W.vret hx hb hr (fun t ht hW => ⟨⟨y, rfl, (by have h9 := congrArg (fun z : Int × KS => z.2) hres; exact h9), by rw [ht]; exact hP, va_K.moved hW.alike hK, hD⟩, hS.F ht⟩) hS.2.2 dX7_copy_34
        · skip
          rw [if_neg c_11] at hres
          refine lv_aload hx hb dX7_copy_14 (lv_at hl 5 rfl) ?_
          refine lv_aload_n hx hb dX7_copy_16 rfl (lv_at hl 0 rfl) ?_
          refine lv_iload_n hx hb dX7_copy_17 rfl (lv_at hl 1 rfl) ?_
          refine lv_iload_n hx hb dX7_copy_18 rfl (lv_at hl 2 rfl) ?_
          refine lv_iload hx hb dX7_copy_19 (lv_at hl 6 rfl) ?_
          have hFc : ∀ q, va_A (kWd cI cJ cZ cR wl ad M (y)) H.size q → A q := fun q hq => Or.elim hq (fun ⟨k, e, hk⟩ => hD.2 k (q, e) hk) (fun hk => hA q (Nat.le_trans hS.1 hk))
          refine va_calli (va_runV (b := ad (58)) (As := [.int (iI (r0)), .int (iI (b0)), .int (iI (i))]) (rest := [.ref (ad (w1))]) ⟨hx, hb, hml, hown, hts⟩ (c_u_signAt l dC dI ad cI cJ cZ cR M wl H.size (y)  (r0) (b0) (i) hM rr0 b01) (cwV 3 hts gX7_copy_X7_signAt rfl rfl rfl (by decide +kernel) ⟨Nat.le_of_ble_eq_true rfl, Nat.le_of_ble_eq_true rfl⟩) ⟨fun a U g mk q => by obtain ⟨q0, q1, qP, qK, qD, qN⟩ := q; exact ⟨q0, q1, qP, va_K.moved (u := U) (U := U.calling g mk a) (Vm.Alike.refl U.vm) qK, qD, kNw.same (u := U) (U := U.calling g mk a) rfl qN⟩, va_recv hK hP (ci := 7) (q0 := 58) rfl (kg58 (by omega)), fun U hU hW => ⟨rfl, by rw [hU], by rw [hU]; exact hP, va_K.moved hW.alike hK, hD.weaken (fun _ _ _ _ => trivial), kNw.warm hW hNw⟩⟩ rfl rfl hl.1 rfl (lv_room (Nat.le_of_ble_eq_true rfl)) dX7_copy_21 ⟨Nat.le_of_ble_eq_true rfl, Nat.le_of_ble_eq_true rfl⟩) hS (fun q _ h => hFc q h) hFc (fun r9 u9 t H1 locs ht hvm hw hB hz1 hk1 hS => ?_)
          obtain ⟨hP1, hK1, hD1⟩ := hB
          rw [ht] at hP1
          obtain ⟨hw1, hw2⟩ := hw
          rw [hw2] at hP1 hD1
          rw [hw1]
          rw [F_u_signAt_2] at hP1 hD1
          have hD2 := hD1.weaken (B := A) (fun _ q _ h => hFc q.1 h)
          have hP := hP1
          have hD := hD2
          generalize H1 = H at hP hS ⊢
          have hFc : ∀ q, va_A (kWd cI cJ cZ cR wl ad M (y)) H.size q → A q := fun q hq => Or.elim hq (fun ⟨k, e, hk⟩ => hD.2 k (q, e) hk) (fun hk => hA q (Nat.le_trans hS.1 hk))
          refine va_calli (va_runV (b := ad (w1)) (As := [.int (iI ((F_u_signAt (y) (r0) (b0) (i)).1))]) (rest := []) ⟨hx, hb, hml, hown, hts⟩ (c_w_push l dC dI ad cI cJ cZ cR M wl H.size (y) (w1) ((F_u_signAt (y) (r0) (b0) (i)).1) hM hw_w1 (by omega) y0 y1) (cwV 1 hts gX7_copy_X10_push rfl rfl rfl (by decide +kernel) ⟨Nat.le_of_ble_eq_true rfl, Nat.le_of_ble_eq_true rfl⟩) ⟨fun a U g mk q => by obtain ⟨q0, q1, qP, qK, qD, qN⟩ := q; exact ⟨q0, q1, qP, va_K.moved (u := U) (U := U.calling g mk a) (Vm.Alike.refl U.vm) qK, qD, kNw.same (u := U) (U := U.calling g mk a) rfl qN⟩, va_recv hK hP (ci := 10) (q0 := w1) rfl (kgw hw_w1 (by omega)), fun U hU hW => ⟨rfl, by rw [hU], by rw [hU]; exact hP, va_K.moved hW.alike hK, hD.weaken (fun _ _ _ _ => trivial), kNw.warm hW hNw⟩⟩ rfl rfl hl.1 rfl (lv_room (Nat.le_of_ble_eq_true rfl)) dX7_copy_24 ⟨Nat.le_of_ble_eq_true rfl, Nat.le_of_ble_eq_true rfl⟩) hS (fun q _ h => hFc q h) hFc (fun r9 u9 t H1 locs ht hvm hw hB hz1 hk1 hS => ?_)
          obtain ⟨hP1, hK1, hD1⟩ := hB
          rw [ht] at hP1
          obtain ⟨hw1, hw2⟩ := hw
          rw [hw2] at hP1 hD1
          rw [hw1]
          have hD2 := hD1.weaken (B := A) (fun _ q _ h => hFc q.1 h)
          have hP := hP1
          have hD := hD2
          generalize H1 = H at hP hS ⊢
          refine lv_pop hx hb dX7_copy_27 rfl ?_
          refine lv_iinc (v := iI ((i) + (1 : Int))) (lv' := [(6, .int (iI ((i) + (1 : Int)))), (0, .ref (ad (58))), (1, .int (iI (r0))), (2, .int (iI (b0))), (3, .int (iI (f0))), (4, .int (iI (t0))), (5, .ref (ad (w1)))]) hx hb dX7_copy_28 hl (k := 6) rfl (iI_add _ _) (by decide) rfl (fun ls hl => ?_)
          refine lv_goto (tgt := 7) hx hb dX7_copy_31 (by decide) ?_
          exact ih ((F_w_push (y) (w1) ((F_u_signAt (y) (r0) (b0) (i)).1)).2) ((i) + (1 : Int)) (by omega) (by omega) ((F_w_push_b hw_w1 y0 y1).1) ((F_w_push_b hw_w1 y0 y1).2) (by omega) hres _ _ ls hP hD hS (lv_sub hl [1, 2, 3, 4, 5, 6, 0] rfl)
  have key : ∀ (H : Heap) (locs : List Loc), va_P (dC, dI) vwCl (kWd cI cJ cZ cR wl ad M (x)) H → va_S A s.heap H locs → W p l e (headSpec wsX7_copy ({ frames := 1, cells := 0, slots := 0, locals := 24 })).room s m ([.ref (ad 58), .int (iI r0), .int (iI b0), .int (iI f0), .int (iI t0), .ref (ad w1)] : List Value).toArray below meth c H locs 0 0 (MQ below (va_Qv (fun u : KS => u = (F_u_copy x w1 r0 b0 f0 t0).2) (kAt dC dI ad cI cJ cZ cR M wl A) A) ([.ref (ad 58), .int (iI r0), .int (iI b0), .int (iI f0), .int (iI t0), .ref (ad w1)] : List Value).toArray s 0 0 A) (F0 m 0 ls []) := by
    intro H locs hP hS
    have hres : F_u_copy_s w1 1010 0 (x) (r0) (b0) (f0) (t0) (max (f0) ((0 : Int))) = F_u_copy x w1 r0 b0 f0 t0 := rfl
    refine lv_iload_n hx hb dX7_copy_0 rfl (lv_at hl 3 rfl) ?_
    refine lv_iconst (v := iI (0 : Int)) hx hb dX7_copy_1 (by decide) ?_
    refine va_mmax hx hb (by rw [hml]; exact hl.1.symm) hown (hts (.methodLink RX7 72 Lib.Math.max.name) (by decide +kernel)) (hts (.static Lib.Math.max.name) (by decide +kernel)) (hts (.initialized "java/lang/Math") (by decide +kernel)) (hts (.code Lib.Math.max.name Lib.Math.max.code 2 (some .int)) (by decide +kernel)) (Nat.le_of_ble_eq_true rfl) (Nat.le_of_ble_eq_true rfl) (Nat.le_of_ble_eq_true rfl) (Nat.le_of_ble_eq_true rfl) dX7_copy_2 ?_
    rw [iI_max (by first | assumption | (unfold iR; omega) | exact kR01 (by assumption)) ⟨by decide, by decide⟩]
    refine lv_istore (lv' := [(6, .int (iI (max (f0) ((0 : Int))))), (0, .ref (ad (58))), (1, .int (iI (r0))), (2, .int (iI (b0))), (3, .int (iI (f0))), (4, .int (iI (t0))), (5, .ref (ad (w1)))]) hx hb dX7_copy_5 hl (by decide) rfl (fun ls hl => ?_)
    exact (L (1010)) (x) (max (f0) ((0 : Int))) (by omega) (by omega) (u0) (u1) (by omega) hres _ _ ls hP hD hS (lv_sub hl [1, 2, 3, 4, 5, 6, 0] rfl)
  exact key _ _ hP hS
theorem F_u_copy_sfr (w1 : Nat) : ∀ n : Nat, (∀ (y : KS) (v0 : Int) (v1 : Int) (v2 : Int) (v3 : Int) (v4 : Int), ksame [(w1, 1)] [(w1) + 1] y (F_u_copy_s w1 n 0 y v0 v1 v2 v3 v4).2) := by
  intro n
  induction n with
  | zero => exact fun y _ _ _ _ _ => km_rf _ _ _
  | succ n ih =>
    skip
    · intro y r0 b0 f0 t0 i
      rw [F_u_copy_e0]
      by_cases hc : (t0) ≤ (i)
      · rw [if_pos hc]
        exact (km_rf _ _ _)
      · rw [if_neg hc]
        exact km_tr ((km_tr (km_rf _ _ _) (km_mono (km1 (List.Mem.head _) km0) (km1 (List.Mem.head _) km0) (F_w_push_fr (y) (w1) ((F_u_signAt (y) (r0) (b0) (i)).1))))) (ih ((F_w_push (y) (w1) ((F_u_signAt (y) (r0) (b0) (i)).1)).2) (r0) (b0) (f0) (t0) ((i) + (1 : Int)))
theorem F_u_copy_fr (x : KS) (w1 : Nat) (r0 : Int) (b0 : Int) (f0 : Int) (t0 : Int) : ksame [(w1, 1)] [(w1) + 1] x (F_u_copy x w1 r0 b0 f0 t0).2 := by
  unfold F_u_copy
  exact km_tr ((km_rf _ _ _)) ((F_u_copy_sfr w1 (1010)) (x) (r0) (b0) (f0) (t0) (max (f0) ((0 : Int))))
theorem F_u_copy_q (x : KS) (w1 : Nat) (r0 : Int) (b0 : Int) (f0 : Int) (t0 : Int) (hw_w1 : kW w1 = true) : kq [] [] x (F_u_copy x w1 r0 b0 f0 t0).2 := kq_of (F_u_copy_fr x w1 r0 b0 f0 t0) (kq_c (Or.inl hw_w1) kq_m) (kq_c (Or.inl hw_w1) kq_n)
