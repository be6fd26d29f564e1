-- deps: 30 31 32 33 34 35 36 37 38 39 40
theorem kp4 (T : Nat) : (4 : Int) ^ (T + 1) = 4 * 4 ^ T := by rw [Int.pow_succ, Int.mul_comm]
theorem kp4_1 (T : Nat) : (1 : Int) ≤ 4 ^ T := by
  induction T with
  | zero => decide
  | succ T ih => rw [kp4]; omega
theorem kp4_m {a b : Nat} (h : a ≤ b) : (4 : Int) ^ a ≤ 4 ^ b := by
  induction h with
  | refl => exact Int.le_refl _
  | step h ih => rw [kp4]; have := kp4_1 a; omega
theorem iNI_b {a b : Int} (h0 : 0 ≤ b) (h1 : b < 2147483648) : 0 ≤ iNI a b ∧ iNI a b ≤ b := by
  unfold iNI
  have hb : (iI b).toInt = b := iI_toInt ⟨by omega, h1⟩
  have e : (iI a &&& iI b).toBitVec = (iI a).toBitVec &&& (iI b).toBitVec := rfl
  have hbn : (iI b).toBitVec.toNat = b.toNat := by
    have h2 : (iI b).toBitVec.toInt = b := hb
    rw [BitVec.toInt_eq_toNat_cond] at h2
    have h3 := (iI b).toBitVec.isLt
    split at h2 <;> omega
  have hle : ((iI a &&& iI b).toBitVec).toNat ≤ b.toNat := by
    rw [e, BitVec.toNat_and, hbn]
    exact Nat.and_le_right
  have h4 : (iI a &&& iI b).toInt = ((iI a &&& iI b).toBitVec).toInt := rfl
  rw [h4, BitVec.toInt_eq_toNat_cond]
  split <;> omega
theorem scX_q {C Q : List Nat} {x y : KS} (h : kq C Q x y) (sx : scX x) (h1 : 1 ∉ C := by decide) (h2 : 2 ∉ Q := by decide) (h3 : 3 ∉ Q := by decide) : scX y := scX_same (h.1 1 rfl h1) (h.2 2 rfl h2) (h.2 3 rfl h3) sx
theorem jnR_q {C Q : List Nat} {x y : KS} (h : kq C Q x y) (jr : jnR x) (h1 : 56 ∉ C := by decide) (h2 : 57 ∉ Q := by decide) : jnR y := by unfold jnR; rw [h.1 56 rfl h1, h.2 57 rfl h2]; exact jr
theorem ruR_q {C Q : List Nat} {x y : KS} (h : kq C Q x y) (ru : ruR x) (h1 : 58 ∉ C := by decide) (h2 : 59 ∉ Q := by decide) (h3 : 60 ∉ Q := by decide) (h4 : 61 ∉ Q := by decide) (h5 : 62 ∉ Q := by decide) (h6 : 63 ∉ Q := by decide) : ruR y := by unfold ruR; rw [h.1 58 rfl h1, h.2 59 rfl h2, h.2 60 rfl h3, h.2 61 rfl h4, h.2 62 rfl h5, h.2 63 rfl h6]; exact ru
theorem ruV_q {C Q : List Nat} {x y : KS} (h : kq C Q x y) (rv : ruV x) (h1 : 58 ∉ C := by decide) (h0 : 1 ∉ C := by decide) (h2 : 59 ∉ Q := by decide) (h3 : 60 ∉ Q := by decide) (h4 : 3 ∉ Q := by decide) : ruV y := by unfold ruV; rw [h.1 58 rfl h1, h.1 1 rfl h0, h.2 59 rfl h2, h.2 60 rfl h3, h.2 3 rfl h4]; exact rv
theorem maR_q {C Q : List Nat} {x y : KS} (h : kq C Q x y) (ma : maR x) (h1 : 64 ∉ C := by decide) (h2 : 65 ∉ Q := by decide) (h3 : 66 ∉ Q := by decide) : maR y := by unfold maR; rw [h.1 64 rfl h1, h.2 65 rfl h2, h.2 66 rfl h3]; exact ma
theorem l2_q {C Q : List Nat} {x y : KS} (h : kq C Q x y) (l2 : 1 ≤ x.1 1 2 ∧ x.1 1 2 ≤ 4) (h1 : 1 ∉ C := by decide) : 1 ≤ y.1 1 2 ∧ y.1 1 2 ≤ 4 := by rw [h.1 1 rfl h1]; exact l2
/-- a LETTER that leads nowhere ends a LEFT side that has LETTERS -/
def stV (x : KS) : Prop := ∀ j : Nat, x.2 66 j < 0 → -40 ≤ x.2 66 j ∧ 1 ≤ x.2 60 (-1 - x.2 66 j).toNat
theorem stV_q {C Q : List Nat} {x y : KS} (h : kq C Q x y) (sv : stV x) (h2 : 60 ∉ Q := by decide) (h3 : 66 ∉ Q := by decide) : stV y := by unfold stV; rw [h.2 60 rfl h2, h.2 66 rfl h3]; exact sv
theorem F_a_step_v {x : KS} (sv : stV x) {s z : Int} (h : (F_a_step x s z).1 < 0) : -40 ≤ (F_a_step x s z).1 ∧ 1 ≤ (F_u_spanOf x (-1 - (F_a_step x s z).1) 1).1 := by
  have key : ∀ v : Int, v < 0 → (∃ j, v = x.2 66 j) → -40 ≤ v ∧ 1 ≤ (F_u_spanOf x (-1 - v) 1).1 := by
    intro v hv hj
    obtain ⟨j, e⟩ := hj
    have s1 := sv j (by omega)
    rw [← e] at s1
    refine ⟨s1.1, ?_⟩
    unfold F_u_spanOf
    rw [if_neg (by omega), if_pos (by omega), if_neg (by decide)]
    exact s1.2
  refine key _ h ?_
  unfold F_a_step at h ⊢
  revert h
  repeat' split
  all_goals first | (intro _; exact ⟨_, rfl⟩) | (intro h; exact absurd h (by show ¬ (0 : Int) < 0; decide))
/-- what holds of the Rewriter and of the target between two turns -/
def rwI (x : KS) (w : Nat) : Prop := (0 ≤ x.1 w 1 ∧ x.1 w 1 ≤ kL w) ∧ (0 ≤ x.1 70 4 ∧ x.1 70 4 ≤ 60) ∧ (∀ j : Nat, -1000 ≤ x.2 72 j ∧ x.2 72 j < 320) ∧ (∀ j : Nat, -1 ≤ x.2 71 j ∧ x.2 71 j ≤ 3)
theorem F_u_signAt_b (x : KS) (r b i : Int) : 0 ≤ (F_u_signAt x r b i).1 ∧ (F_u_signAt x r b i).1 ≤ 3 := by
  unfold F_u_signAt
  repeat' split
  all_goals first | exact iNI_b (by decide) (by decide) | exact ⟨by show (0 : Int) ≤ 0; decide, by show (0 : Int) ≤ 3; decide⟩
def F_r_replace_s (w1 : Nat) : Nat → Nat → KS → Int → Int → Int × KS
  | 0, _, x, _, _ => (0, x)
  | n + 1, t, x, p0, p1 => match t with
    | 0 => (fun (r0 : Int) (i : Int) => (if (i) < (0) then ((1 : Int), x) else F_r_replace_s w1 n 0 (kA (kS (x) (70) 4 (((x).1 (70) 4) + ((1 : Int)))) (71) ((x).1 (70) 4).toNat ((F_u_signAt (kS (x) (70) 4 (((x).1 (70) 4) + ((1 : Int)))) (r0) ((0 : Int)) (i)).1)) (r0) ((i) + (-1 : Int)))) p0 p1
    | _ => (0, x)
theorem F_r_replace_e0 (w1 : Nat) (n : Nat) (x : KS) (r0 : Int) (i : Int) : F_r_replace_s w1 (n + 1) 0 x r0 i = (if (i) < (0) then ((1 : Int), x) else F_r_replace_s w1 n 0 (kA (kS (x) (70) 4 (((x).1 (70) 4) + ((1 : Int)))) (71) ((x).1 (70) 4).toNat ((F_u_signAt (kS (x) (70) 4 (((x).1 (70) 4) + ((1 : Int)))) (r0) ((0 : Int)) (i)).1)) (r0) ((i) + (-1 : Int))) := rfl
def F_r_replace (x : KS) (w1 : Nat) (r0 : Int) : Int × KS := (if (((x).1 (w1) 1) - (((F_u_spanOf (x) (r0) ((1 : Int))).1) - ((1 : Int)))) < (0) then ((0 : Int), x) else (if (((((x).1 (w1) 1) - (((F_u_spanOf (x) (r0) ((1 : Int))).1) - ((1 : Int)))) + ((x).1 (70) 4)) + ((F_u_spanOf (x) (r0) ((0 : Int))).1)) ≤ ((60 : Int)) then F_r_replace_s w1 30 0 (kS (x) (w1) 1 (((x).1 (w1) 1) - (((F_u_spanOf (x) (r0) ((1 : Int))).1) - ((1 : Int))))) (r0) (((F_u_spanOf (x) (r0) ((0 : Int))).1) - ((1 : Int))) else ((0 : Int), x)))
set_option maxHeartbeats 4000000 in
set_option maxRecDepth 100000 in
/-- LikeWords$Rewriter, replace -/
theorem c_r_replace (l : Launch) (dC : Nat → ClassId) (dI : Nat → Nat → Nat) (ad : Nat → Nat) (cI cJ cZ cR : ClassId) (M wl sz : Nat) (x : KS) (w1 : Nat) (r0 : Int) (hM : 87 ≤ M) (hw_w1 : kW w1 = true) (hc_w1 : w1 + 1 < M) (rr0 : iR r0) (ru : ruR x) (wi : rwI x w1) : Met l yX6_replace wsX6_replace ({ frames := 1, cells := 0, slots := 0, locals := 24 }) (kPc dC dI ad cI cJ cZ cR M wl sz x [.ref (ad 70), .int (iI r0), .ref (ad w1)]) (va_Qi (fun (r : Int32) (u : KS) => r = iI (F_r_replace x w1 r0).1 ∧ u = (F_r_replace x w1 r0).2) (kAt dC dI ad cI cJ cZ cR M wl (va_A (kWd cI cJ cZ cR wl ad M (x)) sz)) (va_A (kWd cI cJ cZ cR wl ad M (x)) sz)) 0 0 (va_A (kWd cI cJ cZ cR wl ad M (x)) sz) := by
  refine Met.ofW (cc := cX6_replace) (maxL := 6) (ret := (some .boolean)) (by decide) rfl ?_
  intro p e s m args below meth c s₁ B hml hv
  obtain ⟨rfl, hsz, hP, hK, hD0, hNw⟩ := hv
  have hx := B.exec
  have hb := B.bytes
  have hr := B.returns
  have hts := atoms_spec (ws := wsX6_replace) B.pre
  have hown : s.vm.findClass RX6 = some m.cls := findClass_of_methodNamed B.named
  have hlocks := B.notSynchronized
  have hinX10 : ∀ w ∈ u_ws RX10 TX10 2, w ∈ wsX6_replace := by decide +kernel
  have hinX6 : ∀ w ∈ u_ws RX6 TX6 6, w ∈ wsX6_replace := by decide +kernel
  subst hsz
  have hD := hD0.self (sz := s.heap.size)
  generalize hAe : va_A (kWd cI cJ cZ cR wl ad M (x)) s.heap.size = A at hD ⊢
  have hA : ∀ q : Nat, s.heap.size ≤ q → A q := fun q h => by rw [← hAe]; exact Or.inr h
  have hS : va_S A s.heap s.heap [] := va_S.rf
  have hl := lv_entry ([.ref (ad 70), .int (iI r0), .ref (ad w1)]) (n := 6) (Nat.le_of_ble_eq_true rfl)
  rw [lg_entry_eq]
  generalize (lg_sl ([.ref (ad 70), .int (iI r0), .ref (ad w1)]) ++ List.replicate (6 - (lg_sl ([.ref (ad 70), .int (iI r0), .ref (ad w1)])).length) Slot.unset).toArray = ls at hl ⊢
  have hl : lv_has ls 6 [(0, .ref (ad (70))), (1, .int (iI (r0))), (2, .ref (ad (w1)))] := hl
  have k61 := kL_le w1
  obtain ⟨⟨u0, u1⟩, ⟨q0, q1⟩, rp, rs9⟩ := id wi
  have s1 := F_u_spanOf_b ru r0 1
  have s2 := F_u_spanOf_b ru r0 0
  have L : ∀ n : Nat, (∀ (y : KS) (i : Int), (0 ≤ y.1 70 4) → (y.1 70 4 + i + 1 ≤ 60) → (-1 ≤ i) → (i ≤ 19) → (i + 1 < n) → F_r_replace_s w1 n 0 y r0 i = F_r_replace x w1 r0 → ∀ (H : Heap) (locs : List Loc) (ls : Array Slot), va_P (dC, dI) vwCl (kWd cI cJ cZ cR wl ad M (y)) H → va_D A (kWd cI cJ cZ cR wl ad M (y)) → va_S A s.heap H locs → lv_has ls 6 [(0, .ref (ad (70))), (1, .int (iI (r0))), (2, .ref (ad (w1))), (5, .int (iI (i)))] → W p l e (headSpec wsX6_replace ({ frames := 1, cells := 0, slots := 0, locals := 24 })).room s m ([.ref (ad 70), .int (iI r0), .ref (ad w1)] : List Value).toArray below meth c H locs 0 0 (MQ below (va_Qi (fun (r : Int32) (u : KS) => r = iI (F_r_replace x w1 r0).1 ∧ u = (F_r_replace x w1 r0).2) (kAt dC dI ad cI cJ cZ cR M wl A) A) ([.ref (ad 70), .int (iI r0), .ref (ad w1)] : List Value).toArray s 0 0 A) (F0 m 59 ls [])) := by
    intro n
    induction n with
    | zero =>
      skip
      · intro y i y0 y1 i0 i1 fu hres
        exact absurd fu (by omega)
    | succ n ih =>
      skip
      · intro y i y0 y1 i0 i1 fu hres H locs ls hP hD hS hl
        rw [F_r_replace_e0] at hres
        refine lv_iload hx hb dX6_replace_59 (lv_at hl 3 rfl) ?_
        refine wi_if_lt (tgt := 97) hx hb (by first | assumption | (unfold iR; omega) | exact kR01 (by assumption)) dX6_replace_61 (by decide) (fun c_61 => ?_) (fun c_61 => ?_)
        · skip
          rw [if_pos c_61] at hres
          refine lv_iconst (v := iI (1 : Int)) hx hb dX6_replace_97 (by decide) ?_
          exact W.zret (v := iI ((1 : Int))) hx hb hr (kz _ (by first | assumption | omega)) (fun t ht hW => ⟨⟨iI ((1 : Int)), y, rfl, ⟨(by have h9 := congrArg (fun z : Int × KS => iI z.1) hres; exact h9), (by have h9 := congrArg (fun z : Int × KS => z.2) hres; exact h9)⟩, by rw [ht]; exact hP, va_K.moved hW.alike hK, hD⟩, hS.F ht⟩) hS.2.2 dX6_replace_98
        · skip
          rw [if_neg c_61] at hres
          refine lv_aload_n hx hb dX6_replace_64 rfl (lv_at hl 0 rfl) ?_
          refine va_get (D := (dC, dI)) (ci := 6) (v := .ref (ad (71))) (C := RX6) (T := TX6) (N := 6) hx hb hts hinX6 hown hK hP (70) (kg70 (by omega)) rfl 2 (by decide) (hts (.fieldLink RX6 19 "LikeWords$Rewriter" "rest" "[I") (by decide +kernel)) (fun _ h9 => h9) rfl dX6_replace_65 ?_
          refine lv_aload_n hx hb dX6_replace_68 rfl (lv_at hl 0 rfl) ?_
          refine lv_dup hx hb dX6_replace_69 rfl ?_
          refine va_get (D := (dC, dI)) (ci := 6) (v := .int (iI ((y).1 (70) 4))) (C := RX6) (T := TX6) (N := 6) hx hb hts hinX6 hown hK hP (70) (kg70 (by omega)) rfl 4 (by decide) (hts (.fieldLink RX6 41 "LikeWords$Rewriter" "restUsed" "I") (by decide +kernel)) (fun _ h9 => h9) rfl dX6_replace_70 ?_
          refine lv_dup_x1 hx hb dX6_replace_73 rfl rfl ?_
          refine lv_iconst (v := iI (1 : Int)) hx hb dX6_replace_74 (by decide) ?_
          refine wi_iadd hx hb dX6_replace_75 ?_
          refine va_put (D := (dC, dI)) (ci := 6) (v := .int (iI (((y).1 (70) 4) + ((1 : Int))))) (ty := .int) (C := RX6) (T := TX6) (N := 6) hx hb hts hinX6 tyX6 tyX6_ok nmX6 hown hK hP hD hS (70) (kg70 (by omega)) rfl 4 (by decide) (hts (.fieldLink RX6 41 "LikeWords$Rewriter" "restUsed" "I") (by decide +kernel)) (fun _ h9 => h9) rfl (by decide +kernel) rfl rfl (Nat.le_of_ble_eq_true rfl) dX6_replace_76 (fun H locs hP hD hS => ?_)
          rw [ks70_4] at hP hD
          refine lv_aload_n hx hb dX6_replace_79 rfl (lv_at hl 0 rfl) ?_
          refine va_get (D := (dC, dI)) (ci := 6) (v := .ref (ad (58))) (C := RX6) (T := TX6) (N := 6) hx hb hts hinX6 hown hK hP (70) (kg70 (by omega)) rfl 0 (by decide) (hts (.fieldLink RX6 9 "LikeWords$Rewriter" "rules" "LLikeWords$Rules;") (by decide +kernel)) (fun _ h9 => h9) rfl dX6_replace_80 ?_
          refine lv_iload_n hx hb dX6_replace_83 rfl (lv_at hl 1 rfl) ?_
          refine lv_iconst (v := iI (0 : Int)) hx hb dX6_replace_84 (by decide) ?_
          refine lv_iload hx hb dX6_replace_85 (lv_at hl 3 rfl) ?_
          have hFc : ∀ q, va_A (kWd cI cJ cZ cR wl ad M (kS (y) (70) 4 (((y).1 (70) 4) + ((1 : Int))))) H.size q → A q := fun q hq => Or.elim hq (fun ⟨k, e, hk⟩ => hD.2 k (q, e) hk) (fun hk => hA q (Nat.le_trans hS.1 hk))
          refine va_calli (va_runV (b := ad (58)) (As := [.int (iI (r0)), .int (iI ((0 : Int))), .int (iI (i))]) (rest := [.int (iI ((y).1 (70) 4)), .ref (ad (71))]) ⟨hx, hb, hml, hown, hts⟩ (c_u_signAt l dC dI ad cI cJ cZ cR M wl H.size (kS (y) (70) 4 (((y).1 (70) 4) + ((1 : Int))))  (r0) ((0 : Int)) (i) hM rr0 (Or.inl rfl)) (cwV 3 hts gX6_replace_X7_signAt rfl rfl rfl (by decide +kernel) ⟨Nat.le_of_ble_eq_true rfl, Nat.le_of_ble_eq_true rfl⟩) ⟨fun a U g mk q => by obtain ⟨q0, q1, qP, qK, qD, qN⟩ := q; exact ⟨q0, q1, qP, va_K.moved (u := U) (U := U.calling g mk a) (Vm.Alike.refl U.vm) qK, qD, kNw.same (u := U) (U := U.calling g mk a) rfl qN⟩, va_recv hK hP (ci := 7) (q0 := 58) rfl (kg58 (by omega)), fun U hU hW => ⟨rfl, by rw [hU], by rw [hU]; exact hP, va_K.moved hW.alike hK, hD.weaken (fun _ _ _ _ => trivial), kNw.warm hW hNw⟩⟩ rfl rfl hl.1 rfl (lv_room (Nat.le_of_ble_eq_true rfl)) dX6_replace_87 ⟨Nat.le_of_ble_eq_true rfl, Nat.le_of_ble_eq_true rfl⟩) hS (fun q _ h => hFc q h) hFc (fun r9 u9 t H1 locs ht hvm hw hB hz1 hk1 hS => ?_)
          obtain ⟨hP1, hK1, hD1⟩ := hB
          rw [ht] at hP1
          obtain ⟨hw1, hw2⟩ := hw
          rw [hw2] at hP1 hD1
          rw [hw1]
          rw [F_u_signAt_2] at hP1 hD1
          have hD2 := hD1.weaken (B := A) (fun _ q _ h => hFc q.1 h)
          have hP := hP1
          have hD := hD2
          generalize H1 = H at hP hS ⊢
          refine wi_iast (f := (kS (y) (70) 4 (((y).1 (70) 4) + ((1 : Int)))).2 (71)) (n := kLen (71)) hx hb hK hP hD hS (71) 0 (kgi kC71 (by omega) rfl) rfl (i := (y).1 (70) 4) (x := (F_u_signAt (kS (y) (70) 4 (((y).1 (70) 4) + ((1 : Int)))) (r0) ((0 : Int)) (i)).1) (by omega) (by show _ < ((60 : Nat) : Int); exact (by omega)) (kLen_lt _) dX6_replace_90 (fun H locs hP hD hS => ?_)
          rw [ksi kC71] at hP hD
          refine lv_iinc (v := iI ((i) + (-1 : Int))) (lv' := [(5, .int (iI ((i) + (-1 : Int)))), (0, .ref (ad (70))), (1, .int (iI (r0))), (2, .ref (ad (w1)))]) hx hb dX6_replace_91 hl (k := 3) rfl (iI_add _ _) (by decide) rfl (fun ls hl => ?_)
          refine lv_goto (tgt := 59) hx hb dX6_replace_94 (by decide) ?_
          exact ih (kA (kS (y) (70) 4 (((y).1 (70) 4) + ((1 : Int)))) (71) ((y).1 (70) 4).toNat ((F_u_signAt (kS (y) (70) 4 (((y).1 (70) 4) + ((1 : Int)))) (r0) ((0 : Int)) (i)).1)) ((i) + (-1 : Int)) (by show 0 ≤ y.1 70 4 + 1; omega) (by show y.1 70 4 + 1 + _ + 1 ≤ 60; omega) (by omega) (by omega) (by omega) hres _ _ ls hP hD hS (lv_sub hl [1, 2, 3, 0] rfl)
  have key : ∀ (H : Heap) (locs : List Loc), va_P (dC, dI) vwCl (kWd cI cJ cZ cR wl ad M (x)) H → va_S A s.heap H locs → W p l e (headSpec wsX6_replace ({ frames := 1, cells := 0, slots := 0, locals := 24 })).room s m ([.ref (ad 70), .int (iI r0), .ref (ad w1)] : List Value).toArray below meth c H locs 0 0 (MQ below (va_Qi (fun (r : Int32) (u : KS) => r = iI (F_r_replace x w1 r0).1 ∧ u = (F_r_replace x w1 r0).2) (kAt dC dI ad cI cJ cZ cR M wl A) A) ([.ref (ad 70), .int (iI r0), .ref (ad w1)] : List Value).toArray s 0 0 A) (F0 m 0 ls []) := by
    intro H locs hP hS
    have hres : (if (((x).1 (w1) 1) - (((F_u_spanOf (x) (r0) ((1 : Int))).1) - ((1 : Int)))) < (0) then ((0 : Int), x) else (if (((((x).1 (w1) 1) - (((F_u_spanOf (x) (r0) ((1 : Int))).1) - ((1 : Int)))) + ((x).1 (70) 4)) + ((F_u_spanOf (x) (r0) ((0 : Int))).1)) ≤ ((60 : Int)) then F_r_replace_s w1 30 0 (kS (x) (w1) 1 (((x).1 (w1) 1) - (((F_u_spanOf (x) (r0) ((1 : Int))).1) - ((1 : Int))))) (r0) (((F_u_spanOf (x) (r0) ((0 : Int))).1) - ((1 : Int))) else ((0 : Int), x))) = F_r_replace x w1 r0 := rfl
    refine lv_aload_n hx hb dX6_replace_0 rfl (lv_at hl 2 rfl) ?_
    refine va_get (D := (dC, dI)) (ci := 10) (v := .int (iI ((x).1 (w1) 1))) (C := RX10) (T := TX10) (N := 2) hx hb hts hinX10 hown hK hP (w1) (kgw hw_w1 (by omega)) rfl 1 (by decide) (hts (.fieldLink RX6 45 "LikeWords$Word" "used" "I") (by decide +kernel)) (fun _ h9 => h9) rfl dX6_replace_1 ?_
    refine lv_aload_n hx hb dX6_replace_4 rfl (lv_at hl 0 rfl) ?_
    refine va_get (D := (dC, dI)) (ci := 6) (v := .ref (ad (58))) (C := RX6) (T := TX6) (N := 6) hx hb hts hinX6 hown hK hP (70) (kg70 (by omega)) rfl 0 (by decide) (hts (.fieldLink RX6 9 "LikeWords$Rewriter" "rules" "LLikeWords$Rules;") (by decide +kernel)) (fun _ h9 => h9) rfl dX6_replace_5 ?_
    refine lv_iload_n hx hb dX6_replace_8 rfl (lv_at hl 1 rfl) ?_
    refine lv_iconst (v := iI (1 : Int)) hx hb dX6_replace_9 (by decide) ?_
    have hFc : ∀ q, va_A (kWd cI cJ cZ cR wl ad M (x)) H.size q → A q := fun q hq => Or.elim hq (fun ⟨k, e, hk⟩ => hD.2 k (q, e) hk) (fun hk => hA q (Nat.le_trans hS.1 hk))
    refine va_calli (va_runV (b := ad (58)) (As := [.int (iI (r0)), .int (iI ((1 : Int)))]) (rest := [.int (iI ((x).1 (w1) 1))]) ⟨hx, hb, hml, hown, hts⟩ (c_u_spanOf l dC dI ad cI cJ cZ cR M wl H.size (x)  (r0) ((1 : Int)) hM rr0 (Or.inr rfl)) (cwV 2 hts gX6_replace_X7_spanOf rfl rfl rfl (by decide +kernel) ⟨Nat.le_of_ble_eq_true rfl, Nat.le_of_ble_eq_true rfl⟩) ⟨fun a U g mk q => by obtain ⟨q0, q1, qP, qK, qD, qN⟩ := q; exact ⟨q0, q1, qP, va_K.moved (u := U) (U := U.calling g mk a) (Vm.Alike.refl U.vm) qK, qD, kNw.same (u := U) (U := U.calling g mk a) rfl qN⟩, va_recv hK hP (ci := 7) (q0 := 58) rfl (kg58 (by omega)), fun U hU hW => ⟨rfl, by rw [hU], by rw [hU]; exact hP, va_K.moved hW.alike hK, hD.weaken (fun _ _ _ _ => trivial), kNw.warm hW hNw⟩⟩ rfl rfl hl.1 rfl (lv_room (Nat.le_of_ble_eq_true rfl)) dX6_replace_10 ⟨Nat.le_of_ble_eq_true rfl, Nat.le_of_ble_eq_true rfl⟩) hS (fun q _ h => hFc q h) hFc (fun r9 u9 t H1 locs ht hvm hw hB hz1 hk1 hS => ?_)
    obtain ⟨hP1, hK1, hD1⟩ := hB
    rw [ht] at hP1
    obtain ⟨hw1, hw2⟩ := hw
    rw [hw2] at hP1 hD1
    rw [hw1]
    rw [F_u_spanOf_2] at hP1 hD1
    have hD2 := hD1.weaken (B := A) (fun _ q _ h => hFc q.1 h)
    have hP := hP1
    have hD := hD2
    generalize H1 = H at hP hS ⊢
    refine lv_iconst (v := iI (1 : Int)) hx hb dX6_replace_13 (by decide) ?_
    refine wi_isub hx hb dX6_replace_14 ?_
    refine wi_isub hx hb dX6_replace_15 ?_
    refine lv_istore_n (lv' := [(3, .int (iI (((x).1 (w1) 1) - (((F_u_spanOf (x) (r0) ((1 : Int))).1) - ((1 : Int)))))), (0, .ref (ad (70))), (1, .int (iI (r0))), (2, .ref (ad (w1)))]) hx hb dX6_replace_16 rfl hl (by decide) rfl (fun ls hl => ?_)
    refine lv_aload_n hx hb dX6_replace_17 rfl (lv_at hl 1 rfl) ?_
    refine va_get (D := (dC, dI)) (ci := 6) (v := .ref (ad (58))) (C := RX6) (T := TX6) (N := 6) hx hb hts hinX6 hown hK hP (70) (kg70 (by omega)) rfl 0 (by decide) (hts (.fieldLink RX6 9 "LikeWords$Rewriter" "rules" "LLikeWords$Rules;") (by decide +kernel)) (fun _ h9 => h9) rfl dX6_replace_18 ?_
    refine lv_iload_n hx hb dX6_replace_21 rfl (lv_at hl 2 rfl) ?_
    refine lv_iconst (v := iI (0 : Int)) hx hb dX6_replace_22 (by decide) ?_
    have hFc : ∀ q, va_A (kWd cI cJ cZ cR wl ad M (x)) H.size q → A q := fun q hq => Or.elim hq (fun ⟨k, e, hk⟩ => hD.2 k (q, e) hk) (fun hk => hA q (Nat.le_trans hS.1 hk))
    refine va_calli (va_runV (b := ad (58)) (As := [.int (iI (r0)), .int (iI ((0 : Int)))]) (rest := []) ⟨hx, hb, hml, hown, hts⟩ (c_u_spanOf l dC dI ad cI cJ cZ cR M wl H.size (x)  (r0) ((0 : Int)) hM rr0 (Or.inl rfl)) (cwV 2 hts gX6_replace_X7_spanOf rfl rfl rfl (by decide +kernel) ⟨Nat.le_of_ble_eq_true rfl, Nat.le_of_ble_eq_true rfl⟩) ⟨fun a U g mk q => by obtain ⟨q0, q1, qP, qK, qD, qN⟩ := q; exact ⟨q0, q1, qP, va_K.moved (u := U) (U := U.calling g mk a) (Vm.Alike.refl U.vm) qK, qD, kNw.same (u := U) (U := U.calling g mk a) rfl qN⟩, va_recv hK hP (ci := 7) (q0 := 58) rfl (kg58 (by omega)), fun U hU hW => ⟨rfl, by rw [hU], by rw [hU]; exact hP, va_K.moved hW.alike hK, hD.weaken (fun _ _ _ _ => trivial), kNw.warm hW hNw⟩⟩ rfl rfl hl.1 rfl (lv_room (Nat.le_of_ble_eq_true rfl)) dX6_replace_23 ⟨Nat.le_of_ble_eq_true rfl, Nat.le_of_ble_eq_true rfl⟩) hS (fun q _ h => hFc q h) hFc (fun r9 u9 t H1 locs ht hvm hw hB hz1 hk1 hS => ?_)
    obtain ⟨hP1, hK1, hD1⟩ := hB
    rw [ht] at hP1
    obtain ⟨hw1, hw2⟩ := hw
    rw [hw2] at hP1 hD1
    rw [hw1]
    rw [F_u_spanOf_2] at hP1 hD1
    have hD2 := hD1.weaken (B := A) (fun _ q _ h => hFc q.1 h)
    have hP := hP1
    have hD := hD2
    generalize H1 = H at hP hS ⊢
    refine lv_istore (lv' := [(4, .int (iI ((F_u_spanOf (x) (r0) ((0 : Int))).1))), (3, .int (iI (((x).1 (w1) 1) - (((F_u_spanOf (x) (r0) ((1 : Int))).1) - ((1 : Int)))))), (0, .ref (ad (70))), (1, .int (iI (r0))), (2, .ref (ad (w1)))]) hx hb dX6_replace_26 hl (by decide) rfl (fun ls hl => ?_)
    refine lv_iload_n hx hb dX6_replace_28 rfl (lv_at hl 1 rfl) ?_
    refine wi_if_lt (tgt := 46) hx hb (by first | assumption | (unfold iR; omega) | exact kR01 (by assumption)) dX6_replace_29 (by decide) (fun c_29 => ?_) (fun c_29 => ?_)
    · skip
      rw [if_pos c_29] at hres
      refine lv_iconst (v := iI (0 : Int)) hx hb dX6_replace_46 (by decide) ?_
      exact W.zret (v := iI ((0 : Int))) hx hb hr (kz _ (by first | assumption | omega)) (fun t ht hW => ⟨⟨iI ((0 : Int)), x, rfl, ⟨(by have h9 := congrArg (fun z : Int × KS => iI z.1) hres; exact h9), (by have h9 := congrArg (fun z : Int × KS => z.2) hres; exact h9)⟩, by rw [ht]; exact hP, va_K.moved hW.alike hK, hD⟩, hS.F ht⟩) hS.2.2 dX6_replace_47
    · skip
      rw [if_neg c_29] at hres
      refine lv_iload_n hx hb dX6_replace_32 rfl (lv_at hl 1 rfl) ?_
      refine lv_aload_n hx hb dX6_replace_33 rfl (lv_at hl 2 rfl) ?_
      refine va_get (D := (dC, dI)) (ci := 6) (v := .int (iI ((x).1 (70) 4))) (C := RX6) (T := TX6) (N := 6) hx hb hts hinX6 hown hK hP (70) (kg70 (by omega)) rfl 4 (by decide) (hts (.fieldLink RX6 41 "LikeWords$Rewriter" "restUsed" "I") (by decide +kernel)) (fun _ h9 => h9) rfl dX6_replace_34 ?_
      refine wi_iadd hx hb dX6_replace_37 ?_
      refine lv_iload hx hb dX6_replace_38 (lv_at hl 0 rfl) ?_
      refine wi_iadd hx hb dX6_replace_40 ?_
      refine lv_bipush (v := iI (60 : Int)) hx hb dX6_replace_41 (by decide) ?_
      refine wi_icmp_le (tgt := 48) hx hb (by first | assumption | (unfold iR; omega) | exact kR01 (by assumption)) ⟨by decide, by decide⟩ dX6_replace_43 (by decide) (fun c_43 => ?_) (fun c_43 => ?_)
      · skip
        rw [if_pos c_43] at hres
        refine lv_aload_n hx hb dX6_replace_48 rfl (lv_at hl 4 rfl) ?_
        refine lv_iload_n hx hb dX6_replace_49 rfl (lv_at hl 1 rfl) ?_
        refine va_put (D := (dC, dI)) (ci := 10) (v := .int (iI (((x).1 (w1) 1) - (((F_u_spanOf (x) (r0) ((1 : Int))).1) - ((1 : Int)))))) (ty := .int) (C := RX10) (T := TX10) (N := 2) hx hb hts hinX10 tyX10 tyX10_ok nmX10 hown hK hP hD hS (w1) (kgw hw_w1 (by omega)) rfl 1 (by decide) (hts (.fieldLink RX6 45 "LikeWords$Word" "used" "I") (by decide +kernel)) (fun _ h9 => h9) rfl (by decide +kernel) rfl rfl (Nat.le_of_ble_eq_true rfl) dX6_replace_50 (fun H locs hP hD hS => ?_)
        rw [ksw hw_w1] at hP hD
        refine lv_iload hx hb dX6_replace_53 (lv_at hl 0 rfl) ?_
        refine lv_iconst (v := iI (1 : Int)) hx hb dX6_replace_55 (by decide) ?_
        refine wi_isub hx hb dX6_replace_56 ?_
        refine lv_istore (lv' := [(5, .int (iI (((F_u_spanOf (x) (r0) ((0 : Int))).1) - ((1 : Int))))), (4, .int (iI ((F_u_spanOf (x) (r0) ((0 : Int))).1))), (3, .int (iI (((x).1 (w1) 1) - (((F_u_spanOf (x) (r0) ((1 : Int))).1) - ((1 : Int)))))), (0, .ref (ad (70))), (1, .int (iI (r0))), (2, .ref (ad (w1)))]) hx hb dX6_replace_57 hl (by decide) rfl (fun ls hl => ?_)
        exact (L (30)) (kS (x) (w1) 1 (((x).1 (w1) 1) - (((F_u_spanOf (x) (r0) ((1 : Int))).1) - ((1 : Int))))) (((F_u_spanOf (x) (r0) ((0 : Int))).1) - ((1 : Int))) (by rw [congrFun (kS_c (Ne.symm (kW_ne hw_w1 rfl))) 4]; omega) (by rw [congrFun (kS_c (Ne.symm (kW_ne hw_w1 rfl))) 4]; omega) (by omega) (by omega) (by omega) hres _ _ ls hP hD hS (lv_sub hl [3, 4, 5, 0] rfl)
      · skip
        rw [if_neg c_43] at hres
        refine lv_iconst (v := iI (0 : Int)) hx hb dX6_replace_46 (by decide) ?_
        exact W.zret (v := iI ((0 : Int))) hx hb hr (kz _ (by first | assumption | omega)) (fun t ht hW => ⟨⟨iI ((0 : Int)), x, rfl, ⟨(by have h9 := congrArg (fun z : Int × KS => iI z.1) hres; exact h9), (by have h9 := congrArg (fun z : Int × KS => z.2) hres; exact h9)⟩, by rw [ht]; exact hP, va_K.moved hW.alike hK, hD⟩, hS.F ht⟩) hS.2.2 dX6_replace_47
  exact key _ _ hP hS
theorem F_r_replace_sfr (w1 : Nat) : ∀ n : Nat, (∀ (y : KS) (v0 : Int) (v1 : Int), ksame [(70, 4), (w1, 1)] [71] y (F_r_replace_s w1 n 0 y v0 v1).2) := by
  intro n
  induction n with
  | zero => exact fun y _ _ => km_rf _ _ _
  | succ n ih =>
    skip
    · intro y r0 i
      rw [F_r_replace_e0]
      by_cases hc : (i) < (0)
      · rw [if_pos hc]
        exact (km_rf _ _ _)
      · rw [if_neg hc]
        exact km_tr ((km_a (List.Mem.head _) (km_s (List.Mem.head _) (km_rf _ _ _)))) (ih (kA (kS (y) (70) 4 (((y).1 (70) 4) + ((1 : Int)))) (71) ((y).1 (70) 4).toNat ((F_u_signAt (kS (y) (70) 4 (((y).1 (70) 4) + ((1 : Int)))) (r0) ((0 : Int)) (i)).1)) (r0) ((i) + (-1 : Int)))
theorem F_r_replace_fr (x : KS) (w1 : Nat) (r0 : Int) : ksame [(70, 4), (w1, 1)] [71] x (F_r_replace x w1 r0).2 := by
  unfold F_r_replace
  by_cases hc : (((x).1 (w1) 1) - (((F_u_spanOf (x) (r0) ((1 : Int))).1) - ((1 : Int)))) < (0)
  · rw [if_pos hc]
    exact (km_rf _ _ _)
  · rw [if_neg hc]
    by_cases hc : (((((x).1 (w1) 1) - (((F_u_spanOf (x) (r0) ((1 : Int))).1) - ((1 : Int)))) + ((x).1 (70) 4)) + ((F_u_spanOf (x) (r0) ((0 : Int))).1)) ≤ ((60 : Int))
    · rw [if_pos hc]
      exact km_tr ((km_s (List.Mem.tail _ (List.Mem.head _)) (km_rf _ _ _))) ((F_r_replace_sfr w1 (30)) (kS (x) (w1) 1 (((x).1 (w1) 1) - (((F_u_spanOf (x) (r0) ((1 : Int))).1) - ((1 : Int))))) (r0) (((F_u_spanOf (x) (r0) ((0 : Int))).1) - ((1 : Int))))
    · rw [if_neg hc]
      exact (km_rf _ _ _)
theorem F_r_replace_q (x : KS) (w1 : Nat) (r0 : Int) (hw_w1 : kW w1 = true) : kq [70] [71] x (F_r_replace x w1 r0).2 := kq_of (F_r_replace_fr x w1 r0) (kq_c (Or.inr (by decide)) (kq_c (Or.inl hw_w1) kq_m)) (kq_c (Or.inr (by decide)) kq_n)
theorem F_r_replace_s_ok (w1 : Nat) (r : Int) : ∀ (n : Nat) (y : KS) (i : Int), 0 ≤ y.1 70 4 → y.1 70 4 + i + 1 ≤ 60 → -1 ≤ i → (∀ j : Nat, -1 ≤ y.2 71 j ∧ y.2 71 j ≤ 3) → (F_r_replace_s w1 n 0 y r i).2.2 72 = y.2 72 ∧ 0 ≤ (F_r_replace_s w1 n 0 y r i).2.1 70 4 ∧ (F_r_replace_s w1 n 0 y r i).2.1 70 4 ≤ 60 ∧ (∀ j : Nat, -1 ≤ (F_r_replace_s w1 n 0 y r i).2.2 71 j ∧ (F_r_replace_s w1 n 0 y r i).2.2 71 j ≤ 3) ∧ ∀ c, c ≠ 70 → (F_r_replace_s w1 n 0 y r i).2.1 c = y.1 c := by
  intro n
  induction n with
  | zero => intro y i h0 h1 h2 h3; exact ⟨rfl, h0, by show y.1 70 4 ≤ 60; omega, h3, fun _ _ => rfl⟩
  | succ n ih =>
    intro y i h0 h1 h2 h3
    rw [F_r_replace_e0]
    split
    · exact ⟨rfl, h0, by show y.1 70 4 ≤ 60; omega, h3, fun _ _ => rfl⟩
    · have sb := F_u_signAt_b (kS y 70 4 (y.1 70 4 + 1)) r 0 i
      obtain ⟨a1, a2, a3, a4, a5⟩ := ih (kA (kS y 70 4 (y.1 70 4 + 1)) 71 (y.1 70 4).toNat (F_u_signAt (kS y 70 4 (y.1 70 4 + 1)) r 0 i).1) (i + -1) (by show 0 ≤ y.1 70 4 + 1; omega) (by show y.1 70 4 + 1 + _ + 1 ≤ 60; omega) (by omega) (iU_all (P := fun z => -1 ≤ z ∧ z ≤ 3) (by omega) h3)
      exact ⟨a1, a2, a3, a4, fun c hc => (a5 c hc).trans (kS_c hc)⟩
theorem F_r_replace_ok {x : KS} {w1 : Nat} {r : Int} (hw : kW w1 = true) (ru : ruR x) (hs : 1 ≤ (F_u_spanOf x r 1).1) (wi : rwI x w1) : rwI (F_r_replace x w1 r).2 w1 := by
  obtain ⟨⟨u0, u1⟩, ⟨q0, q1⟩, rp, rs⟩ := id wi
  have s1 := F_u_spanOf_b ru r 1
  have s2 := F_u_spanOf_b ru r 0
  have k61 := kL_le w1
  unfold F_r_replace
  split
  · exact wi
  · split
    · rename_i c1 c2
      have e4 : (kS x w1 1 (x.1 w1 1 - ((F_u_spanOf x r 1).1 - 1))).1 70 4 = x.1 70 4 := congrFun (kS_c (Ne.symm (kW_ne hw rfl))) 4
      obtain ⟨a1, a2, a3, a4, a5⟩ := F_r_replace_s_ok w1 r 30 (kS x w1 1 (x.1 w1 1 - ((F_u_spanOf x r 1).1 - 1))) ((F_u_spanOf x r 0).1 - 1) (by rw [e4]; omega) (by rw [e4]; omega) (by omega) rs
      refine ⟨?_, ⟨a2, a3⟩, ?_, a4⟩
      · rw [a5 w1 (kW_ne hw rfl), kS_s]
        omega
      · rw [a1]; exact rp
    · exact wi
theorem F_r_replace_s_01 (w1 : Nat) : ∀ (n : Nat) (y : KS) (r i : Int), (F_r_replace_s w1 n 0 y r i).1 = 0 ∨ (F_r_replace_s w1 n 0 y r i).1 = 1 := by
  intro n
  induction n with
  | zero => intro y r i; exact Or.inl rfl
  | succ n ih =>
    intro y r i
    rw [F_r_replace_e0]
    repeat' split
    all_goals first | exact Or.inl rfl | exact Or.inr rfl | exact ih _ _ _
theorem F_r_replace_01 (x : KS) (w1 : Nat) (r : Int) : (F_r_replace x w1 r).1 = 0 ∨ (F_r_replace x w1 r).1 = 1 := by
  unfold F_r_replace
  repeat' split
  all_goals first | exact Or.inl rfl | exact Or.inr rfl | exact F_r_replace_s_01 _ _ _ _ _
theorem rwI_push {x : KS} {w : Nat} {v : Int} (hw : kW w = true) (wi : rwI x w) : rwI (F_w_push x w v).2 w := by
  have q := F_w_push_q x w v hw
  unfold rwI
  rw [q.1 70 rfl (by decide), q.2 72 rfl (by decide), q.2 71 rfl (by decide)]
  exact ⟨F_w_push_b hw wi.1.1 wi.1.2, wi.2⟩
theorem rwI_rest {x : KS} {w : Nat} {v : Int} (hw : kW w = true) (h0 : 0 ≤ v) (h1 : v ≤ 60) (wi : rwI x w) : rwI (kS x 70 4 v) w := by
  refine ⟨?_, ?_, wi.2.2.1, wi.2.2.2⟩
  · rw [kS_c (kW_ne hw rfl)]; exact wi.1
  · rw [kS_s]; exact ⟨h0, h1⟩
theorem rwI_place {x : KS} {w j : Nat} {v : Int} (h0 : -1000 ≤ v) (h1 : v < 320) (wi : rwI x w) : rwI (kA x 72 j v) w := ⟨wi.1, wi.2.1, iU_all (P := fun z => -1000 ≤ z ∧ z < 320) ⟨h0, h1⟩ wi.2.2.1, wi.2.2.2⟩
def F_r_readOn_s (w1 : Nat) : Nat → Nat → KS → Int → Int × KS
  | 0, _, x, _ => (0, x)
  | n + 1, t, x, p0 => match t with
    | 0 => (fun (d : Int) => (if ((20000 : Int)) ≤ (d) then ((1 : Int), x) else (if ((x).1 (70) 4) ≤ (0) then ((1 : Int), x) else (if (0) ≤ ((F_a_step (kS (x) (70) 4 (((x).1 (70) 4) - ((1 : Int)))) (((x).2 (72)) ((x).1 (w1) 1).toNat) (((x).2 (71)) (((x).1 (70) 4) - ((1 : Int))).toNat)).1) then (if ((F_w_push (kS (x) (70) 4 (((x).1 (70) 4) - ((1 : Int)))) (w1) (((x).2 (71)) (((x).1 (70) 4) - ((1 : Int))).toNat)).1) = (0) then ((0 : Int), (F_w_push (kS (x) (70) 4 (((x).1 (70) 4) - ((1 : Int)))) (w1) (((x).2 (71)) (((x).1 (70) 4) - ((1 : Int))).toNat)).2) else (if ((F_a_step (kS (x) (70) 4 (((x).1 (70) 4) - ((1 : Int)))) (((x).2 (72)) ((x).1 (w1) 1).toNat) (((x).2 (71)) (((x).1 (70) 4) - ((1 : Int))).toNat)).1) < (0) then F_r_readOn_s w1 n 0 ((F_w_push (kS (x) (70) 4 (((x).1 (70) 4) - ((1 : Int)))) (w1) (((x).2 (71)) (((x).1 (70) 4) - ((1 : Int))).toNat)).2) ((d) + (1 : Int)) else F_r_readOn_s w1 n 0 (kA ((F_w_push (kS (x) (70) 4 (((x).1 (70) 4) - ((1 : Int)))) (w1) (((x).2 (71)) (((x).1 (70) 4) - ((1 : Int))).toNat)).2) (72) (((F_w_push (kS (x) (70) 4 (((x).1 (70) 4) - ((1 : Int)))) (w1) (((x).2 (71)) (((x).1 (70) 4) - ((1 : Int))).toNat)).2).1 (w1) 1).toNat ((F_a_step (kS (x) (70) 4 (((x).1 (70) 4) - ((1 : Int)))) (((x).2 (72)) ((x).1 (w1) 1).toNat) (((x).2 (71)) (((x).1 (70) 4) - ((1 : Int))).toNat)).1)) ((d) + (1 : Int)))) else (if ((F_r_replace (kS (x) (70) 4 (((x).1 (70) 4) - ((1 : Int)))) (w1) (((-1 : Int)) - ((F_a_step (kS (x) (70) 4 (((x).1 (70) 4) - ((1 : Int)))) (((x).2 (72)) ((x).1 (w1) 1).toNat) (((x).2 (71)) (((x).1 (70) 4) - ((1 : Int))).toNat)).1))).1) = (0) then ((0 : Int), (F_r_replace (kS (x) (70) 4 (((x).1 (70) 4) - ((1 : Int)))) (w1) (((-1 : Int)) - ((F_a_step (kS (x) (70) 4 (((x).1 (70) 4) - ((1 : Int)))) (((x).2 (72)) ((x).1 (w1) 1).toNat) (((x).2 (71)) (((x).1 (70) 4) - ((1 : Int))).toNat)).1))).2) else (if ((F_a_step (kS (x) (70) 4 (((x).1 (70) 4) - ((1 : Int)))) (((x).2 (72)) ((x).1 (w1) 1).toNat) (((x).2 (71)) (((x).1 (70) 4) - ((1 : Int))).toNat)).1) < (0) then F_r_readOn_s w1 n 0 ((F_r_replace (kS (x) (70) 4 (((x).1 (70) 4) - ((1 : Int)))) (w1) (((-1 : Int)) - ((F_a_step (kS (x) (70) 4 (((x).1 (70) 4) - ((1 : Int)))) (((x).2 (72)) ((x).1 (w1) 1).toNat) (((x).2 (71)) (((x).1 (70) 4) - ((1 : Int))).toNat)).1))).2) ((d) + (1 : Int)) else F_r_readOn_s w1 n 0 (kA ((F_r_replace (kS (x) (70) 4 (((x).1 (70) 4) - ((1 : Int)))) (w1) (((-1 : Int)) - ((F_a_step (kS (x) (70) 4 (((x).1 (70) 4) - ((1 : Int)))) (((x).2 (72)) ((x).1 (w1) 1).toNat) (((x).2 (71)) (((x).1 (70) 4) - ((1 : Int))).toNat)).1))).2) (72) (((F_r_replace (kS (x) (70) 4 (((x).1 (70) 4) - ((1 : Int)))) (w1) (((-1 : Int)) - ((F_a_step (kS (x) (70) 4 (((x).1 (70) 4) - ((1 : Int)))) (((x).2 (72)) ((x).1 (w1) 1).toNat) (((x).2 (71)) (((x).1 (70) 4) - ((1 : Int))).toNat)).1))).2).1 (w1) 1).toNat ((F_a_step (kS (x) (70) 4 (((x).1 (70) 4) - ((1 : Int)))) (((x).2 (72)) ((x).1 (w1) 1).toNat) (((x).2 (71)) (((x).1 (70) 4) - ((1 : Int))).toNat)).1)) ((d) + (1 : Int)))))))) p0
    | _ => (0, x)
theorem F_r_readOn_e0 (w1 : Nat) (n : Nat) (x : KS) (d : Int) : F_r_readOn_s w1 (n + 1) 0 x d = (if ((20000 : Int)) ≤ (d) then ((1 : Int), x) else (if ((x).1 (70) 4) ≤ (0) then ((1 : Int), x) else (if (0) ≤ ((F_a_step (kS (x) (70) 4 (((x).1 (70) 4) - ((1 : Int)))) (((x).2 (72)) ((x).1 (w1) 1).toNat) (((x).2 (71)) (((x).1 (70) 4) - ((1 : Int))).toNat)).1) then (if ((F_w_push (kS (x) (70) 4 (((x).1 (70) 4) - ((1 : Int)))) (w1) (((x).2 (71)) (((x).1 (70) 4) - ((1 : Int))).toNat)).1) = (0) then ((0 : Int), (F_w_push (kS (x) (70) 4 (((x).1 (70) 4) - ((1 : Int)))) (w1) (((x).2 (71)) (((x).1 (70) 4) - ((1 : Int))).toNat)).2) else (if ((F_a_step (kS (x) (70) 4 (((x).1 (70) 4) - ((1 : Int)))) (((x).2 (72)) ((x).1 (w1) 1).toNat) (((x).2 (71)) (((x).1 (70) 4) - ((1 : Int))).toNat)).1) < (0) then F_r_readOn_s w1 n 0 ((F_w_push (kS (x) (70) 4 (((x).1 (70) 4) - ((1 : Int)))) (w1) (((x).2 (71)) (((x).1 (70) 4) - ((1 : Int))).toNat)).2) ((d) + (1 : Int)) else F_r_readOn_s w1 n 0 (kA ((F_w_push (kS (x) (70) 4 (((x).1 (70) 4) - ((1 : Int)))) (w1) (((x).2 (71)) (((x).1 (70) 4) - ((1 : Int))).toNat)).2) (72) (((F_w_push (kS (x) (70) 4 (((x).1 (70) 4) - ((1 : Int)))) (w1) (((x).2 (71)) (((x).1 (70) 4) - ((1 : Int))).toNat)).2).1 (w1) 1).toNat ((F_a_step (kS (x) (70) 4 (((x).1 (70) 4) - ((1 : Int)))) (((x).2 (72)) ((x).1 (w1) 1).toNat) (((x).2 (71)) (((x).1 (70) 4) - ((1 : Int))).toNat)).1)) ((d) + (1 : Int)))) else (if ((F_r_replace (kS (x) (70) 4 (((x).1 (70) 4) - ((1 : Int)))) (w1) (((-1 : Int)) - ((F_a_step (kS (x) (70) 4 (((x).1 (70) 4) - ((1 : Int)))) (((x).2 (72)) ((x).1 (w1) 1).toNat) (((x).2 (71)) (((x).1 (70) 4) - ((1 : Int))).toNat)).1))).1) = (0) then ((0 : Int), (F_r_replace (kS (x) (70) 4 (((x).1 (70) 4) - ((1 : Int)))) (w1) (((-1 : Int)) - ((F_a_step (kS (x) (70) 4 (((x).1 (70) 4) - ((1 : Int)))) (((x).2 (72)) ((x).1 (w1) 1).toNat) (((x).2 (71)) (((x).1 (70) 4) - ((1 : Int))).toNat)).1))).2) else (if ((F_a_step (kS (x) (70) 4 (((x).1 (70) 4) - ((1 : Int)))) (((x).2 (72)) ((x).1 (w1) 1).toNat) (((x).2 (71)) (((x).1 (70) 4) - ((1 : Int))).toNat)).1) < (0) then F_r_readOn_s w1 n 0 ((F_r_replace (kS (x) (70) 4 (((x).1 (70) 4) - ((1 : Int)))) (w1) (((-1 : Int)) - ((F_a_step (kS (x) (70) 4 (((x).1 (70) 4) - ((1 : Int)))) (((x).2 (72)) ((x).1 (w1) 1).toNat) (((x).2 (71)) (((x).1 (70) 4) - ((1 : Int))).toNat)).1))).2) ((d) + (1 : Int)) else F_r_readOn_s w1 n 0 (kA ((F_r_replace (kS (x) (70) 4 (((x).1 (70) 4) - ((1 : Int)))) (w1) (((-1 : Int)) - ((F_a_step (kS (x) (70) 4 (((x).1 (70) 4) - ((1 : Int)))) (((x).2 (72)) ((x).1 (w1) 1).toNat) (((x).2 (71)) (((x).1 (70) 4) - ((1 : Int))).toNat)).1))).2) (72) (((F_r_replace (kS (x) (70) 4 (((x).1 (70) 4) - ((1 : Int)))) (w1) (((-1 : Int)) - ((F_a_step (kS (x) (70) 4 (((x).1 (70) 4) - ((1 : Int)))) (((x).2 (72)) ((x).1 (w1) 1).toNat) (((x).2 (71)) (((x).1 (70) 4) - ((1 : Int))).toNat)).1))).2).1 (w1) 1).toNat ((F_a_step (kS (x) (70) 4 (((x).1 (70) 4) - ((1 : Int)))) (((x).2 (72)) ((x).1 (w1) 1).toNat) (((x).2 (71)) (((x).1 (70) 4) - ((1 : Int))).toNat)).1)) ((d) + (1 : Int))))))) := rfl
def F_r_readOn (x : KS) (w1 : Nat) : Int × KS := F_r_readOn_s w1 20010 0 (x) ((0 : Int))
set_option maxHeartbeats 4000000 in
set_option maxRecDepth 100000 in
/-- LikeWords$Rewriter, readOn -/
theorem c_r_readOn (l : Launch) (dC : Nat → ClassId) (dI : Nat → Nat → Nat) (ad : Nat → Nat) (cI cJ cZ cR : ClassId) (M wl sz : Nat) (x : KS) (w1 : Nat) (hM : 87 ≤ M) (hw_w1 : kW w1 = true) (hc_w1 : w1 + 1 < M) (ru : ruR x) (ma : maR x) (l2 : 1 ≤ x.1 1 2 ∧ x.1 1 2 ≤ 4) (sv : stV x) (wi : rwI x w1) : Met l yX6_readOn wsX6_readOn ({ frames := 2, cells := 0, slots := 0, locals := 49 }) (kPc dC dI ad cI cJ cZ cR M wl sz x [.ref (ad 70), .ref (ad w1)]) (va_Qi (fun (r : Int32) (u : KS) => r = iI (F_r_readOn x w1).1 ∧ u = (F_r_readOn x w1).2) (kAt dC dI ad cI cJ cZ cR M wl (va_A (kWd cI cJ cZ cR wl ad M (x)) sz)) (va_A (kWd cI cJ cZ cR wl ad M (x)) sz)) 0 0 (va_A (kWd cI cJ cZ cR wl ad M (x)) sz) := by
  refine Met.ofW (cc := cX6_readOn) (maxL := 6) (ret := (some .boolean)) (by decide) rfl ?_
  intro p e s m args below meth c s₁ B hml hv
  obtain ⟨rfl, hsz, hP, hK, hD0, hNw⟩ := hv
  have hx := B.exec
  have hb := B.bytes
  have hr := B.returns
  have hts := atoms_spec (ws := wsX6_readOn) B.pre
  have hown : s.vm.findClass RX6 = some m.cls := findClass_of_methodNamed B.named
  have hlocks := B.notSynchronized
  have hinX10 : ∀ w ∈ u_ws RX10 TX10 2, w ∈ wsX6_readOn := by decide +kernel
  have hinX6 : ∀ w ∈ u_ws RX6 TX6 6, w ∈ wsX6_readOn := by decide +kernel
  subst hsz
  have hD := hD0.self (sz := s.heap.size)
  generalize hAe : va_A (kWd cI cJ cZ cR wl ad M (x)) s.heap.size = A at hD ⊢
  have hA : ∀ q : Nat, s.heap.size ≤ q → A q := fun q h => by rw [← hAe]; exact Or.inr h
  have hS : va_S A s.heap s.heap [] := va_S.rf
  have hl := lv_entry ([.ref (ad 70), .ref (ad w1)]) (n := 6) (Nat.le_of_ble_eq_true rfl)
  rw [lg_entry_eq]
  generalize (lg_sl ([.ref (ad 70), .ref (ad w1)]) ++ List.replicate (6 - (lg_sl ([.ref (ad 70), .ref (ad w1)])).length) Slot.unset).toArray = ls at hl ⊢
  have hl : lv_has ls 6 [(0, .ref (ad (70))), (1, .ref (ad (w1)))] := hl
  have k61 := kL_le w1
  have L : ∀ n : Nat, (∀ (y : KS) (d : Int), (rwI y w1) → (kq [70] [71, 72] x y) → (0 ≤ d) → (d ≤ 20000) → (20000 - d < n) → F_r_readOn_s w1 n 0 y d = F_r_readOn x w1 → ∀ (H : Heap) (locs : List Loc) (ls : Array Slot), va_P (dC, dI) vwCl (kWd cI cJ cZ cR wl ad M (y)) H → va_D A (kWd cI cJ cZ cR wl ad M (y)) → va_S A s.heap H locs → lv_has ls 6 [(0, .ref (ad (70))), (1, .ref (ad (w1))), (2, .int (iI (d)))] → W p l e (headSpec wsX6_readOn ({ frames := 2, cells := 0, slots := 0, locals := 49 })).room s m ([.ref (ad 70), .ref (ad w1)] : List Value).toArray below meth c H locs 0 0 (MQ below (va_Qi (fun (r : Int32) (u : KS) => r = iI (F_r_readOn x w1).1 ∧ u = (F_r_readOn x w1).2) (kAt dC dI ad cI cJ cZ cR M wl A) A) ([.ref (ad 70), .ref (ad w1)] : List Value).toArray s 0 0 A) (F0 m 2 ls [])) := by
    intro n
    induction n with
    | zero =>
      skip
      · intro y d wiy qy d0 d1 fu hres
        exact absurd fu (by omega)
    | succ n ih =>
      skip
      · intro y d wiy qy d0 d1 fu hres H locs ls hP hD hS hl
        rw [F_r_readOn_e0] at hres
        obtain ⟨⟨u0, u1⟩, ⟨q0, q1⟩, rp, rs9⟩ := id wiy
        refine lv_iload_n hx hb dX6_readOn_2 rfl (lv_at hl 2 rfl) ?_
        refine lv_sipush (v := iI (20000 : Int)) hx hb dX6_readOn_3 (by decide) ?_
        refine wi_icmp_ge (tgt := 105) hx hb (by first | assumption | (unfold iR; omega) | exact kR01 (by assumption)) ⟨by decide, by decide⟩ dX6_readOn_6 (by decide) (fun c_6 => ?_) (fun c_6 => ?_)
        · skip
          rw [if_pos c_6] at hres
          refine lv_iconst (v := iI (1 : Int)) hx hb dX6_readOn_105 (by decide) ?_
          exact W.zret (v := iI ((1 : Int))) hx hb hr (kz _ (by first | assumption | omega)) (fun t ht hW => ⟨⟨iI ((1 : Int)), y, rfl, ⟨(by have h9 := congrArg (fun z : Int × KS => iI z.1) hres; exact h9), (by have h9 := congrArg (fun z : Int × KS => z.2) hres; exact h9)⟩, by rw [ht]; exact hP, va_K.moved hW.alike hK, hD⟩, hS.F ht⟩) hS.2.2 dX6_readOn_106
        · skip
          rw [if_neg c_6] at hres
          refine lv_aload_n hx hb dX6_readOn_9 rfl (lv_at hl 0 rfl) ?_
          refine va_get (D := (dC, dI)) (ci := 6) (v := .int (iI ((y).1 (70) 4))) (C := RX6) (T := TX6) (N := 6) hx hb hts hinX6 hown hK hP (70) (kg70 (by omega)) rfl 4 (by decide) (hts (.fieldLink RX6 41 "LikeWords$Rewriter" "restUsed" "I") (by decide +kernel)) (fun _ h9 => h9) rfl dX6_readOn_10 ?_
          refine wi_if_le (tgt := 105) hx hb (by first | assumption | (unfold iR; omega) | exact kR01 (by assumption)) dX6_readOn_13 (by decide) (fun c_13 => ?_) (fun c_13 => ?_)
          · skip
            rw [if_pos c_13] at hres
            refine lv_iconst (v := iI (1 : Int)) hx hb dX6_readOn_105 (by decide) ?_
            exact W.zret (v := iI ((1 : Int))) hx hb hr (kz _ (by first | assumption | omega)) (fun t ht hW => ⟨⟨iI ((1 : Int)), y, rfl, ⟨(by have h9 := congrArg (fun z : Int × KS => iI z.1) hres; exact h9), (by have h9 := congrArg (fun z : Int × KS => z.2) hres; exact h9)⟩, by rw [ht]; exact hP, va_K.moved hW.alike hK, hD⟩, hS.F ht⟩) hS.2.2 dX6_readOn_106
          · skip
            rw [if_neg c_13] at hres
            have wi2 : rwI (kS y 70 4 (y.1 70 4 - 1)) w1 := rwI_rest hw_w1 (by omega) (by omega) wiy
            have qr : kq [70] [71, 72] y (kS y 70 4 (y.1 70 4 - 1)) := kq_of (S := [(70, 4)]) (A := []) (km_s (List.Mem.head _) (km_rf _ _ _)) (kq_c (Or.inr (by decide)) kq_m) kq_n
            have q2 := kq_tr qy qr
            have ma2 := maR_q q2 ma
            have l22 := l2_q q2 l2
            have ru2 := ruR_q q2 ru
            have svy := stV_q q2 sv
            refine lv_aload_n hx hb dX6_readOn_16 rfl (lv_at hl 0 rfl) ?_
            refine va_get (D := (dC, dI)) (ci := 6) (v := .ref (ad (71))) (C := RX6) (T := TX6) (N := 6) hx hb hts hinX6 hown hK hP (70) (kg70 (by omega)) rfl 2 (by decide) (hts (.fieldLink RX6 19 "LikeWords$Rewriter" "rest" "[I") (by decide +kernel)) (fun _ h9 => h9) rfl dX6_readOn_17 ?_
            refine lv_aload_n hx hb dX6_readOn_20 rfl (lv_at hl 0 rfl) ?_
            refine lv_dup hx hb dX6_readOn_21 rfl ?_
            refine va_get (D := (dC, dI)) (ci := 6) (v := .int (iI ((y).1 (70) 4))) (C := RX6) (T := TX6) (N := 6) hx hb hts hinX6 hown hK hP (70) (kg70 (by omega)) rfl 4 (by decide) (hts (.fieldLink RX6 41 "LikeWords$Rewriter" "restUsed" "I") (by decide +kernel)) (fun _ h9 => h9) rfl dX6_readOn_22 ?_
            refine lv_iconst (v := iI (1 : Int)) hx hb dX6_readOn_25 (by decide) ?_
            refine wi_isub hx hb dX6_readOn_26 ?_
            refine lv_dup_x1 hx hb dX6_readOn_27 rfl rfl ?_
            refine va_put (D := (dC, dI)) (ci := 6) (v := .int (iI (((y).1 (70) 4) - ((1 : Int))))) (ty := .int) (C := RX6) (T := TX6) (N := 6) hx hb hts hinX6 tyX6 tyX6_ok nmX6 hown hK hP hD hS (70) (kg70 (by omega)) rfl 4 (by decide) (hts (.fieldLink RX6 41 "LikeWords$Rewriter" "restUsed" "I") (by decide +kernel)) (fun _ h9 => h9) rfl (by decide +kernel) rfl rfl (Nat.le_of_ble_eq_true rfl) dX6_readOn_28 (fun H locs hP hD hS => ?_)
            rw [ks70_4] at hP hD
            refine wi_iald (f := (y).2 (71)) (n := kLen (71)) hx hb hK hP (71) 0 (kgi kC71 (by omega) rfl) rfl (i := ((y).1 (70) 4) - ((1 : Int))) (by omega) (by show _ < ((60 : Nat) : Int); exact (by omega)) (kLen_lt _) dX6_readOn_31 ?_
            refine lv_istore_n (lv' := [(3, .int (iI (((y).2 (71)) (((y).1 (70) 4) - ((1 : Int))).toNat))), (0, .ref (ad (70))), (1, .ref (ad (w1))), (2, .int (iI (d)))]) hx hb dX6_readOn_32 rfl hl (by decide) rfl (fun ls hl => ?_)
            refine lv_aload_n hx hb dX6_readOn_33 rfl (lv_at hl 1 rfl) ?_
            refine va_get (D := (dC, dI)) (ci := 6) (v := .ref (ad (64))) (C := RX6) (T := TX6) (N := 6) hx hb hts hinX6 hown hK hP (70) (kg70 (by omega)) rfl 1 (by decide) (hts (.fieldLink RX6 15 "LikeWords$Rewriter" "machine" "LLikeWords$Machine;") (by decide +kernel)) (fun _ h9 => h9) rfl dX6_readOn_34 ?_
            refine lv_aload_n hx hb dX6_readOn_37 rfl (lv_at hl 1 rfl) ?_
            refine va_get (D := (dC, dI)) (ci := 6) (v := .ref (ad (72))) (C := RX6) (T := TX6) (N := 6) hx hb hts hinX6 hown hK hP (70) (kg70 (by omega)) rfl 3 (by decide) (hts (.fieldLink RX6 23 "LikeWords$Rewriter" "places" "[I") (by decide +kernel)) (fun _ h9 => h9) rfl dX6_readOn_38 ?_
            refine lv_aload_n hx hb dX6_readOn_41 rfl (lv_at hl 2 rfl) ?_
            refine va_get (D := (dC, dI)) (ci := 10) (v := .int (iI ((y).1 (w1) 1))) (C := RX10) (T := TX10) (N := 2) hx hb hts hinX10 hown hK hP (w1) (kgw hw_w1 (by omega)) rfl 1 (by decide) (hts (.fieldLink RX6 45 "LikeWords$Word" "used" "I") (by decide +kernel)) (fun _ h9 => h9) (congrArg (fun z9 => some (Value.int (iI z9))) (congrFun (kS_c (kW_ne hw_w1 rfl)) 1)) dX6_readOn_42 ?_
            refine wi_iald (f := (y).2 (72)) (n := kLen (72)) hx hb hK hP (72) 0 (kgi kC72 (by omega) rfl) rfl (i := (y).1 (w1) 1) (by omega) (by show _ < ((61 : Nat) : Int); exact (by omega)) (kLen_lt _) dX6_readOn_45 ?_
            refine lv_iload_n hx hb dX6_readOn_46 rfl (lv_at hl 0 rfl) ?_
            have hFc : ∀ q, va_A (kWd cI cJ cZ cR wl ad M (kS (y) (70) 4 (((y).1 (70) 4) - ((1 : Int))))) H.size q → A q := fun q hq => Or.elim hq (fun ⟨k, e, hk⟩ => hD.2 k (q, e) hk) (fun hk => hA q (Nat.le_trans hS.1 hk))
            refine va_calli (va_runV (b := ad (64)) (As := [.int (iI (((y).2 (72)) ((y).1 (w1) 1).toNat)), .int (iI (((y).2 (71)) (((y).1 (70) 4) - ((1 : Int))).toNat))]) (rest := []) ⟨hx, hb, hml, hown, hts⟩ (c_a_step l dC dI ad cI cJ cZ cR M wl H.size (kS (y) (70) 4 (((y).1 (70) 4) - ((1 : Int))))  (((y).2 (72)) ((y).1 (w1) 1).toNat) (((y).2 (71)) (((y).1 (70) 4) - ((1 : Int))).toNat) hM (by have := (wiy.2.2.1 (y.1 w1 1).toNat); omega) (by have := (wiy.2.2.1 (y.1 w1 1).toNat); omega) (by have := wiy.2.2.2 (y.1 70 4 - 1).toNat; omega) (by have := wiy.2.2.2 (y.1 70 4 - 1).toNat; omega) ma2 l22) (cwV 2 hts gX6_readOn_X3_step rfl rfl rfl (by decide +kernel) ⟨Nat.le_of_ble_eq_true rfl, Nat.le_of_ble_eq_true rfl⟩) ⟨fun a U g mk q => by obtain ⟨q0, q1, qP, qK, qD, qN⟩ := q; exact ⟨q0, q1, qP, va_K.moved (u := U) (U := U.calling g mk a) (Vm.Alike.refl U.vm) qK, qD, kNw.same (u := U) (U := U.calling g mk a) rfl qN⟩, va_recv hK hP (ci := 3) (q0 := 64) rfl (kg64 (by omega)), fun U hU hW => ⟨rfl, by rw [hU], by rw [hU]; exact hP, va_K.moved hW.alike hK, hD.weaken (fun _ _ _ _ => trivial), kNw.warm hW hNw⟩⟩ rfl rfl hl.1 rfl (lv_room (Nat.le_of_ble_eq_true rfl)) dX6_readOn_47 ⟨Nat.le_of_ble_eq_true rfl, Nat.le_of_ble_eq_true rfl⟩) hS (fun q _ h => hFc q h) hFc (fun r9 u9 t H1 locs ht hvm hw hB hz1 hk1 hS => ?_)
            obtain ⟨hP1, hK1, hD1⟩ := hB
            rw [ht] at hP1
            obtain ⟨hw1, hw2⟩ := hw
            rw [hw2] at hP1 hD1
            rw [hw1]
            rw [F_a_step_2] at hP1 hD1
            have hD2 := hD1.weaken (B := A) (fun _ q _ h => hFc q.1 h)
            have hP := hP1
            have hD := hD2
            generalize H1 = H at hP hS ⊢
            refine lv_istore (lv' := [(4, .int (iI ((F_a_step (kS (y) (70) 4 (((y).1 (70) 4) - ((1 : Int)))) (((y).2 (72)) ((y).1 (w1) 1).toNat) (((y).2 (71)) (((y).1 (70) 4) - ((1 : Int))).toNat)).1))), (3, .int (iI (((y).2 (71)) (((y).1 (70) 4) - ((1 : Int))).toNat))), (0, .ref (ad (70))), (1, .ref (ad (w1))), (2, .int (iI (d)))]) hx hb dX6_readOn_50 hl (by decide) rfl (fun ls hl => ?_)
            have sb := F_a_step_b ma2 (y.2 72 (y.1 w1 1).toNat) (y.2 71 (y.1 70 4 - 1).toNat)
            refine lv_iload hx hb dX6_readOn_52 (lv_at hl 0 rfl) ?_
            refine wi_if_ge (tgt := 69) hx hb (by first | assumption | (unfold iR; omega) | exact kR01 (by assumption)) dX6_readOn_54 (by decide) (fun c_54 => ?_) (fun c_54 => ?_)
            · skip
              rw [if_pos c_54] at hres
              refine lv_aload_n hx hb dX6_readOn_69 rfl (lv_at hl 3 rfl) ?_
              refine lv_iload_n hx hb dX6_readOn_70 rfl (lv_at hl 1 rfl) ?_
              have hFc : ∀ q, va_A (kWd cI cJ cZ cR wl ad M (kS (y) (70) 4 (((y).1 (70) 4) - ((1 : Int))))) H.size q → A q := fun q hq => Or.elim hq (fun ⟨k, e, hk⟩ => hD.2 k (q, e) hk) (fun hk => hA q (Nat.le_trans hS.1 hk))
              refine va_calli (va_runV (b := ad (w1)) (As := [.int (iI (((y).2 (71)) (((y).1 (70) 4) - ((1 : Int))).toNat))]) (rest := []) ⟨hx, hb, hml, hown, hts⟩ (c_w_push l dC dI ad cI cJ cZ cR M wl H.size (kS (y) (70) 4 (((y).1 (70) 4) - ((1 : Int)))) (w1) (((y).2 (71)) (((y).1 (70) 4) - ((1 : Int))).toNat) hM hw_w1 (by omega) wi2.1.1 wi2.1.2) (cwV 1 hts gX6_readOn_X10_push rfl rfl rfl (by decide +kernel) ⟨Nat.le_of_ble_eq_true rfl, Nat.le_of_ble_eq_true rfl⟩) ⟨fun a U g mk q => by obtain ⟨q0, q1, qP, qK, qD, qN⟩ := q; exact ⟨q0, q1, qP, va_K.moved (u := U) (U := U.calling g mk a) (Vm.Alike.refl U.vm) qK, qD, kNw.same (u := U) (U := U.calling g mk a) rfl qN⟩, va_recv hK hP (ci := 10) (q0 := w1) rfl (kgw hw_w1 (by omega)), fun U hU hW => ⟨rfl, by rw [hU], by rw [hU]; exact hP, va_K.moved hW.alike hK, hD.weaken (fun _ _ _ _ => trivial), kNw.warm hW hNw⟩⟩ rfl rfl hl.1 rfl (lv_room (Nat.le_of_ble_eq_true rfl)) dX6_readOn_71 ⟨Nat.le_of_ble_eq_true rfl, Nat.le_of_ble_eq_true rfl⟩) hS (fun q _ h => hFc q h) hFc (fun r9 u9 t H1 locs ht hvm hw hB hz1 hk1 hS => ?_)
              obtain ⟨hP1, hK1, hD1⟩ := hB
              rw [ht] at hP1
              obtain ⟨hw1, hw2⟩ := hw
              rw [hw2] at hP1 hD1
              rw [hw1]
              have hD2 := hD1.weaken (B := A) (fun _ q _ h => hFc q.1 h)
              have hP := hP1
              have hD := hD2
              generalize H1 = H at hP hS ⊢
              have w3 : rwI ((F_w_push (kS (y) (70) 4 (((y).1 (70) 4) - ((1 : Int)))) (w1) (((y).2 (71)) (((y).1 (70) 4) - ((1 : Int))).toNat)).2) w1 := rwI_push hw_w1 wi2
              refine lv_istore (lv' := [(5, .int (iI ((F_w_push (kS (y) (70) 4 (((y).1 (70) 4) - ((1 : Int)))) (w1) (((y).2 (71)) (((y).1 (70) 4) - ((1 : Int))).toNat)).1))), (4, .int (iI ((F_a_step (kS (y) (70) 4 (((y).1 (70) 4) - ((1 : Int)))) (((y).2 (72)) ((y).1 (w1) 1).toNat) (((y).2 (71)) (((y).1 (70) 4) - ((1 : Int))).toNat)).1))), (3, .int (iI (((y).2 (71)) (((y).1 (70) 4) - ((1 : Int))).toNat))), (0, .ref (ad (70))), (1, .ref (ad (w1))), (2, .int (iI (d)))]) hx hb dX6_readOn_74 hl (by decide) rfl (fun ls hl => ?_)
              refine lv_iload hx hb dX6_readOn_76 (lv_at hl 0 rfl) ?_
              refine wi_if_ne (tgt := 83) hx hb (kR01 (by first | exact F_w_push_01 _ _ _ | exact F_r_replace_01 _ _ _)) dX6_readOn_78 (by decide) (fun c_78 => ?_) (fun c_78 => ?_)
              · skip
                rw [if_neg c_78] at hres
                refine lv_iload hx hb dX6_readOn_83 (lv_at hl 1 rfl) ?_
                refine wi_if_lt (tgt := 99) hx hb (by first | assumption | (unfold iR; omega) | exact kR01 (by assumption)) dX6_readOn_85 (by decide) (fun c_85 => ?_) (fun c_85 => ?_)
                · skip
                  rw [if_pos c_85] at hres
                  refine lv_iinc (v := iI ((d) + (1 : Int))) (lv' := [(2, .int (iI ((d) + (1 : Int)))), (5, .int (iI ((F_w_push (kS (y) (70) 4 (((y).1 (70) 4) - ((1 : Int)))) (w1) (((y).2 (71)) (((y).1 (70) 4) - ((1 : Int))).toNat)).1))), (4, .int (iI ((F_a_step (kS (y) (70) 4 (((y).1 (70) 4) - ((1 : Int)))) (((y).2 (72)) ((y).1 (w1) 1).toNat) (((y).2 (71)) (((y).1 (70) 4) - ((1 : Int))).toNat)).1))), (3, .int (iI (((y).2 (71)) (((y).1 (70) 4) - ((1 : Int))).toNat))), (0, .ref (ad (70))), (1, .ref (ad (w1)))]) hx hb dX6_readOn_99 hl (k := 5) rfl (iI_add _ _) (by decide) rfl (fun ls hl => ?_)
                  refine lv_goto (tgt := 2) hx hb dX6_readOn_102 (by decide) ?_
                  exact ih ((F_w_push (kS (y) (70) 4 (((y).1 (70) 4) - ((1 : Int)))) (w1) (((y).2 (71)) (((y).1 (70) 4) - ((1 : Int))).toNat)).2) ((d) + (1 : Int)) ((rwI_push hw_w1 wi2)) ((kq_tr (kq_tr qy qr) (kq_mono (by decide) (by decide) (F_w_push_q _ _ _ hw_w1)))) (by omega) (by omega) (by omega) hres _ _ ls hP hD hS (lv_sub hl [4, 5, 0] rfl)
                · skip
                  rw [if_neg c_85] at hres
                  have w31 := w3.1
                  refine lv_aload_n hx hb dX6_readOn_88 rfl (lv_at hl 3 rfl) ?_
                  refine va_get (D := (dC, dI)) (ci := 6) (v := .ref (ad (72))) (C := RX6) (T := TX6) (N := 6) hx hb hts hinX6 hown hK hP (70) (kg70 (by omega)) rfl 3 (by decide) (hts (.fieldLink RX6 23 "LikeWords$Rewriter" "places" "[I") (by decide +kernel)) (fun _ h9 => h9) rfl dX6_readOn_89 ?_
                  refine lv_aload_n hx hb dX6_readOn_92 rfl (lv_at hl 4 rfl) ?_
                  refine va_get (D := (dC, dI)) (ci := 10) (v := .int (iI (((F_w_push (kS (y) (70) 4 (((y).1 (70) 4) - ((1 : Int)))) (w1) (((y).2 (71)) (((y).1 (70) 4) - ((1 : Int))).toNat)).2).1 (w1) 1))) (C := RX10) (T := TX10) (N := 2) hx hb hts hinX10 hown hK hP (w1) (kgw hw_w1 (by omega)) rfl 1 (by decide) (hts (.fieldLink RX6 45 "LikeWords$Word" "used" "I") (by decide +kernel)) (fun _ h9 => h9) rfl dX6_readOn_93 ?_
                  refine lv_iload hx hb dX6_readOn_96 (lv_at hl 1 rfl) ?_
                  refine wi_iast (f := ((F_w_push (kS (y) (70) 4 (((y).1 (70) 4) - ((1 : Int)))) (w1) (((y).2 (71)) (((y).1 (70) 4) - ((1 : Int))).toNat)).2).2 (72)) (n := kLen (72)) hx hb hK hP hD hS (72) 0 (kgi kC72 (by omega) rfl) rfl (i := ((F_w_push (kS (y) (70) 4 (((y).1 (70) 4) - ((1 : Int)))) (w1) (((y).2 (71)) (((y).1 (70) 4) - ((1 : Int))).toNat)).2).1 (w1) 1) (x := (F_a_step (kS (y) (70) 4 (((y).1 (70) 4) - ((1 : Int)))) (((y).2 (72)) ((y).1 (w1) 1).toNat) (((y).2 (71)) (((y).1 (70) 4) - ((1 : Int))).toNat)).1) (by omega) (by show _ < ((61 : Nat) : Int); exact (by omega)) (kLen_lt _) dX6_readOn_98 (fun H locs hP hD hS => ?_)
                  rw [ksi kC72] at hP hD
                  refine lv_iinc (v := iI ((d) + (1 : Int))) (lv' := [(2, .int (iI ((d) + (1 : Int)))), (5, .int (iI ((F_w_push (kS (y) (70) 4 (((y).1 (70) 4) - ((1 : Int)))) (w1) (((y).2 (71)) (((y).1 (70) 4) - ((1 : Int))).toNat)).1))), (4, .int (iI ((F_a_step (kS (y) (70) 4 (((y).1 (70) 4) - ((1 : Int)))) (((y).2 (72)) ((y).1 (w1) 1).toNat) (((y).2 (71)) (((y).1 (70) 4) - ((1 : Int))).toNat)).1))), (3, .int (iI (((y).2 (71)) (((y).1 (70) 4) - ((1 : Int))).toNat))), (0, .ref (ad (70))), (1, .ref (ad (w1)))]) hx hb dX6_readOn_99 hl (k := 5) rfl (iI_add _ _) (by decide) rfl (fun ls hl => ?_)
                  refine lv_goto (tgt := 2) hx hb dX6_readOn_102 (by decide) ?_
                  exact ih (kA ((F_w_push (kS (y) (70) 4 (((y).1 (70) 4) - ((1 : Int)))) (w1) (((y).2 (71)) (((y).1 (70) 4) - ((1 : Int))).toNat)).2) (72) (((F_w_push (kS (y) (70) 4 (((y).1 (70) 4) - ((1 : Int)))) (w1) (((y).2 (71)) (((y).1 (70) 4) - ((1 : Int))).toNat)).2).1 (w1) 1).toNat ((F_a_step (kS (y) (70) 4 (((y).1 (70) 4) - ((1 : Int)))) (((y).2 (72)) ((y).1 (w1) 1).toNat) (((y).2 (71)) (((y).1 (70) 4) - ((1 : Int))).toNat)).1)) ((d) + (1 : Int)) ((rwI_place sb.1 sb.2 (rwI_push hw_w1 wi2))) ((kq_tr (kq_tr (kq_tr qy qr) (kq_mono (by decide) (by decide) (F_w_push_q _ _ _ hw_w1))) (kq_of (S := []) (A := [72]) (km_a (List.Mem.head _) (km_rf _ _ _)) kq_m (kq_c (Or.inr (by decide)) kq_n)))) (by omega) (by omega) (by omega) hres _ _ ls hP hD hS (lv_sub hl [4, 5, 0] rfl)
              · skip
                rw [if_pos c_78] at hres
                refine lv_iconst (v := iI (0 : Int)) hx hb dX6_readOn_81 (by decide) ?_
                exact W.zret (v := iI ((0 : Int))) hx hb hr (kz _ (by first | assumption | omega)) (fun t ht hW => ⟨⟨iI ((0 : Int)), (F_w_push (kS (y) (70) 4 (((y).1 (70) 4) - ((1 : Int)))) (w1) (((y).2 (71)) (((y).1 (70) 4) - ((1 : Int))).toNat)).2, rfl, ⟨(by have h9 := congrArg (fun z : Int × KS => iI z.1) hres; exact h9), (by have h9 := congrArg (fun z : Int × KS => z.2) hres; exact h9)⟩, by rw [ht]; exact hP, va_K.moved hW.alike hK, hD⟩, hS.F ht⟩) hS.2.2 dX6_readOn_82
            · skip
              rw [if_neg c_54] at hres
              have sv2 := F_a_step_v svy (show (F_a_step (kS y 70 4 (y.1 70 4 - 1)) (y.2 72 (y.1 w1 1).toNat) (y.2 71 (y.1 70 4 - 1).toNat)).1 < 0 by omega)
              refine lv_aload_n hx hb dX6_readOn_57 rfl (lv_at hl 2 rfl) ?_
              refine lv_iconst (v := iI (-1 : Int)) hx hb dX6_readOn_58 (by decide) ?_
              refine lv_iload hx hb dX6_readOn_59 (lv_at hl 0 rfl) ?_
              refine wi_isub hx hb dX6_readOn_61 ?_
              refine lv_aload_n hx hb dX6_readOn_62 rfl (lv_at hl 3 rfl) ?_
              have hFc : ∀ q, va_A (kWd cI cJ cZ cR wl ad M (kS (y) (70) 4 (((y).1 (70) 4) - ((1 : Int))))) H.size q → A q := fun q hq => Or.elim hq (fun ⟨k, e, hk⟩ => hD.2 k (q, e) hk) (fun hk => hA q (Nat.le_trans hS.1 hk))
              refine va_calli (va_runV (b := ad (70)) (As := [.int (iI (((-1 : Int)) - ((F_a_step (kS (y) (70) 4 (((y).1 (70) 4) - ((1 : Int)))) (((y).2 (72)) ((y).1 (w1) 1).toNat) (((y).2 (71)) (((y).1 (70) 4) - ((1 : Int))).toNat)).1))), .ref (ad (w1))]) (rest := []) ⟨hx, hb, hml, hown, hts⟩ (c_r_replace l dC dI ad cI cJ cZ cR M wl H.size (kS (y) (70) 4 (((y).1 (70) 4) - ((1 : Int)))) (w1) (((-1 : Int)) - ((F_a_step (kS (y) (70) 4 (((y).1 (70) 4) - ((1 : Int)))) (((y).2 (72)) ((y).1 (w1) 1).toNat) (((y).2 (71)) (((y).1 (70) 4) - ((1 : Int))).toNat)).1)) hM hw_w1 (by omega) (by unfold iR; omega) ru2 wi2) (cwV 2 hts gX6_readOn_X6_replace rfl rfl rfl (by decide +kernel) ⟨Nat.le_of_ble_eq_true rfl, Nat.le_of_ble_eq_true rfl⟩) ⟨fun a U g mk q => by obtain ⟨q0, q1, qP, qK, qD, qN⟩ := q; exact ⟨q0, q1, qP, va_K.moved (u := U) (U := U.calling g mk a) (Vm.Alike.refl U.vm) qK, qD, kNw.same (u := U) (U := U.calling g mk a) rfl qN⟩, va_recv hK hP (ci := 6) (q0 := 70) rfl (kg70 (by omega)), fun U hU hW => ⟨rfl, by rw [hU], by rw [hU]; exact hP, va_K.moved hW.alike hK, hD.weaken (fun _ _ _ _ => trivial), kNw.warm hW hNw⟩⟩ rfl rfl hl.1 rfl (lv_room (Nat.le_of_ble_eq_true rfl)) dX6_readOn_63 ⟨Nat.le_of_ble_eq_true rfl, Nat.le_of_ble_eq_true rfl⟩) hS (fun q _ h => hFc q h) hFc (fun r9 u9 t H1 locs ht hvm hw hB hz1 hk1 hS => ?_)
              obtain ⟨hP1, hK1, hD1⟩ := hB
              rw [ht] at hP1
              obtain ⟨hw1, hw2⟩ := hw
              rw [hw2] at hP1 hD1
              rw [hw1]
              have hD2 := hD1.weaken (B := A) (fun _ q _ h => hFc q.1 h)
              have hP := hP1
              have hD := hD2
              generalize H1 = H at hP hS ⊢
              refine lv_goto (tgt := 74) hx hb dX6_readOn_66 (by decide) ?_
              have w3 : rwI ((F_r_replace (kS (y) (70) 4 (((y).1 (70) 4) - ((1 : Int)))) (w1) (((-1 : Int)) - ((F_a_step (kS (y) (70) 4 (((y).1 (70) 4) - ((1 : Int)))) (((y).2 (72)) ((y).1 (w1) 1).toNat) (((y).2 (71)) (((y).1 (70) 4) - ((1 : Int))).toNat)).1))).2) w1 := F_r_replace_ok hw_w1 ru2 sv2.2 wi2
              refine lv_istore (lv' := [(5, .int (iI ((F_r_replace (kS (y) (70) 4 (((y).1 (70) 4) - ((1 : Int)))) (w1) (((-1 : Int)) - ((F_a_step (kS (y) (70) 4 (((y).1 (70) 4) - ((1 : Int)))) (((y).2 (72)) ((y).1 (w1) 1).toNat) (((y).2 (71)) (((y).1 (70) 4) - ((1 : Int))).toNat)).1))).1))), (4, .int (iI ((F_a_step (kS (y) (70) 4 (((y).1 (70) 4) - ((1 : Int)))) (((y).2 (72)) ((y).1 (w1) 1).toNat) (((y).2 (71)) (((y).1 (70) 4) - ((1 : Int))).toNat)).1))), (3, .int (iI (((y).2 (71)) (((y).1 (70) 4) - ((1 : Int))).toNat))), (0, .ref (ad (70))), (1, .ref (ad (w1))), (2, .int (iI (d)))]) hx hb dX6_readOn_74 hl (by decide) rfl (fun ls hl => ?_)
              refine lv_iload hx hb dX6_readOn_76 (lv_at hl 0 rfl) ?_
              refine wi_if_ne (tgt := 83) hx hb (kR01 (by first | exact F_w_push_01 _ _ _ | exact F_r_replace_01 _ _ _)) dX6_readOn_78 (by decide) (fun c_78 => ?_) (fun c_78 => ?_)
              · skip
                rw [if_neg c_78] at hres
                refine lv_iload hx hb dX6_readOn_83 (lv_at hl 1 rfl) ?_
                refine wi_if_lt (tgt := 99) hx hb (by first | assumption | (unfold iR; omega) | exact kR01 (by assumption)) dX6_readOn_85 (by decide) (fun c_85 => ?_) (fun c_85 => ?_)
                · skip
                  rw [if_pos c_85] at hres
                  refine lv_iinc (v := iI ((d) + (1 : Int))) (lv' := [(2, .int (iI ((d) + (1 : Int)))), (5, .int (iI ((F_r_replace (kS (y) (70) 4 (((y).1 (70) 4) - ((1 : Int)))) (w1) (((-1 : Int)) - ((F_a_step (kS (y) (70) 4 (((y).1 (70) 4) - ((1 : Int)))) (((y).2 (72)) ((y).1 (w1) 1).toNat) (((y).2 (71)) (((y).1 (70) 4) - ((1 : Int))).toNat)).1))).1))), (4, .int (iI ((F_a_step (kS (y) (70) 4 (((y).1 (70) 4) - ((1 : Int)))) (((y).2 (72)) ((y).1 (w1) 1).toNat) (((y).2 (71)) (((y).1 (70) 4) - ((1 : Int))).toNat)).1))), (3, .int (iI (((y).2 (71)) (((y).1 (70) 4) - ((1 : Int))).toNat))), (0, .ref (ad (70))), (1, .ref (ad (w1)))]) hx hb dX6_readOn_99 hl (k := 5) rfl (iI_add _ _) (by decide) rfl (fun ls hl => ?_)
                  refine lv_goto (tgt := 2) hx hb dX6_readOn_102 (by decide) ?_
                  exact ih ((F_r_replace (kS (y) (70) 4 (((y).1 (70) 4) - ((1 : Int)))) (w1) (((-1 : Int)) - ((F_a_step (kS (y) (70) 4 (((y).1 (70) 4) - ((1 : Int)))) (((y).2 (72)) ((y).1 (w1) 1).toNat) (((y).2 (71)) (((y).1 (70) 4) - ((1 : Int))).toNat)).1))).2) ((d) + (1 : Int)) ((F_r_replace_ok hw_w1 ru2 sv2.2 wi2)) ((kq_tr (kq_tr qy qr) (kq_mono (by decide) (by decide) (F_r_replace_q _ _ _ hw_w1)))) (by omega) (by omega) (by omega) hres _ _ ls hP hD hS (lv_sub hl [4, 5, 0] rfl)
                · skip
                  rw [if_neg c_85] at hres
                  have w31 := w3.1
                  refine lv_aload_n hx hb dX6_readOn_88 rfl (lv_at hl 3 rfl) ?_
                  refine va_get (D := (dC, dI)) (ci := 6) (v := .ref (ad (72))) (C := RX6) (T := TX6) (N := 6) hx hb hts hinX6 hown hK hP (70) (kg70 (by omega)) rfl 3 (by decide) (hts (.fieldLink RX6 23 "LikeWords$Rewriter" "places" "[I") (by decide +kernel)) (fun _ h9 => h9) rfl dX6_readOn_89 ?_
                  refine lv_aload_n hx hb dX6_readOn_92 rfl (lv_at hl 4 rfl) ?_
                  refine va_get (D := (dC, dI)) (ci := 10) (v := .int (iI (((F_r_replace (kS (y) (70) 4 (((y).1 (70) 4) - ((1 : Int)))) (w1) (((-1 : Int)) - ((F_a_step (kS (y) (70) 4 (((y).1 (70) 4) - ((1 : Int)))) (((y).2 (72)) ((y).1 (w1) 1).toNat) (((y).2 (71)) (((y).1 (70) 4) - ((1 : Int))).toNat)).1))).2).1 (w1) 1))) (C := RX10) (T := TX10) (N := 2) hx hb hts hinX10 hown hK hP (w1) (kgw hw_w1 (by omega)) rfl 1 (by decide) (hts (.fieldLink RX6 45 "LikeWords$Word" "used" "I") (by decide +kernel)) (fun _ h9 => h9) rfl dX6_readOn_93 ?_
                  refine lv_iload hx hb dX6_readOn_96 (lv_at hl 1 rfl) ?_
                  refine wi_iast (f := ((F_r_replace (kS (y) (70) 4 (((y).1 (70) 4) - ((1 : Int)))) (w1) (((-1 : Int)) - ((F_a_step (kS (y) (70) 4 (((y).1 (70) 4) - ((1 : Int)))) (((y).2 (72)) ((y).1 (w1) 1).toNat) (((y).2 (71)) (((y).1 (70) 4) - ((1 : Int))).toNat)).1))).2).2 (72)) (n := kLen (72)) hx hb hK hP hD hS (72) 0 (kgi kC72 (by omega) rfl) rfl (i := ((F_r_replace (kS (y) (70) 4 (((y).1 (70) 4) - ((1 : Int)))) (w1) (((-1 : Int)) - ((F_a_step (kS (y) (70) 4 (((y).1 (70) 4) - ((1 : Int)))) (((y).2 (72)) ((y).1 (w1) 1).toNat) (((y).2 (71)) (((y).1 (70) 4) - ((1 : Int))).toNat)).1))).2).1 (w1) 1) (x := (F_a_step (kS (y) (70) 4 (((y).1 (70) 4) - ((1 : Int)))) (((y).2 (72)) ((y).1 (w1) 1).toNat) (((y).2 (71)) (((y).1 (70) 4) - ((1 : Int))).toNat)).1) (by omega) (by show _ < ((61 : Nat) : Int); exact (by omega)) (kLen_lt _) dX6_readOn_98 (fun H locs hP hD hS => ?_)
                  rw [ksi kC72] at hP hD
                  refine lv_iinc (v := iI ((d) + (1 : Int))) (lv' := [(2, .int (iI ((d) + (1 : Int)))), (5, .int (iI ((F_r_replace (kS (y) (70) 4 (((y).1 (70) 4) - ((1 : Int)))) (w1) (((-1 : Int)) - ((F_a_step (kS (y) (70) 4 (((y).1 (70) 4) - ((1 : Int)))) (((y).2 (72)) ((y).1 (w1) 1).toNat) (((y).2 (71)) (((y).1 (70) 4) - ((1 : Int))).toNat)).1))).1))), (4, .int (iI ((F_a_step (kS (y) (70) 4 (((y).1 (70) 4) - ((1 : Int)))) (((y).2 (72)) ((y).1 (w1) 1).toNat) (((y).2 (71)) (((y).1 (70) 4) - ((1 : Int))).toNat)).1))), (3, .int (iI (((y).2 (71)) (((y).1 (70) 4) - ((1 : Int))).toNat))), (0, .ref (ad (70))), (1, .ref (ad (w1)))]) hx hb dX6_readOn_99 hl (k := 5) rfl (iI_add _ _) (by decide) rfl (fun ls hl => ?_)
                  refine lv_goto (tgt := 2) hx hb dX6_readOn_102 (by decide) ?_
                  exact ih (kA ((F_r_replace (kS (y) (70) 4 (((y).1 (70) 4) - ((1 : Int)))) (w1) (((-1 : Int)) - ((F_a_step (kS (y) (70) 4 (((y).1 (70) 4) - ((1 : Int)))) (((y).2 (72)) ((y).1 (w1) 1).toNat) (((y).2 (71)) (((y).1 (70) 4) - ((1 : Int))).toNat)).1))).2) (72) (((F_r_replace (kS (y) (70) 4 (((y).1 (70) 4) - ((1 : Int)))) (w1) (((-1 : Int)) - ((F_a_step (kS (y) (70) 4 (((y).1 (70) 4) - ((1 : Int)))) (((y).2 (72)) ((y).1 (w1) 1).toNat) (((y).2 (71)) (((y).1 (70) 4) - ((1 : Int))).toNat)).1))).2).1 (w1) 1).toNat ((F_a_step (kS (y) (70) 4 (((y).1 (70) 4) - ((1 : Int)))) (((y).2 (72)) ((y).1 (w1) 1).toNat) (((y).2 (71)) (((y).1 (70) 4) - ((1 : Int))).toNat)).1)) ((d) + (1 : Int)) ((rwI_place sb.1 sb.2 (F_r_replace_ok hw_w1 ru2 sv2.2 wi2))) ((kq_tr (kq_tr (kq_tr qy qr) (kq_mono (by decide) (by decide) (F_r_replace_q _ _ _ hw_w1))) (kq_of (S := []) (A := [72]) (km_a (List.Mem.head _) (km_rf _ _ _)) kq_m (kq_c (Or.inr (by decide)) kq_n)))) (by omega) (by omega) (by omega) hres _ _ ls hP hD hS (lv_sub hl [4, 5, 0] rfl)
              · skip
                rw [if_pos c_78] at hres
                refine lv_iconst (v := iI (0 : Int)) hx hb dX6_readOn_81 (by decide) ?_
                exact W.zret (v := iI ((0 : Int))) hx hb hr (kz _ (by first | assumption | omega)) (fun t ht hW => ⟨⟨iI ((0 : Int)), (F_r_replace (kS (y) (70) 4 (((y).1 (70) 4) - ((1 : Int)))) (w1) (((-1 : Int)) - ((F_a_step (kS (y) (70) 4 (((y).1 (70) 4) - ((1 : Int)))) (((y).2 (72)) ((y).1 (w1) 1).toNat) (((y).2 (71)) (((y).1 (70) 4) - ((1 : Int))).toNat)).1))).2, rfl, ⟨(by have h9 := congrArg (fun z : Int × KS => iI z.1) hres; exact h9), (by have h9 := congrArg (fun z : Int × KS => z.2) hres; exact h9)⟩, by rw [ht]; exact hP, va_K.moved hW.alike hK, hD⟩, hS.F ht⟩) hS.2.2 dX6_readOn_82
  have key : ∀ (H : Heap) (locs : List Loc), va_P (dC, dI) vwCl (kWd cI cJ cZ cR wl ad M (x)) H → va_S A s.heap H locs → W p l e (headSpec wsX6_readOn ({ frames := 2, cells := 0, slots := 0, locals := 49 })).room s m ([.ref (ad 70), .ref (ad w1)] : List Value).toArray below meth c H locs 0 0 (MQ below (va_Qi (fun (r : Int32) (u : KS) => r = iI (F_r_readOn x w1).1 ∧ u = (F_r_readOn x w1).2) (kAt dC dI ad cI cJ cZ cR M wl A) A) ([.ref (ad 70), .ref (ad w1)] : List Value).toArray s 0 0 A) (F0 m 0 ls []) := by
    intro H locs hP hS
    have hres : F_r_readOn_s w1 20010 0 (x) ((0 : Int)) = F_r_readOn x w1 := rfl
    refine lv_iconst (v := iI (0 : Int)) hx hb dX6_readOn_0 (by decide) ?_
    refine lv_istore_n (lv' := [(2, .int (iI ((0 : Int)))), (0, .ref (ad (70))), (1, .ref (ad (w1)))]) hx hb dX6_readOn_1 rfl hl (by decide) rfl (fun ls hl => ?_)
    exact (L (20010)) (x) ((0 : Int)) (wi) (kq_rf _ _ _) (by omega) (by omega) (by omega) hres _ _ ls hP hD hS (lv_sub hl [1, 2, 0] rfl)
  exact key _ _ hP hS
theorem F_r_readOn_sfr (w1 : Nat) : ∀ n : Nat, (∀ (y : KS) (v0 : Int), ksame [(70, 4), (w1, 1)] [(w1) + 1, 72, 71] y (F_r_readOn_s w1 n 0 y v0).2) := by
  intro n
  induction n with
  | zero => exact fun y _ => km_rf _ _ _
  | succ n ih =>
    skip
    · intro y d
      rw [F_r_readOn_e0]
      by_cases hc : ((20000 : Int)) ≤ (d)
      · rw [if_pos hc]
        exact (km_rf _ _ _)
      · rw [if_neg hc]
        by_cases hc : ((y).1 (70) 4) ≤ (0)
        · rw [if_pos hc]
          exact (km_rf _ _ _)
        · rw [if_neg hc]
          by_cases hc : (0) ≤ ((F_a_step (kS (y) (70) 4 (((y).1 (70) 4) - ((1 : Int)))) (((y).2 (72)) ((y).1 (w1) 1).toNat) (((y).2 (71)) (((y).1 (70) 4) - ((1 : Int))).toNat)).1)
          · rw [if_pos hc]
            by_cases hc : ((F_w_push (kS (y) (70) 4 (((y).1 (70) 4) - ((1 : Int)))) (w1) (((y).2 (71)) (((y).1 (70) 4) - ((1 : Int))).toNat)).1) = (0)
            · rw [if_pos hc]
              exact (km_tr (km_s (List.Mem.head _) (km_rf _ _ _)) (km_mono (km1 (List.Mem.tail _ (List.Mem.head _)) km0) (km1 (List.Mem.head _) km0) (F_w_push_fr (kS (y) (70) 4 (((y).1 (70) 4) - ((1 : Int)))) (w1) (((y).2 (71)) (((y).1 (70) 4) - ((1 : Int))).toNat))))
            · rw [if_neg hc]
              by_cases hc : ((F_a_step (kS (y) (70) 4 (((y).1 (70) 4) - ((1 : Int)))) (((y).2 (72)) ((y).1 (w1) 1).toNat) (((y).2 (71)) (((y).1 (70) 4) - ((1 : Int))).toNat)).1) < (0)
              · rw [if_pos hc]
                exact km_tr ((km_tr (km_s (List.Mem.head _) (km_rf _ _ _)) (km_mono (km1 (List.Mem.tail _ (List.Mem.head _)) km0) (km1 (List.Mem.head _) km0) (F_w_push_fr (kS (y) (70) 4 (((y).1 (70) 4) - ((1 : Int)))) (w1) (((y).2 (71)) (((y).1 (70) 4) - ((1 : Int))).toNat))))) (ih ((F_w_push (kS (y) (70) 4 (((y).1 (70) 4) - ((1 : Int)))) (w1) (((y).2 (71)) (((y).1 (70) 4) - ((1 : Int))).toNat)).2) ((d) + (1 : Int)))
              · rw [if_neg hc]
                exact km_tr ((km_a (List.Mem.tail _ (List.Mem.head _)) (km_tr (km_s (List.Mem.head _) (km_rf _ _ _)) (km_mono (km1 (List.Mem.tail _ (List.Mem.head _)) km0) (km1 (List.Mem.head _) km0) (F_w_push_fr (kS (y) (70) 4 (((y).1 (70) 4) - ((1 : Int)))) (w1) (((y).2 (71)) (((y).1 (70) 4) - ((1 : Int))).toNat)))))) (ih (kA ((F_w_push (kS (y) (70) 4 (((y).1 (70) 4) - ((1 : Int)))) (w1) (((y).2 (71)) (((y).1 (70) 4) - ((1 : Int))).toNat)).2) (72) (((F_w_push (kS (y) (70) 4 (((y).1 (70) 4) - ((1 : Int)))) (w1) (((y).2 (71)) (((y).1 (70) 4) - ((1 : Int))).toNat)).2).1 (w1) 1).toNat ((F_a_step (kS (y) (70) 4 (((y).1 (70) 4) - ((1 : Int)))) (((y).2 (72)) ((y).1 (w1) 1).toNat) (((y).2 (71)) (((y).1 (70) 4) - ((1 : Int))).toNat)).1)) ((d) + (1 : Int)))
          · rw [if_neg hc]
            by_cases hc : ((F_r_replace (kS (y) (70) 4 (((y).1 (70) 4) - ((1 : Int)))) (w1) (((-1 : Int)) - ((F_a_step (kS (y) (70) 4 (((y).1 (70) 4) - ((1 : Int)))) (((y).2 (72)) ((y).1 (w1) 1).toNat) (((y).2 (71)) (((y).1 (70) 4) - ((1 : Int))).toNat)).1))).1) = (0)
            · rw [if_pos hc]
              exact (km_tr (km_s (List.Mem.head _) (km_rf _ _ _)) (km_mono (km1 (List.Mem.head _) (km1 (List.Mem.tail _ (List.Mem.head _)) km0)) (km1 (List.Mem.tail _ (List.Mem.tail _ (List.Mem.head _))) km0) (F_r_replace_fr (kS (y) (70) 4 (((y).1 (70) 4) - ((1 : Int)))) (w1) (((-1 : Int)) - ((F_a_step (kS (y) (70) 4 (((y).1 (70) 4) - ((1 : Int)))) (((y).2 (72)) ((y).1 (w1) 1).toNat) (((y).2 (71)) (((y).1 (70) 4) - ((1 : Int))).toNat)).1)))))
            · rw [if_neg hc]
              by_cases hc : ((F_a_step (kS (y) (70) 4 (((y).1 (70) 4) - ((1 : Int)))) (((y).2 (72)) ((y).1 (w1) 1).toNat) (((y).2 (71)) (((y).1 (70) 4) - ((1 : Int))).toNat)).1) < (0)
              · rw [if_pos hc]
                exact km_tr ((km_tr (km_s (List.Mem.head _) (km_rf _ _ _)) (km_mono (km1 (List.Mem.head _) (km1 (List.Mem.tail _ (List.Mem.head _)) km0)) (km1 (List.Mem.tail _ (List.Mem.tail _ (List.Mem.head _))) km0) (F_r_replace_fr (kS (y) (70) 4 (((y).1 (70) 4) - ((1 : Int)))) (w1) (((-1 : Int)) - ((F_a_step (kS (y) (70) 4 (((y).1 (70) 4) - ((1 : Int)))) (((y).2 (72)) ((y).1 (w1) 1).toNat) (((y).2 (71)) (((y).1 (70) 4) - ((1 : Int))).toNat)).1)))))) (ih ((F_r_replace (kS (y) (70) 4 (((y).1 (70) 4) - ((1 : Int)))) (w1) (((-1 : Int)) - ((F_a_step (kS (y) (70) 4 (((y).1 (70) 4) - ((1 : Int)))) (((y).2 (72)) ((y).1 (w1) 1).toNat) (((y).2 (71)) (((y).1 (70) 4) - ((1 : Int))).toNat)).1))).2) ((d) + (1 : Int)))
              · rw [if_neg hc]
                exact km_tr ((km_a (List.Mem.tail _ (List.Mem.head _)) (km_tr (km_s (List.Mem.head _) (km_rf _ _ _)) (km_mono (km1 (List.Mem.head _) (km1 (List.Mem.tail _ (List.Mem.head _)) km0)) (km1 (List.Mem.tail _ (List.Mem.tail _ (List.Mem.head _))) km0) (F_r_replace_fr (kS (y) (70) 4 (((y).1 (70) 4) - ((1 : Int)))) (w1) (((-1 : Int)) - ((F_a_step (kS (y) (70) 4 (((y).1 (70) 4) - ((1 : Int)))) (((y).2 (72)) ((y).1 (w1) 1).toNat) (((y).2 (71)) (((y).1 (70) 4) - ((1 : Int))).toNat)).1))))))) (ih (kA ((F_r_replace (kS (y) (70) 4 (((y).1 (70) 4) - ((1 : Int)))) (w1) (((-1 : Int)) - ((F_a_step (kS (y) (70) 4 (((y).1 (70) 4) - ((1 : Int)))) (((y).2 (72)) ((y).1 (w1) 1).toNat) (((y).2 (71)) (((y).1 (70) 4) - ((1 : Int))).toNat)).1))).2) (72) (((F_r_replace (kS (y) (70) 4 (((y).1 (70) 4) - ((1 : Int)))) (w1) (((-1 : Int)) - ((F_a_step (kS (y) (70) 4 (((y).1 (70) 4) - ((1 : Int)))) (((y).2 (72)) ((y).1 (w1) 1).toNat) (((y).2 (71)) (((y).1 (70) 4) - ((1 : Int))).toNat)).1))).2).1 (w1) 1).toNat ((F_a_step (kS (y) (70) 4 (((y).1 (70) 4) - ((1 : Int)))) (((y).2 (72)) ((y).1 (w1) 1).toNat) (((y).2 (71)) (((y).1 (70) 4) - ((1 : Int))).toNat)).1)) ((d) + (1 : Int)))
theorem F_r_readOn_fr (x : KS) (w1 : Nat) : ksame [(70, 4), (w1, 1)] [(w1) + 1, 72, 71] x (F_r_readOn x w1).2 := by
  unfold F_r_readOn
  exact km_tr ((km_rf _ _ _)) ((F_r_readOn_sfr w1 (20010)) (x) ((0 : Int)))
theorem F_r_readOn_q (x : KS) (w1 : Nat) (hw_w1 : kW w1 = true) : kq [70] [72, 71] x (F_r_readOn x w1).2 := kq_of (F_r_readOn_fr x w1) (kq_c (Or.inr (by decide)) (kq_c (Or.inl hw_w1) kq_m)) (kq_c (Or.inl hw_w1) (kq_c (Or.inr (by decide)) (kq_c (Or.inr (by decide)) kq_n)))
def F_r_putRestBack_s (w1 : Nat) : Nat → Nat → KS → Int → Int × KS
  | 0, _, x, _ => (0, x)
  | n + 1, t, x, p0 => match t with
    | 0 => (fun (i : Int) => (if (i) < (0) then ((1 : Int), x) else (if ((F_w_push (x) (w1) (((x).2 (71)) (i).toNat)).1) = (0) then ((0 : Int), (F_w_push (x) (w1) (((x).2 (71)) (i).toNat)).2) else F_r_putRestBack_s w1 n 0 ((F_w_push (x) (w1) (((x).2 (71)) (i).toNat)).2) ((i) + (-1 : Int))))) p0
    | _ => (0, x)
theorem F_r_putRestBack_e0 (w1 : Nat) (n : Nat) (x : KS) (i : Int) : F_r_putRestBack_s w1 (n + 1) 0 x i = (if (i) < (0) then ((1 : Int), x) else (if ((F_w_push (x) (w1) (((x).2 (71)) (i).toNat)).1) = (0) then ((0 : Int), (F_w_push (x) (w1) (((x).2 (71)) (i).toNat)).2) else F_r_putRestBack_s w1 n 0 ((F_w_push (x) (w1) (((x).2 (71)) (i).toNat)).2) ((i) + (-1 : Int)))) := rfl
def F_r_putRestBack (x : KS) (w1 : Nat) : Int × KS := F_r_putRestBack_s w1 70 0 (x) (((x).1 (70) 4) - ((1 : Int)))
set_option maxHeartbeats 4000000 in
set_option maxRecDepth 100000 in
/-- LikeWords$Rewriter, putRestBack -/
theorem c_r_putRestBack (l : Launch) (dC : Nat → ClassId) (dI : Nat → Nat → Nat) (ad : Nat → Nat) (cI cJ cZ cR : ClassId) (M wl sz : Nat) (x : KS) (w1 : Nat) (hM : 87 ≤ M) (hw_w1 : kW w1 = true) (hc_w1 : w1 + 1 < M) (wi : rwI x w1) : Met l yX6_putRestBack wsX6_putRestBack ({ frames := 1, cells := 0, slots := 0, locals := 21 }) (kPc dC dI ad cI cJ cZ cR M wl sz x [.ref (ad 70), .ref (ad w1)]) (va_Qi (fun (r : Int32) (u : KS) => r = iI (F_r_putRestBack x w1).1 ∧ u = (F_r_putRestBack x w1).2) (kAt dC dI ad cI cJ cZ cR M wl (va_A (kWd cI cJ cZ cR wl ad M (x)) sz)) (va_A (kWd cI cJ cZ cR wl ad M (x)) sz)) 0 0 (va_A (kWd cI cJ cZ cR wl ad M (x)) sz) := by
  refine Met.ofW (cc := cX6_putRestBack) (maxL := 3) (ret := (some .boolean)) (by decide) rfl ?_
  intro p e s m args below meth c s₁ B hml hv
  obtain ⟨rfl, hsz, hP, hK, hD0, hNw⟩ := hv
  have hx := B.exec
  have hb := B.bytes
  have hr := B.returns
  have hts := atoms_spec (ws := wsX6_putRestBack) B.pre
  have hown : s.vm.findClass RX6 = some m.cls := findClass_of_methodNamed B.named
  have hlocks := B.notSynchronized
  have hinX6 : ∀ w ∈ u_ws RX6 TX6 6, w ∈ wsX6_putRestBack := by decide +kernel
  subst hsz
  have hD := hD0.self (sz := s.heap.size)
  generalize hAe : va_A (kWd cI cJ cZ cR wl ad M (x)) s.heap.size = A at hD ⊢
  have hA : ∀ q : Nat, s.heap.size ≤ q → A q := fun q h => by rw [← hAe]; exact Or.inr h
  have hS : va_S A s.heap s.heap [] := va_S.rf
  have hl := lv_entry ([.ref (ad 70), .ref (ad w1)]) (n := 3) (Nat.le_of_ble_eq_true rfl)
  rw [lg_entry_eq]
  generalize (lg_sl ([.ref (ad 70), .ref (ad w1)]) ++ List.replicate (3 - (lg_sl ([.ref (ad 70), .ref (ad w1)])).length) Slot.unset).toArray = ls at hl ⊢
  have hl : lv_has ls 3 [(0, .ref (ad (70))), (1, .ref (ad (w1)))] := hl
  have k61 := kL_le w1
  obtain ⟨⟨u0, u1⟩, ⟨q0, q1⟩, rp, rs9⟩ := id wi
  have L : ∀ n : Nat, (∀ (y : KS) (i : Int), (0 ≤ y.1 w1 1) → (y.1 w1 1 ≤ kL w1) → (-1 ≤ i) → (i < 60) → (i + 1 < n) → F_r_putRestBack_s w1 n 0 y i = F_r_putRestBack x w1 → ∀ (H : Heap) (locs : List Loc) (ls : Array Slot), va_P (dC, dI) vwCl (kWd cI cJ cZ cR wl ad M (y)) H → va_D A (kWd cI cJ cZ cR wl ad M (y)) → va_S A s.heap H locs → lv_has ls 3 [(0, .ref (ad (70))), (1, .ref (ad (w1))), (2, .int (iI (i)))] → W p l e (headSpec wsX6_putRestBack ({ frames := 1, cells := 0, slots := 0, locals := 21 })).room s m ([.ref (ad 70), .ref (ad w1)] : List Value).toArray below meth c H locs 0 0 (MQ below (va_Qi (fun (r : Int32) (u : KS) => r = iI (F_r_putRestBack x w1).1 ∧ u = (F_r_putRestBack x w1).2) (kAt dC dI ad cI cJ cZ cR M wl A) A) ([.ref (ad 70), .ref (ad w1)] : List Value).toArray s 0 0 A) (F0 m 7 ls [])) := by
    intro n
    induction n with
    | zero =>
      skip
      · intro y i y0 y1 i0 i1 fu hres
        exact absurd fu (by omega)
    | succ n ih =>
      skip
      · intro y i y0 y1 i0 i1 fu hres H locs ls hP hD hS hl
        rw [F_r_putRestBack_e0] at hres
        refine lv_iload_n hx hb dX6_putRestBack_7 rfl (lv_at hl 2 rfl) ?_
        refine wi_if_lt (tgt := 32) hx hb (by first | assumption | (unfold iR; omega) | exact kR01 (by assumption)) dX6_putRestBack_8 (by decide) (fun c_8 => ?_) (fun c_8 => ?_)
        · skip
          rw [if_pos c_8] at hres
          refine lv_iconst (v := iI (1 : Int)) hx hb dX6_putRestBack_32 (by decide) ?_
          exact W.zret (v := iI ((1 : Int))) hx hb hr (kz _ (by first | assumption | omega)) (fun t ht hW => ⟨⟨iI ((1 : Int)), y, rfl, ⟨(by have h9 := congrArg (fun z : Int × KS => iI z.1) hres; exact h9), (by have h9 := congrArg (fun z : Int × KS => z.2) hres; exact h9)⟩, by rw [ht]; exact hP, va_K.moved hW.alike hK, hD⟩, hS.F ht⟩) hS.2.2 dX6_putRestBack_33
        · skip
          rw [if_neg c_8] at hres
          refine lv_aload_n hx hb dX6_putRestBack_11 rfl (lv_at hl 1 rfl) ?_
          refine lv_aload_n hx hb dX6_putRestBack_12 rfl (lv_at hl 0 rfl) ?_
          refine va_get (D := (dC, dI)) (ci := 6) (v := .ref (ad (71))) (C := RX6) (T := TX6) (N := 6) hx hb hts hinX6 hown hK hP (70) (kg70 (by omega)) rfl 2 (by decide) (hts (.fieldLink RX6 19 "LikeWords$Rewriter" "rest" "[I") (by decide +kernel)) (fun _ h9 => h9) rfl dX6_putRestBack_13 ?_
          refine lv_iload_n hx hb dX6_putRestBack_16 rfl (lv_at hl 2 rfl) ?_
          refine wi_iald (f := (y).2 (71)) (n := kLen (71)) hx hb hK hP (71) 0 (kgi kC71 (by omega) rfl) rfl (i := i) (by omega) (by show _ < ((60 : Nat) : Int); exact (by omega)) (kLen_lt _) dX6_putRestBack_17 ?_
          have hFc : ∀ q, va_A (kWd cI cJ cZ cR wl ad M (y)) H.size q → A q := fun q hq => Or.elim hq (fun ⟨k, e, hk⟩ => hD.2 k (q, e) hk) (fun hk => hA q (Nat.le_trans hS.1 hk))
          refine va_calli (va_runV (b := ad (w1)) (As := [.int (iI (((y).2 (71)) (i).toNat))]) (rest := []) ⟨hx, hb, hml, hown, hts⟩ (c_w_push l dC dI ad cI cJ cZ cR M wl H.size (y) (w1) (((y).2 (71)) (i).toNat) hM hw_w1 (by omega) y0 y1) (cwV 1 hts gX6_putRestBack_X10_push rfl rfl rfl (by decide +kernel) ⟨Nat.le_of_ble_eq_true rfl, Nat.le_of_ble_eq_true rfl⟩) ⟨fun a U g mk q => by obtain ⟨q0, q1, qP, qK, qD, qN⟩ := q; exact ⟨q0, q1, qP, va_K.moved (u := U) (U := U.calling g mk a) (Vm.Alike.refl U.vm) qK, qD, kNw.same (u := U) (U := U.calling g mk a) rfl qN⟩, va_recv hK hP (ci := 10) (q0 := w1) rfl (kgw hw_w1 (by omega)), fun U hU hW => ⟨rfl, by rw [hU], by rw [hU]; exact hP, va_K.moved hW.alike hK, hD.weaken (fun _ _ _ _ => trivial), kNw.warm hW hNw⟩⟩ rfl rfl hl.1 rfl (lv_room (Nat.le_of_ble_eq_true rfl)) dX6_putRestBack_18 ⟨Nat.le_of_ble_eq_true rfl, Nat.le_of_ble_eq_true rfl⟩) hS (fun q _ h => hFc q h) hFc (fun r9 u9 t H1 locs ht hvm hw hB hz1 hk1 hS => ?_)
          obtain ⟨hP1, hK1, hD1⟩ := hB
          rw [ht] at hP1
          obtain ⟨hw1, hw2⟩ := hw
          rw [hw2] at hP1 hD1
          rw [hw1]
          have hD2 := hD1.weaken (B := A) (fun _ q _ h => hFc q.1 h)
          have hP := hP1
          have hD := hD2
          generalize H1 = H at hP hS ⊢
          refine wi_if_ne (tgt := 26) hx hb (kR01 (F_w_push_01 _ _ _)) dX6_putRestBack_21 (by decide) (fun c_21 => ?_) (fun c_21 => ?_)
          · skip
            rw [if_neg c_21] at hres
            refine lv_iinc (v := iI ((i) + (-1 : Int))) (lv' := [(2, .int (iI ((i) + (-1 : Int)))), (0, .ref (ad (70))), (1, .ref (ad (w1)))]) hx hb dX6_putRestBack_26 hl (k := 2) rfl (iI_add _ _) (by decide) rfl (fun ls hl => ?_)
            refine lv_goto (tgt := 7) hx hb dX6_putRestBack_29 (by decide) ?_
            exact ih ((F_w_push (y) (w1) (((y).2 (71)) (i).toNat)).2) ((i) + (-1 : Int)) ((F_w_push_b hw_w1 y0 y1).1) ((F_w_push_b hw_w1 y0 y1).2) (by omega) (by omega) (by omega) hres _ _ ls hP hD hS (lv_sub hl [1, 2, 0] rfl)
          · skip
            rw [if_pos c_21] at hres
            refine lv_iconst (v := iI (0 : Int)) hx hb dX6_putRestBack_24 (by decide) ?_
            exact W.zret (v := iI ((0 : Int))) hx hb hr (kz _ (by first | assumption | omega)) (fun t ht hW => ⟨⟨iI ((0 : Int)), (F_w_push (y) (w1) (((y).2 (71)) (i).toNat)).2, rfl, ⟨(by have h9 := congrArg (fun z : Int × KS => iI z.1) hres; exact h9), (by have h9 := congrArg (fun z : Int × KS => z.2) hres; exact h9)⟩, by rw [ht]; exact hP, va_K.moved hW.alike hK, hD⟩, hS.F ht⟩) hS.2.2 dX6_putRestBack_25
  have key : ∀ (H : Heap) (locs : List Loc), va_P (dC, dI) vwCl (kWd cI cJ cZ cR wl ad M (x)) H → va_S A s.heap H locs → W p l e (headSpec wsX6_putRestBack ({ frames := 1, cells := 0, slots := 0, locals := 21 })).room s m ([.ref (ad 70), .ref (ad w1)] : List Value).toArray below meth c H locs 0 0 (MQ below (va_Qi (fun (r : Int32) (u : KS) => r = iI (F_r_putRestBack x w1).1 ∧ u = (F_r_putRestBack x w1).2) (kAt dC dI ad cI cJ cZ cR M wl A) A) ([.ref (ad 70), .ref (ad w1)] : List Value).toArray s 0 0 A) (F0 m 0 ls []) := by
    intro H locs hP hS
    have hres : F_r_putRestBack_s w1 70 0 (x) (((x).1 (70) 4) - ((1 : Int))) = F_r_putRestBack x w1 := rfl
    refine lv_aload_n hx hb dX6_putRestBack_0 rfl (lv_at hl 0 rfl) ?_
    refine va_get (D := (dC, dI)) (ci := 6) (v := .int (iI ((x).1 (70) 4))) (C := RX6) (T := TX6) (N := 6) hx hb hts hinX6 hown hK hP (70) (kg70 (by omega)) rfl 4 (by decide) (hts (.fieldLink RX6 41 "LikeWords$Rewriter" "restUsed" "I") (by decide +kernel)) (fun _ h9 => h9) rfl dX6_putRestBack_1 ?_
    refine lv_iconst (v := iI (1 : Int)) hx hb dX6_putRestBack_4 (by decide) ?_
    refine wi_isub hx hb dX6_putRestBack_5 ?_
    refine lv_istore_n (lv' := [(2, .int (iI (((x).1 (70) 4) - ((1 : Int))))), (0, .ref (ad (70))), (1, .ref (ad (w1)))]) hx hb dX6_putRestBack_6 rfl hl (by decide) rfl (fun ls hl => ?_)
    exact (L (70)) (x) (((x).1 (70) 4) - ((1 : Int))) (u0) (u1) (by omega) (by omega) (by omega) hres _ _ ls hP hD hS (lv_sub hl [1, 2, 0] rfl)
  exact key _ _ hP hS
theorem F_r_putRestBack_sfr (w1 : Nat) : ∀ n : Nat, (∀ (y : KS) (v0 : Int), ksame [(w1, 1)] [(w1) + 1] y (F_r_putRestBack_s w1 n 0 y v0).2) := by
  intro n
  induction n with
  | zero => exact fun y _ => km_rf _ _ _
  | succ n ih =>
    skip
    · intro y i
      rw [F_r_putRestBack_e0]
      by_cases hc : (i) < (0)
      · rw [if_pos hc]
        exact (km_rf _ _ _)
      · rw [if_neg hc]
        by_cases hc : ((F_w_push (y) (w1) (((y).2 (71)) (i).toNat)).1) = (0)
        · rw [if_pos hc]
          exact (km_tr (km_rf _ _ _) (km_mono (km1 (List.Mem.head _) km0) (km1 (List.Mem.head _) km0) (F_w_push_fr (y) (w1) (((y).2 (71)) (i).toNat))))
        · rw [if_neg hc]
          exact km_tr ((km_tr (km_rf _ _ _) (km_mono (km1 (List.Mem.head _) km0) (km1 (List.Mem.head _) km0) (F_w_push_fr (y) (w1) (((y).2 (71)) (i).toNat))))) (ih ((F_w_push (y) (w1) (((y).2 (71)) (i).toNat)).2) ((i) + (-1 : Int)))
theorem F_r_putRestBack_fr (x : KS) (w1 : Nat) : ksame [(w1, 1)] [(w1) + 1] x (F_r_putRestBack x w1).2 := by
  unfold F_r_putRestBack
  exact km_tr ((km_rf _ _ _)) ((F_r_putRestBack_sfr w1 (70)) (x) (((x).1 (70) 4) - ((1 : Int))))
theorem F_r_putRestBack_q (x : KS) (w1 : Nat) (hw_w1 : kW w1 = true) : kq [] [] x (F_r_putRestBack x w1).2 := kq_of (F_r_putRestBack_fr x w1) (kq_c (Or.inl hw_w1) kq_m) (kq_c (Or.inl hw_w1) kq_n)
