-- deps: 30 31 32 33 34 35 36 37 38 39 40 41 42 43 45
def F_r_forget (x : KS)  : Int × KS := (if ((x).1 (70) 5) = (0) then (0, x) else (0, (F_k_wipe (x)).2))
set_option maxHeartbeats 4000000 in
set_option maxRecDepth 100000 in
/-- LikeWords$Rewriter, forget -/
theorem c_r_forget (l : Launch) (dC : Nat → ClassId) (dI : Nat → Nat → Nat) (ad : Nat → Nat) (cI cJ cZ cR : ClassId) (M wl sz : Nat) (x : KS)  (hM : 87 ≤ M) (gM : ¬ x.1 70 5 = 0 → 106 ≤ M) (kn : ¬ x.1 70 5 = 0 → knR x wl) (e01 : x.1 101 4 = 0 ∨ x.1 101 4 = 1) : Met l yX6_forget wsX6_forget ({ frames := 1, cells := 0, slots := 0, locals := 21 }) (kPc dC dI ad cI cJ cZ cR M wl sz x [.ref (ad 70)]) (va_Qv (fun u : KS => u = (F_r_forget x).2) (kAt dC dI ad cI cJ cZ cR M wl (va_A (kWd cI cJ cZ cR wl ad M (x)) sz)) (va_A (kWd cI cJ cZ cR wl ad M (x)) sz)) 0 0 (va_A (kWd cI cJ cZ cR wl ad M (x)) sz) := by
  refine Met.ofW (cc := cX6_forget) (maxL := 1) (ret := none) (by decide) rfl ?_
  intro p e s m args below meth c s₁ B hml hv
  obtain ⟨rfl, hsz, hP, hK, hD0, hNw⟩ := hv
  have hx := B.exec
  have hb := B.bytes
  have hr := B.returns
  have hts := atoms_spec (ws := wsX6_forget) B.pre
  have hown : s.vm.findClass RX6 = some m.cls := findClass_of_methodNamed B.named
  have hlocks := B.notSynchronized
  have hinX0 : ∀ w ∈ u_ws RX0 TX0 15, w ∈ wsX6_forget := by decide +kernel
  have hinX6 : ∀ w ∈ u_ws RX6 TX6 6, w ∈ wsX6_forget := by decide +kernel
  subst hsz
  have hD := hD0.self (sz := s.heap.size)
  generalize hAe : va_A (kWd cI cJ cZ cR wl ad M (x)) s.heap.size = A at hD ⊢
  have hA : ∀ q : Nat, s.heap.size ≤ q → A q := fun q h => by rw [← hAe]; exact Or.inr h
  have hS : va_S A s.heap s.heap [] := va_S.rf
  have hl := lv_entry ([.ref (ad 70)]) (n := 1) (Nat.le_of_ble_eq_true rfl)
  rw [lg_entry_eq]
  generalize (lg_sl ([.ref (ad 70)]) ++ List.replicate (1 - (lg_sl ([.ref (ad 70)])).length) Slot.unset).toArray = ls at hl ⊢
  have hl : lv_has ls 1 [(0, .ref (ad (70)))] := hl
  have key : ∀ (H : Heap) (locs : List Loc), va_P (dC, dI) vwCl (kWd cI cJ cZ cR wl ad M (x)) H → va_S A s.heap H locs → W p l e (headSpec wsX6_forget ({ frames := 1, cells := 0, slots := 0, locals := 21 })).room s m ([.ref (ad 70)] : List Value).toArray below meth c H locs 0 0 (MQ below (va_Qv (fun u : KS => u = (F_r_forget x).2) (kAt dC dI ad cI cJ cZ cR M wl A) A) ([.ref (ad 70)] : List Value).toArray s 0 0 A) (F0 m 0 ls []) := by
    intro H locs hP hS
    have hres : (if ((x).1 (70) 5) = (0) then (0, x) else (0, (F_k_wipe (x)).2)) = F_r_forget x := rfl
    refine lv_aload_n hx hb dX6_forget_0 rfl (lv_at hl 0 rfl) ?_
    refine va_get (D := (dC, dI)) (ci := 6) (v := (if ((x).1 (70) 5) = 0 then Value.null else Value.ref (ad 87))) (C := RX6) (T := TX6) (N := 6) hx hb hts hinX6 hown hK hP (70) (kg70 (by omega)) rfl 5 (by decide) (hts (.fieldLink RX6 26 "LikeWords$Rewriter" "grower" "LLikeWords$Grower;") (by decide +kernel)) (fun _ h9 => h9) rfl dX6_forget_1 ?_
    refine wk_ifnull (tgt := 17) hx hb dX6_forget_4 (by decide) (fun c_4 => ?_) (fun c_4 => ?_)
    · skip
      rw [if_pos c_4] at hres
      exact W.vret hx hb hr (fun t ht hW => ⟨⟨x, rfl, (by have h9 := congrArg (fun z : Int × KS => z.2) hres; exact h9), by rw [ht]; exact hP, va_K.moved hW.alike hK, hD⟩, hS.F ht⟩) hS.2.2 dX6_forget_17
    · skip
      rw [if_neg c_4] at hres
      have hG := gM c_4
      refine lv_aload_n hx hb dX6_forget_7 rfl (lv_at hl 0 rfl) ?_
      refine va_get (D := (dC, dI)) (ci := 6) (v := (if ((x).1 (70) 5) = 0 then Value.null else Value.ref (ad 87))) (C := RX6) (T := TX6) (N := 6) hx hb hts hinX6 hown hK hP (70) (kg70 (by omega)) rfl 5 (by decide) (hts (.fieldLink RX6 26 "LikeWords$Rewriter" "grower" "LLikeWords$Grower;") (by decide +kernel)) (fun _ h9 => h9) rfl dX6_forget_8 ?_
      rw [if_neg c_4]
      refine va_get (D := (dC, dI)) (ci := 0) (v := .ref (ad (101))) (C := RX0) (T := TX0) (N := 15) hx hb hts hinX0 hown hK hP (87) (kg87 (by omega)) rfl 14 (by decide) (hts (.fieldLink RX6 30 "LikeWords$Grower" "known" "LLikeWords$Known;") (by decide +kernel)) (fun _ h9 => h9) rfl dX6_forget_11 ?_
      have hFc : ∀ q, va_A (kWd cI cJ cZ cR wl ad M (x)) H.size q → A q := fun q hq => Or.elim hq (fun ⟨k, e, hk⟩ => hD.2 k (q, e) hk) (fun hk => hA q (Nat.le_trans hS.1 hk))
      refine va_callv (va_runV (b := ad (101)) (As := []) (rest := []) ⟨hx, hb, hml, hown, hts⟩ (c_k_wipe l dC dI ad cI cJ cZ cR M wl H.size (x)   hM hG (kn c_4) e01) (cwV 0 hts gX6_forget_X2_wipe rfl rfl rfl (by decide +kernel) ⟨Nat.le_of_ble_eq_true rfl, Nat.le_of_ble_eq_true rfl⟩) ⟨fun a U g mk q => by obtain ⟨q0, q1, qP, qK, qD, qN⟩ := q; exact ⟨q0, q1, qP, va_K.moved (u := U) (U := U.calling g mk a) (Vm.Alike.refl U.vm) qK, qD, kNw.same (u := U) (U := U.calling g mk a) rfl qN⟩, va_recv hK hP (ci := 2) (q0 := 101) rfl (kg101 (by omega)), fun U hU hW => ⟨rfl, by rw [hU], by rw [hU]; exact hP, va_K.moved hW.alike hK, hD.weaken (fun _ _ _ _ => trivial), kNw.warm hW hNw⟩⟩ rfl rfl hl.1 rfl (lv_room (Nat.le_of_ble_eq_true rfl)) dX6_forget_14 ⟨Nat.le_of_ble_eq_true rfl, Nat.le_of_ble_eq_true rfl⟩) hS (fun q _ h => hFc q h) hFc (fun u9 t H1 locs ht hvm hw hB hz1 hk1 hS => ?_)
      obtain ⟨hP1, hK1, hD1⟩ := hB
      rw [ht] at hP1
      rw [hw] at hP1 hD1
      have hD2 := hD1.weaken (B := A) (fun _ q _ h => hFc q.1 h)
      have hP := hP1
      have hD := hD2
      generalize H1 = H at hP hS ⊢
      exact W.vret hx hb hr (fun t ht hW => ⟨⟨(F_k_wipe (x)).2, rfl, (by have h9 := congrArg (fun z : Int × KS => z.2) hres; exact h9), by rw [ht]; exact hP, va_K.moved hW.alike hK, hD⟩, hS.F ht⟩) hS.2.2 dX6_forget_17
  exact key _ _ hP hS
theorem F_r_forget_fr (x : KS)  : ksame [(101, 4)] [102] x (F_r_forget x).2 := by
  unfold F_r_forget
  by_cases hc : ((x).1 (70) 5) = (0)
  · rw [if_pos hc]
    exact (km_rf _ _ _)
  · rw [if_neg hc]
    exact (km_tr (km_rf _ _ _) (km_mono (km1 (List.Mem.head _) km0) (km1 (List.Mem.head _) km0) (F_k_wipe_fr (x))))
theorem F_r_forget_q (x : KS)   : kq [101] [102] x (F_r_forget x).2 := kq_of (F_r_forget_fr x) (kq_c (Or.inr (by decide)) kq_m) (kq_c (Or.inr (by decide)) kq_n)
theorem F_u_leftPart_RL (x : KS) (r f t : Int) : iRL (F_u_leftPart x r f t).1 := by
  unfold F_u_leftPart
  repeat' split
  all_goals first | exact iN_RL _ _ | exact ⟨by show _ ≤ (0 : Int); decide, by show (0 : Int) < _; decide⟩
/-- how many LETTERS a STRING has: as many as there is room for -/
def wUb (x : KS) (w : Nat) : Prop := 0 ≤ x.1 w 1 ∧ x.1 w 1 ≤ kL w
theorem wUb_wipe (x : KS) (w : Nat) : wUb (F_w_wipe x w).2 w := by
  have e : (F_w_wipe x w).2.1 w 1 = 0 := kS_s
  unfold wUb
  rw [e]
  omega
theorem F_u_copy_s_b {w : Nat} (hw : kW w = true) : ∀ (n : Nat) (y : KS) (r b f t i : Int), wUb y w → wUb (F_u_copy_s w n 0 y r b f t i).2 w := by
  intro n
  induction n with
  | zero => intro y r b f t i h; exact h
  | succ n ih =>
    intro y r b f t i h
    rw [F_u_copy_e0]
    split
    · exact h
    · exact ih _ _ _ _ _ _ (F_w_push_b hw h.1 h.2)
theorem F_u_copy_b {w : Nat} (hw : kW w = true) {x : KS} {r b f t : Int} (h : wUb x w) : wUb (F_u_copy x w r b f t).2 w := F_u_copy_s_b hw _ _ _ _ _ _ _ h
def F_p_meets (x : KS) (ra9 : Int) (qa9 : Int) (v : Int) : Int × KS := (if (iC ((F_u_leftPart (x) (ra9) (((F_u_spanOf (x) (ra9) ((1 : Int))).1) - (v)) ((F_u_spanOf (x) (ra9) ((1 : Int))).1)).1) ((F_u_leftPart (x) (qa9) ((0 : Int)) (v)).1)) = (0) then ((1 : Int), (F_u_copy ((F_u_copy ((F_w_wipe ((F_u_copy ((F_u_copy ((F_w_wipe (x) (73)).2) (73) (ra9) ((0 : Int)) ((0 : Int)) ((F_u_spanOf ((F_w_wipe (x) (73)).2) (ra9) ((0 : Int))).1)).2) (73) (qa9) ((1 : Int)) (v) ((F_u_spanOf ((F_u_copy ((F_w_wipe (x) (73)).2) (73) (ra9) ((0 : Int)) ((0 : Int)) ((F_u_spanOf ((F_w_wipe (x) (73)).2) (ra9) ((0 : Int))).1)).2) (qa9) ((1 : Int))).1)).2) (75)).2) (75) (ra9) ((1 : Int)) ((0 : Int)) (((F_u_spanOf (x) (ra9) ((1 : Int))).1) - (v))).2) (75) (qa9) ((0 : Int)) ((0 : Int)) ((F_u_spanOf ((F_u_copy ((F_w_wipe ((F_u_copy ((F_u_copy ((F_w_wipe (x) (73)).2) (73) (ra9) ((0 : Int)) ((0 : Int)) ((F_u_spanOf ((F_w_wipe (x) (73)).2) (ra9) ((0 : Int))).1)).2) (73) (qa9) ((1 : Int)) (v) ((F_u_spanOf ((F_u_copy ((F_w_wipe (x) (73)).2) (73) (ra9) ((0 : Int)) ((0 : Int)) ((F_u_spanOf ((F_w_wipe (x) (73)).2) (ra9) ((0 : Int))).1)).2) (qa9) ((1 : Int))).1)).2) (75)).2) (75) (ra9) ((1 : Int)) ((0 : Int)) (((F_u_spanOf (x) (ra9) ((1 : Int))).1) - (v))).2) (qa9) ((0 : Int))).1)).2) else ((0 : Int), x))
set_option maxHeartbeats 4000000 in
set_option maxRecDepth 100000 in
/-- LikeWords$Proof, meets -/
theorem c_p_meets (l : Launch) (dC : Nat → ClassId) (dI : Nat → Nat → Nat) (ad : Nat → Nat) (cI cJ cZ cR : ClassId) (M wl sz : Nat) (x : KS) (ra9 : Int) (qa9 : Int) (v : Int) (hM : 87 ≤ M) (ru : ruR x) (rr9 : iR ra9) (rq9 : iR qa9) (v0 : 0 ≤ v) (v1 : v ≤ 100) : Met l yX5_meets wsX5_meets ({ frames := 2, cells := 0, slots := 0, locals := 50 }) (kPc dC dI ad cI cJ cZ cR M wl sz x [.ref (ad 79), .int (iI ra9), .int (iI qa9), .int (iI v)]) (va_Qi (fun (r : Int32) (u : KS) => r = iI (F_p_meets x ra9 qa9 v).1 ∧ u = (F_p_meets x ra9 qa9 v).2) (kAt dC dI ad cI cJ cZ cR M wl (va_A (kWd cI cJ cZ cR wl ad M (x)) sz)) (va_A (kWd cI cJ cZ cR wl ad M (x)) sz)) 0 0 (va_A (kWd cI cJ cZ cR wl ad M (x)) sz) := by
  refine Met.ofW (cc := cX5_meets) (maxL := 5) (ret := (some .boolean)) (by decide) rfl ?_
  intro p e s m args below meth c s₁ B hml hv
  obtain ⟨rfl, hsz, hP, hK, hD0, hNw⟩ := hv
  have hx := B.exec
  have hb := B.bytes
  have hr := B.returns
  have hts := atoms_spec (ws := wsX5_meets) B.pre
  have hown : s.vm.findClass RX5 = some m.cls := findClass_of_methodNamed B.named
  have hlocks := B.notSynchronized
  have hinX5 : ∀ w ∈ u_ws RX5 TX5 4, w ∈ wsX5_meets := by decide +kernel
  subst hsz
  have hD := hD0.self (sz := s.heap.size)
  generalize hAe : va_A (kWd cI cJ cZ cR wl ad M (x)) s.heap.size = A at hD ⊢
  have hA : ∀ q : Nat, s.heap.size ≤ q → A q := fun q h => by rw [← hAe]; exact Or.inr h
  have hS : va_S A s.heap s.heap [] := va_S.rf
  have hl := lv_entry ([.ref (ad 79), .int (iI ra9), .int (iI qa9), .int (iI v)]) (n := 5) (Nat.le_of_ble_eq_true rfl)
  rw [lg_entry_eq]
  generalize (lg_sl ([.ref (ad 79), .int (iI ra9), .int (iI qa9), .int (iI v)]) ++ List.replicate (5 - (lg_sl ([.ref (ad 79), .int (iI ra9), .int (iI qa9), .int (iI v)])).length) Slot.unset).toArray = ls at hl ⊢
  have hl : lv_has ls 5 [(0, .ref (ad (79))), (1, .int (iI (ra9))), (2, .int (iI (qa9))), (3, .int (iI (v)))] := hl
  have sp1 := F_u_spanOf_b ru ra9 1
  have key : ∀ (H : Heap) (locs : List Loc), va_P (dC, dI) vwCl (kWd cI cJ cZ cR wl ad M (x)) H → va_S A s.heap H locs → W p l e (headSpec wsX5_meets ({ frames := 2, cells := 0, slots := 0, locals := 50 })).room s m ([.ref (ad 79), .int (iI ra9), .int (iI qa9), .int (iI v)] : List Value).toArray below meth c H locs 0 0 (MQ below (va_Qi (fun (r : Int32) (u : KS) => r = iI (F_p_meets x ra9 qa9 v).1 ∧ u = (F_p_meets x ra9 qa9 v).2) (kAt dC dI ad cI cJ cZ cR M wl A) A) ([.ref (ad 79), .int (iI ra9), .int (iI qa9), .int (iI v)] : List Value).toArray s 0 0 A) (F0 m 0 ls []) := by
    intro H locs hP hS
    have hres : (if (iC ((F_u_leftPart (x) (ra9) (((F_u_spanOf (x) (ra9) ((1 : Int))).1) - (v)) ((F_u_spanOf (x) (ra9) ((1 : Int))).1)).1) ((F_u_leftPart (x) (qa9) ((0 : Int)) (v)).1)) = (0) then ((1 : Int), (F_u_copy ((F_u_copy ((F_w_wipe ((F_u_copy ((F_u_copy ((F_w_wipe (x) (73)).2) (73) (ra9) ((0 : Int)) ((0 : Int)) ((F_u_spanOf ((F_w_wipe (x) (73)).2) (ra9) ((0 : Int))).1)).2) (73) (qa9) ((1 : Int)) (v) ((F_u_spanOf ((F_u_copy ((F_w_wipe (x) (73)).2) (73) (ra9) ((0 : Int)) ((0 : Int)) ((F_u_spanOf ((F_w_wipe (x) (73)).2) (ra9) ((0 : Int))).1)).2) (qa9) ((1 : Int))).1)).2) (75)).2) (75) (ra9) ((1 : Int)) ((0 : Int)) (((F_u_spanOf (x) (ra9) ((1 : Int))).1) - (v))).2) (75) (qa9) ((0 : Int)) ((0 : Int)) ((F_u_spanOf ((F_u_copy ((F_w_wipe ((F_u_copy ((F_u_copy ((F_w_wipe (x) (73)).2) (73) (ra9) ((0 : Int)) ((0 : Int)) ((F_u_spanOf ((F_w_wipe (x) (73)).2) (ra9) ((0 : Int))).1)).2) (73) (qa9) ((1 : Int)) (v) ((F_u_spanOf ((F_u_copy ((F_w_wipe (x) (73)).2) (73) (ra9) ((0 : Int)) ((0 : Int)) ((F_u_spanOf ((F_w_wipe (x) (73)).2) (ra9) ((0 : Int))).1)).2) (qa9) ((1 : Int))).1)).2) (75)).2) (75) (ra9) ((1 : Int)) ((0 : Int)) (((F_u_spanOf (x) (ra9) ((1 : Int))).1) - (v))).2) (qa9) ((0 : Int))).1)).2) else ((0 : Int), x)) = F_p_meets x ra9 qa9 v := rfl
    refine lv_aload_n hx hb dX5_meets_0 rfl (lv_at hl 0 rfl) ?_
    refine va_get (D := (dC, dI)) (ci := 5) (v := .ref (ad (58))) (C := RX5) (T := TX5) (N := 4) hx hb hts hinX5 hown hK hP (79) (kg79 (by omega)) rfl 0 (by decide) (hts (.fieldLink RX5 7 "LikeWords$Proof" "rules" "LLikeWords$Rules;") (by decide +kernel)) (fun _ h9 => h9) rfl dX5_meets_1 ?_
    refine lv_iload_n hx hb dX5_meets_4 rfl (lv_at hl 1 rfl) ?_
    refine lv_iconst (v := iI (1 : Int)) hx hb dX5_meets_5 (by decide) ?_
    have hFc : ∀ q, va_A (kWd cI cJ cZ cR wl ad M (x)) H.size q → A q := fun q hq => Or.elim hq (fun ⟨k, e, hk⟩ => hD.2 k (q, e) hk) (fun hk => hA q (Nat.le_trans hS.1 hk))
    refine va_calli (va_runV (b := ad (58)) (As := [.int (iI (ra9)), .int (iI ((1 : Int)))]) (rest := []) ⟨hx, hb, hml, hown, hts⟩ (c_u_spanOf l dC dI ad cI cJ cZ cR M wl H.size (x)  (ra9) ((1 : Int)) hM rr9 (Or.inr rfl)) (cwV 2 hts gX5_meets_X7_spanOf rfl rfl rfl (by decide +kernel) ⟨Nat.le_of_ble_eq_true rfl, Nat.le_of_ble_eq_true rfl⟩) ⟨fun a U g mk q => by obtain ⟨q0, q1, qP, qK, qD, qN⟩ := q; exact ⟨q0, q1, qP, va_K.moved (u := U) (U := U.calling g mk a) (Vm.Alike.refl U.vm) qK, qD, kNw.same (u := U) (U := U.calling g mk a) rfl qN⟩, va_recv hK hP (ci := 7) (q0 := 58) rfl (kg58 (by omega)), fun U hU hW => ⟨rfl, by rw [hU], by rw [hU]; exact hP, va_K.moved hW.alike hK, hD.weaken (fun _ _ _ _ => trivial), kNw.warm hW hNw⟩⟩ rfl rfl hl.1 rfl (lv_room (Nat.le_of_ble_eq_true rfl)) dX5_meets_6 ⟨Nat.le_of_ble_eq_true rfl, Nat.le_of_ble_eq_true rfl⟩) hS (fun q _ h => hFc q h) hFc (fun r9 u9 t H1 locs ht hvm hw hB hz1 hk1 hS => ?_)
    obtain ⟨hP1, hK1, hD1⟩ := hB
    rw [ht] at hP1
    obtain ⟨hw1, hw2⟩ := hw
    rw [hw2] at hP1 hD1
    rw [hw1]
    rw [F_u_spanOf_2] at hP1 hD1
    have hD2 := hD1.weaken (B := A) (fun _ q _ h => hFc q.1 h)
    have hP := hP1
    have hD := hD2
    generalize H1 = H at hP hS ⊢
    refine lv_istore (lv' := [(4, .int (iI ((F_u_spanOf (x) (ra9) ((1 : Int))).1))), (0, .ref (ad (79))), (1, .int (iI (ra9))), (2, .int (iI (qa9))), (3, .int (iI (v)))]) hx hb dX5_meets_9 hl (by decide) rfl (fun ls hl => ?_)
    refine lv_aload_n hx hb dX5_meets_11 rfl (lv_at hl 1 rfl) ?_
    refine va_get (D := (dC, dI)) (ci := 5) (v := .ref (ad (58))) (C := RX5) (T := TX5) (N := 4) hx hb hts hinX5 hown hK hP (79) (kg79 (by omega)) rfl 0 (by decide) (hts (.fieldLink RX5 7 "LikeWords$Proof" "rules" "LLikeWords$Rules;") (by decide +kernel)) (fun _ h9 => h9) rfl dX5_meets_12 ?_
    refine lv_iload_n hx hb dX5_meets_15 rfl (lv_at hl 2 rfl) ?_
    refine lv_iload hx hb dX5_meets_16 (lv_at hl 0 rfl) ?_
    refine lv_iload_n hx hb dX5_meets_18 rfl (lv_at hl 4 rfl) ?_
    refine wi_isub hx hb dX5_meets_19 ?_
    refine lv_iload hx hb dX5_meets_20 (lv_at hl 0 rfl) ?_
    have hFc : ∀ q, va_A (kWd cI cJ cZ cR wl ad M (x)) H.size q → A q := fun q hq => Or.elim hq (fun ⟨k, e, hk⟩ => hD.2 k (q, e) hk) (fun hk => hA q (Nat.le_trans hS.1 hk))
    refine va_calll (va_runV (b := ad (58)) (As := [.int (iI (ra9)), .int (iI (((F_u_spanOf (x) (ra9) ((1 : Int))).1) - (v))), .int (iI ((F_u_spanOf (x) (ra9) ((1 : Int))).1))]) (rest := []) ⟨hx, hb, hml, hown, hts⟩ (c_u_leftPart l dC dI ad cI cJ cZ cR M wl H.size (x)  (ra9) (((F_u_spanOf (x) (ra9) ((1 : Int))).1) - (v)) ((F_u_spanOf (x) (ra9) ((1 : Int))).1) hM rr9) (cwV 3 hts gX5_meets_X7_leftPart rfl rfl rfl (by decide +kernel) ⟨Nat.le_of_ble_eq_true rfl, Nat.le_of_ble_eq_true rfl⟩) ⟨fun a U g mk q => by obtain ⟨q0, q1, qP, qK, qD, qN⟩ := q; exact ⟨q0, q1, qP, va_K.moved (u := U) (U := U.calling g mk a) (Vm.Alike.refl U.vm) qK, qD, kNw.same (u := U) (U := U.calling g mk a) rfl qN⟩, va_recv hK hP (ci := 7) (q0 := 58) rfl (kg58 (by omega)), fun U hU hW => ⟨rfl, by rw [hU], by rw [hU]; exact hP, va_K.moved hW.alike hK, hD.weaken (fun _ _ _ _ => trivial), kNw.warm hW hNw⟩⟩ rfl rfl hl.1 rfl (lv_room (Nat.le_of_ble_eq_true rfl)) dX5_meets_22 ⟨Nat.le_of_ble_eq_true rfl, Nat.le_of_ble_eq_true rfl⟩) hS (fun q _ h => hFc q h) hFc (fun r9 u9 t H1 locs ht hvm hw hB hz1 hk1 hS => ?_)
    obtain ⟨hP1, hK1, hD1⟩ := hB
    rw [ht] at hP1
    obtain ⟨hw1, hw2⟩ := hw
    rw [hw2] at hP1 hD1
    rw [hw1]
    rw [F_u_leftPart_2] at hP1 hD1
    have hD2 := hD1.weaken (B := A) (fun _ q _ h => hFc q.1 h)
    have hP := hP1
    have hD := hD2
    generalize H1 = H at hP hS ⊢
    refine lv_aload_n hx hb dX5_meets_25 rfl (lv_at hl 1 rfl) ?_
    refine va_get (D := (dC, dI)) (ci := 5) (v := .ref (ad (58))) (C := RX5) (T := TX5) (N := 4) hx hb hts hinX5 hown hK hP (79) (kg79 (by omega)) rfl 0 (by decide) (hts (.fieldLink RX5 7 "LikeWords$Proof" "rules" "LLikeWords$Rules;") (by decide +kernel)) (fun _ h9 => h9) rfl dX5_meets_26 ?_
    refine lv_iload_n hx hb dX5_meets_29 rfl (lv_at hl 3 rfl) ?_
    refine lv_iconst (v := iI (0 : Int)) hx hb dX5_meets_30 (by decide) ?_
    refine lv_iload_n hx hb dX5_meets_31 rfl (lv_at hl 4 rfl) ?_
    have hFc : ∀ q, va_A (kWd cI cJ cZ cR wl ad M (x)) H.size q → A q := fun q hq => Or.elim hq (fun ⟨k, e, hk⟩ => hD.2 k (q, e) hk) (fun hk => hA q (Nat.le_trans hS.1 hk))
    refine va_calll (va_runV (b := ad (58)) (As := [.int (iI (qa9)), .int (iI ((0 : Int))), .int (iI (v))]) (rest := [.long (iL ((F_u_leftPart (x) (ra9) (((F_u_spanOf (x) (ra9) ((1 : Int))).1) - (v)) ((F_u_spanOf (x) (ra9) ((1 : Int))).1)).1))]) ⟨hx, hb, hml, hown, hts⟩ (c_u_leftPart l dC dI ad cI cJ cZ cR M wl H.size (x)  (qa9) ((0 : Int)) (v) hM rq9) (cwV 3 hts gX5_meets_X7_leftPart rfl rfl rfl (by decide +kernel) ⟨Nat.le_of_ble_eq_true rfl, Nat.le_of_ble_eq_true rfl⟩) ⟨fun a U g mk q => by obtain ⟨q0, q1, qP, qK, qD, qN⟩ := q; exact ⟨q0, q1, qP, va_K.moved (u := U) (U := U.calling g mk a) (Vm.Alike.refl U.vm) qK, qD, kNw.same (u := U) (U := U.calling g mk a) rfl qN⟩, va_recv hK hP (ci := 7) (q0 := 58) rfl (kg58 (by omega)), fun U hU hW => ⟨rfl, by rw [hU], by rw [hU]; exact hP, va_K.moved hW.alike hK, hD.weaken (fun _ _ _ _ => trivial), kNw.warm hW hNw⟩⟩ rfl rfl hl.1 rfl (lv_room (Nat.le_of_ble_eq_true rfl)) dX5_meets_32 ⟨Nat.le_of_ble_eq_true rfl, Nat.le_of_ble_eq_true rfl⟩) hS (fun q _ h => hFc q h) hFc (fun r9 u9 t H1 locs ht hvm hw hB hz1 hk1 hS => ?_)
    obtain ⟨hP1, hK1, hD1⟩ := hB
    rw [ht] at hP1
    obtain ⟨hw1, hw2⟩ := hw
    rw [hw2] at hP1 hD1
    rw [hw1]
    rw [F_u_leftPart_2] at hP1 hD1
    have hD2 := hD1.weaken (B := A) (fun _ q _ h => hFc q.1 h)
    have hP := hP1
    have hD := hD2
    generalize H1 = H at hP hS ⊢
    refine wi_lcmp hx hb (F_u_leftPart_RL _ _ _ _) (F_u_leftPart_RL _ _ _ _) dX5_meets_35 ?_
    refine wi_if_eq (tgt := 41) hx hb iC_R dX5_meets_36 (by decide) (fun c_36 => ?_) (fun c_36 => ?_)
    · skip
      rw [if_pos c_36] at hres
      refine lv_aload_n hx hb dX5_meets_41 rfl (lv_at hl 1 rfl) ?_
      refine va_get (D := (dC, dI)) (ci := 5) (v := .ref (ad (73))) (C := RX5) (T := TX5) (N := 4) hx hb hts hinX5 hown hK hP (79) (kg79 (by omega)) rfl 2 (by decide) (hts (.fieldLink RX5 17 "LikeWords$Proof" "one" "LLikeWords$Word;") (by decide +kernel)) (fun _ h9 => h9) rfl dX5_meets_42 ?_
      have hFc : ∀ q, va_A (kWd cI cJ cZ cR wl ad M (x)) H.size q → A q := fun q hq => Or.elim hq (fun ⟨k, e, hk⟩ => hD.2 k (q, e) hk) (fun hk => hA q (Nat.le_trans hS.1 hk))
      refine va_callv (va_runV (b := ad (73)) (As := []) (rest := []) ⟨hx, hb, hml, hown, hts⟩ (c_w_wipe l dC dI ad cI cJ cZ cR M wl H.size (x) (73)  hM rfl (by omega) ) (cwV 0 hts gX5_meets_X10_wipe rfl rfl rfl (by decide +kernel) ⟨Nat.le_of_ble_eq_true rfl, Nat.le_of_ble_eq_true rfl⟩) ⟨fun a U g mk q => by obtain ⟨q0, q1, qP, qK, qD, qN⟩ := q; exact ⟨q0, q1, qP, va_K.moved (u := U) (U := U.calling g mk a) (Vm.Alike.refl U.vm) qK, qD, kNw.same (u := U) (U := U.calling g mk a) rfl qN⟩, va_recv hK hP (ci := 10) (q0 := 73) rfl (kgw rfl (by omega)), fun U hU hW => ⟨rfl, by rw [hU], by rw [hU]; exact hP, va_K.moved hW.alike hK, hD.weaken (fun _ _ _ _ => trivial), kNw.warm hW hNw⟩⟩ rfl rfl hl.1 rfl (lv_room (Nat.le_of_ble_eq_true rfl)) dX5_meets_45 ⟨Nat.le_of_ble_eq_true rfl, Nat.le_of_ble_eq_true rfl⟩) hS (fun q _ h => hFc q h) hFc (fun u9 t H1 locs ht hvm hw hB hz1 hk1 hS => ?_)
      obtain ⟨hP1, hK1, hD1⟩ := hB
      rw [ht] at hP1
      rw [hw] at hP1 hD1
      have hD2 := hD1.weaken (B := A) (fun _ q _ h => hFc q.1 h)
      have hP := hP1
      have hD := hD2
      generalize H1 = H at hP hS ⊢
      refine lv_aload_n hx hb dX5_meets_48 rfl (lv_at hl 1 rfl) ?_
      refine va_get (D := (dC, dI)) (ci := 5) (v := .ref (ad (58))) (C := RX5) (T := TX5) (N := 4) hx hb hts hinX5 hown hK hP (79) (kg79 (by omega)) rfl 0 (by decide) (hts (.fieldLink RX5 7 "LikeWords$Proof" "rules" "LLikeWords$Rules;") (by decide +kernel)) (fun _ h9 => h9) rfl dX5_meets_49 ?_
      refine lv_iload_n hx hb dX5_meets_52 rfl (lv_at hl 2 rfl) ?_
      refine lv_iconst (v := iI (0 : Int)) hx hb dX5_meets_53 (by decide) ?_
      refine lv_iconst (v := iI (0 : Int)) hx hb dX5_meets_54 (by decide) ?_
      refine lv_aload_n hx hb dX5_meets_55 rfl (lv_at hl 1 rfl) ?_
      refine va_get (D := (dC, dI)) (ci := 5) (v := .ref (ad (58))) (C := RX5) (T := TX5) (N := 4) hx hb hts hinX5 hown hK hP (79) (kg79 (by omega)) rfl 0 (by decide) (hts (.fieldLink RX5 7 "LikeWords$Proof" "rules" "LLikeWords$Rules;") (by decide +kernel)) (fun _ h9 => h9) rfl dX5_meets_56 ?_
      refine lv_iload_n hx hb dX5_meets_59 rfl (lv_at hl 2 rfl) ?_
      refine lv_iconst (v := iI (0 : Int)) hx hb dX5_meets_60 (by decide) ?_
      have sq1 := F_u_spanOf_b (x := (F_w_wipe (x) (73)).2) (ruR_q (F_w_wipe_q _ _ rfl) ru) ra9 0
      have hFc : ∀ q, va_A (kWd cI cJ cZ cR wl ad M ((F_w_wipe (x) (73)).2)) H.size q → A q := fun q hq => Or.elim hq (fun ⟨k, e, hk⟩ => hD.2 k (q, e) hk) (fun hk => hA q (Nat.le_trans hS.1 hk))
      refine va_calli (va_runV (b := ad (58)) (As := [.int (iI (ra9)), .int (iI ((0 : Int)))]) (rest := [.int (iI ((0 : Int))), .int (iI ((0 : Int))), .int (iI (ra9)), .ref (ad (58))]) ⟨hx, hb, hml, hown, hts⟩ (c_u_spanOf l dC dI ad cI cJ cZ cR M wl H.size ((F_w_wipe (x) (73)).2)  (ra9) ((0 : Int)) hM rr9 (Or.inl rfl)) (cwV 2 hts gX5_meets_X7_spanOf rfl rfl rfl (by decide +kernel) ⟨Nat.le_of_ble_eq_true rfl, Nat.le_of_ble_eq_true rfl⟩) ⟨fun a U g mk q => by obtain ⟨q0, q1, qP, qK, qD, qN⟩ := q; exact ⟨q0, q1, qP, va_K.moved (u := U) (U := U.calling g mk a) (Vm.Alike.refl U.vm) qK, qD, kNw.same (u := U) (U := U.calling g mk a) rfl qN⟩, va_recv hK hP (ci := 7) (q0 := 58) rfl (kg58 (by omega)), fun U hU hW => ⟨rfl, by rw [hU], by rw [hU]; exact hP, va_K.moved hW.alike hK, hD.weaken (fun _ _ _ _ => trivial), kNw.warm hW hNw⟩⟩ rfl rfl hl.1 rfl (lv_room (Nat.le_of_ble_eq_true rfl)) dX5_meets_61 ⟨Nat.le_of_ble_eq_true rfl, Nat.le_of_ble_eq_true rfl⟩) hS (fun q _ h => hFc q h) hFc (fun r9 u9 t H1 locs ht hvm hw hB hz1 hk1 hS => ?_)
      obtain ⟨hP1, hK1, hD1⟩ := hB
      rw [ht] at hP1
      obtain ⟨hw1, hw2⟩ := hw
      rw [hw2] at hP1 hD1
      rw [hw1]
      rw [F_u_spanOf_2] at hP1 hD1
      have hD2 := hD1.weaken (B := A) (fun _ q _ h => hFc q.1 h)
      have hP := hP1
      have hD := hD2
      generalize H1 = H at hP hS ⊢
      refine lv_aload_n hx hb dX5_meets_64 rfl (lv_at hl 1 rfl) ?_
      refine va_get (D := (dC, dI)) (ci := 5) (v := .ref (ad (73))) (C := RX5) (T := TX5) (N := 4) hx hb hts hinX5 hown hK hP (79) (kg79 (by omega)) rfl 2 (by decide) (hts (.fieldLink RX5 17 "LikeWords$Proof" "one" "LLikeWords$Word;") (by decide +kernel)) (fun _ h9 => h9) rfl dX5_meets_65 ?_
      have hFc : ∀ q, va_A (kWd cI cJ cZ cR wl ad M ((F_w_wipe (x) (73)).2)) H.size q → A q := fun q hq => Or.elim hq (fun ⟨k, e, hk⟩ => hD.2 k (q, e) hk) (fun hk => hA q (Nat.le_trans hS.1 hk))
      refine va_callv (va_runV (b := ad (58)) (As := [.int (iI (ra9)), .int (iI ((0 : Int))), .int (iI ((0 : Int))), .int (iI ((F_u_spanOf ((F_w_wipe (x) (73)).2) (ra9) ((0 : Int))).1)), .ref (ad (73))]) (rest := []) ⟨hx, hb, hml, hown, hts⟩ (c_u_copy l dC dI ad cI cJ cZ cR M wl H.size ((F_w_wipe (x) (73)).2) (73) (ra9) ((0 : Int)) ((0 : Int)) ((F_u_spanOf ((F_w_wipe (x) (73)).2) (ra9) ((0 : Int))).1) hM rfl (by omega) rr9 (Or.inl rfl) (by omega) (by omega) (by omega) (by omega) (wUb_wipe _ _).1 (wUb_wipe _ _).2) (cwV 5 hts gX5_meets_X7_copy rfl rfl rfl (by decide +kernel) ⟨Nat.le_of_ble_eq_true rfl, Nat.le_of_ble_eq_true rfl⟩) ⟨fun a U g mk q => by obtain ⟨q0, q1, qP, qK, qD, qN⟩ := q; exact ⟨q0, q1, qP, va_K.moved (u := U) (U := U.calling g mk a) (Vm.Alike.refl U.vm) qK, qD, kNw.same (u := U) (U := U.calling g mk a) rfl qN⟩, va_recv hK hP (ci := 7) (q0 := 58) rfl (kg58 (by omega)), fun U hU hW => ⟨rfl, by rw [hU], by rw [hU]; exact hP, va_K.moved hW.alike hK, hD.weaken (fun _ _ _ _ => trivial), kNw.warm hW hNw⟩⟩ rfl rfl hl.1 rfl (lv_room (Nat.le_of_ble_eq_true rfl)) dX5_meets_68 ⟨Nat.le_of_ble_eq_true rfl, Nat.le_of_ble_eq_true rfl⟩) hS (fun q _ h => hFc q h) hFc (fun u9 t H1 locs ht hvm hw hB hz1 hk1 hS => ?_)
      obtain ⟨hP1, hK1, hD1⟩ := hB
      rw [ht] at hP1
      rw [hw] at hP1 hD1
      have hD2 := hD1.weaken (B := A) (fun _ q _ h => hFc q.1 h)
      have hP := hP1
      have hD := hD2
      generalize H1 = H at hP hS ⊢
      refine lv_aload_n hx hb dX5_meets_71 rfl (lv_at hl 1 rfl) ?_
      refine va_get (D := (dC, dI)) (ci := 5) (v := .ref (ad (58))) (C := RX5) (T := TX5) (N := 4) hx hb hts hinX5 hown hK hP (79) (kg79 (by omega)) rfl 0 (by decide) (hts (.fieldLink RX5 7 "LikeWords$Proof" "rules" "LLikeWords$Rules;") (by decide +kernel)) (fun _ h9 => h9) rfl dX5_meets_72 ?_
      refine lv_iload_n hx hb dX5_meets_75 rfl (lv_at hl 3 rfl) ?_
      refine lv_iconst (v := iI (1 : Int)) hx hb dX5_meets_76 (by decide) ?_
      refine lv_iload_n hx hb dX5_meets_77 rfl (lv_at hl 4 rfl) ?_
      refine lv_aload_n hx hb dX5_meets_78 rfl (lv_at hl 1 rfl) ?_
      refine va_get (D := (dC, dI)) (ci := 5) (v := .ref (ad (58))) (C := RX5) (T := TX5) (N := 4) hx hb hts hinX5 hown hK hP (79) (kg79 (by omega)) rfl 0 (by decide) (hts (.fieldLink RX5 7 "LikeWords$Proof" "rules" "LLikeWords$Rules;") (by decide +kernel)) (fun _ h9 => h9) rfl dX5_meets_79 ?_
      refine lv_iload_n hx hb dX5_meets_82 rfl (lv_at hl 3 rfl) ?_
      refine lv_iconst (v := iI (1 : Int)) hx hb dX5_meets_83 (by decide) ?_
      have sq2 := F_u_spanOf_b (x := (F_u_copy ((F_w_wipe (x) (73)).2) (73) (ra9) ((0 : Int)) ((0 : Int)) ((F_u_spanOf ((F_w_wipe (x) (73)).2) (ra9) ((0 : Int))).1)).2) (ruR_q (F_u_copy_q _ _ _ _ _ _ rfl) (ruR_q (F_w_wipe_q _ _ rfl) ru)) qa9 1
      have hFc : ∀ q, va_A (kWd cI cJ cZ cR wl ad M ((F_u_copy ((F_w_wipe (x) (73)).2) (73) (ra9) ((0 : Int)) ((0 : Int)) ((F_u_spanOf ((F_w_wipe (x) (73)).2) (ra9) ((0 : Int))).1)).2)) H.size q → A q := fun q hq => Or.elim hq (fun ⟨k, e, hk⟩ => hD.2 k (q, e) hk) (fun hk => hA q (Nat.le_trans hS.1 hk))
      refine va_calli (va_runV (b := ad (58)) (As := [.int (iI (qa9)), .int (iI ((1 : Int)))]) (rest := [.int (iI (v)), .int (iI ((1 : Int))), .int (iI (qa9)), .ref (ad (58))]) ⟨hx, hb, hml, hown, hts⟩ (c_u_spanOf l dC dI ad cI cJ cZ cR M wl H.size ((F_u_copy ((F_w_wipe (x) (73)).2) (73) (ra9) ((0 : Int)) ((0 : Int)) ((F_u_spanOf ((F_w_wipe (x) (73)).2) (ra9) ((0 : Int))).1)).2)  (qa9) ((1 : Int)) hM rq9 (Or.inr rfl)) (cwV 2 hts gX5_meets_X7_spanOf rfl rfl rfl (by decide +kernel) ⟨Nat.le_of_ble_eq_true rfl, Nat.le_of_ble_eq_true rfl⟩) ⟨fun a U g mk q => by obtain ⟨q0, q1, qP, qK, qD, qN⟩ := q; exact ⟨q0, q1, qP, va_K.moved (u := U) (U := U.calling g mk a) (Vm.Alike.refl U.vm) qK, qD, kNw.same (u := U) (U := U.calling g mk a) rfl qN⟩, va_recv hK hP (ci := 7) (q0 := 58) rfl (kg58 (by omega)), fun U hU hW => ⟨rfl, by rw [hU], by rw [hU]; exact hP, va_K.moved hW.alike hK, hD.weaken (fun _ _ _ _ => trivial), kNw.warm hW hNw⟩⟩ rfl rfl hl.1 rfl (lv_room (Nat.le_of_ble_eq_true rfl)) dX5_meets_84 ⟨Nat.le_of_ble_eq_true rfl, Nat.le_of_ble_eq_true rfl⟩) hS (fun q _ h => hFc q h) hFc (fun r9 u9 t H1 locs ht hvm hw hB hz1 hk1 hS => ?_)
      obtain ⟨hP1, hK1, hD1⟩ := hB
      rw [ht] at hP1
      obtain ⟨hw1, hw2⟩ := hw
      rw [hw2] at hP1 hD1
      rw [hw1]
      rw [F_u_spanOf_2] at hP1 hD1
      have hD2 := hD1.weaken (B := A) (fun _ q _ h => hFc q.1 h)
      have hP := hP1
      have hD := hD2
      generalize H1 = H at hP hS ⊢
      refine lv_aload_n hx hb dX5_meets_87 rfl (lv_at hl 1 rfl) ?_
      refine va_get (D := (dC, dI)) (ci := 5) (v := .ref (ad (73))) (C := RX5) (T := TX5) (N := 4) hx hb hts hinX5 hown hK hP (79) (kg79 (by omega)) rfl 2 (by decide) (hts (.fieldLink RX5 17 "LikeWords$Proof" "one" "LLikeWords$Word;") (by decide +kernel)) (fun _ h9 => h9) rfl dX5_meets_88 ?_
      have hFc : ∀ q, va_A (kWd cI cJ cZ cR wl ad M ((F_u_copy ((F_w_wipe (x) (73)).2) (73) (ra9) ((0 : Int)) ((0 : Int)) ((F_u_spanOf ((F_w_wipe (x) (73)).2) (ra9) ((0 : Int))).1)).2)) H.size q → A q := fun q hq => Or.elim hq (fun ⟨k, e, hk⟩ => hD.2 k (q, e) hk) (fun hk => hA q (Nat.le_trans hS.1 hk))
      refine va_callv (va_runV (b := ad (58)) (As := [.int (iI (qa9)), .int (iI ((1 : Int))), .int (iI (v)), .int (iI ((F_u_spanOf ((F_u_copy ((F_w_wipe (x) (73)).2) (73) (ra9) ((0 : Int)) ((0 : Int)) ((F_u_spanOf ((F_w_wipe (x) (73)).2) (ra9) ((0 : Int))).1)).2) (qa9) ((1 : Int))).1)), .ref (ad (73))]) (rest := []) ⟨hx, hb, hml, hown, hts⟩ (c_u_copy l dC dI ad cI cJ cZ cR M wl H.size ((F_u_copy ((F_w_wipe (x) (73)).2) (73) (ra9) ((0 : Int)) ((0 : Int)) ((F_u_spanOf ((F_w_wipe (x) (73)).2) (ra9) ((0 : Int))).1)).2) (73) (qa9) ((1 : Int)) (v) ((F_u_spanOf ((F_u_copy ((F_w_wipe (x) (73)).2) (73) (ra9) ((0 : Int)) ((0 : Int)) ((F_u_spanOf ((F_w_wipe (x) (73)).2) (ra9) ((0 : Int))).1)).2) (qa9) ((1 : Int))).1) hM rfl (by omega) rq9 (Or.inr rfl) (by omega) (by omega) (by omega) (by omega) (F_u_copy_b rfl (wUb_wipe _ _)).1 (F_u_copy_b rfl (wUb_wipe _ _)).2) (cwV 5 hts gX5_meets_X7_copy rfl rfl rfl (by decide +kernel) ⟨Nat.le_of_ble_eq_true rfl, Nat.le_of_ble_eq_true rfl⟩) ⟨fun a U g mk q => by obtain ⟨q0, q1, qP, qK, qD, qN⟩ := q; exact ⟨q0, q1, qP, va_K.moved (u := U) (U := U.calling g mk a) (Vm.Alike.refl U.vm) qK, qD, kNw.same (u := U) (U := U.calling g mk a) rfl qN⟩, va_recv hK hP (ci := 7) (q0 := 58) rfl (kg58 (by omega)), fun U hU hW => ⟨rfl, by rw [hU], by rw [hU]; exact hP, va_K.moved hW.alike hK, hD.weaken (fun _ _ _ _ => trivial), kNw.warm hW hNw⟩⟩ rfl rfl hl.1 rfl (lv_room (Nat.le_of_ble_eq_true rfl)) dX5_meets_91 ⟨Nat.le_of_ble_eq_true rfl, Nat.le_of_ble_eq_true rfl⟩) hS (fun q _ h => hFc q h) hFc (fun u9 t H1 locs ht hvm hw hB hz1 hk1 hS => ?_)
      obtain ⟨hP1, hK1, hD1⟩ := hB
      rw [ht] at hP1
      rw [hw] at hP1 hD1
      have hD2 := hD1.weaken (B := A) (fun _ q _ h => hFc q.1 h)
      have hP := hP1
      have hD := hD2
      generalize H1 = H at hP hS ⊢
      refine lv_aload_n hx hb dX5_meets_94 rfl (lv_at hl 1 rfl) ?_
      refine va_get (D := (dC, dI)) (ci := 5) (v := .ref (ad (75))) (C := RX5) (T := TX5) (N := 4) hx hb hts hinX5 hown hK hP (79) (kg79 (by omega)) rfl 3 (by decide) (hts (.fieldLink RX5 21 "LikeWords$Proof" "other" "LLikeWords$Word;") (by decide +kernel)) (fun _ h9 => h9) rfl dX5_meets_95 ?_
      have hFc : ∀ q, va_A (kWd cI cJ cZ cR wl ad M ((F_u_copy ((F_u_copy ((F_w_wipe (x) (73)).2) (73) (ra9) ((0 : Int)) ((0 : Int)) ((F_u_spanOf ((F_w_wipe (x) (73)).2) (ra9) ((0 : Int))).1)).2) (73) (qa9) ((1 : Int)) (v) ((F_u_spanOf ((F_u_copy ((F_w_wipe (x) (73)).2) (73) (ra9) ((0 : Int)) ((0 : Int)) ((F_u_spanOf ((F_w_wipe (x) (73)).2) (ra9) ((0 : Int))).1)).2) (qa9) ((1 : Int))).1)).2)) H.size q → A q := fun q hq => Or.elim hq (fun ⟨k, e, hk⟩ => hD.2 k (q, e) hk) (fun hk => hA q (Nat.le_trans hS.1 hk))
      refine va_callv (va_runV (b := ad (75)) (As := []) (rest := []) ⟨hx, hb, hml, hown, hts⟩ (c_w_wipe l dC dI ad cI cJ cZ cR M wl H.size ((F_u_copy ((F_u_copy ((F_w_wipe (x) (73)).2) (73) (ra9) ((0 : Int)) ((0 : Int)) ((F_u_spanOf ((F_w_wipe (x) (73)).2) (ra9) ((0 : Int))).1)).2) (73) (qa9) ((1 : Int)) (v) ((F_u_spanOf ((F_u_copy ((F_w_wipe (x) (73)).2) (73) (ra9) ((0 : Int)) ((0 : Int)) ((F_u_spanOf ((F_w_wipe (x) (73)).2) (ra9) ((0 : Int))).1)).2) (qa9) ((1 : Int))).1)).2) (75)  hM rfl (by omega) ) (cwV 0 hts gX5_meets_X10_wipe rfl rfl rfl (by decide +kernel) ⟨Nat.le_of_ble_eq_true rfl, Nat.le_of_ble_eq_true rfl⟩) ⟨fun a U g mk q => by obtain ⟨q0, q1, qP, qK, qD, qN⟩ := q; exact ⟨q0, q1, qP, va_K.moved (u := U) (U := U.calling g mk a) (Vm.Alike.refl U.vm) qK, qD, kNw.same (u := U) (U := U.calling g mk a) rfl qN⟩, va_recv hK hP (ci := 10) (q0 := 75) rfl (kgw rfl (by omega)), fun U hU hW => ⟨rfl, by rw [hU], by rw [hU]; exact hP, va_K.moved hW.alike hK, hD.weaken (fun _ _ _ _ => trivial), kNw.warm hW hNw⟩⟩ rfl rfl hl.1 rfl (lv_room (Nat.le_of_ble_eq_true rfl)) dX5_meets_98 ⟨Nat.le_of_ble_eq_true rfl, Nat.le_of_ble_eq_true rfl⟩) hS (fun q _ h => hFc q h) hFc (fun u9 t H1 locs ht hvm hw hB hz1 hk1 hS => ?_)
      obtain ⟨hP1, hK1, hD1⟩ := hB
      rw [ht] at hP1
      rw [hw] at hP1 hD1
      have hD2 := hD1.weaken (B := A) (fun _ q _ h => hFc q.1 h)
      have hP := hP1
      have hD := hD2
      generalize H1 = H at hP hS ⊢
      refine lv_aload_n hx hb dX5_meets_101 rfl (lv_at hl 1 rfl) ?_
      refine va_get (D := (dC, dI)) (ci := 5) (v := .ref (ad (58))) (C := RX5) (T := TX5) (N := 4) hx hb hts hinX5 hown hK hP (79) (kg79 (by omega)) rfl 0 (by decide) (hts (.fieldLink RX5 7 "LikeWords$Proof" "rules" "LLikeWords$Rules;") (by decide +kernel)) (fun _ h9 => h9) rfl dX5_meets_102 ?_
      refine lv_iload_n hx hb dX5_meets_105 rfl (lv_at hl 2 rfl) ?_
      refine lv_iconst (v := iI (1 : Int)) hx hb dX5_meets_106 (by decide) ?_
      refine lv_iconst (v := iI (0 : Int)) hx hb dX5_meets_107 (by decide) ?_
      refine lv_iload hx hb dX5_meets_108 (lv_at hl 0 rfl) ?_
      refine lv_iload_n hx hb dX5_meets_110 rfl (lv_at hl 4 rfl) ?_
      refine wi_isub hx hb dX5_meets_111 ?_
      refine lv_aload_n hx hb dX5_meets_112 rfl (lv_at hl 1 rfl) ?_
      refine va_get (D := (dC, dI)) (ci := 5) (v := .ref (ad (75))) (C := RX5) (T := TX5) (N := 4) hx hb hts hinX5 hown hK hP (79) (kg79 (by omega)) rfl 3 (by decide) (hts (.fieldLink RX5 21 "LikeWords$Proof" "other" "LLikeWords$Word;") (by decide +kernel)) (fun _ h9 => h9) rfl dX5_meets_113 ?_
      have hFc : ∀ q, va_A (kWd cI cJ cZ cR wl ad M ((F_w_wipe ((F_u_copy ((F_u_copy ((F_w_wipe (x) (73)).2) (73) (ra9) ((0 : Int)) ((0 : Int)) ((F_u_spanOf ((F_w_wipe (x) (73)).2) (ra9) ((0 : Int))).1)).2) (73) (qa9) ((1 : Int)) (v) ((F_u_spanOf ((F_u_copy ((F_w_wipe (x) (73)).2) (73) (ra9) ((0 : Int)) ((0 : Int)) ((F_u_spanOf ((F_w_wipe (x) (73)).2) (ra9) ((0 : Int))).1)).2) (qa9) ((1 : Int))).1)).2) (75)).2)) H.size q → A q := fun q hq => Or.elim hq (fun ⟨k, e, hk⟩ => hD.2 k (q, e) hk) (fun hk => hA q (Nat.le_trans hS.1 hk))
      refine va_callv (va_runV (b := ad (58)) (As := [.int (iI (ra9)), .int (iI ((1 : Int))), .int (iI ((0 : Int))), .int (iI (((F_u_spanOf (x) (ra9) ((1 : Int))).1) - (v))), .ref (ad (75))]) (rest := []) ⟨hx, hb, hml, hown, hts⟩ (c_u_copy l dC dI ad cI cJ cZ cR M wl H.size ((F_w_wipe ((F_u_copy ((F_u_copy ((F_w_wipe (x) (73)).2) (73) (ra9) ((0 : Int)) ((0 : Int)) ((F_u_spanOf ((F_w_wipe (x) (73)).2) (ra9) ((0 : Int))).1)).2) (73) (qa9) ((1 : Int)) (v) ((F_u_spanOf ((F_u_copy ((F_w_wipe (x) (73)).2) (73) (ra9) ((0 : Int)) ((0 : Int)) ((F_u_spanOf ((F_w_wipe (x) (73)).2) (ra9) ((0 : Int))).1)).2) (qa9) ((1 : Int))).1)).2) (75)).2) (75) (ra9) ((1 : Int)) ((0 : Int)) (((F_u_spanOf (x) (ra9) ((1 : Int))).1) - (v)) hM rfl (by omega) rr9 (Or.inr rfl) (by omega) (by omega) (by omega) (by omega) (wUb_wipe _ _).1 (wUb_wipe _ _).2) (cwV 5 hts gX5_meets_X7_copy rfl rfl rfl (by decide +kernel) ⟨Nat.le_of_ble_eq_true rfl, Nat.le_of_ble_eq_true rfl⟩) ⟨fun a U g mk q => by obtain ⟨q0, q1, qP, qK, qD, qN⟩ := q; exact ⟨q0, q1, qP, va_K.moved (u := U) (U := U.calling g mk a) (Vm.Alike.refl U.vm) qK, qD, kNw.same (u := U) (U := U.calling g mk a) rfl qN⟩, va_recv hK hP (ci := 7) (q0 := 58) rfl (kg58 (by omega)), fun U hU hW => ⟨rfl, by rw [hU], by rw [hU]; exact hP, va_K.moved hW.alike hK, hD.weaken (fun _ _ _ _ => trivial), kNw.warm hW hNw⟩⟩ rfl rfl hl.1 rfl (lv_room (Nat.le_of_ble_eq_true rfl)) dX5_meets_116 ⟨Nat.le_of_ble_eq_true rfl, Nat.le_of_ble_eq_true rfl⟩) hS (fun q _ h => hFc q h) hFc (fun u9 t H1 locs ht hvm hw hB hz1 hk1 hS => ?_)
      obtain ⟨hP1, hK1, hD1⟩ := hB
      rw [ht] at hP1
      rw [hw] at hP1 hD1
      have hD2 := hD1.weaken (B := A) (fun _ q _ h => hFc q.1 h)
      have hP := hP1
      have hD := hD2
      generalize H1 = H at hP hS ⊢
      refine lv_aload_n hx hb dX5_meets_119 rfl (lv_at hl 1 rfl) ?_
      refine va_get (D := (dC, dI)) (ci := 5) (v := .ref (ad (58))) (C := RX5) (T := TX5) (N := 4) hx hb hts hinX5 hown hK hP (79) (kg79 (by omega)) rfl 0 (by decide) (hts (.fieldLink RX5 7 "LikeWords$Proof" "rules" "LLikeWords$Rules;") (by decide +kernel)) (fun _ h9 => h9) rfl dX5_meets_120 ?_
      refine lv_iload_n hx hb dX5_meets_123 rfl (lv_at hl 3 rfl) ?_
      refine lv_iconst (v := iI (0 : Int)) hx hb dX5_meets_124 (by decide) ?_
      refine lv_iconst (v := iI (0 : Int)) hx hb dX5_meets_125 (by decide) ?_
      refine lv_aload_n hx hb dX5_meets_126 rfl (lv_at hl 1 rfl) ?_
      refine va_get (D := (dC, dI)) (ci := 5) (v := .ref (ad (58))) (C := RX5) (T := TX5) (N := 4) hx hb hts hinX5 hown hK hP (79) (kg79 (by omega)) rfl 0 (by decide) (hts (.fieldLink RX5 7 "LikeWords$Proof" "rules" "LLikeWords$Rules;") (by decide +kernel)) (fun _ h9 => h9) rfl dX5_meets_127 ?_
      refine lv_iload_n hx hb dX5_meets_130 rfl (lv_at hl 3 rfl) ?_
      refine lv_iconst (v := iI (0 : Int)) hx hb dX5_meets_131 (by decide) ?_
      have sq3 := F_u_spanOf_b (x := (F_u_copy ((F_w_wipe ((F_u_copy ((F_u_copy ((F_w_wipe (x) (73)).2) (73) (ra9) ((0 : Int)) ((0 : Int)) ((F_u_spanOf ((F_w_wipe (x) (73)).2) (ra9) ((0 : Int))).1)).2) (73) (qa9) ((1 : Int)) (v) ((F_u_spanOf ((F_u_copy ((F_w_wipe (x) (73)).2) (73) (ra9) ((0 : Int)) ((0 : Int)) ((F_u_spanOf ((F_w_wipe (x) (73)).2) (ra9) ((0 : Int))).1)).2) (qa9) ((1 : Int))).1)).2) (75)).2) (75) (ra9) ((1 : Int)) ((0 : Int)) (((F_u_spanOf (x) (ra9) ((1 : Int))).1) - (v))).2) (ruR_q (F_u_copy_q _ _ _ _ _ _ rfl) (ruR_q (F_w_wipe_q _ _ rfl) (ruR_q (F_u_copy_q _ _ _ _ _ _ rfl) (ruR_q (F_u_copy_q _ _ _ _ _ _ rfl) (ruR_q (F_w_wipe_q _ _ rfl) ru))))) qa9 0
      have hFc : ∀ q, va_A (kWd cI cJ cZ cR wl ad M ((F_u_copy ((F_w_wipe ((F_u_copy ((F_u_copy ((F_w_wipe (x) (73)).2) (73) (ra9) ((0 : Int)) ((0 : Int)) ((F_u_spanOf ((F_w_wipe (x) (73)).2) (ra9) ((0 : Int))).1)).2) (73) (qa9) ((1 : Int)) (v) ((F_u_spanOf ((F_u_copy ((F_w_wipe (x) (73)).2) (73) (ra9) ((0 : Int)) ((0 : Int)) ((F_u_spanOf ((F_w_wipe (x) (73)).2) (ra9) ((0 : Int))).1)).2) (qa9) ((1 : Int))).1)).2) (75)).2) (75) (ra9) ((1 : Int)) ((0 : Int)) (((F_u_spanOf (x) (ra9) ((1 : Int))).1) - (v))).2)) H.size q → A q := fun q hq => Or.elim hq (fun ⟨k, e, hk⟩ => hD.2 k (q, e) hk) (fun hk => hA q (Nat.le_trans hS.1 hk))
      refine va_calli (va_runV (b := ad (58)) (As := [.int (iI (qa9)), .int (iI ((0 : Int)))]) (rest := [.int (iI ((0 : Int))), .int (iI ((0 : Int))), .int (iI (qa9)), .ref (ad (58))]) ⟨hx, hb, hml, hown, hts⟩ (c_u_spanOf l dC dI ad cI cJ cZ cR M wl H.size ((F_u_copy ((F_w_wipe ((F_u_copy ((F_u_copy ((F_w_wipe (x) (73)).2) (73) (ra9) ((0 : Int)) ((0 : Int)) ((F_u_spanOf ((F_w_wipe (x) (73)).2) (ra9) ((0 : Int))).1)).2) (73) (qa9) ((1 : Int)) (v) ((F_u_spanOf ((F_u_copy ((F_w_wipe (x) (73)).2) (73) (ra9) ((0 : Int)) ((0 : Int)) ((F_u_spanOf ((F_w_wipe (x) (73)).2) (ra9) ((0 : Int))).1)).2) (qa9) ((1 : Int))).1)).2) (75)).2) (75) (ra9) ((1 : Int)) ((0 : Int)) (((F_u_spanOf (x) (ra9) ((1 : Int))).1) - (v))).2)  (qa9) ((0 : Int)) hM rq9 (Or.inl rfl)) (cwV 2 hts gX5_meets_X7_spanOf rfl rfl rfl (by decide +kernel) ⟨Nat.le_of_ble_eq_true rfl, Nat.le_of_ble_eq_true rfl⟩) ⟨fun a U g mk q => by obtain ⟨q0, q1, qP, qK, qD, qN⟩ := q; exact ⟨q0, q1, qP, va_K.moved (u := U) (U := U.calling g mk a) (Vm.Alike.refl U.vm) qK, qD, kNw.same (u := U) (U := U.calling g mk a) rfl qN⟩, va_recv hK hP (ci := 7) (q0 := 58) rfl (kg58 (by omega)), fun U hU hW => ⟨rfl, by rw [hU], by rw [hU]; exact hP, va_K.moved hW.alike hK, hD.weaken (fun _ _ _ _ => trivial), kNw.warm hW hNw⟩⟩ rfl rfl hl.1 rfl (lv_room (Nat.le_of_ble_eq_true rfl)) dX5_meets_132 ⟨Nat.le_of_ble_eq_true rfl, Nat.le_of_ble_eq_true rfl⟩) hS (fun q _ h => hFc q h) hFc (fun r9 u9 t H1 locs ht hvm hw hB hz1 hk1 hS => ?_)
      obtain ⟨hP1, hK1, hD1⟩ := hB
      rw [ht] at hP1
      obtain ⟨hw1, hw2⟩ := hw
      rw [hw2] at hP1 hD1
      rw [hw1]
      rw [F_u_spanOf_2] at hP1 hD1
      have hD2 := hD1.weaken (B := A) (fun _ q _ h => hFc q.1 h)
      have hP := hP1
      have hD := hD2
      generalize H1 = H at hP hS ⊢
      refine lv_aload_n hx hb dX5_meets_135 rfl (lv_at hl 1 rfl) ?_
      refine va_get (D := (dC, dI)) (ci := 5) (v := .ref (ad (75))) (C := RX5) (T := TX5) (N := 4) hx hb hts hinX5 hown hK hP (79) (kg79 (by omega)) rfl 3 (by decide) (hts (.fieldLink RX5 21 "LikeWords$Proof" "other" "LLikeWords$Word;") (by decide +kernel)) (fun _ h9 => h9) rfl dX5_meets_136 ?_
      have hFc : ∀ q, va_A (kWd cI cJ cZ cR wl ad M ((F_u_copy ((F_w_wipe ((F_u_copy ((F_u_copy ((F_w_wipe (x) (73)).2) (73) (ra9) ((0 : Int)) ((0 : Int)) ((F_u_spanOf ((F_w_wipe (x) (73)).2) (ra9) ((0 : Int))).1)).2) (73) (qa9) ((1 : Int)) (v) ((F_u_spanOf ((F_u_copy ((F_w_wipe (x) (73)).2) (73) (ra9) ((0 : Int)) ((0 : Int)) ((F_u_spanOf ((F_w_wipe (x) (73)).2) (ra9) ((0 : Int))).1)).2) (qa9) ((1 : Int))).1)).2) (75)).2) (75) (ra9) ((1 : Int)) ((0 : Int)) (((F_u_spanOf (x) (ra9) ((1 : Int))).1) - (v))).2)) H.size q → A q := fun q hq => Or.elim hq (fun ⟨k, e, hk⟩ => hD.2 k (q, e) hk) (fun hk => hA q (Nat.le_trans hS.1 hk))
      refine va_callv (va_runV (b := ad (58)) (As := [.int (iI (qa9)), .int (iI ((0 : Int))), .int (iI ((0 : Int))), .int (iI ((F_u_spanOf ((F_u_copy ((F_w_wipe ((F_u_copy ((F_u_copy ((F_w_wipe (x) (73)).2) (73) (ra9) ((0 : Int)) ((0 : Int)) ((F_u_spanOf ((F_w_wipe (x) (73)).2) (ra9) ((0 : Int))).1)).2) (73) (qa9) ((1 : Int)) (v) ((F_u_spanOf ((F_u_copy ((F_w_wipe (x) (73)).2) (73) (ra9) ((0 : Int)) ((0 : Int)) ((F_u_spanOf ((F_w_wipe (x) (73)).2) (ra9) ((0 : Int))).1)).2) (qa9) ((1 : Int))).1)).2) (75)).2) (75) (ra9) ((1 : Int)) ((0 : Int)) (((F_u_spanOf (x) (ra9) ((1 : Int))).1) - (v))).2) (qa9) ((0 : Int))).1)), .ref (ad (75))]) (rest := []) ⟨hx, hb, hml, hown, hts⟩ (c_u_copy l dC dI ad cI cJ cZ cR M wl H.size ((F_u_copy ((F_w_wipe ((F_u_copy ((F_u_copy ((F_w_wipe (x) (73)).2) (73) (ra9) ((0 : Int)) ((0 : Int)) ((F_u_spanOf ((F_w_wipe (x) (73)).2) (ra9) ((0 : Int))).1)).2) (73) (qa9) ((1 : Int)) (v) ((F_u_spanOf ((F_u_copy ((F_w_wipe (x) (73)).2) (73) (ra9) ((0 : Int)) ((0 : Int)) ((F_u_spanOf ((F_w_wipe (x) (73)).2) (ra9) ((0 : Int))).1)).2) (qa9) ((1 : Int))).1)).2) (75)).2) (75) (ra9) ((1 : Int)) ((0 : Int)) (((F_u_spanOf (x) (ra9) ((1 : Int))).1) - (v))).2) (75) (qa9) ((0 : Int)) ((0 : Int)) ((F_u_spanOf ((F_u_copy ((F_w_wipe ((F_u_copy ((F_u_copy ((F_w_wipe (x) (73)).2) (73) (ra9) ((0 : Int)) ((0 : Int)) ((F_u_spanOf ((F_w_wipe (x) (73)).2) (ra9) ((0 : Int))).1)).2) (73) (qa9) ((1 : Int)) (v) ((F_u_spanOf ((F_u_copy ((F_w_wipe (x) (73)).2) (73) (ra9) ((0 : Int)) ((0 : Int)) ((F_u_spanOf ((F_w_wipe (x) (73)).2) (ra9) ((0 : Int))).1)).2) (qa9) ((1 : Int))).1)).2) (75)).2) (75) (ra9) ((1 : Int)) ((0 : Int)) (((F_u_spanOf (x) (ra9) ((1 : Int))).1) - (v))).2) (qa9) ((0 : Int))).1) hM rfl (by omega) rq9 (Or.inl rfl) (by omega) (by omega) (by omega) (by omega) (F_u_copy_b rfl (wUb_wipe _ _)).1 (F_u_copy_b rfl (wUb_wipe _ _)).2) (cwV 5 hts gX5_meets_X7_copy rfl rfl rfl (by decide +kernel) ⟨Nat.le_of_ble_eq_true rfl, Nat.le_of_ble_eq_true rfl⟩) ⟨fun a U g mk q => by obtain ⟨q0, q1, qP, qK, qD, qN⟩ := q; exact ⟨q0, q1, qP, va_K.moved (u := U) (U := U.calling g mk a) (Vm.Alike.refl U.vm) qK, qD, kNw.same (u := U) (U := U.calling g mk a) rfl qN⟩, va_recv hK hP (ci := 7) (q0 := 58) rfl (kg58 (by omega)), fun U hU hW => ⟨rfl, by rw [hU], by rw [hU]; exact hP, va_K.moved hW.alike hK, hD.weaken (fun _ _ _ _ => trivial), kNw.warm hW hNw⟩⟩ rfl rfl hl.1 rfl (lv_room (Nat.le_of_ble_eq_true rfl)) dX5_meets_139 ⟨Nat.le_of_ble_eq_true rfl, Nat.le_of_ble_eq_true rfl⟩) hS (fun q _ h => hFc q h) hFc (fun u9 t H1 locs ht hvm hw hB hz1 hk1 hS => ?_)
      obtain ⟨hP1, hK1, hD1⟩ := hB
      rw [ht] at hP1
      rw [hw] at hP1 hD1
      have hD2 := hD1.weaken (B := A) (fun _ q _ h => hFc q.1 h)
      have hP := hP1
      have hD := hD2
      generalize H1 = H at hP hS ⊢
      refine lv_iconst (v := iI (1 : Int)) hx hb dX5_meets_142 (by decide) ?_
      exact W.zret (v := iI ((1 : Int))) hx hb hr (kz _ (by first | assumption | omega)) (fun t ht hW => ⟨⟨iI ((1 : Int)), (F_u_copy ((F_u_copy ((F_w_wipe ((F_u_copy ((F_u_copy ((F_w_wipe (x) (73)).2) (73) (ra9) ((0 : Int)) ((0 : Int)) ((F_u_spanOf ((F_w_wipe (x) (73)).2) (ra9) ((0 : Int))).1)).2) (73) (qa9) ((1 : Int)) (v) ((F_u_spanOf ((F_u_copy ((F_w_wipe (x) (73)).2) (73) (ra9) ((0 : Int)) ((0 : Int)) ((F_u_spanOf ((F_w_wipe (x) (73)).2) (ra9) ((0 : Int))).1)).2) (qa9) ((1 : Int))).1)).2) (75)).2) (75) (ra9) ((1 : Int)) ((0 : Int)) (((F_u_spanOf (x) (ra9) ((1 : Int))).1) - (v))).2) (75) (qa9) ((0 : Int)) ((0 : Int)) ((F_u_spanOf ((F_u_copy ((F_w_wipe ((F_u_copy ((F_u_copy ((F_w_wipe (x) (73)).2) (73) (ra9) ((0 : Int)) ((0 : Int)) ((F_u_spanOf ((F_w_wipe (x) (73)).2) (ra9) ((0 : Int))).1)).2) (73) (qa9) ((1 : Int)) (v) ((F_u_spanOf ((F_u_copy ((F_w_wipe (x) (73)).2) (73) (ra9) ((0 : Int)) ((0 : Int)) ((F_u_spanOf ((F_w_wipe (x) (73)).2) (ra9) ((0 : Int))).1)).2) (qa9) ((1 : Int))).1)).2) (75)).2) (75) (ra9) ((1 : Int)) ((0 : Int)) (((F_u_spanOf (x) (ra9) ((1 : Int))).1) - (v))).2) (qa9) ((0 : Int))).1)).2, rfl, ⟨(by have h9 := congrArg (fun z : Int × KS => iI z.1) hres; exact h9), (by have h9 := congrArg (fun z : Int × KS => z.2) hres; exact h9)⟩, by rw [ht]; exact hP, va_K.moved hW.alike hK, hD⟩, hS.F ht⟩) hS.2.2 dX5_meets_143
    · skip
      rw [if_neg c_36] at hres
      refine lv_iconst (v := iI (0 : Int)) hx hb dX5_meets_39 (by decide) ?_
      exact W.zret (v := iI ((0 : Int))) hx hb hr (kz _ (by first | assumption | omega)) (fun t ht hW => ⟨⟨iI ((0 : Int)), x, rfl, ⟨(by have h9 := congrArg (fun z : Int × KS => iI z.1) hres; exact h9), (by have h9 := congrArg (fun z : Int × KS => z.2) hres; exact h9)⟩, by rw [ht]; exact hP, va_K.moved hW.alike hK, hD⟩, hS.F ht⟩) hS.2.2 dX5_meets_40
  exact key _ _ hP hS
theorem F_p_meets_fr (x : KS) (ra9 : Int) (qa9 : Int) (v : Int) : ksame [(73, 1), (75, 1)] [74, 76] x (F_p_meets x ra9 qa9 v).2 := by
  unfold F_p_meets
  by_cases hc : (iC ((F_u_leftPart (x) (ra9) (((F_u_spanOf (x) (ra9) ((1 : Int))).1) - (v)) ((F_u_spanOf (x) (ra9) ((1 : Int))).1)).1) ((F_u_leftPart (x) (qa9) ((0 : Int)) (v)).1)) = (0)
  · rw [if_pos hc]
    exact (km_tr (km_tr (km_tr (km_tr (km_tr (km_tr (km_rf _ _ _) (km_mono (km1 (List.Mem.head _) km0) km0 (F_w_wipe_fr (x) (73)))) (km_mono (km1 (List.Mem.head _) km0) (km1 (List.Mem.head _) km0) (F_u_copy_fr ((F_w_wipe (x) (73)).2) (73) (ra9) ((0 : Int)) ((0 : Int)) ((F_u_spanOf ((F_w_wipe (x) (73)).2) (ra9) ((0 : Int))).1)))) (km_mono (km1 (List.Mem.head _) km0) (km1 (List.Mem.head _) km0) (F_u_copy_fr ((F_u_copy ((F_w_wipe (x) (73)).2) (73) (ra9) ((0 : Int)) ((0 : Int)) ((F_u_spanOf ((F_w_wipe (x) (73)).2) (ra9) ((0 : Int))).1)).2) (73) (qa9) ((1 : Int)) (v) ((F_u_spanOf ((F_u_copy ((F_w_wipe (x) (73)).2) (73) (ra9) ((0 : Int)) ((0 : Int)) ((F_u_spanOf ((F_w_wipe (x) (73)).2) (ra9) ((0 : Int))).1)).2) (qa9) ((1 : Int))).1)))) (km_mono (km1 (List.Mem.tail _ (List.Mem.head _)) km0) km0 (F_w_wipe_fr ((F_u_copy ((F_u_copy ((F_w_wipe (x) (73)).2) (73) (ra9) ((0 : Int)) ((0 : Int)) ((F_u_spanOf ((F_w_wipe (x) (73)).2) (ra9) ((0 : Int))).1)).2) (73) (qa9) ((1 : Int)) (v) ((F_u_spanOf ((F_u_copy ((F_w_wipe (x) (73)).2) (73) (ra9) ((0 : Int)) ((0 : Int)) ((F_u_spanOf ((F_w_wipe (x) (73)).2) (ra9) ((0 : Int))).1)).2) (qa9) ((1 : Int))).1)).2) (75)))) (km_mono (km1 (List.Mem.tail _ (List.Mem.head _)) km0) (km1 (List.Mem.tail _ (List.Mem.head _)) km0) (F_u_copy_fr ((F_w_wipe ((F_u_copy ((F_u_copy ((F_w_wipe (x) (73)).2) (73) (ra9) ((0 : Int)) ((0 : Int)) ((F_u_spanOf ((F_w_wipe (x) (73)).2) (ra9) ((0 : Int))).1)).2) (73) (qa9) ((1 : Int)) (v) ((F_u_spanOf ((F_u_copy ((F_w_wipe (x) (73)).2) (73) (ra9) ((0 : Int)) ((0 : Int)) ((F_u_spanOf ((F_w_wipe (x) (73)).2) (ra9) ((0 : Int))).1)).2) (qa9) ((1 : Int))).1)).2) (75)).2) (75) (ra9) ((1 : Int)) ((0 : Int)) (((F_u_spanOf (x) (ra9) ((1 : Int))).1) - (v))))) (km_mono (km1 (List.Mem.tail _ (List.Mem.head _)) km0) (km1 (List.Mem.tail _ (List.Mem.head _)) km0) (F_u_copy_fr ((F_u_copy ((F_w_wipe ((F_u_copy ((F_u_copy ((F_w_wipe (x) (73)).2) (73) (ra9) ((0 : Int)) ((0 : Int)) ((F_u_spanOf ((F_w_wipe (x) (73)).2) (ra9) ((0 : Int))).1)).2) (73) (qa9) ((1 : Int)) (v) ((F_u_spanOf ((F_u_copy ((F_w_wipe (x) (73)).2) (73) (ra9) ((0 : Int)) ((0 : Int)) ((F_u_spanOf ((F_w_wipe (x) (73)).2) (ra9) ((0 : Int))).1)).2) (qa9) ((1 : Int))).1)).2) (75)).2) (75) (ra9) ((1 : Int)) ((0 : Int)) (((F_u_spanOf (x) (ra9) ((1 : Int))).1) - (v))).2) (75) (qa9) ((0 : Int)) ((0 : Int)) ((F_u_spanOf ((F_u_copy ((F_w_wipe ((F_u_copy ((F_u_copy ((F_w_wipe (x) (73)).2) (73) (ra9) ((0 : Int)) ((0 : Int)) ((F_u_spanOf ((F_w_wipe (x) (73)).2) (ra9) ((0 : Int))).1)).2) (73) (qa9) ((1 : Int)) (v) ((F_u_spanOf ((F_u_copy ((F_w_wipe (x) (73)).2) (73) (ra9) ((0 : Int)) ((0 : Int)) ((F_u_spanOf ((F_w_wipe (x) (73)).2) (ra9) ((0 : Int))).1)).2) (qa9) ((1 : Int))).1)).2) (75)).2) (75) (ra9) ((1 : Int)) ((0 : Int)) (((F_u_spanOf (x) (ra9) ((1 : Int))).1) - (v))).2) (qa9) ((0 : Int))).1))))
  · rw [if_neg hc]
    exact (km_rf _ _ _)
theorem F_p_meets_q (x : KS) (ra9 : Int) (qa9 : Int) (v : Int)  : kq [] [] x (F_p_meets x ra9 qa9 v).2 := kq_of (F_p_meets_fr x ra9 qa9 v) (kq_c (Or.inl rfl) (kq_c (Or.inl rfl) kq_m)) (kq_c (Or.inl rfl) (kq_c (Or.inl rfl) kq_n))
def F_p_encloses (x : KS) (ra9 : Int) (qa9 : Int) (v : Int) : Int × KS := (if (iC ((F_u_leftPart (x) (ra9) (v) ((v) + ((F_u_spanOf (x) (qa9) ((1 : Int))).1))).1) ((F_u_leftPart (x) (qa9) ((0 : Int)) ((F_u_spanOf (x) (qa9) ((1 : Int))).1)).1)) = (0) then ((1 : Int), (F_u_copy ((F_u_copy ((F_u_copy ((F_w_wipe ((F_u_copy ((F_w_wipe (x) (73)).2) (73) (ra9) ((0 : Int)) ((0 : Int)) ((F_u_spanOf ((F_w_wipe (x) (73)).2) (ra9) ((0 : Int))).1)).2) (75)).2) (75) (ra9) ((1 : Int)) ((0 : Int)) (v)).2) (75) (qa9) ((0 : Int)) ((0 : Int)) ((F_u_spanOf ((F_u_copy ((F_w_wipe ((F_u_copy ((F_w_wipe (x) (73)).2) (73) (ra9) ((0 : Int)) ((0 : Int)) ((F_u_spanOf ((F_w_wipe (x) (73)).2) (ra9) ((0 : Int))).1)).2) (75)).2) (75) (ra9) ((1 : Int)) ((0 : Int)) (v)).2) (qa9) ((0 : Int))).1)).2) (75) (ra9) ((1 : Int)) ((v) + ((F_u_spanOf (x) (qa9) ((1 : Int))).1)) ((F_u_spanOf ((F_u_copy ((F_u_copy ((F_w_wipe ((F_u_copy ((F_w_wipe (x) (73)).2) (73) (ra9) ((0 : Int)) ((0 : Int)) ((F_u_spanOf ((F_w_wipe (x) (73)).2) (ra9) ((0 : Int))).1)).2) (75)).2) (75) (ra9) ((1 : Int)) ((0 : Int)) (v)).2) (75) (qa9) ((0 : Int)) ((0 : Int)) ((F_u_spanOf ((F_u_copy ((F_w_wipe ((F_u_copy ((F_w_wipe (x) (73)).2) (73) (ra9) ((0 : Int)) ((0 : Int)) ((F_u_spanOf ((F_w_wipe (x) (73)).2) (ra9) ((0 : Int))).1)).2) (75)).2) (75) (ra9) ((1 : Int)) ((0 : Int)) (v)).2) (qa9) ((0 : Int))).1)).2) (ra9) ((1 : Int))).1)).2) else ((0 : Int), x))
set_option maxHeartbeats 4000000 in
set_option maxRecDepth 100000 in
/-- LikeWords$Proof, encloses -/
theorem c_p_encloses (l : Launch) (dC : Nat → ClassId) (dI : Nat → Nat → Nat) (ad : Nat → Nat) (cI cJ cZ cR : ClassId) (M wl sz : Nat) (x : KS) (ra9 : Int) (qa9 : Int) (v : Int) (hM : 87 ≤ M) (ru : ruR x) (rr9 : iR ra9) (rq9 : iR qa9) (v0 : 0 ≤ v) (v1 : v ≤ 100) : Met l yX5_encloses wsX5_encloses ({ frames := 2, cells := 0, slots := 0, locals := 50 }) (kPc dC dI ad cI cJ cZ cR M wl sz x [.ref (ad 79), .int (iI ra9), .int (iI qa9), .int (iI v)]) (va_Qi (fun (r : Int32) (u : KS) => r = iI (F_p_encloses x ra9 qa9 v).1 ∧ u = (F_p_encloses x ra9 qa9 v).2) (kAt dC dI ad cI cJ cZ cR M wl (va_A (kWd cI cJ cZ cR wl ad M (x)) sz)) (va_A (kWd cI cJ cZ cR wl ad M (x)) sz)) 0 0 (va_A (kWd cI cJ cZ cR wl ad M (x)) sz) := by
  refine Met.ofW (cc := cX5_encloses) (maxL := 5) (ret := (some .boolean)) (by decide) rfl ?_
  intro p e s m args below meth c s₁ B hml hv
  obtain ⟨rfl, hsz, hP, hK, hD0, hNw⟩ := hv
  have hx := B.exec
  have hb := B.bytes
  have hr := B.returns
  have hts := atoms_spec (ws := wsX5_encloses) B.pre
  have hown : s.vm.findClass RX5 = some m.cls := findClass_of_methodNamed B.named
  have hlocks := B.notSynchronized
  have hinX5 : ∀ w ∈ u_ws RX5 TX5 4, w ∈ wsX5_encloses := by decide +kernel
  subst hsz
  have hD := hD0.self (sz := s.heap.size)
  generalize hAe : va_A (kWd cI cJ cZ cR wl ad M (x)) s.heap.size = A at hD ⊢
  have hA : ∀ q : Nat, s.heap.size ≤ q → A q := fun q h => by rw [← hAe]; exact Or.inr h
  have hS : va_S A s.heap s.heap [] := va_S.rf
  have hl := lv_entry ([.ref (ad 79), .int (iI ra9), .int (iI qa9), .int (iI v)]) (n := 5) (Nat.le_of_ble_eq_true rfl)
  rw [lg_entry_eq]
  generalize (lg_sl ([.ref (ad 79), .int (iI ra9), .int (iI qa9), .int (iI v)]) ++ List.replicate (5 - (lg_sl ([.ref (ad 79), .int (iI ra9), .int (iI qa9), .int (iI v)])).length) Slot.unset).toArray = ls at hl ⊢
  have hl : lv_has ls 5 [(0, .ref (ad (79))), (1, .int (iI (ra9))), (2, .int (iI (qa9))), (3, .int (iI (v)))] := hl
  have sp1 := F_u_spanOf_b ru qa9 1
  have key : ∀ (H : Heap) (locs : List Loc), va_P (dC, dI) vwCl (kWd cI cJ cZ cR wl ad M (x)) H → va_S A s.heap H locs → W p l e (headSpec wsX5_encloses ({ frames := 2, cells := 0, slots := 0, locals := 50 })).room s m ([.ref (ad 79), .int (iI ra9), .int (iI qa9), .int (iI v)] : List Value).toArray below meth c H locs 0 0 (MQ below (va_Qi (fun (r : Int32) (u : KS) => r = iI (F_p_encloses x ra9 qa9 v).1 ∧ u = (F_p_encloses x ra9 qa9 v).2) (kAt dC dI ad cI cJ cZ cR M wl A) A) ([.ref (ad 79), .int (iI ra9), .int (iI qa9), .int (iI v)] : List Value).toArray s 0 0 A) (F0 m 0 ls []) := by
    intro H locs hP hS
    have hres : (if (iC ((F_u_leftPart (x) (ra9) (v) ((v) + ((F_u_spanOf (x) (qa9) ((1 : Int))).1))).1) ((F_u_leftPart (x) (qa9) ((0 : Int)) ((F_u_spanOf (x) (qa9) ((1 : Int))).1)).1)) = (0) then ((1 : Int), (F_u_copy ((F_u_copy ((F_u_copy ((F_w_wipe ((F_u_copy ((F_w_wipe (x) (73)).2) (73) (ra9) ((0 : Int)) ((0 : Int)) ((F_u_spanOf ((F_w_wipe (x) (73)).2) (ra9) ((0 : Int))).1)).2) (75)).2) (75) (ra9) ((1 : Int)) ((0 : Int)) (v)).2) (75) (qa9) ((0 : Int)) ((0 : Int)) ((F_u_spanOf ((F_u_copy ((F_w_wipe ((F_u_copy ((F_w_wipe (x) (73)).2) (73) (ra9) ((0 : Int)) ((0 : Int)) ((F_u_spanOf ((F_w_wipe (x) (73)).2) (ra9) ((0 : Int))).1)).2) (75)).2) (75) (ra9) ((1 : Int)) ((0 : Int)) (v)).2) (qa9) ((0 : Int))).1)).2) (75) (ra9) ((1 : Int)) ((v) + ((F_u_spanOf (x) (qa9) ((1 : Int))).1)) ((F_u_spanOf ((F_u_copy ((F_u_copy ((F_w_wipe ((F_u_copy ((F_w_wipe (x) (73)).2) (73) (ra9) ((0 : Int)) ((0 : Int)) ((F_u_spanOf ((F_w_wipe (x) (73)).2) (ra9) ((0 : Int))).1)).2) (75)).2) (75) (ra9) ((1 : Int)) ((0 : Int)) (v)).2) (75) (qa9) ((0 : Int)) ((0 : Int)) ((F_u_spanOf ((F_u_copy ((F_w_wipe ((F_u_copy ((F_w_wipe (x) (73)).2) (73) (ra9) ((0 : Int)) ((0 : Int)) ((F_u_spanOf ((F_w_wipe (x) (73)).2) (ra9) ((0 : Int))).1)).2) (75)).2) (75) (ra9) ((1 : Int)) ((0 : Int)) (v)).2) (qa9) ((0 : Int))).1)).2) (ra9) ((1 : Int))).1)).2) else ((0 : Int), x)) = F_p_encloses x ra9 qa9 v := rfl
    refine lv_aload_n hx hb dX5_encloses_0 rfl (lv_at hl 0 rfl) ?_
    refine va_get (D := (dC, dI)) (ci := 5) (v := .ref (ad (58))) (C := RX5) (T := TX5) (N := 4) hx hb hts hinX5 hown hK hP (79) (kg79 (by omega)) rfl 0 (by decide) (hts (.fieldLink RX5 7 "LikeWords$Proof" "rules" "LLikeWords$Rules;") (by decide +kernel)) (fun _ h9 => h9) rfl dX5_encloses_1 ?_
    refine lv_iload_n hx hb dX5_encloses_4 rfl (lv_at hl 2 rfl) ?_
    refine lv_iconst (v := iI (1 : Int)) hx hb dX5_encloses_5 (by decide) ?_
    have hFc : ∀ q, va_A (kWd cI cJ cZ cR wl ad M (x)) H.size q → A q := fun q hq => Or.elim hq (fun ⟨k, e, hk⟩ => hD.2 k (q, e) hk) (fun hk => hA q (Nat.le_trans hS.1 hk))
    refine va_calli (va_runV (b := ad (58)) (As := [.int (iI (qa9)), .int (iI ((1 : Int)))]) (rest := []) ⟨hx, hb, hml, hown, hts⟩ (c_u_spanOf l dC dI ad cI cJ cZ cR M wl H.size (x)  (qa9) ((1 : Int)) hM rq9 (Or.inr rfl)) (cwV 2 hts gX5_encloses_X7_spanOf rfl rfl rfl (by decide +kernel) ⟨Nat.le_of_ble_eq_true rfl, Nat.le_of_ble_eq_true rfl⟩) ⟨fun a U g mk q => by obtain ⟨q0, q1, qP, qK, qD, qN⟩ := q; exact ⟨q0, q1, qP, va_K.moved (u := U) (U := U.calling g mk a) (Vm.Alike.refl U.vm) qK, qD, kNw.same (u := U) (U := U.calling g mk a) rfl qN⟩, va_recv hK hP (ci := 7) (q0 := 58) rfl (kg58 (by omega)), fun U hU hW => ⟨rfl, by rw [hU], by rw [hU]; exact hP, va_K.moved hW.alike hK, hD.weaken (fun _ _ _ _ => trivial), kNw.warm hW hNw⟩⟩ rfl rfl hl.1 rfl (lv_room (Nat.le_of_ble_eq_true rfl)) dX5_encloses_6 ⟨Nat.le_of_ble_eq_true rfl, Nat.le_of_ble_eq_true rfl⟩) hS (fun q _ h => hFc q h) hFc (fun r9 u9 t H1 locs ht hvm hw hB hz1 hk1 hS => ?_)
    obtain ⟨hP1, hK1, hD1⟩ := hB
    rw [ht] at hP1
    obtain ⟨hw1, hw2⟩ := hw
    rw [hw2] at hP1 hD1
    rw [hw1]
    rw [F_u_spanOf_2] at hP1 hD1
    have hD2 := hD1.weaken (B := A) (fun _ q _ h => hFc q.1 h)
    have hP := hP1
    have hD := hD2
    generalize H1 = H at hP hS ⊢
    refine lv_istore (lv' := [(4, .int (iI ((F_u_spanOf (x) (qa9) ((1 : Int))).1))), (0, .ref (ad (79))), (1, .int (iI (ra9))), (2, .int (iI (qa9))), (3, .int (iI (v)))]) hx hb dX5_encloses_9 hl (by decide) rfl (fun ls hl => ?_)
    refine lv_aload_n hx hb dX5_encloses_11 rfl (lv_at hl 1 rfl) ?_
    refine va_get (D := (dC, dI)) (ci := 5) (v := .ref (ad (58))) (C := RX5) (T := TX5) (N := 4) hx hb hts hinX5 hown hK hP (79) (kg79 (by omega)) rfl 0 (by decide) (hts (.fieldLink RX5 7 "LikeWords$Proof" "rules" "LLikeWords$Rules;") (by decide +kernel)) (fun _ h9 => h9) rfl dX5_encloses_12 ?_
    refine lv_iload_n hx hb dX5_encloses_15 rfl (lv_at hl 2 rfl) ?_
    refine lv_iload_n hx hb dX5_encloses_16 rfl (lv_at hl 4 rfl) ?_
    refine lv_iload_n hx hb dX5_encloses_17 rfl (lv_at hl 4 rfl) ?_
    refine lv_iload hx hb dX5_encloses_18 (lv_at hl 0 rfl) ?_
    refine wi_iadd hx hb dX5_encloses_20 ?_
    have hFc : ∀ q, va_A (kWd cI cJ cZ cR wl ad M (x)) H.size q → A q := fun q hq => Or.elim hq (fun ⟨k, e, hk⟩ => hD.2 k (q, e) hk) (fun hk => hA q (Nat.le_trans hS.1 hk))
    refine va_calll (va_runV (b := ad (58)) (As := [.int (iI (ra9)), .int (iI (v)), .int (iI ((v) + ((F_u_spanOf (x) (qa9) ((1 : Int))).1)))]) (rest := []) ⟨hx, hb, hml, hown, hts⟩ (c_u_leftPart l dC dI ad cI cJ cZ cR M wl H.size (x)  (ra9) (v) ((v) + ((F_u_spanOf (x) (qa9) ((1 : Int))).1)) hM rr9) (cwV 3 hts gX5_encloses_X7_leftPart rfl rfl rfl (by decide +kernel) ⟨Nat.le_of_ble_eq_true rfl, Nat.le_of_ble_eq_true rfl⟩) ⟨fun a U g mk q => by obtain ⟨q0, q1, qP, qK, qD, qN⟩ := q; exact ⟨q0, q1, qP, va_K.moved (u := U) (U := U.calling g mk a) (Vm.Alike.refl U.vm) qK, qD, kNw.same (u := U) (U := U.calling g mk a) rfl qN⟩, va_recv hK hP (ci := 7) (q0 := 58) rfl (kg58 (by omega)), fun U hU hW => ⟨rfl, by rw [hU], by rw [hU]; exact hP, va_K.moved hW.alike hK, hD.weaken (fun _ _ _ _ => trivial), kNw.warm hW hNw⟩⟩ rfl rfl hl.1 rfl (lv_room (Nat.le_of_ble_eq_true rfl)) dX5_encloses_21 ⟨Nat.le_of_ble_eq_true rfl, Nat.le_of_ble_eq_true rfl⟩) hS (fun q _ h => hFc q h) hFc (fun r9 u9 t H1 locs ht hvm hw hB hz1 hk1 hS => ?_)
    obtain ⟨hP1, hK1, hD1⟩ := hB
    rw [ht] at hP1
    obtain ⟨hw1, hw2⟩ := hw
    rw [hw2] at hP1 hD1
    rw [hw1]
    rw [F_u_leftPart_2] at hP1 hD1
    have hD2 := hD1.weaken (B := A) (fun _ q _ h => hFc q.1 h)
    have hP := hP1
    have hD := hD2
    generalize H1 = H at hP hS ⊢
    refine lv_aload_n hx hb dX5_encloses_24 rfl (lv_at hl 1 rfl) ?_
    refine va_get (D := (dC, dI)) (ci := 5) (v := .ref (ad (58))) (C := RX5) (T := TX5) (N := 4) hx hb hts hinX5 hown hK hP (79) (kg79 (by omega)) rfl 0 (by decide) (hts (.fieldLink RX5 7 "LikeWords$Proof" "rules" "LLikeWords$Rules;") (by decide +kernel)) (fun _ h9 => h9) rfl dX5_encloses_25 ?_
    refine lv_iload_n hx hb dX5_encloses_28 rfl (lv_at hl 3 rfl) ?_
    refine lv_iconst (v := iI (0 : Int)) hx hb dX5_encloses_29 (by decide) ?_
    refine lv_iload hx hb dX5_encloses_30 (lv_at hl 0 rfl) ?_
    have hFc : ∀ q, va_A (kWd cI cJ cZ cR wl ad M (x)) H.size q → A q := fun q hq => Or.elim hq (fun ⟨k, e, hk⟩ => hD.2 k (q, e) hk) (fun hk => hA q (Nat.le_trans hS.1 hk))
    refine va_calll (va_runV (b := ad (58)) (As := [.int (iI (qa9)), .int (iI ((0 : Int))), .int (iI ((F_u_spanOf (x) (qa9) ((1 : Int))).1))]) (rest := [.long (iL ((F_u_leftPart (x) (ra9) (v) ((v) + ((F_u_spanOf (x) (qa9) ((1 : Int))).1))).1))]) ⟨hx, hb, hml, hown, hts⟩ (c_u_leftPart l dC dI ad cI cJ cZ cR M wl H.size (x)  (qa9) ((0 : Int)) ((F_u_spanOf (x) (qa9) ((1 : Int))).1) hM rq9) (cwV 3 hts gX5_encloses_X7_leftPart rfl rfl rfl (by decide +kernel) ⟨Nat.le_of_ble_eq_true rfl, Nat.le_of_ble_eq_true rfl⟩) ⟨fun a U g mk q => by obtain ⟨q0, q1, qP, qK, qD, qN⟩ := q; exact ⟨q0, q1, qP, va_K.moved (u := U) (U := U.calling g mk a) (Vm.Alike.refl U.vm) qK, qD, kNw.same (u := U) (U := U.calling g mk a) rfl qN⟩, va_recv hK hP (ci := 7) (q0 := 58) rfl (kg58 (by omega)), fun U hU hW => ⟨rfl, by rw [hU], by rw [hU]; exact hP, va_K.moved hW.alike hK, hD.weaken (fun _ _ _ _ => trivial), kNw.warm hW hNw⟩⟩ rfl rfl hl.1 rfl (lv_room (Nat.le_of_ble_eq_true rfl)) dX5_encloses_32 ⟨Nat.le_of_ble_eq_true rfl, Nat.le_of_ble_eq_true rfl⟩) hS (fun q _ h => hFc q h) hFc (fun r9 u9 t H1 locs ht hvm hw hB hz1 hk1 hS => ?_)
    obtain ⟨hP1, hK1, hD1⟩ := hB
    rw [ht] at hP1
    obtain ⟨hw1, hw2⟩ := hw
    rw [hw2] at hP1 hD1
    rw [hw1]
    rw [F_u_leftPart_2] at hP1 hD1
    have hD2 := hD1.weaken (B := A) (fun _ q _ h => hFc q.1 h)
    have hP := hP1
    have hD := hD2
    generalize H1 = H at hP hS ⊢
    refine wi_lcmp hx hb (F_u_leftPart_RL _ _ _ _) (F_u_leftPart_RL _ _ _ _) dX5_encloses_35 ?_
    refine wi_if_eq (tgt := 41) hx hb iC_R dX5_encloses_36 (by decide) (fun c_36 => ?_) (fun c_36 => ?_)
    · skip
      rw [if_pos c_36] at hres
      refine lv_aload_n hx hb dX5_encloses_41 rfl (lv_at hl 1 rfl) ?_
      refine va_get (D := (dC, dI)) (ci := 5) (v := .ref (ad (73))) (C := RX5) (T := TX5) (N := 4) hx hb hts hinX5 hown hK hP (79) (kg79 (by omega)) rfl 2 (by decide) (hts (.fieldLink RX5 17 "LikeWords$Proof" "one" "LLikeWords$Word;") (by decide +kernel)) (fun _ h9 => h9) rfl dX5_encloses_42 ?_
      have hFc : ∀ q, va_A (kWd cI cJ cZ cR wl ad M (x)) H.size q → A q := fun q hq => Or.elim hq (fun ⟨k, e, hk⟩ => hD.2 k (q, e) hk) (fun hk => hA q (Nat.le_trans hS.1 hk))
      refine va_callv (va_runV (b := ad (73)) (As := []) (rest := []) ⟨hx, hb, hml, hown, hts⟩ (c_w_wipe l dC dI ad cI cJ cZ cR M wl H.size (x) (73)  hM rfl (by omega) ) (cwV 0 hts gX5_encloses_X10_wipe rfl rfl rfl (by decide +kernel) ⟨Nat.le_of_ble_eq_true rfl, Nat.le_of_ble_eq_true rfl⟩) ⟨fun a U g mk q => by obtain ⟨q0, q1, qP, qK, qD, qN⟩ := q; exact ⟨q0, q1, qP, va_K.moved (u := U) (U := U.calling g mk a) (Vm.Alike.refl U.vm) qK, qD, kNw.same (u := U) (U := U.calling g mk a) rfl qN⟩, va_recv hK hP (ci := 10) (q0 := 73) rfl (kgw rfl (by omega)), fun U hU hW => ⟨rfl, by rw [hU], by rw [hU]; exact hP, va_K.moved hW.alike hK, hD.weaken (fun _ _ _ _ => trivial), kNw.warm hW hNw⟩⟩ rfl rfl hl.1 rfl (lv_room (Nat.le_of_ble_eq_true rfl)) dX5_encloses_45 ⟨Nat.le_of_ble_eq_true rfl, Nat.le_of_ble_eq_true rfl⟩) hS (fun q _ h => hFc q h) hFc (fun u9 t H1 locs ht hvm hw hB hz1 hk1 hS => ?_)
      obtain ⟨hP1, hK1, hD1⟩ := hB
      rw [ht] at hP1
      rw [hw] at hP1 hD1
      have hD2 := hD1.weaken (B := A) (fun _ q _ h => hFc q.1 h)
      have hP := hP1
      have hD := hD2
      generalize H1 = H at hP hS ⊢
      refine lv_aload_n hx hb dX5_encloses_48 rfl (lv_at hl 1 rfl) ?_
      refine va_get (D := (dC, dI)) (ci := 5) (v := .ref (ad (58))) (C := RX5) (T := TX5) (N := 4) hx hb hts hinX5 hown hK hP (79) (kg79 (by omega)) rfl 0 (by decide) (hts (.fieldLink RX5 7 "LikeWords$Proof" "rules" "LLikeWords$Rules;") (by decide +kernel)) (fun _ h9 => h9) rfl dX5_encloses_49 ?_
      refine lv_iload_n hx hb dX5_encloses_52 rfl (lv_at hl 2 rfl) ?_
      refine lv_iconst (v := iI (0 : Int)) hx hb dX5_encloses_53 (by decide) ?_
      refine lv_iconst (v := iI (0 : Int)) hx hb dX5_encloses_54 (by decide) ?_
      refine lv_aload_n hx hb dX5_encloses_55 rfl (lv_at hl 1 rfl) ?_
      refine va_get (D := (dC, dI)) (ci := 5) (v := .ref (ad (58))) (C := RX5) (T := TX5) (N := 4) hx hb hts hinX5 hown hK hP (79) (kg79 (by omega)) rfl 0 (by decide) (hts (.fieldLink RX5 7 "LikeWords$Proof" "rules" "LLikeWords$Rules;") (by decide +kernel)) (fun _ h9 => h9) rfl dX5_encloses_56 ?_
      refine lv_iload_n hx hb dX5_encloses_59 rfl (lv_at hl 2 rfl) ?_
      refine lv_iconst (v := iI (0 : Int)) hx hb dX5_encloses_60 (by decide) ?_
      have sq1 := F_u_spanOf_b (x := (F_w_wipe (x) (73)).2) (ruR_q (F_w_wipe_q _ _ rfl) ru) ra9 0
      have hFc : ∀ q, va_A (kWd cI cJ cZ cR wl ad M ((F_w_wipe (x) (73)).2)) H.size q → A q := fun q hq => Or.elim hq (fun ⟨k, e, hk⟩ => hD.2 k (q, e) hk) (fun hk => hA q (Nat.le_trans hS.1 hk))
      refine va_calli (va_runV (b := ad (58)) (As := [.int (iI (ra9)), .int (iI ((0 : Int)))]) (rest := [.int (iI ((0 : Int))), .int (iI ((0 : Int))), .int (iI (ra9)), .ref (ad (58))]) ⟨hx, hb, hml, hown, hts⟩ (c_u_spanOf l dC dI ad cI cJ cZ cR M wl H.size ((F_w_wipe (x) (73)).2)  (ra9) ((0 : Int)) hM rr9 (Or.inl rfl)) (cwV 2 hts gX5_encloses_X7_spanOf rfl rfl rfl (by decide +kernel) ⟨Nat.le_of_ble_eq_true rfl, Nat.le_of_ble_eq_true rfl⟩) ⟨fun a U g mk q => by obtain ⟨q0, q1, qP, qK, qD, qN⟩ := q; exact ⟨q0, q1, qP, va_K.moved (u := U) (U := U.calling g mk a) (Vm.Alike.refl U.vm) qK, qD, kNw.same (u := U) (U := U.calling g mk a) rfl qN⟩, va_recv hK hP (ci := 7) (q0 := 58) rfl (kg58 (by omega)), fun U hU hW => ⟨rfl, by rw [hU], by rw [hU]; exact hP, va_K.moved hW.alike hK, hD.weaken (fun _ _ _ _ => trivial), kNw.warm hW hNw⟩⟩ rfl rfl hl.1 rfl (lv_room (Nat.le_of_ble_eq_true rfl)) dX5_encloses_61 ⟨Nat.le_of_ble_eq_true rfl, Nat.le_of_ble_eq_true rfl⟩) hS (fun q _ h => hFc q h) hFc (fun r9 u9 t H1 locs ht hvm hw hB hz1 hk1 hS => ?_)
      obtain ⟨hP1, hK1, hD1⟩ := hB
      rw [ht] at hP1
      obtain ⟨hw1, hw2⟩ := hw
      rw [hw2] at hP1 hD1
      rw [hw1]
      rw [F_u_spanOf_2] at hP1 hD1
      have hD2 := hD1.weaken (B := A) (fun _ q _ h => hFc q.1 h)
      have hP := hP1
      have hD := hD2
      generalize H1 = H at hP hS ⊢
      refine lv_aload_n hx hb dX5_encloses_64 rfl (lv_at hl 1 rfl) ?_
      refine va_get (D := (dC, dI)) (ci := 5) (v := .ref (ad (73))) (C := RX5) (T := TX5) (N := 4) hx hb hts hinX5 hown hK hP (79) (kg79 (by omega)) rfl 2 (by decide) (hts (.fieldLink RX5 17 "LikeWords$Proof" "one" "LLikeWords$Word;") (by decide +kernel)) (fun _ h9 => h9) rfl dX5_encloses_65 ?_
      have hFc : ∀ q, va_A (kWd cI cJ cZ cR wl ad M ((F_w_wipe (x) (73)).2)) H.size q → A q := fun q hq => Or.elim hq (fun ⟨k, e, hk⟩ => hD.2 k (q, e) hk) (fun hk => hA q (Nat.le_trans hS.1 hk))
      refine va_callv (va_runV (b := ad (58)) (As := [.int (iI (ra9)), .int (iI ((0 : Int))), .int (iI ((0 : Int))), .int (iI ((F_u_spanOf ((F_w_wipe (x) (73)).2) (ra9) ((0 : Int))).1)), .ref (ad (73))]) (rest := []) ⟨hx, hb, hml, hown, hts⟩ (c_u_copy l dC dI ad cI cJ cZ cR M wl H.size ((F_w_wipe (x) (73)).2) (73) (ra9) ((0 : Int)) ((0 : Int)) ((F_u_spanOf ((F_w_wipe (x) (73)).2) (ra9) ((0 : Int))).1) hM rfl (by omega) rr9 (Or.inl rfl) (by omega) (by omega) (by omega) (by omega) (wUb_wipe _ _).1 (wUb_wipe _ _).2) (cwV 5 hts gX5_encloses_X7_copy rfl rfl rfl (by decide +kernel) ⟨Nat.le_of_ble_eq_true rfl, Nat.le_of_ble_eq_true rfl⟩) ⟨fun a U g mk q => by obtain ⟨q0, q1, qP, qK, qD, qN⟩ := q; exact ⟨q0, q1, qP, va_K.moved (u := U) (U := U.calling g mk a) (Vm.Alike.refl U.vm) qK, qD, kNw.same (u := U) (U := U.calling g mk a) rfl qN⟩, va_recv hK hP (ci := 7) (q0 := 58) rfl (kg58 (by omega)), fun U hU hW => ⟨rfl, by rw [hU], by rw [hU]; exact hP, va_K.moved hW.alike hK, hD.weaken (fun _ _ _ _ => trivial), kNw.warm hW hNw⟩⟩ rfl rfl hl.1 rfl (lv_room (Nat.le_of_ble_eq_true rfl)) dX5_encloses_68 ⟨Nat.le_of_ble_eq_true rfl, Nat.le_of_ble_eq_true rfl⟩) hS (fun q _ h => hFc q h) hFc (fun u9 t H1 locs ht hvm hw hB hz1 hk1 hS => ?_)
      obtain ⟨hP1, hK1, hD1⟩ := hB
      rw [ht] at hP1
      rw [hw] at hP1 hD1
      have hD2 := hD1.weaken (B := A) (fun _ q _ h => hFc q.1 h)
      have hP := hP1
      have hD := hD2
      generalize H1 = H at hP hS ⊢
      refine lv_aload_n hx hb dX5_encloses_71 rfl (lv_at hl 1 rfl) ?_
      refine va_get (D := (dC, dI)) (ci := 5) (v := .ref (ad (75))) (C := RX5) (T := TX5) (N := 4) hx hb hts hinX5 hown hK hP (79) (kg79 (by omega)) rfl 3 (by decide) (hts (.fieldLink RX5 21 "LikeWords$Proof" "other" "LLikeWords$Word;") (by decide +kernel)) (fun _ h9 => h9) rfl dX5_encloses_72 ?_
      have hFc : ∀ q, va_A (kWd cI cJ cZ cR wl ad M ((F_u_copy ((F_w_wipe (x) (73)).2) (73) (ra9) ((0 : Int)) ((0 : Int)) ((F_u_spanOf ((F_w_wipe (x) (73)).2) (ra9) ((0 : Int))).1)).2)) H.size q → A q := fun q hq => Or.elim hq (fun ⟨k, e, hk⟩ => hD.2 k (q, e) hk) (fun hk => hA q (Nat.le_trans hS.1 hk))
      refine va_callv (va_runV (b := ad (75)) (As := []) (rest := []) ⟨hx, hb, hml, hown, hts⟩ (c_w_wipe l dC dI ad cI cJ cZ cR M wl H.size ((F_u_copy ((F_w_wipe (x) (73)).2) (73) (ra9) ((0 : Int)) ((0 : Int)) ((F_u_spanOf ((F_w_wipe (x) (73)).2) (ra9) ((0 : Int))).1)).2) (75)  hM rfl (by omega) ) (cwV 0 hts gX5_encloses_X10_wipe rfl rfl rfl (by decide +kernel) ⟨Nat.le_of_ble_eq_true rfl, Nat.le_of_ble_eq_true rfl⟩) ⟨fun a U g mk q => by obtain ⟨q0, q1, qP, qK, qD, qN⟩ := q; exact ⟨q0, q1, qP, va_K.moved (u := U) (U := U.calling g mk a) (Vm.Alike.refl U.vm) qK, qD, kNw.same (u := U) (U := U.calling g mk a) rfl qN⟩, va_recv hK hP (ci := 10) (q0 := 75) rfl (kgw rfl (by omega)), fun U hU hW => ⟨rfl, by rw [hU], by rw [hU]; exact hP, va_K.moved hW.alike hK, hD.weaken (fun _ _ _ _ => trivial), kNw.warm hW hNw⟩⟩ rfl rfl hl.1 rfl (lv_room (Nat.le_of_ble_eq_true rfl)) dX5_encloses_75 ⟨Nat.le_of_ble_eq_true rfl, Nat.le_of_ble_eq_true rfl⟩) hS (fun q _ h => hFc q h) hFc (fun u9 t H1 locs ht hvm hw hB hz1 hk1 hS => ?_)
      obtain ⟨hP1, hK1, hD1⟩ := hB
      rw [ht] at hP1
      rw [hw] at hP1 hD1
      have hD2 := hD1.weaken (B := A) (fun _ q _ h => hFc q.1 h)
      have hP := hP1
      have hD := hD2
      generalize H1 = H at hP hS ⊢
      refine lv_aload_n hx hb dX5_encloses_78 rfl (lv_at hl 1 rfl) ?_
      refine va_get (D := (dC, dI)) (ci := 5) (v := .ref (ad (58))) (C := RX5) (T := TX5) (N := 4) hx hb hts hinX5 hown hK hP (79) (kg79 (by omega)) rfl 0 (by decide) (hts (.fieldLink RX5 7 "LikeWords$Proof" "rules" "LLikeWords$Rules;") (by decide +kernel)) (fun _ h9 => h9) rfl dX5_encloses_79 ?_
      refine lv_iload_n hx hb dX5_encloses_82 rfl (lv_at hl 2 rfl) ?_
      refine lv_iconst (v := iI (1 : Int)) hx hb dX5_encloses_83 (by decide) ?_
      refine lv_iconst (v := iI (0 : Int)) hx hb dX5_encloses_84 (by decide) ?_
      refine lv_iload_n hx hb dX5_encloses_85 rfl (lv_at hl 4 rfl) ?_
      refine lv_aload_n hx hb dX5_encloses_86 rfl (lv_at hl 1 rfl) ?_
      refine va_get (D := (dC, dI)) (ci := 5) (v := .ref (ad (75))) (C := RX5) (T := TX5) (N := 4) hx hb hts hinX5 hown hK hP (79) (kg79 (by omega)) rfl 3 (by decide) (hts (.fieldLink RX5 21 "LikeWords$Proof" "other" "LLikeWords$Word;") (by decide +kernel)) (fun _ h9 => h9) rfl dX5_encloses_87 ?_
      have hFc : ∀ q, va_A (kWd cI cJ cZ cR wl ad M ((F_w_wipe ((F_u_copy ((F_w_wipe (x) (73)).2) (73) (ra9) ((0 : Int)) ((0 : Int)) ((F_u_spanOf ((F_w_wipe (x) (73)).2) (ra9) ((0 : Int))).1)).2) (75)).2)) H.size q → A q := fun q hq => Or.elim hq (fun ⟨k, e, hk⟩ => hD.2 k (q, e) hk) (fun hk => hA q (Nat.le_trans hS.1 hk))
      refine va_callv (va_runV (b := ad (58)) (As := [.int (iI (ra9)), .int (iI ((1 : Int))), .int (iI ((0 : Int))), .int (iI (v)), .ref (ad (75))]) (rest := []) ⟨hx, hb, hml, hown, hts⟩ (c_u_copy l dC dI ad cI cJ cZ cR M wl H.size ((F_w_wipe ((F_u_copy ((F_w_wipe (x) (73)).2) (73) (ra9) ((0 : Int)) ((0 : Int)) ((F_u_spanOf ((F_w_wipe (x) (73)).2) (ra9) ((0 : Int))).1)).2) (75)).2) (75) (ra9) ((1 : Int)) ((0 : Int)) (v) hM rfl (by omega) rr9 (Or.inr rfl) (by omega) (by omega) (by omega) (by omega) (wUb_wipe _ _).1 (wUb_wipe _ _).2) (cwV 5 hts gX5_encloses_X7_copy rfl rfl rfl (by decide +kernel) ⟨Nat.le_of_ble_eq_true rfl, Nat.le_of_ble_eq_true rfl⟩) ⟨fun a U g mk q => by obtain ⟨q0, q1, qP, qK, qD, qN⟩ := q; exact ⟨q0, q1, qP, va_K.moved (u := U) (U := U.calling g mk a) (Vm.Alike.refl U.vm) qK, qD, kNw.same (u := U) (U := U.calling g mk a) rfl qN⟩, va_recv hK hP (ci := 7) (q0 := 58) rfl (kg58 (by omega)), fun U hU hW => ⟨rfl, by rw [hU], by rw [hU]; exact hP, va_K.moved hW.alike hK, hD.weaken (fun _ _ _ _ => trivial), kNw.warm hW hNw⟩⟩ rfl rfl hl.1 rfl (lv_room (Nat.le_of_ble_eq_true rfl)) dX5_encloses_90 ⟨Nat.le_of_ble_eq_true rfl, Nat.le_of_ble_eq_true rfl⟩) hS (fun q _ h => hFc q h) hFc (fun u9 t H1 locs ht hvm hw hB hz1 hk1 hS => ?_)
      obtain ⟨hP1, hK1, hD1⟩ := hB
      rw [ht] at hP1
      rw [hw] at hP1 hD1
      have hD2 := hD1.weaken (B := A) (fun _ q _ h => hFc q.1 h)
      have hP := hP1
      have hD := hD2
      generalize H1 = H at hP hS ⊢
      refine lv_aload_n hx hb dX5_encloses_93 rfl (lv_at hl 1 rfl) ?_
      refine va_get (D := (dC, dI)) (ci := 5) (v := .ref (ad (58))) (C := RX5) (T := TX5) (N := 4) hx hb hts hinX5 hown hK hP (79) (kg79 (by omega)) rfl 0 (by decide) (hts (.fieldLink RX5 7 "LikeWords$Proof" "rules" "LLikeWords$Rules;") (by decide +kernel)) (fun _ h9 => h9) rfl dX5_encloses_94 ?_
      refine lv_iload_n hx hb dX5_encloses_97 rfl (lv_at hl 3 rfl) ?_
      refine lv_iconst (v := iI (0 : Int)) hx hb dX5_encloses_98 (by decide) ?_
      refine lv_iconst (v := iI (0 : Int)) hx hb dX5_encloses_99 (by decide) ?_
      refine lv_aload_n hx hb dX5_encloses_100 rfl (lv_at hl 1 rfl) ?_
      refine va_get (D := (dC, dI)) (ci := 5) (v := .ref (ad (58))) (C := RX5) (T := TX5) (N := 4) hx hb hts hinX5 hown hK hP (79) (kg79 (by omega)) rfl 0 (by decide) (hts (.fieldLink RX5 7 "LikeWords$Proof" "rules" "LLikeWords$Rules;") (by decide +kernel)) (fun _ h9 => h9) rfl dX5_encloses_101 ?_
      refine lv_iload_n hx hb dX5_encloses_104 rfl (lv_at hl 3 rfl) ?_
      refine lv_iconst (v := iI (0 : Int)) hx hb dX5_encloses_105 (by decide) ?_
      have sq2 := F_u_spanOf_b (x := (F_u_copy ((F_w_wipe ((F_u_copy ((F_w_wipe (x) (73)).2) (73) (ra9) ((0 : Int)) ((0 : Int)) ((F_u_spanOf ((F_w_wipe (x) (73)).2) (ra9) ((0 : Int))).1)).2) (75)).2) (75) (ra9) ((1 : Int)) ((0 : Int)) (v)).2) (ruR_q (F_u_copy_q _ _ _ _ _ _ rfl) (ruR_q (F_w_wipe_q _ _ rfl) (ruR_q (F_u_copy_q _ _ _ _ _ _ rfl) (ruR_q (F_w_wipe_q _ _ rfl) ru)))) qa9 0
      have hFc : ∀ q, va_A (kWd cI cJ cZ cR wl ad M ((F_u_copy ((F_w_wipe ((F_u_copy ((F_w_wipe (x) (73)).2) (73) (ra9) ((0 : Int)) ((0 : Int)) ((F_u_spanOf ((F_w_wipe (x) (73)).2) (ra9) ((0 : Int))).1)).2) (75)).2) (75) (ra9) ((1 : Int)) ((0 : Int)) (v)).2)) H.size q → A q := fun q hq => Or.elim hq (fun ⟨k, e, hk⟩ => hD.2 k (q, e) hk) (fun hk => hA q (Nat.le_trans hS.1 hk))
      refine va_calli (va_runV (b := ad (58)) (As := [.int (iI (qa9)), .int (iI ((0 : Int)))]) (rest := [.int (iI ((0 : Int))), .int (iI ((0 : Int))), .int (iI (qa9)), .ref (ad (58))]) ⟨hx, hb, hml, hown, hts⟩ (c_u_spanOf l dC dI ad cI cJ cZ cR M wl H.size ((F_u_copy ((F_w_wipe ((F_u_copy ((F_w_wipe (x) (73)).2) (73) (ra9) ((0 : Int)) ((0 : Int)) ((F_u_spanOf ((F_w_wipe (x) (73)).2) (ra9) ((0 : Int))).1)).2) (75)).2) (75) (ra9) ((1 : Int)) ((0 : Int)) (v)).2)  (qa9) ((0 : Int)) hM rq9 (Or.inl rfl)) (cwV 2 hts gX5_encloses_X7_spanOf rfl rfl rfl (by decide +kernel) ⟨Nat.le_of_ble_eq_true rfl, Nat.le_of_ble_eq_true rfl⟩) ⟨fun a U g mk q => by obtain ⟨q0, q1, qP, qK, qD, qN⟩ := q; exact ⟨q0, q1, qP, va_K.moved (u := U) (U := U.calling g mk a) (Vm.Alike.refl U.vm) qK, qD, kNw.same (u := U) (U := U.calling g mk a) rfl qN⟩, va_recv hK hP (ci := 7) (q0 := 58) rfl (kg58 (by omega)), fun U hU hW => ⟨rfl, by rw [hU], by rw [hU]; exact hP, va_K.moved hW.alike hK, hD.weaken (fun _ _ _ _ => trivial), kNw.warm hW hNw⟩⟩ rfl rfl hl.1 rfl (lv_room (Nat.le_of_ble_eq_true rfl)) dX5_encloses_106 ⟨Nat.le_of_ble_eq_true rfl, Nat.le_of_ble_eq_true rfl⟩) hS (fun q _ h => hFc q h) hFc (fun r9 u9 t H1 locs ht hvm hw hB hz1 hk1 hS => ?_)
      obtain ⟨hP1, hK1, hD1⟩ := hB
      rw [ht] at hP1
      obtain ⟨hw1, hw2⟩ := hw
      rw [hw2] at hP1 hD1
      rw [hw1]
      rw [F_u_spanOf_2] at hP1 hD1
      have hD2 := hD1.weaken (B := A) (fun _ q _ h => hFc q.1 h)
      have hP := hP1
      have hD := hD2
      generalize H1 = H at hP hS ⊢
      refine lv_aload_n hx hb dX5_encloses_109 rfl (lv_at hl 1 rfl) ?_
      refine va_get (D := (dC, dI)) (ci := 5) (v := .ref (ad (75))) (C := RX5) (T := TX5) (N := 4) hx hb hts hinX5 hown hK hP (79) (kg79 (by omega)) rfl 3 (by decide) (hts (.fieldLink RX5 21 "LikeWords$Proof" "other" "LLikeWords$Word;") (by decide +kernel)) (fun _ h9 => h9) rfl dX5_encloses_110 ?_
      have hFc : ∀ q, va_A (kWd cI cJ cZ cR wl ad M ((F_u_copy ((F_w_wipe ((F_u_copy ((F_w_wipe (x) (73)).2) (73) (ra9) ((0 : Int)) ((0 : Int)) ((F_u_spanOf ((F_w_wipe (x) (73)).2) (ra9) ((0 : Int))).1)).2) (75)).2) (75) (ra9) ((1 : Int)) ((0 : Int)) (v)).2)) H.size q → A q := fun q hq => Or.elim hq (fun ⟨k, e, hk⟩ => hD.2 k (q, e) hk) (fun hk => hA q (Nat.le_trans hS.1 hk))
      refine va_callv (va_runV (b := ad (58)) (As := [.int (iI (qa9)), .int (iI ((0 : Int))), .int (iI ((0 : Int))), .int (iI ((F_u_spanOf ((F_u_copy ((F_w_wipe ((F_u_copy ((F_w_wipe (x) (73)).2) (73) (ra9) ((0 : Int)) ((0 : Int)) ((F_u_spanOf ((F_w_wipe (x) (73)).2) (ra9) ((0 : Int))).1)).2) (75)).2) (75) (ra9) ((1 : Int)) ((0 : Int)) (v)).2) (qa9) ((0 : Int))).1)), .ref (ad (75))]) (rest := []) ⟨hx, hb, hml, hown, hts⟩ (c_u_copy l dC dI ad cI cJ cZ cR M wl H.size ((F_u_copy ((F_w_wipe ((F_u_copy ((F_w_wipe (x) (73)).2) (73) (ra9) ((0 : Int)) ((0 : Int)) ((F_u_spanOf ((F_w_wipe (x) (73)).2) (ra9) ((0 : Int))).1)).2) (75)).2) (75) (ra9) ((1 : Int)) ((0 : Int)) (v)).2) (75) (qa9) ((0 : Int)) ((0 : Int)) ((F_u_spanOf ((F_u_copy ((F_w_wipe ((F_u_copy ((F_w_wipe (x) (73)).2) (73) (ra9) ((0 : Int)) ((0 : Int)) ((F_u_spanOf ((F_w_wipe (x) (73)).2) (ra9) ((0 : Int))).1)).2) (75)).2) (75) (ra9) ((1 : Int)) ((0 : Int)) (v)).2) (qa9) ((0 : Int))).1) hM rfl (by omega) rq9 (Or.inl rfl) (by omega) (by omega) (by omega) (by omega) (F_u_copy_b rfl (wUb_wipe _ _)).1 (F_u_copy_b rfl (wUb_wipe _ _)).2) (cwV 5 hts gX5_encloses_X7_copy rfl rfl rfl (by decide +kernel) ⟨Nat.le_of_ble_eq_true rfl, Nat.le_of_ble_eq_true rfl⟩) ⟨fun a U g mk q => by obtain ⟨q0, q1, qP, qK, qD, qN⟩ := q; exact ⟨q0, q1, qP, va_K.moved (u := U) (U := U.calling g mk a) (Vm.Alike.refl U.vm) qK, qD, kNw.same (u := U) (U := U.calling g mk a) rfl qN⟩, va_recv hK hP (ci := 7) (q0 := 58) rfl (kg58 (by omega)), fun U hU hW => ⟨rfl, by rw [hU], by rw [hU]; exact hP, va_K.moved hW.alike hK, hD.weaken (fun _ _ _ _ => trivial), kNw.warm hW hNw⟩⟩ rfl rfl hl.1 rfl (lv_room (Nat.le_of_ble_eq_true rfl)) dX5_encloses_113 ⟨Nat.le_of_ble_eq_true rfl, Nat.le_of_ble_eq_true rfl⟩) hS (fun q _ h => hFc q h) hFc (fun u9 t H1 locs ht hvm hw hB hz1 hk1 hS => ?_)
      obtain ⟨hP1, hK1, hD1⟩ := hB
      rw [ht] at hP1
      rw [hw] at hP1 hD1
      have hD2 := hD1.weaken (B := A) (fun _ q _ h => hFc q.1 h)
      have hP := hP1
      have hD := hD2
      generalize H1 = H at hP hS ⊢
      refine lv_aload_n hx hb dX5_encloses_116 rfl (lv_at hl 1 rfl) ?_
      refine va_get (D := (dC, dI)) (ci := 5) (v := .ref (ad (58))) (C := RX5) (T := TX5) (N := 4) hx hb hts hinX5 hown hK hP (79) (kg79 (by omega)) rfl 0 (by decide) (hts (.fieldLink RX5 7 "LikeWords$Proof" "rules" "LLikeWords$Rules;") (by decide +kernel)) (fun _ h9 => h9) rfl dX5_encloses_117 ?_
      refine lv_iload_n hx hb dX5_encloses_120 rfl (lv_at hl 2 rfl) ?_
      refine lv_iconst (v := iI (1 : Int)) hx hb dX5_encloses_121 (by decide) ?_
      refine lv_iload_n hx hb dX5_encloses_122 rfl (lv_at hl 4 rfl) ?_
      refine lv_iload hx hb dX5_encloses_123 (lv_at hl 0 rfl) ?_
      refine wi_iadd hx hb dX5_encloses_125 ?_
      refine lv_aload_n hx hb dX5_encloses_126 rfl (lv_at hl 1 rfl) ?_
      refine va_get (D := (dC, dI)) (ci := 5) (v := .ref (ad (58))) (C := RX5) (T := TX5) (N := 4) hx hb hts hinX5 hown hK hP (79) (kg79 (by omega)) rfl 0 (by decide) (hts (.fieldLink RX5 7 "LikeWords$Proof" "rules" "LLikeWords$Rules;") (by decide +kernel)) (fun _ h9 => h9) rfl dX5_encloses_127 ?_
      refine lv_iload_n hx hb dX5_encloses_130 rfl (lv_at hl 2 rfl) ?_
      refine lv_iconst (v := iI (1 : Int)) hx hb dX5_encloses_131 (by decide) ?_
      have sq3 := F_u_spanOf_b (x := (F_u_copy ((F_u_copy ((F_w_wipe ((F_u_copy ((F_w_wipe (x) (73)).2) (73) (ra9) ((0 : Int)) ((0 : Int)) ((F_u_spanOf ((F_w_wipe (x) (73)).2) (ra9) ((0 : Int))).1)).2) (75)).2) (75) (ra9) ((1 : Int)) ((0 : Int)) (v)).2) (75) (qa9) ((0 : Int)) ((0 : Int)) ((F_u_spanOf ((F_u_copy ((F_w_wipe ((F_u_copy ((F_w_wipe (x) (73)).2) (73) (ra9) ((0 : Int)) ((0 : Int)) ((F_u_spanOf ((F_w_wipe (x) (73)).2) (ra9) ((0 : Int))).1)).2) (75)).2) (75) (ra9) ((1 : Int)) ((0 : Int)) (v)).2) (qa9) ((0 : Int))).1)).2) (ruR_q (F_u_copy_q _ _ _ _ _ _ rfl) (ruR_q (F_u_copy_q _ _ _ _ _ _ rfl) (ruR_q (F_w_wipe_q _ _ rfl) (ruR_q (F_u_copy_q _ _ _ _ _ _ rfl) (ruR_q (F_w_wipe_q _ _ rfl) ru))))) ra9 1
      have hFc : ∀ q, va_A (kWd cI cJ cZ cR wl ad M ((F_u_copy ((F_u_copy ((F_w_wipe ((F_u_copy ((F_w_wipe (x) (73)).2) (73) (ra9) ((0 : Int)) ((0 : Int)) ((F_u_spanOf ((F_w_wipe (x) (73)).2) (ra9) ((0 : Int))).1)).2) (75)).2) (75) (ra9) ((1 : Int)) ((0 : Int)) (v)).2) (75) (qa9) ((0 : Int)) ((0 : Int)) ((F_u_spanOf ((F_u_copy ((F_w_wipe ((F_u_copy ((F_w_wipe (x) (73)).2) (73) (ra9) ((0 : Int)) ((0 : Int)) ((F_u_spanOf ((F_w_wipe (x) (73)).2) (ra9) ((0 : Int))).1)).2) (75)).2) (75) (ra9) ((1 : Int)) ((0 : Int)) (v)).2) (qa9) ((0 : Int))).1)).2)) H.size q → A q := fun q hq => Or.elim hq (fun ⟨k, e, hk⟩ => hD.2 k (q, e) hk) (fun hk => hA q (Nat.le_trans hS.1 hk))
      refine va_calli (va_runV (b := ad (58)) (As := [.int (iI (ra9)), .int (iI ((1 : Int)))]) (rest := [.int (iI ((v) + ((F_u_spanOf (x) (qa9) ((1 : Int))).1))), .int (iI ((1 : Int))), .int (iI (ra9)), .ref (ad (58))]) ⟨hx, hb, hml, hown, hts⟩ (c_u_spanOf l dC dI ad cI cJ cZ cR M wl H.size ((F_u_copy ((F_u_copy ((F_w_wipe ((F_u_copy ((F_w_wipe (x) (73)).2) (73) (ra9) ((0 : Int)) ((0 : Int)) ((F_u_spanOf ((F_w_wipe (x) (73)).2) (ra9) ((0 : Int))).1)).2) (75)).2) (75) (ra9) ((1 : Int)) ((0 : Int)) (v)).2) (75) (qa9) ((0 : Int)) ((0 : Int)) ((F_u_spanOf ((F_u_copy ((F_w_wipe ((F_u_copy ((F_w_wipe (x) (73)).2) (73) (ra9) ((0 : Int)) ((0 : Int)) ((F_u_spanOf ((F_w_wipe (x) (73)).2) (ra9) ((0 : Int))).1)).2) (75)).2) (75) (ra9) ((1 : Int)) ((0 : Int)) (v)).2) (qa9) ((0 : Int))).1)).2)  (ra9) ((1 : Int)) hM rr9 (Or.inr rfl)) (cwV 2 hts gX5_encloses_X7_spanOf rfl rfl rfl (by decide +kernel) ⟨Nat.le_of_ble_eq_true rfl, Nat.le_of_ble_eq_true rfl⟩) ⟨fun a U g mk q => by obtain ⟨q0, q1, qP, qK, qD, qN⟩ := q; exact ⟨q0, q1, qP, va_K.moved (u := U) (U := U.calling g mk a) (Vm.Alike.refl U.vm) qK, qD, kNw.same (u := U) (U := U.calling g mk a) rfl qN⟩, va_recv hK hP (ci := 7) (q0 := 58) rfl (kg58 (by omega)), fun U hU hW => ⟨rfl, by rw [hU], by rw [hU]; exact hP, va_K.moved hW.alike hK, hD.weaken (fun _ _ _ _ => trivial), kNw.warm hW hNw⟩⟩ rfl rfl hl.1 rfl (lv_room (Nat.le_of_ble_eq_true rfl)) dX5_encloses_132 ⟨Nat.le_of_ble_eq_true rfl, Nat.le_of_ble_eq_true rfl⟩) hS (fun q _ h => hFc q h) hFc (fun r9 u9 t H1 locs ht hvm hw hB hz1 hk1 hS => ?_)
      obtain ⟨hP1, hK1, hD1⟩ := hB
      rw [ht] at hP1
      obtain ⟨hw1, hw2⟩ := hw
      rw [hw2] at hP1 hD1
      rw [hw1]
      rw [F_u_spanOf_2] at hP1 hD1
      have hD2 := hD1.weaken (B := A) (fun _ q _ h => hFc q.1 h)
      have hP := hP1
      have hD := hD2
      generalize H1 = H at hP hS ⊢
      refine lv_aload_n hx hb dX5_encloses_135 rfl (lv_at hl 1 rfl) ?_
      refine va_get (D := (dC, dI)) (ci := 5) (v := .ref (ad (75))) (C := RX5) (T := TX5) (N := 4) hx hb hts hinX5 hown hK hP (79) (kg79 (by omega)) rfl 3 (by decide) (hts (.fieldLink RX5 21 "LikeWords$Proof" "other" "LLikeWords$Word;") (by decide +kernel)) (fun _ h9 => h9) rfl dX5_encloses_136 ?_
      have hFc : ∀ q, va_A (kWd cI cJ cZ cR wl ad M ((F_u_copy ((F_u_copy ((F_w_wipe ((F_u_copy ((F_w_wipe (x) (73)).2) (73) (ra9) ((0 : Int)) ((0 : Int)) ((F_u_spanOf ((F_w_wipe (x) (73)).2) (ra9) ((0 : Int))).1)).2) (75)).2) (75) (ra9) ((1 : Int)) ((0 : Int)) (v)).2) (75) (qa9) ((0 : Int)) ((0 : Int)) ((F_u_spanOf ((F_u_copy ((F_w_wipe ((F_u_copy ((F_w_wipe (x) (73)).2) (73) (ra9) ((0 : Int)) ((0 : Int)) ((F_u_spanOf ((F_w_wipe (x) (73)).2) (ra9) ((0 : Int))).1)).2) (75)).2) (75) (ra9) ((1 : Int)) ((0 : Int)) (v)).2) (qa9) ((0 : Int))).1)).2)) H.size q → A q := fun q hq => Or.elim hq (fun ⟨k, e, hk⟩ => hD.2 k (q, e) hk) (fun hk => hA q (Nat.le_trans hS.1 hk))
      refine va_callv (va_runV (b := ad (58)) (As := [.int (iI (ra9)), .int (iI ((1 : Int))), .int (iI ((v) + ((F_u_spanOf (x) (qa9) ((1 : Int))).1))), .int (iI ((F_u_spanOf ((F_u_copy ((F_u_copy ((F_w_wipe ((F_u_copy ((F_w_wipe (x) (73)).2) (73) (ra9) ((0 : Int)) ((0 : Int)) ((F_u_spanOf ((F_w_wipe (x) (73)).2) (ra9) ((0 : Int))).1)).2) (75)).2) (75) (ra9) ((1 : Int)) ((0 : Int)) (v)).2) (75) (qa9) ((0 : Int)) ((0 : Int)) ((F_u_spanOf ((F_u_copy ((F_w_wipe ((F_u_copy ((F_w_wipe (x) (73)).2) (73) (ra9) ((0 : Int)) ((0 : Int)) ((F_u_spanOf ((F_w_wipe (x) (73)).2) (ra9) ((0 : Int))).1)).2) (75)).2) (75) (ra9) ((1 : Int)) ((0 : Int)) (v)).2) (qa9) ((0 : Int))).1)).2) (ra9) ((1 : Int))).1)), .ref (ad (75))]) (rest := []) ⟨hx, hb, hml, hown, hts⟩ (c_u_copy l dC dI ad cI cJ cZ cR M wl H.size ((F_u_copy ((F_u_copy ((F_w_wipe ((F_u_copy ((F_w_wipe (x) (73)).2) (73) (ra9) ((0 : Int)) ((0 : Int)) ((F_u_spanOf ((F_w_wipe (x) (73)).2) (ra9) ((0 : Int))).1)).2) (75)).2) (75) (ra9) ((1 : Int)) ((0 : Int)) (v)).2) (75) (qa9) ((0 : Int)) ((0 : Int)) ((F_u_spanOf ((F_u_copy ((F_w_wipe ((F_u_copy ((F_w_wipe (x) (73)).2) (73) (ra9) ((0 : Int)) ((0 : Int)) ((F_u_spanOf ((F_w_wipe (x) (73)).2) (ra9) ((0 : Int))).1)).2) (75)).2) (75) (ra9) ((1 : Int)) ((0 : Int)) (v)).2) (qa9) ((0 : Int))).1)).2) (75) (ra9) ((1 : Int)) ((v) + ((F_u_spanOf (x) (qa9) ((1 : Int))).1)) ((F_u_spanOf ((F_u_copy ((F_u_copy ((F_w_wipe ((F_u_copy ((F_w_wipe (x) (73)).2) (73) (ra9) ((0 : Int)) ((0 : Int)) ((F_u_spanOf ((F_w_wipe (x) (73)).2) (ra9) ((0 : Int))).1)).2) (75)).2) (75) (ra9) ((1 : Int)) ((0 : Int)) (v)).2) (75) (qa9) ((0 : Int)) ((0 : Int)) ((F_u_spanOf ((F_u_copy ((F_w_wipe ((F_u_copy ((F_w_wipe (x) (73)).2) (73) (ra9) ((0 : Int)) ((0 : Int)) ((F_u_spanOf ((F_w_wipe (x) (73)).2) (ra9) ((0 : Int))).1)).2) (75)).2) (75) (ra9) ((1 : Int)) ((0 : Int)) (v)).2) (qa9) ((0 : Int))).1)).2) (ra9) ((1 : Int))).1) hM rfl (by omega) rr9 (Or.inr rfl) (by omega) (by omega) (by omega) (by omega) (F_u_copy_b rfl (F_u_copy_b rfl (wUb_wipe _ _))).1 (F_u_copy_b rfl (F_u_copy_b rfl (wUb_wipe _ _))).2) (cwV 5 hts gX5_encloses_X7_copy rfl rfl rfl (by decide +kernel) ⟨Nat.le_of_ble_eq_true rfl, Nat.le_of_ble_eq_true rfl⟩) ⟨fun a U g mk q => by obtain ⟨q0, q1, qP, qK, qD, qN⟩ := q; exact ⟨q0, q1, qP, va_K.moved (u := U) (U := U.calling g mk a) (Vm.Alike.refl U.vm) qK, qD, kNw.same (u := U) (U := U.calling g mk a) rfl qN⟩, va_recv hK hP (ci := 7) (q0 := 58) rfl (kg58 (by omega)), fun U hU hW => ⟨rfl, by rw [hU], by rw [hU]; exact hP, va_K.moved hW.alike hK, hD.weaken (fun _ _ _ _ => trivial), kNw.warm hW hNw⟩⟩ rfl rfl hl.1 rfl (lv_room (Nat.le_of_ble_eq_true rfl)) dX5_encloses_139 ⟨Nat.le_of_ble_eq_true rfl, Nat.le_of_ble_eq_true rfl⟩) hS (fun q _ h => hFc q h) hFc (fun u9 t H1 locs ht hvm hw hB hz1 hk1 hS => ?_)
      obtain ⟨hP1, hK1, hD1⟩ := hB
      rw [ht] at hP1
      rw [hw] at hP1 hD1
      have hD2 := hD1.weaken (B := A) (fun _ q _ h => hFc q.1 h)
      have hP := hP1
      have hD := hD2
      generalize H1 = H at hP hS ⊢
      refine lv_iconst (v := iI (1 : Int)) hx hb dX5_encloses_142 (by decide) ?_
      exact W.zret (v := iI ((1 : Int))) hx hb hr (kz _ (by first | assumption | omega)) (fun t ht hW => ⟨⟨iI ((1 : Int)), (F_u_copy ((F_u_copy ((F_u_copy ((F_w_wipe ((F_u_copy ((F_w_wipe (x) (73)).2) (73) (ra9) ((0 : Int)) ((0 : Int)) ((F_u_spanOf ((F_w_wipe (x) (73)).2) (ra9) ((0 : Int))).1)).2) (75)).2) (75) (ra9) ((1 : Int)) ((0 : Int)) (v)).2) (75) (qa9) ((0 : Int)) ((0 : Int)) ((F_u_spanOf ((F_u_copy ((F_w_wipe ((F_u_copy ((F_w_wipe (x) (73)).2) (73) (ra9) ((0 : Int)) ((0 : Int)) ((F_u_spanOf ((F_w_wipe (x) (73)).2) (ra9) ((0 : Int))).1)).2) (75)).2) (75) (ra9) ((1 : Int)) ((0 : Int)) (v)).2) (qa9) ((0 : Int))).1)).2) (75) (ra9) ((1 : Int)) ((v) + ((F_u_spanOf (x) (qa9) ((1 : Int))).1)) ((F_u_spanOf ((F_u_copy ((F_u_copy ((F_w_wipe ((F_u_copy ((F_w_wipe (x) (73)).2) (73) (ra9) ((0 : Int)) ((0 : Int)) ((F_u_spanOf ((F_w_wipe (x) (73)).2) (ra9) ((0 : Int))).1)).2) (75)).2) (75) (ra9) ((1 : Int)) ((0 : Int)) (v)).2) (75) (qa9) ((0 : Int)) ((0 : Int)) ((F_u_spanOf ((F_u_copy ((F_w_wipe ((F_u_copy ((F_w_wipe (x) (73)).2) (73) (ra9) ((0 : Int)) ((0 : Int)) ((F_u_spanOf ((F_w_wipe (x) (73)).2) (ra9) ((0 : Int))).1)).2) (75)).2) (75) (ra9) ((1 : Int)) ((0 : Int)) (v)).2) (qa9) ((0 : Int))).1)).2) (ra9) ((1 : Int))).1)).2, rfl, ⟨(by have h9 := congrArg (fun z : Int × KS => iI z.1) hres; exact h9), (by have h9 := congrArg (fun z : Int × KS => z.2) hres; exact h9)⟩, by rw [ht]; exact hP, va_K.moved hW.alike hK, hD⟩, hS.F ht⟩) hS.2.2 dX5_encloses_143
    · skip
      rw [if_neg c_36] at hres
      refine lv_iconst (v := iI (0 : Int)) hx hb dX5_encloses_39 (by decide) ?_
      exact W.zret (v := iI ((0 : Int))) hx hb hr (kz _ (by first | assumption | omega)) (fun t ht hW => ⟨⟨iI ((0 : Int)), x, rfl, ⟨(by have h9 := congrArg (fun z : Int × KS => iI z.1) hres; exact h9), (by have h9 := congrArg (fun z : Int × KS => z.2) hres; exact h9)⟩, by rw [ht]; exact hP, va_K.moved hW.alike hK, hD⟩, hS.F ht⟩) hS.2.2 dX5_encloses_40
  exact key _ _ hP hS
theorem F_p_encloses_fr (x : KS) (ra9 : Int) (qa9 : Int) (v : Int) : ksame [(73, 1), (75, 1)] [74, 76] x (F_p_encloses x ra9 qa9 v).2 := by
  unfold F_p_encloses
  by_cases hc : (iC ((F_u_leftPart (x) (ra9) (v) ((v) + ((F_u_spanOf (x) (qa9) ((1 : Int))).1))).1) ((F_u_leftPart (x) (qa9) ((0 : Int)) ((F_u_spanOf (x) (qa9) ((1 : Int))).1)).1)) = (0)
  · rw [if_pos hc]
    exact (km_tr (km_tr (km_tr (km_tr (km_tr (km_tr (km_rf _ _ _) (km_mono (km1 (List.Mem.head _) km0) km0 (F_w_wipe_fr (x) (73)))) (km_mono (km1 (List.Mem.head _) km0) (km1 (List.Mem.head _) km0) (F_u_copy_fr ((F_w_wipe (x) (73)).2) (73) (ra9) ((0 : Int)) ((0 : Int)) ((F_u_spanOf ((F_w_wipe (x) (73)).2) (ra9) ((0 : Int))).1)))) (km_mono (km1 (List.Mem.tail _ (List.Mem.head _)) km0) km0 (F_w_wipe_fr ((F_u_copy ((F_w_wipe (x) (73)).2) (73) (ra9) ((0 : Int)) ((0 : Int)) ((F_u_spanOf ((F_w_wipe (x) (73)).2) (ra9) ((0 : Int))).1)).2) (75)))) (km_mono (km1 (List.Mem.tail _ (List.Mem.head _)) km0) (km1 (List.Mem.tail _ (List.Mem.head _)) km0) (F_u_copy_fr ((F_w_wipe ((F_u_copy ((F_w_wipe (x) (73)).2) (73) (ra9) ((0 : Int)) ((0 : Int)) ((F_u_spanOf ((F_w_wipe (x) (73)).2) (ra9) ((0 : Int))).1)).2) (75)).2) (75) (ra9) ((1 : Int)) ((0 : Int)) (v)))) (km_mono (km1 (List.Mem.tail _ (List.Mem.head _)) km0) (km1 (List.Mem.tail _ (List.Mem.head _)) km0) (F_u_copy_fr ((F_u_copy ((F_w_wipe ((F_u_copy ((F_w_wipe (x) (73)).2) (73) (ra9) ((0 : Int)) ((0 : Int)) ((F_u_spanOf ((F_w_wipe (x) (73)).2) (ra9) ((0 : Int))).1)).2) (75)).2) (75) (ra9) ((1 : Int)) ((0 : Int)) (v)).2) (75) (qa9) ((0 : Int)) ((0 : Int)) ((F_u_spanOf ((F_u_copy ((F_w_wipe ((F_u_copy ((F_w_wipe (x) (73)).2) (73) (ra9) ((0 : Int)) ((0 : Int)) ((F_u_spanOf ((F_w_wipe (x) (73)).2) (ra9) ((0 : Int))).1)).2) (75)).2) (75) (ra9) ((1 : Int)) ((0 : Int)) (v)).2) (qa9) ((0 : Int))).1)))) (km_mono (km1 (List.Mem.tail _ (List.Mem.head _)) km0) (km1 (List.Mem.tail _ (List.Mem.head _)) km0) (F_u_copy_fr ((F_u_copy ((F_u_copy ((F_w_wipe ((F_u_copy ((F_w_wipe (x) (73)).2) (73) (ra9) ((0 : Int)) ((0 : Int)) ((F_u_spanOf ((F_w_wipe (x) (73)).2) (ra9) ((0 : Int))).1)).2) (75)).2) (75) (ra9) ((1 : Int)) ((0 : Int)) (v)).2) (75) (qa9) ((0 : Int)) ((0 : Int)) ((F_u_spanOf ((F_u_copy ((F_w_wipe ((F_u_copy ((F_w_wipe (x) (73)).2) (73) (ra9) ((0 : Int)) ((0 : Int)) ((F_u_spanOf ((F_w_wipe (x) (73)).2) (ra9) ((0 : Int))).1)).2) (75)).2) (75) (ra9) ((1 : Int)) ((0 : Int)) (v)).2) (qa9) ((0 : Int))).1)).2) (75) (ra9) ((1 : Int)) ((v) + ((F_u_spanOf (x) (qa9) ((1 : Int))).1)) ((F_u_spanOf ((F_u_copy ((F_u_copy ((F_w_wipe ((F_u_copy ((F_w_wipe (x) (73)).2) (73) (ra9) ((0 : Int)) ((0 : Int)) ((F_u_spanOf ((F_w_wipe (x) (73)).2) (ra9) ((0 : Int))).1)).2) (75)).2) (75) (ra9) ((1 : Int)) ((0 : Int)) (v)).2) (75) (qa9) ((0 : Int)) ((0 : Int)) ((F_u_spanOf ((F_u_copy ((F_w_wipe ((F_u_copy ((F_w_wipe (x) (73)).2) (73) (ra9) ((0 : Int)) ((0 : Int)) ((F_u_spanOf ((F_w_wipe (x) (73)).2) (ra9) ((0 : Int))).1)).2) (75)).2) (75) (ra9) ((1 : Int)) ((0 : Int)) (v)).2) (qa9) ((0 : Int))).1)).2) (ra9) ((1 : Int))).1))))
  · rw [if_neg hc]
    exact (km_rf _ _ _)
theorem F_p_encloses_q (x : KS) (ra9 : Int) (qa9 : Int) (v : Int)  : kq [] [] x (F_p_encloses x ra9 qa9 v).2 := kq_of (F_p_encloses_fr x ra9 qa9 v) (kq_c (Or.inl rfl) (kq_c (Or.inl rfl) kq_m)) (kq_c (Or.inl rfl) (kq_c (Or.inl rfl) kq_n))
/-- small things of the Grower -/
def grR (x : KS) : Prop := (0 ≤ x.1 87 13 ∧ x.1 87 13 ≤ 61) ∧ (0 ≤ x.1 87 12 ∧ x.1 87 12 ≤ 60) ∧ (∀ j : Nat, x.2 99 j = 0 ∨ x.2 99 j = 1) ∧ (∀ j : Nat, x.2 100 j = 0 ∨ x.2 100 j = 1) ∧ (∀ j : Nat, iRL (x.2 95 j)) ∧ (∀ j : Nat, iRL (x.2 96 j)) ∧ (∀ j : Nat, -1000 ≤ x.2 94 j ∧ x.2 94 j < 320)
def F_g_await (x : KS) (a9 : Int) (b9 : Int) (d9 : Int) : Int × KS := (0, kA (kA (kA (kA (x) (99) ((x).1 (87) 13).toNat (a9)) (97) ((x).1 (87) 13).toNat (b9)) (100) ((x).1 (87) 13).toNat (d9)) (98) ((x).1 (87) 13).toNat ((0 : Int)))
set_option maxHeartbeats 4000000 in
set_option maxRecDepth 100000 in
/-- LikeWords$Grower, await -/
theorem c_g_await (l : Launch) (dC : Nat → ClassId) (dI : Nat → Nat → Nat) (ad : Nat → Nat) (cI cJ cZ cR : ClassId) (M wl sz : Nat) (x : KS) (a9 : Int) (b9 : Int) (d9 : Int) (hM : 87 ≤ M) (hG : 106 ≤ M) (gr : grR x) (a01 : a9 = 0 ∨ a9 = 1) (d01 : d9 = 0 ∨ d9 = 1) : Met l yX0_await wsX0_await ({ frames := 0, cells := 0, slots := 0, locals := 0 }) (kPc dC dI ad cI cJ cZ cR M wl sz x [.ref (ad 87), .int (iI a9), .int (iI b9), .int (iI d9)]) (va_Qv (fun u : KS => u = (F_g_await x a9 b9 d9).2) (kAt dC dI ad cI cJ cZ cR M wl (va_A (kWd cI cJ cZ cR wl ad M (x)) sz)) (va_A (kWd cI cJ cZ cR wl ad M (x)) sz)) 0 0 (va_A (kWd cI cJ cZ cR wl ad M (x)) sz) := by
  refine Met.ofW (cc := cX0_await) (maxL := 4) (ret := none) (by decide) rfl ?_
  intro p e s m args below meth c s₁ B hml hv
  obtain ⟨rfl, hsz, hP, hK, hD0, hNw⟩ := hv
  have hx := B.exec
  have hb := B.bytes
  have hr := B.returns
  have hts := atoms_spec (ws := wsX0_await) B.pre
  have hown : s.vm.findClass RX0 = some m.cls := findClass_of_methodNamed B.named
  have hlocks := B.notSynchronized
  have hinX0 : ∀ w ∈ u_ws RX0 TX0 15, w ∈ wsX0_await := by decide +kernel
  subst hsz
  have hD := hD0.self (sz := s.heap.size)
  generalize hAe : va_A (kWd cI cJ cZ cR wl ad M (x)) s.heap.size = A at hD ⊢
  have hA : ∀ q : Nat, s.heap.size ≤ q → A q := fun q h => by rw [← hAe]; exact Or.inr h
  have hS : va_S A s.heap s.heap [] := va_S.rf
  have hl := lv_entry ([.ref (ad 87), .int (iI a9), .int (iI b9), .int (iI d9)]) (n := 4) (Nat.le_of_ble_eq_true rfl)
  rw [lg_entry_eq]
  generalize (lg_sl ([.ref (ad 87), .int (iI a9), .int (iI b9), .int (iI d9)]) ++ List.replicate (4 - (lg_sl ([.ref (ad 87), .int (iI a9), .int (iI b9), .int (iI d9)])).length) Slot.unset).toArray = ls at hl ⊢
  have hl : lv_has ls 4 [(0, .ref (ad (87))), (1, .int (iI (a9))), (2, .int (iI (b9))), (3, .int (iI (d9)))] := hl
  obtain ⟨lv9, fm9, ah9, wh9, sh9, st9, pl9⟩ := id gr
  have key : ∀ (H : Heap) (locs : List Loc), va_P (dC, dI) vwCl (kWd cI cJ cZ cR wl ad M (x)) H → va_S A s.heap H locs → W p l e (headSpec wsX0_await ({ frames := 0, cells := 0, slots := 0, locals := 0 })).room s m ([.ref (ad 87), .int (iI a9), .int (iI b9), .int (iI d9)] : List Value).toArray below meth c H locs 0 0 (MQ below (va_Qv (fun u : KS => u = (F_g_await x a9 b9 d9).2) (kAt dC dI ad cI cJ cZ cR M wl A) A) ([.ref (ad 87), .int (iI a9), .int (iI b9), .int (iI d9)] : List Value).toArray s 0 0 A) (F0 m 0 ls []) := by
    intro H locs hP hS
    have hres : (0, kA (kA (kA (kA (x) (99) ((x).1 (87) 13).toNat (a9)) (97) ((x).1 (87) 13).toNat (b9)) (100) ((x).1 (87) 13).toNat (d9)) (98) ((x).1 (87) 13).toNat ((0 : Int))) = F_g_await x a9 b9 d9 := rfl
    refine lv_aload_n hx hb dX0_await_0 rfl (lv_at hl 0 rfl) ?_
    refine va_get (D := (dC, dI)) (ci := 0) (v := .ref (ad (99))) (C := RX0) (T := TX0) (N := 15) hx hb hts hinX0 hown hK hP (87) (kg87 (by omega)) rfl 10 (by decide) (hts (.fieldLink RX0 51 "LikeWords$Grower" "isAhead" "[Z") (by decide +kernel)) (fun _ h9 => h9) rfl dX0_await_1 ?_
    refine lv_aload_n hx hb dX0_await_4 rfl (lv_at hl 0 rfl) ?_
    refine va_get (D := (dC, dI)) (ci := 0) (v := .int (iI ((x).1 (87) 13))) (C := RX0) (T := TX0) (N := 15) hx hb hts hinX0 hown hK hP (87) (kg87 (by omega)) rfl 13 (by decide) (hts (.fieldLink RX0 72 "LikeWords$Grower" "level" "I") (by decide +kernel)) (fun _ h9 => h9) rfl dX0_await_5 ?_
    refine lv_iload_n hx hb dX0_await_8 rfl (lv_at hl 1 rfl) ?_
    refine wk_zast (f := (x).2 (99)) (n := kLen (99)) hx hb hK hP hD hS (99) 2 (kgz kC99 (by omega) rfl) rfl (i := (x).1 (87) 13) (x := a9) (by first | assumption | omega) (by omega) (by show _ < ((62 : Nat) : Int); exact (by omega)) (kLen_lt _) dX0_await_9 (fun H locs hP hD hS => ?_)
    rw [ksz kC99] at hP hD
    refine lv_aload_n hx hb dX0_await_10 rfl (lv_at hl 0 rfl) ?_
    refine va_get (D := (dC, dI)) (ci := 0) (v := .ref (ad (97))) (C := RX0) (T := TX0) (N := 15) hx hb hts hinX0 hown hK hP (87) (kg87 (by omega)) rfl 8 (by decide) (hts (.fieldLink RX0 45 "LikeWords$Grower" "waiting" "[I") (by decide +kernel)) (fun _ h9 => h9) rfl dX0_await_11 ?_
    refine lv_aload_n hx hb dX0_await_14 rfl (lv_at hl 0 rfl) ?_
    refine va_get (D := (dC, dI)) (ci := 0) (v := .int (iI ((x).1 (87) 13))) (C := RX0) (T := TX0) (N := 15) hx hb hts hinX0 hown hK hP (87) (kg87 (by omega)) rfl 13 (by decide) (hts (.fieldLink RX0 72 "LikeWords$Grower" "level" "I") (by decide +kernel)) (fun _ h9 => h9) rfl dX0_await_15 ?_
    refine lv_iload_n hx hb dX0_await_18 rfl (lv_at hl 2 rfl) ?_
    refine wi_iast (f := (kA (x) (99) ((x).1 (87) 13).toNat (a9)).2 (97)) (n := kLen (97)) hx hb hK hP hD hS (97) 0 (kgi kC97 (by omega) rfl) rfl (i := (x).1 (87) 13) (x := b9) (by omega) (by show _ < ((62 : Nat) : Int); exact (by omega)) (kLen_lt _) dX0_await_19 (fun H locs hP hD hS => ?_)
    rw [ksi kC97] at hP hD
    refine lv_aload_n hx hb dX0_await_20 rfl (lv_at hl 0 rfl) ?_
    refine va_get (D := (dC, dI)) (ci := 0) (v := .ref (ad (100))) (C := RX0) (T := TX0) (N := 15) hx hb hts hinX0 hown hK hP (87) (kg87 (by omega)) rfl 11 (by decide) (hts (.fieldLink RX0 55 "LikeWords$Grower" "isWhole" "[Z") (by decide +kernel)) (fun _ h9 => h9) rfl dX0_await_21 ?_
    refine lv_aload_n hx hb dX0_await_24 rfl (lv_at hl 0 rfl) ?_
    refine va_get (D := (dC, dI)) (ci := 0) (v := .int (iI ((x).1 (87) 13))) (C := RX0) (T := TX0) (N := 15) hx hb hts hinX0 hown hK hP (87) (kg87 (by omega)) rfl 13 (by decide) (hts (.fieldLink RX0 72 "LikeWords$Grower" "level" "I") (by decide +kernel)) (fun _ h9 => h9) rfl dX0_await_25 ?_
    refine lv_iload_n hx hb dX0_await_28 rfl (lv_at hl 3 rfl) ?_
    refine wk_zast (f := (kA (kA (x) (99) ((x).1 (87) 13).toNat (a9)) (97) ((x).1 (87) 13).toNat (b9)).2 (100)) (n := kLen (100)) hx hb hK hP hD hS (100) 2 (kgz kC100 (by omega) rfl) rfl (i := (x).1 (87) 13) (x := d9) (by first | assumption | omega) (by omega) (by show _ < ((62 : Nat) : Int); exact (by omega)) (kLen_lt _) dX0_await_29 (fun H locs hP hD hS => ?_)
    rw [ksz kC100] at hP hD
    refine lv_aload_n hx hb dX0_await_30 rfl (lv_at hl 0 rfl) ?_
    refine va_get (D := (dC, dI)) (ci := 0) (v := .ref (ad (98))) (C := RX0) (T := TX0) (N := 15) hx hb hts hinX0 hown hK hP (87) (kg87 (by omega)) rfl 9 (by decide) (hts (.fieldLink RX0 48 "LikeWords$Grower" "idle" "[I") (by decide +kernel)) (fun _ h9 => h9) rfl dX0_await_31 ?_
    refine lv_aload_n hx hb dX0_await_34 rfl (lv_at hl 0 rfl) ?_
    refine va_get (D := (dC, dI)) (ci := 0) (v := .int (iI ((x).1 (87) 13))) (C := RX0) (T := TX0) (N := 15) hx hb hts hinX0 hown hK hP (87) (kg87 (by omega)) rfl 13 (by decide) (hts (.fieldLink RX0 72 "LikeWords$Grower" "level" "I") (by decide +kernel)) (fun _ h9 => h9) rfl dX0_await_35 ?_
    refine lv_iconst (v := iI (0 : Int)) hx hb dX0_await_38 (by decide) ?_
    refine wi_iast (f := (kA (kA (kA (x) (99) ((x).1 (87) 13).toNat (a9)) (97) ((x).1 (87) 13).toNat (b9)) (100) ((x).1 (87) 13).toNat (d9)).2 (98)) (n := kLen (98)) hx hb hK hP hD hS (98) 0 (kgi kC98 (by omega) rfl) rfl (i := (x).1 (87) 13) (x := (0 : Int)) (by omega) (by show _ < ((62 : Nat) : Int); exact (by omega)) (kLen_lt _) dX0_await_39 (fun H locs hP hD hS => ?_)
    rw [ksi kC98] at hP hD
    exact W.vret hx hb hr (fun t ht hW => ⟨⟨kA (kA (kA (kA (x) (99) ((x).1 (87) 13).toNat (a9)) (97) ((x).1 (87) 13).toNat (b9)) (100) ((x).1 (87) 13).toNat (d9)) (98) ((x).1 (87) 13).toNat ((0 : Int)), rfl, (by have h9 := congrArg (fun z : Int × KS => z.2) hres; exact h9), by rw [ht]; exact hP, va_K.moved hW.alike hK, hD⟩, hS.F ht⟩) hS.2.2 dX0_await_40
  exact key _ _ hP hS
theorem F_g_await_fr (x : KS) (a9 : Int) (b9 : Int) (d9 : Int) : ksame [] [99, 97, 100, 98] x (F_g_await x a9 b9 d9).2 := by
  unfold F_g_await
  exact (km_a (List.Mem.tail _ (List.Mem.tail _ (List.Mem.tail _ (List.Mem.head _)))) (km_a (List.Mem.tail _ (List.Mem.tail _ (List.Mem.head _))) (km_a (List.Mem.tail _ (List.Mem.head _)) (km_a (List.Mem.head _) (km_rf _ _ _)))))
theorem F_g_await_q (x : KS) (a9 : Int) (b9 : Int) (d9 : Int)  : kq [] [99, 97, 100, 98] x (F_g_await x a9 b9 d9).2 := kq_of (F_g_await_fr x a9 b9 d9) kq_m (kq_c (Or.inr (by decide)) (kq_c (Or.inr (by decide)) (kq_c (Or.inr (by decide)) (kq_c (Or.inr (by decide)) kq_n))))
def F_g_open (x : KS) (h9 : Int) (t9 : Int) : Int × KS := (if ((x).1 (87) 13) ≤ (0) then (if (((62 : Int)) - ((1 : Int))) ≤ ((x).1 (87) 13) then ((0 : Int), kA (kA (x) (95) ((x).1 (87) 13).toNat (h9)) (96) ((x).1 (87) 13).toNat (t9)) else ((0 : Int), kA (kA (kS (x) (87) 13 (((x).1 (87) 13) + ((1 : Int)))) (95) (((x).1 (87) 13) + ((1 : Int))).toNat (h9)) (96) (((x).1 (87) 13) + ((1 : Int))).toNat (t9))) else (if (0) < (((x).2 (97)) ((x).1 (87) 13).toNat) then (if (((62 : Int)) - ((1 : Int))) ≤ ((x).1 (87) 13) then ((0 : Int), kA (kA (x) (95) ((x).1 (87) 13).toNat (h9)) (96) ((x).1 (87) 13).toNat (t9)) else ((0 : Int), kA (kA (kS (x) (87) 13 (((x).1 (87) 13) + ((1 : Int)))) (95) (((x).1 (87) 13) + ((1 : Int))).toNat (h9)) (96) (((x).1 (87) 13) + ((1 : Int))).toNat (t9))) else ((1 : Int), x)))
set_option maxHeartbeats 4000000 in
set_option maxRecDepth 100000 in
/-- LikeWords$Grower, opens -/
theorem c_g_open (l : Launch) (dC : Nat → ClassId) (dI : Nat → Nat → Nat) (ad : Nat → Nat) (cI cJ cZ cR : ClassId) (M wl sz : Nat) (x : KS) (h9 : Int) (t9 : Int) (hM : 87 ≤ M) (hG : 106 ≤ M) (gr : grR x) (wr : ∀ j : Nat, iR (x.2 97 j)) : Met l yX0_open wsX0_open ({ frames := 0, cells := 0, slots := 0, locals := 0 }) (kPc dC dI ad cI cJ cZ cR M wl sz x [.ref (ad 87), .long (iL h9), .long (iL t9)]) (va_Qi (fun (r : Int32) (u : KS) => r = iI (F_g_open x h9 t9).1 ∧ u = (F_g_open x h9 t9).2) (kAt dC dI ad cI cJ cZ cR M wl (va_A (kWd cI cJ cZ cR wl ad M (x)) sz)) (va_A (kWd cI cJ cZ cR wl ad M (x)) sz)) 0 0 (va_A (kWd cI cJ cZ cR wl ad M (x)) sz) := by
  refine Met.ofW (cc := cX0_open) (maxL := 5) (ret := (some .boolean)) (by decide) rfl ?_
  intro p e s m args below meth c s₁ B hml hv
  obtain ⟨rfl, hsz, hP, hK, hD0, hNw⟩ := hv
  have hx := B.exec
  have hb := B.bytes
  have hr := B.returns
  have hts := atoms_spec (ws := wsX0_open) B.pre
  have hown : s.vm.findClass RX0 = some m.cls := findClass_of_methodNamed B.named
  have hlocks := B.notSynchronized
  have hinX0 : ∀ w ∈ u_ws RX0 TX0 15, w ∈ wsX0_open := by decide +kernel
  subst hsz
  have hD := hD0.self (sz := s.heap.size)
  generalize hAe : va_A (kWd cI cJ cZ cR wl ad M (x)) s.heap.size = A at hD ⊢
  have hA : ∀ q : Nat, s.heap.size ≤ q → A q := fun q h => by rw [← hAe]; exact Or.inr h
  have hS : va_S A s.heap s.heap [] := va_S.rf
  have hl := lv_entry ([.ref (ad 87), .long (iL h9), .long (iL t9)]) (n := 5) (Nat.le_of_ble_eq_true rfl)
  rw [lg_entry_eq]
  generalize (lg_sl ([.ref (ad 87), .long (iL h9), .long (iL t9)]) ++ List.replicate (5 - (lg_sl ([.ref (ad 87), .long (iL h9), .long (iL t9)])).length) Slot.unset).toArray = ls at hl ⊢
  have hl : lv_has ls 5 [(0, .ref (ad (87))), (1, .long (iL (h9))), (3, .long (iL (t9)))] := hl
  obtain ⟨lv9, fm9, ah9, wh9, sh9, st9, pl9⟩ := id gr
  have key : ∀ (H : Heap) (locs : List Loc), va_P (dC, dI) vwCl (kWd cI cJ cZ cR wl ad M (x)) H → va_S A s.heap H locs → W p l e (headSpec wsX0_open ({ frames := 0, cells := 0, slots := 0, locals := 0 })).room s m ([.ref (ad 87), .long (iL h9), .long (iL t9)] : List Value).toArray below meth c H locs 0 0 (MQ below (va_Qi (fun (r : Int32) (u : KS) => r = iI (F_g_open x h9 t9).1 ∧ u = (F_g_open x h9 t9).2) (kAt dC dI ad cI cJ cZ cR M wl A) A) ([.ref (ad 87), .long (iL h9), .long (iL t9)] : List Value).toArray s 0 0 A) (F0 m 0 ls []) := by
    intro H locs hP hS
    have hres : (if ((x).1 (87) 13) ≤ (0) then (if (((62 : Int)) - ((1 : Int))) ≤ ((x).1 (87) 13) then ((0 : Int), kA (kA (x) (95) ((x).1 (87) 13).toNat (h9)) (96) ((x).1 (87) 13).toNat (t9)) else ((0 : Int), kA (kA (kS (x) (87) 13 (((x).1 (87) 13) + ((1 : Int)))) (95) (((x).1 (87) 13) + ((1 : Int))).toNat (h9)) (96) (((x).1 (87) 13) + ((1 : Int))).toNat (t9))) else (if (0) < (((x).2 (97)) ((x).1 (87) 13).toNat) then (if (((62 : Int)) - ((1 : Int))) ≤ ((x).1 (87) 13) then ((0 : Int), kA (kA (x) (95) ((x).1 (87) 13).toNat (h9)) (96) ((x).1 (87) 13).toNat (t9)) else ((0 : Int), kA (kA (kS (x) (87) 13 (((x).1 (87) 13) + ((1 : Int)))) (95) (((x).1 (87) 13) + ((1 : Int))).toNat (h9)) (96) (((x).1 (87) 13) + ((1 : Int))).toNat (t9))) else ((1 : Int), x))) = F_g_open x h9 t9 := rfl
    refine lv_aload_n hx hb dX0_open_0 rfl (lv_at hl 0 rfl) ?_
    refine va_get (D := (dC, dI)) (ci := 0) (v := .int (iI ((x).1 (87) 13))) (C := RX0) (T := TX0) (N := 15) hx hb hts hinX0 hown hK hP (87) (kg87 (by omega)) rfl 13 (by decide) (hts (.fieldLink RX0 72 "LikeWords$Grower" "level" "I") (by decide +kernel)) (fun _ h9 => h9) rfl dX0_open_1 ?_
    refine wi_if_le (tgt := 21) hx hb (by first | assumption | (unfold iR; omega) | exact kR01 (by assumption)) dX0_open_4 (by decide) (fun c_4 => ?_) (fun c_4 => ?_)
    · skip
      rw [if_pos c_4] at hres
      refine lv_aload_n hx hb dX0_open_21 rfl (lv_at hl 0 rfl) ?_
      refine va_get (D := (dC, dI)) (ci := 0) (v := .int (iI ((x).1 (87) 13))) (C := RX0) (T := TX0) (N := 15) hx hb hts hinX0 hown hK hP (87) (kg87 (by omega)) rfl 13 (by decide) (hts (.fieldLink RX0 72 "LikeWords$Grower" "level" "I") (by decide +kernel)) (fun _ h9 => h9) rfl dX0_open_22 ?_
      refine lv_aload_n hx hb dX0_open_25 rfl (lv_at hl 0 rfl) ?_
      refine va_get (D := (dC, dI)) (ci := 0) (v := .ref (ad (97))) (C := RX0) (T := TX0) (N := 15) hx hb hts hinX0 hown hK hP (87) (kg87 (by omega)) rfl 8 (by decide) (hts (.fieldLink RX0 45 "LikeWords$Grower" "waiting" "[I") (by decide +kernel)) (fun _ h9 => h9) rfl dX0_open_26 ?_
      refine va_alen (v := iI ((62 : Int))) hx hb hK hP (97) 0 (kgi kC97 (by omega) rfl) rfl (iI_nat _) dX0_open_29 ?_
      refine lv_iconst (v := iI (1 : Int)) hx hb dX0_open_30 (by decide) ?_
      refine wi_isub hx hb dX0_open_31 ?_
      refine wi_icmp_ge (tgt := 45) hx hb (by first | assumption | (unfold iR; omega) | exact kR01 (by assumption)) (by first | assumption | (unfold iR; omega) | exact kR01 (by assumption)) dX0_open_32 (by decide) (fun c_32 => ?_) (fun c_32 => ?_)
      · skip
        rw [if_pos c_32] at hres
        refine lv_aload_n hx hb dX0_open_45 rfl (lv_at hl 0 rfl) ?_
        refine va_get (D := (dC, dI)) (ci := 0) (v := .ref (ad (95))) (C := RX0) (T := TX0) (N := 15) hx hb hts hinX0 hown hK hP (87) (kg87 (by omega)) rfl 6 (by decide) (hts (.fieldLink RX0 38 "LikeWords$Grower" "startHeads" "[J") (by decide +kernel)) (fun _ h9 => h9) rfl dX0_open_46 ?_
        refine lv_aload_n hx hb dX0_open_49 rfl (lv_at hl 0 rfl) ?_
        refine va_get (D := (dC, dI)) (ci := 0) (v := .int (iI ((x).1 (87) 13))) (C := RX0) (T := TX0) (N := 15) hx hb hts hinX0 hown hK hP (87) (kg87 (by omega)) rfl 13 (by decide) (hts (.fieldLink RX0 72 "LikeWords$Grower" "level" "I") (by decide +kernel)) (fun _ h9 => h9) rfl dX0_open_50 ?_
        refine lv_lload_n hx hb dX0_open_53 rfl (lv_at hl 1 rfl) ?_
        refine wi_last (f := (x).2 (95)) (n := kLen (95)) hx hb hK hP hD hS (95) 1 (kgj kC95 (by omega) rfl) rfl (i := (x).1 (87) 13) (x := h9) (by omega) (by show _ < ((62 : Nat) : Int); exact (by omega)) (kLen_lt _) dX0_open_54 (fun H locs hP hD hS => ?_)
        rw [ksj kC95] at hP hD
        refine lv_aload_n hx hb dX0_open_55 rfl (lv_at hl 0 rfl) ?_
        refine va_get (D := (dC, dI)) (ci := 0) (v := .ref (ad (96))) (C := RX0) (T := TX0) (N := 15) hx hb hts hinX0 hown hK hP (87) (kg87 (by omega)) rfl 7 (by decide) (hts (.fieldLink RX0 42 "LikeWords$Grower" "startTails" "[J") (by decide +kernel)) (fun _ h9 => h9) rfl dX0_open_56 ?_
        refine lv_aload_n hx hb dX0_open_59 rfl (lv_at hl 0 rfl) ?_
        refine va_get (D := (dC, dI)) (ci := 0) (v := .int (iI ((x).1 (87) 13))) (C := RX0) (T := TX0) (N := 15) hx hb hts hinX0 hown hK hP (87) (kg87 (by omega)) rfl 13 (by decide) (hts (.fieldLink RX0 72 "LikeWords$Grower" "level" "I") (by decide +kernel)) (fun _ h9 => h9) rfl dX0_open_60 ?_
        refine lv_lload_n hx hb dX0_open_63 rfl (lv_at hl 2 rfl) ?_
        refine wi_last (f := (kA (x) (95) ((x).1 (87) 13).toNat (h9)).2 (96)) (n := kLen (96)) hx hb hK hP hD hS (96) 1 (kgj kC96 (by omega) rfl) rfl (i := (x).1 (87) 13) (x := t9) (by omega) (by show _ < ((62 : Nat) : Int); exact (by omega)) (kLen_lt _) dX0_open_64 (fun H locs hP hD hS => ?_)
        rw [ksj kC96] at hP hD
        refine lv_iconst (v := iI (0 : Int)) hx hb dX0_open_65 (by decide) ?_
        exact W.zret (v := iI ((0 : Int))) hx hb hr (kz _ (by first | assumption | omega)) (fun t ht hW => ⟨⟨iI ((0 : Int)), kA (kA (x) (95) ((x).1 (87) 13).toNat (h9)) (96) ((x).1 (87) 13).toNat (t9), rfl, ⟨(by have h9 := congrArg (fun z : Int × KS => iI z.1) hres; exact h9), (by have h9 := congrArg (fun z : Int × KS => z.2) hres; exact h9)⟩, by rw [ht]; exact hP, va_K.moved hW.alike hK, hD⟩, hS.F ht⟩) hS.2.2 dX0_open_66
      · skip
        rw [if_neg c_32] at hres
        refine lv_aload_n hx hb dX0_open_35 rfl (lv_at hl 0 rfl) ?_
        refine lv_dup hx hb dX0_open_36 rfl ?_
        refine va_get (D := (dC, dI)) (ci := 0) (v := .int (iI ((x).1 (87) 13))) (C := RX0) (T := TX0) (N := 15) hx hb hts hinX0 hown hK hP (87) (kg87 (by omega)) rfl 13 (by decide) (hts (.fieldLink RX0 72 "LikeWords$Grower" "level" "I") (by decide +kernel)) (fun _ h9 => h9) rfl dX0_open_37 ?_
        refine lv_iconst (v := iI (1 : Int)) hx hb dX0_open_40 (by decide) ?_
        refine wi_iadd hx hb dX0_open_41 ?_
        refine va_put (D := (dC, dI)) (ci := 0) (v := .int (iI (((x).1 (87) 13) + ((1 : Int))))) (ty := .int) (C := RX0) (T := TX0) (N := 15) hx hb hts hinX0 tyX0 tyX0_ok nmX0 hown hK hP hD hS (87) (kg87 (by omega)) rfl 13 (by decide) (hts (.fieldLink RX0 72 "LikeWords$Grower" "level" "I") (by decide +kernel)) (fun _ h9 => h9) rfl (by decide +kernel) rfl rfl (Nat.le_of_ble_eq_true rfl) dX0_open_42 (fun H locs hP hD hS => ?_)
        rw [ks87_13] at hP hD
        refine lv_aload_n hx hb dX0_open_45 rfl (lv_at hl 0 rfl) ?_
        refine va_get (D := (dC, dI)) (ci := 0) (v := .ref (ad (95))) (C := RX0) (T := TX0) (N := 15) hx hb hts hinX0 hown hK hP (87) (kg87 (by omega)) rfl 6 (by decide) (hts (.fieldLink RX0 38 "LikeWords$Grower" "startHeads" "[J") (by decide +kernel)) (fun _ h9 => h9) rfl dX0_open_46 ?_
        refine lv_aload_n hx hb dX0_open_49 rfl (lv_at hl 0 rfl) ?_
        refine va_get (D := (dC, dI)) (ci := 0) (v := .int (iI (((x).1 (87) 13) + ((1 : Int))))) (C := RX0) (T := TX0) (N := 15) hx hb hts hinX0 hown hK hP (87) (kg87 (by omega)) rfl 13 (by decide) (hts (.fieldLink RX0 72 "LikeWords$Grower" "level" "I") (by decide +kernel)) (fun _ h9 => h9) (congrArg (fun z9 => some (Value.int (iI z9))) (kS_s)) dX0_open_50 ?_
        refine lv_lload_n hx hb dX0_open_53 rfl (lv_at hl 1 rfl) ?_
        refine wi_last (f := (kS (x) (87) 13 (((x).1 (87) 13) + ((1 : Int)))).2 (95)) (n := kLen (95)) hx hb hK hP hD hS (95) 1 (kgj kC95 (by omega) rfl) rfl (i := ((x).1 (87) 13) + ((1 : Int))) (x := h9) (by omega) (by show _ < ((62 : Nat) : Int); exact (by omega)) (kLen_lt _) dX0_open_54 (fun H locs hP hD hS => ?_)
        rw [ksj kC95] at hP hD
        refine lv_aload_n hx hb dX0_open_55 rfl (lv_at hl 0 rfl) ?_
        refine va_get (D := (dC, dI)) (ci := 0) (v := .ref (ad (96))) (C := RX0) (T := TX0) (N := 15) hx hb hts hinX0 hown hK hP (87) (kg87 (by omega)) rfl 7 (by decide) (hts (.fieldLink RX0 42 "LikeWords$Grower" "startTails" "[J") (by decide +kernel)) (fun _ h9 => h9) rfl dX0_open_56 ?_
        refine lv_aload_n hx hb dX0_open_59 rfl (lv_at hl 0 rfl) ?_
        refine va_get (D := (dC, dI)) (ci := 0) (v := .int (iI (((x).1 (87) 13) + ((1 : Int))))) (C := RX0) (T := TX0) (N := 15) hx hb hts hinX0 hown hK hP (87) (kg87 (by omega)) rfl 13 (by decide) (hts (.fieldLink RX0 72 "LikeWords$Grower" "level" "I") (by decide +kernel)) (fun _ h9 => h9) (congrArg (fun z9 => some (Value.int (iI z9))) ((congrFun (congrFun kA_1 (87)) 13).trans (kS_s))) dX0_open_60 ?_
        refine lv_lload_n hx hb dX0_open_63 rfl (lv_at hl 2 rfl) ?_
        refine wi_last (f := (kA (kS (x) (87) 13 (((x).1 (87) 13) + ((1 : Int)))) (95) (((x).1 (87) 13) + ((1 : Int))).toNat (h9)).2 (96)) (n := kLen (96)) hx hb hK hP hD hS (96) 1 (kgj kC96 (by omega) rfl) rfl (i := ((x).1 (87) 13) + ((1 : Int))) (x := t9) (by omega) (by show _ < ((62 : Nat) : Int); exact (by omega)) (kLen_lt _) dX0_open_64 (fun H locs hP hD hS => ?_)
        rw [ksj kC96] at hP hD
        refine lv_iconst (v := iI (0 : Int)) hx hb dX0_open_65 (by decide) ?_
        exact W.zret (v := iI ((0 : Int))) hx hb hr (kz _ (by first | assumption | omega)) (fun t ht hW => ⟨⟨iI ((0 : Int)), kA (kA (kS (x) (87) 13 (((x).1 (87) 13) + ((1 : Int)))) (95) (((x).1 (87) 13) + ((1 : Int))).toNat (h9)) (96) (((x).1 (87) 13) + ((1 : Int))).toNat (t9), rfl, ⟨(by have h9 := congrArg (fun z : Int × KS => iI z.1) hres; exact h9), (by have h9 := congrArg (fun z : Int × KS => z.2) hres; exact h9)⟩, by rw [ht]; exact hP, va_K.moved hW.alike hK, hD⟩, hS.F ht⟩) hS.2.2 dX0_open_66
    · skip
      rw [if_neg c_4] at hres
      refine lv_aload_n hx hb dX0_open_7 rfl (lv_at hl 0 rfl) ?_
      refine va_get (D := (dC, dI)) (ci := 0) (v := .ref (ad (97))) (C := RX0) (T := TX0) (N := 15) hx hb hts hinX0 hown hK hP (87) (kg87 (by omega)) rfl 8 (by decide) (hts (.fieldLink RX0 45 "LikeWords$Grower" "waiting" "[I") (by decide +kernel)) (fun _ h9 => h9) rfl dX0_open_8 ?_
      refine lv_aload_n hx hb dX0_open_11 rfl (lv_at hl 0 rfl) ?_
      refine va_get (D := (dC, dI)) (ci := 0) (v := .int (iI ((x).1 (87) 13))) (C := RX0) (T := TX0) (N := 15) hx hb hts hinX0 hown hK hP (87) (kg87 (by omega)) rfl 13 (by decide) (hts (.fieldLink RX0 72 "LikeWords$Grower" "level" "I") (by decide +kernel)) (fun _ h9 => h9) rfl dX0_open_12 ?_
      refine wi_iald (f := (x).2 (97)) (n := kLen (97)) hx hb hK hP (97) 0 (kgi kC97 (by omega) rfl) rfl (i := (x).1 (87) 13) (by omega) (by show _ < ((62 : Nat) : Int); exact (by omega)) (kLen_lt _) dX0_open_15 ?_
      refine wi_if_gt (tgt := 21) hx hb (wr _) dX0_open_16 (by decide) (fun c_16 => ?_) (fun c_16 => ?_)
      · skip
        rw [if_pos c_16] at hres
        refine lv_aload_n hx hb dX0_open_21 rfl (lv_at hl 0 rfl) ?_
        refine va_get (D := (dC, dI)) (ci := 0) (v := .int (iI ((x).1 (87) 13))) (C := RX0) (T := TX0) (N := 15) hx hb hts hinX0 hown hK hP (87) (kg87 (by omega)) rfl 13 (by decide) (hts (.fieldLink RX0 72 "LikeWords$Grower" "level" "I") (by decide +kernel)) (fun _ h9 => h9) rfl dX0_open_22 ?_
        refine lv_aload_n hx hb dX0_open_25 rfl (lv_at hl 0 rfl) ?_
        refine va_get (D := (dC, dI)) (ci := 0) (v := .ref (ad (97))) (C := RX0) (T := TX0) (N := 15) hx hb hts hinX0 hown hK hP (87) (kg87 (by omega)) rfl 8 (by decide) (hts (.fieldLink RX0 45 "LikeWords$Grower" "waiting" "[I") (by decide +kernel)) (fun _ h9 => h9) rfl dX0_open_26 ?_
        refine va_alen (v := iI ((62 : Int))) hx hb hK hP (97) 0 (kgi kC97 (by omega) rfl) rfl (iI_nat _) dX0_open_29 ?_
        refine lv_iconst (v := iI (1 : Int)) hx hb dX0_open_30 (by decide) ?_
        refine wi_isub hx hb dX0_open_31 ?_
        refine wi_icmp_ge (tgt := 45) hx hb (by first | assumption | (unfold iR; omega) | exact kR01 (by assumption)) (by first | assumption | (unfold iR; omega) | exact kR01 (by assumption)) dX0_open_32 (by decide) (fun c_32 => ?_) (fun c_32 => ?_)
        · skip
          rw [if_pos c_32] at hres
          refine lv_aload_n hx hb dX0_open_45 rfl (lv_at hl 0 rfl) ?_
          refine va_get (D := (dC, dI)) (ci := 0) (v := .ref (ad (95))) (C := RX0) (T := TX0) (N := 15) hx hb hts hinX0 hown hK hP (87) (kg87 (by omega)) rfl 6 (by decide) (hts (.fieldLink RX0 38 "LikeWords$Grower" "startHeads" "[J") (by decide +kernel)) (fun _ h9 => h9) rfl dX0_open_46 ?_
          refine lv_aload_n hx hb dX0_open_49 rfl (lv_at hl 0 rfl) ?_
          refine va_get (D := (dC, dI)) (ci := 0) (v := .int (iI ((x).1 (87) 13))) (C := RX0) (T := TX0) (N := 15) hx hb hts hinX0 hown hK hP (87) (kg87 (by omega)) rfl 13 (by decide) (hts (.fieldLink RX0 72 "LikeWords$Grower" "level" "I") (by decide +kernel)) (fun _ h9 => h9) rfl dX0_open_50 ?_
          refine lv_lload_n hx hb dX0_open_53 rfl (lv_at hl 1 rfl) ?_
          refine wi_last (f := (x).2 (95)) (n := kLen (95)) hx hb hK hP hD hS (95) 1 (kgj kC95 (by omega) rfl) rfl (i := (x).1 (87) 13) (x := h9) (by omega) (by show _ < ((62 : Nat) : Int); exact (by omega)) (kLen_lt _) dX0_open_54 (fun H locs hP hD hS => ?_)
          rw [ksj kC95] at hP hD
          refine lv_aload_n hx hb dX0_open_55 rfl (lv_at hl 0 rfl) ?_
          refine va_get (D := (dC, dI)) (ci := 0) (v := .ref (ad (96))) (C := RX0) (T := TX0) (N := 15) hx hb hts hinX0 hown hK hP (87) (kg87 (by omega)) rfl 7 (by decide) (hts (.fieldLink RX0 42 "LikeWords$Grower" "startTails" "[J") (by decide +kernel)) (fun _ h9 => h9) rfl dX0_open_56 ?_
          refine lv_aload_n hx hb dX0_open_59 rfl (lv_at hl 0 rfl) ?_
          refine va_get (D := (dC, dI)) (ci := 0) (v := .int (iI ((x).1 (87) 13))) (C := RX0) (T := TX0) (N := 15) hx hb hts hinX0 hown hK hP (87) (kg87 (by omega)) rfl 13 (by decide) (hts (.fieldLink RX0 72 "LikeWords$Grower" "level" "I") (by decide +kernel)) (fun _ h9 => h9) rfl dX0_open_60 ?_
          refine lv_lload_n hx hb dX0_open_63 rfl (lv_at hl 2 rfl) ?_
          refine wi_last (f := (kA (x) (95) ((x).1 (87) 13).toNat (h9)).2 (96)) (n := kLen (96)) hx hb hK hP hD hS (96) 1 (kgj kC96 (by omega) rfl) rfl (i := (x).1 (87) 13) (x := t9) (by omega) (by show _ < ((62 : Nat) : Int); exact (by omega)) (kLen_lt _) dX0_open_64 (fun H locs hP hD hS => ?_)
          rw [ksj kC96] at hP hD
          refine lv_iconst (v := iI (0 : Int)) hx hb dX0_open_65 (by decide) ?_
          exact W.zret (v := iI ((0 : Int))) hx hb hr (kz _ (by first | assumption | omega)) (fun t ht hW => ⟨⟨iI ((0 : Int)), kA (kA (x) (95) ((x).1 (87) 13).toNat (h9)) (96) ((x).1 (87) 13).toNat (t9), rfl, ⟨(by have h9 := congrArg (fun z : Int × KS => iI z.1) hres; exact h9), (by have h9 := congrArg (fun z : Int × KS => z.2) hres; exact h9)⟩, by rw [ht]; exact hP, va_K.moved hW.alike hK, hD⟩, hS.F ht⟩) hS.2.2 dX0_open_66
        · skip
          rw [if_neg c_32] at hres
          refine lv_aload_n hx hb dX0_open_35 rfl (lv_at hl 0 rfl) ?_
          refine lv_dup hx hb dX0_open_36 rfl ?_
          refine va_get (D := (dC, dI)) (ci := 0) (v := .int (iI ((x).1 (87) 13))) (C := RX0) (T := TX0) (N := 15) hx hb hts hinX0 hown hK hP (87) (kg87 (by omega)) rfl 13 (by decide) (hts (.fieldLink RX0 72 "LikeWords$Grower" "level" "I") (by decide +kernel)) (fun _ h9 => h9) rfl dX0_open_37 ?_
          refine lv_iconst (v := iI (1 : Int)) hx hb dX0_open_40 (by decide) ?_
          refine wi_iadd hx hb dX0_open_41 ?_
          refine va_put (D := (dC, dI)) (ci := 0) (v := .int (iI (((x).1 (87) 13) + ((1 : Int))))) (ty := .int) (C := RX0) (T := TX0) (N := 15) hx hb hts hinX0 tyX0 tyX0_ok nmX0 hown hK hP hD hS (87) (kg87 (by omega)) rfl 13 (by decide) (hts (.fieldLink RX0 72 "LikeWords$Grower" "level" "I") (by decide +kernel)) (fun _ h9 => h9) rfl (by decide +kernel) rfl rfl (Nat.le_of_ble_eq_true rfl) dX0_open_42 (fun H locs hP hD hS => ?_)
          rw [ks87_13] at hP hD
          refine lv_aload_n hx hb dX0_open_45 rfl (lv_at hl 0 rfl) ?_
          refine va_get (D := (dC, dI)) (ci := 0) (v := .ref (ad (95))) (C := RX0) (T := TX0) (N := 15) hx hb hts hinX0 hown hK hP (87) (kg87 (by omega)) rfl 6 (by decide) (hts (.fieldLink RX0 38 "LikeWords$Grower" "startHeads" "[J") (by decide +kernel)) (fun _ h9 => h9) rfl dX0_open_46 ?_
          refine lv_aload_n hx hb dX0_open_49 rfl (lv_at hl 0 rfl) ?_
          refine va_get (D := (dC, dI)) (ci := 0) (v := .int (iI (((x).1 (87) 13) + ((1 : Int))))) (C := RX0) (T := TX0) (N := 15) hx hb hts hinX0 hown hK hP (87) (kg87 (by omega)) rfl 13 (by decide) (hts (.fieldLink RX0 72 "LikeWords$Grower" "level" "I") (by decide +kernel)) (fun _ h9 => h9) (congrArg (fun z9 => some (Value.int (iI z9))) (kS_s)) dX0_open_50 ?_
          refine lv_lload_n hx hb dX0_open_53 rfl (lv_at hl 1 rfl) ?_
          refine wi_last (f := (kS (x) (87) 13 (((x).1 (87) 13) + ((1 : Int)))).2 (95)) (n := kLen (95)) hx hb hK hP hD hS (95) 1 (kgj kC95 (by omega) rfl) rfl (i := ((x).1 (87) 13) + ((1 : Int))) (x := h9) (by omega) (by show _ < ((62 : Nat) : Int); exact (by omega)) (kLen_lt _) dX0_open_54 (fun H locs hP hD hS => ?_)
          rw [ksj kC95] at hP hD
          refine lv_aload_n hx hb dX0_open_55 rfl (lv_at hl 0 rfl) ?_
          refine va_get (D := (dC, dI)) (ci := 0) (v := .ref (ad (96))) (C := RX0) (T := TX0) (N := 15) hx hb hts hinX0 hown hK hP (87) (kg87 (by omega)) rfl 7 (by decide) (hts (.fieldLink RX0 42 "LikeWords$Grower" "startTails" "[J") (by decide +kernel)) (fun _ h9 => h9) rfl dX0_open_56 ?_
          refine lv_aload_n hx hb dX0_open_59 rfl (lv_at hl 0 rfl) ?_
          refine va_get (D := (dC, dI)) (ci := 0) (v := .int (iI (((x).1 (87) 13) + ((1 : Int))))) (C := RX0) (T := TX0) (N := 15) hx hb hts hinX0 hown hK hP (87) (kg87 (by omega)) rfl 13 (by decide) (hts (.fieldLink RX0 72 "LikeWords$Grower" "level" "I") (by decide +kernel)) (fun _ h9 => h9) (congrArg (fun z9 => some (Value.int (iI z9))) ((congrFun (congrFun kA_1 (87)) 13).trans (kS_s))) dX0_open_60 ?_
          refine lv_lload_n hx hb dX0_open_63 rfl (lv_at hl 2 rfl) ?_
          refine wi_last (f := (kA (kS (x) (87) 13 (((x).1 (87) 13) + ((1 : Int)))) (95) (((x).1 (87) 13) + ((1 : Int))).toNat (h9)).2 (96)) (n := kLen (96)) hx hb hK hP hD hS (96) 1 (kgj kC96 (by omega) rfl) rfl (i := ((x).1 (87) 13) + ((1 : Int))) (x := t9) (by omega) (by show _ < ((62 : Nat) : Int); exact (by omega)) (kLen_lt _) dX0_open_64 (fun H locs hP hD hS => ?_)
          rw [ksj kC96] at hP hD
          refine lv_iconst (v := iI (0 : Int)) hx hb dX0_open_65 (by decide) ?_
          exact W.zret (v := iI ((0 : Int))) hx hb hr (kz _ (by first | assumption | omega)) (fun t ht hW => ⟨⟨iI ((0 : Int)), kA (kA (kS (x) (87) 13 (((x).1 (87) 13) + ((1 : Int)))) (95) (((x).1 (87) 13) + ((1 : Int))).toNat (h9)) (96) (((x).1 (87) 13) + ((1 : Int))).toNat (t9), rfl, ⟨(by have h9 := congrArg (fun z : Int × KS => iI z.1) hres; exact h9), (by have h9 := congrArg (fun z : Int × KS => z.2) hres; exact h9)⟩, by rw [ht]; exact hP, va_K.moved hW.alike hK, hD⟩, hS.F ht⟩) hS.2.2 dX0_open_66
      · skip
        rw [if_neg c_16] at hres
        refine lv_iconst (v := iI (1 : Int)) hx hb dX0_open_19 (by decide) ?_
        exact W.zret (v := iI ((1 : Int))) hx hb hr (kz _ (by first | assumption | omega)) (fun t ht hW => ⟨⟨iI ((1 : Int)), x, rfl, ⟨(by have h9 := congrArg (fun z : Int × KS => iI z.1) hres; exact h9), (by have h9 := congrArg (fun z : Int × KS => z.2) hres; exact h9)⟩, by rw [ht]; exact hP, va_K.moved hW.alike hK, hD⟩, hS.F ht⟩) hS.2.2 dX0_open_20
  exact key _ _ hP hS
theorem F_g_open_fr (x : KS) (h9 : Int) (t9 : Int) : ksame [(87, 13)] [95, 96] x (F_g_open x h9 t9).2 := by
  unfold F_g_open
  by_cases hc : ((x).1 (87) 13) ≤ (0)
  · rw [if_pos hc]
    by_cases hc : (((62 : Int)) - ((1 : Int))) ≤ ((x).1 (87) 13)
    · rw [if_pos hc]
      exact (km_a (List.Mem.tail _ (List.Mem.head _)) (km_a (List.Mem.head _) (km_rf _ _ _)))
    · rw [if_neg hc]
      exact (km_a (List.Mem.tail _ (List.Mem.head _)) (km_a (List.Mem.head _) (km_s (List.Mem.head _) (km_rf _ _ _))))
  · rw [if_neg hc]
    by_cases hc : (0) < (((x).2 (97)) ((x).1 (87) 13).toNat)
    · rw [if_pos hc]
      by_cases hc : (((62 : Int)) - ((1 : Int))) ≤ ((x).1 (87) 13)
      · rw [if_pos hc]
        exact (km_a (List.Mem.tail _ (List.Mem.head _)) (km_a (List.Mem.head _) (km_rf _ _ _)))
      · rw [if_neg hc]
        exact (km_a (List.Mem.tail _ (List.Mem.head _)) (km_a (List.Mem.head _) (km_s (List.Mem.head _) (km_rf _ _ _))))
    · rw [if_neg hc]
      exact (km_rf _ _ _)
theorem F_g_open_q (x : KS) (h9 : Int) (t9 : Int)  : kq [87] [95, 96] x (F_g_open x h9 t9).2 := kq_of (F_g_open_fr x h9 t9) (kq_c (Or.inr (by decide)) kq_m) (kq_c (Or.inr (by decide)) (kq_c (Or.inr (by decide)) kq_n))
theorem F_w_dropLast_90 {x : KS} (v1 : 1 ≤ x.1 90 1) (v2 : x.1 90 1 ≤ 60) : (F_w_dropLast x 90) = (x.2 91 (x.1 90 1 - 1).toNat, kS x 90 1 (x.1 90 1 - 1)) := by
  unfold F_w_dropLast
  rw [if_neg (by omega), if_pos (by show x.1 90 1 ≤ ((60 : Nat) : Int); omega)]
theorem F_w_push_88 {x : KS} {v : Int} (u0 : 0 ≤ x.1 88 1) (u1 : x.1 88 1 < 60) : (F_w_push x 88 v) = (1, kA (kS x 88 1 (x.1 88 1 + 1)) 89 (x.1 88 1).toNat v) := by
  unfold F_w_push
  rw [if_neg (by omega), if_pos (by show x.1 88 1 < ((60 : Nat) : Int); omega)]
