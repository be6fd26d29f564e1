-- deps: 30 31 32 33 34 35 36 37 38 39 40 41 44
theorem kfit (z : Int) (h : z = 0 ∨ z = 1) : fits .boolean (.int (iI z)) = true := by rcases h with h | h <;> subst h <;> rfl
theorem F_a_countWays_i (x : KS) (v : Int) : kq [64] [67, 68] x (F_a_countWays x v).2 := F_a_countWays_q x v
theorem F_a_waysBy_b {x : KS} (ms : maS x) {s z B : Int} (hB : 0 ≤ B) (hs0 : 0 ≤ s) (hs : s < x.1 64 7) (hz0 : 0 ≤ z) (hz : z < x.1 1 2) (hw : ∀ j : Nat, (j : Int) < x.1 64 7 → 0 ≤ x.2 (kWs (x.1 64 4)) j ∧ x.2 (kWs (x.1 64 4)) j ≤ B) : 0 ≤ (F_a_waysBy x s z).1 ∧ (F_a_waysBy x s z).1 ≤ B := by
  have h := ms s z hs0 hs hz0 hz
  unfold F_a_waysBy
  split
  · exact ⟨Int.le_refl 0, hB⟩
  · exact hw _ (by omega)
theorem maR_k {x y : KS} (h : ksame [(64, 4), (64, 5)] [67, 68] x y) (ma : maR x) : maR y := maR_of h (by decide) (by decide) (by decide) ma
theorem row67 {w : Nat} (hw : kW w = true) : w + 1 ∉ [67, 68] := by
  intro h
  rcases List.mem_cons.mp h with e | e
  · exact kR_ne (d := 67) hw rfl e
  · rcases List.mem_cons.mp e with e | e
    · exact kR_ne (d := 68) hw rfl e
    · exact List.not_mem_nil e
theorem F_w_wipe_k {x : KS} {w : Nat} (hw : kW w = true) (d : dz x) : wyK x (F_w_wipe x w).2 := by
  have q := F_w_wipe_q x w hw
  have e64 := q.1 64 rfl (by decide)
  refine ⟨congrFun (q.1 1 rfl (by decide)) 2, congrFun e64 7, q.2 66 rfl (by decide), ?_⟩
  unfold dz
  rw [e64]
  exact d
theorem F_a_push_k {x : KS} {w : Nat} {v : Int} (hw : kW w = true) (d : dz x) : wyK x (F_w_push x w v).2 := by
  have q := F_w_push_q x w v hw
  have e64 := q.1 64 rfl (by decide)
  refine ⟨congrFun (q.1 1 rfl (by decide)) 2, congrFun e64 7, q.2 66 rfl (by decide), ?_⟩
  unfold dz
  rw [e64]
  exact d
def F_a_tally_s  : Nat → Nat → KS → Int → Int × KS
  | 0, _, x, _ => (0, x)
  | n + 1, t, x, p0 => match t with
    | 0 => (fun (i : Int) => (if ((x).1 (64) 7) ≤ (i) then F_a_tally_s n 1 (x) ((0 : Int)) else F_a_tally_s n 0 (kA (x) (kWs ((x).1 (64) 4)) (i).toNat ((1 : Int))) ((i) + (1 : Int)))) p0
    | 1 => (fun (i : Int) => (if ((31 : Int)) < (i) then (0, x) else F_a_tally_s n 1 ((F_a_lengthen (kA (x) (69) (i).toNat (((x).2 (kWs ((x).1 (64) 4))) ((0 : Int)).toNat))).2) ((i) + (1 : Int)))) p0
    | _ => (0, x)
theorem F_a_tally_e0  (n : Nat) (x : KS) (i : Int) : F_a_tally_s (n + 1) 0 x i = (if ((x).1 (64) 7) ≤ (i) then F_a_tally_s n 1 (x) ((0 : Int)) else F_a_tally_s n 0 (kA (x) (kWs ((x).1 (64) 4)) (i).toNat ((1 : Int))) ((i) + (1 : Int))) := rfl
theorem F_a_tally_e1  (n : Nat) (x : KS) (i : Int) : F_a_tally_s (n + 1) 1 x i = (if ((31 : Int)) < (i) then (0, x) else F_a_tally_s n 1 ((F_a_lengthen (kA (x) (69) (i).toNat (((x).2 (kWs ((x).1 (64) 4))) ((0 : Int)).toNat))).2) ((i) + (1 : Int))) := rfl
def F_a_tally (x : KS)  : Int × KS := F_a_tally_s 500 0 (kS ((F_a_isEndless (x)).2) (64) 9 ((F_a_isEndless (x)).1)) ((0 : Int))
set_option maxHeartbeats 4000000 in
set_option maxRecDepth 100000 in
/-- LikeWords$Machine, tally -/
theorem c_a_tally (l : Launch) (dC : Nat → ClassId) (dI : Nat → Nat → Nat) (ad : Nat → Nat) (cI cJ cZ cR : ClassId) (M wl sz : Nat) (x : KS)  (hM : 87 ≤ M) (ma : maR x) (l2 : 1 ≤ x.1 1 2 ∧ x.1 1 2 ≤ 4) (rw : ∀ j : Nat, iRL (x.2 (kWs (x.1 64 4)) j)) : Met l yX3_tally wsX3_tally ({ frames := 3, cells := 0, slots := 0, locals := 69 }) (kPc dC dI ad cI cJ cZ cR M wl sz x [.ref (ad 64)]) (va_Qv (fun u : KS => u = (F_a_tally x).2) (kAt dC dI ad cI cJ cZ cR M wl (va_A (kWd cI cJ cZ cR wl ad M (x)) sz)) (va_A (kWd cI cJ cZ cR wl ad M (x)) sz)) 0 0 (va_A (kWd cI cJ cZ cR wl ad M (x)) sz) := by
  refine Met.ofW (cc := cX3_tally) (maxL := 2) (ret := none) (by decide) rfl ?_
  intro p e s m args below meth c s₁ B hml hv
  obtain ⟨rfl, hsz, hP, hK, hD0, hNw⟩ := hv
  have hx := B.exec
  have hb := B.bytes
  have hr := B.returns
  have hts := atoms_spec (ws := wsX3_tally) B.pre
  have hown : s.vm.findClass RX3 = some m.cls := findClass_of_methodNamed B.named
  have hlocks := B.notSynchronized
  have hinX3 : ∀ w ∈ u_ws RX3 TX3 10, w ∈ wsX3_tally := by decide +kernel
  subst hsz
  have hD := hD0.self (sz := s.heap.size)
  generalize hAe : va_A (kWd cI cJ cZ cR wl ad M (x)) s.heap.size = A at hD ⊢
  have hA : ∀ q : Nat, s.heap.size ≤ q → A q := fun q h => by rw [← hAe]; exact Or.inr h
  have hS : va_S A s.heap s.heap [] := va_S.rf
  have hl := lv_entry ([.ref (ad 64)]) (n := 2) (Nat.le_of_ble_eq_true rfl)
  rw [lg_entry_eq]
  generalize (lg_sl ([.ref (ad 64)]) ++ List.replicate (2 - (lg_sl ([.ref (ad 64)])).length) Slot.unset).toArray = ls at hl ⊢
  have hl : lv_has ls 2 [(0, .ref (ad (64)))] := hl
  have ma1 := ma.1
  have fe := F_a_isEndless_fr x
  have mae : maR (kS (F_a_isEndless x).2 64 9 (F_a_isEndless x).1) := (maR_of (S := []) (A := [67, 68]) fe (by decide) (by decide) (by decide) ma : maR (F_a_isEndless x).2)
  have l2e : 1 ≤ (kS (F_a_isEndless x).2 64 9 (F_a_isEndless x).1).1 1 2 ∧ (kS (F_a_isEndless x).2 64 9 (F_a_isEndless x).1).1 1 2 ≤ 4 := (l2_of (S := []) (A := [67, 68]) fe (by decide) l2 : 1 ≤ (F_a_isEndless x).2.1 1 2 ∧ (F_a_isEndless x).2.1 1 2 ≤ 4)
  have L : ∀ n : Nat, (∀ (y : KS) (i : Int), (maR y) → (1 ≤ y.1 1 2 ∧ y.1 1 2 ≤ 4) → (0 ≤ i) → (i ≤ 320) → (50 + 320 - i < n) → F_a_tally_s n 0 y i = F_a_tally x → ∀ (H : Heap) (locs : List Loc) (ls : Array Slot), va_P (dC, dI) vwCl (kWd cI cJ cZ cR wl ad M (y)) H → va_D A (kWd cI cJ cZ cR wl ad M (y)) → va_S A s.heap H locs → lv_has ls 2 [(0, .ref (ad (64))), (1, .int (iI (i)))] → W p l e (headSpec wsX3_tally ({ frames := 3, cells := 0, slots := 0, locals := 69 })).room s m ([.ref (ad 64)] : List Value).toArray below meth c H locs 0 0 (MQ below (va_Qv (fun u : KS => u = (F_a_tally x).2) (kAt dC dI ad cI cJ cZ cR M wl A) A) ([.ref (ad 64)] : List Value).toArray s 0 0 A) (F0 m 10 ls [])) ∧ (∀ (y : KS) (i : Int), (maR y) → (1 ≤ y.1 1 2 ∧ y.1 1 2 ≤ 4) → (0 ≤ i) → (i ≤ 32) → (32 - i < n) → F_a_tally_s n 1 y i = F_a_tally x → ∀ (H : Heap) (locs : List Loc) (ls : Array Slot), va_P (dC, dI) vwCl (kWd cI cJ cZ cR wl ad M (y)) H → va_D A (kWd cI cJ cZ cR wl ad M (y)) → va_S A s.heap H locs → lv_has ls 2 [(0, .ref (ad (64))), (1, .int (iI (i)))] → W p l e (headSpec wsX3_tally ({ frames := 3, cells := 0, slots := 0, locals := 69 })).room s m ([.ref (ad 64)] : List Value).toArray below meth c H locs 0 0 (MQ below (va_Qv (fun u : KS => u = (F_a_tally x).2) (kAt dC dI ad cI cJ cZ cR M wl A) A) ([.ref (ad 64)] : List Value).toArray s 0 0 A) (F0 m 33 ls [])) := by
    intro n
    induction n with
    | zero =>
      refine ⟨?_, ?_⟩
      · intro y i may l2y i0 i1 fu hres
        exact absurd fu (by omega)
      · intro y i may l2y i0 i1 fu hres
        exact absurd fu (by omega)
    | succ n ih =>
      refine ⟨?_, ?_⟩
      · intro y i may l2y i0 i1 fu hres H locs ls hP hD hS hl
        rw [F_a_tally_e0] at hres
        have may1 := may.1
        refine lv_iload_n hx hb dX3_tally_10 rfl (lv_at hl 1 rfl) ?_
        refine lv_aload_n hx hb dX3_tally_11 rfl (lv_at hl 0 rfl) ?_
        refine va_get (D := (dC, dI)) (ci := 3) (v := .int (iI ((y).1 (64) 7))) (C := RX3) (T := TX3) (N := 10) hx hb hts hinX3 hown hK hP (64) (kg64 (by omega)) rfl 7 (by decide) (hts (.fieldLink RX3 36 "LikeWords$Machine" "held" "I") (by decide +kernel)) (fun _ h9 => h9) rfl dX3_tally_12 ?_
        refine wi_icmp_ge (tgt := 31) hx hb (by first | assumption | (unfold iR; omega) | exact kR01 (by assumption)) (by first | assumption | (unfold iR; omega) | exact kR01 (by assumption)) dX3_tally_15 (by decide) (fun c_15 => ?_) (fun c_15 => ?_)
        · skip
          rw [if_pos c_15] at hres
          refine lv_iconst (v := iI (0 : Int)) hx hb dX3_tally_31 (by decide) ?_
          refine lv_istore_n (lv' := [(1, .int (iI ((0 : Int)))), (0, .ref (ad (64)))]) hx hb dX3_tally_32 rfl hl (by decide) rfl (fun ls hl => ?_)
          exact ih.2 (y) ((0 : Int)) (may) (l2y) (by omega) (by omega) (by omega) hres _ _ ls hP hD hS (lv_sub hl [1, 0] rfl)
        · skip
          rw [if_neg c_15] at hres
          refine lv_aload_n hx hb dX3_tally_18 rfl (lv_at hl 0 rfl) ?_
          refine va_get (D := (dC, dI)) (ci := 3) (v := .ref (ad (kWs ((y).1 (64) 4)))) (C := RX3) (T := TX3) (N := 10) hx hb hts hinX3 hown hK hP (64) (kg64 (by omega)) rfl 4 (by decide) (hts (.fieldLink RX3 26 "LikeWords$Machine" "ways" "[J") (by decide +kernel)) (fun _ h9 => h9) rfl dX3_tally_19 ?_
          refine lv_iload_n hx hb dX3_tally_22 rfl (lv_at hl 1 rfl) ?_
          refine lv_lconst (v := iL 1) hx hb dX3_tally_23 (by decide) ?_
          refine wi_last (f := (y).2 (kWs ((y).1 (64) 4))) (n := kLen (kWs ((y).1 (64) 4))) hx hb hK hP hD hS (kWs ((y).1 (64) 4)) 1 (kgj (kJ_ws _) (kWs_lt hM) rfl) rfl (i := i) (x := (1 : Int)) (by omega) (by rw [kLen_ws]; exact (by omega)) (kLen_lt _) dX3_tally_24 (fun H locs hP hD hS => ?_)
          rw [ksj (kJ_ws _)] at hP hD
          refine lv_iinc (v := iI ((i) + (1 : Int))) (lv' := [(1, .int (iI ((i) + (1 : Int)))), (0, .ref (ad (64)))]) hx hb dX3_tally_25 hl (k := 1) rfl (iI_add _ _) (by decide) rfl (fun ls hl => ?_)
          refine lv_goto (tgt := 10) hx hb dX3_tally_28 (by decide) ?_
          exact ih.1 (kA (y) (kWs ((y).1 (64) 4)) (i).toNat ((1 : Int))) ((i) + (1 : Int)) ((maR_of (S := []) (A := [67, 68]) (km_a (kWs_in (List.Mem.head _) (List.Mem.tail _ (List.Mem.head _))) (km_rf _ _ _)) (by decide) (by decide) (by decide) may)) (l2y) (by omega) (by omega) (by omega) hres _ _ ls hP hD hS (lv_sub hl [1, 0] rfl)
      · intro y i may l2y i0 i1 fu hres H locs ls hP hD hS hl
        rw [F_a_tally_e1] at hres
        refine lv_iload_n hx hb dX3_tally_33 rfl (lv_at hl 1 rfl) ?_
        refine lv_bipush (v := iI (31 : Int)) hx hb dX3_tally_34 (by decide) ?_
        refine wi_icmp_gt (tgt := 61) hx hb (by first | assumption | (unfold iR; omega) | exact kR01 (by assumption)) ⟨by decide, by decide⟩ dX3_tally_36 (by decide) (fun c_36 => ?_) (fun c_36 => ?_)
        · skip
          rw [if_pos c_36] at hres
          exact W.vret hx hb hr (fun t ht hW => ⟨⟨y, rfl, (by have h9 := congrArg (fun z : Int × KS => z.2) hres; exact h9), by rw [ht]; exact hP, va_K.moved hW.alike hK, hD⟩, hS.F ht⟩) hS.2.2 dX3_tally_61
        · skip
          rw [if_neg c_36] at hres
          refine lv_aload_n hx hb dX3_tally_39 rfl (lv_at hl 0 rfl) ?_
          refine va_get (D := (dC, dI)) (ci := 3) (v := .ref (ad (69))) (C := RX3) (T := TX3) (N := 10) hx hb hts hinX3 hown hK hP (64) (kg64 (by omega)) rfl 6 (by decide) (hts (.fieldLink RX3 33 "LikeWords$Machine" "counts" "[J") (by decide +kernel)) (fun _ h9 => h9) rfl dX3_tally_40 ?_
          refine lv_iload_n hx hb dX3_tally_43 rfl (lv_at hl 1 rfl) ?_
          refine lv_aload_n hx hb dX3_tally_44 rfl (lv_at hl 0 rfl) ?_
          refine va_get (D := (dC, dI)) (ci := 3) (v := .ref (ad (kWs ((y).1 (64) 4)))) (C := RX3) (T := TX3) (N := 10) hx hb hts hinX3 hown hK hP (64) (kg64 (by omega)) rfl 4 (by decide) (hts (.fieldLink RX3 26 "LikeWords$Machine" "ways" "[J") (by decide +kernel)) (fun _ h9 => h9) rfl dX3_tally_45 ?_
          refine lv_iconst (v := iI (0 : Int)) hx hb dX3_tally_48 (by decide) ?_
          refine wi_lald (f := (y).2 (kWs ((y).1 (64) 4))) (n := kLen (kWs ((y).1 (64) 4))) hx hb hK hP (kWs ((y).1 (64) 4)) 1 (kgj (kJ_ws _) (kWs_lt hM) rfl) rfl (i := (0 : Int)) (by omega) (by rw [kLen_ws]; exact (by omega)) (kLen_lt _) dX3_tally_49 ?_
          refine wi_last (f := (y).2 (69)) (n := kLen (69)) hx hb hK hP hD hS (69) 1 (kgj kC69 (by omega) rfl) rfl (i := i) (x := ((y).2 (kWs ((y).1 (64) 4))) ((0 : Int)).toNat) (by omega) (by show _ < ((32 : Nat) : Int); exact (by omega)) (kLen_lt _) dX3_tally_50 (fun H locs hP hD hS => ?_)
          rw [ksj kC69] at hP hD
          refine lv_aload_n hx hb dX3_tally_51 rfl (lv_at hl 0 rfl) ?_
          have hFc : ∀ q, va_A (kWd cI cJ cZ cR wl ad M (kA (y) (69) (i).toNat (((y).2 (kWs ((y).1 (64) 4))) ((0 : Int)).toNat))) H.size q → A q := fun q hq => Or.elim hq (fun ⟨k, e, hk⟩ => hD.2 k (q, e) hk) (fun hk => hA q (Nat.le_trans hS.1 hk))
          refine va_callv (va_runV (b := ad (64)) (As := []) (rest := []) ⟨hx, hb, hml, hown, hts⟩ (c_a_lengthen l dC dI ad cI cJ cZ cR M wl H.size (kA (y) (69) (i).toNat (((y).2 (kWs ((y).1 (64) 4))) ((0 : Int)).toNat))   hM may l2y) (cwV 0 hts gX3_tally_X3_lengthen rfl rfl rfl (by decide +kernel) ⟨Nat.le_of_ble_eq_true rfl, Nat.le_of_ble_eq_true rfl⟩) ⟨fun a U g mk q => by obtain ⟨q0, q1, qP, qK, qD, qN⟩ := q; exact ⟨q0, q1, qP, va_K.moved (u := U) (U := U.calling g mk a) (Vm.Alike.refl U.vm) qK, qD, kNw.same (u := U) (U := U.calling g mk a) rfl qN⟩, va_recv hK hP (ci := 3) (q0 := 64) rfl (kg64 (by omega)), fun U hU hW => ⟨rfl, by rw [hU], by rw [hU]; exact hP, va_K.moved hW.alike hK, hD.weaken (fun _ _ _ _ => trivial), kNw.warm hW hNw⟩⟩ rfl rfl hl.1 rfl (lv_room (Nat.le_of_ble_eq_true rfl)) dX3_tally_52 ⟨Nat.le_of_ble_eq_true rfl, Nat.le_of_ble_eq_true rfl⟩) hS (fun q _ h => hFc q h) hFc (fun u9 t H1 locs ht hvm hw hB hz1 hk1 hS => ?_)
          obtain ⟨hP1, hK1, hD1⟩ := hB
          rw [ht] at hP1
          rw [hw] at hP1 hD1
          have hD2 := hD1.weaken (B := A) (fun _ q _ h => hFc q.1 h)
          have hP := hP1
          have hD := hD2
          generalize H1 = H at hP hS ⊢
          refine lv_iinc (v := iI ((i) + (1 : Int))) (lv' := [(1, .int (iI ((i) + (1 : Int)))), (0, .ref (ad (64)))]) hx hb dX3_tally_55 hl (k := 1) rfl (iI_add _ _) (by decide) rfl (fun ls hl => ?_)
          refine lv_goto (tgt := 33) hx hb dX3_tally_58 (by decide) ?_
          exact ih.2 ((F_a_lengthen (kA (y) (69) (i).toNat (((y).2 (kWs ((y).1 (64) 4))) ((0 : Int)).toNat))).2) ((i) + (1 : Int)) ((maR_of (F_a_lengthen_fr _) (by decide) (by decide) (by decide) may)) ((l2_of (F_a_lengthen_fr _) (by decide) l2y)) (by omega) (by omega) (by omega) hres _ _ ls hP hD hS (lv_sub hl [1, 0] rfl)
  have key : ∀ (H : Heap) (locs : List Loc), va_P (dC, dI) vwCl (kWd cI cJ cZ cR wl ad M (x)) H → va_S A s.heap H locs → W p l e (headSpec wsX3_tally ({ frames := 3, cells := 0, slots := 0, locals := 69 })).room s m ([.ref (ad 64)] : List Value).toArray below meth c H locs 0 0 (MQ below (va_Qv (fun u : KS => u = (F_a_tally x).2) (kAt dC dI ad cI cJ cZ cR M wl A) A) ([.ref (ad 64)] : List Value).toArray s 0 0 A) (F0 m 0 ls []) := by
    intro H locs hP hS
    have hres : F_a_tally_s 500 0 (kS ((F_a_isEndless (x)).2) (64) 9 ((F_a_isEndless (x)).1)) ((0 : Int)) = F_a_tally x := rfl
    refine lv_aload_n hx hb dX3_tally_0 rfl (lv_at hl 0 rfl) ?_
    refine lv_aload_n hx hb dX3_tally_1 rfl (lv_at hl 0 rfl) ?_
    have hFc : ∀ q, va_A (kWd cI cJ cZ cR wl ad M (x)) H.size q → A q := fun q hq => Or.elim hq (fun ⟨k, e, hk⟩ => hD.2 k (q, e) hk) (fun hk => hA q (Nat.le_trans hS.1 hk))
    refine va_calli (va_runV (b := ad (64)) (As := []) (rest := [.ref (ad (64))]) ⟨hx, hb, hml, hown, hts⟩ (c_a_isEndless l dC dI ad cI cJ cZ cR M wl H.size (x)   hM ma l2 rw) (cwV 0 hts gX3_tally_X3_isEndless rfl rfl rfl (by decide +kernel) ⟨Nat.le_of_ble_eq_true rfl, Nat.le_of_ble_eq_true rfl⟩) ⟨fun a U g mk q => by obtain ⟨q0, q1, qP, qK, qD, qN⟩ := q; exact ⟨q0, q1, qP, va_K.moved (u := U) (U := U.calling g mk a) (Vm.Alike.refl U.vm) qK, qD, kNw.same (u := U) (U := U.calling g mk a) rfl qN⟩, va_recv hK hP (ci := 3) (q0 := 64) rfl (kg64 (by omega)), fun U hU hW => ⟨rfl, by rw [hU], by rw [hU]; exact hP, va_K.moved hW.alike hK, hD.weaken (fun _ _ _ _ => trivial), kNw.warm hW hNw⟩⟩ rfl rfl hl.1 rfl (lv_room (Nat.le_of_ble_eq_true rfl)) dX3_tally_2 ⟨Nat.le_of_ble_eq_true rfl, Nat.le_of_ble_eq_true rfl⟩) hS (fun q _ h => hFc q h) hFc (fun r9 u9 t H1 locs ht hvm hw hB hz1 hk1 hS => ?_)
    obtain ⟨hP1, hK1, hD1⟩ := hB
    rw [ht] at hP1
    obtain ⟨hw1, hw2⟩ := hw
    rw [hw2] at hP1 hD1
    rw [hw1]
    have hD2 := hD1.weaken (B := A) (fun _ q _ h => hFc q.1 h)
    have hP := hP1
    have hD := hD2
    generalize H1 = H at hP hS ⊢
    refine va_put (D := (dC, dI)) (ci := 3) (v := .int (iI ((F_a_isEndless (x)).1))) (ty := .boolean) (C := RX3) (T := TX3) (N := 10) hx hb hts hinX3 tyX3 tyX3_ok nmX3 hown hK hP hD hS (64) (kg64 (by omega)) rfl 9 (by decide) (hts (.fieldLink RX3 94 "LikeWords$Machine" "endless" "Z") (by decide +kernel)) (fun _ h9 => h9) rfl (by decide +kernel) (kz _ (F_a_isEndless_01 _)) (kfit _ (F_a_isEndless_01 _)) (Nat.le_of_ble_eq_true rfl) dX3_tally_5 (fun H locs hP hD hS => ?_)
    rw [ks64_9] at hP hD
    refine lv_iconst (v := iI (0 : Int)) hx hb dX3_tally_8 (by decide) ?_
    refine lv_istore_n (lv' := [(1, .int (iI ((0 : Int)))), (0, .ref (ad (64)))]) hx hb dX3_tally_9 rfl hl (by decide) rfl (fun ls hl => ?_)
    exact (L (500)).1 (kS ((F_a_isEndless (x)).2) (64) 9 ((F_a_isEndless (x)).1)) ((0 : Int)) (mae) (l2e) (by omega) (by omega) (by omega) hres _ _ ls hP hD hS (lv_sub hl [1, 0] rfl)
  exact key _ _ hP hS
theorem F_a_tally_sfr  : ∀ n : Nat, (∀ (y : KS) (v0 : Int), ksame [(64, 4), (64, 5), (64, 9)] [67, 68, 69] y (F_a_tally_s n 0 y v0).2) ∧ (∀ (y : KS) (v0 : Int), ksame [(64, 4), (64, 5), (64, 9)] [67, 68, 69] y (F_a_tally_s n 1 y v0).2) := by
  intro n
  induction n with
  | zero => exact ⟨fun y _ => km_rf _ _ _, fun y _ => km_rf _ _ _⟩
  | succ n ih =>
    refine ⟨?_, ?_⟩
    · intro y i
      rw [F_a_tally_e0]
      by_cases hc : ((y).1 (64) 7) ≤ (i)
      · rw [if_pos hc]
        exact km_tr ((km_rf _ _ _)) (ih.2 (y) ((0 : Int)))
      · rw [if_neg hc]
        exact km_tr ((km_a (kWs_in (List.Mem.head _) (List.Mem.tail _ (List.Mem.head _))) (km_rf _ _ _))) (ih.1 (kA (y) (kWs ((y).1 (64) 4)) (i).toNat ((1 : Int))) ((i) + (1 : Int)))
    · intro y i
      rw [F_a_tally_e1]
      by_cases hc : ((31 : Int)) < (i)
      · rw [if_pos hc]
        exact (km_rf _ _ _)
      · rw [if_neg hc]
        exact km_tr ((km_tr (km_a (List.Mem.tail _ (List.Mem.tail _ (List.Mem.head _))) (km_rf _ _ _)) (km_mono (km1 (List.Mem.head _) (km1 (List.Mem.tail _ (List.Mem.head _)) km0)) (km1 (List.Mem.head _) (km1 (List.Mem.tail _ (List.Mem.head _)) km0)) (F_a_lengthen_fr (kA (y) (69) (i).toNat (((y).2 (kWs ((y).1 (64) 4))) ((0 : Int)).toNat)))))) (ih.2 ((F_a_lengthen (kA (y) (69) (i).toNat (((y).2 (kWs ((y).1 (64) 4))) ((0 : Int)).toNat))).2) ((i) + (1 : Int)))
theorem F_a_tally_fr (x : KS)  : ksame [(64, 4), (64, 5), (64, 9)] [67, 68, 69] x (F_a_tally x).2 := by
  unfold F_a_tally
  exact km_tr ((km_s (List.Mem.tail _ (List.Mem.tail _ (List.Mem.head _))) (km_tr (km_rf _ _ _) (km_mono km0 (km1 (List.Mem.head _) (km1 (List.Mem.tail _ (List.Mem.head _)) km0)) (F_a_isEndless_fr (x)))))) ((F_a_tally_sfr  (500)).1 (kS ((F_a_isEndless (x)).2) (64) 9 ((F_a_isEndless (x)).1)) ((0 : Int)))
theorem F_a_tally_q (x : KS)   : kq [64] [67, 68, 69] x (F_a_tally x).2 := kq_of (F_a_tally_fr x) (kq_c (Or.inr (by decide)) (kq_c (Or.inr (by decide)) (kq_c (Or.inr (by decide)) kq_m))) (kq_c (Or.inr (by decide)) (kq_c (Or.inr (by decide)) (kq_c (Or.inr (by decide)) kq_n)))
def F_a_numberOf_s (w1 : Nat) : Nat → Nat → KS → Int → Int → Int → Int → Int × KS
  | 0, _, x, _, _, _, _ => (0, x)
  | n + 1, t, x, p0, p1, p2, p3 => match t with
    | 0 => (fun (q : Int) (s9 : Int) (i : Int) => (if ((x).1 (w1) 1) ≤ (i) then (q, x) else F_a_numberOf_s w1 n 1 ((F_a_countWays (x) ((((x).1 (w1) 1) - ((1 : Int))) - (i))).2) (q) (s9) (i) ((0 : Int)))) p0 p1 p2
    | 1 => (fun (q : Int) (s9 : Int) (i : Int) (z : Int) => (if (((x).2 ((w1) + 1)) (i).toNat) ≤ (z) then F_a_numberOf_s w1 n 0 (x) (q) (max ((F_a_step (x) (s9) (((x).2 ((w1) + 1)) (i).toNat)).1) ((0 : Int))) ((i) + (1 : Int)) (0) else F_a_numberOf_s w1 n 1 (x) ((q) + ((F_a_waysBy (x) (s9) (z)).1)) (s9) (i) ((z) + (1 : Int)))) p0 p1 p2 p3
    | _ => (0, x)
theorem F_a_numberOf_e0 (w1 : Nat) (n : Nat) (x : KS) (q : Int) (s9 : Int) (i : Int) (q0 : Int) : F_a_numberOf_s w1 (n + 1) 0 x q s9 i q0 = (if ((x).1 (w1) 1) ≤ (i) then (q, x) else F_a_numberOf_s w1 n 1 ((F_a_countWays (x) ((((x).1 (w1) 1) - ((1 : Int))) - (i))).2) (q) (s9) (i) ((0 : Int))) := rfl
theorem F_a_numberOf_e1 (w1 : Nat) (n : Nat) (x : KS) (q : Int) (s9 : Int) (i : Int) (z : Int) : F_a_numberOf_s w1 (n + 1) 1 x q s9 i z = (if (((x).2 ((w1) + 1)) (i).toNat) ≤ (z) then F_a_numberOf_s w1 n 0 (x) (q) (max ((F_a_step (x) (s9) (((x).2 ((w1) + 1)) (i).toNat)).1) ((0 : Int))) ((i) + (1 : Int)) (0) else F_a_numberOf_s w1 n 1 (x) ((q) + ((F_a_waysBy (x) (s9) (z)).1)) (s9) (i) ((z) + (1 : Int))) := rfl
def F_a_numberOf (x : KS) (w1 : Nat) : Int × KS := F_a_numberOf_s w1 700 0 (x) ((F_a_countBelow (x) ((x).1 (w1) 1)).1) ((0 : Int)) ((0 : Int)) (0)
set_option maxHeartbeats 4000000 in
set_option maxRecDepth 100000 in
/-- LikeWords$Machine, numberOf -/
theorem c_a_numberOf (l : Launch) (dC : Nat → ClassId) (dI : Nat → Nat → Nat) (ad : Nat → Nat) (cI cJ cZ cR : ClassId) (M wl sz : Nat) (x : KS) (w1 : Nat) (hM : 87 ≤ M) (hw_w1 : kW w1 = true) (hc_w1 : w1 + 1 < M) (ma : maR x) (l2 : 1 ≤ x.1 1 2 ∧ x.1 1 2 ≤ 4) (u0 : 0 ≤ x.1 w1 1) (u1 : x.1 w1 1 ≤ kL w1) (ra : ∀ j : Nat, -1 ≤ x.2 (w1 + 1) j ∧ x.2 (w1 + 1) j ≤ 3) : Met l yX3_numberOf wsX3_numberOf ({ frames := 3, cells := 0, slots := 0, locals := 70 }) (kPc dC dI ad cI cJ cZ cR M wl sz x [.ref (ad 64), .ref (ad w1)]) (va_Ql (fun (r : Int64) (u : KS) => r = iL (F_a_numberOf x w1).1 ∧ u = (F_a_numberOf x w1).2) (kAt dC dI ad cI cJ cZ cR M wl (va_A (kWd cI cJ cZ cR wl ad M (x)) sz)) (va_A (kWd cI cJ cZ cR wl ad M (x)) sz)) 0 0 (va_A (kWd cI cJ cZ cR wl ad M (x)) sz) := by
  refine Met.ofW (cc := cX3_numberOf) (maxL := 7) (ret := (some .long)) (by decide) rfl ?_
  intro p e s m args below meth c s₁ B hml hv
  obtain ⟨rfl, hsz, hP, hK, hD0, hNw⟩ := hv
  have hx := B.exec
  have hb := B.bytes
  have hr := B.returns
  have hts := atoms_spec (ws := wsX3_numberOf) B.pre
  have hown : s.vm.findClass RX3 = some m.cls := findClass_of_methodNamed B.named
  have hlocks := B.notSynchronized
  have hinX10 : ∀ w ∈ u_ws RX10 TX10 2, w ∈ wsX3_numberOf := by decide +kernel
  subst hsz
  have hD := hD0.self (sz := s.heap.size)
  generalize hAe : va_A (kWd cI cJ cZ cR wl ad M (x)) s.heap.size = A at hD ⊢
  have hA : ∀ q : Nat, s.heap.size ≤ q → A q := fun q h => by rw [← hAe]; exact Or.inr h
  have hS : va_S A s.heap s.heap [] := va_S.rf
  have hl := lv_entry ([.ref (ad 64), .ref (ad w1)]) (n := 7) (Nat.le_of_ble_eq_true rfl)
  rw [lg_entry_eq]
  generalize (lg_sl ([.ref (ad 64), .ref (ad w1)]) ++ List.replicate (7 - (lg_sl ([.ref (ad 64), .ref (ad w1)])).length) Slot.unset).toArray = ls at hl ⊢
  have hl : lv_has ls 7 [(0, .ref (ad (64))), (1, .ref (ad (w1)))] := hl
  have k61 := kL_le w1
  have L : ∀ n : Nat, (∀ (y : KS) (q : Int) (s9 : Int) (i : Int), (ksame [(64, 4), (64, 5)] [67, 68] x y) → (0 ≤ s9) → (s9 < 320) → (0 ≤ i) → (i ≤ x.1 w1 1) → ((60 - i) * 10 + 9 < n) → F_a_numberOf_s w1 n 0 y q s9 i 0 = F_a_numberOf x w1 → ∀ (H : Heap) (locs : List Loc) (ls : Array Slot), va_P (dC, dI) vwCl (kWd cI cJ cZ cR wl ad M (y)) H → va_D A (kWd cI cJ cZ cR wl ad M (y)) → va_S A s.heap H locs → lv_has ls 7 [(0, .ref (ad (64))), (1, .ref (ad (w1))), (2, .long (iL (q))), (4, .int (iI (s9))), (5, .int (iI (i)))] → W p l e (headSpec wsX3_numberOf ({ frames := 3, cells := 0, slots := 0, locals := 70 })).room s m ([.ref (ad 64), .ref (ad w1)] : List Value).toArray below meth c H locs 0 0 (MQ below (va_Ql (fun (r : Int64) (u : KS) => r = iL (F_a_numberOf x w1).1 ∧ u = (F_a_numberOf x w1).2) (kAt dC dI ad cI cJ cZ cR M wl A) A) ([.ref (ad 64), .ref (ad w1)] : List Value).toArray s 0 0 A) (F0 m 15 ls [])) ∧ (∀ (y : KS) (q : Int) (s9 : Int) (i : Int) (z : Int), (ksame [(64, 4), (64, 5)] [67, 68] x y) → (0 ≤ s9) → (s9 < 320) → (0 ≤ i) → (i < x.1 w1 1) → (0 ≤ z) → (z ≤ 4) → ((60 - i) * 10 + 5 - z < n) → F_a_numberOf_s w1 n 1 y q s9 i z = F_a_numberOf x w1 → ∀ (H : Heap) (locs : List Loc) (ls : Array Slot), va_P (dC, dI) vwCl (kWd cI cJ cZ cR wl ad M (y)) H → va_D A (kWd cI cJ cZ cR wl ad M (y)) → va_S A s.heap H locs → lv_has ls 7 [(0, .ref (ad (64))), (1, .ref (ad (w1))), (2, .long (iL (q))), (4, .int (iI (s9))), (5, .int (iI (i))), (6, .int (iI (z)))] → W p l e (headSpec wsX3_numberOf ({ frames := 3, cells := 0, slots := 0, locals := 70 })).room s m ([.ref (ad 64), .ref (ad w1)] : List Value).toArray below meth c H locs 0 0 (MQ below (va_Ql (fun (r : Int64) (u : KS) => r = iL (F_a_numberOf x w1).1 ∧ u = (F_a_numberOf x w1).2) (kAt dC dI ad cI cJ cZ cR M wl A) A) ([.ref (ad 64), .ref (ad w1)] : List Value).toArray s 0 0 A) (F0 m 40 ls [])) := by
    intro n
    induction n with
    | zero =>
      refine ⟨?_, ?_⟩
      · intro y q s9 i sm s0 s1 i0 i1 fu hres
        exact absurd fu (by omega)
      · intro y q s9 i z sm s0 s1 i0 i1 z0 z1 fu hres
        exact absurd fu (by omega)
    | succ n ih =>
      refine ⟨?_, ?_⟩
      · intro y q s9 i sm s0 s1 i0 i1 fu hres H locs ls hP hD hS hl
        rw [F_a_numberOf_e0] at hres
        have may := maR_k sm ma
        have l2y := l2_of sm (by decide) l2
        have ew : y.1 w1 1 = x.1 w1 1 := sm.1 w1 1 (by simp)
        refine lv_iload hx hb dX3_numberOf_15 (lv_at hl 4 rfl) ?_
        refine lv_aload_n hx hb dX3_numberOf_17 rfl (lv_at hl 1 rfl) ?_
        refine va_get (D := (dC, dI)) (ci := 10) (v := .int (iI ((y).1 (w1) 1))) (C := RX10) (T := TX10) (N := 2) hx hb hts hinX10 hown hK hP (w1) (kgw hw_w1 (by omega)) rfl 1 (by decide) (hts (.fieldLink RX3 79 "LikeWords$Word" "used" "I") (by decide +kernel)) (fun _ h9 => h9) rfl dX3_numberOf_18 ?_
        refine wi_icmp_ge (tgt := 94) hx hb (by first | assumption | (unfold iR; omega) | exact kR01 (by assumption)) (by first | assumption | (unfold iR; omega) | exact kR01 (by assumption)) dX3_numberOf_21 (by decide) (fun c_21 => ?_) (fun c_21 => ?_)
        · skip
          rw [if_pos c_21] at hres
          refine lv_lload_n hx hb dX3_numberOf_94 rfl (lv_at hl 2 rfl) ?_
          exact W.lret (v := iL (q)) hx hb hr (fun t ht hW => ⟨⟨iL (q), y, rfl, ⟨(by have h9 := congrArg (fun z : Int × KS => iL z.1) hres; exact h9), (by have h9 := congrArg (fun z : Int × KS => z.2) hres; exact h9)⟩, by rw [ht]; exact hP, va_K.moved hW.alike hK, hD⟩, hS.F ht⟩) hS.2.2 dX3_numberOf_95
        · skip
          rw [if_neg c_21] at hres
          refine lv_aload_n hx hb dX3_numberOf_24 rfl (lv_at hl 0 rfl) ?_
          refine lv_aload_n hx hb dX3_numberOf_25 rfl (lv_at hl 1 rfl) ?_
          refine va_get (D := (dC, dI)) (ci := 10) (v := .int (iI ((y).1 (w1) 1))) (C := RX10) (T := TX10) (N := 2) hx hb hts hinX10 hown hK hP (w1) (kgw hw_w1 (by omega)) rfl 1 (by decide) (hts (.fieldLink RX3 79 "LikeWords$Word" "used" "I") (by decide +kernel)) (fun _ h9 => h9) rfl dX3_numberOf_26 ?_
          refine lv_iconst (v := iI (1 : Int)) hx hb dX3_numberOf_29 (by decide) ?_
          refine wi_isub hx hb dX3_numberOf_30 ?_
          refine lv_iload hx hb dX3_numberOf_31 (lv_at hl 4 rfl) ?_
          refine wi_isub hx hb dX3_numberOf_33 ?_
          have hFc : ∀ q, va_A (kWd cI cJ cZ cR wl ad M (y)) H.size q → A q := fun q hq => Or.elim hq (fun ⟨k, e, hk⟩ => hD.2 k (q, e) hk) (fun hk => hA q (Nat.le_trans hS.1 hk))
          refine va_callv (va_runV (b := ad (64)) (As := [.int (iI ((((y).1 (w1) 1) - ((1 : Int))) - (i)))]) (rest := []) ⟨hx, hb, hml, hown, hts⟩ (c_a_countWays l dC dI ad cI cJ cZ cR M wl H.size (y)  ((((y).1 (w1) 1) - ((1 : Int))) - (i)) hM may l2y (by omega) (by omega)) (cwV 1 hts gX3_numberOf_X3_countWays rfl rfl rfl (by decide +kernel) ⟨Nat.le_of_ble_eq_true rfl, Nat.le_of_ble_eq_true rfl⟩) ⟨fun a U g mk q => by obtain ⟨q0, q1, qP, qK, qD, qN⟩ := q; exact ⟨q0, q1, qP, va_K.moved (u := U) (U := U.calling g mk a) (Vm.Alike.refl U.vm) qK, qD, kNw.same (u := U) (U := U.calling g mk a) rfl qN⟩, va_recv hK hP (ci := 3) (q0 := 64) rfl (kg64 (by omega)), fun U hU hW => ⟨rfl, by rw [hU], by rw [hU]; exact hP, va_K.moved hW.alike hK, hD.weaken (fun _ _ _ _ => trivial), kNw.warm hW hNw⟩⟩ rfl rfl hl.1 rfl (lv_room (Nat.le_of_ble_eq_true rfl)) dX3_numberOf_34 ⟨Nat.le_of_ble_eq_true rfl, Nat.le_of_ble_eq_true rfl⟩) hS (fun q _ h => hFc q h) hFc (fun u9 t H1 locs ht hvm hw hB hz1 hk1 hS => ?_)
          obtain ⟨hP1, hK1, hD1⟩ := hB
          rw [ht] at hP1
          rw [hw] at hP1 hD1
          have hD2 := hD1.weaken (B := A) (fun _ q _ h => hFc q.1 h)
          have hP := hP1
          have hD := hD2
          generalize H1 = H at hP hS ⊢
          refine lv_iconst (v := iI (0 : Int)) hx hb dX3_numberOf_37 (by decide) ?_
          refine lv_istore (lv' := [(6, .int (iI ((0 : Int)))), (0, .ref (ad (64))), (1, .ref (ad (w1))), (2, .long (iL (q))), (4, .int (iI (s9))), (5, .int (iI (i)))]) hx hb dX3_numberOf_38 hl (by decide) rfl (fun ls hl => ?_)
          exact ih.2 ((F_a_countWays (y) ((((y).1 (w1) 1) - ((1 : Int))) - (i))).2) (q) (s9) (i) ((0 : Int)) ((km_tr sm (F_a_countWays_fr _ _))) (by omega) (by omega) (by omega) (by omega) (by omega) (by omega) (by omega) hres _ _ ls hP hD hS (lv_sub hl [1, 2, 3, 4, 5, 0] rfl)
      · intro y q s9 i z sm s0 s1 i0 i1 z0 z1 fu hres H locs ls hP hD hS hl
        rw [F_a_numberOf_e1] at hres
        have may := maR_k sm ma
        have l2y := l2_of sm (by decide) l2
        have ew : y.1 w1 1 = x.1 w1 1 := sm.1 w1 1 (by simp)
        have er : y.2 (w1 + 1) = x.2 (w1 + 1) := sm.2 _ (row67 hw_w1)
        have rj := ra i.toNat
        rw [← er] at rj
        refine lv_iload hx hb dX3_numberOf_40 (lv_at hl 5 rfl) ?_
        refine lv_aload_n hx hb dX3_numberOf_42 rfl (lv_at hl 1 rfl) ?_
        refine va_get (D := (dC, dI)) (ci := 10) (v := .ref (ad ((w1) + 1))) (C := RX10) (T := TX10) (N := 2) hx hb hts hinX10 hown hK hP (w1) (kgw hw_w1 (by omega)) rfl 0 (by decide) (hts (.fieldLink RX3 84 "LikeWords$Word" "signs" "[I") (by decide +kernel)) (fun _ h9 => h9) rfl dX3_numberOf_43 ?_
        refine lv_iload hx hb dX3_numberOf_46 (lv_at hl 4 rfl) ?_
        refine wi_iald (f := (y).2 ((w1) + 1)) (n := kLen ((w1) + 1)) hx hb hK hP ((w1) + 1) 0 (kgi (kI_row hw_w1) (by omega) rfl) rfl (i := i) (by omega) (by rw [kLen_row hw_w1]; exact (by omega)) (kLen_lt _) dX3_numberOf_48 ?_
        refine wi_icmp_ge (tgt := 69) hx hb (by unfold iR; omega) (by unfold iR; omega) dX3_numberOf_49 (by decide) (fun c_49 => ?_) (fun c_49 => ?_)
        · skip
          rw [if_pos c_49] at hres
          refine lv_aload_n hx hb dX3_numberOf_69 rfl (lv_at hl 0 rfl) ?_
          refine lv_iload hx hb dX3_numberOf_70 (lv_at hl 3 rfl) ?_
          refine lv_aload_n hx hb dX3_numberOf_72 rfl (lv_at hl 1 rfl) ?_
          refine va_get (D := (dC, dI)) (ci := 10) (v := .ref (ad ((w1) + 1))) (C := RX10) (T := TX10) (N := 2) hx hb hts hinX10 hown hK hP (w1) (kgw hw_w1 (by omega)) rfl 0 (by decide) (hts (.fieldLink RX3 84 "LikeWords$Word" "signs" "[I") (by decide +kernel)) (fun _ h9 => h9) rfl dX3_numberOf_73 ?_
          refine lv_iload hx hb dX3_numberOf_76 (lv_at hl 4 rfl) ?_
          refine wi_iald (f := (y).2 ((w1) + 1)) (n := kLen ((w1) + 1)) hx hb hK hP ((w1) + 1) 0 (kgi (kI_row hw_w1) (by omega) rfl) rfl (i := i) (by omega) (by rw [kLen_row hw_w1]; exact (by omega)) (kLen_lt _) dX3_numberOf_78 ?_
          have hFc : ∀ q, va_A (kWd cI cJ cZ cR wl ad M (y)) H.size q → A q := fun q hq => Or.elim hq (fun ⟨k, e, hk⟩ => hD.2 k (q, e) hk) (fun hk => hA q (Nat.le_trans hS.1 hk))
          refine va_calli (va_runV (b := ad (64)) (As := [.int (iI (s9)), .int (iI (((y).2 ((w1) + 1)) (i).toNat))]) (rest := []) ⟨hx, hb, hml, hown, hts⟩ (c_a_step l dC dI ad cI cJ cZ cR M wl H.size (y)  (s9) (((y).2 ((w1) + 1)) (i).toNat) hM (by omega) (by omega) (by omega) (by omega) may l2y) (cwV 2 hts gX3_numberOf_X3_step rfl rfl rfl (by decide +kernel) ⟨Nat.le_of_ble_eq_true rfl, Nat.le_of_ble_eq_true rfl⟩) ⟨fun a U g mk q => by obtain ⟨q0, q1, qP, qK, qD, qN⟩ := q; exact ⟨q0, q1, qP, va_K.moved (u := U) (U := U.calling g mk a) (Vm.Alike.refl U.vm) qK, qD, kNw.same (u := U) (U := U.calling g mk a) rfl qN⟩, va_recv hK hP (ci := 3) (q0 := 64) rfl (kg64 (by omega)), fun U hU hW => ⟨rfl, by rw [hU], by rw [hU]; exact hP, va_K.moved hW.alike hK, hD.weaken (fun _ _ _ _ => trivial), kNw.warm hW hNw⟩⟩ rfl rfl hl.1 rfl (lv_room (Nat.le_of_ble_eq_true rfl)) dX3_numberOf_79 ⟨Nat.le_of_ble_eq_true rfl, Nat.le_of_ble_eq_true rfl⟩) hS (fun q _ h => hFc q h) hFc (fun r9 u9 t H1 locs ht hvm hw hB hz1 hk1 hS => ?_)
          obtain ⟨hP1, hK1, hD1⟩ := hB
          rw [ht] at hP1
          obtain ⟨hw1, hw2⟩ := hw
          rw [hw2] at hP1 hD1
          rw [hw1]
          rw [F_a_step_2] at hP1 hD1
          have hD2 := hD1.weaken (B := A) (fun _ q _ h => hFc q.1 h)
          have hP := hP1
          have hD := hD2
          generalize H1 = H at hP hS ⊢
          have sb := F_a_step_b may s9 (y.2 (w1 + 1) i.toNat)
          refine lv_iconst (v := iI (0 : Int)) hx hb dX3_numberOf_82 (by decide) ?_
          refine va_mmax hx hb (by rw [hml]; exact hl.1.symm) hown (hts (.methodLink RX3 121 Lib.Math.max.name) (by decide +kernel)) (hts (.static Lib.Math.max.name) (by decide +kernel)) (hts (.initialized "java/lang/Math") (by decide +kernel)) (hts (.code Lib.Math.max.name Lib.Math.max.code 2 (some .int)) (by decide +kernel)) (Nat.le_of_ble_eq_true rfl) (Nat.le_of_ble_eq_true rfl) (Nat.le_of_ble_eq_true rfl) (Nat.le_of_ble_eq_true rfl) dX3_numberOf_83 ?_
          rw [iI_max (by first | assumption | (unfold iR; omega) | exact kR01 (by assumption)) ⟨by decide, by decide⟩]
          refine lv_istore (lv' := [(4, .int (iI (max ((F_a_step (y) (s9) (((y).2 ((w1) + 1)) (i).toNat)).1) ((0 : Int))))), (0, .ref (ad (64))), (1, .ref (ad (w1))), (2, .long (iL (q))), (5, .int (iI (i))), (6, .int (iI (z)))]) hx hb dX3_numberOf_86 hl (by decide) rfl (fun ls hl => ?_)
          refine lv_iinc (v := iI ((i) + (1 : Int))) (lv' := [(5, .int (iI ((i) + (1 : Int)))), (4, .int (iI (max ((F_a_step (y) (s9) (((y).2 ((w1) + 1)) (i).toNat)).1) ((0 : Int))))), (0, .ref (ad (64))), (1, .ref (ad (w1))), (2, .long (iL (q))), (6, .int (iI (z)))]) hx hb dX3_numberOf_88 hl (k := 4) rfl (iI_add _ _) (by decide) rfl (fun ls hl => ?_)
          refine lv_goto (tgt := 15) hx hb dX3_numberOf_91 (by decide) ?_
          exact ih.1 (y) (q) (max ((F_a_step (y) (s9) (((y).2 ((w1) + 1)) (i).toNat)).1) ((0 : Int))) ((i) + (1 : Int)) (sm) (by omega) (by omega) (by omega) (by omega) (by omega) hres _ _ ls hP hD hS (lv_sub hl [2, 3, 4, 1, 0] rfl)
        · skip
          rw [if_neg c_49] at hres
          refine lv_lload_n hx hb dX3_numberOf_52 rfl (lv_at hl 2 rfl) ?_
          refine lv_aload_n hx hb dX3_numberOf_53 rfl (lv_at hl 0 rfl) ?_
          refine lv_iload hx hb dX3_numberOf_54 (lv_at hl 3 rfl) ?_
          refine lv_iload hx hb dX3_numberOf_56 (lv_at hl 5 rfl) ?_
          have hFc : ∀ q, va_A (kWd cI cJ cZ cR wl ad M (y)) H.size q → A q := fun q hq => Or.elim hq (fun ⟨k, e, hk⟩ => hD.2 k (q, e) hk) (fun hk => hA q (Nat.le_trans hS.1 hk))
          refine va_calll (va_runV (b := ad (64)) (As := [.int (iI (s9)), .int (iI (z))]) (rest := [.long (iL (q))]) ⟨hx, hb, hml, hown, hts⟩ (c_a_waysBy l dC dI ad cI cJ cZ cR M wl H.size (y)  (s9) (z) hM (by omega) (by omega) (by omega) (by omega) may l2y) (cwV 2 hts gX3_numberOf_X3_waysBy rfl rfl rfl (by decide +kernel) ⟨Nat.le_of_ble_eq_true rfl, Nat.le_of_ble_eq_true rfl⟩) ⟨fun a U g mk q => by obtain ⟨q0, q1, qP, qK, qD, qN⟩ := q; exact ⟨q0, q1, qP, va_K.moved (u := U) (U := U.calling g mk a) (Vm.Alike.refl U.vm) qK, qD, kNw.same (u := U) (U := U.calling g mk a) rfl qN⟩, va_recv hK hP (ci := 3) (q0 := 64) rfl (kg64 (by omega)), fun U hU hW => ⟨rfl, by rw [hU], by rw [hU]; exact hP, va_K.moved hW.alike hK, hD.weaken (fun _ _ _ _ => trivial), kNw.warm hW hNw⟩⟩ rfl rfl hl.1 rfl (lv_room (Nat.le_of_ble_eq_true rfl)) dX3_numberOf_58 ⟨Nat.le_of_ble_eq_true rfl, Nat.le_of_ble_eq_true rfl⟩) hS (fun q _ h => hFc q h) hFc (fun r9 u9 t H1 locs ht hvm hw hB hz1 hk1 hS => ?_)
          obtain ⟨hP1, hK1, hD1⟩ := hB
          rw [ht] at hP1
          obtain ⟨hw1, hw2⟩ := hw
          rw [hw2] at hP1 hD1
          rw [hw1]
          rw [F_a_waysBy_2] at hP1 hD1
          have hD2 := hD1.weaken (B := A) (fun _ q _ h => hFc q.1 h)
          have hP := hP1
          have hD := hD2
          generalize H1 = H at hP hS ⊢
          refine wi_ladd hx hb dX3_numberOf_61 ?_
          refine lv_lstore_n (lv' := [(2, .long (iL ((q) + ((F_a_waysBy (y) (s9) (z)).1)))), (0, .ref (ad (64))), (1, .ref (ad (w1))), (4, .int (iI (s9))), (5, .int (iI (i))), (6, .int (iI (z)))]) hx hb dX3_numberOf_62 rfl hl (by decide) rfl (fun ls hl => ?_)
          refine lv_iinc (v := iI ((z) + (1 : Int))) (lv' := [(6, .int (iI ((z) + (1 : Int)))), (2, .long (iL ((q) + ((F_a_waysBy (y) (s9) (z)).1)))), (0, .ref (ad (64))), (1, .ref (ad (w1))), (4, .int (iI (s9))), (5, .int (iI (i)))]) hx hb dX3_numberOf_63 hl (k := 5) rfl (iI_add _ _) (by decide) rfl (fun ls hl => ?_)
          refine lv_goto (tgt := 40) hx hb dX3_numberOf_66 (by decide) ?_
          exact ih.2 (y) ((q) + ((F_a_waysBy (y) (s9) (z)).1)) (s9) (i) ((z) + (1 : Int)) (sm) (by omega) (by omega) (by omega) (by omega) (by omega) (by omega) (by omega) hres _ _ ls hP hD hS (lv_sub hl [2, 3, 1, 4, 5, 0] rfl)
  have key : ∀ (H : Heap) (locs : List Loc), va_P (dC, dI) vwCl (kWd cI cJ cZ cR wl ad M (x)) H → va_S A s.heap H locs → W p l e (headSpec wsX3_numberOf ({ frames := 3, cells := 0, slots := 0, locals := 70 })).room s m ([.ref (ad 64), .ref (ad w1)] : List Value).toArray below meth c H locs 0 0 (MQ below (va_Ql (fun (r : Int64) (u : KS) => r = iL (F_a_numberOf x w1).1 ∧ u = (F_a_numberOf x w1).2) (kAt dC dI ad cI cJ cZ cR M wl A) A) ([.ref (ad 64), .ref (ad w1)] : List Value).toArray s 0 0 A) (F0 m 0 ls []) := by
    intro H locs hP hS
    have hres : F_a_numberOf_s w1 700 0 (x) ((F_a_countBelow (x) ((x).1 (w1) 1)).1) ((0 : Int)) ((0 : Int)) (0) = F_a_numberOf x w1 := rfl
    refine lv_aload_n hx hb dX3_numberOf_0 rfl (lv_at hl 0 rfl) ?_
    refine lv_aload_n hx hb dX3_numberOf_1 rfl (lv_at hl 1 rfl) ?_
    refine va_get (D := (dC, dI)) (ci := 10) (v := .int (iI ((x).1 (w1) 1))) (C := RX10) (T := TX10) (N := 2) hx hb hts hinX10 hown hK hP (w1) (kgw hw_w1 (by omega)) rfl 1 (by decide) (hts (.fieldLink RX3 79 "LikeWords$Word" "used" "I") (by decide +kernel)) (fun _ h9 => h9) rfl dX3_numberOf_2 ?_
    have hFc : ∀ q, va_A (kWd cI cJ cZ cR wl ad M (x)) H.size q → A q := fun q hq => Or.elim hq (fun ⟨k, e, hk⟩ => hD.2 k (q, e) hk) (fun hk => hA q (Nat.le_trans hS.1 hk))
    refine va_calll (va_runV (b := ad (64)) (As := [.int (iI ((x).1 (w1) 1))]) (rest := []) ⟨hx, hb, hml, hown, hts⟩ (c_a_countBelow l dC dI ad cI cJ cZ cR M wl H.size (x)  ((x).1 (w1) 1) hM (by omega) (by omega)) (cwV 1 hts gX3_numberOf_X3_countBelow rfl rfl rfl (by decide +kernel) ⟨Nat.le_of_ble_eq_true rfl, Nat.le_of_ble_eq_true rfl⟩) ⟨fun a U g mk q => by obtain ⟨q0, q1, qP, qK, qD, qN⟩ := q; exact ⟨q0, q1, qP, va_K.moved (u := U) (U := U.calling g mk a) (Vm.Alike.refl U.vm) qK, qD, kNw.same (u := U) (U := U.calling g mk a) rfl qN⟩, va_recv hK hP (ci := 3) (q0 := 64) rfl (kg64 (by omega)), fun U hU hW => ⟨rfl, by rw [hU], by rw [hU]; exact hP, va_K.moved hW.alike hK, hD.weaken (fun _ _ _ _ => trivial), kNw.warm hW hNw⟩⟩ rfl rfl hl.1 rfl (lv_room (Nat.le_of_ble_eq_true rfl)) dX3_numberOf_5 ⟨Nat.le_of_ble_eq_true rfl, Nat.le_of_ble_eq_true rfl⟩) hS (fun q _ h => hFc q h) hFc (fun r9 u9 t H1 locs ht hvm hw hB hz1 hk1 hS => ?_)
    obtain ⟨hP1, hK1, hD1⟩ := hB
    rw [ht] at hP1
    obtain ⟨hw1, hw2⟩ := hw
    rw [hw2] at hP1 hD1
    rw [hw1]
    rw [F_a_countBelow_2] at hP1 hD1
    have hD2 := hD1.weaken (B := A) (fun _ q _ h => hFc q.1 h)
    have hP := hP1
    have hD := hD2
    generalize H1 = H at hP hS ⊢
    refine lv_lstore_n (lv' := [(2, .long (iL ((F_a_countBelow (x) ((x).1 (w1) 1)).1))), (0, .ref (ad (64))), (1, .ref (ad (w1)))]) hx hb dX3_numberOf_8 rfl hl (by decide) rfl (fun ls hl => ?_)
    refine lv_iconst (v := iI (0 : Int)) hx hb dX3_numberOf_9 (by decide) ?_
    refine lv_istore (lv' := [(4, .int (iI ((0 : Int)))), (2, .long (iL ((F_a_countBelow (x) ((x).1 (w1) 1)).1))), (0, .ref (ad (64))), (1, .ref (ad (w1)))]) hx hb dX3_numberOf_10 hl (by decide) rfl (fun ls hl => ?_)
    refine lv_iconst (v := iI (0 : Int)) hx hb dX3_numberOf_12 (by decide) ?_
    refine lv_istore (lv' := [(5, .int (iI ((0 : Int)))), (4, .int (iI ((0 : Int)))), (2, .long (iL ((F_a_countBelow (x) ((x).1 (w1) 1)).1))), (0, .ref (ad (64))), (1, .ref (ad (w1)))]) hx hb dX3_numberOf_13 hl (by decide) rfl (fun ls hl => ?_)
    exact (L (700)).1 (x) ((F_a_countBelow (x) ((x).1 (w1) 1)).1) ((0 : Int)) ((0 : Int)) (km_rf _ _ _) (by omega) (by omega) (by omega) (by omega) (by omega) hres _ _ ls hP hD hS (lv_sub hl [3, 4, 2, 1, 0] rfl)
  exact key _ _ hP hS
theorem F_a_numberOf_sfr (w1 : Nat) : ∀ n : Nat, (∀ (y : KS) (v0 : Int) (v1 : Int) (v2 : Int) (v3 : Int), ksame [(64, 4), (64, 5)] [67, 68] y (F_a_numberOf_s w1 n 0 y v0 v1 v2 v3).2) ∧ (∀ (y : KS) (v0 : Int) (v1 : Int) (v2 : Int) (v3 : Int), ksame [(64, 4), (64, 5)] [67, 68] y (F_a_numberOf_s w1 n 1 y v0 v1 v2 v3).2) := by
  intro n
  induction n with
  | zero => exact ⟨fun y _ _ _ _ => km_rf _ _ _, fun y _ _ _ _ => km_rf _ _ _⟩
  | succ n ih =>
    refine ⟨?_, ?_⟩
    · intro y q s9 i q0
      rw [F_a_numberOf_e0]
      by_cases hc : ((y).1 (w1) 1) ≤ (i)
      · rw [if_pos hc]
        exact (km_rf _ _ _)
      · rw [if_neg hc]
        exact km_tr ((km_tr (km_rf _ _ _) (km_mono (km1 (List.Mem.head _) (km1 (List.Mem.tail _ (List.Mem.head _)) km0)) (km1 (List.Mem.head _) (km1 (List.Mem.tail _ (List.Mem.head _)) km0)) (F_a_countWays_fr (y) ((((y).1 (w1) 1) - ((1 : Int))) - (i)))))) (ih.2 ((F_a_countWays (y) ((((y).1 (w1) 1) - ((1 : Int))) - (i))).2) (q) (s9) (i) ((0 : Int)))
    · intro y q s9 i z
      rw [F_a_numberOf_e1]
      by_cases hc : (((y).2 ((w1) + 1)) (i).toNat) ≤ (z)
      · rw [if_pos hc]
        exact km_tr ((km_rf _ _ _)) (ih.1 (y) (q) (max ((F_a_step (y) (s9) (((y).2 ((w1) + 1)) (i).toNat)).1) ((0 : Int))) ((i) + (1 : Int)) (0))
      · rw [if_neg hc]
        exact km_tr ((km_rf _ _ _)) (ih.2 (y) ((q) + ((F_a_waysBy (y) (s9) (z)).1)) (s9) (i) ((z) + (1 : Int)))
theorem F_a_numberOf_fr (x : KS) (w1 : Nat) : ksame [(64, 4), (64, 5)] [67, 68] x (F_a_numberOf x w1).2 := by
  unfold F_a_numberOf
  exact km_tr ((km_rf _ _ _)) ((F_a_numberOf_sfr w1 (700)).1 (x) ((F_a_countBelow (x) ((x).1 (w1) 1)).1) ((0 : Int)) ((0 : Int)) (0))
theorem F_a_numberOf_q (x : KS) (w1 : Nat) (hw_w1 : kW w1 = true) : kq [64] [67, 68] x (F_a_numberOf x w1).2 := kq_of (F_a_numberOf_fr x w1) (kq_c (Or.inr (by decide)) (kq_c (Or.inr (by decide)) kq_m)) (kq_c (Or.inr (by decide)) (kq_c (Or.inr (by decide)) kq_n))
def F_a_writeNumber_s (w1 : Nat) : Nat → Nat → KS → Int → Int → Int → Int → Int → Int → Int × KS
  | 0, _, x, _, _, _, _, _, _ => (0, x)
  | n + 1, t, x, p0, p1, p2, p3, p4, p5 => match t with
    | 0 => (fun (nn : Int) (b : Int) (g : Int) => (if ((30 : Int)) < (g) then (if (g) ≤ ((30 : Int)) then F_a_writeNumber_s w1 n 1 ((F_w_wipe (x) (w1)).2) (nn) (b) (g) ((0 : Int)) ((0 : Int)) (0) else ((0 : Int), x)) else (if (iC (b) (((x).2 (69)) (g).toNat)) < (0) then (if (g) ≤ ((30 : Int)) then F_a_writeNumber_s w1 n 1 ((F_w_wipe (x) (w1)).2) (nn) (b) (g) ((0 : Int)) ((0 : Int)) (0) else ((0 : Int), x)) else F_a_writeNumber_s w1 n 0 (x) (nn) ((b) - (((x).2 (69)) (g).toNat)) ((g) + (1 : Int)) (0) (0) (0)))) p0 p1 p2
    | 1 => (fun (nn : Int) (b : Int) (g : Int) (s9 : Int) (i : Int) => (if (g) ≤ (i) then ((1 : Int), x) else F_a_writeNumber_s w1 n 2 ((F_a_countWays (x) (((g) - ((1 : Int))) - (i))).2) (nn) (b) (g) (s9) (i) ((0 : Int)))) p0 p1 p2 p3 p4
    | 2 => (fun (nn : Int) (b : Int) (g : Int) (s9 : Int) (i : Int) (z : Int) => (if (((x).1 (1) 2) - ((1 : Int))) ≤ (z) then F_a_writeNumber_s w1 n 1 ((F_w_push (x) (w1) (z)).2) (nn) (b) (g) (max ((F_a_step ((F_w_push (x) (w1) (z)).2) (s9) (z)).1) ((0 : Int))) ((i) + (1 : Int)) (0) else (if (iC (b) ((F_a_waysBy (x) (s9) (z)).1)) < (0) then F_a_writeNumber_s w1 n 1 ((F_w_push (x) (w1) (z)).2) (nn) (b) (g) (max ((F_a_step ((F_w_push (x) (w1) (z)).2) (s9) (z)).1) ((0 : Int))) ((i) + (1 : Int)) (0) else F_a_writeNumber_s w1 n 2 (x) (nn) ((b) - ((F_a_waysBy (x) (s9) (z)).1)) (g) (s9) (i) ((z) + (1 : Int))))) p0 p1 p2 p3 p4 p5
    | _ => (0, x)
theorem F_a_writeNumber_e0 (w1 : Nat) (n : Nat) (x : KS) (nn : Int) (b : Int) (g : Int) (q0 : Int) (q1 : Int) (q2 : Int) : F_a_writeNumber_s w1 (n + 1) 0 x nn b g q0 q1 q2 = (if ((30 : Int)) < (g) then (if (g) ≤ ((30 : Int)) then F_a_writeNumber_s w1 n 1 ((F_w_wipe (x) (w1)).2) (nn) (b) (g) ((0 : Int)) ((0 : Int)) (0) else ((0 : Int), x)) else (if (iC (b) (((x).2 (69)) (g).toNat)) < (0) then (if (g) ≤ ((30 : Int)) then F_a_writeNumber_s w1 n 1 ((F_w_wipe (x) (w1)).2) (nn) (b) (g) ((0 : Int)) ((0 : Int)) (0) else ((0 : Int), x)) else F_a_writeNumber_s w1 n 0 (x) (nn) ((b) - (((x).2 (69)) (g).toNat)) ((g) + (1 : Int)) (0) (0) (0))) := rfl
theorem F_a_writeNumber_e1 (w1 : Nat) (n : Nat) (x : KS) (nn : Int) (b : Int) (g : Int) (s9 : Int) (i : Int) (q0 : Int) : F_a_writeNumber_s w1 (n + 1) 1 x nn b g s9 i q0 = (if (g) ≤ (i) then ((1 : Int), x) else F_a_writeNumber_s w1 n 2 ((F_a_countWays (x) (((g) - ((1 : Int))) - (i))).2) (nn) (b) (g) (s9) (i) ((0 : Int))) := rfl
theorem F_a_writeNumber_e2 (w1 : Nat) (n : Nat) (x : KS) (nn : Int) (b : Int) (g : Int) (s9 : Int) (i : Int) (z : Int) : F_a_writeNumber_s w1 (n + 1) 2 x nn b g s9 i z = (if (((x).1 (1) 2) - ((1 : Int))) ≤ (z) then F_a_writeNumber_s w1 n 1 ((F_w_push (x) (w1) (z)).2) (nn) (b) (g) (max ((F_a_step ((F_w_push (x) (w1) (z)).2) (s9) (z)).1) ((0 : Int))) ((i) + (1 : Int)) (0) else (if (iC (b) ((F_a_waysBy (x) (s9) (z)).1)) < (0) then F_a_writeNumber_s w1 n 1 ((F_w_push (x) (w1) (z)).2) (nn) (b) (g) (max ((F_a_step ((F_w_push (x) (w1) (z)).2) (s9) (z)).1) ((0 : Int))) ((i) + (1 : Int)) (0) else F_a_writeNumber_s w1 n 2 (x) (nn) ((b) - ((F_a_waysBy (x) (s9) (z)).1)) (g) (s9) (i) ((z) + (1 : Int)))) := rfl
def F_a_writeNumber (x : KS) (w1 : Nat) (nn : Int) : Int × KS := F_a_writeNumber_s w1 2000 0 (x) (nn) (nn) ((0 : Int)) (0) (0) (0)
set_option maxHeartbeats 4000000 in
set_option maxRecDepth 100000 in
/-- LikeWords$Machine, writeNumber -/
theorem c_a_writeNumber (l : Launch) (dC : Nat → ClassId) (dI : Nat → Nat → Nat) (ad : Nat → Nat) (cI cJ cZ cR : ClassId) (M wl sz : Nat) (x : KS) (w1 : Nat) (nn : Int) (hM : 87 ≤ M) (hw_w1 : kW w1 = true) (hc_w1 : w1 + 1 < M) (ma : maR x) (l2 : 1 ≤ x.1 1 2 ∧ x.1 1 2 ≤ 4) (ms : maS x) (d9 : dz x) (hh0 : 1 ≤ x.1 64 7) (rc : ∀ j : Nat, 0 ≤ x.2 69 j ∧ x.2 69 j ≤ 4611686018427387904) (u0 : 0 ≤ x.1 w1 1) (u1 : x.1 w1 1 ≤ kL w1) (qq0 : 0 ≤ nn) (qq1 : iRL nn) : Met l yX3_writeNumber wsX3_writeNumber ({ frames := 3, cells := 0, slots := 0, locals := 70 }) (kPc dC dI ad cI cJ cZ cR M wl sz x [.ref (ad 64), .long (iL nn), .ref (ad w1)]) (va_Qi (fun (r : Int32) (u : KS) => r = iI (F_a_writeNumber x w1 nn).1 ∧ u = (F_a_writeNumber x w1 nn).2) (kAt dC dI ad cI cJ cZ cR M wl (va_A (kWd cI cJ cZ cR wl ad M (x)) sz)) (va_A (kWd cI cJ cZ cR wl ad M (x)) sz)) 0 0 (va_A (kWd cI cJ cZ cR wl ad M (x)) sz) := by
  refine Met.ofW (cc := cX3_writeNumber) (maxL := 10) (ret := (some .boolean)) (by decide) rfl ?_
  intro p e s m args below meth c s₁ B hml hv
  obtain ⟨rfl, hsz, hP, hK, hD0, hNw⟩ := hv
  have hx := B.exec
  have hb := B.bytes
  have hr := B.returns
  have hts := atoms_spec (ws := wsX3_writeNumber) B.pre
  have hown : s.vm.findClass RX3 = some m.cls := findClass_of_methodNamed B.named
  have hlocks := B.notSynchronized
  have hinX3 : ∀ w ∈ u_ws RX3 TX3 10, w ∈ wsX3_writeNumber := by decide +kernel
  have hinX8 : ∀ w ∈ u_ws RX8 TX8 4, w ∈ wsX3_writeNumber := by decide +kernel
  subst hsz
  have hD := hD0.self (sz := s.heap.size)
  generalize hAe : va_A (kWd cI cJ cZ cR wl ad M (x)) s.heap.size = A at hD ⊢
  have hA : ∀ q : Nat, s.heap.size ≤ q → A q := fun q h => by rw [← hAe]; exact Or.inr h
  have hS : va_S A s.heap s.heap [] := va_S.rf
  have hl := lv_entry ([.ref (ad 64), .long (iL nn), .ref (ad w1)]) (n := 10) (Nat.le_of_ble_eq_true rfl)
  rw [lg_entry_eq]
  generalize (lg_sl ([.ref (ad 64), .long (iL nn), .ref (ad w1)]) ++ List.replicate (10 - (lg_sl ([.ref (ad 64), .long (iL nn), .ref (ad w1)])).length) Slot.unset).toArray = ls at hl ⊢
  have hl : lv_has ls 10 [(0, .ref (ad (64))), (1, .long (iL (nn))), (3, .ref (ad (w1)))] := hl
  have k61 := kL_le w1
  have qq2 := qq1.2
  have L : ∀ n : Nat, (∀ (y : KS) (b : Int) (g : Int), (maR y) → (1 ≤ y.1 1 2 ∧ y.1 1 2 ≤ 4) → (maS y) → (dz y) → (1 ≤ y.1 64 7) → (∀ j : Nat, 0 ≤ y.2 69 j ∧ y.2 69 j ≤ 4611686018427387904) → (0 ≤ y.1 w1 1) → (y.1 w1 1 ≤ kL w1) → (0 ≤ b) → (b < 9223372036854775808) → (0 ≤ g) → (g ≤ 31) → (1000 + 31 - g < n) → F_a_writeNumber_s w1 n 0 y nn b g 0 0 0 = F_a_writeNumber x w1 nn → ∀ (H : Heap) (locs : List Loc) (ls : Array Slot), va_P (dC, dI) vwCl (kWd cI cJ cZ cR wl ad M (y)) H → va_D A (kWd cI cJ cZ cR wl ad M (y)) → va_S A s.heap H locs → lv_has ls 10 [(0, .ref (ad (64))), (1, .long (iL (nn))), (3, .ref (ad (w1))), (4, .long (iL (b))), (6, .int (iI (g)))] → W p l e (headSpec wsX3_writeNumber ({ frames := 3, cells := 0, slots := 0, locals := 70 })).room s m ([.ref (ad 64), .long (iL nn), .ref (ad w1)] : List Value).toArray below meth c H locs 0 0 (MQ below (va_Qi (fun (r : Int32) (u : KS) => r = iI (F_a_writeNumber x w1 nn).1 ∧ u = (F_a_writeNumber x w1 nn).2) (kAt dC dI ad cI cJ cZ cR M wl A) A) ([.ref (ad 64), .long (iL nn), .ref (ad w1)] : List Value).toArray s 0 0 A) (F0 m 6 ls [])) ∧ (∀ (y : KS) (b : Int) (g : Int) (s9 : Int) (i : Int), (maR y) → (1 ≤ y.1 1 2 ∧ y.1 1 2 ≤ 4) → (maS y) → (dz y) → (1 ≤ y.1 64 7) → (∀ j : Nat, 0 ≤ y.2 69 j ∧ y.2 69 j ≤ 4611686018427387904) → (0 ≤ y.1 w1 1) → (y.1 w1 1 ≤ kL w1) → (0 ≤ b) → (b < 9223372036854775808) → (0 ≤ g) → (g ≤ 30) → (0 ≤ s9) → (s9 < y.1 64 7) → (0 ≤ i) → (i ≤ g) → ((30 - i) * 10 + 9 < n) → F_a_writeNumber_s w1 n 1 y nn b g s9 i 0 = F_a_writeNumber x w1 nn → ∀ (H : Heap) (locs : List Loc) (ls : Array Slot), va_P (dC, dI) vwCl (kWd cI cJ cZ cR wl ad M (y)) H → va_D A (kWd cI cJ cZ cR wl ad M (y)) → va_S A s.heap H locs → lv_has ls 10 [(0, .ref (ad (64))), (1, .long (iL (nn))), (3, .ref (ad (w1))), (4, .long (iL (b))), (6, .int (iI (g))), (7, .int (iI (s9))), (8, .int (iI (i)))] → W p l e (headSpec wsX3_writeNumber ({ frames := 3, cells := 0, slots := 0, locals := 70 })).room s m ([.ref (ad 64), .long (iL nn), .ref (ad w1)] : List Value).toArray below meth c H locs 0 0 (MQ below (va_Qi (fun (r : Int32) (u : KS) => r = iI (F_a_writeNumber x w1 nn).1 ∧ u = (F_a_writeNumber x w1 nn).2) (kAt dC dI ad cI cJ cZ cR M wl A) A) ([.ref (ad 64), .long (iL nn), .ref (ad w1)] : List Value).toArray s 0 0 A) (F0 m 63 ls [])) ∧ (∀ (y : KS) (b : Int) (g : Int) (s9 : Int) (i : Int) (z : Int), (maR y) → (1 ≤ y.1 1 2 ∧ y.1 1 2 ≤ 4) → (maS y) → (dz y) → (1 ≤ y.1 64 7) → (∀ j : Nat, 0 ≤ y.2 69 j ∧ y.2 69 j ≤ 4611686018427387904) → (0 ≤ y.1 w1 1) → (y.1 w1 1 ≤ kL w1) → (0 ≤ b) → (b < 9223372036854775808) → (∀ j : Nat, (j : Int) < y.1 64 7 → 0 ≤ y.2 (kWs (y.1 64 4)) j ∧ y.2 (kWs (y.1 64 4)) j ≤ 4611686018427387904) → (0 ≤ g) → (g ≤ 30) → (0 ≤ i) → (i < g) → (0 ≤ s9) → (s9 < y.1 64 7) → (0 ≤ z) → (z < y.1 1 2) → (z ≤ 3) → ((30 - i) * 10 + 5 - z < n) → F_a_writeNumber_s w1 n 2 y nn b g s9 i z = F_a_writeNumber x w1 nn → ∀ (H : Heap) (locs : List Loc) (ls : Array Slot), va_P (dC, dI) vwCl (kWd cI cJ cZ cR wl ad M (y)) H → va_D A (kWd cI cJ cZ cR wl ad M (y)) → va_S A s.heap H locs → lv_has ls 10 [(0, .ref (ad (64))), (1, .long (iL (nn))), (3, .ref (ad (w1))), (4, .long (iL (b))), (6, .int (iI (g))), (7, .int (iI (s9))), (8, .int (iI (i))), (9, .int (iI (z)))] → W p l e (headSpec wsX3_writeNumber ({ frames := 3, cells := 0, slots := 0, locals := 70 })).room s m ([.ref (ad 64), .long (iL nn), .ref (ad w1)] : List Value).toArray below meth c H locs 0 0 (MQ below (va_Qi (fun (r : Int32) (u : KS) => r = iI (F_a_writeNumber x w1 nn).1 ∧ u = (F_a_writeNumber x w1 nn).2) (kAt dC dI ad cI cJ cZ cR M wl A) A) ([.ref (ad 64), .long (iL nn), .ref (ad w1)] : List Value).toArray s 0 0 A) (F0 m 84 ls [])) := by
    intro n
    induction n with
    | zero =>
      refine ⟨?_, ?_, ?_⟩
      · intro y b g may l2y msy dzy hh rcy uy0 uy1 b0 b1 g0 g1 fu hres
        exact absurd fu (by omega)
      · intro y b g s9 i may l2y msy dzy hh rcy uy0 uy1 b0 b1 g0 g1 s0 s1 i0 i1 fu hres
        exact absurd fu (by omega)
      · intro y b g s9 i z may l2y msy dzy hh rcy uy0 uy1 b0 b1 wby g0 g1 i0 i1 s0 s1 z0 z1 z9 fu hres
        exact absurd fu (by omega)
    | succ n ih =>
      refine ⟨?_, ?_, ?_⟩
      · intro y b g may l2y msy dzy hh rcy uy0 uy1 b0 b1 g0 g1 fu hres H locs ls hP hD hS hl
        rw [F_a_writeNumber_e0] at hres
        refine lv_iload hx hb dX3_writeNumber_6 (lv_at hl 4 rfl) ?_
        refine lv_bipush (v := iI (30 : Int)) hx hb dX3_writeNumber_8 (by decide) ?_
        refine wi_icmp_gt (tgt := 44) hx hb (by first | assumption | (unfold iR; omega) | exact kR01 (by assumption)) ⟨by decide, by decide⟩ dX3_writeNumber_10 (by decide) (fun c_10 => ?_) (fun c_10 => ?_)
        · skip
          rw [if_pos c_10] at hres
          refine lv_iload hx hb dX3_writeNumber_44 (lv_at hl 4 rfl) ?_
          refine lv_bipush (v := iI (30 : Int)) hx hb dX3_writeNumber_46 (by decide) ?_
          refine wi_icmp_le (tgt := 53) hx hb (by first | assumption | (unfold iR; omega) | exact kR01 (by assumption)) ⟨by decide, by decide⟩ dX3_writeNumber_48 (by decide) (fun c_48 => ?_) (fun c_48 => ?_)
          · skip
            rw [if_pos c_48] at hres
            refine lv_aload_n hx hb dX3_writeNumber_53 rfl (lv_at hl 2 rfl) ?_
            have hFc : ∀ q, va_A (kWd cI cJ cZ cR wl ad M (y)) H.size q → A q := fun q hq => Or.elim hq (fun ⟨k, e, hk⟩ => hD.2 k (q, e) hk) (fun hk => hA q (Nat.le_trans hS.1 hk))
            refine va_callv (va_runV (b := ad (w1)) (As := []) (rest := []) ⟨hx, hb, hml, hown, hts⟩ (c_w_wipe l dC dI ad cI cJ cZ cR M wl H.size (y) (w1)  hM hw_w1 (by omega) ) (cwV 0 hts gX3_writeNumber_X10_wipe rfl rfl rfl (by decide +kernel) ⟨Nat.le_of_ble_eq_true rfl, Nat.le_of_ble_eq_true rfl⟩) ⟨fun a U g mk q => by obtain ⟨q0, q1, qP, qK, qD, qN⟩ := q; exact ⟨q0, q1, qP, va_K.moved (u := U) (U := U.calling g mk a) (Vm.Alike.refl U.vm) qK, qD, kNw.same (u := U) (U := U.calling g mk a) rfl qN⟩, va_recv hK hP (ci := 10) (q0 := w1) rfl (kgw hw_w1 (by omega)), fun U hU hW => ⟨rfl, by rw [hU], by rw [hU]; exact hP, va_K.moved hW.alike hK, hD.weaken (fun _ _ _ _ => trivial), kNw.warm hW hNw⟩⟩ rfl rfl hl.1 rfl (lv_room (Nat.le_of_ble_eq_true rfl)) dX3_writeNumber_54 ⟨Nat.le_of_ble_eq_true rfl, Nat.le_of_ble_eq_true rfl⟩) hS (fun q _ h => hFc q h) hFc (fun u9 t H1 locs ht hvm hw hB hz1 hk1 hS => ?_)
            obtain ⟨hP1, hK1, hD1⟩ := hB
            rw [ht] at hP1
            rw [hw] at hP1 hD1
            have hD2 := hD1.weaken (B := A) (fun _ q _ h => hFc q.1 h)
            have hP := hP1
            have hD := hD2
            generalize H1 = H at hP hS ⊢
            refine lv_iconst (v := iI (0 : Int)) hx hb dX3_writeNumber_57 (by decide) ?_
            refine lv_istore (lv' := [(7, .int (iI ((0 : Int)))), (0, .ref (ad (64))), (1, .long (iL (nn))), (3, .ref (ad (w1))), (4, .long (iL (b))), (6, .int (iI (g)))]) hx hb dX3_writeNumber_58 hl (by decide) rfl (fun ls hl => ?_)
            refine lv_iconst (v := iI (0 : Int)) hx hb dX3_writeNumber_60 (by decide) ?_
            refine lv_istore (lv' := [(8, .int (iI ((0 : Int)))), (7, .int (iI ((0 : Int)))), (0, .ref (ad (64))), (1, .long (iL (nn))), (3, .ref (ad (w1))), (4, .long (iL (b))), (6, .int (iI (g)))]) hx hb dX3_writeNumber_61 hl (by decide) rfl (fun ls hl => ?_)
            exact ih.2.1 ((F_w_wipe (y) (w1)).2) (b) (g) ((0 : Int)) ((0 : Int)) (maR_q (F_w_wipe_q y w1 hw_w1) may) (l2_q (F_w_wipe_q y w1 hw_w1) l2y) (maS_k (F_w_wipe_k hw_w1 dzy) msy) ((F_w_wipe_k hw_w1 dzy).2.2.2) (by rw [(F_w_wipe_k hw_w1 dzy).2.1]; exact hh) (by rw [(F_w_wipe_q y w1 hw_w1).2 69 rfl (by decide)]; exact rcy) (by show 0 ≤ (kS y w1 1 0).1 w1 1; rw [kS_s]; omega) (by show (kS y w1 1 0).1 w1 1 ≤ _; rw [kS_s]; omega) (b0) (b1) (by omega) (by omega) (by omega) (by rw [(F_w_wipe_k hw_w1 dzy).2.1]; omega) (by omega) (by omega) (by omega) hres _ _ ls hP hD hS (lv_sub hl [2, 3, 4, 5, 6, 1, 0] rfl)
          · skip
            rw [if_neg c_48] at hres
            refine lv_iconst (v := iI (0 : Int)) hx hb dX3_writeNumber_51 (by decide) ?_
            exact W.zret (v := iI ((0 : Int))) hx hb hr (kz _ (by first | assumption | omega)) (fun t ht hW => ⟨⟨iI ((0 : Int)), y, rfl, ⟨(by have h9 := congrArg (fun z : Int × KS => iI z.1) hres; exact h9), (by have h9 := congrArg (fun z : Int × KS => z.2) hres; exact h9)⟩, by rw [ht]; exact hP, va_K.moved hW.alike hK, hD⟩, hS.F ht⟩) hS.2.2 dX3_writeNumber_52
        · skip
          rw [if_neg c_10] at hres
          refine lv_lload hx hb dX3_writeNumber_13 (lv_at hl 3 rfl) ?_
          refine lv_aload_n hx hb dX3_writeNumber_15 rfl (lv_at hl 0 rfl) ?_
          refine va_get (D := (dC, dI)) (ci := 3) (v := .ref (ad (69))) (C := RX3) (T := TX3) (N := 10) hx hb hts hinX3 hown hK hP (64) (kg64 (by omega)) rfl 6 (by decide) (hts (.fieldLink RX3 33 "LikeWords$Machine" "counts" "[J") (by decide +kernel)) (fun _ h9 => h9) rfl dX3_writeNumber_16 ?_
          refine lv_iload hx hb dX3_writeNumber_19 (lv_at hl 4 rfl) ?_
          refine wi_lald (f := (y).2 (69)) (n := kLen (69)) hx hb hK hP (69) 1 (kgj kC69 (by omega) rfl) rfl (i := g) (by omega) (by show _ < ((32 : Nat) : Int); exact (by omega)) (kLen_lt _) dX3_writeNumber_21 ?_
          refine wi_lcmp hx hb (by first | (unfold iRL; omega) | (have := rcy g.toNat; unfold iRL; omega)) (by first | (unfold iRL; omega) | (have := rcy g.toNat; unfold iRL; omega)) dX3_writeNumber_22 ?_
          refine wi_if_lt (tgt := 44) hx hb iC_R dX3_writeNumber_23 (by decide) (fun c_23 => ?_) (fun c_23 => ?_)
          · skip
            rw [if_pos c_23] at hres
            refine lv_iload hx hb dX3_writeNumber_44 (lv_at hl 4 rfl) ?_
            refine lv_bipush (v := iI (30 : Int)) hx hb dX3_writeNumber_46 (by decide) ?_
            refine wi_icmp_le (tgt := 53) hx hb (by first | assumption | (unfold iR; omega) | exact kR01 (by assumption)) ⟨by decide, by decide⟩ dX3_writeNumber_48 (by decide) (fun c_48 => ?_) (fun c_48 => ?_)
            · skip
              rw [if_pos c_48] at hres
              refine lv_aload_n hx hb dX3_writeNumber_53 rfl (lv_at hl 2 rfl) ?_
              have hFc : ∀ q, va_A (kWd cI cJ cZ cR wl ad M (y)) H.size q → A q := fun q hq => Or.elim hq (fun ⟨k, e, hk⟩ => hD.2 k (q, e) hk) (fun hk => hA q (Nat.le_trans hS.1 hk))
              refine va_callv (va_runV (b := ad (w1)) (As := []) (rest := []) ⟨hx, hb, hml, hown, hts⟩ (c_w_wipe l dC dI ad cI cJ cZ cR M wl H.size (y) (w1)  hM hw_w1 (by omega) ) (cwV 0 hts gX3_writeNumber_X10_wipe rfl rfl rfl (by decide +kernel) ⟨Nat.le_of_ble_eq_true rfl, Nat.le_of_ble_eq_true rfl⟩) ⟨fun a U g mk q => by obtain ⟨q0, q1, qP, qK, qD, qN⟩ := q; exact ⟨q0, q1, qP, va_K.moved (u := U) (U := U.calling g mk a) (Vm.Alike.refl U.vm) qK, qD, kNw.same (u := U) (U := U.calling g mk a) rfl qN⟩, va_recv hK hP (ci := 10) (q0 := w1) rfl (kgw hw_w1 (by omega)), fun U hU hW => ⟨rfl, by rw [hU], by rw [hU]; exact hP, va_K.moved hW.alike hK, hD.weaken (fun _ _ _ _ => trivial), kNw.warm hW hNw⟩⟩ rfl rfl hl.1 rfl (lv_room (Nat.le_of_ble_eq_true rfl)) dX3_writeNumber_54 ⟨Nat.le_of_ble_eq_true rfl, Nat.le_of_ble_eq_true rfl⟩) hS (fun q _ h => hFc q h) hFc (fun u9 t H1 locs ht hvm hw hB hz1 hk1 hS => ?_)
              obtain ⟨hP1, hK1, hD1⟩ := hB
              rw [ht] at hP1
              rw [hw] at hP1 hD1
              have hD2 := hD1.weaken (B := A) (fun _ q _ h => hFc q.1 h)
              have hP := hP1
              have hD := hD2
              generalize H1 = H at hP hS ⊢
              refine lv_iconst (v := iI (0 : Int)) hx hb dX3_writeNumber_57 (by decide) ?_
              refine lv_istore (lv' := [(7, .int (iI ((0 : Int)))), (0, .ref (ad (64))), (1, .long (iL (nn))), (3, .ref (ad (w1))), (4, .long (iL (b))), (6, .int (iI (g)))]) hx hb dX3_writeNumber_58 hl (by decide) rfl (fun ls hl => ?_)
              refine lv_iconst (v := iI (0 : Int)) hx hb dX3_writeNumber_60 (by decide) ?_
              refine lv_istore (lv' := [(8, .int (iI ((0 : Int)))), (7, .int (iI ((0 : Int)))), (0, .ref (ad (64))), (1, .long (iL (nn))), (3, .ref (ad (w1))), (4, .long (iL (b))), (6, .int (iI (g)))]) hx hb dX3_writeNumber_61 hl (by decide) rfl (fun ls hl => ?_)
              exact ih.2.1 ((F_w_wipe (y) (w1)).2) (b) (g) ((0 : Int)) ((0 : Int)) (maR_q (F_w_wipe_q y w1 hw_w1) may) (l2_q (F_w_wipe_q y w1 hw_w1) l2y) (maS_k (F_w_wipe_k hw_w1 dzy) msy) ((F_w_wipe_k hw_w1 dzy).2.2.2) (by rw [(F_w_wipe_k hw_w1 dzy).2.1]; exact hh) (by rw [(F_w_wipe_q y w1 hw_w1).2 69 rfl (by decide)]; exact rcy) (by show 0 ≤ (kS y w1 1 0).1 w1 1; rw [kS_s]; omega) (by show (kS y w1 1 0).1 w1 1 ≤ _; rw [kS_s]; omega) (b0) (b1) (by omega) (by omega) (by omega) (by rw [(F_w_wipe_k hw_w1 dzy).2.1]; omega) (by omega) (by omega) (by omega) hres _ _ ls hP hD hS (lv_sub hl [2, 3, 4, 5, 6, 1, 0] rfl)
            · skip
              rw [if_neg c_48] at hres
              refine lv_iconst (v := iI (0 : Int)) hx hb dX3_writeNumber_51 (by decide) ?_
              exact W.zret (v := iI ((0 : Int))) hx hb hr (kz _ (by first | assumption | omega)) (fun t ht hW => ⟨⟨iI ((0 : Int)), y, rfl, ⟨(by have h9 := congrArg (fun z : Int × KS => iI z.1) hres; exact h9), (by have h9 := congrArg (fun z : Int × KS => z.2) hres; exact h9)⟩, by rw [ht]; exact hP, va_K.moved hW.alike hK, hD⟩, hS.F ht⟩) hS.2.2 dX3_writeNumber_52
          · skip
            rw [if_neg c_23] at hres
            have rg := rcy g.toNat
            have cl : ¬ b < y.2 69 g.toNat := fun h9 => c_23 (kiC_lt.mpr h9)
            refine lv_lload hx hb dX3_writeNumber_26 (lv_at hl 3 rfl) ?_
            refine lv_aload_n hx hb dX3_writeNumber_28 rfl (lv_at hl 0 rfl) ?_
            refine va_get (D := (dC, dI)) (ci := 3) (v := .ref (ad (69))) (C := RX3) (T := TX3) (N := 10) hx hb hts hinX3 hown hK hP (64) (kg64 (by omega)) rfl 6 (by decide) (hts (.fieldLink RX3 33 "LikeWords$Machine" "counts" "[J") (by decide +kernel)) (fun _ h9 => h9) rfl dX3_writeNumber_29 ?_
            refine lv_iload hx hb dX3_writeNumber_32 (lv_at hl 4 rfl) ?_
            refine wi_lald (f := (y).2 (69)) (n := kLen (69)) hx hb hK hP (69) 1 (kgj kC69 (by omega) rfl) rfl (i := g) (by omega) (by show _ < ((32 : Nat) : Int); exact (by omega)) (kLen_lt _) dX3_writeNumber_34 ?_
            refine wi_lsub hx hb dX3_writeNumber_35 ?_
            refine lv_lstore (lv' := [(4, .long (iL ((b) - (((y).2 (69)) (g).toNat)))), (0, .ref (ad (64))), (1, .long (iL (nn))), (3, .ref (ad (w1))), (6, .int (iI (g)))]) hx hb dX3_writeNumber_36 hl (by decide) rfl (fun ls hl => ?_)
            refine lv_iinc (v := iI ((g) + (1 : Int))) (lv' := [(6, .int (iI ((g) + (1 : Int)))), (4, .long (iL ((b) - (((y).2 (69)) (g).toNat)))), (0, .ref (ad (64))), (1, .long (iL (nn))), (3, .ref (ad (w1)))]) hx hb dX3_writeNumber_38 hl (k := 4) rfl (iI_add _ _) (by decide) rfl (fun ls hl => ?_)
            refine lv_goto (tgt := 6) hx hb dX3_writeNumber_41 (by decide) ?_
            exact ih.1 (y) ((b) - (((y).2 (69)) (g).toNat)) ((g) + (1 : Int)) (may) (l2y) (msy) (dzy) (hh) (rcy) (uy0) (uy1) (by omega) (by omega) (by omega) (by omega) (by omega) hres _ _ ls hP hD hS (lv_sub hl [2, 3, 4, 1, 0] rfl)
      · intro y b g s9 i may l2y msy dzy hh rcy uy0 uy1 b0 b1 g0 g1 s0 s1 i0 i1 fu hres H locs ls hP hD hS hl
        rw [F_a_writeNumber_e1] at hres
        refine lv_iload hx hb dX3_writeNumber_63 (lv_at hl 6 rfl) ?_
        refine lv_iload hx hb dX3_writeNumber_65 (lv_at hl 4 rfl) ?_
        refine wi_icmp_ge (tgt := 158) hx hb (by first | assumption | (unfold iR; omega) | exact kR01 (by assumption)) (by first | assumption | (unfold iR; omega) | exact kR01 (by assumption)) dX3_writeNumber_67 (by decide) (fun c_67 => ?_) (fun c_67 => ?_)
        · skip
          rw [if_pos c_67] at hres
          refine lv_iconst (v := iI (1 : Int)) hx hb dX3_writeNumber_158 (by decide) ?_
          exact W.zret (v := iI ((1 : Int))) hx hb hr (kz _ (by first | assumption | omega)) (fun t ht hW => ⟨⟨iI ((1 : Int)), y, rfl, ⟨(by have h9 := congrArg (fun z : Int × KS => iI z.1) hres; exact h9), (by have h9 := congrArg (fun z : Int × KS => z.2) hres; exact h9)⟩, by rw [ht]; exact hP, va_K.moved hW.alike hK, hD⟩, hS.F ht⟩) hS.2.2 dX3_writeNumber_159
        · skip
          rw [if_neg c_67] at hres
          refine lv_aload_n hx hb dX3_writeNumber_70 rfl (lv_at hl 0 rfl) ?_
          refine lv_iload hx hb dX3_writeNumber_71 (lv_at hl 4 rfl) ?_
          refine lv_iconst (v := iI (1 : Int)) hx hb dX3_writeNumber_73 (by decide) ?_
          refine wi_isub hx hb dX3_writeNumber_74 ?_
          refine lv_iload hx hb dX3_writeNumber_75 (lv_at hl 6 rfl) ?_
          refine wi_isub hx hb dX3_writeNumber_77 ?_
          have hFc : ∀ q, va_A (kWd cI cJ cZ cR wl ad M (y)) H.size q → A q := fun q hq => Or.elim hq (fun ⟨k, e, hk⟩ => hD.2 k (q, e) hk) (fun hk => hA q (Nat.le_trans hS.1 hk))
          refine va_callv (va_runV (b := ad (64)) (As := [.int (iI (((g) - ((1 : Int))) - (i)))]) (rest := []) ⟨hx, hb, hml, hown, hts⟩ (c_a_countWays l dC dI ad cI cJ cZ cR M wl H.size (y)  (((g) - ((1 : Int))) - (i)) hM may l2y (by omega) (by omega)) (cwV 1 hts gX3_writeNumber_X3_countWays rfl rfl rfl (by decide +kernel) ⟨Nat.le_of_ble_eq_true rfl, Nat.le_of_ble_eq_true rfl⟩) ⟨fun a U g mk q => by obtain ⟨q0, q1, qP, qK, qD, qN⟩ := q; exact ⟨q0, q1, qP, va_K.moved (u := U) (U := U.calling g mk a) (Vm.Alike.refl U.vm) qK, qD, kNw.same (u := U) (U := U.calling g mk a) rfl qN⟩, va_recv hK hP (ci := 3) (q0 := 64) rfl (kg64 (by omega)), fun U hU hW => ⟨rfl, by rw [hU], by rw [hU]; exact hP, va_K.moved hW.alike hK, hD.weaken (fun _ _ _ _ => trivial), kNw.warm hW hNw⟩⟩ rfl rfl hl.1 rfl (lv_room (Nat.le_of_ble_eq_true rfl)) dX3_writeNumber_78 ⟨Nat.le_of_ble_eq_true rfl, Nat.le_of_ble_eq_true rfl⟩) hS (fun q _ h => hFc q h) hFc (fun u9 t H1 locs ht hvm hw hB hz1 hk1 hS => ?_)
          obtain ⟨hP1, hK1, hD1⟩ := hB
          rw [ht] at hP1
          rw [hw] at hP1 hD1
          have hD2 := hD1.weaken (B := A) (fun _ q _ h => hFc q.1 h)
          have hP := hP1
          have hD := hD2
          generalize H1 = H at hP hS ⊢
          have fc := F_a_countWays_fr y (g - 1 - i)
          have cw := F_a_countWays_x may l2y msy dzy (v := g - 1 - i) (by omega) (by omega)
          have mac := maR_k fc may
          have l2c := l2_of fc (by decide) l2y
          have ec : (F_a_countWays y (g - 1 - i)).2.1 w1 1 = y.1 w1 1 := fc.1 w1 1 (by simp)
          have wbc : ∀ j : Nat, (j : Int) < (F_a_countWays y (g - 1 - i)).2.1 64 7 → 0 ≤ (F_a_countWays y (g - 1 - i)).2.2 (kWs ((F_a_countWays y (g - 1 - i)).2.1 64 4)) j ∧ (F_a_countWays y (g - 1 - i)).2.2 (kWs ((F_a_countWays y (g - 1 - i)).2.1 64 4)) j ≤ 4611686018427387904 := fun j hj => by
            rw [cw.2 j (by rw [← cw.1.2.1]; exact hj)]
            have kb := kWn_b l2y (g - 1 - i).toNat j
            have km := kp4_m (show (g - 1 - i).toNat ≤ 31 by omega)
            have k31 : (4 : Int) ^ 31 = 4611686018427387904 := by decide
            omega
          refine lv_iconst (v := iI (0 : Int)) hx hb dX3_writeNumber_81 (by decide) ?_
          refine lv_istore (lv' := [(9, .int (iI ((0 : Int)))), (0, .ref (ad (64))), (1, .long (iL (nn))), (3, .ref (ad (w1))), (4, .long (iL (b))), (6, .int (iI (g))), (7, .int (iI (s9))), (8, .int (iI (i)))]) hx hb dX3_writeNumber_82 hl (by decide) rfl (fun ls hl => ?_)
          exact ih.2.2 ((F_a_countWays (y) (((g) - ((1 : Int))) - (i))).2) (b) (g) (s9) (i) ((0 : Int)) (mac) (l2c) (maS_k cw.1 msy) (cw.1.2.2.2) (by rw [cw.1.2.1]; exact hh) (by rw [fc.2 69 (by decide)]; exact rcy) (by rw [ec]; exact uy0) (by rw [ec]; exact uy1) (b0) (b1) (wbc) (by omega) (by omega) (by omega) (by omega) (by omega) (by rw [cw.1.2.1]; omega) (by omega) (by rw [cw.1.1]; omega) (by omega) (by omega) hres _ _ ls hP hD hS (lv_sub hl [1, 2, 3, 4, 5, 6, 7, 0] rfl)
      · intro y b g s9 i z may l2y msy dzy hh rcy uy0 uy1 b0 b1 wby g0 g1 i0 i1 s0 s1 z0 z1 z9 fu hres H locs ls hP hD hS hl
        rw [F_a_writeNumber_e2] at hres
        refine lv_iload hx hb dX3_writeNumber_84 (lv_at hl 7 rfl) ?_
        refine lv_aload_n hx hb dX3_writeNumber_86 rfl (lv_at hl 0 rfl) ?_
        refine va_get (D := (dC, dI)) (ci := 3) (v := .ref (ad (1))) (C := RX3) (T := TX3) (N := 10) hx hb hts hinX3 hown hK hP (64) (kg64 (by omega)) rfl 0 (by decide) (hts (.fieldLink RX3 9 "LikeWords$Machine" "scale" "LLikeWords$Scale;") (by decide +kernel)) (fun _ h9 => h9) rfl dX3_writeNumber_87 ?_
        refine va_get (D := (dC, dI)) (ci := 8) (v := .int (iI ((y).1 (1) 2))) (C := RX8) (T := TX8) (N := 4) hx hb hts hinX8 hown hK hP (1) (kg1 (by omega)) rfl 2 (by decide) (hts (.fieldLink RX3 40 "LikeWords$Scale" "letterCount" "I") (by decide +kernel)) (fun _ h9 => h9) rfl dX3_writeNumber_90 ?_
        refine lv_iconst (v := iI (1 : Int)) hx hb dX3_writeNumber_93 (by decide) ?_
        refine wi_isub hx hb dX3_writeNumber_94 ?_
        refine wi_icmp_ge (tgt := 131) hx hb (by first | assumption | (unfold iR; omega) | exact kR01 (by assumption)) (by first | assumption | (unfold iR; omega) | exact kR01 (by assumption)) dX3_writeNumber_95 (by decide) (fun c_95 => ?_) (fun c_95 => ?_)
        · skip
          rw [if_pos c_95] at hres
          have may1 := may.1
          refine lv_aload_n hx hb dX3_writeNumber_131 rfl (lv_at hl 2 rfl) ?_
          refine lv_iload hx hb dX3_writeNumber_132 (lv_at hl 7 rfl) ?_
          have hFc : ∀ q, va_A (kWd cI cJ cZ cR wl ad M (y)) H.size q → A q := fun q hq => Or.elim hq (fun ⟨k, e, hk⟩ => hD.2 k (q, e) hk) (fun hk => hA q (Nat.le_trans hS.1 hk))
          refine va_calli (va_runV (b := ad (w1)) (As := [.int (iI (z))]) (rest := []) ⟨hx, hb, hml, hown, hts⟩ (c_w_push l dC dI ad cI cJ cZ cR M wl H.size (y) (w1) (z) hM hw_w1 (by omega) uy0 uy1) (cwV 1 hts gX3_writeNumber_X10_push rfl rfl rfl (by decide +kernel) ⟨Nat.le_of_ble_eq_true rfl, Nat.le_of_ble_eq_true rfl⟩) ⟨fun a U g mk q => by obtain ⟨q0, q1, qP, qK, qD, qN⟩ := q; exact ⟨q0, q1, qP, va_K.moved (u := U) (U := U.calling g mk a) (Vm.Alike.refl U.vm) qK, qD, kNw.same (u := U) (U := U.calling g mk a) rfl qN⟩, va_recv hK hP (ci := 10) (q0 := w1) rfl (kgw hw_w1 (by omega)), fun U hU hW => ⟨rfl, by rw [hU], by rw [hU]; exact hP, va_K.moved hW.alike hK, hD.weaken (fun _ _ _ _ => trivial), kNw.warm hW hNw⟩⟩ rfl rfl hl.1 rfl (lv_room (Nat.le_of_ble_eq_true rfl)) dX3_writeNumber_134 ⟨Nat.le_of_ble_eq_true rfl, Nat.le_of_ble_eq_true rfl⟩) hS (fun q _ h => hFc q h) hFc (fun r9 u9 t H1 locs ht hvm hw hB hz1 hk1 hS => ?_)
          obtain ⟨hP1, hK1, hD1⟩ := hB
          rw [ht] at hP1
          obtain ⟨hw1, hw2⟩ := hw
          rw [hw2] at hP1 hD1
          rw [hw1]
          have hD2 := hD1.weaken (B := A) (fun _ q _ h => hFc q.1 h)
          have hP := hP1
          have hD := hD2
          generalize H1 = H at hP hS ⊢
          refine lv_pop hx hb dX3_writeNumber_137 rfl ?_
          refine lv_aload_n hx hb dX3_writeNumber_138 rfl (lv_at hl 0 rfl) ?_
          refine lv_iload hx hb dX3_writeNumber_139 (lv_at hl 5 rfl) ?_
          refine lv_iload hx hb dX3_writeNumber_141 (lv_at hl 7 rfl) ?_
          have hFc : ∀ q, va_A (kWd cI cJ cZ cR wl ad M ((F_w_push (y) (w1) (z)).2)) H.size q → A q := fun q hq => Or.elim hq (fun ⟨k, e, hk⟩ => hD.2 k (q, e) hk) (fun hk => hA q (Nat.le_trans hS.1 hk))
          refine va_calli (va_runV (b := ad (64)) (As := [.int (iI (s9)), .int (iI (z))]) (rest := []) ⟨hx, hb, hml, hown, hts⟩ (c_a_step l dC dI ad cI cJ cZ cR M wl H.size ((F_w_push (y) (w1) (z)).2)  (s9) (z) hM (by omega) (by omega) (by omega) (by omega) (maR_q (F_w_push_q _ _ _ hw_w1) may) (l2_q (F_w_push_q _ _ _ hw_w1) l2y)) (cwV 2 hts gX3_writeNumber_X3_step rfl rfl rfl (by decide +kernel) ⟨Nat.le_of_ble_eq_true rfl, Nat.le_of_ble_eq_true rfl⟩) ⟨fun a U g mk q => by obtain ⟨q0, q1, qP, qK, qD, qN⟩ := q; exact ⟨q0, q1, qP, va_K.moved (u := U) (U := U.calling g mk a) (Vm.Alike.refl U.vm) qK, qD, kNw.same (u := U) (U := U.calling g mk a) rfl qN⟩, va_recv hK hP (ci := 3) (q0 := 64) rfl (kg64 (by omega)), fun U hU hW => ⟨rfl, by rw [hU], by rw [hU]; exact hP, va_K.moved hW.alike hK, hD.weaken (fun _ _ _ _ => trivial), kNw.warm hW hNw⟩⟩ rfl rfl hl.1 rfl (lv_room (Nat.le_of_ble_eq_true rfl)) dX3_writeNumber_143 ⟨Nat.le_of_ble_eq_true rfl, Nat.le_of_ble_eq_true rfl⟩) hS (fun q _ h => hFc q h) hFc (fun r9 u9 t H1 locs ht hvm hw hB hz1 hk1 hS => ?_)
          obtain ⟨hP1, hK1, hD1⟩ := hB
          rw [ht] at hP1
          obtain ⟨hw1, hw2⟩ := hw
          rw [hw2] at hP1 hD1
          rw [hw1]
          rw [F_a_step_2] at hP1 hD1
          have hD2 := hD1.weaken (B := A) (fun _ q _ h => hFc q.1 h)
          have hP := hP1
          have hD := hD2
          generalize H1 = H at hP hS ⊢
          have sb := F_a_step_b (maR_q (F_w_push_q y w1 z hw_w1) may) s9 z
          refine lv_iconst (v := iI (0 : Int)) hx hb dX3_writeNumber_146 (by decide) ?_
          refine va_mmax hx hb (by rw [hml]; exact hl.1.symm) hown (hts (.methodLink RX3 121 Lib.Math.max.name) (by decide +kernel)) (hts (.static Lib.Math.max.name) (by decide +kernel)) (hts (.initialized "java/lang/Math") (by decide +kernel)) (hts (.code Lib.Math.max.name Lib.Math.max.code 2 (some .int)) (by decide +kernel)) (Nat.le_of_ble_eq_true rfl) (Nat.le_of_ble_eq_true rfl) (Nat.le_of_ble_eq_true rfl) (Nat.le_of_ble_eq_true rfl) dX3_writeNumber_147 ?_
          rw [iI_max (by first | assumption | (unfold iR; omega) | exact kR01 (by assumption)) ⟨by decide, by decide⟩]
          refine lv_istore (lv' := [(7, .int (iI (max ((F_a_step ((F_w_push (y) (w1) (z)).2) (s9) (z)).1) ((0 : Int))))), (0, .ref (ad (64))), (1, .long (iL (nn))), (3, .ref (ad (w1))), (4, .long (iL (b))), (6, .int (iI (g))), (8, .int (iI (i))), (9, .int (iI (z)))]) hx hb dX3_writeNumber_150 hl (by decide) rfl (fun ls hl => ?_)
          refine lv_iinc (v := iI ((i) + (1 : Int))) (lv' := [(8, .int (iI ((i) + (1 : Int)))), (7, .int (iI (max ((F_a_step ((F_w_push (y) (w1) (z)).2) (s9) (z)).1) ((0 : Int))))), (0, .ref (ad (64))), (1, .long (iL (nn))), (3, .ref (ad (w1))), (4, .long (iL (b))), (6, .int (iI (g))), (9, .int (iI (z)))]) hx hb dX3_writeNumber_152 hl (k := 6) rfl (iI_add _ _) (by decide) rfl (fun ls hl => ?_)
          refine lv_goto (tgt := 63) hx hb dX3_writeNumber_155 (by decide) ?_
          exact ih.2.1 ((F_w_push (y) (w1) (z)).2) (b) (g) (max ((F_a_step ((F_w_push (y) (w1) (z)).2) (s9) (z)).1) ((0 : Int))) ((i) + (1 : Int)) (maR_q (F_w_push_q _ _ _ hw_w1) may) (l2_q (F_w_push_q _ _ _ hw_w1) l2y) (maS_k (F_a_push_k hw_w1 dzy) msy) ((F_a_push_k hw_w1 dzy).2.2.2) (by rw [(F_a_push_k hw_w1 dzy).2.1]; exact hh) (by rw [(F_w_push_q _ _ _ hw_w1).2 69 rfl (by decide)]; exact rcy) ((F_w_push_b hw_w1 uy0 uy1).1) ((F_w_push_b hw_w1 uy0 uy1).2) (b0) (b1) (by omega) (by omega) (by omega) (by rw [(F_a_push_k hw_w1 dzy).2.1]; have := F_a_step_cg (F_a_push_k (v := z) hw_w1 dzy).1 (F_a_push_k (v := z) hw_w1 dzy).2.1 (F_a_push_k (v := z) hw_w1 dzy).2.2.1 s9 z; have := msy s9 z (by omega) (by omega) (by omega) (by omega); omega) (by omega) (by omega) (by omega) hres _ _ ls hP hD hS (lv_sub hl [2, 3, 4, 5, 6, 1, 0] rfl)
        · skip
          rw [if_neg c_95] at hres
          have wbb := F_a_waysBy_b msy (s := s9) (z := z) (B := 4611686018427387904) (by decide) s0 s1 z0 (by omega) wby
          have may1 := may.1
          refine lv_lload hx hb dX3_writeNumber_98 (lv_at hl 3 rfl) ?_
          refine lv_aload_n hx hb dX3_writeNumber_100 rfl (lv_at hl 0 rfl) ?_
          refine lv_iload hx hb dX3_writeNumber_101 (lv_at hl 5 rfl) ?_
          refine lv_iload hx hb dX3_writeNumber_103 (lv_at hl 7 rfl) ?_
          have hFc : ∀ q, va_A (kWd cI cJ cZ cR wl ad M (y)) H.size q → A q := fun q hq => Or.elim hq (fun ⟨k, e, hk⟩ => hD.2 k (q, e) hk) (fun hk => hA q (Nat.le_trans hS.1 hk))
          refine va_calll (va_runV (b := ad (64)) (As := [.int (iI (s9)), .int (iI (z))]) (rest := [.long (iL (b))]) ⟨hx, hb, hml, hown, hts⟩ (c_a_waysBy l dC dI ad cI cJ cZ cR M wl H.size (y)  (s9) (z) hM (by omega) (by omega) (by omega) (by omega) may l2y) (cwV 2 hts gX3_writeNumber_X3_waysBy rfl rfl rfl (by decide +kernel) ⟨Nat.le_of_ble_eq_true rfl, Nat.le_of_ble_eq_true rfl⟩) ⟨fun a U g mk q => by obtain ⟨q0, q1, qP, qK, qD, qN⟩ := q; exact ⟨q0, q1, qP, va_K.moved (u := U) (U := U.calling g mk a) (Vm.Alike.refl U.vm) qK, qD, kNw.same (u := U) (U := U.calling g mk a) rfl qN⟩, va_recv hK hP (ci := 3) (q0 := 64) rfl (kg64 (by omega)), fun U hU hW => ⟨rfl, by rw [hU], by rw [hU]; exact hP, va_K.moved hW.alike hK, hD.weaken (fun _ _ _ _ => trivial), kNw.warm hW hNw⟩⟩ rfl rfl hl.1 rfl (lv_room (Nat.le_of_ble_eq_true rfl)) dX3_writeNumber_105 ⟨Nat.le_of_ble_eq_true rfl, Nat.le_of_ble_eq_true rfl⟩) hS (fun q _ h => hFc q h) hFc (fun r9 u9 t H1 locs ht hvm hw hB hz1 hk1 hS => ?_)
          obtain ⟨hP1, hK1, hD1⟩ := hB
          rw [ht] at hP1
          obtain ⟨hw1, hw2⟩ := hw
          rw [hw2] at hP1 hD1
          rw [hw1]
          rw [F_a_waysBy_2] at hP1 hD1
          have hD2 := hD1.weaken (B := A) (fun _ q _ h => hFc q.1 h)
          have hP := hP1
          have hD := hD2
          generalize H1 = H at hP hS ⊢
          refine wi_lcmp hx hb (by first | (unfold iRL; omega) | (have := wbb; unfold iRL; omega)) (by first | (unfold iRL; omega) | (have := wbb; unfold iRL; omega)) dX3_writeNumber_108 ?_
          refine wi_if_lt (tgt := 131) hx hb iC_R dX3_writeNumber_109 (by decide) (fun c_109 => ?_) (fun c_109 => ?_)
          · skip
            rw [if_pos c_109] at hres
            have may1 := may.1
            refine lv_aload_n hx hb dX3_writeNumber_131 rfl (lv_at hl 2 rfl) ?_
            refine lv_iload hx hb dX3_writeNumber_132 (lv_at hl 7 rfl) ?_
            have hFc : ∀ q, va_A (kWd cI cJ cZ cR wl ad M (y)) H.size q → A q := fun q hq => Or.elim hq (fun ⟨k, e, hk⟩ => hD.2 k (q, e) hk) (fun hk => hA q (Nat.le_trans hS.1 hk))
            refine va_calli (va_runV (b := ad (w1)) (As := [.int (iI (z))]) (rest := []) ⟨hx, hb, hml, hown, hts⟩ (c_w_push l dC dI ad cI cJ cZ cR M wl H.size (y) (w1) (z) hM hw_w1 (by omega) uy0 uy1) (cwV 1 hts gX3_writeNumber_X10_push rfl rfl rfl (by decide +kernel) ⟨Nat.le_of_ble_eq_true rfl, Nat.le_of_ble_eq_true rfl⟩) ⟨fun a U g mk q => by obtain ⟨q0, q1, qP, qK, qD, qN⟩ := q; exact ⟨q0, q1, qP, va_K.moved (u := U) (U := U.calling g mk a) (Vm.Alike.refl U.vm) qK, qD, kNw.same (u := U) (U := U.calling g mk a) rfl qN⟩, va_recv hK hP (ci := 10) (q0 := w1) rfl (kgw hw_w1 (by omega)), fun U hU hW => ⟨rfl, by rw [hU], by rw [hU]; exact hP, va_K.moved hW.alike hK, hD.weaken (fun _ _ _ _ => trivial), kNw.warm hW hNw⟩⟩ rfl rfl hl.1 rfl (lv_room (Nat.le_of_ble_eq_true rfl)) dX3_writeNumber_134 ⟨Nat.le_of_ble_eq_true rfl, Nat.le_of_ble_eq_true rfl⟩) hS (fun q _ h => hFc q h) hFc (fun r9 u9 t H1 locs ht hvm hw hB hz1 hk1 hS => ?_)
            obtain ⟨hP1, hK1, hD1⟩ := hB
            rw [ht] at hP1
            obtain ⟨hw1, hw2⟩ := hw
            rw [hw2] at hP1 hD1
            rw [hw1]
            have hD2 := hD1.weaken (B := A) (fun _ q _ h => hFc q.1 h)
            have hP := hP1
            have hD := hD2
            generalize H1 = H at hP hS ⊢
            refine lv_pop hx hb dX3_writeNumber_137 rfl ?_
            refine lv_aload_n hx hb dX3_writeNumber_138 rfl (lv_at hl 0 rfl) ?_
            refine lv_iload hx hb dX3_writeNumber_139 (lv_at hl 5 rfl) ?_
            refine lv_iload hx hb dX3_writeNumber_141 (lv_at hl 7 rfl) ?_
            have hFc : ∀ q, va_A (kWd cI cJ cZ cR wl ad M ((F_w_push (y) (w1) (z)).2)) H.size q → A q := fun q hq => Or.elim hq (fun ⟨k, e, hk⟩ => hD.2 k (q, e) hk) (fun hk => hA q (Nat.le_trans hS.1 hk))
            refine va_calli (va_runV (b := ad (64)) (As := [.int (iI (s9)), .int (iI (z))]) (rest := []) ⟨hx, hb, hml, hown, hts⟩ (c_a_step l dC dI ad cI cJ cZ cR M wl H.size ((F_w_push (y) (w1) (z)).2)  (s9) (z) hM (by omega) (by omega) (by omega) (by omega) (maR_q (F_w_push_q _ _ _ hw_w1) may) (l2_q (F_w_push_q _ _ _ hw_w1) l2y)) (cwV 2 hts gX3_writeNumber_X3_step rfl rfl rfl (by decide +kernel) ⟨Nat.le_of_ble_eq_true rfl, Nat.le_of_ble_eq_true rfl⟩) ⟨fun a U g mk q => by obtain ⟨q0, q1, qP, qK, qD, qN⟩ := q; exact ⟨q0, q1, qP, va_K.moved (u := U) (U := U.calling g mk a) (Vm.Alike.refl U.vm) qK, qD, kNw.same (u := U) (U := U.calling g mk a) rfl qN⟩, va_recv hK hP (ci := 3) (q0 := 64) rfl (kg64 (by omega)), fun U hU hW => ⟨rfl, by rw [hU], by rw [hU]; exact hP, va_K.moved hW.alike hK, hD.weaken (fun _ _ _ _ => trivial), kNw.warm hW hNw⟩⟩ rfl rfl hl.1 rfl (lv_room (Nat.le_of_ble_eq_true rfl)) dX3_writeNumber_143 ⟨Nat.le_of_ble_eq_true rfl, Nat.le_of_ble_eq_true rfl⟩) hS (fun q _ h => hFc q h) hFc (fun r9 u9 t H1 locs ht hvm hw hB hz1 hk1 hS => ?_)
            obtain ⟨hP1, hK1, hD1⟩ := hB
            rw [ht] at hP1
            obtain ⟨hw1, hw2⟩ := hw
            rw [hw2] at hP1 hD1
            rw [hw1]
            rw [F_a_step_2] at hP1 hD1
            have hD2 := hD1.weaken (B := A) (fun _ q _ h => hFc q.1 h)
            have hP := hP1
            have hD := hD2
            generalize H1 = H at hP hS ⊢
            have sb := F_a_step_b (maR_q (F_w_push_q y w1 z hw_w1) may) s9 z
            refine lv_iconst (v := iI (0 : Int)) hx hb dX3_writeNumber_146 (by decide) ?_
            refine va_mmax hx hb (by rw [hml]; exact hl.1.symm) hown (hts (.methodLink RX3 121 Lib.Math.max.name) (by decide +kernel)) (hts (.static Lib.Math.max.name) (by decide +kernel)) (hts (.initialized "java/lang/Math") (by decide +kernel)) (hts (.code Lib.Math.max.name Lib.Math.max.code 2 (some .int)) (by decide +kernel)) (Nat.le_of_ble_eq_true rfl) (Nat.le_of_ble_eq_true rfl) (Nat.le_of_ble_eq_true rfl) (Nat.le_of_ble_eq_true rfl) dX3_writeNumber_147 ?_
            rw [iI_max (by first | assumption | (unfold iR; omega) | exact kR01 (by assumption)) ⟨by decide, by decide⟩]
            refine lv_istore (lv' := [(7, .int (iI (max ((F_a_step ((F_w_push (y) (w1) (z)).2) (s9) (z)).1) ((0 : Int))))), (0, .ref (ad (64))), (1, .long (iL (nn))), (3, .ref (ad (w1))), (4, .long (iL (b))), (6, .int (iI (g))), (8, .int (iI (i))), (9, .int (iI (z)))]) hx hb dX3_writeNumber_150 hl (by decide) rfl (fun ls hl => ?_)
            refine lv_iinc (v := iI ((i) + (1 : Int))) (lv' := [(8, .int (iI ((i) + (1 : Int)))), (7, .int (iI (max ((F_a_step ((F_w_push (y) (w1) (z)).2) (s9) (z)).1) ((0 : Int))))), (0, .ref (ad (64))), (1, .long (iL (nn))), (3, .ref (ad (w1))), (4, .long (iL (b))), (6, .int (iI (g))), (9, .int (iI (z)))]) hx hb dX3_writeNumber_152 hl (k := 6) rfl (iI_add _ _) (by decide) rfl (fun ls hl => ?_)
            refine lv_goto (tgt := 63) hx hb dX3_writeNumber_155 (by decide) ?_
            exact ih.2.1 ((F_w_push (y) (w1) (z)).2) (b) (g) (max ((F_a_step ((F_w_push (y) (w1) (z)).2) (s9) (z)).1) ((0 : Int))) ((i) + (1 : Int)) (maR_q (F_w_push_q _ _ _ hw_w1) may) (l2_q (F_w_push_q _ _ _ hw_w1) l2y) (maS_k (F_a_push_k hw_w1 dzy) msy) ((F_a_push_k hw_w1 dzy).2.2.2) (by rw [(F_a_push_k hw_w1 dzy).2.1]; exact hh) (by rw [(F_w_push_q _ _ _ hw_w1).2 69 rfl (by decide)]; exact rcy) ((F_w_push_b hw_w1 uy0 uy1).1) ((F_w_push_b hw_w1 uy0 uy1).2) (b0) (b1) (by omega) (by omega) (by omega) (by rw [(F_a_push_k hw_w1 dzy).2.1]; have := F_a_step_cg (F_a_push_k (v := z) hw_w1 dzy).1 (F_a_push_k (v := z) hw_w1 dzy).2.1 (F_a_push_k (v := z) hw_w1 dzy).2.2.1 s9 z; have := msy s9 z (by omega) (by omega) (by omega) (by omega); omega) (by omega) (by omega) (by omega) hres _ _ ls hP hD hS (lv_sub hl [2, 3, 4, 5, 6, 1, 0] rfl)
          · skip
            rw [if_neg c_109] at hres
            have cl : ¬ b < (F_a_waysBy y s9 z).1 := fun h9 => c_109 (kiC_lt.mpr h9)
            refine lv_lload hx hb dX3_writeNumber_112 (lv_at hl 3 rfl) ?_
            refine lv_aload_n hx hb dX3_writeNumber_114 rfl (lv_at hl 0 rfl) ?_
            refine lv_iload hx hb dX3_writeNumber_115 (lv_at hl 5 rfl) ?_
            refine lv_iload hx hb dX3_writeNumber_117 (lv_at hl 7 rfl) ?_
            have hFc : ∀ q, va_A (kWd cI cJ cZ cR wl ad M (y)) H.size q → A q := fun q hq => Or.elim hq (fun ⟨k, e, hk⟩ => hD.2 k (q, e) hk) (fun hk => hA q (Nat.le_trans hS.1 hk))
            refine va_calll (va_runV (b := ad (64)) (As := [.int (iI (s9)), .int (iI (z))]) (rest := [.long (iL (b))]) ⟨hx, hb, hml, hown, hts⟩ (c_a_waysBy l dC dI ad cI cJ cZ cR M wl H.size (y)  (s9) (z) hM (by omega) (by omega) (by omega) (by omega) may l2y) (cwV 2 hts gX3_writeNumber_X3_waysBy rfl rfl rfl (by decide +kernel) ⟨Nat.le_of_ble_eq_true rfl, Nat.le_of_ble_eq_true rfl⟩) ⟨fun a U g mk q => by obtain ⟨q0, q1, qP, qK, qD, qN⟩ := q; exact ⟨q0, q1, qP, va_K.moved (u := U) (U := U.calling g mk a) (Vm.Alike.refl U.vm) qK, qD, kNw.same (u := U) (U := U.calling g mk a) rfl qN⟩, va_recv hK hP (ci := 3) (q0 := 64) rfl (kg64 (by omega)), fun U hU hW => ⟨rfl, by rw [hU], by rw [hU]; exact hP, va_K.moved hW.alike hK, hD.weaken (fun _ _ _ _ => trivial), kNw.warm hW hNw⟩⟩ rfl rfl hl.1 rfl (lv_room (Nat.le_of_ble_eq_true rfl)) dX3_writeNumber_119 ⟨Nat.le_of_ble_eq_true rfl, Nat.le_of_ble_eq_true rfl⟩) hS (fun q _ h => hFc q h) hFc (fun r9 u9 t H1 locs ht hvm hw hB hz1 hk1 hS => ?_)
            obtain ⟨hP1, hK1, hD1⟩ := hB
            rw [ht] at hP1
            obtain ⟨hw1, hw2⟩ := hw
            rw [hw2] at hP1 hD1
            rw [hw1]
            rw [F_a_waysBy_2] at hP1 hD1
            have hD2 := hD1.weaken (B := A) (fun _ q _ h => hFc q.1 h)
            have hP := hP1
            have hD := hD2
            generalize H1 = H at hP hS ⊢
            refine wi_lsub hx hb dX3_writeNumber_122 ?_
            refine lv_lstore (lv' := [(4, .long (iL ((b) - ((F_a_waysBy (y) (s9) (z)).1)))), (0, .ref (ad (64))), (1, .long (iL (nn))), (3, .ref (ad (w1))), (6, .int (iI (g))), (7, .int (iI (s9))), (8, .int (iI (i))), (9, .int (iI (z)))]) hx hb dX3_writeNumber_123 hl (by decide) rfl (fun ls hl => ?_)
            refine lv_iinc (v := iI ((z) + (1 : Int))) (lv' := [(9, .int (iI ((z) + (1 : Int)))), (4, .long (iL ((b) - ((F_a_waysBy (y) (s9) (z)).1)))), (0, .ref (ad (64))), (1, .long (iL (nn))), (3, .ref (ad (w1))), (6, .int (iI (g))), (7, .int (iI (s9))), (8, .int (iI (i)))]) hx hb dX3_writeNumber_125 hl (k := 7) rfl (iI_add _ _) (by decide) rfl (fun ls hl => ?_)
            refine lv_goto (tgt := 84) hx hb dX3_writeNumber_128 (by decide) ?_
            exact ih.2.2 (y) ((b) - ((F_a_waysBy (y) (s9) (z)).1)) (g) (s9) (i) ((z) + (1 : Int)) (may) (l2y) (msy) (dzy) (hh) (rcy) (uy0) (uy1) (by omega) (by omega) (wby) (by omega) (by omega) (by omega) (by omega) (by omega) (by omega) (by omega) (by omega) (by omega) (by omega) hres _ _ ls hP hD hS (lv_sub hl [2, 3, 4, 1, 5, 6, 7, 0] rfl)
  have key : ∀ (H : Heap) (locs : List Loc), va_P (dC, dI) vwCl (kWd cI cJ cZ cR wl ad M (x)) H → va_S A s.heap H locs → W p l e (headSpec wsX3_writeNumber ({ frames := 3, cells := 0, slots := 0, locals := 70 })).room s m ([.ref (ad 64), .long (iL nn), .ref (ad w1)] : List Value).toArray below meth c H locs 0 0 (MQ below (va_Qi (fun (r : Int32) (u : KS) => r = iI (F_a_writeNumber x w1 nn).1 ∧ u = (F_a_writeNumber x w1 nn).2) (kAt dC dI ad cI cJ cZ cR M wl A) A) ([.ref (ad 64), .long (iL nn), .ref (ad w1)] : List Value).toArray s 0 0 A) (F0 m 0 ls []) := by
    intro H locs hP hS
    have hres : F_a_writeNumber_s w1 2000 0 (x) (nn) (nn) ((0 : Int)) (0) (0) (0) = F_a_writeNumber x w1 nn := rfl
    refine lv_lload_n hx hb dX3_writeNumber_0 rfl (lv_at hl 1 rfl) ?_
    refine lv_lstore (lv' := [(4, .long (iL (nn))), (0, .ref (ad (64))), (1, .long (iL (nn))), (3, .ref (ad (w1)))]) hx hb dX3_writeNumber_1 hl (by decide) rfl (fun ls hl => ?_)
    refine lv_iconst (v := iI (0 : Int)) hx hb dX3_writeNumber_3 (by decide) ?_
    refine lv_istore (lv' := [(6, .int (iI ((0 : Int)))), (4, .long (iL (nn))), (0, .ref (ad (64))), (1, .long (iL (nn))), (3, .ref (ad (w1)))]) hx hb dX3_writeNumber_4 hl (by decide) rfl (fun ls hl => ?_)
    exact (L (2000)).1 (x) (nn) ((0 : Int)) (ma) (l2) (ms) (d9) (hh0) (rc) (u0) (u1) (qq0) (qq2) (by omega) (by omega) (by omega) hres _ _ ls hP hD hS (lv_sub hl [2, 3, 4, 1, 0] rfl)
  exact key _ _ hP hS
theorem F_a_writeNumber_sfr (w1 : Nat) : ∀ n : Nat, (∀ (y : KS) (v0 : Int) (v1 : Int) (v2 : Int) (v3 : Int) (v4 : Int) (v5 : Int), ksame [(w1, 1), (64, 4), (64, 5)] [67, 68, (w1) + 1] y (F_a_writeNumber_s w1 n 0 y v0 v1 v2 v3 v4 v5).2) ∧ (∀ (y : KS) (v0 : Int) (v1 : Int) (v2 : Int) (v3 : Int) (v4 : Int) (v5 : Int), ksame [(w1, 1), (64, 4), (64, 5)] [67, 68, (w1) + 1] y (F_a_writeNumber_s w1 n 1 y v0 v1 v2 v3 v4 v5).2) ∧ (∀ (y : KS) (v0 : Int) (v1 : Int) (v2 : Int) (v3 : Int) (v4 : Int) (v5 : Int), ksame [(w1, 1), (64, 4), (64, 5)] [67, 68, (w1) + 1] y (F_a_writeNumber_s w1 n 2 y v0 v1 v2 v3 v4 v5).2) := by
  intro n
  induction n with
  | zero => exact ⟨fun y _ _ _ _ _ _ => km_rf _ _ _, fun y _ _ _ _ _ _ => km_rf _ _ _, fun y _ _ _ _ _ _ => km_rf _ _ _⟩
  | succ n ih =>
    refine ⟨?_, ?_, ?_⟩
    · intro y nn b g q0 q1 q2
      rw [F_a_writeNumber_e0]
      by_cases hc : ((30 : Int)) < (g)
      · rw [if_pos hc]
        by_cases hc : (g) ≤ ((30 : Int))
        · rw [if_pos hc]
          exact km_tr ((km_tr (km_rf _ _ _) (km_mono (km1 (List.Mem.head _) km0) km0 (F_w_wipe_fr (y) (w1))))) (ih.2.1 ((F_w_wipe (y) (w1)).2) (nn) (b) (g) ((0 : Int)) ((0 : Int)) (0))
        · rw [if_neg hc]
          exact (km_rf _ _ _)
      · rw [if_neg hc]
        by_cases hc : (iC (b) (((y).2 (69)) (g).toNat)) < (0)
        · rw [if_pos hc]
          by_cases hc : (g) ≤ ((30 : Int))
          · rw [if_pos hc]
            exact km_tr ((km_tr (km_rf _ _ _) (km_mono (km1 (List.Mem.head _) km0) km0 (F_w_wipe_fr (y) (w1))))) (ih.2.1 ((F_w_wipe (y) (w1)).2) (nn) (b) (g) ((0 : Int)) ((0 : Int)) (0))
          · rw [if_neg hc]
            exact (km_rf _ _ _)
        · rw [if_neg hc]
          exact km_tr ((km_rf _ _ _)) (ih.1 (y) (nn) ((b) - (((y).2 (69)) (g).toNat)) ((g) + (1 : Int)) (0) (0) (0))
    · intro y nn b g s9 i q0
      rw [F_a_writeNumber_e1]
      by_cases hc : (g) ≤ (i)
      · rw [if_pos hc]
        exact (km_rf _ _ _)
      · rw [if_neg hc]
        exact km_tr ((km_tr (km_rf _ _ _) (km_mono (km1 (List.Mem.tail _ (List.Mem.head _)) (km1 (List.Mem.tail _ (List.Mem.tail _ (List.Mem.head _))) km0)) (km1 (List.Mem.head _) (km1 (List.Mem.tail _ (List.Mem.head _)) km0)) (F_a_countWays_fr (y) (((g) - ((1 : Int))) - (i)))))) (ih.2.2 ((F_a_countWays (y) (((g) - ((1 : Int))) - (i))).2) (nn) (b) (g) (s9) (i) ((0 : Int)))
    · intro y nn b g s9 i z
      rw [F_a_writeNumber_e2]
      by_cases hc : (((y).1 (1) 2) - ((1 : Int))) ≤ (z)
      · rw [if_pos hc]
        exact km_tr ((km_tr (km_rf _ _ _) (km_mono (km1 (List.Mem.head _) km0) (km1 (List.Mem.tail _ (List.Mem.tail _ (List.Mem.head _))) km0) (F_w_push_fr (y) (w1) (z))))) (ih.2.1 ((F_w_push (y) (w1) (z)).2) (nn) (b) (g) (max ((F_a_step ((F_w_push (y) (w1) (z)).2) (s9) (z)).1) ((0 : Int))) ((i) + (1 : Int)) (0))
      · rw [if_neg hc]
        by_cases hc : (iC (b) ((F_a_waysBy (y) (s9) (z)).1)) < (0)
        · rw [if_pos hc]
          exact km_tr ((km_tr (km_rf _ _ _) (km_mono (km1 (List.Mem.head _) km0) (km1 (List.Mem.tail _ (List.Mem.tail _ (List.Mem.head _))) km0) (F_w_push_fr (y) (w1) (z))))) (ih.2.1 ((F_w_push (y) (w1) (z)).2) (nn) (b) (g) (max ((F_a_step ((F_w_push (y) (w1) (z)).2) (s9) (z)).1) ((0 : Int))) ((i) + (1 : Int)) (0))
        · rw [if_neg hc]
          exact km_tr ((km_rf _ _ _)) (ih.2.2 (y) (nn) ((b) - ((F_a_waysBy (y) (s9) (z)).1)) (g) (s9) (i) ((z) + (1 : Int)))
theorem F_a_writeNumber_fr (x : KS) (w1 : Nat) (nn : Int) : ksame [(w1, 1), (64, 4), (64, 5)] [67, 68, (w1) + 1] x (F_a_writeNumber x w1 nn).2 := by
  unfold F_a_writeNumber
  exact km_tr ((km_rf _ _ _)) ((F_a_writeNumber_sfr w1 (2000)).1 (x) (nn) (nn) ((0 : Int)) (0) (0) (0))
theorem F_a_writeNumber_q (x : KS) (w1 : Nat) (nn : Int) (hw_w1 : kW w1 = true) : kq [64] [67, 68] x (F_a_writeNumber x w1 nn).2 := kq_of (F_a_writeNumber_fr x w1 nn) (kq_c (Or.inl hw_w1) (kq_c (Or.inr (by decide)) (kq_c (Or.inr (by decide)) kq_m))) (kq_c (Or.inr (by decide)) (kq_c (Or.inr (by decide)) (kq_c (Or.inl hw_w1) kq_n)))
theorem F_a_writeNumber_s_01 (w1 : Nat) : ∀ n : Nat, (∀ (y : KS) (a b c d e f : Int), (F_a_writeNumber_s w1 n 0 y a b c d e f).1 = 0 ∨ (F_a_writeNumber_s w1 n 0 y a b c d e f).1 = 1) ∧ (∀ (y : KS) (a b c d e f : Int), (F_a_writeNumber_s w1 n 1 y a b c d e f).1 = 0 ∨ (F_a_writeNumber_s w1 n 1 y a b c d e f).1 = 1) ∧ (∀ (y : KS) (a b c d e f : Int), (F_a_writeNumber_s w1 n 2 y a b c d e f).1 = 0 ∨ (F_a_writeNumber_s w1 n 2 y a b c d e f).1 = 1) := by
  intro n
  induction n with
  | zero => exact ⟨fun _ _ _ _ _ _ _ => Or.inl rfl, fun _ _ _ _ _ _ _ => Or.inl rfl, fun _ _ _ _ _ _ _ => Or.inl rfl⟩
  | succ n ih =>
    obtain ⟨i0, i1, i2⟩ := ih
    refine ⟨?_, ?_, ?_⟩
    · intro y a b c d e f
      rw [F_a_writeNumber_e0]
      repeat' split
      all_goals first | exact Or.inl rfl | exact Or.inr rfl | exact i0 _ _ _ _ _ _ _ | exact i1 _ _ _ _ _ _ _ | exact i2 _ _ _ _ _ _ _
    · intro y a b c d e f
      rw [F_a_writeNumber_e1]
      repeat' split
      all_goals first | exact Or.inl rfl | exact Or.inr rfl | exact i0 _ _ _ _ _ _ _ | exact i1 _ _ _ _ _ _ _ | exact i2 _ _ _ _ _ _ _
    · intro y a b c d e f
      rw [F_a_writeNumber_e2]
      repeat' split
      all_goals first | exact Or.inl rfl | exact Or.inr rfl | exact i0 _ _ _ _ _ _ _ | exact i1 _ _ _ _ _ _ _ | exact i2 _ _ _ _ _ _ _
theorem F_a_writeNumber_01 (x : KS) (w1 : Nat) (nn : Int) : (F_a_writeNumber x w1 nn).1 = 0 ∨ (F_a_writeNumber x w1 nn).1 = 1 := (F_a_writeNumber_s_01 w1 _).1 _ _ _ _ _ _ _
