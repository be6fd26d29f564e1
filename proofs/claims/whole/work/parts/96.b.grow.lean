-- deps: 30 31 32 33 34 35 36 37 38 39 40 41 42 43 46 70 71 72 73 74 75 76 77 78 79 80 81 82 83 84 85 86 87 88 89 90 91 92 93 94 95
set_option maxHeartbeats 4000000 in
set_option maxRecDepth 100000 in
/-- LikeWords$Grower, grow -/
theorem c_g_grow (l : Launch) (dC : Nat → ClassId) (dI : Nat → Nat → Nat) (ad : Nat → Nat) (cI cJ cZ cR : ClassId) (M wl sz : Nat) (x : KS)  (hM : 87 ≤ M) (hG : 106 ≤ M) (gt : gT x) (hbw : x.2 99 (x.1 87 13).toNat = 0 → 1 ≤ x.1 90 1 ∧ x.1 88 1 < 60) : Met l yX0_grow wsX0_grow ({ frames := 1, cells := 0, slots := 0, locals := 27 }) (kPc dC dI ad cI cJ cZ cR M wl sz x [.ref (ad 87)]) (va_Qi (fun (r : Int32) (u : KS) => r = iI (F_g_grow x).1 ∧ u = (F_g_grow x).2) (kAt dC dI ad cI cJ cZ cR M wl (va_A (kWd cI cJ cZ cR wl ad M (x)) sz)) (va_A (kWd cI cJ cZ cR wl ad M (x)) sz)) 0 0 (va_A (kWd cI cJ cZ cR wl ad M (x)) sz) := by
  refine Met.ofW (cc := cX0_grow) (maxL := 1) (ret := (some .boolean)) (by decide) rfl ?_
  intro p e s m args below meth c s₁ B hml hv
  obtain ⟨rfl, hsz, hP, hK, hD0, hNw⟩ := hv
  have hx := B.exec
  have hb := B.bytes
  have hr := B.returns
  have hts := atoms_spec (ws := wsX0_grow) B.pre
  have hown : s.vm.findClass RX0 = some m.cls := findClass_of_methodNamed B.named
  have hlocks := B.notSynchronized
  have hinX0 : ∀ w ∈ u_ws RX0 TX0 15, w ∈ wsX0_grow := by decide +kernel
  have hinX10 : ∀ w ∈ u_ws RX10 TX10 2, w ∈ wsX0_grow := by decide +kernel
  subst hsz
  have hD := hD0.self (sz := s.heap.size)
  generalize hAe : va_A (kWd cI cJ cZ cR wl ad M (x)) s.heap.size = A at hD ⊢
  have hA : ∀ q : Nat, s.heap.size ≤ q → A q := fun q h => by rw [← hAe]; exact Or.inr h
  have hS : va_S A s.heap s.heap [] := va_S.rf
  have hl := lv_entry ([.ref (ad 87)]) (n := 1) (Nat.le_of_ble_eq_true rfl)
  rw [lg_entry_eq]
  generalize (lg_sl ([.ref (ad 87)]) ++ List.replicate (1 - (lg_sl ([.ref (ad 87)])).length) Slot.unset).toArray = ls at hl ⊢
  have hl : lv_has ls 1 [(0, .ref (ad (87)))] := hl
  obtain ⟨ma, l2, gw, lv, fm, uu, vv⟩ := id gt
  have a01 := gw.2.2.2.2.2.2.2.2.1 (x.1 87 13).toNat
  have key : ∀ (H : Heap) (locs : List Loc), va_P (dC, dI) vwCl (kWd cI cJ cZ cR wl ad M (x)) H → va_S A s.heap H locs → W p l e (headSpec wsX0_grow ({ frames := 1, cells := 0, slots := 0, locals := 27 })).room s m ([.ref (ad 87)] : List Value).toArray below meth c H locs 0 0 (MQ below (va_Qi (fun (r : Int32) (u : KS) => r = iI (F_g_grow x).1 ∧ u = (F_g_grow x).2) (kAt dC dI ad cI cJ cZ cR M wl A) A) ([.ref (ad 87)] : List Value).toArray s 0 0 A) (F0 m 0 ls []) := by
    intro H locs hP hS
    have hres : (if (((x).2 (99)) ((x).1 (87) 13).toNat) = (0) then (if ((F_a_read ((F_w_push ((F_w_dropLast (x) (90)).2) (88) ((F_w_dropLast (x) (90)).1)).2) ((((F_w_push ((F_w_dropLast (x) (90)).2) (88) ((F_w_dropLast (x) (90)).1)).2).1 (88) 1) - ((1 : Int))) (((F_w_push ((F_w_dropLast (x) (90)).2) (88) ((F_w_dropLast (x) (90)).1)).2).1 (88) 1)).1) < (0) then ((0 : Int), (F_a_read ((F_w_push ((F_w_dropLast (x) (90)).2) (88) ((F_w_dropLast (x) (90)).1)).2) ((((F_w_push ((F_w_dropLast (x) (90)).2) (88) ((F_w_dropLast (x) (90)).1)).2).1 (88) 1) - ((1 : Int))) (((F_w_push ((F_w_dropLast (x) (90)).2) (88) ((F_w_dropLast (x) (90)).1)).2).1 (88) 1)).2) else ((1 : Int), (F_a_read ((F_w_push ((F_w_dropLast (x) (90)).2) (88) ((F_w_dropLast (x) (90)).1)).2) ((((F_w_push ((F_w_dropLast (x) (90)).2) (88) ((F_w_dropLast (x) (90)).1)).2).1 (88) 1) - ((1 : Int))) (((F_w_push ((F_w_dropLast (x) (90)).2) (88) ((F_w_dropLast (x) (90)).1)).2).1 (88) 1)).2)) else (if ((F_a_read (kA (kS (x) (87) 12 (max (((x).1 (87) 12) - ((1 : Int))) ((0 : Int)))) (94) (max (((x).1 (87) 12) - ((1 : Int))) ((0 : Int))).toNat ((0 : Int))) (max (((x).1 (87) 12) - ((1 : Int))) ((0 : Int))) (max (((x).1 (87) 12) - ((1 : Int))) ((0 : Int)))).1) < (0) then ((0 : Int), (F_a_read (kA (kS (x) (87) 12 (max (((x).1 (87) 12) - ((1 : Int))) ((0 : Int)))) (94) (max (((x).1 (87) 12) - ((1 : Int))) ((0 : Int))).toNat ((0 : Int))) (max (((x).1 (87) 12) - ((1 : Int))) ((0 : Int))) (max (((x).1 (87) 12) - ((1 : Int))) ((0 : Int)))).2) else ((1 : Int), (F_a_read (kA (kS (x) (87) 12 (max (((x).1 (87) 12) - ((1 : Int))) ((0 : Int)))) (94) (max (((x).1 (87) 12) - ((1 : Int))) ((0 : Int))).toNat ((0 : Int))) (max (((x).1 (87) 12) - ((1 : Int))) ((0 : Int))) (max (((x).1 (87) 12) - ((1 : Int))) ((0 : Int)))).2))) = F_g_grow x := rfl
    refine lv_aload_n hx hb dX0_grow_0 rfl (lv_at hl 0 rfl) ?_
    refine va_get (D := (dC, dI)) (ci := 0) (v := .ref (ad (99))) (C := RX0) (T := TX0) (N := 15) hx hb hts hinX0 hown hK hP (87) (kg87 (by omega)) rfl 10 (by decide) (hts (.fieldLink RX0 51 "LikeWords$Grower" "isAhead" "[Z") (by decide +kernel)) (fun _ h9 => h9) rfl dX0_grow_1 ?_
    refine lv_aload_n hx hb dX0_grow_4 rfl (lv_at hl 0 rfl) ?_
    refine va_get (D := (dC, dI)) (ci := 0) (v := .int (iI ((x).1 (87) 13))) (C := RX0) (T := TX0) (N := 15) hx hb hts hinX0 hown hK hP (87) (kg87 (by omega)) rfl 13 (by decide) (hts (.fieldLink RX0 72 "LikeWords$Grower" "level" "I") (by decide +kernel)) (fun _ h9 => h9) rfl dX0_grow_5 ?_
    refine wi_zald (f := (x).2 (99)) (n := kLen (99)) hx hb hK hP (99) 2 (kgz kC99 (by omega) rfl) rfl (i := (x).1 (87) 13) (by omega) (by show _ < ((62 : Nat) : Int); exact (by omega)) (kLen_lt _) dX0_grow_8 ?_
    refine wi_if_ne (tgt := 67) hx hb (by first | assumption | (unfold iR; omega) | exact kR01 (by assumption)) dX0_grow_9 (by decide) (fun c_9 => ?_) (fun c_9 => ?_)
    · skip
      rw [if_neg c_9] at hres
      refine lv_aload_n hx hb dX0_grow_67 rfl (lv_at hl 0 rfl) ?_
      refine lv_aload_n hx hb dX0_grow_68 rfl (lv_at hl 0 rfl) ?_
      refine va_get (D := (dC, dI)) (ci := 0) (v := .int (iI ((x).1 (87) 12))) (C := RX0) (T := TX0) (N := 15) hx hb hts hinX0 hown hK hP (87) (kg87 (by omega)) rfl 12 (by decide) (hts (.fieldLink RX0 68 "LikeWords$Grower" "from" "I") (by decide +kernel)) (fun _ h9 => h9) rfl dX0_grow_69 ?_
      refine lv_iconst (v := iI (1 : Int)) hx hb dX0_grow_72 (by decide) ?_
      refine wi_isub hx hb dX0_grow_73 ?_
      refine lv_iconst (v := iI (0 : Int)) hx hb dX0_grow_74 (by decide) ?_
      refine va_mmax hx hb (by rw [hml]; exact hl.1.symm) hown (hts (.methodLink RX0 129 Lib.Math.max.name) (by decide +kernel)) (hts (.static Lib.Math.max.name) (by decide +kernel)) (hts (.initialized "java/lang/Math") (by decide +kernel)) (hts (.code Lib.Math.max.name Lib.Math.max.code 2 (some .int)) (by decide +kernel)) (Nat.le_of_ble_eq_true rfl) (Nat.le_of_ble_eq_true rfl) (Nat.le_of_ble_eq_true rfl) (Nat.le_of_ble_eq_true rfl) dX0_grow_75 ?_
      rw [iI_max (by first | assumption | (unfold iR; omega) | exact kR01 (by assumption)) ⟨by decide, by decide⟩]
      refine va_put (D := (dC, dI)) (ci := 0) (v := .int (iI (max (((x).1 (87) 12) - ((1 : Int))) ((0 : Int))))) (ty := .int) (C := RX0) (T := TX0) (N := 15) hx hb hts hinX0 tyX0 tyX0_ok nmX0 hown hK hP hD hS (87) (kg87 (by omega)) rfl 12 (by decide) (hts (.fieldLink RX0 68 "LikeWords$Grower" "from" "I") (by decide +kernel)) (fun _ h9 => h9) rfl (by decide +kernel) rfl rfl (Nat.le_of_ble_eq_true rfl) dX0_grow_78 (fun H locs hP hD hS => ?_)
      rw [ks87_12] at hP hD
      refine lv_aload_n hx hb dX0_grow_81 rfl (lv_at hl 0 rfl) ?_
      refine va_get (D := (dC, dI)) (ci := 0) (v := .ref (ad (94))) (C := RX0) (T := TX0) (N := 15) hx hb hts hinX0 hown hK hP (87) (kg87 (by omega)) rfl 5 (by decide) (hts (.fieldLink RX0 34 "LikeWords$Grower" "places" "[I") (by decide +kernel)) (fun _ h9 => h9) rfl dX0_grow_82 ?_
      refine lv_aload_n hx hb dX0_grow_85 rfl (lv_at hl 0 rfl) ?_
      refine va_get (D := (dC, dI)) (ci := 0) (v := .int (iI (max (((x).1 (87) 12) - ((1 : Int))) ((0 : Int))))) (C := RX0) (T := TX0) (N := 15) hx hb hts hinX0 hown hK hP (87) (kg87 (by omega)) rfl 12 (by decide) (hts (.fieldLink RX0 68 "LikeWords$Grower" "from" "I") (by decide +kernel)) (fun _ h9 => h9) (congrArg (fun z9 => some (Value.int (iI z9))) (kS_s)) dX0_grow_86 ?_
      refine lv_iconst (v := iI (0 : Int)) hx hb dX0_grow_89 (by decide) ?_
      refine wi_iast (f := (kS (x) (87) 12 (max (((x).1 (87) 12) - ((1 : Int))) ((0 : Int)))).2 (94)) (n := kLen (94)) hx hb hK hP hD hS (94) 0 (kgi kC94 (by omega) rfl) rfl (i := max (((x).1 (87) 12) - ((1 : Int))) ((0 : Int))) (x := (0 : Int)) (by omega) (by show _ < ((61 : Nat) : Int); exact (by omega)) (kLen_lt _) dX0_grow_90 (fun H locs hP hD hS => ?_)
      rw [ksi kC94] at hP hD
      refine lv_aload_n hx hb dX0_grow_91 rfl (lv_at hl 0 rfl) ?_
      refine va_get (D := (dC, dI)) (ci := 0) (v := .ref (ad (64))) (C := RX0) (T := TX0) (N := 15) hx hb hts hinX0 hown hK hP (87) (kg87 (by omega)) rfl 1 (by decide) (hts (.fieldLink RX0 15 "LikeWords$Grower" "machine" "LLikeWords$Machine;") (by decide +kernel)) (fun _ h9 => h9) rfl dX0_grow_92 ?_
      refine lv_aload_n hx hb dX0_grow_95 rfl (lv_at hl 0 rfl) ?_
      refine va_get (D := (dC, dI)) (ci := 0) (v := .ref (ad (88))) (C := RX0) (T := TX0) (N := 15) hx hb hts hinX0 hown hK hP (87) (kg87 (by omega)) rfl 2 (by decide) (hts (.fieldLink RX0 24 "LikeWords$Grower" "row" "LLikeWords$Word;") (by decide +kernel)) (fun _ h9 => h9) rfl dX0_grow_96 ?_
      refine lv_aload_n hx hb dX0_grow_99 rfl (lv_at hl 0 rfl) ?_
      refine va_get (D := (dC, dI)) (ci := 0) (v := .ref (ad (94))) (C := RX0) (T := TX0) (N := 15) hx hb hts hinX0 hown hK hP (87) (kg87 (by omega)) rfl 5 (by decide) (hts (.fieldLink RX0 34 "LikeWords$Grower" "places" "[I") (by decide +kernel)) (fun _ h9 => h9) rfl dX0_grow_100 ?_
      refine lv_aload_n hx hb dX0_grow_103 rfl (lv_at hl 0 rfl) ?_
      refine va_get (D := (dC, dI)) (ci := 0) (v := .int (iI (max (((x).1 (87) 12) - ((1 : Int))) ((0 : Int))))) (C := RX0) (T := TX0) (N := 15) hx hb hts hinX0 hown hK hP (87) (kg87 (by omega)) rfl 12 (by decide) (hts (.fieldLink RX0 68 "LikeWords$Grower" "from" "I") (by decide +kernel)) (fun _ h9 => h9) (congrArg (fun z9 => some (Value.int (iI z9))) ((congrFun (congrFun kA_1 (87)) 12).trans (kS_s))) dX0_grow_104 ?_
      refine lv_aload_n hx hb dX0_grow_107 rfl (lv_at hl 0 rfl) ?_
      refine va_get (D := (dC, dI)) (ci := 0) (v := .int (iI (max (((x).1 (87) 12) - ((1 : Int))) ((0 : Int))))) (C := RX0) (T := TX0) (N := 15) hx hb hts hinX0 hown hK hP (87) (kg87 (by omega)) rfl 12 (by decide) (hts (.fieldLink RX0 68 "LikeWords$Grower" "from" "I") (by decide +kernel)) (fun _ h9 => h9) (congrArg (fun z9 => some (Value.int (iI z9))) ((congrFun (congrFun kA_1 (87)) 12).trans (kS_s))) dX0_grow_108 ?_
      have gq : gT (kA (kS (x) (87) 12 (max (((x).1 (87) 12) - ((1 : Int))) ((0 : Int)))) (94) (max (((x).1 (87) 12) - ((1 : Int))) ((0 : Int))).toNat ((0 : Int))) := gT_94 (gT_from gt (by omega) (by omega)) (by decide) (by decide)
      have uq := gq.2.2.2.2.2.1
      have hFc : ∀ q, va_A (kWd cI cJ cZ cR wl ad M (kA (kS (x) (87) 12 (max (((x).1 (87) 12) - ((1 : Int))) ((0 : Int)))) (94) (max (((x).1 (87) 12) - ((1 : Int))) ((0 : Int))).toNat ((0 : Int)))) H.size q → A q := fun q hq => Or.elim hq (fun ⟨k, e, hk⟩ => hD.2 k (q, e) hk) (fun hk => hA q (Nat.le_trans hS.1 hk))
      refine va_calli (va_runV (b := ad (64)) (As := [.ref (ad (88)), .ref (ad (94)), .int (iI (max (((x).1 (87) 12) - ((1 : Int))) ((0 : Int)))), .int (iI (max (((x).1 (87) 12) - ((1 : Int))) ((0 : Int))))]) (rest := []) ⟨hx, hb, hml, hown, hts⟩ (c_a_read l dC dI ad cI cJ cZ cR M wl H.size (kA (kS (x) (87) 12 (max (((x).1 (87) 12) - ((1 : Int))) ((0 : Int)))) (94) (max (((x).1 (87) 12) - ((1 : Int))) ((0 : Int))).toNat ((0 : Int)))  (max (((x).1 (87) 12) - ((1 : Int))) ((0 : Int))) (max (((x).1 (87) 12) - ((1 : Int))) ((0 : Int))) hM hG gq.1 gq.2.1 uq.1 uq.2 (by unfold iR; omega) (by unfold iR; omega) (gT_rw gq) (gT_rp gq)) (cwV 4 hts gX0_grow_X3_read rfl rfl rfl (by decide +kernel) ⟨Nat.le_of_ble_eq_true rfl, Nat.le_of_ble_eq_true rfl⟩) ⟨fun a U g mk q => by obtain ⟨q0, q1, qP, qK, qD, qN⟩ := q; exact ⟨q0, q1, qP, va_K.moved (u := U) (U := U.calling g mk a) (Vm.Alike.refl U.vm) qK, qD, kNw.same (u := U) (U := U.calling g mk a) rfl qN⟩, va_recv hK hP (ci := 3) (q0 := 64) rfl (kg64 (by omega)), fun U hU hW => ⟨rfl, by rw [hU], by rw [hU]; exact hP, va_K.moved hW.alike hK, hD.weaken (fun _ _ _ _ => trivial), kNw.warm hW hNw⟩⟩ rfl rfl hl.1 rfl (lv_room (Nat.le_of_ble_eq_true rfl)) dX0_grow_111 ⟨Nat.le_of_ble_eq_true rfl, Nat.le_of_ble_eq_true rfl⟩) hS (fun q _ h => hFc q h) hFc (fun r9 u9 t H1 locs ht hvm hw hB hz1 hk1 hS => ?_)
      obtain ⟨hP1, hK1, hD1⟩ := hB
      rw [ht] at hP1
      obtain ⟨hw1, hw2⟩ := hw
      rw [hw2] at hP1 hD1
      rw [hw1]
      have hD2 := hD1.weaken (B := A) (fun _ q _ h => hFc q.1 h)
      have hP := hP1
      have hD := hD2
      generalize H1 = H at hP hS ⊢
      refine wi_if_lt (tgt := 121) hx hb (F_a_read_R uq.2) dX0_grow_114 (by decide) (fun c_114 => ?_) (fun c_114 => ?_)
      · skip
        rw [if_pos c_114] at hres
        refine lv_iconst (v := iI (0 : Int)) hx hb dX0_grow_121 (by decide) ?_
        exact W.zret (v := iI ((0 : Int))) hx hb hr (kz _ (by first | assumption | omega)) (fun t ht hW => ⟨⟨iI ((0 : Int)), (F_a_read (kA (kS (x) (87) 12 (max (((x).1 (87) 12) - ((1 : Int))) ((0 : Int)))) (94) (max (((x).1 (87) 12) - ((1 : Int))) ((0 : Int))).toNat ((0 : Int))) (max (((x).1 (87) 12) - ((1 : Int))) ((0 : Int))) (max (((x).1 (87) 12) - ((1 : Int))) ((0 : Int)))).2, rfl, ⟨(by have h9 := congrArg (fun z : Int × KS => iI z.1) hres; exact h9), (by have h9 := congrArg (fun z : Int × KS => z.2) hres; exact h9)⟩, by rw [ht]; exact hP, va_K.moved hW.alike hK, hD⟩, hS.F ht⟩) hS.2.2 dX0_grow_122
      · skip
        rw [if_neg c_114] at hres
        refine lv_iconst (v := iI (1 : Int)) hx hb dX0_grow_117 (by decide) ?_
        refine lv_goto (tgt := 122) hx hb dX0_grow_118 (by decide) ?_
        exact W.zret (v := iI ((1 : Int))) hx hb hr (kz _ (by first | assumption | omega)) (fun t ht hW => ⟨⟨iI ((1 : Int)), (F_a_read (kA (kS (x) (87) 12 (max (((x).1 (87) 12) - ((1 : Int))) ((0 : Int)))) (94) (max (((x).1 (87) 12) - ((1 : Int))) ((0 : Int))).toNat ((0 : Int))) (max (((x).1 (87) 12) - ((1 : Int))) ((0 : Int))) (max (((x).1 (87) 12) - ((1 : Int))) ((0 : Int)))).2, rfl, ⟨(by have h9 := congrArg (fun z : Int × KS => iI z.1) hres; exact h9), (by have h9 := congrArg (fun z : Int × KS => z.2) hres; exact h9)⟩, by rw [ht]; exact hP, va_K.moved hW.alike hK, hD⟩, hS.F ht⟩) hS.2.2 dX0_grow_122
    · skip
      rw [if_pos c_9] at hres
      have hb9 := hbw c_9
      refine lv_aload_n hx hb dX0_grow_12 rfl (lv_at hl 0 rfl) ?_
      refine va_get (D := (dC, dI)) (ci := 0) (v := .ref (ad (88))) (C := RX0) (T := TX0) (N := 15) hx hb hts hinX0 hown hK hP (87) (kg87 (by omega)) rfl 2 (by decide) (hts (.fieldLink RX0 24 "LikeWords$Grower" "row" "LLikeWords$Word;") (by decide +kernel)) (fun _ h9 => h9) rfl dX0_grow_13 ?_
      refine lv_aload_n hx hb dX0_grow_16 rfl (lv_at hl 0 rfl) ?_
      refine va_get (D := (dC, dI)) (ci := 0) (v := .ref (ad (90))) (C := RX0) (T := TX0) (N := 15) hx hb hts hinX0 hown hK hP (87) (kg87 (by omega)) rfl 3 (by decide) (hts (.fieldLink RX0 28 "LikeWords$Grower" "behind" "LLikeWords$Word;") (by decide +kernel)) (fun _ h9 => h9) rfl dX0_grow_17 ?_
      have bq := gBq_s ma l2 gw hb9.1 vv.2 uu.1 hb9.2
      have hFc : ∀ q, va_A (kWd cI cJ cZ cR wl ad M (x)) H.size q → A q := fun q hq => Or.elim hq (fun ⟨k, e, hk⟩ => hD.2 k (q, e) hk) (fun hk => hA q (Nat.le_trans hS.1 hk))
      refine va_calli (va_runV (b := ad (90)) (As := []) (rest := [.ref (ad (88))]) ⟨hx, hb, hml, hown, hts⟩ (c_w_dropLast l dC dI ad cI cJ cZ cR M wl H.size (x) (90)  hM rfl (by omega) vv.1 (by show _ ≤ ((60 : Nat) : Int); omega)) (cwV 0 hts gX0_grow_X10_dropLast rfl rfl rfl (by decide +kernel) ⟨Nat.le_of_ble_eq_true rfl, Nat.le_of_ble_eq_true rfl⟩) ⟨fun a U g mk q => by obtain ⟨q0, q1, qP, qK, qD, qN⟩ := q; exact ⟨q0, q1, qP, va_K.moved (u := U) (U := U.calling g mk a) (Vm.Alike.refl U.vm) qK, qD, kNw.same (u := U) (U := U.calling g mk a) rfl qN⟩, va_recv hK hP (ci := 10) (q0 := 90) rfl (kgw rfl (by omega)), fun U hU hW => ⟨rfl, by rw [hU], by rw [hU]; exact hP, va_K.moved hW.alike hK, hD.weaken (fun _ _ _ _ => trivial), kNw.warm hW hNw⟩⟩ rfl rfl hl.1 rfl (lv_room (Nat.le_of_ble_eq_true rfl)) dX0_grow_20 ⟨Nat.le_of_ble_eq_true rfl, Nat.le_of_ble_eq_true rfl⟩) hS (fun q _ h => hFc q h) hFc (fun r9 u9 t H1 locs ht hvm hw hB hz1 hk1 hS => ?_)
      obtain ⟨hP1, hK1, hD1⟩ := hB
      rw [ht] at hP1
      obtain ⟨hw1, hw2⟩ := hw
      rw [hw2] at hP1 hD1
      rw [hw1]
      have hD2 := hD1.weaken (B := A) (fun _ q _ h => hFc q.1 h)
      have hP := hP1
      have hD := hD2
      generalize H1 = H at hP hS ⊢
      have hFc : ∀ q, va_A (kWd cI cJ cZ cR wl ad M ((F_w_dropLast (x) (90)).2)) H.size q → A q := fun q hq => Or.elim hq (fun ⟨k, e, hk⟩ => hD.2 k (q, e) hk) (fun hk => hA q (Nat.le_trans hS.1 hk))
      refine va_calli (va_runV (b := ad (88)) (As := [.int (iI ((F_w_dropLast (x) (90)).1))]) (rest := []) ⟨hx, hb, hml, hown, hts⟩ (c_w_push l dC dI ad cI cJ cZ cR M wl H.size ((F_w_dropLast (x) (90)).2) (88) ((F_w_dropLast (x) (90)).1) hM rfl (by omega) (by rw [bq.1]; show 0 ≤ (kS x 90 1 _).1 88 1; rw [kS_c (by decide)]; exact uu.1) (by rw [bq.1]; show (kS x 90 1 _).1 88 1 ≤ ((60 : Nat) : Int); rw [kS_c (by decide)]; omega)) (cwV 1 hts gX0_grow_X10_push rfl rfl rfl (by decide +kernel) ⟨Nat.le_of_ble_eq_true rfl, Nat.le_of_ble_eq_true rfl⟩) ⟨fun a U g mk q => by obtain ⟨q0, q1, qP, qK, qD, qN⟩ := q; exact ⟨q0, q1, qP, va_K.moved (u := U) (U := U.calling g mk a) (Vm.Alike.refl U.vm) qK, qD, kNw.same (u := U) (U := U.calling g mk a) rfl qN⟩, va_recv hK hP (ci := 10) (q0 := 88) rfl (kgw rfl (by omega)), fun U hU hW => ⟨rfl, by rw [hU], by rw [hU]; exact hP, va_K.moved hW.alike hK, hD.weaken (fun _ _ _ _ => trivial), kNw.warm hW hNw⟩⟩ rfl rfl hl.1 rfl (lv_room (Nat.le_of_ble_eq_true rfl)) dX0_grow_23 ⟨Nat.le_of_ble_eq_true rfl, Nat.le_of_ble_eq_true rfl⟩) hS (fun q _ h => hFc q h) hFc (fun r9 u9 t H1 locs ht hvm hw hB hz1 hk1 hS => ?_)
      obtain ⟨hP1, hK1, hD1⟩ := hB
      rw [ht] at hP1
      obtain ⟨hw1, hw2⟩ := hw
      rw [hw2] at hP1 hD1
      rw [hw1]
      have hD2 := hD1.weaken (B := A) (fun _ q _ h => hFc q.1 h)
      have hP := hP1
      have hD := hD2
      generalize H1 = H at hP hS ⊢
      refine lv_pop hx hb dX0_grow_26 rfl ?_
      refine lv_aload_n hx hb dX0_grow_27 rfl (lv_at hl 0 rfl) ?_
      refine va_get (D := (dC, dI)) (ci := 0) (v := .ref (ad (64))) (C := RX0) (T := TX0) (N := 15) hx hb hts hinX0 hown hK hP (87) (kg87 (by omega)) rfl 1 (by decide) (hts (.fieldLink RX0 15 "LikeWords$Grower" "machine" "LLikeWords$Machine;") (by decide +kernel)) (fun _ h9 => h9) rfl dX0_grow_28 ?_
      refine lv_aload_n hx hb dX0_grow_31 rfl (lv_at hl 0 rfl) ?_
      refine va_get (D := (dC, dI)) (ci := 0) (v := .ref (ad (88))) (C := RX0) (T := TX0) (N := 15) hx hb hts hinX0 hown hK hP (87) (kg87 (by omega)) rfl 2 (by decide) (hts (.fieldLink RX0 24 "LikeWords$Grower" "row" "LLikeWords$Word;") (by decide +kernel)) (fun _ h9 => h9) rfl dX0_grow_32 ?_
      refine lv_aload_n hx hb dX0_grow_35 rfl (lv_at hl 0 rfl) ?_
      refine va_get (D := (dC, dI)) (ci := 0) (v := .ref (ad (94))) (C := RX0) (T := TX0) (N := 15) hx hb hts hinX0 hown hK hP (87) (kg87 (by omega)) rfl 5 (by decide) (hts (.fieldLink RX0 34 "LikeWords$Grower" "places" "[I") (by decide +kernel)) (fun _ h9 => h9) rfl dX0_grow_36 ?_
      refine lv_aload_n hx hb dX0_grow_39 rfl (lv_at hl 0 rfl) ?_
      refine va_get (D := (dC, dI)) (ci := 0) (v := .ref (ad (88))) (C := RX0) (T := TX0) (N := 15) hx hb hts hinX0 hown hK hP (87) (kg87 (by omega)) rfl 2 (by decide) (hts (.fieldLink RX0 24 "LikeWords$Grower" "row" "LLikeWords$Word;") (by decide +kernel)) (fun _ h9 => h9) rfl dX0_grow_40 ?_
      refine va_get (D := (dC, dI)) (ci := 10) (v := .int (iI (((F_w_push ((F_w_dropLast (x) (90)).2) (88) ((F_w_dropLast (x) (90)).1)).2).1 (88) 1))) (C := RX10) (T := TX10) (N := 2) hx hb hts hinX10 hown hK hP (88) (kgw rfl (by omega)) rfl 1 (by decide) (hts (.fieldLink RX0 108 "LikeWords$Word" "used" "I") (by decide +kernel)) (fun _ h9 => h9) rfl dX0_grow_43 ?_
      refine lv_iconst (v := iI (1 : Int)) hx hb dX0_grow_46 (by decide) ?_
      refine wi_isub hx hb dX0_grow_47 ?_
      refine lv_aload_n hx hb dX0_grow_48 rfl (lv_at hl 0 rfl) ?_
      refine va_get (D := (dC, dI)) (ci := 0) (v := .ref (ad (88))) (C := RX0) (T := TX0) (N := 15) hx hb hts hinX0 hown hK hP (87) (kg87 (by omega)) rfl 2 (by decide) (hts (.fieldLink RX0 24 "LikeWords$Grower" "row" "LLikeWords$Word;") (by decide +kernel)) (fun _ h9 => h9) rfl dX0_grow_49 ?_
      refine va_get (D := (dC, dI)) (ci := 10) (v := .int (iI (((F_w_push ((F_w_dropLast (x) (90)).2) (88) ((F_w_dropLast (x) (90)).1)).2).1 (88) 1))) (C := RX10) (T := TX10) (N := 2) hx hb hts hinX10 hown hK hP (88) (kgw rfl (by omega)) rfl 1 (by decide) (hts (.fieldLink RX0 108 "LikeWords$Word" "used" "I") (by decide +kernel)) (fun _ h9 => h9) rfl dX0_grow_52 ?_
      have bt := gBq_t ma l2 gw uu.1 hb9.2 bq.2
      have bt3 := bt.2.2.1
      have bt4 := bt.2.2.2.1
      have hFc : ∀ q, va_A (kWd cI cJ cZ cR wl ad M ((F_w_push ((F_w_dropLast (x) (90)).2) (88) ((F_w_dropLast (x) (90)).1)).2)) H.size q → A q := fun q hq => Or.elim hq (fun ⟨k, e, hk⟩ => hD.2 k (q, e) hk) (fun hk => hA q (Nat.le_trans hS.1 hk))
      refine va_calli (va_runV (b := ad (64)) (As := [.ref (ad (88)), .ref (ad (94)), .int (iI ((((F_w_push ((F_w_dropLast (x) (90)).2) (88) ((F_w_dropLast (x) (90)).1)).2).1 (88) 1) - ((1 : Int)))), .int (iI (((F_w_push ((F_w_dropLast (x) (90)).2) (88) ((F_w_dropLast (x) (90)).1)).2).1 (88) 1))]) (rest := []) ⟨hx, hb, hml, hown, hts⟩ (c_a_read l dC dI ad cI cJ cZ cR M wl H.size ((F_w_push ((F_w_dropLast (x) (90)).2) (88) ((F_w_dropLast (x) (90)).1)).2)  ((((F_w_push ((F_w_dropLast (x) (90)).2) (88) ((F_w_dropLast (x) (90)).1)).2).1 (88) 1) - ((1 : Int))) (((F_w_push ((F_w_dropLast (x) (90)).2) (88) ((F_w_dropLast (x) (90)).1)).2).1 (88) 1) hM hG bt.1 bt.2.1 bt.2.2.1 bt.2.2.2.1 (by unfold iR; omega) (by unfold iR; omega) bt.2.2.2.2.1 bt.2.2.2.2.2) (cwV 4 hts gX0_grow_X3_read rfl rfl rfl (by decide +kernel) ⟨Nat.le_of_ble_eq_true rfl, Nat.le_of_ble_eq_true rfl⟩) ⟨fun a U g mk q => by obtain ⟨q0, q1, qP, qK, qD, qN⟩ := q; exact ⟨q0, q1, qP, va_K.moved (u := U) (U := U.calling g mk a) (Vm.Alike.refl U.vm) qK, qD, kNw.same (u := U) (U := U.calling g mk a) rfl qN⟩, va_recv hK hP (ci := 3) (q0 := 64) rfl (kg64 (by omega)), fun U hU hW => ⟨rfl, by rw [hU], by rw [hU]; exact hP, va_K.moved hW.alike hK, hD.weaken (fun _ _ _ _ => trivial), kNw.warm hW hNw⟩⟩ rfl rfl hl.1 rfl (lv_room (Nat.le_of_ble_eq_true rfl)) dX0_grow_55 ⟨Nat.le_of_ble_eq_true rfl, Nat.le_of_ble_eq_true rfl⟩) hS (fun q _ h => hFc q h) hFc (fun r9 u9 t H1 locs ht hvm hw hB hz1 hk1 hS => ?_)
      obtain ⟨hP1, hK1, hD1⟩ := hB
      rw [ht] at hP1
      obtain ⟨hw1, hw2⟩ := hw
      rw [hw2] at hP1 hD1
      rw [hw1]
      have hD2 := hD1.weaken (B := A) (fun _ q _ h => hFc q.1 h)
      have hP := hP1
      have hD := hD2
      generalize H1 = H at hP hS ⊢
      refine wi_if_lt (tgt := 65) hx hb (F_a_read_R bt.2.2.2.1) dX0_grow_58 (by decide) (fun c_58 => ?_) (fun c_58 => ?_)
      · skip
        rw [if_pos c_58] at hres
        refine lv_iconst (v := iI (0 : Int)) hx hb dX0_grow_65 (by decide) ?_
        exact W.zret (v := iI ((0 : Int))) hx hb hr (kz _ (by first | assumption | omega)) (fun t ht hW => ⟨⟨iI ((0 : Int)), (F_a_read ((F_w_push ((F_w_dropLast (x) (90)).2) (88) ((F_w_dropLast (x) (90)).1)).2) ((((F_w_push ((F_w_dropLast (x) (90)).2) (88) ((F_w_dropLast (x) (90)).1)).2).1 (88) 1) - ((1 : Int))) (((F_w_push ((F_w_dropLast (x) (90)).2) (88) ((F_w_dropLast (x) (90)).1)).2).1 (88) 1)).2, rfl, ⟨(by have h9 := congrArg (fun z : Int × KS => iI z.1) hres; exact h9), (by have h9 := congrArg (fun z : Int × KS => z.2) hres; exact h9)⟩, by rw [ht]; exact hP, va_K.moved hW.alike hK, hD⟩, hS.F ht⟩) hS.2.2 dX0_grow_66
      · skip
        rw [if_neg c_58] at hres
        refine lv_iconst (v := iI (1 : Int)) hx hb dX0_grow_61 (by decide) ?_
        refine lv_goto (tgt := 66) hx hb dX0_grow_62 (by decide) ?_
        exact W.zret (v := iI ((1 : Int))) hx hb hr (kz _ (by first | assumption | omega)) (fun t ht hW => ⟨⟨iI ((1 : Int)), (F_a_read ((F_w_push ((F_w_dropLast (x) (90)).2) (88) ((F_w_dropLast (x) (90)).1)).2) ((((F_w_push ((F_w_dropLast (x) (90)).2) (88) ((F_w_dropLast (x) (90)).1)).2).1 (88) 1) - ((1 : Int))) (((F_w_push ((F_w_dropLast (x) (90)).2) (88) ((F_w_dropLast (x) (90)).1)).2).1 (88) 1)).2, rfl, ⟨(by have h9 := congrArg (fun z : Int × KS => iI z.1) hres; exact h9), (by have h9 := congrArg (fun z : Int × KS => z.2) hres; exact h9)⟩, by rw [ht]; exact hP, va_K.moved hW.alike hK, hD⟩, hS.F ht⟩) hS.2.2 dX0_grow_66
  exact key _ _ hP hS
