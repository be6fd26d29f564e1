-- deps: 30 31 32 33 34 35 36 37 38 39 40 41 42 43 46 70 71 72 73 74 75 76 77 78 79 80 81 82 83 84 85 86 87 88 89 90 91 92 93 94 95 96.c 96.d
theorem gKy_ru {wl : Nat} {x y : KS} {b i : Int} (h : gKy wl x b y i) : ruR y := by
  obtain ⟨x0, src, Ah, P, B, q, K, Z, g, f, e, hk, ei⟩ := h
  exact (mcX_sM (sM_tr g.2.1.1 (sM_of f (by unfold sMs; decide) (by unfold sMa; decide))) g.1).2.1
set_option maxHeartbeats 4000000 in
set_option maxRecDepth 100000 in
/-- LikeWords$Grower, replace -/
theorem c_g_replace (l : Launch) (dC : Nat → ClassId) (dI : Nat → Nat → Nat) (ad : Nat → Nat) (cI cJ cZ cR : ClassId) (M wl sz : Nat) (x : KS) (b9 : Int) (hM : 87 ≤ M) (hG : 106 ≤ M) (gf : gF wl x b9) (b01 : b9 = 0 ∨ b9 = 1) : Met l yX0_replace wsX0_replace ({ frames := 2, cells := 0, slots := 0, locals := 57 }) (kPc dC dI ad cI cJ cZ cR M wl sz x [.ref (ad 87), .int (iI b9)]) (va_Qv (fun u : KS => u = (F_g_replace x b9).2) (kAt dC dI ad cI cJ cZ cR M wl (va_A (kWd cI cJ cZ cR wl ad M (x)) sz)) (va_A (kWd cI cJ cZ cR wl ad M (x)) sz)) 0 0 (va_A (kWd cI cJ cZ cR wl ad M (x)) sz) := by
  refine Met.ofW (cc := cX0_replace) (maxL := 8) (ret := none) (by decide) rfl ?_
  intro p e s m args below meth c s₁ B hml hv
  obtain ⟨rfl, hsz, hP, hK, hD0, hNw⟩ := hv
  have hx := B.exec
  have hb := B.bytes
  have hr := B.returns
  have hts := atoms_spec (ws := wsX0_replace) B.pre
  have hown : s.vm.findClass RX0 = some m.cls := findClass_of_methodNamed B.named
  have hlocks := B.notSynchronized
  have hinX0 : ∀ w ∈ u_ws RX0 TX0 15, w ∈ wsX0_replace := by decide +kernel
  have hinX10 : ∀ w ∈ u_ws RX10 TX10 2, w ∈ wsX0_replace := by decide +kernel
  have hinX2 : ∀ w ∈ u_ws RX2 TX2 7, w ∈ wsX0_replace := by decide +kernel
  have hinX3 : ∀ w ∈ u_ws RX3 TX3 10, w ∈ wsX0_replace := by decide +kernel
  subst hsz
  have hD := hD0.self (sz := s.heap.size)
  generalize hAe : va_A (kWd cI cJ cZ cR wl ad M (x)) s.heap.size = A at hD ⊢
  have hA : ∀ q : Nat, s.heap.size ≤ q → A q := fun q h => by rw [← hAe]; exact Or.inr h
  have hS : va_S A s.heap s.heap [] := va_S.rf
  have hl := lv_entry ([.ref (ad 87), .int (iI b9)]) (n := 8) (Nat.le_of_ble_eq_true rfl)
  rw [lg_entry_eq]
  generalize (lg_sl ([.ref (ad 87), .int (iI b9)]) ++ List.replicate (8 - (lg_sl ([.ref (ad 87), .int (iI b9)])).length) Slot.unset).toArray = ls at hl ⊢
  have hl : lv_has ls 8 [(0, .ref (ad (87))), (1, .int (iI (b9)))] := hl
  have L : ∀ n : Nat, (∀ (y : KS) (i : Int), (gKy wl x b9 y i) → (i ≤ y.1 88 1) → (70 + (y.1 88 1 - i) < n) → F_g_replace_s n 0 y b9 i 0 0 0 = F_g_replace x b9 → ∀ (H : Heap) (locs : List Loc) (ls : Array Slot), va_P (dC, dI) vwCl (kWd cI cJ cZ cR wl ad M (y)) H → va_D A (kWd cI cJ cZ cR wl ad M (y)) → va_S A s.heap H locs → lv_has ls 8 [(0, .ref (ad (87))), (1, .int (iI (b9))), (2, .int (iI (i)))] → W p l e (headSpec wsX0_replace ({ frames := 2, cells := 0, slots := 0, locals := 57 })).room s m ([.ref (ad 87), .int (iI b9)] : List Value).toArray below meth c H locs 0 0 (MQ below (va_Qv (fun u : KS => u = (F_g_replace x b9).2) (kAt dC dI ad cI cJ cZ cR M wl A) A) ([.ref (ad 87), .int (iI b9)] : List Value).toArray s 0 0 A) (F0 m 21 ls [])) ∧ (∀ (y : KS) (h9 : Int) (t9 : Int) (m9 : Int) (v9 : Int), (gVy wl x b9 y m9 v9) → (iRL h9) → (iRL t9) → (v9 ≤ m9 + 1) → (m9 + 1 - v9 < n) → F_g_replace_s n 1 y b9 h9 t9 m9 v9 = F_g_replace x b9 → ∀ (H : Heap) (locs : List Loc) (ls : Array Slot), va_P (dC, dI) vwCl (kWd cI cJ cZ cR wl ad M (y)) H → va_D A (kWd cI cJ cZ cR wl ad M (y)) → va_S A s.heap H locs → lv_has ls 8 [(0, .ref (ad (87))), (1, .int (iI (b9))), (2, .long (iL (h9))), (4, .long (iL (t9))), (6, .int (iI (m9))), (7, .int (iI (v9)))] → W p l e (headSpec wsX0_replace ({ frames := 2, cells := 0, slots := 0, locals := 57 })).room s m ([.ref (ad 87), .int (iI b9)] : List Value).toArray below meth c H locs 0 0 (MQ below (va_Qv (fun u : KS => u = (F_g_replace x b9).2) (kAt dC dI ad cI cJ cZ cR M wl A) A) ([.ref (ad 87), .int (iI b9)] : List Value).toArray s 0 0 A) (F0 m 131 ls [])) := by
    intro n
    induction n with
    | zero =>
      refine ⟨?_, ?_⟩
      · intro y i gk i1 fu hres
        exact absurd fu (by omega)
      · intro y h9 t9 m9 v9 gv rh9 rt9 w1 fu hres
        exact absurd fu (by omega)
    | succ n ih =>
      refine ⟨?_, ?_⟩
      · intro y i gk i1 fu hres H locs ls hP hD hS hl
        rw [F_g_replace_e0] at hres
        have ks := gKy_s gk
        obtain ⟨ma, l2, gw, lv, fm, uu, vv⟩ := id ks.1
        have k7 := ks.2.2.2.2.2.1
        have k8 := ks.2.2.2.2.2.2.1
        have k6 := ks.2.2.2.2.1
        have sp9 := F_u_spanOf_b (x := y) (gKy_ru gk) (y.1 64 8) 1
        refine lv_iload_n hx hb dX0_replace_21 rfl (lv_at hl 2 rfl) ?_
        refine lv_aload_n hx hb dX0_replace_22 rfl (lv_at hl 0 rfl) ?_
        refine va_get (D := (dC, dI)) (ci := 0) (v := .ref (ad (88))) (C := RX0) (T := TX0) (N := 15) hx hb hts hinX0 hown hK hP (87) (kg87 (by omega)) rfl 2 (by decide) (hts (.fieldLink RX0 24 "LikeWords$Grower" "row" "LLikeWords$Word;") (by decide +kernel)) (fun _ h9 => h9) rfl dX0_replace_23 ?_
        refine va_get (D := (dC, dI)) (ci := 10) (v := .int (iI ((y).1 (88) 1))) (C := RX10) (T := TX10) (N := 2) hx hb hts hinX10 hown hK hP (88) (kgw rfl (by omega)) rfl 1 (by decide) (hts (.fieldLink RX0 108 "LikeWords$Word" "used" "I") (by decide +kernel)) (fun _ h9 => h9) rfl dX0_replace_26 ?_
        refine wi_icmp_ge (tgt := 77) hx hb (by first | assumption | (unfold iR; omega) | exact kR01 (by assumption)) (by first | assumption | (unfold iR; omega) | exact kR01 (by assumption)) dX0_replace_29 (by decide) (fun c_29 => ?_) (fun c_29 => ?_)
        · skip
          rw [if_pos c_29] at hres
          refine lv_aload_n hx hb dX0_replace_77 rfl (lv_at hl 0 rfl) ?_
          refine va_get (D := (dC, dI)) (ci := 0) (v := .ref (ad (101))) (C := RX0) (T := TX0) (N := 15) hx hb hts hinX0 hown hK hP (87) (kg87 (by omega)) rfl 14 (by decide) (hts (.fieldLink RX0 61 "LikeWords$Grower" "known" "LLikeWords$Known;") (by decide +kernel)) (fun _ h9 => h9) rfl dX0_replace_78 ?_
          refine va_get (D := (dC, dI)) (ci := 2) (v := .long (iL ((y).1 (101) 5))) (C := RX2) (T := TX2) (N := 7) hx hb hts hinX2 hown hK hP (101) (kg101 (by omega)) rfl 5 (by decide) (hts (.fieldLink RX0 143 "LikeWords$Known" "head" "J") (by decide +kernel)) (fun _ h9 => h9) rfl dX0_replace_81 ?_
          refine lv_lstore_n (lv' := [(2, .long (iL ((y).1 (101) 5))), (0, .ref (ad (87))), (1, .int (iI (b9)))]) hx hb dX0_replace_84 rfl hl (by decide) rfl (fun ls hl => ?_)
          refine lv_aload_n hx hb dX0_replace_85 rfl (lv_at hl 1 rfl) ?_
          refine va_get (D := (dC, dI)) (ci := 0) (v := .ref (ad (101))) (C := RX0) (T := TX0) (N := 15) hx hb hts hinX0 hown hK hP (87) (kg87 (by omega)) rfl 14 (by decide) (hts (.fieldLink RX0 61 "LikeWords$Grower" "known" "LLikeWords$Known;") (by decide +kernel)) (fun _ h9 => h9) rfl dX0_replace_86 ?_
          refine va_get (D := (dC, dI)) (ci := 2) (v := .long (iL ((y).1 (101) 6))) (C := RX2) (T := TX2) (N := 7) hx hb hts hinX2 hown hK hP (101) (kg101 (by omega)) rfl 6 (by decide) (hts (.fieldLink RX0 147 "LikeWords$Known" "tail" "J") (by decide +kernel)) (fun _ h9 => h9) rfl dX0_replace_89 ?_
          refine lv_lstore (lv' := [(4, .long (iL ((y).1 (101) 6))), (2, .long (iL ((y).1 (101) 5))), (0, .ref (ad (87))), (1, .int (iI (b9)))]) hx hb dX0_replace_92 hl (by decide) rfl (fun ls hl => ?_)
          refine lv_aload_n hx hb dX0_replace_94 rfl (lv_at hl 2 rfl) ?_
          refine va_get (D := (dC, dI)) (ci := 0) (v := .ref (ad (88))) (C := RX0) (T := TX0) (N := 15) hx hb hts hinX0 hown hK hP (87) (kg87 (by omega)) rfl 2 (by decide) (hts (.fieldLink RX0 24 "LikeWords$Grower" "row" "LLikeWords$Word;") (by decide +kernel)) (fun _ h9 => h9) rfl dX0_replace_95 ?_
          refine va_get (D := (dC, dI)) (ci := 10) (v := .int (iI ((y).1 (88) 1))) (C := RX10) (T := TX10) (N := 2) hx hb hts hinX10 hown hK hP (88) (kgw rfl (by omega)) rfl 1 (by decide) (hts (.fieldLink RX0 108 "LikeWords$Word" "used" "I") (by decide +kernel)) (fun _ h9 => h9) rfl dX0_replace_98 ?_
          refine lv_aload_n hx hb dX0_replace_101 rfl (lv_at hl 2 rfl) ?_
          refine va_get (D := (dC, dI)) (ci := 0) (v := .int (iI ((y).1 (87) 12))) (C := RX0) (T := TX0) (N := 15) hx hb hts hinX0 hown hK hP (87) (kg87 (by omega)) rfl 12 (by decide) (hts (.fieldLink RX0 68 "LikeWords$Grower" "from" "I") (by decide +kernel)) (fun _ h9 => h9) rfl dX0_replace_102 ?_
          refine wi_isub hx hb dX0_replace_105 ?_
          refine lv_aload_n hx hb dX0_replace_106 rfl (lv_at hl 2 rfl) ?_
          refine va_get (D := (dC, dI)) (ci := 0) (v := .ref (ad (58))) (C := RX0) (T := TX0) (N := 15) hx hb hts hinX0 hown hK hP (87) (kg87 (by omega)) rfl 0 (by decide) (hts (.fieldLink RX0 9 "LikeWords$Grower" "rules" "LLikeWords$Rules;") (by decide +kernel)) (fun _ h9 => h9) rfl dX0_replace_107 ?_
          refine lv_aload_n hx hb dX0_replace_110 rfl (lv_at hl 2 rfl) ?_
          refine va_get (D := (dC, dI)) (ci := 0) (v := .ref (ad (64))) (C := RX0) (T := TX0) (N := 15) hx hb hts hinX0 hown hK hP (87) (kg87 (by omega)) rfl 1 (by decide) (hts (.fieldLink RX0 15 "LikeWords$Grower" "machine" "LLikeWords$Machine;") (by decide +kernel)) (fun _ h9 => h9) rfl dX0_replace_111 ?_
          refine va_get (D := (dC, dI)) (ci := 3) (v := .int (iI ((y).1 (64) 8))) (C := RX3) (T := TX3) (N := 10) hx hb hts hinX3 hown hK hP (64) (kg64 (by omega)) rfl 8 (by decide) (hts (.fieldLink RX0 150 "LikeWords$Machine" "met" "I") (by decide +kernel)) (fun _ h9 => h9) rfl dX0_replace_114 ?_
          refine lv_iconst (v := iI (1 : Int)) hx hb dX0_replace_117 (by decide) ?_
          have hFc : ∀ q, va_A (kWd cI cJ cZ cR wl ad M (y)) H.size q → A q := fun q hq => Or.elim hq (fun ⟨k, e, hk⟩ => hD.2 k (q, e) hk) (fun hk => hA q (Nat.le_trans hS.1 hk))
          refine va_calli (va_runV (b := ad (58)) (As := [.int (iI ((y).1 (64) 8)), .int (iI ((1 : Int)))]) (rest := [.int (iI (((y).1 (88) 1) - ((y).1 (87) 12)))]) ⟨hx, hb, hml, hown, hts⟩ (c_u_spanOf l dC dI ad cI cJ cZ cR M wl H.size (y)  ((y).1 (64) 8) ((1 : Int)) hM (by unfold iR; omega) (Or.inr rfl)) (cwV 2 hts gX0_replace_X7_spanOf rfl rfl rfl (by decide +kernel) ⟨Nat.le_of_ble_eq_true rfl, Nat.le_of_ble_eq_true rfl⟩) ⟨fun a U g mk q => by obtain ⟨q0, q1, qP, qK, qD, qN⟩ := q; exact ⟨q0, q1, qP, va_K.moved (u := U) (U := U.calling g mk a) (Vm.Alike.refl U.vm) qK, qD, kNw.same (u := U) (U := U.calling g mk a) rfl qN⟩, va_recv hK hP (ci := 7) (q0 := 58) rfl (kg58 (by omega)), fun U hU hW => ⟨rfl, by rw [hU], by rw [hU]; exact hP, va_K.moved hW.alike hK, hD.weaken (fun _ _ _ _ => trivial), kNw.warm hW hNw⟩⟩ rfl rfl hl.1 rfl (lv_room (Nat.le_of_ble_eq_true rfl)) dX0_replace_118 ⟨Nat.le_of_ble_eq_true rfl, Nat.le_of_ble_eq_true rfl⟩) hS (fun q _ h => hFc q h) hFc (fun r9 u9 t H1 locs ht hvm hw hB hz1 hk1 hS => ?_)
          obtain ⟨hP1, hK1, hD1⟩ := hB
          rw [ht] at hP1
          obtain ⟨hw1, hw2⟩ := hw
          rw [hw2] at hP1 hD1
          rw [hw1]
          rw [F_u_spanOf_2] at hP1 hD1
          have hD2 := hD1.weaken (B := A) (fun _ q _ h => hFc q.1 h)
          have hP := hP1
          have hD := hD2
          generalize H1 = H at hP hS ⊢
          refine wi_isub hx hb dX0_replace_121 ?_
          refine lv_iconst (v := iI (0 : Int)) hx hb dX0_replace_122 (by decide) ?_
          refine va_mmax hx hb (by rw [hml]; exact hl.1.symm) hown (hts (.methodLink RX0 129 Lib.Math.max.name) (by decide +kernel)) (hts (.static Lib.Math.max.name) (by decide +kernel)) (hts (.initialized "java/lang/Math") (by decide +kernel)) (hts (.code Lib.Math.max.name Lib.Math.max.code 2 (some .int)) (by decide +kernel)) (Nat.le_of_ble_eq_true rfl) (Nat.le_of_ble_eq_true rfl) (Nat.le_of_ble_eq_true rfl) (Nat.le_of_ble_eq_true rfl) dX0_replace_123 ?_
          rw [iI_max (by first | assumption | (unfold iR; omega) | exact kR01 (by assumption)) ⟨by decide, by decide⟩]
          refine lv_istore (lv' := [(6, .int (iI (max ((((y).1 (88) 1) - ((y).1 (87) 12)) - ((F_u_spanOf (y) ((y).1 (64) 8) ((1 : Int))).1)) ((0 : Int))))), (4, .long (iL ((y).1 (101) 6))), (2, .long (iL ((y).1 (101) 5))), (0, .ref (ad (87))), (1, .int (iI (b9)))]) hx hb dX0_replace_126 hl (by decide) rfl (fun ls hl => ?_)
          refine lv_iconst (v := iI (0 : Int)) hx hb dX0_replace_128 (by decide) ?_
          refine lv_istore (lv' := [(7, .int (iI ((0 : Int)))), (6, .int (iI (max ((((y).1 (88) 1) - ((y).1 (87) 12)) - ((F_u_spanOf (y) ((y).1 (64) 8) ((1 : Int))).1)) ((0 : Int))))), (4, .long (iL ((y).1 (101) 6))), (2, .long (iL ((y).1 (101) 5))), (0, .ref (ad (87))), (1, .int (iI (b9)))]) hx hb dX0_replace_129 hl (by decide) rfl (fun ls hl => ?_)
          exact ih.2 (y) ((y).1 (101) 5) ((y).1 (101) 6) (max ((((y).1 (88) 1) - ((y).1 (87) 12)) - ((F_u_spanOf (y) ((y).1 (64) 8) ((1 : Int))).1)) ((0 : Int))) ((0 : Int)) ((gKy_end gk (by omega))) (ks.2.2.1) (ks.2.2.2.1) ((by omega)) ((by have h9 := (gVy_s (gKy_end gk (by omega))).2.2.2.2.2.1; omega)) hres _ _ ls hP hD hS (lv_sub hl [4, 5, 3, 2, 1, 0] rfl)
        · skip
          rw [if_neg c_29] at hres
          refine lv_aload_n hx hb dX0_replace_32 rfl (lv_at hl 0 rfl) ?_
          refine va_get (D := (dC, dI)) (ci := 0) (v := .ref (ad (101))) (C := RX0) (T := TX0) (N := 15) hx hb hts hinX0 hown hK hP (87) (kg87 (by omega)) rfl 14 (by decide) (hts (.fieldLink RX0 61 "LikeWords$Grower" "known" "LLikeWords$Known;") (by decide +kernel)) (fun _ h9 => h9) rfl dX0_replace_33 ?_
          refine lv_aload_n hx hb dX0_replace_36 rfl (lv_at hl 0 rfl) ?_
          refine va_get (D := (dC, dI)) (ci := 0) (v := .ref (ad (88))) (C := RX0) (T := TX0) (N := 15) hx hb hts hinX0 hown hK hP (87) (kg87 (by omega)) rfl 2 (by decide) (hts (.fieldLink RX0 24 "LikeWords$Grower" "row" "LLikeWords$Word;") (by decide +kernel)) (fun _ h9 => h9) rfl dX0_replace_37 ?_
          refine va_get (D := (dC, dI)) (ci := 10) (v := .ref (ad (89))) (C := RX10) (T := TX10) (N := 2) hx hb hts hinX10 hown hK hP (88) (kgw rfl (by omega)) rfl 0 (by decide) (hts (.fieldLink RX0 138 "LikeWords$Word" "signs" "[I") (by decide +kernel)) (fun _ h9 => h9) rfl dX0_replace_40 ?_
          refine lv_iload_n hx hb dX0_replace_43 rfl (lv_at hl 1 rfl) ?_
          refine wi_if_eq (tgt := 51) hx hb (by first | assumption | (unfold iR; omega) | exact kR01 (by assumption)) dX0_replace_44 (by decide) (fun c_44 => ?_) (fun c_44 => ?_)
          · skip
            rw [if_pos c_44] at hres
            refine lv_aload_n hx hb dX0_replace_51 rfl (lv_at hl 0 rfl) ?_
            refine va_get (D := (dC, dI)) (ci := 0) (v := .ref (ad (88))) (C := RX0) (T := TX0) (N := 15) hx hb hts hinX0 hown hK hP (87) (kg87 (by omega)) rfl 2 (by decide) (hts (.fieldLink RX0 24 "LikeWords$Grower" "row" "LLikeWords$Word;") (by decide +kernel)) (fun _ h9 => h9) rfl dX0_replace_52 ?_
            refine va_get (D := (dC, dI)) (ci := 10) (v := .int (iI ((y).1 (88) 1))) (C := RX10) (T := TX10) (N := 2) hx hb hts hinX10 hown hK hP (88) (kgw rfl (by omega)) rfl 1 (by decide) (hts (.fieldLink RX0 108 "LikeWords$Word" "used" "I") (by decide +kernel)) (fun _ h9 => h9) rfl dX0_replace_55 ?_
            refine lv_iconst (v := iI (1 : Int)) hx hb dX0_replace_58 (by decide) ?_
            refine wi_isub hx hb dX0_replace_59 ?_
            refine lv_iload_n hx hb dX0_replace_60 rfl (lv_at hl 2 rfl) ?_
            refine lv_aload_n hx hb dX0_replace_61 rfl (lv_at hl 0 rfl) ?_
            refine va_get (D := (dC, dI)) (ci := 0) (v := .int (iI ((y).1 (87) 12))) (C := RX0) (T := TX0) (N := 15) hx hb hts hinX0 hown hK hP (87) (kg87 (by omega)) rfl 12 (by decide) (hts (.fieldLink RX0 68 "LikeWords$Grower" "from" "I") (by decide +kernel)) (fun _ h9 => h9) rfl dX0_replace_62 ?_
            refine wi_isub hx hb dX0_replace_65 ?_
            refine wi_isub hx hb dX0_replace_66 ?_
            have rl9 := gw.1 ((((y).1 (88) 1) - ((1 : Int))) - ((i) - ((y).1 (87) 12))).toNat
            refine wi_iald (f := (y).2 (89)) (n := kLen (89)) hx hb hK hP (89) 0 (kgi (kI_row (c := 88) rfl) (by omega) rfl) rfl (i := (((y).1 (88) 1) - ((1 : Int))) - ((i) - ((y).1 (87) 12))) (by omega) (by show _ < ((60 : Nat) : Int); exact (by omega)) (kLen_lt _) dX0_replace_67 ?_
            have hFc : ∀ q, va_A (kWd cI cJ cZ cR wl ad M (y)) H.size q → A q := fun q hq => Or.elim hq (fun ⟨k, e, hk⟩ => hD.2 k (q, e) hk) (fun hk => hA q (Nat.le_trans hS.1 hk))
            refine va_callv (va_runV (b := ad (101)) (As := [.int (iI (((y).2 (89)) ((((y).1 (88) 1) - ((1 : Int))) - ((i) - ((y).1 (87) 12))).toNat))]) (rest := []) ⟨hx, hb, hml, hown, hts⟩ (c_k_push l dC dI ad cI cJ cZ cR M wl H.size (y)  (((y).2 (89)) ((((y).1 (88) 1) - ((1 : Int))) - ((i) - ((y).1 (87) 12))).toNat) hM hG ks.2.2.1 (by unfold iR; omega)) (cwV 1 hts gX0_replace_X2_push rfl rfl rfl (by decide +kernel) ⟨Nat.le_of_ble_eq_true rfl, Nat.le_of_ble_eq_true rfl⟩) ⟨fun a U g mk q => by obtain ⟨q0, q1, qP, qK, qD, qN⟩ := q; exact ⟨q0, q1, qP, va_K.moved (u := U) (U := U.calling g mk a) (Vm.Alike.refl U.vm) qK, qD, kNw.same (u := U) (U := U.calling g mk a) rfl qN⟩, va_recv hK hP (ci := 2) (q0 := 101) rfl (kg101 (by omega)), fun U hU hW => ⟨rfl, by rw [hU], by rw [hU]; exact hP, va_K.moved hW.alike hK, hD.weaken (fun _ _ _ _ => trivial), kNw.warm hW hNw⟩⟩ rfl rfl hl.1 rfl (lv_room (Nat.le_of_ble_eq_true rfl)) dX0_replace_68 ⟨Nat.le_of_ble_eq_true rfl, Nat.le_of_ble_eq_true rfl⟩) hS (fun q _ h => hFc q h) hFc (fun u9 t H1 locs ht hvm hw hB hz1 hk1 hS => ?_)
            obtain ⟨hP1, hK1, hD1⟩ := hB
            rw [ht] at hP1
            rw [hw] at hP1 hD1
            have hD2 := hD1.weaken (B := A) (fun _ q _ h => hFc q.1 h)
            have hP := hP1
            have hD := hD2
            generalize H1 = H at hP hS ⊢
            refine lv_iinc (v := iI ((i) + (1 : Int))) (lv' := [(2, .int (iI ((i) + (1 : Int)))), (0, .ref (ad (87))), (1, .int (iI (b9)))]) hx hb dX0_replace_71 hl (k := 2) rfl (iI_add _ _) (by decide) rfl (fun ls hl => ?_)
            refine lv_goto (tgt := 21) hx hb dX0_replace_74 (by decide) ?_
            exact ih.1 ((F_k_push (y) (((y).2 (89)) ((((y).1 (88) 1) - ((1 : Int))) - ((i) - ((y).1 (87) 12))).toNat)).2) ((i) + (1 : Int)) ((by first | exact (gKy_push gk c_29).1 c_44 | exact (gKy_push gk c_29).2 c_44)) ((by rw [(F_k_push_fr2 _ _).1 88 1 (by decide)]; omega)) ((by rw [(F_k_push_fr2 _ _).1 88 1 (by decide)]; omega)) hres _ _ ls hP hD hS (lv_sub hl [1, 2, 0] rfl)
          · skip
            rw [if_neg c_44] at hres
            refine lv_iload_n hx hb dX0_replace_47 rfl (lv_at hl 2 rfl) ?_
            refine lv_goto (tgt := 67) hx hb dX0_replace_48 (by decide) ?_
            have rl9 := gw.1 (i).toNat
            refine wi_iald (f := (y).2 (89)) (n := kLen (89)) hx hb hK hP (89) 0 (kgi (kI_row (c := 88) rfl) (by omega) rfl) rfl (i := i) (by omega) (by show _ < ((60 : Nat) : Int); exact (by omega)) (kLen_lt _) dX0_replace_67 ?_
            have hFc : ∀ q, va_A (kWd cI cJ cZ cR wl ad M (y)) H.size q → A q := fun q hq => Or.elim hq (fun ⟨k, e, hk⟩ => hD.2 k (q, e) hk) (fun hk => hA q (Nat.le_trans hS.1 hk))
            refine va_callv (va_runV (b := ad (101)) (As := [.int (iI (((y).2 (89)) (i).toNat))]) (rest := []) ⟨hx, hb, hml, hown, hts⟩ (c_k_push l dC dI ad cI cJ cZ cR M wl H.size (y)  (((y).2 (89)) (i).toNat) hM hG ks.2.2.1 (by unfold iR; omega)) (cwV 1 hts gX0_replace_X2_push rfl rfl rfl (by decide +kernel) ⟨Nat.le_of_ble_eq_true rfl, Nat.le_of_ble_eq_true rfl⟩) ⟨fun a U g mk q => by obtain ⟨q0, q1, qP, qK, qD, qN⟩ := q; exact ⟨q0, q1, qP, va_K.moved (u := U) (U := U.calling g mk a) (Vm.Alike.refl U.vm) qK, qD, kNw.same (u := U) (U := U.calling g mk a) rfl qN⟩, va_recv hK hP (ci := 2) (q0 := 101) rfl (kg101 (by omega)), fun U hU hW => ⟨rfl, by rw [hU], by rw [hU]; exact hP, va_K.moved hW.alike hK, hD.weaken (fun _ _ _ _ => trivial), kNw.warm hW hNw⟩⟩ rfl rfl hl.1 rfl (lv_room (Nat.le_of_ble_eq_true rfl)) dX0_replace_68 ⟨Nat.le_of_ble_eq_true rfl, Nat.le_of_ble_eq_true rfl⟩) hS (fun q _ h => hFc q h) hFc (fun u9 t H1 locs ht hvm hw hB hz1 hk1 hS => ?_)
            obtain ⟨hP1, hK1, hD1⟩ := hB
            rw [ht] at hP1
            rw [hw] at hP1 hD1
            have hD2 := hD1.weaken (B := A) (fun _ q _ h => hFc q.1 h)
            have hP := hP1
            have hD := hD2
            generalize H1 = H at hP hS ⊢
            refine lv_iinc (v := iI ((i) + (1 : Int))) (lv' := [(2, .int (iI ((i) + (1 : Int)))), (0, .ref (ad (87))), (1, .int (iI (b9)))]) hx hb dX0_replace_71 hl (k := 2) rfl (iI_add _ _) (by decide) rfl (fun ls hl => ?_)
            refine lv_goto (tgt := 21) hx hb dX0_replace_74 (by decide) ?_
            exact ih.1 ((F_k_push (y) (((y).2 (89)) (i).toNat)).2) ((i) + (1 : Int)) ((by first | exact (gKy_push gk c_29).1 c_44 | exact (gKy_push gk c_29).2 c_44)) ((by rw [(F_k_push_fr2 _ _).1 88 1 (by decide)]; omega)) ((by rw [(F_k_push_fr2 _ _).1 88 1 (by decide)]; omega)) hres _ _ ls hP hD hS (lv_sub hl [1, 2, 0] rfl)
      · intro y h9 t9 m9 v9 gv rh9 rt9 w1 fu hres H locs ls hP hD hS hl
        rw [F_g_replace_e1] at hres
        have vs := gVy_s gv
        have k5 := vs.2.2.2.2.1
        have k6 := vs.2.2.2.2.2.1
        have k7 := vs.2.2.2.2.2.2.1
        refine lv_iload hx hb dX0_replace_131 (lv_at hl 5 rfl) ?_
        refine lv_iload hx hb dX0_replace_133 (lv_at hl 4 rfl) ?_
        refine wi_icmp_gt (tgt := 165) hx hb (by first | assumption | (unfold iR; omega) | exact kR01 (by assumption)) (by first | assumption | (unfold iR; omega) | exact kR01 (by assumption)) dX0_replace_135 (by decide) (fun c_135 => ?_) (fun c_135 => ?_)
        · skip
          rw [if_pos c_135] at hres
          refine lv_iload hx hb dX0_replace_165 (lv_at hl 5 rfl) ?_
          refine lv_iload hx hb dX0_replace_167 (lv_at hl 4 rfl) ?_
          refine wi_icmp_le (tgt := 198) hx hb (by first | assumption | (unfold iR; omega) | exact kR01 (by assumption)) (by first | assumption | (unfold iR; omega) | exact kR01 (by assumption)) dX0_replace_169 (by decide) (fun c_169 => ?_) (fun c_169 => ?_)
          · skip
            rw [if_pos c_169] at hres
            refine lv_iload_n hx hb dX0_replace_198 rfl (lv_at hl 1 rfl) ?_
            refine wi_if_eq (tgt := 214) hx hb (by first | assumption | (unfold iR; omega) | exact kR01 (by assumption)) dX0_replace_199 (by decide) (fun c_199 => ?_) (fun c_199 => ?_)
            · skip
              rw [if_pos c_199] at hres
              refine lv_aload_n hx hb dX0_replace_214 rfl (lv_at hl 0 rfl) ?_
              refine lv_iload hx hb dX0_replace_215 (lv_at hl 5 rfl) ?_
              refine lv_lload_n hx hb dX0_replace_217 rfl (lv_at hl 2 rfl) ?_
              refine lv_lload hx hb dX0_replace_218 (lv_at hl 3 rfl) ?_
              have hFc : ∀ q, va_A (kWd cI cJ cZ cR wl ad M (y)) H.size q → A q := fun q hq => Or.elim hq (fun ⟨k, e, hk⟩ => hD.2 k (q, e) hk) (fun hk => hA q (Nat.le_trans hS.1 hk))
              refine va_callv (va_runV (b := ad (87)) (As := [.int (iI (v9)), .long (iL (h9)), .long (iL (t9))]) (rest := []) ⟨hx, hb, hml, hown, hts⟩ (c_g_replaceLast l dC dI ad cI cJ cZ cR M wl H.size (y)  (v9) (h9) (t9) hM hG (by exfalso; omega) (by exfalso; omega) (by exfalso; omega) (by exfalso; omega) (by exfalso; omega) (by exfalso; omega) (by exfalso; omega)) (cwV 3 hts gX0_replace_X0_replaceLast rfl rfl rfl (by decide +kernel) ⟨Nat.le_of_ble_eq_true rfl, Nat.le_of_ble_eq_true rfl⟩) ⟨fun a U g mk q => by obtain ⟨q0, q1, qP, qK, qD, qN⟩ := q; exact ⟨q0, q1, qP, va_K.moved (u := U) (U := U.calling g mk a) (Vm.Alike.refl U.vm) qK, qD, kNw.same (u := U) (U := U.calling g mk a) rfl qN⟩, va_recv hK hP (ci := 0) (q0 := 87) rfl (kg87 (by omega)), fun U hU hW => ⟨rfl, by rw [hU], by rw [hU]; exact hP, va_K.moved hW.alike hK, hD.weaken (fun _ _ _ _ => trivial), kNw.warm hW hNw⟩⟩ rfl rfl hl.1 rfl (lv_room (Nat.le_of_ble_eq_true rfl)) dX0_replace_220 ⟨Nat.le_of_ble_eq_true rfl, Nat.le_of_ble_eq_true rfl⟩) hS (fun q _ h => hFc q h) hFc (fun u9 t H1 locs ht hvm hw hB hz1 hk1 hS => ?_)
              obtain ⟨hP1, hK1, hD1⟩ := hB
              rw [ht] at hP1
              rw [hw] at hP1 hD1
              have hD2 := hD1.weaken (B := A) (fun _ q _ h => hFc q.1 h)
              have hP := hP1
              have hD := hD2
              generalize H1 = H at hP hS ⊢
              exact W.vret hx hb hr (fun t ht hW => ⟨⟨(F_g_replaceLast (y) (v9) (h9) (t9)).2, rfl, (by have h9 := congrArg (fun z : Int × KS => z.2) hres; exact h9), by rw [ht]; exact hP, va_K.moved hW.alike hK, hD⟩, hS.F ht⟩) hS.2.2 dX0_replace_223
            · skip
              rw [if_neg c_199] at hres
              refine lv_aload_n hx hb dX0_replace_202 rfl (lv_at hl 0 rfl) ?_
              refine lv_iload hx hb dX0_replace_203 (lv_at hl 5 rfl) ?_
              refine lv_lload_n hx hb dX0_replace_205 rfl (lv_at hl 2 rfl) ?_
              refine lv_lload hx hb dX0_replace_206 (lv_at hl 3 rfl) ?_
              have hFc : ∀ q, va_A (kWd cI cJ cZ cR wl ad M (y)) H.size q → A q := fun q hq => Or.elim hq (fun ⟨k, e, hk⟩ => hD.2 k (q, e) hk) (fun hk => hA q (Nat.le_trans hS.1 hk))
              refine va_callv (va_runV (b := ad (87)) (As := [.int (iI (v9)), .long (iL (h9)), .long (iL (t9))]) (rest := []) ⟨hx, hb, hml, hown, hts⟩ (c_g_replaceFirst l dC dI ad cI cJ cZ cR M wl H.size (y)  (v9) (h9) (t9) hM hG (by exfalso; omega) (by exfalso; omega) (by exfalso; omega) (by exfalso; omega) (by exfalso; omega) (by exfalso; omega) (by exfalso; omega)) (cwV 3 hts gX0_replace_X0_replaceFirst rfl rfl rfl (by decide +kernel) ⟨Nat.le_of_ble_eq_true rfl, Nat.le_of_ble_eq_true rfl⟩) ⟨fun a U g mk q => by obtain ⟨q0, q1, qP, qK, qD, qN⟩ := q; exact ⟨q0, q1, qP, va_K.moved (u := U) (U := U.calling g mk a) (Vm.Alike.refl U.vm) qK, qD, kNw.same (u := U) (U := U.calling g mk a) rfl qN⟩, va_recv hK hP (ci := 0) (q0 := 87) rfl (kg87 (by omega)), fun U hU hW => ⟨rfl, by rw [hU], by rw [hU]; exact hP, va_K.moved hW.alike hK, hD.weaken (fun _ _ _ _ => trivial), kNw.warm hW hNw⟩⟩ rfl rfl hl.1 rfl (lv_room (Nat.le_of_ble_eq_true rfl)) dX0_replace_208 ⟨Nat.le_of_ble_eq_true rfl, Nat.le_of_ble_eq_true rfl⟩) hS (fun q _ h => hFc q h) hFc (fun u9 t H1 locs ht hvm hw hB hz1 hk1 hS => ?_)
              obtain ⟨hP1, hK1, hD1⟩ := hB
              rw [ht] at hP1
              rw [hw] at hP1 hD1
              have hD2 := hD1.weaken (B := A) (fun _ q _ h => hFc q.1 h)
              have hP := hP1
              have hD := hD2
              generalize H1 = H at hP hS ⊢
              refine lv_goto (tgt := 223) hx hb dX0_replace_211 (by decide) ?_
              exact W.vret hx hb hr (fun t ht hW => ⟨⟨(F_g_replaceFirst (y) (v9) (h9) (t9)).2, rfl, (by have h9 := congrArg (fun z : Int × KS => z.2) hres; exact h9), by rw [ht]; exact hP, va_K.moved hW.alike hK, hD⟩, hS.F ht⟩) hS.2.2 dX0_replace_223
          · skip
            rw [if_neg c_169] at hres
            refine lv_iload hx hb dX0_replace_172 (lv_at hl 4 rfl) ?_
            refine lv_istore (lv' := [(7, .int (iI (m9))), (0, .ref (ad (87))), (1, .int (iI (b9))), (2, .long (iL (h9))), (4, .long (iL (t9))), (6, .int (iI (m9)))]) hx hb dX0_replace_174 hl (by decide) rfl (fun ls hl => ?_)
            refine lv_aload_n hx hb dX0_replace_176 rfl (lv_at hl 1 rfl) ?_
            refine va_get (D := (dC, dI)) (ci := 0) (v := .ref (ad (92))) (C := RX0) (T := TX0) (N := 15) hx hb hts hinX0 hown hK hP (87) (kg87 (by omega)) rfl 4 (by decide) (hts (.fieldLink RX0 31 "LikeWords$Grower" "end" "LLikeWords$Word;") (by decide +kernel)) (fun _ h9 => h9) rfl dX0_replace_177 ?_
            refine lv_aload_n hx hb dX0_replace_180 rfl (lv_at hl 1 rfl) ?_
            refine va_get (D := (dC, dI)) (ci := 0) (v := .ref (ad (58))) (C := RX0) (T := TX0) (N := 15) hx hb hts hinX0 hown hK hP (87) (kg87 (by omega)) rfl 0 (by decide) (hts (.fieldLink RX0 9 "LikeWords$Grower" "rules" "LLikeWords$Rules;") (by decide +kernel)) (fun _ h9 => h9) rfl dX0_replace_181 ?_
            refine lv_aload_n hx hb dX0_replace_184 rfl (lv_at hl 1 rfl) ?_
            refine va_get (D := (dC, dI)) (ci := 0) (v := .ref (ad (64))) (C := RX0) (T := TX0) (N := 15) hx hb hts hinX0 hown hK hP (87) (kg87 (by omega)) rfl 1 (by decide) (hts (.fieldLink RX0 15 "LikeWords$Grower" "machine" "LLikeWords$Machine;") (by decide +kernel)) (fun _ h9 => h9) rfl dX0_replace_185 ?_
            refine va_get (D := (dC, dI)) (ci := 3) (v := .int (iI ((y).1 (64) 8))) (C := RX3) (T := TX3) (N := 10) hx hb hts hinX3 hown hK hP (64) (kg64 (by omega)) rfl 8 (by decide) (hts (.fieldLink RX0 150 "LikeWords$Machine" "met" "I") (by decide +kernel)) (fun _ h9 => h9) rfl dX0_replace_188 ?_
            have hFc : ∀ q, va_A (kWd cI cJ cZ cR wl ad M (y)) H.size q → A q := fun q hq => Or.elim hq (fun ⟨k, e, hk⟩ => hD.2 k (q, e) hk) (fun hk => hA q (Nat.le_trans hS.1 hk))
            refine va_calll (va_runV (b := ad (58)) (As := [.int (iI ((y).1 (64) 8))]) (rest := [.ref (ad (92))]) ⟨hx, hb, hml, hown, hts⟩ (c_u_packedRight l dC dI ad cI cJ cZ cR M wl H.size (y)  ((y).1 (64) 8) hM (by unfold iR; first | omega | (rw [(F_k_find_fr y).1 64 8 (by decide)]; omega))) (cwV 1 hts gX0_replace_X7_packedRight rfl rfl rfl (by decide +kernel) ⟨Nat.le_of_ble_eq_true rfl, Nat.le_of_ble_eq_true rfl⟩) ⟨fun a U g mk q => by obtain ⟨q0, q1, qP, qK, qD, qN⟩ := q; exact ⟨q0, q1, qP, va_K.moved (u := U) (U := U.calling g mk a) (Vm.Alike.refl U.vm) qK, qD, kNw.same (u := U) (U := U.calling g mk a) rfl qN⟩, va_recv hK hP (ci := 7) (q0 := 58) rfl (kg58 (by omega)), fun U hU hW => ⟨rfl, by rw [hU], by rw [hU]; exact hP, va_K.moved hW.alike hK, hD.weaken (fun _ _ _ _ => trivial), kNw.warm hW hNw⟩⟩ rfl rfl hl.1 rfl (lv_room (Nat.le_of_ble_eq_true rfl)) dX0_replace_191 ⟨Nat.le_of_ble_eq_true rfl, Nat.le_of_ble_eq_true rfl⟩) hS (fun q _ h => hFc q h) hFc (fun r9 u9 t H1 locs ht hvm hw hB hz1 hk1 hS => ?_)
            obtain ⟨hP1, hK1, hD1⟩ := hB
            rw [ht] at hP1
            obtain ⟨hw1, hw2⟩ := hw
            rw [hw2] at hP1 hD1
            rw [hw1]
            rw [F_u_packedRight_2] at hP1 hD1
            have hD2 := hD1.weaken (B := A) (fun _ q _ h => hFc q.1 h)
            have hP := hP1
            have hD := hD2
            generalize H1 = H at hP hS ⊢
            refine lv_lconst (v := iL 1) hx hb dX0_replace_194 (by decide) ?_
            have hFc : ∀ q, va_A (kWd cI cJ cZ cR wl ad M (y)) H.size q → A q := fun q hq => Or.elim hq (fun ⟨k, e, hk⟩ => hD.2 k (q, e) hk) (fun hk => hA q (Nat.le_trans hS.1 hk))
            refine va_callv (va_runV (b := ad (92)) (As := [.long (iL ((F_u_packedRight (y) ((y).1 (64) 8)).1)), .long (iL ((1 : Int)))]) (rest := []) ⟨hx, hb, hml, hown, hts⟩ (c_w_unpack l dC dI ad cI cJ cZ cR M wl H.size (y) (92) ((F_u_packedRight (y) ((y).1 (64) 8)).1) ((1 : Int)) hM rfl (by omega) (F_u_packedRight_RL _ _) ⟨by decide, by decide⟩) (cwV 2 hts gX0_replace_X10_unpack rfl rfl rfl (by decide +kernel) ⟨Nat.le_of_ble_eq_true rfl, Nat.le_of_ble_eq_true rfl⟩) ⟨fun a U g mk q => by obtain ⟨q0, q1, qP, qK, qD, qN⟩ := q; exact ⟨q0, q1, qP, va_K.moved (u := U) (U := U.calling g mk a) (Vm.Alike.refl U.vm) qK, qD, kNw.same (u := U) (U := U.calling g mk a) rfl qN⟩, va_recv hK hP (ci := 10) (q0 := 92) rfl (kgw rfl (by omega)), fun U hU hW => ⟨rfl, by rw [hU], by rw [hU]; exact hP, va_K.moved hW.alike hK, hD.weaken (fun _ _ _ _ => trivial), kNw.warm hW hNw⟩⟩ rfl rfl hl.1 rfl (lv_room (Nat.le_of_ble_eq_true rfl)) dX0_replace_195 ⟨Nat.le_of_ble_eq_true rfl, Nat.le_of_ble_eq_true rfl⟩) hS (fun q _ h => hFc q h) hFc (fun u9 t H1 locs ht hvm hw hB hz1 hk1 hS => ?_)
            obtain ⟨hP1, hK1, hD1⟩ := hB
            rw [ht] at hP1
            rw [hw] at hP1 hD1
            have hD2 := hD1.weaken (B := A) (fun _ q _ h => hFc q.1 h)
            have hP := hP1
            have hD := hD2
            generalize H1 = H at hP hS ⊢
            refine lv_iload_n hx hb dX0_replace_198 rfl (lv_at hl 2 rfl) ?_
            refine wi_if_eq (tgt := 214) hx hb (by first | assumption | (unfold iR; omega) | exact kR01 (by assumption)) dX0_replace_199 (by decide) (fun c_199 => ?_) (fun c_199 => ?_)
            · skip
              rw [if_pos c_199] at hres
              refine lv_aload_n hx hb dX0_replace_214 rfl (lv_at hl 1 rfl) ?_
              refine lv_iload hx hb dX0_replace_215 (lv_at hl 0 rfl) ?_
              refine lv_lload_n hx hb dX0_replace_217 rfl (lv_at hl 3 rfl) ?_
              refine lv_lload hx hb dX0_replace_218 (lv_at hl 4 rfl) ?_
              have hFc : ∀ q, va_A (kWd cI cJ cZ cR wl ad M ((F_w_unpack (y) (92) ((F_u_packedRight (y) ((y).1 (64) 8)).1) ((1 : Int))).2)) H.size q → A q := fun q hq => Or.elim hq (fun ⟨k, e, hk⟩ => hD.2 k (q, e) hk) (fun hk => hA q (Nat.le_trans hS.1 hk))
              refine va_callv (va_runV (b := ad (87)) (As := [.int (iI (m9)), .long (iL (h9)), .long (iL (t9))]) (rest := []) ⟨hx, hb, hml, hown, hts⟩ (c_g_replaceLast l dC dI ad cI cJ cZ cR M wl H.size ((F_w_unpack (y) (92) ((F_u_packedRight (y) ((y).1 (64) 8)).1) ((1 : Int))).2)  (m9) (h9) (t9) hM hG (by first | exact (gVy_right gv).1 | (exfalso; omega)) (by first | exact (gVy_right gv).2.1 | (exfalso; omega)) (by first | exact (gVy_right gv).2.2.1 | (exfalso; omega)) (by first | exact (gVy_right gv).2.2.2.2.1 | (exfalso; omega)) (by first | exact (gVy_right gv).2.2.2.2.2.1 | (exfalso; omega)) rh9 rt9) (cwV 3 hts gX0_replace_X0_replaceLast rfl rfl rfl (by decide +kernel) ⟨Nat.le_of_ble_eq_true rfl, Nat.le_of_ble_eq_true rfl⟩) ⟨fun a U g mk q => by obtain ⟨q0, q1, qP, qK, qD, qN⟩ := q; exact ⟨q0, q1, qP, va_K.moved (u := U) (U := U.calling g mk a) (Vm.Alike.refl U.vm) qK, qD, kNw.same (u := U) (U := U.calling g mk a) rfl qN⟩, va_recv hK hP (ci := 0) (q0 := 87) rfl (kg87 (by omega)), fun U hU hW => ⟨rfl, by rw [hU], by rw [hU]; exact hP, va_K.moved hW.alike hK, hD.weaken (fun _ _ _ _ => trivial), kNw.warm hW hNw⟩⟩ rfl rfl hl.1 rfl (lv_room (Nat.le_of_ble_eq_true rfl)) dX0_replace_220 ⟨Nat.le_of_ble_eq_true rfl, Nat.le_of_ble_eq_true rfl⟩) hS (fun q _ h => hFc q h) hFc (fun u9 t H1 locs ht hvm hw hB hz1 hk1 hS => ?_)
              obtain ⟨hP1, hK1, hD1⟩ := hB
              rw [ht] at hP1
              rw [hw] at hP1 hD1
              have hD2 := hD1.weaken (B := A) (fun _ q _ h => hFc q.1 h)
              have hP := hP1
              have hD := hD2
              generalize H1 = H at hP hS ⊢
              exact W.vret hx hb hr (fun t ht hW => ⟨⟨(F_g_replaceLast ((F_w_unpack (y) (92) ((F_u_packedRight (y) ((y).1 (64) 8)).1) ((1 : Int))).2) (m9) (h9) (t9)).2, rfl, (by have h9 := congrArg (fun z : Int × KS => z.2) hres; exact h9), by rw [ht]; exact hP, va_K.moved hW.alike hK, hD⟩, hS.F ht⟩) hS.2.2 dX0_replace_223
            · skip
              rw [if_neg c_199] at hres
              refine lv_aload_n hx hb dX0_replace_202 rfl (lv_at hl 1 rfl) ?_
              refine lv_iload hx hb dX0_replace_203 (lv_at hl 0 rfl) ?_
              refine lv_lload_n hx hb dX0_replace_205 rfl (lv_at hl 3 rfl) ?_
              refine lv_lload hx hb dX0_replace_206 (lv_at hl 4 rfl) ?_
              have hFc : ∀ q, va_A (kWd cI cJ cZ cR wl ad M ((F_w_unpack (y) (92) ((F_u_packedRight (y) ((y).1 (64) 8)).1) ((1 : Int))).2)) H.size q → A q := fun q hq => Or.elim hq (fun ⟨k, e, hk⟩ => hD.2 k (q, e) hk) (fun hk => hA q (Nat.le_trans hS.1 hk))
              refine va_callv (va_runV (b := ad (87)) (As := [.int (iI (m9)), .long (iL (h9)), .long (iL (t9))]) (rest := []) ⟨hx, hb, hml, hown, hts⟩ (c_g_replaceFirst l dC dI ad cI cJ cZ cR M wl H.size ((F_w_unpack (y) (92) ((F_u_packedRight (y) ((y).1 (64) 8)).1) ((1 : Int))).2)  (m9) (h9) (t9) hM hG (by first | exact (gVy_right gv).1 | (exfalso; omega)) (by first | exact (gVy_right gv).2.1 | (exfalso; omega)) (by first | exact (gVy_right gv).2.2.2.1 | (exfalso; omega)) (by first | exact (gVy_right gv).2.2.2.2.1 | (exfalso; omega)) (by first | exact (gVy_right gv).2.2.2.2.2.2 | (exfalso; omega)) rh9 rt9) (cwV 3 hts gX0_replace_X0_replaceFirst rfl rfl rfl (by decide +kernel) ⟨Nat.le_of_ble_eq_true rfl, Nat.le_of_ble_eq_true rfl⟩) ⟨fun a U g mk q => by obtain ⟨q0, q1, qP, qK, qD, qN⟩ := q; exact ⟨q0, q1, qP, va_K.moved (u := U) (U := U.calling g mk a) (Vm.Alike.refl U.vm) qK, qD, kNw.same (u := U) (U := U.calling g mk a) rfl qN⟩, va_recv hK hP (ci := 0) (q0 := 87) rfl (kg87 (by omega)), fun U hU hW => ⟨rfl, by rw [hU], by rw [hU]; exact hP, va_K.moved hW.alike hK, hD.weaken (fun _ _ _ _ => trivial), kNw.warm hW hNw⟩⟩ rfl rfl hl.1 rfl (lv_room (Nat.le_of_ble_eq_true rfl)) dX0_replace_208 ⟨Nat.le_of_ble_eq_true rfl, Nat.le_of_ble_eq_true rfl⟩) hS (fun q _ h => hFc q h) hFc (fun u9 t H1 locs ht hvm hw hB hz1 hk1 hS => ?_)
              obtain ⟨hP1, hK1, hD1⟩ := hB
              rw [ht] at hP1
              rw [hw] at hP1 hD1
              have hD2 := hD1.weaken (B := A) (fun _ q _ h => hFc q.1 h)
              have hP := hP1
              have hD := hD2
              generalize H1 = H at hP hS ⊢
              refine lv_goto (tgt := 223) hx hb dX0_replace_211 (by decide) ?_
              exact W.vret hx hb hr (fun t ht hW => ⟨⟨(F_g_replaceFirst ((F_w_unpack (y) (92) ((F_u_packedRight (y) ((y).1 (64) 8)).1) ((1 : Int))).2) (m9) (h9) (t9)).2, rfl, (by have h9 := congrArg (fun z : Int × KS => z.2) hres; exact h9), by rw [ht]; exact hP, va_K.moved hW.alike hK, hD⟩, hS.F ht⟩) hS.2.2 dX0_replace_223
        · skip
          rw [if_neg c_135] at hres
          refine lv_aload_n hx hb dX0_replace_138 rfl (lv_at hl 0 rfl) ?_
          refine va_get (D := (dC, dI)) (ci := 0) (v := .ref (ad (101))) (C := RX0) (T := TX0) (N := 15) hx hb hts hinX0 hown hK hP (87) (kg87 (by omega)) rfl 14 (by decide) (hts (.fieldLink RX0 61 "LikeWords$Grower" "known" "LLikeWords$Known;") (by decide +kernel)) (fun _ h9 => h9) rfl dX0_replace_139 ?_
          refine lv_aload_n hx hb dX0_replace_142 rfl (lv_at hl 0 rfl) ?_
          refine va_get (D := (dC, dI)) (ci := 0) (v := .ref (ad (92))) (C := RX0) (T := TX0) (N := 15) hx hb hts hinX0 hown hK hP (87) (kg87 (by omega)) rfl 4 (by decide) (hts (.fieldLink RX0 31 "LikeWords$Grower" "end" "LLikeWords$Word;") (by decide +kernel)) (fun _ h9 => h9) rfl dX0_replace_143 ?_
          have hFc : ∀ q, va_A (kWd cI cJ cZ cR wl ad M (y)) H.size q → A q := fun q hq => Or.elim hq (fun ⟨k, e, hk⟩ => hD.2 k (q, e) hk) (fun hk => hA q (Nat.le_trans hS.1 hk))
          refine va_calli (va_runV (b := ad (101)) (As := [.ref (ad (92))]) (rest := []) ⟨hx, hb, hml, hown, hts⟩ (c_k_find l dC dI ad cI cJ cZ cR M wl H.size (y)   hM hG vs.2.1 vs.2.2.1 vs.2.2.2.1) (cwV 1 hts gX0_replace_X2_find rfl rfl rfl (by decide +kernel) ⟨Nat.le_of_ble_eq_true rfl, Nat.le_of_ble_eq_true rfl⟩) ⟨fun a U g mk q => by obtain ⟨q0, q1, qP, qK, qD, qN⟩ := q; exact ⟨q0, q1, qP, va_K.moved (u := U) (U := U.calling g mk a) (Vm.Alike.refl U.vm) qK, qD, kNw.same (u := U) (U := U.calling g mk a) rfl qN⟩, va_recv hK hP (ci := 2) (q0 := 101) rfl (kg101 (by omega)), fun U hU hW => ⟨rfl, by rw [hU], by rw [hU]; exact hP, va_K.moved hW.alike hK, hD.weaken (fun _ _ _ _ => trivial), kNw.warm hW hNw⟩⟩ rfl rfl hl.1 rfl (lv_room (Nat.le_of_ble_eq_true rfl)) dX0_replace_146 ⟨Nat.le_of_ble_eq_true rfl, Nat.le_of_ble_eq_true rfl⟩) hS (fun q _ h => hFc q h) hFc (fun r9 u9 t H1 locs ht hvm hw hB hz1 hk1 hS => ?_)
          obtain ⟨hP1, hK1, hD1⟩ := hB
          rw [ht] at hP1
          obtain ⟨hw1, hw2⟩ := hw
          rw [hw2] at hP1 hD1
          rw [hw1]
          have hD2 := hD1.weaken (B := A) (fun _ q _ h => hFc q.1 h)
          have hP := hP1
          have hD := hD2
          generalize H1 = H at hP hS ⊢
          refine wi_if_ne (tgt := 165) hx hb (kR01 (F_k_find_01 _)) dX0_replace_149 (by decide) (fun c_149 => ?_) (fun c_149 => ?_)
          · skip
            rw [if_neg c_149] at hres
            refine lv_iload hx hb dX0_replace_165 (lv_at hl 5 rfl) ?_
            refine lv_iload hx hb dX0_replace_167 (lv_at hl 4 rfl) ?_
            refine wi_icmp_le (tgt := 198) hx hb (by first | assumption | (unfold iR; omega) | exact kR01 (by assumption)) (by first | assumption | (unfold iR; omega) | exact kR01 (by assumption)) dX0_replace_169 (by decide) (fun c_169 => ?_) (fun c_169 => ?_)
            · skip
              rw [if_pos c_169] at hres
              refine lv_iload_n hx hb dX0_replace_198 rfl (lv_at hl 1 rfl) ?_
              refine wi_if_eq (tgt := 214) hx hb (by first | assumption | (unfold iR; omega) | exact kR01 (by assumption)) dX0_replace_199 (by decide) (fun c_199 => ?_) (fun c_199 => ?_)
              · skip
                rw [if_pos c_199] at hres
                refine lv_aload_n hx hb dX0_replace_214 rfl (lv_at hl 0 rfl) ?_
                refine lv_iload hx hb dX0_replace_215 (lv_at hl 5 rfl) ?_
                refine lv_lload_n hx hb dX0_replace_217 rfl (lv_at hl 2 rfl) ?_
                refine lv_lload hx hb dX0_replace_218 (lv_at hl 3 rfl) ?_
                have hFc : ∀ q, va_A (kWd cI cJ cZ cR wl ad M ((F_k_find (y)).2)) H.size q → A q := fun q hq => Or.elim hq (fun ⟨k, e, hk⟩ => hD.2 k (q, e) hk) (fun hk => hA q (Nat.le_trans hS.1 hk))
                refine va_callv (va_runV (b := ad (87)) (As := [.int (iI (v9)), .long (iL (h9)), .long (iL (t9))]) (rest := []) ⟨hx, hb, hml, hown, hts⟩ (c_g_replaceLast l dC dI ad cI cJ cZ cR M wl H.size ((F_k_find (y)).2)  (v9) (h9) (t9) hM hG (by first | exact (gVy_found gv c_149).1 | (exfalso; omega)) (by first | exact (gVy_found gv c_149).2.1 | (exfalso; omega)) (by first | exact (gVy_found gv c_149).2.2.1 | (exfalso; omega)) (by first | exact (gVy_found gv c_149).2.2.2.2.1 | (exfalso; omega)) (by first | exact (gVy_found gv c_149).2.2.2.2.2.1 | (exfalso; omega)) rh9 rt9) (cwV 3 hts gX0_replace_X0_replaceLast rfl rfl rfl (by decide +kernel) ⟨Nat.le_of_ble_eq_true rfl, Nat.le_of_ble_eq_true rfl⟩) ⟨fun a U g mk q => by obtain ⟨q0, q1, qP, qK, qD, qN⟩ := q; exact ⟨q0, q1, qP, va_K.moved (u := U) (U := U.calling g mk a) (Vm.Alike.refl U.vm) qK, qD, kNw.same (u := U) (U := U.calling g mk a) rfl qN⟩, va_recv hK hP (ci := 0) (q0 := 87) rfl (kg87 (by omega)), fun U hU hW => ⟨rfl, by rw [hU], by rw [hU]; exact hP, va_K.moved hW.alike hK, hD.weaken (fun _ _ _ _ => trivial), kNw.warm hW hNw⟩⟩ rfl rfl hl.1 rfl (lv_room (Nat.le_of_ble_eq_true rfl)) dX0_replace_220 ⟨Nat.le_of_ble_eq_true rfl, Nat.le_of_ble_eq_true rfl⟩) hS (fun q _ h => hFc q h) hFc (fun u9 t H1 locs ht hvm hw hB hz1 hk1 hS => ?_)
                obtain ⟨hP1, hK1, hD1⟩ := hB
                rw [ht] at hP1
                rw [hw] at hP1 hD1
                have hD2 := hD1.weaken (B := A) (fun _ q _ h => hFc q.1 h)
                have hP := hP1
                have hD := hD2
                generalize H1 = H at hP hS ⊢
                exact W.vret hx hb hr (fun t ht hW => ⟨⟨(F_g_replaceLast ((F_k_find (y)).2) (v9) (h9) (t9)).2, rfl, (by have h9 := congrArg (fun z : Int × KS => z.2) hres; exact h9), by rw [ht]; exact hP, va_K.moved hW.alike hK, hD⟩, hS.F ht⟩) hS.2.2 dX0_replace_223
              · skip
                rw [if_neg c_199] at hres
                refine lv_aload_n hx hb dX0_replace_202 rfl (lv_at hl 0 rfl) ?_
                refine lv_iload hx hb dX0_replace_203 (lv_at hl 5 rfl) ?_
                refine lv_lload_n hx hb dX0_replace_205 rfl (lv_at hl 2 rfl) ?_
                refine lv_lload hx hb dX0_replace_206 (lv_at hl 3 rfl) ?_
                have hFc : ∀ q, va_A (kWd cI cJ cZ cR wl ad M ((F_k_find (y)).2)) H.size q → A q := fun q hq => Or.elim hq (fun ⟨k, e, hk⟩ => hD.2 k (q, e) hk) (fun hk => hA q (Nat.le_trans hS.1 hk))
                refine va_callv (va_runV (b := ad (87)) (As := [.int (iI (v9)), .long (iL (h9)), .long (iL (t9))]) (rest := []) ⟨hx, hb, hml, hown, hts⟩ (c_g_replaceFirst l dC dI ad cI cJ cZ cR M wl H.size ((F_k_find (y)).2)  (v9) (h9) (t9) hM hG (by first | exact (gVy_found gv c_149).1 | (exfalso; omega)) (by first | exact (gVy_found gv c_149).2.1 | (exfalso; omega)) (by first | exact (gVy_found gv c_149).2.2.2.1 | (exfalso; omega)) (by first | exact (gVy_found gv c_149).2.2.2.2.1 | (exfalso; omega)) (by first | exact (gVy_found gv c_149).2.2.2.2.2.2 | (exfalso; omega)) rh9 rt9) (cwV 3 hts gX0_replace_X0_replaceFirst rfl rfl rfl (by decide +kernel) ⟨Nat.le_of_ble_eq_true rfl, Nat.le_of_ble_eq_true rfl⟩) ⟨fun a U g mk q => by obtain ⟨q0, q1, qP, qK, qD, qN⟩ := q; exact ⟨q0, q1, qP, va_K.moved (u := U) (U := U.calling g mk a) (Vm.Alike.refl U.vm) qK, qD, kNw.same (u := U) (U := U.calling g mk a) rfl qN⟩, va_recv hK hP (ci := 0) (q0 := 87) rfl (kg87 (by omega)), fun U hU hW => ⟨rfl, by rw [hU], by rw [hU]; exact hP, va_K.moved hW.alike hK, hD.weaken (fun _ _ _ _ => trivial), kNw.warm hW hNw⟩⟩ rfl rfl hl.1 rfl (lv_room (Nat.le_of_ble_eq_true rfl)) dX0_replace_208 ⟨Nat.le_of_ble_eq_true rfl, Nat.le_of_ble_eq_true rfl⟩) hS (fun q _ h => hFc q h) hFc (fun u9 t H1 locs ht hvm hw hB hz1 hk1 hS => ?_)
                obtain ⟨hP1, hK1, hD1⟩ := hB
                rw [ht] at hP1
                rw [hw] at hP1 hD1
                have hD2 := hD1.weaken (B := A) (fun _ q _ h => hFc q.1 h)
                have hP := hP1
                have hD := hD2
                generalize H1 = H at hP hS ⊢
                refine lv_goto (tgt := 223) hx hb dX0_replace_211 (by decide) ?_
                exact W.vret hx hb hr (fun t ht hW => ⟨⟨(F_g_replaceFirst ((F_k_find (y)).2) (v9) (h9) (t9)).2, rfl, (by have h9 := congrArg (fun z : Int × KS => z.2) hres; exact h9), by rw [ht]; exact hP, va_K.moved hW.alike hK, hD⟩, hS.F ht⟩) hS.2.2 dX0_replace_223
            · skip
              rw [if_neg c_169] at hres
              refine lv_iload hx hb dX0_replace_172 (lv_at hl 4 rfl) ?_
              refine lv_istore (lv' := [(7, .int (iI (m9))), (0, .ref (ad (87))), (1, .int (iI (b9))), (2, .long (iL (h9))), (4, .long (iL (t9))), (6, .int (iI (m9)))]) hx hb dX0_replace_174 hl (by decide) rfl (fun ls hl => ?_)
              refine lv_aload_n hx hb dX0_replace_176 rfl (lv_at hl 1 rfl) ?_
              refine va_get (D := (dC, dI)) (ci := 0) (v := .ref (ad (92))) (C := RX0) (T := TX0) (N := 15) hx hb hts hinX0 hown hK hP (87) (kg87 (by omega)) rfl 4 (by decide) (hts (.fieldLink RX0 31 "LikeWords$Grower" "end" "LLikeWords$Word;") (by decide +kernel)) (fun _ h9 => h9) rfl dX0_replace_177 ?_
              refine lv_aload_n hx hb dX0_replace_180 rfl (lv_at hl 1 rfl) ?_
              refine va_get (D := (dC, dI)) (ci := 0) (v := .ref (ad (58))) (C := RX0) (T := TX0) (N := 15) hx hb hts hinX0 hown hK hP (87) (kg87 (by omega)) rfl 0 (by decide) (hts (.fieldLink RX0 9 "LikeWords$Grower" "rules" "LLikeWords$Rules;") (by decide +kernel)) (fun _ h9 => h9) rfl dX0_replace_181 ?_
              refine lv_aload_n hx hb dX0_replace_184 rfl (lv_at hl 1 rfl) ?_
              refine va_get (D := (dC, dI)) (ci := 0) (v := .ref (ad (64))) (C := RX0) (T := TX0) (N := 15) hx hb hts hinX0 hown hK hP (87) (kg87 (by omega)) rfl 1 (by decide) (hts (.fieldLink RX0 15 "LikeWords$Grower" "machine" "LLikeWords$Machine;") (by decide +kernel)) (fun _ h9 => h9) rfl dX0_replace_185 ?_
              refine va_get (D := (dC, dI)) (ci := 3) (v := .int (iI (((F_k_find (y)).2).1 (64) 8))) (C := RX3) (T := TX3) (N := 10) hx hb hts hinX3 hown hK hP (64) (kg64 (by omega)) rfl 8 (by decide) (hts (.fieldLink RX0 150 "LikeWords$Machine" "met" "I") (by decide +kernel)) (fun _ h9 => h9) rfl dX0_replace_188 ?_
              have hFc : ∀ q, va_A (kWd cI cJ cZ cR wl ad M ((F_k_find (y)).2)) H.size q → A q := fun q hq => Or.elim hq (fun ⟨k, e, hk⟩ => hD.2 k (q, e) hk) (fun hk => hA q (Nat.le_trans hS.1 hk))
              refine va_calll (va_runV (b := ad (58)) (As := [.int (iI (((F_k_find (y)).2).1 (64) 8))]) (rest := [.ref (ad (92))]) ⟨hx, hb, hml, hown, hts⟩ (c_u_packedRight l dC dI ad cI cJ cZ cR M wl H.size ((F_k_find (y)).2)  (((F_k_find (y)).2).1 (64) 8) hM (by unfold iR; first | omega | (rw [(F_k_find_fr y).1 64 8 (by decide)]; omega))) (cwV 1 hts gX0_replace_X7_packedRight rfl rfl rfl (by decide +kernel) ⟨Nat.le_of_ble_eq_true rfl, Nat.le_of_ble_eq_true rfl⟩) ⟨fun a U g mk q => by obtain ⟨q0, q1, qP, qK, qD, qN⟩ := q; exact ⟨q0, q1, qP, va_K.moved (u := U) (U := U.calling g mk a) (Vm.Alike.refl U.vm) qK, qD, kNw.same (u := U) (U := U.calling g mk a) rfl qN⟩, va_recv hK hP (ci := 7) (q0 := 58) rfl (kg58 (by omega)), fun U hU hW => ⟨rfl, by rw [hU], by rw [hU]; exact hP, va_K.moved hW.alike hK, hD.weaken (fun _ _ _ _ => trivial), kNw.warm hW hNw⟩⟩ rfl rfl hl.1 rfl (lv_room (Nat.le_of_ble_eq_true rfl)) dX0_replace_191 ⟨Nat.le_of_ble_eq_true rfl, Nat.le_of_ble_eq_true rfl⟩) hS (fun q _ h => hFc q h) hFc (fun r9 u9 t H1 locs ht hvm hw hB hz1 hk1 hS => ?_)
              obtain ⟨hP1, hK1, hD1⟩ := hB
              rw [ht] at hP1
              obtain ⟨hw1, hw2⟩ := hw
              rw [hw2] at hP1 hD1
              rw [hw1]
              rw [F_u_packedRight_2] at hP1 hD1
              have hD2 := hD1.weaken (B := A) (fun _ q _ h => hFc q.1 h)
              have hP := hP1
              have hD := hD2
              generalize H1 = H at hP hS ⊢
              refine lv_lconst (v := iL 1) hx hb dX0_replace_194 (by decide) ?_
              have hFc : ∀ q, va_A (kWd cI cJ cZ cR wl ad M ((F_k_find (y)).2)) H.size q → A q := fun q hq => Or.elim hq (fun ⟨k, e, hk⟩ => hD.2 k (q, e) hk) (fun hk => hA q (Nat.le_trans hS.1 hk))
              refine va_callv (va_runV (b := ad (92)) (As := [.long (iL ((F_u_packedRight ((F_k_find (y)).2) (((F_k_find (y)).2).1 (64) 8)).1)), .long (iL ((1 : Int)))]) (rest := []) ⟨hx, hb, hml, hown, hts⟩ (c_w_unpack l dC dI ad cI cJ cZ cR M wl H.size ((F_k_find (y)).2) (92) ((F_u_packedRight ((F_k_find (y)).2) (((F_k_find (y)).2).1 (64) 8)).1) ((1 : Int)) hM rfl (by omega) (F_u_packedRight_RL _ _) ⟨by decide, by decide⟩) (cwV 2 hts gX0_replace_X10_unpack rfl rfl rfl (by decide +kernel) ⟨Nat.le_of_ble_eq_true rfl, Nat.le_of_ble_eq_true rfl⟩) ⟨fun a U g mk q => by obtain ⟨q0, q1, qP, qK, qD, qN⟩ := q; exact ⟨q0, q1, qP, va_K.moved (u := U) (U := U.calling g mk a) (Vm.Alike.refl U.vm) qK, qD, kNw.same (u := U) (U := U.calling g mk a) rfl qN⟩, va_recv hK hP (ci := 10) (q0 := 92) rfl (kgw rfl (by omega)), fun U hU hW => ⟨rfl, by rw [hU], by rw [hU]; exact hP, va_K.moved hW.alike hK, hD.weaken (fun _ _ _ _ => trivial), kNw.warm hW hNw⟩⟩ rfl rfl hl.1 rfl (lv_room (Nat.le_of_ble_eq_true rfl)) dX0_replace_195 ⟨Nat.le_of_ble_eq_true rfl, Nat.le_of_ble_eq_true rfl⟩) hS (fun q _ h => hFc q h) hFc (fun u9 t H1 locs ht hvm hw hB hz1 hk1 hS => ?_)
              obtain ⟨hP1, hK1, hD1⟩ := hB
              rw [ht] at hP1
              rw [hw] at hP1 hD1
              have hD2 := hD1.weaken (B := A) (fun _ q _ h => hFc q.1 h)
              have hP := hP1
              have hD := hD2
              generalize H1 = H at hP hS ⊢
              refine lv_iload_n hx hb dX0_replace_198 rfl (lv_at hl 2 rfl) ?_
              refine wi_if_eq (tgt := 214) hx hb (by first | assumption | (unfold iR; omega) | exact kR01 (by assumption)) dX0_replace_199 (by decide) (fun c_199 => ?_) (fun c_199 => ?_)
              · skip
                rw [if_pos c_199] at hres
                refine lv_aload_n hx hb dX0_replace_214 rfl (lv_at hl 1 rfl) ?_
                refine lv_iload hx hb dX0_replace_215 (lv_at hl 0 rfl) ?_
                refine lv_lload_n hx hb dX0_replace_217 rfl (lv_at hl 3 rfl) ?_
                refine lv_lload hx hb dX0_replace_218 (lv_at hl 4 rfl) ?_
                have hFc : ∀ q, va_A (kWd cI cJ cZ cR wl ad M ((F_w_unpack ((F_k_find (y)).2) (92) ((F_u_packedRight ((F_k_find (y)).2) (((F_k_find (y)).2).1 (64) 8)).1) ((1 : Int))).2)) H.size q → A q := fun q hq => Or.elim hq (fun ⟨k, e, hk⟩ => hD.2 k (q, e) hk) (fun hk => hA q (Nat.le_trans hS.1 hk))
                refine va_callv (va_runV (b := ad (87)) (As := [.int (iI (m9)), .long (iL (h9)), .long (iL (t9))]) (rest := []) ⟨hx, hb, hml, hown, hts⟩ (c_g_replaceLast l dC dI ad cI cJ cZ cR M wl H.size ((F_w_unpack ((F_k_find (y)).2) (92) ((F_u_packedRight ((F_k_find (y)).2) (((F_k_find (y)).2).1 (64) 8)).1) ((1 : Int))).2)  (m9) (h9) (t9) hM hG (by exfalso; omega) (by exfalso; omega) (by exfalso; omega) (by exfalso; omega) (by exfalso; omega) (by exfalso; omega) (by exfalso; omega)) (cwV 3 hts gX0_replace_X0_replaceLast rfl rfl rfl (by decide +kernel) ⟨Nat.le_of_ble_eq_true rfl, Nat.le_of_ble_eq_true rfl⟩) ⟨fun a U g mk q => by obtain ⟨q0, q1, qP, qK, qD, qN⟩ := q; exact ⟨q0, q1, qP, va_K.moved (u := U) (U := U.calling g mk a) (Vm.Alike.refl U.vm) qK, qD, kNw.same (u := U) (U := U.calling g mk a) rfl qN⟩, va_recv hK hP (ci := 0) (q0 := 87) rfl (kg87 (by omega)), fun U hU hW => ⟨rfl, by rw [hU], by rw [hU]; exact hP, va_K.moved hW.alike hK, hD.weaken (fun _ _ _ _ => trivial), kNw.warm hW hNw⟩⟩ rfl rfl hl.1 rfl (lv_room (Nat.le_of_ble_eq_true rfl)) dX0_replace_220 ⟨Nat.le_of_ble_eq_true rfl, Nat.le_of_ble_eq_true rfl⟩) hS (fun q _ h => hFc q h) hFc (fun u9 t H1 locs ht hvm hw hB hz1 hk1 hS => ?_)
                obtain ⟨hP1, hK1, hD1⟩ := hB
                rw [ht] at hP1
                rw [hw] at hP1 hD1
                have hD2 := hD1.weaken (B := A) (fun _ q _ h => hFc q.1 h)
                have hP := hP1
                have hD := hD2
                generalize H1 = H at hP hS ⊢
                exact W.vret hx hb hr (fun t ht hW => ⟨⟨(F_g_replaceLast ((F_w_unpack ((F_k_find (y)).2) (92) ((F_u_packedRight ((F_k_find (y)).2) (((F_k_find (y)).2).1 (64) 8)).1) ((1 : Int))).2) (m9) (h9) (t9)).2, rfl, (by have h9 := congrArg (fun z : Int × KS => z.2) hres; exact h9), by rw [ht]; exact hP, va_K.moved hW.alike hK, hD⟩, hS.F ht⟩) hS.2.2 dX0_replace_223
              · skip
                rw [if_neg c_199] at hres
                refine lv_aload_n hx hb dX0_replace_202 rfl (lv_at hl 1 rfl) ?_
                refine lv_iload hx hb dX0_replace_203 (lv_at hl 0 rfl) ?_
                refine lv_lload_n hx hb dX0_replace_205 rfl (lv_at hl 3 rfl) ?_
                refine lv_lload hx hb dX0_replace_206 (lv_at hl 4 rfl) ?_
                have hFc : ∀ q, va_A (kWd cI cJ cZ cR wl ad M ((F_w_unpack ((F_k_find (y)).2) (92) ((F_u_packedRight ((F_k_find (y)).2) (((F_k_find (y)).2).1 (64) 8)).1) ((1 : Int))).2)) H.size q → A q := fun q hq => Or.elim hq (fun ⟨k, e, hk⟩ => hD.2 k (q, e) hk) (fun hk => hA q (Nat.le_trans hS.1 hk))
                refine va_callv (va_runV (b := ad (87)) (As := [.int (iI (m9)), .long (iL (h9)), .long (iL (t9))]) (rest := []) ⟨hx, hb, hml, hown, hts⟩ (c_g_replaceFirst l dC dI ad cI cJ cZ cR M wl H.size ((F_w_unpack ((F_k_find (y)).2) (92) ((F_u_packedRight ((F_k_find (y)).2) (((F_k_find (y)).2).1 (64) 8)).1) ((1 : Int))).2)  (m9) (h9) (t9) hM hG (by exfalso; omega) (by exfalso; omega) (by exfalso; omega) (by exfalso; omega) (by exfalso; omega) (by exfalso; omega) (by exfalso; omega)) (cwV 3 hts gX0_replace_X0_replaceFirst rfl rfl rfl (by decide +kernel) ⟨Nat.le_of_ble_eq_true rfl, Nat.le_of_ble_eq_true rfl⟩) ⟨fun a U g mk q => by obtain ⟨q0, q1, qP, qK, qD, qN⟩ := q; exact ⟨q0, q1, qP, va_K.moved (u := U) (U := U.calling g mk a) (Vm.Alike.refl U.vm) qK, qD, kNw.same (u := U) (U := U.calling g mk a) rfl qN⟩, va_recv hK hP (ci := 0) (q0 := 87) rfl (kg87 (by omega)), fun U hU hW => ⟨rfl, by rw [hU], by rw [hU]; exact hP, va_K.moved hW.alike hK, hD.weaken (fun _ _ _ _ => trivial), kNw.warm hW hNw⟩⟩ rfl rfl hl.1 rfl (lv_room (Nat.le_of_ble_eq_true rfl)) dX0_replace_208 ⟨Nat.le_of_ble_eq_true rfl, Nat.le_of_ble_eq_true rfl⟩) hS (fun q _ h => hFc q h) hFc (fun u9 t H1 locs ht hvm hw hB hz1 hk1 hS => ?_)
                obtain ⟨hP1, hK1, hD1⟩ := hB
                rw [ht] at hP1
                rw [hw] at hP1 hD1
                have hD2 := hD1.weaken (B := A) (fun _ q _ h => hFc q.1 h)
                have hP := hP1
                have hD := hD2
                generalize H1 = H at hP hS ⊢
                refine lv_goto (tgt := 223) hx hb dX0_replace_211 (by decide) ?_
                exact W.vret hx hb hr (fun t ht hW => ⟨⟨(F_g_replaceFirst ((F_w_unpack ((F_k_find (y)).2) (92) ((F_u_packedRight ((F_k_find (y)).2) (((F_k_find (y)).2).1 (64) 8)).1) ((1 : Int))).2) (m9) (h9) (t9)).2, rfl, (by have h9 := congrArg (fun z : Int × KS => z.2) hres; exact h9), by rw [ht]; exact hP, va_K.moved hW.alike hK, hD⟩, hS.F ht⟩) hS.2.2 dX0_replace_223
          · skip
            rw [if_pos c_149] at hres
            refine lv_aload_n hx hb dX0_replace_152 rfl (lv_at hl 0 rfl) ?_
            refine va_get (D := (dC, dI)) (ci := 0) (v := .ref (ad (101))) (C := RX0) (T := TX0) (N := 15) hx hb hts hinX0 hown hK hP (87) (kg87 (by omega)) rfl 14 (by decide) (hts (.fieldLink RX0 61 "LikeWords$Grower" "known" "LLikeWords$Known;") (by decide +kernel)) (fun _ h9 => h9) rfl dX0_replace_153 ?_
            have hFc : ∀ q, va_A (kWd cI cJ cZ cR wl ad M ((F_k_find (y)).2)) H.size q → A q := fun q hq => Or.elim hq (fun ⟨k, e, hk⟩ => hD.2 k (q, e) hk) (fun hk => hA q (Nat.le_trans hS.1 hk))
            refine va_callv (va_runV (b := ad (101)) (As := []) (rest := []) ⟨hx, hb, hml, hown, hts⟩ (c_k_drop l dC dI ad cI cJ cZ cR M wl H.size ((F_k_find (y)).2)   hM hG (by rw [(F_k_find_fr y).1 101 6 (by decide)]; exact vs.2.2.2.1)) (cwV 0 hts gX0_replace_X2_drop rfl rfl rfl (by decide +kernel) ⟨Nat.le_of_ble_eq_true rfl, Nat.le_of_ble_eq_true rfl⟩) ⟨fun a U g mk q => by obtain ⟨q0, q1, qP, qK, qD, qN⟩ := q; exact ⟨q0, q1, qP, va_K.moved (u := U) (U := U.calling g mk a) (Vm.Alike.refl U.vm) qK, qD, kNw.same (u := U) (U := U.calling g mk a) rfl qN⟩, va_recv hK hP (ci := 2) (q0 := 101) rfl (kg101 (by omega)), fun U hU hW => ⟨rfl, by rw [hU], by rw [hU]; exact hP, va_K.moved hW.alike hK, hD.weaken (fun _ _ _ _ => trivial), kNw.warm hW hNw⟩⟩ rfl rfl hl.1 rfl (lv_room (Nat.le_of_ble_eq_true rfl)) dX0_replace_156 ⟨Nat.le_of_ble_eq_true rfl, Nat.le_of_ble_eq_true rfl⟩) hS (fun q _ h => hFc q h) hFc (fun u9 t H1 locs ht hvm hw hB hz1 hk1 hS => ?_)
            obtain ⟨hP1, hK1, hD1⟩ := hB
            rw [ht] at hP1
            rw [hw] at hP1 hD1
            have hD2 := hD1.weaken (B := A) (fun _ q _ h => hFc q.1 h)
            have hP := hP1
            have hD := hD2
            generalize H1 = H at hP hS ⊢
            refine lv_iinc (v := iI ((v9) + (1 : Int))) (lv' := [(7, .int (iI ((v9) + (1 : Int)))), (0, .ref (ad (87))), (1, .int (iI (b9))), (2, .long (iL (h9))), (4, .long (iL (t9))), (6, .int (iI (m9)))]) hx hb dX0_replace_159 hl (k := 5) rfl (iI_add _ _) (by decide) rfl (fun ls hl => ?_)
            refine lv_goto (tgt := 131) hx hb dX0_replace_162 (by decide) ?_
            exact ih.2 ((F_k_drop ((F_k_find (y)).2)).2) (h9) (t9) (m9) ((v9) + (1 : Int)) ((gVy_drop gv c_135 c_149)) (rh9) (rt9) ((by omega)) ((by omega)) hres _ _ ls hP hD hS (lv_sub hl [1, 2, 3, 4, 5, 0] rfl)
  have key : ∀ (H : Heap) (locs : List Loc), va_P (dC, dI) vwCl (kWd cI cJ cZ cR wl ad M (x)) H → va_S A s.heap H locs → W p l e (headSpec wsX0_replace ({ frames := 2, cells := 0, slots := 0, locals := 57 })).room s m ([.ref (ad 87), .int (iI b9)] : List Value).toArray below meth c H locs 0 0 (MQ below (va_Qv (fun u : KS => u = (F_g_replace x b9).2) (kAt dC dI ad cI cJ cZ cR M wl A) A) ([.ref (ad 87), .int (iI b9)] : List Value).toArray s 0 0 A) (F0 m 0 ls []) := by
    intro H locs hP hS
    have hres : (if (b9) = (0) then F_g_replace_s 200 0 ((F_k_begin (x) ((1 : Int))).2) (b9) (((F_k_begin (x) ((1 : Int))).2).1 (87) 12) (0) (0) (0) else F_g_replace_s 200 0 ((F_k_begin (x) ((0 : Int))).2) (b9) (((F_k_begin (x) ((0 : Int))).2).1 (87) 12) (0) (0) (0)) = F_g_replace x b9 := rfl
    refine lv_aload_n hx hb dX0_replace_0 rfl (lv_at hl 0 rfl) ?_
    refine va_get (D := (dC, dI)) (ci := 0) (v := .ref (ad (101))) (C := RX0) (T := TX0) (N := 15) hx hb hts hinX0 hown hK hP (87) (kg87 (by omega)) rfl 14 (by decide) (hts (.fieldLink RX0 61 "LikeWords$Grower" "known" "LLikeWords$Known;") (by decide +kernel)) (fun _ h9 => h9) rfl dX0_replace_1 ?_
    refine lv_iload_n hx hb dX0_replace_4 rfl (lv_at hl 1 rfl) ?_
    refine wi_if_ne (tgt := 12) hx hb (by first | assumption | (unfold iR; omega) | exact kR01 (by assumption)) dX0_replace_5 (by decide) (fun c_5 => ?_) (fun c_5 => ?_)
    · skip
      rw [if_neg c_5] at hres
      refine lv_iconst (v := iI (0 : Int)) hx hb dX0_replace_12 (by decide) ?_
      have hFc : ∀ q, va_A (kWd cI cJ cZ cR wl ad M (x)) H.size q → A q := fun q hq => Or.elim hq (fun ⟨k, e, hk⟩ => hD.2 k (q, e) hk) (fun hk => hA q (Nat.le_trans hS.1 hk))
      refine va_callv (va_runV (b := ad (101)) (As := [.int (iI ((0 : Int)))]) (rest := []) ⟨hx, hb, hml, hown, hts⟩ (c_k_begin l dC dI ad cI cJ cZ cR M wl H.size (x)  ((0 : Int)) hM hG (by first | exact Or.inl rfl | exact Or.inr rfl)) (cwV 1 hts gX0_replace_X2_begin rfl rfl rfl (by decide +kernel) ⟨Nat.le_of_ble_eq_true rfl, Nat.le_of_ble_eq_true rfl⟩) ⟨fun a U g mk q => by obtain ⟨q0, q1, qP, qK, qD, qN⟩ := q; exact ⟨q0, q1, qP, va_K.moved (u := U) (U := U.calling g mk a) (Vm.Alike.refl U.vm) qK, qD, kNw.same (u := U) (U := U.calling g mk a) rfl qN⟩, va_recv hK hP (ci := 2) (q0 := 101) rfl (kg101 (by omega)), fun U hU hW => ⟨rfl, by rw [hU], by rw [hU]; exact hP, va_K.moved hW.alike hK, hD.weaken (fun _ _ _ _ => trivial), kNw.warm hW hNw⟩⟩ rfl rfl hl.1 rfl (lv_room (Nat.le_of_ble_eq_true rfl)) dX0_replace_13 ⟨Nat.le_of_ble_eq_true rfl, Nat.le_of_ble_eq_true rfl⟩) hS (fun q _ h => hFc q h) hFc (fun u9 t H1 locs ht hvm hw hB hz1 hk1 hS => ?_)
      obtain ⟨hP1, hK1, hD1⟩ := hB
      rw [ht] at hP1
      rw [hw] at hP1 hD1
      have hD2 := hD1.weaken (B := A) (fun _ q _ h => hFc q.1 h)
      have hP := hP1
      have hD := hD2
      generalize H1 = H at hP hS ⊢
      refine lv_aload_n hx hb dX0_replace_16 rfl (lv_at hl 0 rfl) ?_
      refine va_get (D := (dC, dI)) (ci := 0) (v := .int (iI (((F_k_begin (x) ((0 : Int))).2).1 (87) 12))) (C := RX0) (T := TX0) (N := 15) hx hb hts hinX0 hown hK hP (87) (kg87 (by omega)) rfl 12 (by decide) (hts (.fieldLink RX0 68 "LikeWords$Grower" "from" "I") (by decide +kernel)) (fun _ h9 => h9) rfl dX0_replace_17 ?_
      refine lv_istore_n (lv' := [(2, .int (iI (((F_k_begin (x) ((0 : Int))).2).1 (87) 12))), (0, .ref (ad (87))), (1, .int (iI (b9)))]) hx hb dX0_replace_20 rfl hl (by decide) rfl (fun ls hl => ?_)
      exact (L (200)).1 ((F_k_begin (x) ((0 : Int))).2) (((F_k_begin (x) ((0 : Int))).2).1 (87) 12) ((by first | exact (gF_begin gf).1 c_5 | exact (gF_begin gf).2 c_5)) ((by have h9 := gKy_s (by first | exact (gF_begin gf).1 c_5 | exact (gF_begin gf).2 c_5); exact h9.2.2.2.2.2.2.1)) ((by have h9 := gKy_s (by first | exact (gF_begin gf).1 c_5 | exact (gF_begin gf).2 c_5); have h8 := h9.1.2.2.2.2.2.1; have h7 := h9.1.2.2.2.2.1; omega)) hres _ _ ls hP hD hS (lv_sub hl [1, 2, 0] rfl)
    · skip
      rw [if_pos c_5] at hres
      refine lv_iconst (v := iI (1 : Int)) hx hb dX0_replace_8 (by decide) ?_
      refine lv_goto (tgt := 13) hx hb dX0_replace_9 (by decide) ?_
      have hFc : ∀ q, va_A (kWd cI cJ cZ cR wl ad M (x)) H.size q → A q := fun q hq => Or.elim hq (fun ⟨k, e, hk⟩ => hD.2 k (q, e) hk) (fun hk => hA q (Nat.le_trans hS.1 hk))
      refine va_callv (va_runV (b := ad (101)) (As := [.int (iI ((1 : Int)))]) (rest := []) ⟨hx, hb, hml, hown, hts⟩ (c_k_begin l dC dI ad cI cJ cZ cR M wl H.size (x)  ((1 : Int)) hM hG (by first | exact Or.inl rfl | exact Or.inr rfl)) (cwV 1 hts gX0_replace_X2_begin rfl rfl rfl (by decide +kernel) ⟨Nat.le_of_ble_eq_true rfl, Nat.le_of_ble_eq_true rfl⟩) ⟨fun a U g mk q => by obtain ⟨q0, q1, qP, qK, qD, qN⟩ := q; exact ⟨q0, q1, qP, va_K.moved (u := U) (U := U.calling g mk a) (Vm.Alike.refl U.vm) qK, qD, kNw.same (u := U) (U := U.calling g mk a) rfl qN⟩, va_recv hK hP (ci := 2) (q0 := 101) rfl (kg101 (by omega)), fun U hU hW => ⟨rfl, by rw [hU], by rw [hU]; exact hP, va_K.moved hW.alike hK, hD.weaken (fun _ _ _ _ => trivial), kNw.warm hW hNw⟩⟩ rfl rfl hl.1 rfl (lv_room (Nat.le_of_ble_eq_true rfl)) dX0_replace_13 ⟨Nat.le_of_ble_eq_true rfl, Nat.le_of_ble_eq_true rfl⟩) hS (fun q _ h => hFc q h) hFc (fun u9 t H1 locs ht hvm hw hB hz1 hk1 hS => ?_)
      obtain ⟨hP1, hK1, hD1⟩ := hB
      rw [ht] at hP1
      rw [hw] at hP1 hD1
      have hD2 := hD1.weaken (B := A) (fun _ q _ h => hFc q.1 h)
      have hP := hP1
      have hD := hD2
      generalize H1 = H at hP hS ⊢
      refine lv_aload_n hx hb dX0_replace_16 rfl (lv_at hl 0 rfl) ?_
      refine va_get (D := (dC, dI)) (ci := 0) (v := .int (iI (((F_k_begin (x) ((1 : Int))).2).1 (87) 12))) (C := RX0) (T := TX0) (N := 15) hx hb hts hinX0 hown hK hP (87) (kg87 (by omega)) rfl 12 (by decide) (hts (.fieldLink RX0 68 "LikeWords$Grower" "from" "I") (by decide +kernel)) (fun _ h9 => h9) rfl dX0_replace_17 ?_
      refine lv_istore_n (lv' := [(2, .int (iI (((F_k_begin (x) ((1 : Int))).2).1 (87) 12))), (0, .ref (ad (87))), (1, .int (iI (b9)))]) hx hb dX0_replace_20 rfl hl (by decide) rfl (fun ls hl => ?_)
      exact (L (200)).1 ((F_k_begin (x) ((1 : Int))).2) (((F_k_begin (x) ((1 : Int))).2).1 (87) 12) ((by first | exact (gF_begin gf).1 c_5 | exact (gF_begin gf).2 c_5)) ((by have h9 := gKy_s (by first | exact (gF_begin gf).1 c_5 | exact (gF_begin gf).2 c_5); exact h9.2.2.2.2.2.2.1)) ((by have h9 := gKy_s (by first | exact (gF_begin gf).1 c_5 | exact (gF_begin gf).2 c_5); have h8 := h9.1.2.2.2.2.2.1; have h7 := h9.1.2.2.2.2.1; omega)) hres _ _ ls hP hD hS (lv_sub hl [1, 2, 0] rfl)
  exact key _ _ hP hS
