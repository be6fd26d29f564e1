-- deps: 30 31 32 33 34 35 36 37 38 39 40 41 42
/-- what holds of Known's rows -/
def knR (x : KS) (wl : Nat) : Prop := x.1 101 9 = (wl : Int) ∧ (wl = 32768 ∨ wl = 262144) ∧ (∀ j : Nat, iRL (x.2 102 j)) ∧ (∀ j : Nat, iRL (x.2 103 j)) ∧ (∀ j : Nat, iRL (x.2 104 j)) ∧ (∀ j : Nat, iRL (x.2 105 j))
def F_k_wipe_s  : Nat → Nat → KS → Int → Int × KS
  | 0, _, x, _ => (0, x)
  | n + 1, t, x, p0 => match t with
    | 0 => (fun (i : Int) => (if ((x).1 (101) 9) ≤ (i) then (0, kS (x) (101) 4 ((1 : Int))) else (if ((x).1 (101) 4) = (0) then F_k_wipe_s n 0 (kA (x) (102) (i).toNat ((0 : Int))) ((i) + (1 : Int)) else (0, kS (x) (101) 4 ((1 : Int)))))) p0
    | _ => (0, x)
theorem F_k_wipe_e0  (n : Nat) (x : KS) (i : Int) : F_k_wipe_s (n + 1) 0 x i = (if ((x).1 (101) 9) ≤ (i) then (0, kS (x) (101) 4 ((1 : Int))) else (if ((x).1 (101) 4) = (0) then F_k_wipe_s n 0 (kA (x) (102) (i).toNat ((0 : Int))) ((i) + (1 : Int)) else (0, kS (x) (101) 4 ((1 : Int))))) := rfl
def F_k_wipe (x : KS)  : Int × KS := F_k_wipe_s 262200 0 (x) ((0 : Int))
set_option maxHeartbeats 4000000 in
set_option maxRecDepth 100000 in
/-- LikeWords$Known, wipe -/
theorem c_k_wipe (l : Launch) (dC : Nat → ClassId) (dI : Nat → Nat → Nat) (ad : Nat → Nat) (cI cJ cZ cR : ClassId) (M wl sz : Nat) (x : KS)  (hM : 87 ≤ M) (hG : 106 ≤ M) (kn : knR x wl) (e01 : x.1 101 4 = 0 ∨ x.1 101 4 = 1) : Met l yX2_wipe wsX2_wipe ({ frames := 0, cells := 0, slots := 0, locals := 0 }) (kPc dC dI ad cI cJ cZ cR M wl sz x [.ref (ad 101)]) (va_Qv (fun u : KS => u = (F_k_wipe x).2) (kAt dC dI ad cI cJ cZ cR M wl (va_A (kWd cI cJ cZ cR wl ad M (x)) sz)) (va_A (kWd cI cJ cZ cR wl ad M (x)) sz)) 0 0 (va_A (kWd cI cJ cZ cR wl ad M (x)) sz) := by
  refine Met.ofW (cc := cX2_wipe) (maxL := 2) (ret := none) (by decide) rfl ?_
  intro p e s m args below meth c s₁ B hml hv
  obtain ⟨rfl, hsz, hP, hK, hD0, hNw⟩ := hv
  have hx := B.exec
  have hb := B.bytes
  have hr := B.returns
  have hts := atoms_spec (ws := wsX2_wipe) B.pre
  have hown : s.vm.findClass RX2 = some m.cls := findClass_of_methodNamed B.named
  have hlocks := B.notSynchronized
  have hinX2 : ∀ w ∈ u_ws RX2 TX2 7, w ∈ wsX2_wipe := by decide +kernel
  subst hsz
  have hD := hD0.self (sz := s.heap.size)
  generalize hAe : va_A (kWd cI cJ cZ cR wl ad M (x)) s.heap.size = A at hD ⊢
  have hA : ∀ q : Nat, s.heap.size ≤ q → A q := fun q h => by rw [← hAe]; exact Or.inr h
  have hS : va_S A s.heap s.heap [] := va_S.rf
  have hl := lv_entry ([.ref (ad 101)]) (n := 2) (Nat.le_of_ble_eq_true rfl)
  rw [lg_entry_eq]
  generalize (lg_sl ([.ref (ad 101)]) ++ List.replicate (2 - (lg_sl ([.ref (ad 101)])).length) Slot.unset).toArray = ls at hl ⊢
  have hl : lv_has ls 2 [(0, .ref (ad (101)))] := hl
  obtain ⟨hwl, wv, k2, k3, k4, k5⟩ := id kn
  have hwl31 : wl < 2147483648 := by omega
  have L : ∀ n : Nat, (∀ (y : KS) (i : Int), (knR y wl) → (y.1 101 4 = 0 ∨ y.1 101 4 = 1) → (0 ≤ i) → (i ≤ 262144) → (262144 - i < n) → F_k_wipe_s n 0 y i = F_k_wipe x → ∀ (H : Heap) (locs : List Loc) (ls : Array Slot), va_P (dC, dI) vwCl (kWd cI cJ cZ cR wl ad M (y)) H → va_D A (kWd cI cJ cZ cR wl ad M (y)) → va_S A s.heap H locs → lv_has ls 2 [(0, .ref (ad (101))), (1, .int (iI (i)))] → W p l e (headSpec wsX2_wipe ({ frames := 0, cells := 0, slots := 0, locals := 0 })).room s m ([.ref (ad 101)] : List Value).toArray below meth c H locs 0 0 (MQ below (va_Qv (fun u : KS => u = (F_k_wipe x).2) (kAt dC dI ad cI cJ cZ cR M wl A) A) ([.ref (ad 101)] : List Value).toArray s 0 0 A) (F0 m 2 ls [])) := by
    intro n
    induction n with
    | zero =>
      skip
      · intro y i kny ey i0 i1 fu hres
        exact absurd fu (by omega)
    | succ n ih =>
      skip
      · intro y i kny ey i0 i1 fu hres H locs ls hP hD hS hl
        rw [F_k_wipe_e0] at hres
        have hwly := kny.1
        refine lv_iload_n hx hb dX2_wipe_2 rfl (lv_at hl 1 rfl) ?_
        refine lv_aload_n hx hb dX2_wipe_3 rfl (lv_at hl 0 rfl) ?_
        refine va_get (D := (dC, dI)) (ci := 2) (v := .ref (ad (102))) (C := RX2) (T := TX2) (N := 7) hx hb hts hinX2 hown hK hP (101) (kg101 (by omega)) rfl 0 (by decide) (hts (.fieldLink RX2 16 "LikeWords$Known" "heads" "[J") (by decide +kernel)) (fun _ h9 => h9) rfl dX2_wipe_4 ?_
        refine va_alen (v := iI ((y).1 (101) 9)) hx hb hK hP (102) 1 (kgK102 (by omega) rfl) rfl (by rw [hwly]; exact iI_nat _) dX2_wipe_7 ?_
        refine wi_icmp_ge (tgt := 31) hx hb (by unfold iR; omega) (by unfold iR; omega) dX2_wipe_8 (by decide) (fun c_8 => ?_) (fun c_8 => ?_)
        · skip
          rw [if_pos c_8] at hres
          refine lv_aload_n hx hb dX2_wipe_31 rfl (lv_at hl 0 rfl) ?_
          refine lv_iconst (v := iI (1 : Int)) hx hb dX2_wipe_32 (by decide) ?_
          refine va_put (D := (dC, dI)) (ci := 2) (v := .int (iI ((1 : Int)))) (ty := .boolean) (C := RX2) (T := TX2) (N := 7) hx hb hts hinX2 tyX2 tyX2_ok nmX2 hown hK hP hD hS (101) (kg101 (by omega)) rfl 4 (by decide) (hts (.fieldLink RX2 29 "LikeWords$Known" "isEmpty" "Z") (by decide +kernel)) (fun _ h9 => h9) rfl (by decide +kernel) (kz _ (Or.inr rfl)) rfl (Nat.le_of_ble_eq_true rfl) dX2_wipe_33 (fun H locs hP hD hS => ?_)
          rw [ks101_4] at hP hD
          exact W.vret hx hb hr (fun t ht hW => ⟨⟨kS (y) (101) 4 ((1 : Int)), rfl, (by have h9 := congrArg (fun z : Int × KS => z.2) hres; exact h9), by rw [ht]; exact hP, va_K.moved hW.alike hK, hD⟩, hS.F ht⟩) hS.2.2 dX2_wipe_36
        · skip
          rw [if_neg c_8] at hres
          refine lv_aload_n hx hb dX2_wipe_11 rfl (lv_at hl 0 rfl) ?_
          refine va_get (D := (dC, dI)) (ci := 2) (v := .int (iI ((y).1 (101) 4))) (C := RX2) (T := TX2) (N := 7) hx hb hts hinX2 hown hK hP (101) (kg101 (by omega)) rfl 4 (by decide) (hts (.fieldLink RX2 29 "LikeWords$Known" "isEmpty" "Z") (by decide +kernel)) (fun _ h9 => h9) rfl dX2_wipe_12 ?_
          refine wi_if_ne (tgt := 31) hx hb (kR01 ey) dX2_wipe_15 (by decide) (fun c_15 => ?_) (fun c_15 => ?_)
          · skip
            rw [if_neg c_15] at hres
            refine lv_aload_n hx hb dX2_wipe_31 rfl (lv_at hl 0 rfl) ?_
            refine lv_iconst (v := iI (1 : Int)) hx hb dX2_wipe_32 (by decide) ?_
            refine va_put (D := (dC, dI)) (ci := 2) (v := .int (iI ((1 : Int)))) (ty := .boolean) (C := RX2) (T := TX2) (N := 7) hx hb hts hinX2 tyX2 tyX2_ok nmX2 hown hK hP hD hS (101) (kg101 (by omega)) rfl 4 (by decide) (hts (.fieldLink RX2 29 "LikeWords$Known" "isEmpty" "Z") (by decide +kernel)) (fun _ h9 => h9) rfl (by decide +kernel) (kz _ (Or.inr rfl)) rfl (Nat.le_of_ble_eq_true rfl) dX2_wipe_33 (fun H locs hP hD hS => ?_)
            rw [ks101_4] at hP hD
            exact W.vret hx hb hr (fun t ht hW => ⟨⟨kS (y) (101) 4 ((1 : Int)), rfl, (by have h9 := congrArg (fun z : Int × KS => z.2) hres; exact h9), by rw [ht]; exact hP, va_K.moved hW.alike hK, hD⟩, hS.F ht⟩) hS.2.2 dX2_wipe_36
          · skip
            rw [if_pos c_15] at hres
            refine lv_aload_n hx hb dX2_wipe_18 rfl (lv_at hl 0 rfl) ?_
            refine va_get (D := (dC, dI)) (ci := 2) (v := .ref (ad (102))) (C := RX2) (T := TX2) (N := 7) hx hb hts hinX2 hown hK hP (101) (kg101 (by omega)) rfl 0 (by decide) (hts (.fieldLink RX2 16 "LikeWords$Known" "heads" "[J") (by decide +kernel)) (fun _ h9 => h9) rfl dX2_wipe_19 ?_
            refine lv_iload_n hx hb dX2_wipe_22 rfl (lv_at hl 1 rfl) ?_
            refine lv_lconst (v := iL 0) hx hb dX2_wipe_23 (by decide) ?_
            refine wi_last (f := (y).2 102) (n := wl) hx hb hK hP hD hS (102) 1 (kgK102 (by omega) rfl) rfl (i := i) (x := (0 : Int)) (by omega) (by omega) hwl31 dX2_wipe_24 (fun H locs hP hD hS => ?_)
            rw [ksK102] at hP hD
            refine lv_iinc (v := iI ((i) + (1 : Int))) (lv' := [(1, .int (iI ((i) + (1 : Int)))), (0, .ref (ad (101)))]) hx hb dX2_wipe_25 hl (k := 1) rfl (iI_add _ _) (by decide) rfl (fun ls hl => ?_)
            refine lv_goto (tgt := 2) hx hb dX2_wipe_28 (by decide) ?_
            exact ih (kA (y) (102) (i).toNat ((0 : Int))) ((i) + (1 : Int)) (⟨kny.1, kny.2.1, iU_all (P := iRL) ⟨by decide, by decide⟩ kny.2.2.1, kny.2.2.2⟩) (ey) (by omega) (by omega) (by omega) hres _ _ ls hP hD hS (lv_sub hl [1, 0] rfl)
  have key : ∀ (H : Heap) (locs : List Loc), va_P (dC, dI) vwCl (kWd cI cJ cZ cR wl ad M (x)) H → va_S A s.heap H locs → W p l e (headSpec wsX2_wipe ({ frames := 0, cells := 0, slots := 0, locals := 0 })).room s m ([.ref (ad 101)] : List Value).toArray below meth c H locs 0 0 (MQ below (va_Qv (fun u : KS => u = (F_k_wipe x).2) (kAt dC dI ad cI cJ cZ cR M wl A) A) ([.ref (ad 101)] : List Value).toArray s 0 0 A) (F0 m 0 ls []) := by
    intro H locs hP hS
    have hres : F_k_wipe_s 262200 0 (x) ((0 : Int)) = F_k_wipe x := rfl
    refine lv_iconst (v := iI (0 : Int)) hx hb dX2_wipe_0 (by decide) ?_
    refine lv_istore_n (lv' := [(1, .int (iI ((0 : Int)))), (0, .ref (ad (101)))]) hx hb dX2_wipe_1 rfl hl (by decide) rfl (fun ls hl => ?_)
    exact (L (262200)) (x) ((0 : Int)) (kn) (e01) (by omega) (by omega) (by omega) hres _ _ ls hP hD hS (lv_sub hl [1, 0] rfl)
  exact key _ _ hP hS
theorem F_k_wipe_sfr  : ∀ n : Nat, (∀ (y : KS) (v0 : Int), ksame [(101, 4)] [102] y (F_k_wipe_s n 0 y v0).2) := by
  intro n
  induction n with
  | zero => exact fun y _ => km_rf _ _ _
  | succ n ih =>
    skip
    · intro y i
      rw [F_k_wipe_e0]
      by_cases hc : ((y).1 (101) 9) ≤ (i)
      · rw [if_pos hc]
        exact (km_s (List.Mem.head _) (km_rf _ _ _))
      · rw [if_neg hc]
        by_cases hc : ((y).1 (101) 4) = (0)
        · rw [if_pos hc]
          exact km_tr ((km_a (List.Mem.head _) (km_rf _ _ _))) (ih (kA (y) (102) (i).toNat ((0 : Int))) ((i) + (1 : Int)))
        · rw [if_neg hc]
          exact (km_s (List.Mem.head _) (km_rf _ _ _))
theorem F_k_wipe_fr (x : KS)  : ksame [(101, 4)] [102] x (F_k_wipe x).2 := by
  unfold F_k_wipe
  exact km_tr ((km_rf _ _ _)) ((F_k_wipe_sfr  (262200)) (x) ((0 : Int)))
theorem F_k_wipe_q (x : KS)   : kq [101] [102] x (F_k_wipe x).2 := kq_of (F_k_wipe_fr x) (kq_c (Or.inr (by decide)) kq_m) (kq_c (Or.inr (by decide)) kq_n)
def F_k_begin (x : KS) (b : Int) : Int × KS := (if (b) = (0) then (0, kS (kS (x) (101) 5 ((1 : Int))) (101) 6 ((1 : Int))) else (0, kS (kS (x) (101) 5 ((2 : Int))) (101) 6 ((1 : Int))))
set_option maxHeartbeats 4000000 in
set_option maxRecDepth 100000 in
/-- LikeWords$Known, begin -/
theorem c_k_begin (l : Launch) (dC : Nat → ClassId) (dI : Nat → Nat → Nat) (ad : Nat → Nat) (cI cJ cZ cR : ClassId) (M wl sz : Nat) (x : KS) (b : Int) (hM : 87 ≤ M) (hG : 106 ≤ M) (b01 : b = 0 ∨ b = 1) : Met l yX2_begin wsX2_begin ({ frames := 0, cells := 0, slots := 0, locals := 0 }) (kPc dC dI ad cI cJ cZ cR M wl sz x [.ref (ad 101), .int (iI b)]) (va_Qv (fun u : KS => u = (F_k_begin x b).2) (kAt dC dI ad cI cJ cZ cR M wl (va_A (kWd cI cJ cZ cR wl ad M (x)) sz)) (va_A (kWd cI cJ cZ cR wl ad M (x)) sz)) 0 0 (va_A (kWd cI cJ cZ cR wl ad M (x)) sz) := by
  refine Met.ofW (cc := cX2_begin) (maxL := 2) (ret := none) (by decide) rfl ?_
  intro p e s m args below meth c s₁ B hml hv
  obtain ⟨rfl, hsz, hP, hK, hD0, hNw⟩ := hv
  have hx := B.exec
  have hb := B.bytes
  have hr := B.returns
  have hts := atoms_spec (ws := wsX2_begin) B.pre
  have hown : s.vm.findClass RX2 = some m.cls := findClass_of_methodNamed B.named
  have hlocks := B.notSynchronized
  have hinX2 : ∀ w ∈ u_ws RX2 TX2 7, w ∈ wsX2_begin := by decide +kernel
  subst hsz
  have hD := hD0.self (sz := s.heap.size)
  generalize hAe : va_A (kWd cI cJ cZ cR wl ad M (x)) s.heap.size = A at hD ⊢
  have hA : ∀ q : Nat, s.heap.size ≤ q → A q := fun q h => by rw [← hAe]; exact Or.inr h
  have hS : va_S A s.heap s.heap [] := va_S.rf
  have hl := lv_entry ([.ref (ad 101), .int (iI b)]) (n := 2) (Nat.le_of_ble_eq_true rfl)
  rw [lg_entry_eq]
  generalize (lg_sl ([.ref (ad 101), .int (iI b)]) ++ List.replicate (2 - (lg_sl ([.ref (ad 101), .int (iI b)])).length) Slot.unset).toArray = ls at hl ⊢
  have hl : lv_has ls 2 [(0, .ref (ad (101))), (1, .int (iI (b)))] := hl
  have key : ∀ (H : Heap) (locs : List Loc), va_P (dC, dI) vwCl (kWd cI cJ cZ cR wl ad M (x)) H → va_S A s.heap H locs → W p l e (headSpec wsX2_begin ({ frames := 0, cells := 0, slots := 0, locals := 0 })).room s m ([.ref (ad 101), .int (iI b)] : List Value).toArray below meth c H locs 0 0 (MQ below (va_Qv (fun u : KS => u = (F_k_begin x b).2) (kAt dC dI ad cI cJ cZ cR M wl A) A) ([.ref (ad 101), .int (iI b)] : List Value).toArray s 0 0 A) (F0 m 0 ls []) := by
    intro H locs hP hS
    have hres : (if (b) = (0) then (0, kS (kS (x) (101) 5 ((1 : Int))) (101) 6 ((1 : Int))) else (0, kS (kS (x) (101) 5 ((2 : Int))) (101) 6 ((1 : Int)))) = F_k_begin x b := rfl
    refine lv_aload_n hx hb dX2_begin_0 rfl (lv_at hl 0 rfl) ?_
    refine lv_iload_n hx hb dX2_begin_1 rfl (lv_at hl 1 rfl) ?_
    refine wi_if_eq (tgt := 11) hx hb (kR01 b01) dX2_begin_2 (by decide) (fun c_2 => ?_) (fun c_2 => ?_)
    · skip
      rw [if_pos c_2] at hres
      refine lv_lconst (v := iL 1) hx hb dX2_begin_11 (by decide) ?_
      refine va_put (D := (dC, dI)) (ci := 2) (v := .long (iL ((1 : Int)))) (ty := .long) (C := RX2) (T := TX2) (N := 7) hx hb hts hinX2 tyX2 tyX2_ok nmX2 hown hK hP hD hS (101) (kg101 (by omega)) rfl 5 (by decide) (hts (.fieldLink RX2 36 "LikeWords$Known" "head" "J") (by decide +kernel)) (fun _ h9 => h9) rfl (by decide +kernel) rfl rfl (Nat.le_of_ble_eq_true rfl) dX2_begin_12 (fun H locs hP hD hS => ?_)
      rw [ks101_5] at hP hD
      refine lv_aload_n hx hb dX2_begin_15 rfl (lv_at hl 0 rfl) ?_
      refine lv_lconst (v := iL 1) hx hb dX2_begin_16 (by decide) ?_
      refine va_put (D := (dC, dI)) (ci := 2) (v := .long (iL ((1 : Int)))) (ty := .long) (C := RX2) (T := TX2) (N := 7) hx hb hts hinX2 tyX2 tyX2_ok nmX2 hown hK hP hD hS (101) (kg101 (by omega)) rfl 6 (by decide) (hts (.fieldLink RX2 40 "LikeWords$Known" "tail" "J") (by decide +kernel)) (fun _ h9 => h9) rfl (by decide +kernel) rfl rfl (Nat.le_of_ble_eq_true rfl) dX2_begin_17 (fun H locs hP hD hS => ?_)
      rw [ks101_6] at hP hD
      exact W.vret hx hb hr (fun t ht hW => ⟨⟨kS (kS (x) (101) 5 ((1 : Int))) (101) 6 ((1 : Int)), rfl, (by have h9 := congrArg (fun z : Int × KS => z.2) hres; exact h9), by rw [ht]; exact hP, va_K.moved hW.alike hK, hD⟩, hS.F ht⟩) hS.2.2 dX2_begin_20
    · skip
      rw [if_neg c_2] at hres
      refine lv_ldc2 (v := iL (2 : Int)) hx hb hown (hts (.constantLong RX2 34 (2)) (by decide +kernel)) dX2_begin_5 ?_
      refine lv_goto (tgt := 12) hx hb dX2_begin_8 (by decide) ?_
      refine va_put (D := (dC, dI)) (ci := 2) (v := .long (iL ((2 : Int)))) (ty := .long) (C := RX2) (T := TX2) (N := 7) hx hb hts hinX2 tyX2 tyX2_ok nmX2 hown hK hP hD hS (101) (kg101 (by omega)) rfl 5 (by decide) (hts (.fieldLink RX2 36 "LikeWords$Known" "head" "J") (by decide +kernel)) (fun _ h9 => h9) rfl (by decide +kernel) rfl rfl (Nat.le_of_ble_eq_true rfl) dX2_begin_12 (fun H locs hP hD hS => ?_)
      rw [ks101_5] at hP hD
      refine lv_aload_n hx hb dX2_begin_15 rfl (lv_at hl 0 rfl) ?_
      refine lv_lconst (v := iL 1) hx hb dX2_begin_16 (by decide) ?_
      refine va_put (D := (dC, dI)) (ci := 2) (v := .long (iL ((1 : Int)))) (ty := .long) (C := RX2) (T := TX2) (N := 7) hx hb hts hinX2 tyX2 tyX2_ok nmX2 hown hK hP hD hS (101) (kg101 (by omega)) rfl 6 (by decide) (hts (.fieldLink RX2 40 "LikeWords$Known" "tail" "J") (by decide +kernel)) (fun _ h9 => h9) rfl (by decide +kernel) rfl rfl (Nat.le_of_ble_eq_true rfl) dX2_begin_17 (fun H locs hP hD hS => ?_)
      rw [ks101_6] at hP hD
      exact W.vret hx hb hr (fun t ht hW => ⟨⟨kS (kS (x) (101) 5 ((2 : Int))) (101) 6 ((1 : Int)), rfl, (by have h9 := congrArg (fun z : Int × KS => z.2) hres; exact h9), by rw [ht]; exact hP, va_K.moved hW.alike hK, hD⟩, hS.F ht⟩) hS.2.2 dX2_begin_20
  exact key _ _ hP hS
theorem F_k_begin_fr (x : KS) (b : Int) : ksame [(101, 5), (101, 6)] [] x (F_k_begin x b).2 := by
  unfold F_k_begin
  by_cases hc : (b) = (0)
  · rw [if_pos hc]
    exact (km_s (List.Mem.tail _ (List.Mem.head _)) (km_s (List.Mem.head _) (km_rf _ _ _)))
  · rw [if_neg hc]
    exact (km_s (List.Mem.tail _ (List.Mem.head _)) (km_s (List.Mem.head _) (km_rf _ _ _)))
theorem F_k_begin_q (x : KS) (b : Int)  : kq [101] [] x (F_k_begin x b).2 := kq_of (F_k_begin_fr x b) (kq_c (Or.inr (by decide)) (kq_c (Or.inr (by decide)) kq_m)) kq_n
def F_k_push (x : KS) (z : Int) : Int × KS := (if (0) ≤ (iC ((x).1 (101) 5) ((1152921504606846976 : Int))) then (0, kS (x) (101) 6 ((((x).1 (101) 6) * ((4 : Int))) + (z))) else (0, kS (x) (101) 5 ((((x).1 (101) 5) * ((4 : Int))) + (z))))
set_option maxHeartbeats 4000000 in
set_option maxRecDepth 100000 in
/-- LikeWords$Known, push -/
theorem c_k_push (l : Launch) (dC : Nat → ClassId) (dI : Nat → Nat → Nat) (ad : Nat → Nat) (cI cJ cZ cR : ClassId) (M wl sz : Nat) (x : KS) (z : Int) (hM : 87 ≤ M) (hG : 106 ≤ M) (rh : iRL (x.1 101 5)) (rz : iR z) : Met l yX2_push wsX2_push ({ frames := 0, cells := 0, slots := 0, locals := 0 }) (kPc dC dI ad cI cJ cZ cR M wl sz x [.ref (ad 101), .int (iI z)]) (va_Qv (fun u : KS => u = (F_k_push x z).2) (kAt dC dI ad cI cJ cZ cR M wl (va_A (kWd cI cJ cZ cR wl ad M (x)) sz)) (va_A (kWd cI cJ cZ cR wl ad M (x)) sz)) 0 0 (va_A (kWd cI cJ cZ cR wl ad M (x)) sz) := by
  refine Met.ofW (cc := cX2_push) (maxL := 2) (ret := none) (by decide) rfl ?_
  intro p e s m args below meth c s₁ B hml hv
  obtain ⟨rfl, hsz, hP, hK, hD0, hNw⟩ := hv
  have hx := B.exec
  have hb := B.bytes
  have hr := B.returns
  have hts := atoms_spec (ws := wsX2_push) B.pre
  have hown : s.vm.findClass RX2 = some m.cls := findClass_of_methodNamed B.named
  have hlocks := B.notSynchronized
  have hinX2 : ∀ w ∈ u_ws RX2 TX2 7, w ∈ wsX2_push := by decide +kernel
  subst hsz
  have hD := hD0.self (sz := s.heap.size)
  generalize hAe : va_A (kWd cI cJ cZ cR wl ad M (x)) s.heap.size = A at hD ⊢
  have hA : ∀ q : Nat, s.heap.size ≤ q → A q := fun q h => by rw [← hAe]; exact Or.inr h
  have hS : va_S A s.heap s.heap [] := va_S.rf
  have hl := lv_entry ([.ref (ad 101), .int (iI z)]) (n := 2) (Nat.le_of_ble_eq_true rfl)
  rw [lg_entry_eq]
  generalize (lg_sl ([.ref (ad 101), .int (iI z)]) ++ List.replicate (2 - (lg_sl ([.ref (ad 101), .int (iI z)])).length) Slot.unset).toArray = ls at hl ⊢
  have hl : lv_has ls 2 [(0, .ref (ad (101))), (1, .int (iI (z)))] := hl
  have key : ∀ (H : Heap) (locs : List Loc), va_P (dC, dI) vwCl (kWd cI cJ cZ cR wl ad M (x)) H → va_S A s.heap H locs → W p l e (headSpec wsX2_push ({ frames := 0, cells := 0, slots := 0, locals := 0 })).room s m ([.ref (ad 101), .int (iI z)] : List Value).toArray below meth c H locs 0 0 (MQ below (va_Qv (fun u : KS => u = (F_k_push x z).2) (kAt dC dI ad cI cJ cZ cR M wl A) A) ([.ref (ad 101), .int (iI z)] : List Value).toArray s 0 0 A) (F0 m 0 ls []) := by
    intro H locs hP hS
    have hres : (if (0) ≤ (iC ((x).1 (101) 5) ((1152921504606846976 : Int))) then (0, kS (x) (101) 6 ((((x).1 (101) 6) * ((4 : Int))) + (z))) else (0, kS (x) (101) 5 ((((x).1 (101) 5) * ((4 : Int))) + (z)))) = F_k_push x z := rfl
    refine lv_aload_n hx hb dX2_push_0 rfl (lv_at hl 0 rfl) ?_
    refine va_get (D := (dC, dI)) (ci := 2) (v := .long (iL ((x).1 (101) 5))) (C := RX2) (T := TX2) (N := 7) hx hb hts hinX2 hown hK hP (101) (kg101 (by omega)) rfl 5 (by decide) (hts (.fieldLink RX2 36 "LikeWords$Known" "head" "J") (by decide +kernel)) (fun _ h9 => h9) rfl dX2_push_1 ?_
    refine lv_ldc2 (v := iL (1152921504606846976 : Int)) hx hb hown (hts (.constantLong RX2 43 (1152921504606846976)) (by decide +kernel)) dX2_push_4 ?_
    refine wi_lcmp hx hb rh ⟨by decide, by decide⟩ dX2_push_7 ?_
    refine wi_if_ge (tgt := 29) hx hb iC_R dX2_push_8 (by decide) (fun c_8 => ?_) (fun c_8 => ?_)
    · skip
      rw [if_pos c_8] at hres
      refine lv_aload_n hx hb dX2_push_29 rfl (lv_at hl 0 rfl) ?_
      refine lv_aload_n hx hb dX2_push_30 rfl (lv_at hl 0 rfl) ?_
      refine va_get (D := (dC, dI)) (ci := 2) (v := .long (iL ((x).1 (101) 6))) (C := RX2) (T := TX2) (N := 7) hx hb hts hinX2 hown hK hP (101) (kg101 (by omega)) rfl 6 (by decide) (hts (.fieldLink RX2 40 "LikeWords$Known" "tail" "J") (by decide +kernel)) (fun _ h9 => h9) rfl dX2_push_31 ?_
      refine lv_ldc2 (v := iL (4 : Int)) hx hb hown (hts (.constantLong RX2 45 (4)) (by decide +kernel)) dX2_push_34 ?_
      refine wi_lmul hx hb dX2_push_37 ?_
      refine lv_iload_n hx hb dX2_push_38 rfl (lv_at hl 1 rfl) ?_
      refine wi_i2l hx hb (by first | assumption | (unfold iR; omega) | exact kR01 (by assumption)) dX2_push_39 ?_
      refine wi_ladd hx hb dX2_push_40 ?_
      refine va_put (D := (dC, dI)) (ci := 2) (v := .long (iL ((((x).1 (101) 6) * ((4 : Int))) + (z)))) (ty := .long) (C := RX2) (T := TX2) (N := 7) hx hb hts hinX2 tyX2 tyX2_ok nmX2 hown hK hP hD hS (101) (kg101 (by omega)) rfl 6 (by decide) (hts (.fieldLink RX2 40 "LikeWords$Known" "tail" "J") (by decide +kernel)) (fun _ h9 => h9) rfl (by decide +kernel) rfl rfl (Nat.le_of_ble_eq_true rfl) dX2_push_41 (fun H locs hP hD hS => ?_)
      rw [ks101_6] at hP hD
      exact W.vret hx hb hr (fun t ht hW => ⟨⟨kS (x) (101) 6 ((((x).1 (101) 6) * ((4 : Int))) + (z)), rfl, (by have h9 := congrArg (fun z : Int × KS => z.2) hres; exact h9), by rw [ht]; exact hP, va_K.moved hW.alike hK, hD⟩, hS.F ht⟩) hS.2.2 dX2_push_44
    · skip
      rw [if_neg c_8] at hres
      refine lv_aload_n hx hb dX2_push_11 rfl (lv_at hl 0 rfl) ?_
      refine lv_aload_n hx hb dX2_push_12 rfl (lv_at hl 0 rfl) ?_
      refine va_get (D := (dC, dI)) (ci := 2) (v := .long (iL ((x).1 (101) 5))) (C := RX2) (T := TX2) (N := 7) hx hb hts hinX2 hown hK hP (101) (kg101 (by omega)) rfl 5 (by decide) (hts (.fieldLink RX2 36 "LikeWords$Known" "head" "J") (by decide +kernel)) (fun _ h9 => h9) rfl dX2_push_13 ?_
      refine lv_ldc2 (v := iL (4 : Int)) hx hb hown (hts (.constantLong RX2 45 (4)) (by decide +kernel)) dX2_push_16 ?_
      refine wi_lmul hx hb dX2_push_19 ?_
      refine lv_iload_n hx hb dX2_push_20 rfl (lv_at hl 1 rfl) ?_
      refine wi_i2l hx hb (by first | assumption | (unfold iR; omega) | exact kR01 (by assumption)) dX2_push_21 ?_
      refine wi_ladd hx hb dX2_push_22 ?_
      refine va_put (D := (dC, dI)) (ci := 2) (v := .long (iL ((((x).1 (101) 5) * ((4 : Int))) + (z)))) (ty := .long) (C := RX2) (T := TX2) (N := 7) hx hb hts hinX2 tyX2 tyX2_ok nmX2 hown hK hP hD hS (101) (kg101 (by omega)) rfl 5 (by decide) (hts (.fieldLink RX2 36 "LikeWords$Known" "head" "J") (by decide +kernel)) (fun _ h9 => h9) rfl (by decide +kernel) rfl rfl (Nat.le_of_ble_eq_true rfl) dX2_push_23 (fun H locs hP hD hS => ?_)
      rw [ks101_5] at hP hD
      refine lv_goto (tgt := 44) hx hb dX2_push_26 (by decide) ?_
      exact W.vret hx hb hr (fun t ht hW => ⟨⟨kS (x) (101) 5 ((((x).1 (101) 5) * ((4 : Int))) + (z)), rfl, (by have h9 := congrArg (fun z : Int × KS => z.2) hres; exact h9), by rw [ht]; exact hP, va_K.moved hW.alike hK, hD⟩, hS.F ht⟩) hS.2.2 dX2_push_44
  exact key _ _ hP hS
theorem F_k_push_fr (x : KS) (z : Int) : ksame [(101, 6), (101, 5)] [] x (F_k_push x z).2 := by
  unfold F_k_push
  by_cases hc : (0) ≤ (iC ((x).1 (101) 5) ((1152921504606846976 : Int)))
  · rw [if_pos hc]
    exact (km_s (List.Mem.head _) (km_rf _ _ _))
  · rw [if_neg hc]
    exact (km_s (List.Mem.tail _ (List.Mem.head _)) (km_rf _ _ _))
theorem F_k_push_q (x : KS) (z : Int)  : kq [101] [] x (F_k_push x z).2 := kq_of (F_k_push_fr x z) (kq_c (Or.inr (by decide)) (kq_c (Or.inr (by decide)) kq_m)) kq_n
def F_k_drop (x : KS)  : Int × KS := (if (iC ((x).1 (101) 6) ((1 : Int))) ≤ (0) then (0, kS (x) (101) 5 (iSr ((x).1 (101) 5) ((2 : Int)))) else (0, kS (x) (101) 6 (iSr ((x).1 (101) 6) ((2 : Int)))))
set_option maxHeartbeats 4000000 in
set_option maxRecDepth 100000 in
/-- LikeWords$Known, drop -/
theorem c_k_drop (l : Launch) (dC : Nat → ClassId) (dI : Nat → Nat → Nat) (ad : Nat → Nat) (cI cJ cZ cR : ClassId) (M wl sz : Nat) (x : KS)  (hM : 87 ≤ M) (hG : 106 ≤ M) (rt : iRL (x.1 101 6)) : Met l yX2_drop wsX2_drop ({ frames := 0, cells := 0, slots := 0, locals := 0 }) (kPc dC dI ad cI cJ cZ cR M wl sz x [.ref (ad 101)]) (va_Qv (fun u : KS => u = (F_k_drop x).2) (kAt dC dI ad cI cJ cZ cR M wl (va_A (kWd cI cJ cZ cR wl ad M (x)) sz)) (va_A (kWd cI cJ cZ cR wl ad M (x)) sz)) 0 0 (va_A (kWd cI cJ cZ cR wl ad M (x)) sz) := by
  refine Met.ofW (cc := cX2_drop) (maxL := 1) (ret := none) (by decide) rfl ?_
  intro p e s m args below meth c s₁ B hml hv
  obtain ⟨rfl, hsz, hP, hK, hD0, hNw⟩ := hv
  have hx := B.exec
  have hb := B.bytes
  have hr := B.returns
  have hts := atoms_spec (ws := wsX2_drop) B.pre
  have hown : s.vm.findClass RX2 = some m.cls := findClass_of_methodNamed B.named
  have hlocks := B.notSynchronized
  have hinX2 : ∀ w ∈ u_ws RX2 TX2 7, w ∈ wsX2_drop := by decide +kernel
  subst hsz
  have hD := hD0.self (sz := s.heap.size)
  generalize hAe : va_A (kWd cI cJ cZ cR wl ad M (x)) s.heap.size = A at hD ⊢
  have hA : ∀ q : Nat, s.heap.size ≤ q → A q := fun q h => by rw [← hAe]; exact Or.inr h
  have hS : va_S A s.heap s.heap [] := va_S.rf
  have hl := lv_entry ([.ref (ad 101)]) (n := 1) (Nat.le_of_ble_eq_true rfl)
  rw [lg_entry_eq]
  generalize (lg_sl ([.ref (ad 101)]) ++ List.replicate (1 - (lg_sl ([.ref (ad 101)])).length) Slot.unset).toArray = ls at hl ⊢
  have hl : lv_has ls 1 [(0, .ref (ad (101)))] := hl
  have key : ∀ (H : Heap) (locs : List Loc), va_P (dC, dI) vwCl (kWd cI cJ cZ cR wl ad M (x)) H → va_S A s.heap H locs → W p l e (headSpec wsX2_drop ({ frames := 0, cells := 0, slots := 0, locals := 0 })).room s m ([.ref (ad 101)] : List Value).toArray below meth c H locs 0 0 (MQ below (va_Qv (fun u : KS => u = (F_k_drop x).2) (kAt dC dI ad cI cJ cZ cR M wl A) A) ([.ref (ad 101)] : List Value).toArray s 0 0 A) (F0 m 0 ls []) := by
    intro H locs hP hS
    have hres : (if (iC ((x).1 (101) 6) ((1 : Int))) ≤ (0) then (0, kS (x) (101) 5 (iSr ((x).1 (101) 5) ((2 : Int)))) else (0, kS (x) (101) 6 (iSr ((x).1 (101) 6) ((2 : Int))))) = F_k_drop x := rfl
    refine lv_aload_n hx hb dX2_drop_0 rfl (lv_at hl 0 rfl) ?_
    refine va_get (D := (dC, dI)) (ci := 2) (v := .long (iL ((x).1 (101) 6))) (C := RX2) (T := TX2) (N := 7) hx hb hts hinX2 hown hK hP (101) (kg101 (by omega)) rfl 6 (by decide) (hts (.fieldLink RX2 40 "LikeWords$Known" "tail" "J") (by decide +kernel)) (fun _ h9 => h9) rfl dX2_drop_1 ?_
    refine lv_lconst (v := iL 1) hx hb dX2_drop_4 (by decide) ?_
    refine wi_lcmp hx hb rt ⟨by decide, by decide⟩ dX2_drop_5 ?_
    refine wi_if_le (tgt := 22) hx hb iC_R dX2_drop_6 (by decide) (fun c_6 => ?_) (fun c_6 => ?_)
    · skip
      rw [if_pos c_6] at hres
      refine lv_aload_n hx hb dX2_drop_22 rfl (lv_at hl 0 rfl) ?_
      refine lv_dup hx hb dX2_drop_23 rfl ?_
      refine va_get (D := (dC, dI)) (ci := 2) (v := .long (iL ((x).1 (101) 5))) (C := RX2) (T := TX2) (N := 7) hx hb hts hinX2 hown hK hP (101) (kg101 (by omega)) rfl 5 (by decide) (hts (.fieldLink RX2 36 "LikeWords$Known" "head" "J") (by decide +kernel)) (fun _ h9 => h9) rfl dX2_drop_24 ?_
      refine lv_iconst (v := iI (2 : Int)) hx hb dX2_drop_27 (by decide) ?_
      refine wk_lshr hx hb dX2_drop_28 ?_
      refine va_put (D := (dC, dI)) (ci := 2) (v := .long (iL (iSr ((x).1 (101) 5) ((2 : Int))))) (ty := .long) (C := RX2) (T := TX2) (N := 7) hx hb hts hinX2 tyX2 tyX2_ok nmX2 hown hK hP hD hS (101) (kg101 (by omega)) rfl 5 (by decide) (hts (.fieldLink RX2 36 "LikeWords$Known" "head" "J") (by decide +kernel)) (fun _ h9 => h9) rfl (by decide +kernel) rfl rfl (Nat.le_of_ble_eq_true rfl) dX2_drop_29 (fun H locs hP hD hS => ?_)
      rw [ks101_5] at hP hD
      exact W.vret hx hb hr (fun t ht hW => ⟨⟨kS (x) (101) 5 (iSr ((x).1 (101) 5) ((2 : Int))), rfl, (by have h9 := congrArg (fun z : Int × KS => z.2) hres; exact h9), by rw [ht]; exact hP, va_K.moved hW.alike hK, hD⟩, hS.F ht⟩) hS.2.2 dX2_drop_32
    · skip
      rw [if_neg c_6] at hres
      refine lv_aload_n hx hb dX2_drop_9 rfl (lv_at hl 0 rfl) ?_
      refine lv_dup hx hb dX2_drop_10 rfl ?_
      refine va_get (D := (dC, dI)) (ci := 2) (v := .long (iL ((x).1 (101) 6))) (C := RX2) (T := TX2) (N := 7) hx hb hts hinX2 hown hK hP (101) (kg101 (by omega)) rfl 6 (by decide) (hts (.fieldLink RX2 40 "LikeWords$Known" "tail" "J") (by decide +kernel)) (fun _ h9 => h9) rfl dX2_drop_11 ?_
      refine lv_iconst (v := iI (2 : Int)) hx hb dX2_drop_14 (by decide) ?_
      refine wk_lshr hx hb dX2_drop_15 ?_
      refine va_put (D := (dC, dI)) (ci := 2) (v := .long (iL (iSr ((x).1 (101) 6) ((2 : Int))))) (ty := .long) (C := RX2) (T := TX2) (N := 7) hx hb hts hinX2 tyX2 tyX2_ok nmX2 hown hK hP hD hS (101) (kg101 (by omega)) rfl 6 (by decide) (hts (.fieldLink RX2 40 "LikeWords$Known" "tail" "J") (by decide +kernel)) (fun _ h9 => h9) rfl (by decide +kernel) rfl rfl (Nat.le_of_ble_eq_true rfl) dX2_drop_16 (fun H locs hP hD hS => ?_)
      rw [ks101_6] at hP hD
      refine lv_goto (tgt := 32) hx hb dX2_drop_19 (by decide) ?_
      exact W.vret hx hb hr (fun t ht hW => ⟨⟨kS (x) (101) 6 (iSr ((x).1 (101) 6) ((2 : Int))), rfl, (by have h9 := congrArg (fun z : Int × KS => z.2) hres; exact h9), by rw [ht]; exact hP, va_K.moved hW.alike hK, hD⟩, hS.F ht⟩) hS.2.2 dX2_drop_32
  exact key _ _ hP hS
theorem F_k_drop_fr (x : KS)  : ksame [(101, 5), (101, 6)] [] x (F_k_drop x).2 := by
  unfold F_k_drop
  by_cases hc : (iC ((x).1 (101) 6) ((1 : Int))) ≤ (0)
  · rw [if_pos hc]
    exact (km_s (List.Mem.head _) (km_rf _ _ _))
  · rw [if_neg hc]
    exact (km_s (List.Mem.tail _ (List.Mem.head _)) (km_rf _ _ _))
theorem F_k_drop_q (x : KS)   : kq [101] [] x (F_k_drop x).2 := kq_of (F_k_drop_fr x) (kq_c (Or.inr (by decide)) (kq_c (Or.inr (by decide)) kq_m)) kq_n
theorem F_k_drop_t {x : KS} (rt : iRL (x.1 101 6)) : iRL ((F_k_drop x).2.1 101 6) := by
  unfold F_k_drop
  split
  · exact rt
  · exact iSr_RL _ _
theorem F_k_drop_h {x : KS} (rh : iRL (x.1 101 5)) : iRL ((F_k_drop x).2.1 101 5) := by
  unfold F_k_drop
  split
  · exact iSr_RL _ _
  · exact rh
def F_k_take_s  : Nat → Nat → KS → Int → Int → Int → Int → Int × KS
  | 0, _, x, _, _, _, _ => (0, x)
  | n + 1, t, x, p0, p1, p2, p3 => match t with
    | 0 => (fun (h9 : Int) (t9 : Int) (v : Int) (i : Int) => (if (v) ≤ (i) then (0, x) else F_k_take_s n 0 ((F_k_drop (x)).2) (h9) (t9) (v) ((i) + (1 : Int)))) p0 p1 p2 p3
    | _ => (0, x)
theorem F_k_take_e0  (n : Nat) (x : KS) (h9 : Int) (t9 : Int) (v : Int) (i : Int) : F_k_take_s (n + 1) 0 x h9 t9 v i = (if (v) ≤ (i) then (0, x) else F_k_take_s n 0 ((F_k_drop (x)).2) (h9) (t9) (v) ((i) + (1 : Int))) := rfl
def F_k_take (x : KS) (h9 : Int) (t9 : Int) (v : Int) : Int × KS := F_k_take_s 1010 0 (kS (kS (x) (101) 5 (h9)) (101) 6 (t9)) (h9) (t9) (v) ((0 : Int))
set_option maxHeartbeats 4000000 in
set_option maxRecDepth 100000 in
/-- LikeWords$Known, take -/
theorem c_k_take (l : Launch) (dC : Nat → ClassId) (dI : Nat → Nat → Nat) (ad : Nat → Nat) (cI cJ cZ cR : ClassId) (M wl sz : Nat) (x : KS) (h9 : Int) (t9 : Int) (v : Int) (hM : 87 ≤ M) (hG : 106 ≤ M) (rt : iRL t9) (v0 : -1000 ≤ v) (v1 : v ≤ 1000) : Met l yX2_take wsX2_take ({ frames := 1, cells := 0, slots := 0, locals := 20 }) (kPc dC dI ad cI cJ cZ cR M wl sz x [.ref (ad 101), .long (iL h9), .long (iL t9), .int (iI v)]) (va_Qv (fun u : KS => u = (F_k_take x h9 t9 v).2) (kAt dC dI ad cI cJ cZ cR M wl (va_A (kWd cI cJ cZ cR wl ad M (x)) sz)) (va_A (kWd cI cJ cZ cR wl ad M (x)) sz)) 0 0 (va_A (kWd cI cJ cZ cR wl ad M (x)) sz) := by
  refine Met.ofW (cc := cX2_take) (maxL := 7) (ret := none) (by decide) rfl ?_
  intro p e s m args below meth c s₁ B hml hv
  obtain ⟨rfl, hsz, hP, hK, hD0, hNw⟩ := hv
  have hx := B.exec
  have hb := B.bytes
  have hr := B.returns
  have hts := atoms_spec (ws := wsX2_take) B.pre
  have hown : s.vm.findClass RX2 = some m.cls := findClass_of_methodNamed B.named
  have hlocks := B.notSynchronized
  have hinX2 : ∀ w ∈ u_ws RX2 TX2 7, w ∈ wsX2_take := by decide +kernel
  subst hsz
  have hD := hD0.self (sz := s.heap.size)
  generalize hAe : va_A (kWd cI cJ cZ cR wl ad M (x)) s.heap.size = A at hD ⊢
  have hA : ∀ q : Nat, s.heap.size ≤ q → A q := fun q h => by rw [← hAe]; exact Or.inr h
  have hS : va_S A s.heap s.heap [] := va_S.rf
  have hl := lv_entry ([.ref (ad 101), .long (iL h9), .long (iL t9), .int (iI v)]) (n := 7) (Nat.le_of_ble_eq_true rfl)
  rw [lg_entry_eq]
  generalize (lg_sl ([.ref (ad 101), .long (iL h9), .long (iL t9), .int (iI v)]) ++ List.replicate (7 - (lg_sl ([.ref (ad 101), .long (iL h9), .long (iL t9), .int (iI v)])).length) Slot.unset).toArray = ls at hl ⊢
  have hl : lv_has ls 7 [(0, .ref (ad (101))), (1, .long (iL (h9))), (3, .long (iL (t9))), (5, .int (iI (v)))] := hl
  have L : ∀ n : Nat, (∀ (y : KS) (i : Int), (iRL (y.1 101 6)) → (0 ≤ i) → (i ≤ 1000) → (1000 - i < n) → F_k_take_s n 0 y h9 t9 v i = F_k_take x h9 t9 v → ∀ (H : Heap) (locs : List Loc) (ls : Array Slot), va_P (dC, dI) vwCl (kWd cI cJ cZ cR wl ad M (y)) H → va_D A (kWd cI cJ cZ cR wl ad M (y)) → va_S A s.heap H locs → lv_has ls 7 [(0, .ref (ad (101))), (1, .long (iL (h9))), (3, .long (iL (t9))), (5, .int (iI (v))), (6, .int (iI (i)))] → W p l e (headSpec wsX2_take ({ frames := 1, cells := 0, slots := 0, locals := 20 })).room s m ([.ref (ad 101), .long (iL h9), .long (iL t9), .int (iI v)] : List Value).toArray below meth c H locs 0 0 (MQ below (va_Qv (fun u : KS => u = (F_k_take x h9 t9 v).2) (kAt dC dI ad cI cJ cZ cR M wl A) A) ([.ref (ad 101), .long (iL h9), .long (iL t9), .int (iI v)] : List Value).toArray s 0 0 A) (F0 m 13 ls [])) := by
    intro n
    induction n with
    | zero =>
      skip
      · intro y i ty i0 i1 fu hres
        exact absurd fu (by omega)
    | succ n ih =>
      skip
      · intro y i ty i0 i1 fu hres H locs ls hP hD hS hl
        rw [F_k_take_e0] at hres
        refine lv_iload hx hb dX2_take_13 (lv_at hl 4 rfl) ?_
        refine lv_iload hx hb dX2_take_15 (lv_at hl 3 rfl) ?_
        refine wi_icmp_ge (tgt := 30) hx hb (by first | assumption | (unfold iR; omega) | exact kR01 (by assumption)) (by first | assumption | (unfold iR; omega) | exact kR01 (by assumption)) dX2_take_17 (by decide) (fun c_17 => ?_) (fun c_17 => ?_)
        · skip
          rw [if_pos c_17] at hres
          exact W.vret hx hb hr (fun t ht hW => ⟨⟨y, rfl, (by have h9 := congrArg (fun z : Int × KS => z.2) hres; exact h9), by rw [ht]; exact hP, va_K.moved hW.alike hK, hD⟩, hS.F ht⟩) hS.2.2 dX2_take_30
        · skip
          rw [if_neg c_17] at hres
          refine lv_aload_n hx hb dX2_take_20 rfl (lv_at hl 0 rfl) ?_
          have hFc : ∀ q, va_A (kWd cI cJ cZ cR wl ad M (y)) H.size q → A q := fun q hq => Or.elim hq (fun ⟨k, e, hk⟩ => hD.2 k (q, e) hk) (fun hk => hA q (Nat.le_trans hS.1 hk))
          refine va_callv (va_runV (b := ad (101)) (As := []) (rest := []) ⟨hx, hb, hml, hown, hts⟩ (c_k_drop l dC dI ad cI cJ cZ cR M wl H.size (y)   hM hG ty) (cwV 0 hts gX2_take_X2_drop rfl rfl rfl (by decide +kernel) ⟨Nat.le_of_ble_eq_true rfl, Nat.le_of_ble_eq_true rfl⟩) ⟨fun a U g mk q => by obtain ⟨q0, q1, qP, qK, qD, qN⟩ := q; exact ⟨q0, q1, qP, va_K.moved (u := U) (U := U.calling g mk a) (Vm.Alike.refl U.vm) qK, qD, kNw.same (u := U) (U := U.calling g mk a) rfl qN⟩, va_recv hK hP (ci := 2) (q0 := 101) rfl (kg101 (by omega)), fun U hU hW => ⟨rfl, by rw [hU], by rw [hU]; exact hP, va_K.moved hW.alike hK, hD.weaken (fun _ _ _ _ => trivial), kNw.warm hW hNw⟩⟩ rfl rfl hl.1 rfl (lv_room (Nat.le_of_ble_eq_true rfl)) dX2_take_21 ⟨Nat.le_of_ble_eq_true rfl, Nat.le_of_ble_eq_true rfl⟩) hS (fun q _ h => hFc q h) hFc (fun u9 t H1 locs ht hvm hw hB hz1 hk1 hS => ?_)
          obtain ⟨hP1, hK1, hD1⟩ := hB
          rw [ht] at hP1
          rw [hw] at hP1 hD1
          have hD2 := hD1.weaken (B := A) (fun _ q _ h => hFc q.1 h)
          have hP := hP1
          have hD := hD2
          generalize H1 = H at hP hS ⊢
          refine lv_iinc (v := iI ((i) + (1 : Int))) (lv' := [(6, .int (iI ((i) + (1 : Int)))), (0, .ref (ad (101))), (1, .long (iL (h9))), (3, .long (iL (t9))), (5, .int (iI (v)))]) hx hb dX2_take_24 hl (k := 4) rfl (iI_add _ _) (by decide) rfl (fun ls hl => ?_)
          refine lv_goto (tgt := 13) hx hb dX2_take_27 (by decide) ?_
          exact ih ((F_k_drop (y)).2) ((i) + (1 : Int)) (F_k_drop_t ty) (by omega) (by omega) (by omega) hres _ _ ls hP hD hS (lv_sub hl [1, 2, 3, 4, 0] rfl)
  have key : ∀ (H : Heap) (locs : List Loc), va_P (dC, dI) vwCl (kWd cI cJ cZ cR wl ad M (x)) H → va_S A s.heap H locs → W p l e (headSpec wsX2_take ({ frames := 1, cells := 0, slots := 0, locals := 20 })).room s m ([.ref (ad 101), .long (iL h9), .long (iL t9), .int (iI v)] : List Value).toArray below meth c H locs 0 0 (MQ below (va_Qv (fun u : KS => u = (F_k_take x h9 t9 v).2) (kAt dC dI ad cI cJ cZ cR M wl A) A) ([.ref (ad 101), .long (iL h9), .long (iL t9), .int (iI v)] : List Value).toArray s 0 0 A) (F0 m 0 ls []) := by
    intro H locs hP hS
    have hres : F_k_take_s 1010 0 (kS (kS (x) (101) 5 (h9)) (101) 6 (t9)) (h9) (t9) (v) ((0 : Int)) = F_k_take x h9 t9 v := rfl
    refine lv_aload_n hx hb dX2_take_0 rfl (lv_at hl 0 rfl) ?_
    refine lv_lload_n hx hb dX2_take_1 rfl (lv_at hl 1 rfl) ?_
    refine va_put (D := (dC, dI)) (ci := 2) (v := .long (iL (h9))) (ty := .long) (C := RX2) (T := TX2) (N := 7) hx hb hts hinX2 tyX2 tyX2_ok nmX2 hown hK hP hD hS (101) (kg101 (by omega)) rfl 5 (by decide) (hts (.fieldLink RX2 36 "LikeWords$Known" "head" "J") (by decide +kernel)) (fun _ h9 => h9) rfl (by decide +kernel) rfl rfl (Nat.le_of_ble_eq_true rfl) dX2_take_2 (fun H locs hP hD hS => ?_)
    rw [ks101_5] at hP hD
    refine lv_aload_n hx hb dX2_take_5 rfl (lv_at hl 0 rfl) ?_
    refine lv_lload_n hx hb dX2_take_6 rfl (lv_at hl 2 rfl) ?_
    refine va_put (D := (dC, dI)) (ci := 2) (v := .long (iL (t9))) (ty := .long) (C := RX2) (T := TX2) (N := 7) hx hb hts hinX2 tyX2 tyX2_ok nmX2 hown hK hP hD hS (101) (kg101 (by omega)) rfl 6 (by decide) (hts (.fieldLink RX2 40 "LikeWords$Known" "tail" "J") (by decide +kernel)) (fun _ h9 => h9) rfl (by decide +kernel) rfl rfl (Nat.le_of_ble_eq_true rfl) dX2_take_7 (fun H locs hP hD hS => ?_)
    rw [ks101_6] at hP hD
    refine lv_iconst (v := iI (0 : Int)) hx hb dX2_take_10 (by decide) ?_
    refine lv_istore (lv' := [(6, .int (iI ((0 : Int)))), (0, .ref (ad (101))), (1, .long (iL (h9))), (3, .long (iL (t9))), (5, .int (iI (v)))]) hx hb dX2_take_11 hl (by decide) rfl (fun ls hl => ?_)
    exact (L (1010)) (kS (kS (x) (101) 5 (h9)) (101) 6 (t9)) ((0 : Int)) (rt) (by omega) (by omega) (by omega) hres _ _ ls hP hD hS (lv_sub hl [1, 2, 3, 4, 0] rfl)
  exact key _ _ hP hS
theorem F_k_take_sfr  : ∀ n : Nat, (∀ (y : KS) (v0 : Int) (v1 : Int) (v2 : Int) (v3 : Int), ksame [(101, 5), (101, 6)] [] y (F_k_take_s n 0 y v0 v1 v2 v3).2) := by
  intro n
  induction n with
  | zero => exact fun y _ _ _ _ => km_rf _ _ _
  | succ n ih =>
    skip
    · intro y h9 t9 v i
      rw [F_k_take_e0]
      by_cases hc : (v) ≤ (i)
      · rw [if_pos hc]
        exact (km_rf _ _ _)
      · rw [if_neg hc]
        exact km_tr ((km_tr (km_rf _ _ _) (km_mono (km1 (List.Mem.head _) (km1 (List.Mem.tail _ (List.Mem.head _)) km0)) km0 (F_k_drop_fr (y))))) (ih ((F_k_drop (y)).2) (h9) (t9) (v) ((i) + (1 : Int)))
theorem F_k_take_fr (x : KS) (h9 : Int) (t9 : Int) (v : Int) : ksame [(101, 5), (101, 6)] [] x (F_k_take x h9 t9 v).2 := by
  unfold F_k_take
  exact km_tr ((km_s (List.Mem.tail _ (List.Mem.head _)) (km_s (List.Mem.head _) (km_rf _ _ _)))) ((F_k_take_sfr  (1010)) (kS (kS (x) (101) 5 (h9)) (101) 6 (t9)) (h9) (t9) (v) ((0 : Int)))
theorem F_k_take_q (x : KS) (h9 : Int) (t9 : Int) (v : Int)  : kq [101] [] x (F_k_take x h9 t9 v).2 := kq_of (F_k_take_fr x h9 t9 v) (kq_c (Or.inr (by decide)) (kq_c (Or.inr (by decide)) kq_m)) kq_n
def F_k_firstPlace (x : KS)  : Int × KS := (iNI (iUs (((((x).1 (101) 5) * ((31 : Int))) + ((x).1 (101) 6)) * ((-7046029254386353131 : Int))) ((44 : Int))) (((x).1 (101) 9) - ((4 : Int))), x)
set_option maxHeartbeats 4000000 in
set_option maxRecDepth 100000 in
/-- LikeWords$Known, firstPlace -/
theorem c_k_firstPlace (l : Launch) (dC : Nat → ClassId) (dI : Nat → Nat → Nat) (ad : Nat → Nat) (cI cJ cZ cR : ClassId) (M wl sz : Nat) (x : KS)  (hM : 87 ≤ M) (hG : 106 ≤ M) (kn : knR x wl) : Met l yX2_firstPlace wsX2_firstPlace ({ frames := 0, cells := 0, slots := 0, locals := 0 }) (kPc dC dI ad cI cJ cZ cR M wl sz x [.ref (ad 101)]) (va_Qi (fun (r : Int32) (u : KS) => r = iI (F_k_firstPlace x).1 ∧ u = (F_k_firstPlace x).2) (kAt dC dI ad cI cJ cZ cR M wl (va_A (kWd cI cJ cZ cR wl ad M (x)) sz)) (va_A (kWd cI cJ cZ cR wl ad M (x)) sz)) 0 0 (va_A (kWd cI cJ cZ cR wl ad M (x)) sz) := by
  refine Met.ofW (cc := cX2_firstPlace) (maxL := 3) (ret := (some .int)) (by decide) rfl ?_
  intro p e s m args below meth c s₁ B hml hv
  obtain ⟨rfl, hsz, hP, hK, hD0, hNw⟩ := hv
  have hx := B.exec
  have hb := B.bytes
  have hr := B.returns
  have hts := atoms_spec (ws := wsX2_firstPlace) B.pre
  have hown : s.vm.findClass RX2 = some m.cls := findClass_of_methodNamed B.named
  have hlocks := B.notSynchronized
  have hinX2 : ∀ w ∈ u_ws RX2 TX2 7, w ∈ wsX2_firstPlace := by decide +kernel
  subst hsz
  have hD := hD0.self (sz := s.heap.size)
  generalize hAe : va_A (kWd cI cJ cZ cR wl ad M (x)) s.heap.size = A at hD ⊢
  have hA : ∀ q : Nat, s.heap.size ≤ q → A q := fun q h => by rw [← hAe]; exact Or.inr h
  have hS : va_S A s.heap s.heap [] := va_S.rf
  have hl := lv_entry ([.ref (ad 101)]) (n := 3) (Nat.le_of_ble_eq_true rfl)
  rw [lg_entry_eq]
  generalize (lg_sl ([.ref (ad 101)]) ++ List.replicate (3 - (lg_sl ([.ref (ad 101)])).length) Slot.unset).toArray = ls at hl ⊢
  have hl : lv_has ls 3 [(0, .ref (ad (101)))] := hl
  obtain ⟨hwl, wv, k2, k3, k4, k5⟩ := id kn
  have hwl31 : wl < 2147483648 := by omega
  have key : ∀ (H : Heap) (locs : List Loc), va_P (dC, dI) vwCl (kWd cI cJ cZ cR wl ad M (x)) H → va_S A s.heap H locs → W p l e (headSpec wsX2_firstPlace ({ frames := 0, cells := 0, slots := 0, locals := 0 })).room s m ([.ref (ad 101)] : List Value).toArray below meth c H locs 0 0 (MQ below (va_Qi (fun (r : Int32) (u : KS) => r = iI (F_k_firstPlace x).1 ∧ u = (F_k_firstPlace x).2) (kAt dC dI ad cI cJ cZ cR M wl A) A) ([.ref (ad 101)] : List Value).toArray s 0 0 A) (F0 m 0 ls []) := by
    intro H locs hP hS
    have hres : (iNI (iUs (((((x).1 (101) 5) * ((31 : Int))) + ((x).1 (101) 6)) * ((-7046029254386353131 : Int))) ((44 : Int))) (((x).1 (101) 9) - ((4 : Int))), x) = F_k_firstPlace x := rfl
    refine lv_aload_n hx hb dX2_firstPlace_0 rfl (lv_at hl 0 rfl) ?_
    refine va_get (D := (dC, dI)) (ci := 2) (v := .long (iL ((x).1 (101) 5))) (C := RX2) (T := TX2) (N := 7) hx hb hts hinX2 hown hK hP (101) (kg101 (by omega)) rfl 5 (by decide) (hts (.fieldLink RX2 36 "LikeWords$Known" "head" "J") (by decide +kernel)) (fun _ h9 => h9) rfl dX2_firstPlace_1 ?_
    refine lv_ldc2 (v := iL (31 : Int)) hx hb hown (hts (.constantLong RX2 50 (31)) (by decide +kernel)) dX2_firstPlace_4 ?_
    refine wi_lmul hx hb dX2_firstPlace_7 ?_
    refine lv_aload_n hx hb dX2_firstPlace_8 rfl (lv_at hl 0 rfl) ?_
    refine va_get (D := (dC, dI)) (ci := 2) (v := .long (iL ((x).1 (101) 6))) (C := RX2) (T := TX2) (N := 7) hx hb hts hinX2 hown hK hP (101) (kg101 (by omega)) rfl 6 (by decide) (hts (.fieldLink RX2 40 "LikeWords$Known" "tail" "J") (by decide +kernel)) (fun _ h9 => h9) rfl dX2_firstPlace_9 ?_
    refine wi_ladd hx hb dX2_firstPlace_12 ?_
    refine lv_ldc2 (v := iL (-7046029254386353131 : Int)) hx hb hown (hts (.constantLong RX2 52 (-7046029254386353131)) (by decide +kernel)) dX2_firstPlace_13 ?_
    refine wi_lmul hx hb dX2_firstPlace_16 ?_
    refine lv_lstore_n (lv' := [(1, .long (iL (((((x).1 (101) 5) * ((31 : Int))) + ((x).1 (101) 6)) * ((-7046029254386353131 : Int))))), (0, .ref (ad (101)))]) hx hb dX2_firstPlace_17 rfl hl (by decide) rfl (fun ls hl => ?_)
    refine lv_lload_n hx hb dX2_firstPlace_18 rfl (lv_at hl 0 rfl) ?_
    refine lv_bipush (v := iI (44 : Int)) hx hb dX2_firstPlace_19 (by decide) ?_
    refine wk_lushr hx hb dX2_firstPlace_21 ?_
    refine wk_l2i hx hb dX2_firstPlace_22 ?_
    refine lv_aload_n hx hb dX2_firstPlace_23 rfl (lv_at hl 1 rfl) ?_
    refine va_get (D := (dC, dI)) (ci := 2) (v := .ref (ad (102))) (C := RX2) (T := TX2) (N := 7) hx hb hts hinX2 hown hK hP (101) (kg101 (by omega)) rfl 0 (by decide) (hts (.fieldLink RX2 16 "LikeWords$Known" "heads" "[J") (by decide +kernel)) (fun _ h9 => h9) rfl dX2_firstPlace_24 ?_
    refine va_alen (v := iI ((x).1 (101) 9)) hx hb hK hP (102) 1 (kgK102 (by omega) rfl) rfl (by rw [hwl]; exact iI_nat _) dX2_firstPlace_27 ?_
    refine lv_iconst (v := iI (4 : Int)) hx hb dX2_firstPlace_28 (by decide) ?_
    refine wi_isub hx hb dX2_firstPlace_29 ?_
    refine wk_iand hx hb dX2_firstPlace_30 ?_
    exact W.iret (v := iI (iNI (iUs (((((x).1 (101) 5) * ((31 : Int))) + ((x).1 (101) 6)) * ((-7046029254386353131 : Int))) ((44 : Int))) (((x).1 (101) 9) - ((4 : Int))))) hx hb hr (fun t ht hW => ⟨⟨iI (iNI (iUs (((((x).1 (101) 5) * ((31 : Int))) + ((x).1 (101) 6)) * ((-7046029254386353131 : Int))) ((44 : Int))) (((x).1 (101) 9) - ((4 : Int)))), x, rfl, ⟨(by have h9 := congrArg (fun z : Int × KS => iI z.1) hres; exact h9), (by have h9 := congrArg (fun z : Int × KS => z.2) hres; exact h9)⟩, by rw [ht]; exact hP, va_K.moved hW.alike hK, hD⟩, hS.F ht⟩) hS.2.2 dX2_firstPlace_31
  exact key _ _ hP hS
theorem F_k_firstPlace_fr (x : KS)  : ksame [] [] x (F_k_firstPlace x).2 := by
  unfold F_k_firstPlace
  exact (km_rf _ _ _)
theorem F_k_firstPlace_2 (x : KS)  : (F_k_firstPlace x).2 = x := km_nil (F_k_firstPlace_fr x)
theorem F_k_firstPlace_b {x : KS} {wl : Nat} (kn : knR x wl) : 0 ≤ (F_k_firstPlace x).1 ∧ (F_k_firstPlace x).1 ≤ (wl : Int) - 4 := by
  obtain ⟨hwl, wv, _⟩ := kn
  unfold F_k_firstPlace
  rw [hwl]
  exact iNI_b (by omega) (by omega)
def F_k_find_s  : Nat → Nat → KS → Int → Int → Int × KS
  | 0, _, x, _, _ => (0, x)
  | n + 1, t, x, p0, p1 => match t with
    | 0 => (fun (f9 : Int) (i : Int) => (if ((f9) + ((4 : Int))) ≤ (i) then ((0 : Int), x) else (if ((x).1 (101) 9) ≤ (i) then ((0 : Int), x) else (if (iC (((x).2 (102)) (i).toNat) ((x).1 (101) 5)) = (0) then (if (iC (((x).2 (103)) (i).toNat) ((x).1 (101) 6)) = (0) then ((1 : Int), (F_w_unpack (x) (92) (((x).2 (104)) (i).toNat) (((x).2 (105)) (i).toNat)).2) else F_k_find_s n 0 (x) (f9) ((i) + (1 : Int))) else F_k_find_s n 0 (x) (f9) ((i) + (1 : Int)))))) p0 p1
    | _ => (0, x)
theorem F_k_find_e0  (n : Nat) (x : KS) (f9 : Int) (i : Int) : F_k_find_s (n + 1) 0 x f9 i = (if ((f9) + ((4 : Int))) ≤ (i) then ((0 : Int), x) else (if ((x).1 (101) 9) ≤ (i) then ((0 : Int), x) else (if (iC (((x).2 (102)) (i).toNat) ((x).1 (101) 5)) = (0) then (if (iC (((x).2 (103)) (i).toNat) ((x).1 (101) 6)) = (0) then ((1 : Int), (F_w_unpack (x) (92) (((x).2 (104)) (i).toNat) (((x).2 (105)) (i).toNat)).2) else F_k_find_s n 0 (x) (f9) ((i) + (1 : Int))) else F_k_find_s n 0 (x) (f9) ((i) + (1 : Int))))) := rfl
def F_k_find (x : KS)  : Int × KS := F_k_find_s 10 0 (x) ((F_k_firstPlace (x)).1) ((F_k_firstPlace (x)).1)
set_option maxHeartbeats 4000000 in
set_option maxRecDepth 100000 in
/-- LikeWords$Known, find -/
theorem c_k_find (l : Launch) (dC : Nat → ClassId) (dI : Nat → Nat → Nat) (ad : Nat → Nat) (cI cJ cZ cR : ClassId) (M wl sz : Nat) (x : KS)  (hM : 87 ≤ M) (hG : 106 ≤ M) (kn : knR x wl) (rh : iRL (x.1 101 5)) (rt : iRL (x.1 101 6)) : Met l yX2_find wsX2_find ({ frames := 1, cells := 0, slots := 0, locals := 29 }) (kPc dC dI ad cI cJ cZ cR M wl sz x [.ref (ad 101), .ref (ad 92)]) (va_Qi (fun (r : Int32) (u : KS) => r = iI (F_k_find x).1 ∧ u = (F_k_find x).2) (kAt dC dI ad cI cJ cZ cR M wl (va_A (kWd cI cJ cZ cR wl ad M (x)) sz)) (va_A (kWd cI cJ cZ cR wl ad M (x)) sz)) 0 0 (va_A (kWd cI cJ cZ cR wl ad M (x)) sz) := by
  refine Met.ofW (cc := cX2_find) (maxL := 4) (ret := (some .boolean)) (by decide) rfl ?_
  intro p e s m args below meth c s₁ B hml hv
  obtain ⟨rfl, hsz, hP, hK, hD0, hNw⟩ := hv
  have hx := B.exec
  have hb := B.bytes
  have hr := B.returns
  have hts := atoms_spec (ws := wsX2_find) B.pre
  have hown : s.vm.findClass RX2 = some m.cls := findClass_of_methodNamed B.named
  have hlocks := B.notSynchronized
  have hinX2 : ∀ w ∈ u_ws RX2 TX2 7, w ∈ wsX2_find := by decide +kernel
  subst hsz
  have hD := hD0.self (sz := s.heap.size)
  generalize hAe : va_A (kWd cI cJ cZ cR wl ad M (x)) s.heap.size = A at hD ⊢
  have hA : ∀ q : Nat, s.heap.size ≤ q → A q := fun q h => by rw [← hAe]; exact Or.inr h
  have hS : va_S A s.heap s.heap [] := va_S.rf
  have hl := lv_entry ([.ref (ad 101), .ref (ad 92)]) (n := 4) (Nat.le_of_ble_eq_true rfl)
  rw [lg_entry_eq]
  generalize (lg_sl ([.ref (ad 101), .ref (ad 92)]) ++ List.replicate (4 - (lg_sl ([.ref (ad 101), .ref (ad 92)])).length) Slot.unset).toArray = ls at hl ⊢
  have hl : lv_has ls 4 [(0, .ref (ad (101))), (1, .ref (ad (92)))] := hl
  obtain ⟨hwl, wv, k2, k3, k4, k5⟩ := id kn
  have hwl31 : wl < 2147483648 := by omega
  have fp := F_k_firstPlace_b kn
  have L : ∀ n : Nat, (∀ (y : KS) (f9 : Int) (i : Int), (knR y wl) → (iRL (y.1 101 5)) → (iRL (y.1 101 6)) → (0 ≤ f9) → (f9 ≤ (wl : Int) - 4) → (f9 ≤ i) → (i ≤ f9 + 4) → (f9 + 4 - i < n) → F_k_find_s n 0 y f9 i = F_k_find x → ∀ (H : Heap) (locs : List Loc) (ls : Array Slot), va_P (dC, dI) vwCl (kWd cI cJ cZ cR wl ad M (y)) H → va_D A (kWd cI cJ cZ cR wl ad M (y)) → va_S A s.heap H locs → lv_has ls 4 [(0, .ref (ad (101))), (1, .ref (ad (92))), (2, .int (iI (f9))), (3, .int (iI (i)))] → W p l e (headSpec wsX2_find ({ frames := 1, cells := 0, slots := 0, locals := 29 })).room s m ([.ref (ad 101), .ref (ad 92)] : List Value).toArray below meth c H locs 0 0 (MQ below (va_Qi (fun (r : Int32) (u : KS) => r = iI (F_k_find x).1 ∧ u = (F_k_find x).2) (kAt dC dI ad cI cJ cZ cR M wl A) A) ([.ref (ad 101), .ref (ad 92)] : List Value).toArray s 0 0 A) (F0 m 7 ls [])) := by
    intro n
    induction n with
    | zero =>
      skip
      · intro y f9 i kny rhy rty f0 f1 i0 i1 fu hres
        exact absurd fu (by omega)
    | succ n ih =>
      skip
      · intro y f9 i kny rhy rty f0 f1 i0 i1 fu hres H locs ls hP hD hS hl
        rw [F_k_find_e0] at hres
        have hwly := kny.1
        refine lv_iload_n hx hb dX2_find_7 rfl (lv_at hl 3 rfl) ?_
        refine lv_iload_n hx hb dX2_find_8 rfl (lv_at hl 2 rfl) ?_
        refine lv_iconst (v := iI (4 : Int)) hx hb dX2_find_9 (by decide) ?_
        refine wi_iadd hx hb dX2_find_10 ?_
        refine wi_icmp_ge (tgt := 75) hx hb (by first | assumption | (unfold iR; omega) | exact kR01 (by assumption)) (by first | assumption | (unfold iR; omega) | exact kR01 (by assumption)) dX2_find_11 (by decide) (fun c_11 => ?_) (fun c_11 => ?_)
        · skip
          rw [if_pos c_11] at hres
          refine lv_iconst (v := iI (0 : Int)) hx hb dX2_find_75 (by decide) ?_
          exact W.zret (v := iI ((0 : Int))) hx hb hr (kz _ (by first | assumption | omega)) (fun t ht hW => ⟨⟨iI ((0 : Int)), y, rfl, ⟨(by have h9 := congrArg (fun z : Int × KS => iI z.1) hres; exact h9), (by have h9 := congrArg (fun z : Int × KS => z.2) hres; exact h9)⟩, by rw [ht]; exact hP, va_K.moved hW.alike hK, hD⟩, hS.F ht⟩) hS.2.2 dX2_find_76
        · skip
          rw [if_neg c_11] at hres
          refine lv_iload_n hx hb dX2_find_14 rfl (lv_at hl 3 rfl) ?_
          refine lv_aload_n hx hb dX2_find_15 rfl (lv_at hl 0 rfl) ?_
          refine va_get (D := (dC, dI)) (ci := 2) (v := .ref (ad (102))) (C := RX2) (T := TX2) (N := 7) hx hb hts hinX2 hown hK hP (101) (kg101 (by omega)) rfl 0 (by decide) (hts (.fieldLink RX2 16 "LikeWords$Known" "heads" "[J") (by decide +kernel)) (fun _ h9 => h9) rfl dX2_find_16 ?_
          refine va_alen (v := iI ((y).1 (101) 9)) hx hb hK hP (102) 1 (kgK102 (by omega) rfl) rfl (by rw [hwly]; exact iI_nat _) dX2_find_19 ?_
          refine wi_icmp_ge (tgt := 75) hx hb (by unfold iR; omega) (by unfold iR; omega) dX2_find_20 (by decide) (fun c_20 => ?_) (fun c_20 => ?_)
          · skip
            rw [if_pos c_20] at hres
            refine lv_iconst (v := iI (0 : Int)) hx hb dX2_find_75 (by decide) ?_
            exact W.zret (v := iI ((0 : Int))) hx hb hr (kz _ (by first | assumption | omega)) (fun t ht hW => ⟨⟨iI ((0 : Int)), y, rfl, ⟨(by have h9 := congrArg (fun z : Int × KS => iI z.1) hres; exact h9), (by have h9 := congrArg (fun z : Int × KS => z.2) hres; exact h9)⟩, by rw [ht]; exact hP, va_K.moved hW.alike hK, hD⟩, hS.F ht⟩) hS.2.2 dX2_find_76
          · skip
            rw [if_neg c_20] at hres
            refine lv_aload_n hx hb dX2_find_23 rfl (lv_at hl 0 rfl) ?_
            refine va_get (D := (dC, dI)) (ci := 2) (v := .ref (ad (102))) (C := RX2) (T := TX2) (N := 7) hx hb hts hinX2 hown hK hP (101) (kg101 (by omega)) rfl 0 (by decide) (hts (.fieldLink RX2 16 "LikeWords$Known" "heads" "[J") (by decide +kernel)) (fun _ h9 => h9) rfl dX2_find_24 ?_
            refine lv_iload_n hx hb dX2_find_27 rfl (lv_at hl 3 rfl) ?_
            refine wi_lald (f := (y).2 (102)) (n := wl) hx hb hK hP (102) 1 (kgK102 (by omega) rfl) rfl (i := i) (by omega) (by omega) hwl31 dX2_find_28 ?_
            refine lv_aload_n hx hb dX2_find_29 rfl (lv_at hl 0 rfl) ?_
            refine va_get (D := (dC, dI)) (ci := 2) (v := .long (iL ((y).1 (101) 5))) (C := RX2) (T := TX2) (N := 7) hx hb hts hinX2 hown hK hP (101) (kg101 (by omega)) rfl 5 (by decide) (hts (.fieldLink RX2 36 "LikeWords$Known" "head" "J") (by decide +kernel)) (fun _ h9 => h9) rfl dX2_find_30 ?_
            refine wi_lcmp hx hb (by first | exact kny.2.2.1 _ | exact rhy) (by first | exact kny.2.2.1 _ | exact rhy) dX2_find_33 ?_
            refine wi_if_ne (tgt := 69) hx hb iC_R dX2_find_34 (by decide) (fun c_34 => ?_) (fun c_34 => ?_)
            · skip
              rw [if_neg c_34] at hres
              refine lv_iinc (v := iI ((i) + (1 : Int))) (lv' := [(3, .int (iI ((i) + (1 : Int)))), (0, .ref (ad (101))), (1, .ref (ad (92))), (2, .int (iI (f9)))]) hx hb dX2_find_69 hl (k := 3) rfl (iI_add _ _) (by decide) rfl (fun ls hl => ?_)
              refine lv_goto (tgt := 7) hx hb dX2_find_72 (by decide) ?_
              exact ih (y) (f9) ((i) + (1 : Int)) (kny) (rhy) (rty) (f0) (f1) (by omega) (by omega) (by omega) hres _ _ ls hP hD hS (lv_sub hl [1, 2, 3, 0] rfl)
            · skip
              rw [if_pos c_34] at hres
              refine lv_aload_n hx hb dX2_find_37 rfl (lv_at hl 0 rfl) ?_
              refine va_get (D := (dC, dI)) (ci := 2) (v := .ref (ad (103))) (C := RX2) (T := TX2) (N := 7) hx hb hts hinX2 hown hK hP (101) (kg101 (by omega)) rfl 1 (by decide) (hts (.fieldLink RX2 20 "LikeWords$Known" "tails" "[J") (by decide +kernel)) (fun _ h9 => h9) rfl dX2_find_38 ?_
              refine lv_iload_n hx hb dX2_find_41 rfl (lv_at hl 3 rfl) ?_
              refine wi_lald (f := (y).2 (103)) (n := wl) hx hb hK hP (103) 1 (kgK103 (by omega) rfl) rfl (i := i) (by omega) (by omega) hwl31 dX2_find_42 ?_
              refine lv_aload_n hx hb dX2_find_43 rfl (lv_at hl 0 rfl) ?_
              refine va_get (D := (dC, dI)) (ci := 2) (v := .long (iL ((y).1 (101) 6))) (C := RX2) (T := TX2) (N := 7) hx hb hts hinX2 hown hK hP (101) (kg101 (by omega)) rfl 6 (by decide) (hts (.fieldLink RX2 40 "LikeWords$Known" "tail" "J") (by decide +kernel)) (fun _ h9 => h9) rfl dX2_find_44 ?_
              refine wi_lcmp hx hb (by first | exact kny.2.2.2.1 _ | exact rty) (by first | exact kny.2.2.2.1 _ | exact rty) dX2_find_47 ?_
              refine wi_if_ne (tgt := 69) hx hb iC_R dX2_find_48 (by decide) (fun c_48 => ?_) (fun c_48 => ?_)
              · skip
                rw [if_neg c_48] at hres
                refine lv_iinc (v := iI ((i) + (1 : Int))) (lv' := [(3, .int (iI ((i) + (1 : Int)))), (0, .ref (ad (101))), (1, .ref (ad (92))), (2, .int (iI (f9)))]) hx hb dX2_find_69 hl (k := 3) rfl (iI_add _ _) (by decide) rfl (fun ls hl => ?_)
                refine lv_goto (tgt := 7) hx hb dX2_find_72 (by decide) ?_
                exact ih (y) (f9) ((i) + (1 : Int)) (kny) (rhy) (rty) (f0) (f1) (by omega) (by omega) (by omega) hres _ _ ls hP hD hS (lv_sub hl [1, 2, 3, 0] rfl)
              · skip
                rw [if_pos c_48] at hres
                refine lv_aload_n hx hb dX2_find_51 rfl (lv_at hl 1 rfl) ?_
                refine lv_aload_n hx hb dX2_find_52 rfl (lv_at hl 0 rfl) ?_
                refine va_get (D := (dC, dI)) (ci := 2) (v := .ref (ad (104))) (C := RX2) (T := TX2) (N := 7) hx hb hts hinX2 hown hK hP (101) (kg101 (by omega)) rfl 2 (by decide) (hts (.fieldLink RX2 23 "LikeWords$Known" "endHeads" "[J") (by decide +kernel)) (fun _ h9 => h9) rfl dX2_find_53 ?_
                refine lv_iload_n hx hb dX2_find_56 rfl (lv_at hl 3 rfl) ?_
                refine wi_lald (f := (y).2 (104)) (n := wl) hx hb hK hP (104) 1 (kgK104 (by omega) rfl) rfl (i := i) (by omega) (by omega) hwl31 dX2_find_57 ?_
                refine lv_aload_n hx hb dX2_find_58 rfl (lv_at hl 0 rfl) ?_
                refine va_get (D := (dC, dI)) (ci := 2) (v := .ref (ad (105))) (C := RX2) (T := TX2) (N := 7) hx hb hts hinX2 hown hK hP (101) (kg101 (by omega)) rfl 3 (by decide) (hts (.fieldLink RX2 26 "LikeWords$Known" "endTails" "[J") (by decide +kernel)) (fun _ h9 => h9) rfl dX2_find_59 ?_
                refine lv_iload_n hx hb dX2_find_62 rfl (lv_at hl 3 rfl) ?_
                refine wi_lald (f := (y).2 (105)) (n := wl) hx hb hK hP (105) 1 (kgK105 (by omega) rfl) rfl (i := i) (by omega) (by omega) hwl31 dX2_find_63 ?_
                have hFc : ∀ q, va_A (kWd cI cJ cZ cR wl ad M (y)) H.size q → A q := fun q hq => Or.elim hq (fun ⟨k, e, hk⟩ => hD.2 k (q, e) hk) (fun hk => hA q (Nat.le_trans hS.1 hk))
                refine va_callv (va_runV (b := ad (92)) (As := [.long (iL (((y).2 (104)) (i).toNat)), .long (iL (((y).2 (105)) (i).toNat))]) (rest := []) ⟨hx, hb, hml, hown, hts⟩ (c_w_unpack l dC dI ad cI cJ cZ cR M wl H.size (y) (92) (((y).2 (104)) (i).toNat) (((y).2 (105)) (i).toNat) hM rfl (by omega) (kny.2.2.2.2.1 _) (kny.2.2.2.2.2 _)) (cwV 2 hts gX2_find_X10_unpack rfl rfl rfl (by decide +kernel) ⟨Nat.le_of_ble_eq_true rfl, Nat.le_of_ble_eq_true rfl⟩) ⟨fun a U g mk q => by obtain ⟨q0, q1, qP, qK, qD, qN⟩ := q; exact ⟨q0, q1, qP, va_K.moved (u := U) (U := U.calling g mk a) (Vm.Alike.refl U.vm) qK, qD, kNw.same (u := U) (U := U.calling g mk a) rfl qN⟩, va_recv hK hP (ci := 10) (q0 := 92) rfl (kgw rfl (by omega)), fun U hU hW => ⟨rfl, by rw [hU], by rw [hU]; exact hP, va_K.moved hW.alike hK, hD.weaken (fun _ _ _ _ => trivial), kNw.warm hW hNw⟩⟩ rfl rfl hl.1 rfl (lv_room (Nat.le_of_ble_eq_true rfl)) dX2_find_64 ⟨Nat.le_of_ble_eq_true rfl, Nat.le_of_ble_eq_true rfl⟩) hS (fun q _ h => hFc q h) hFc (fun u9 t H1 locs ht hvm hw hB hz1 hk1 hS => ?_)
                obtain ⟨hP1, hK1, hD1⟩ := hB
                rw [ht] at hP1
                rw [hw] at hP1 hD1
                have hD2 := hD1.weaken (B := A) (fun _ q _ h => hFc q.1 h)
                have hP := hP1
                have hD := hD2
                generalize H1 = H at hP hS ⊢
                refine lv_iconst (v := iI (1 : Int)) hx hb dX2_find_67 (by decide) ?_
                exact W.zret (v := iI ((1 : Int))) hx hb hr (kz _ (by first | assumption | omega)) (fun t ht hW => ⟨⟨iI ((1 : Int)), (F_w_unpack (y) (92) (((y).2 (104)) (i).toNat) (((y).2 (105)) (i).toNat)).2, rfl, ⟨(by have h9 := congrArg (fun z : Int × KS => iI z.1) hres; exact h9), (by have h9 := congrArg (fun z : Int × KS => z.2) hres; exact h9)⟩, by rw [ht]; exact hP, va_K.moved hW.alike hK, hD⟩, hS.F ht⟩) hS.2.2 dX2_find_68
  have key : ∀ (H : Heap) (locs : List Loc), va_P (dC, dI) vwCl (kWd cI cJ cZ cR wl ad M (x)) H → va_S A s.heap H locs → W p l e (headSpec wsX2_find ({ frames := 1, cells := 0, slots := 0, locals := 29 })).room s m ([.ref (ad 101), .ref (ad 92)] : List Value).toArray below meth c H locs 0 0 (MQ below (va_Qi (fun (r : Int32) (u : KS) => r = iI (F_k_find x).1 ∧ u = (F_k_find x).2) (kAt dC dI ad cI cJ cZ cR M wl A) A) ([.ref (ad 101), .ref (ad 92)] : List Value).toArray s 0 0 A) (F0 m 0 ls []) := by
    intro H locs hP hS
    have hres : F_k_find_s 10 0 (x) ((F_k_firstPlace (x)).1) ((F_k_firstPlace (x)).1) = F_k_find x := rfl
    refine lv_aload_n hx hb dX2_find_0 rfl (lv_at hl 0 rfl) ?_
    have hFc : ∀ q, va_A (kWd cI cJ cZ cR wl ad M (x)) H.size q → A q := fun q hq => Or.elim hq (fun ⟨k, e, hk⟩ => hD.2 k (q, e) hk) (fun hk => hA q (Nat.le_trans hS.1 hk))
    refine va_calli (va_runV (b := ad (101)) (As := []) (rest := []) ⟨hx, hb, hml, hown, hts⟩ (c_k_firstPlace l dC dI ad cI cJ cZ cR M wl H.size (x)   hM hG kn) (cwV 0 hts gX2_find_X2_firstPlace rfl rfl rfl (by decide +kernel) ⟨Nat.le_of_ble_eq_true rfl, Nat.le_of_ble_eq_true rfl⟩) ⟨fun a U g mk q => by obtain ⟨q0, q1, qP, qK, qD, qN⟩ := q; exact ⟨q0, q1, qP, va_K.moved (u := U) (U := U.calling g mk a) (Vm.Alike.refl U.vm) qK, qD, kNw.same (u := U) (U := U.calling g mk a) rfl qN⟩, va_recv hK hP (ci := 2) (q0 := 101) rfl (kg101 (by omega)), fun U hU hW => ⟨rfl, by rw [hU], by rw [hU]; exact hP, va_K.moved hW.alike hK, hD.weaken (fun _ _ _ _ => trivial), kNw.warm hW hNw⟩⟩ rfl rfl hl.1 rfl (lv_room (Nat.le_of_ble_eq_true rfl)) dX2_find_1 ⟨Nat.le_of_ble_eq_true rfl, Nat.le_of_ble_eq_true rfl⟩) hS (fun q _ h => hFc q h) hFc (fun r9 u9 t H1 locs ht hvm hw hB hz1 hk1 hS => ?_)
    obtain ⟨hP1, hK1, hD1⟩ := hB
    rw [ht] at hP1
    obtain ⟨hw1, hw2⟩ := hw
    rw [hw2] at hP1 hD1
    rw [hw1]
    rw [F_k_firstPlace_2] at hP1 hD1
    have hD2 := hD1.weaken (B := A) (fun _ q _ h => hFc q.1 h)
    have hP := hP1
    have hD := hD2
    generalize H1 = H at hP hS ⊢
    refine lv_istore_n (lv' := [(2, .int (iI ((F_k_firstPlace (x)).1))), (0, .ref (ad (101))), (1, .ref (ad (92)))]) hx hb dX2_find_4 rfl hl (by decide) rfl (fun ls hl => ?_)
    refine lv_iload_n hx hb dX2_find_5 rfl (lv_at hl 0 rfl) ?_
    refine lv_istore_n (lv' := [(3, .int (iI ((F_k_firstPlace (x)).1))), (2, .int (iI ((F_k_firstPlace (x)).1))), (0, .ref (ad (101))), (1, .ref (ad (92)))]) hx hb dX2_find_6 rfl hl (by decide) rfl (fun ls hl => ?_)
    exact (L (10)) (x) ((F_k_firstPlace (x)).1) ((F_k_firstPlace (x)).1) (kn) (rh) (rt) (fp.1) (fp.2) (by omega) (by omega) (by omega) hres _ _ ls hP hD hS (lv_sub hl [2, 3, 1, 0] rfl)
  exact key _ _ hP hS
theorem F_k_find_sfr  : ∀ n : Nat, (∀ (y : KS) (v0 : Int) (v1 : Int), ksame [(92, 1)] [93] y (F_k_find_s n 0 y v0 v1).2) := by
  intro n
  induction n with
  | zero => exact fun y _ _ => km_rf _ _ _
  | succ n ih =>
    skip
    · intro y f9 i
      rw [F_k_find_e0]
      by_cases hc : ((f9) + ((4 : Int))) ≤ (i)
      · rw [if_pos hc]
        exact (km_rf _ _ _)
      · rw [if_neg hc]
        by_cases hc : ((y).1 (101) 9) ≤ (i)
        · rw [if_pos hc]
          exact (km_rf _ _ _)
        · rw [if_neg hc]
          by_cases hc : (iC (((y).2 (102)) (i).toNat) ((y).1 (101) 5)) = (0)
          · rw [if_pos hc]
            by_cases hc : (iC (((y).2 (103)) (i).toNat) ((y).1 (101) 6)) = (0)
            · rw [if_pos hc]
              exact (km_tr (km_rf _ _ _) (km_mono (km1 (List.Mem.head _) km0) (km1 (List.Mem.head _) km0) (F_w_unpack_fr (y) (92) (((y).2 (104)) (i).toNat) (((y).2 (105)) (i).toNat))))
            · rw [if_neg hc]
              exact km_tr ((km_rf _ _ _)) (ih (y) (f9) ((i) + (1 : Int)))
          · rw [if_neg hc]
            exact km_tr ((km_rf _ _ _)) (ih (y) (f9) ((i) + (1 : Int)))
theorem F_k_find_fr (x : KS)  : ksame [(92, 1)] [93] x (F_k_find x).2 := by
  unfold F_k_find
  exact km_tr ((km_rf _ _ _)) ((F_k_find_sfr  (10)) (x) ((F_k_firstPlace (x)).1) ((F_k_firstPlace (x)).1))
theorem F_k_find_q (x : KS)   : kq [] [] x (F_k_find x).2 := kq_of (F_k_find_fr x) (kq_c (Or.inl rfl) kq_m) (kq_c (Or.inl rfl) kq_n)
def F_k_keep_s  : Nat → Nat → KS → Int → Int → Int → Int → Int → Int × KS
  | 0, _, x, _, _, _, _, _ => (0, x)
  | n + 1, t, x, p0, p1, p2, p3, p4 => match t with
    | 0 => (fun (f0 : Int) (t0 : Int) (f9 : Int) (b : Int) (i : Int) => (if ((f9) + ((4 : Int))) ≤ (i) then (0, kS (kA (kA (kA (kA (x) (102) (b).toNat ((x).1 (101) 5)) (103) (b).toNat ((x).1 (101) 6)) (104) (b).toNat ((F_w_pack (kA (kA (x) (102) (b).toNat ((x).1 (101) 5)) (103) (b).toNat ((x).1 (101) 6)) (88) (f0) (t0)).1)) (105) (b).toNat ((F_w_pack (kA (kA (kA (x) (102) (b).toNat ((x).1 (101) 5)) (103) (b).toNat ((x).1 (101) 6)) (104) (b).toNat ((F_w_pack (kA (kA (x) (102) (b).toNat ((x).1 (101) 5)) (103) (b).toNat ((x).1 (101) 6)) (88) (f0) (t0)).1)) (88) ((f0) + ((30 : Int))) (t0)).1)) (101) 4 ((0 : Int))) else (if ((x).1 (101) 9) ≤ (i) then (0, kS (kA (kA (kA (kA (x) (102) (b).toNat ((x).1 (101) 5)) (103) (b).toNat ((x).1 (101) 6)) (104) (b).toNat ((F_w_pack (kA (kA (x) (102) (b).toNat ((x).1 (101) 5)) (103) (b).toNat ((x).1 (101) 6)) (88) (f0) (t0)).1)) (105) (b).toNat ((F_w_pack (kA (kA (kA (x) (102) (b).toNat ((x).1 (101) 5)) (103) (b).toNat ((x).1 (101) 6)) (104) (b).toNat ((F_w_pack (kA (kA (x) (102) (b).toNat ((x).1 (101) 5)) (103) (b).toNat ((x).1 (101) 6)) (88) (f0) (t0)).1)) (88) ((f0) + ((30 : Int))) (t0)).1)) (101) 4 ((0 : Int))) else (if (iC (((x).2 (102)) (i).toNat) ((0 : Int))) = (0) then (0, kS (kA (kA (kA (kA (x) (102) (i).toNat ((x).1 (101) 5)) (103) (i).toNat ((x).1 (101) 6)) (104) (i).toNat ((F_w_pack (kA (kA (x) (102) (i).toNat ((x).1 (101) 5)) (103) (i).toNat ((x).1 (101) 6)) (88) (f0) (t0)).1)) (105) (i).toNat ((F_w_pack (kA (kA (kA (x) (102) (i).toNat ((x).1 (101) 5)) (103) (i).toNat ((x).1 (101) 6)) (104) (i).toNat ((F_w_pack (kA (kA (x) (102) (i).toNat ((x).1 (101) 5)) (103) (i).toNat ((x).1 (101) 6)) (88) (f0) (t0)).1)) (88) ((f0) + ((30 : Int))) (t0)).1)) (101) 4 ((0 : Int))) else (if (iC (((x).2 (102)) (i).toNat) ((x).1 (101) 5)) = (0) then (if (iC (((x).2 (103)) (i).toNat) ((x).1 (101) 6)) = (0) then (0, kS (kA (kA (kA (kA (x) (102) (i).toNat ((x).1 (101) 5)) (103) (i).toNat ((x).1 (101) 6)) (104) (i).toNat ((F_w_pack (kA (kA (x) (102) (i).toNat ((x).1 (101) 5)) (103) (i).toNat ((x).1 (101) 6)) (88) (f0) (t0)).1)) (105) (i).toNat ((F_w_pack (kA (kA (kA (x) (102) (i).toNat ((x).1 (101) 5)) (103) (i).toNat ((x).1 (101) 6)) (104) (i).toNat ((F_w_pack (kA (kA (x) (102) (i).toNat ((x).1 (101) 5)) (103) (i).toNat ((x).1 (101) 6)) (88) (f0) (t0)).1)) (88) ((f0) + ((30 : Int))) (t0)).1)) (101) 4 ((0 : Int))) else (if (0) < (iC (((x).2 (103)) (i).toNat) (((x).2 (103)) (b).toNat)) then F_k_keep_s n 0 (x) (f0) (t0) (f9) (i) ((i) + (1 : Int)) else (if (iC (((x).2 (103)) (i).toNat) (((x).2 (103)) (b).toNat)) = (0) then (if (iC (((x).2 (102)) (i).toNat) (((x).2 (102)) (b).toNat)) ≤ (0) then F_k_keep_s n 0 (x) (f0) (t0) (f9) (b) ((i) + (1 : Int)) else F_k_keep_s n 0 (x) (f0) (t0) (f9) (i) ((i) + (1 : Int))) else F_k_keep_s n 0 (x) (f0) (t0) (f9) (b) ((i) + (1 : Int))))) else (if (0) < (iC (((x).2 (103)) (i).toNat) (((x).2 (103)) (b).toNat)) then F_k_keep_s n 0 (x) (f0) (t0) (f9) (i) ((i) + (1 : Int)) else (if (iC (((x).2 (103)) (i).toNat) (((x).2 (103)) (b).toNat)) = (0) then (if (iC (((x).2 (102)) (i).toNat) (((x).2 (102)) (b).toNat)) ≤ (0) then F_k_keep_s n 0 (x) (f0) (t0) (f9) (b) ((i) + (1 : Int)) else F_k_keep_s n 0 (x) (f0) (t0) (f9) (i) ((i) + (1 : Int))) else F_k_keep_s n 0 (x) (f0) (t0) (f9) (b) ((i) + (1 : Int))))))))) p0 p1 p2 p3 p4
    | _ => (0, x)
theorem F_k_keep_e0  (n : Nat) (x : KS) (f0 : Int) (t0 : Int) (f9 : Int) (b : Int) (i : Int) : F_k_keep_s (n + 1) 0 x f0 t0 f9 b i = (if ((f9) + ((4 : Int))) ≤ (i) then (0, kS (kA (kA (kA (kA (x) (102) (b).toNat ((x).1 (101) 5)) (103) (b).toNat ((x).1 (101) 6)) (104) (b).toNat ((F_w_pack (kA (kA (x) (102) (b).toNat ((x).1 (101) 5)) (103) (b).toNat ((x).1 (101) 6)) (88) (f0) (t0)).1)) (105) (b).toNat ((F_w_pack (kA (kA (kA (x) (102) (b).toNat ((x).1 (101) 5)) (103) (b).toNat ((x).1 (101) 6)) (104) (b).toNat ((F_w_pack (kA (kA (x) (102) (b).toNat ((x).1 (101) 5)) (103) (b).toNat ((x).1 (101) 6)) (88) (f0) (t0)).1)) (88) ((f0) + ((30 : Int))) (t0)).1)) (101) 4 ((0 : Int))) else (if ((x).1 (101) 9) ≤ (i) then (0, kS (kA (kA (kA (kA (x) (102) (b).toNat ((x).1 (101) 5)) (103) (b).toNat ((x).1 (101) 6)) (104) (b).toNat ((F_w_pack (kA (kA (x) (102) (b).toNat ((x).1 (101) 5)) (103) (b).toNat ((x).1 (101) 6)) (88) (f0) (t0)).1)) (105) (b).toNat ((F_w_pack (kA (kA (kA (x) (102) (b).toNat ((x).1 (101) 5)) (103) (b).toNat ((x).1 (101) 6)) (104) (b).toNat ((F_w_pack (kA (kA (x) (102) (b).toNat ((x).1 (101) 5)) (103) (b).toNat ((x).1 (101) 6)) (88) (f0) (t0)).1)) (88) ((f0) + ((30 : Int))) (t0)).1)) (101) 4 ((0 : Int))) else (if (iC (((x).2 (102)) (i).toNat) ((0 : Int))) = (0) then (0, kS (kA (kA (kA (kA (x) (102) (i).toNat ((x).1 (101) 5)) (103) (i).toNat ((x).1 (101) 6)) (104) (i).toNat ((F_w_pack (kA (kA (x) (102) (i).toNat ((x).1 (101) 5)) (103) (i).toNat ((x).1 (101) 6)) (88) (f0) (t0)).1)) (105) (i).toNat ((F_w_pack (kA (kA (kA (x) (102) (i).toNat ((x).1 (101) 5)) (103) (i).toNat ((x).1 (101) 6)) (104) (i).toNat ((F_w_pack (kA (kA (x) (102) (i).toNat ((x).1 (101) 5)) (103) (i).toNat ((x).1 (101) 6)) (88) (f0) (t0)).1)) (88) ((f0) + ((30 : Int))) (t0)).1)) (101) 4 ((0 : Int))) else (if (iC (((x).2 (102)) (i).toNat) ((x).1 (101) 5)) = (0) then (if (iC (((x).2 (103)) (i).toNat) ((x).1 (101) 6)) = (0) then (0, kS (kA (kA (kA (kA (x) (102) (i).toNat ((x).1 (101) 5)) (103) (i).toNat ((x).1 (101) 6)) (104) (i).toNat ((F_w_pack (kA (kA (x) (102) (i).toNat ((x).1 (101) 5)) (103) (i).toNat ((x).1 (101) 6)) (88) (f0) (t0)).1)) (105) (i).toNat ((F_w_pack (kA (kA (kA (x) (102) (i).toNat ((x).1 (101) 5)) (103) (i).toNat ((x).1 (101) 6)) (104) (i).toNat ((F_w_pack (kA (kA (x) (102) (i).toNat ((x).1 (101) 5)) (103) (i).toNat ((x).1 (101) 6)) (88) (f0) (t0)).1)) (88) ((f0) + ((30 : Int))) (t0)).1)) (101) 4 ((0 : Int))) else (if (0) < (iC (((x).2 (103)) (i).toNat) (((x).2 (103)) (b).toNat)) then F_k_keep_s n 0 (x) (f0) (t0) (f9) (i) ((i) + (1 : Int)) else (if (iC (((x).2 (103)) (i).toNat) (((x).2 (103)) (b).toNat)) = (0) then (if (iC (((x).2 (102)) (i).toNat) (((x).2 (102)) (b).toNat)) ≤ (0) then F_k_keep_s n 0 (x) (f0) (t0) (f9) (b) ((i) + (1 : Int)) else F_k_keep_s n 0 (x) (f0) (t0) (f9) (i) ((i) + (1 : Int))) else F_k_keep_s n 0 (x) (f0) (t0) (f9) (b) ((i) + (1 : Int))))) else (if (0) < (iC (((x).2 (103)) (i).toNat) (((x).2 (103)) (b).toNat)) then F_k_keep_s n 0 (x) (f0) (t0) (f9) (i) ((i) + (1 : Int)) else (if (iC (((x).2 (103)) (i).toNat) (((x).2 (103)) (b).toNat)) = (0) then (if (iC (((x).2 (102)) (i).toNat) (((x).2 (102)) (b).toNat)) ≤ (0) then F_k_keep_s n 0 (x) (f0) (t0) (f9) (b) ((i) + (1 : Int)) else F_k_keep_s n 0 (x) (f0) (t0) (f9) (i) ((i) + (1 : Int))) else F_k_keep_s n 0 (x) (f0) (t0) (f9) (b) ((i) + (1 : Int)))))))) := rfl
def F_k_keep (x : KS) (f0 : Int) (t0 : Int) : Int × KS := F_k_keep_s 10 0 (x) (f0) (t0) ((F_k_firstPlace (x)).1) ((F_k_firstPlace (x)).1) ((F_k_firstPlace (x)).1)
set_option maxHeartbeats 4000000 in
set_option maxRecDepth 100000 in
/-- LikeWords$Known, keep -/
theorem c_k_keep (l : Launch) (dC : Nat → ClassId) (dI : Nat → Nat → Nat) (ad : Nat → Nat) (cI cJ cZ cR : ClassId) (M wl sz : Nat) (x : KS) (f0 : Int) (t0 : Int) (hM : 87 ≤ M) (hG : 106 ≤ M) (kn : knR x wl) (rh : iRL (x.1 101 5)) (rt : iRL (x.1 101 6)) (ra : ∀ j : Nat, 0 ≤ x.2 89 j ∧ x.2 89 j ≤ 3) (u0 : 0 ≤ x.1 88 1) (u1 : x.1 88 1 ≤ 60) (f1 : 0 ≤ f0) (f2 : f0 ≤ 500) (t1 : -1000 ≤ t0) (t2 : t0 ≤ 1000) : Met l yX2_keep wsX2_keep ({ frames := 1, cells := 0, slots := 0, locals := 25 }) (kPc dC dI ad cI cJ cZ cR M wl sz x [.ref (ad 101), .ref (ad 88), .int (iI f0), .int (iI t0)]) (va_Qv (fun u : KS => u = (F_k_keep x f0 t0).2) (kAt dC dI ad cI cJ cZ cR M wl (va_A (kWd cI cJ cZ cR wl ad M (x)) sz)) (va_A (kWd cI cJ cZ cR wl ad M (x)) sz)) 0 0 (va_A (kWd cI cJ cZ cR wl ad M (x)) sz) := by
  refine Met.ofW (cc := cX2_keep) (maxL := 7) (ret := none) (by decide) rfl ?_
  intro p e s m args below meth c s₁ B hml hv
  obtain ⟨rfl, hsz, hP, hK, hD0, hNw⟩ := hv
  have hx := B.exec
  have hb := B.bytes
  have hr := B.returns
  have hts := atoms_spec (ws := wsX2_keep) B.pre
  have hown : s.vm.findClass RX2 = some m.cls := findClass_of_methodNamed B.named
  have hlocks := B.notSynchronized
  have hinX2 : ∀ w ∈ u_ws RX2 TX2 7, w ∈ wsX2_keep := by decide +kernel
  subst hsz
  have hD := hD0.self (sz := s.heap.size)
  generalize hAe : va_A (kWd cI cJ cZ cR wl ad M (x)) s.heap.size = A at hD ⊢
  have hA : ∀ q : Nat, s.heap.size ≤ q → A q := fun q h => by rw [← hAe]; exact Or.inr h
  have hS : va_S A s.heap s.heap [] := va_S.rf
  have hl := lv_entry ([.ref (ad 101), .ref (ad 88), .int (iI f0), .int (iI t0)]) (n := 7) (Nat.le_of_ble_eq_true rfl)
  rw [lg_entry_eq]
  generalize (lg_sl ([.ref (ad 101), .ref (ad 88), .int (iI f0), .int (iI t0)]) ++ List.replicate (7 - (lg_sl ([.ref (ad 101), .ref (ad 88), .int (iI f0), .int (iI t0)])).length) Slot.unset).toArray = ls at hl ⊢
  have hl : lv_has ls 7 [(0, .ref (ad (101))), (1, .ref (ad (88))), (2, .int (iI (f0))), (3, .int (iI (t0)))] := hl
  obtain ⟨hwl, wv, k2, k3, k4, k5⟩ := id kn
  have hwl31 : wl < 2147483648 := by omega
  have fp := F_k_firstPlace_b kn
  have L : ∀ n : Nat, (∀ (y : KS) (f9 : Int) (b : Int) (i : Int), (knR y wl) → (iRL (y.1 101 5)) → (iRL (y.1 101 6)) → (∀ j : Nat, 0 ≤ y.2 89 j ∧ y.2 89 j ≤ 3) → (0 ≤ y.1 88 1) → (y.1 88 1 ≤ 60) → (0 ≤ f9) → (f9 ≤ (wl : Int) - 4) → (f9 ≤ b) → (b < f9 + 4) → (f9 ≤ i) → (i ≤ f9 + 4) → (f9 + 4 - i < n) → F_k_keep_s n 0 y f0 t0 f9 b i = F_k_keep x f0 t0 → ∀ (H : Heap) (locs : List Loc) (ls : Array Slot), va_P (dC, dI) vwCl (kWd cI cJ cZ cR wl ad M (y)) H → va_D A (kWd cI cJ cZ cR wl ad M (y)) → va_S A s.heap H locs → lv_has ls 7 [(0, .ref (ad (101))), (1, .ref (ad (88))), (2, .int (iI (f0))), (3, .int (iI (t0))), (4, .int (iI (f9))), (5, .int (iI (b))), (6, .int (iI (i)))] → W p l e (headSpec wsX2_keep ({ frames := 1, cells := 0, slots := 0, locals := 25 })).room s m ([.ref (ad 101), .ref (ad 88), .int (iI f0), .int (iI t0)] : List Value).toArray below meth c H locs 0 0 (MQ below (va_Qv (fun u : KS => u = (F_k_keep x f0 t0).2) (kAt dC dI ad cI cJ cZ cR M wl A) A) ([.ref (ad 101), .ref (ad 88), .int (iI f0), .int (iI t0)] : List Value).toArray s 0 0 A) (F0 m 14 ls [])) := by
    intro n
    induction n with
    | zero =>
      skip
      · intro y f9 b i kny rhy rty ray uy0 uy1 ff0 f19 b0 b1 i0 i1 fu hres
        exact absurd fu (by omega)
    | succ n ih =>
      skip
      · intro y f9 b i kny rhy rty ray uy0 uy1 ff0 f19 b0 b1 i0 i1 fu hres H locs ls hP hD hS hl
        rw [F_k_keep_e0] at hres
        have hwly := kny.1
        refine lv_iload hx hb dX2_keep_14 (lv_at hl 6 rfl) ?_
        refine lv_iload hx hb dX2_keep_16 (lv_at hl 4 rfl) ?_
        refine lv_iconst (v := iI (4 : Int)) hx hb dX2_keep_18 (by decide) ?_
        refine wi_iadd hx hb dX2_keep_19 ?_
        refine wi_icmp_ge (tgt := 146) hx hb (by first | assumption | (unfold iR; omega) | exact kR01 (by assumption)) (by first | assumption | (unfold iR; omega) | exact kR01 (by assumption)) dX2_keep_20 (by decide) (fun c_20 => ?_) (fun c_20 => ?_)
        · skip
          rw [if_pos c_20] at hres
          refine lv_aload_n hx hb dX2_keep_146 rfl (lv_at hl 0 rfl) ?_
          refine va_get (D := (dC, dI)) (ci := 2) (v := .ref (ad (102))) (C := RX2) (T := TX2) (N := 7) hx hb hts hinX2 hown hK hP (101) (kg101 (by omega)) rfl 0 (by decide) (hts (.fieldLink RX2 16 "LikeWords$Known" "heads" "[J") (by decide +kernel)) (fun _ h9 => h9) rfl dX2_keep_147 ?_
          refine lv_iload hx hb dX2_keep_150 (lv_at hl 5 rfl) ?_
          refine lv_aload_n hx hb dX2_keep_152 rfl (lv_at hl 0 rfl) ?_
          refine va_get (D := (dC, dI)) (ci := 2) (v := .long (iL ((y).1 (101) 5))) (C := RX2) (T := TX2) (N := 7) hx hb hts hinX2 hown hK hP (101) (kg101 (by omega)) rfl 5 (by decide) (hts (.fieldLink RX2 36 "LikeWords$Known" "head" "J") (by decide +kernel)) (fun _ h9 => h9) rfl dX2_keep_153 ?_
          refine wi_last (f := (y).2 102) (n := wl) hx hb hK hP hD hS (102) 1 (kgK102 (by omega) rfl) rfl (i := b) (x := (y).1 (101) 5) (by omega) (by omega) hwl31 dX2_keep_156 (fun H locs hP hD hS => ?_)
          rw [ksK102] at hP hD
          refine lv_aload_n hx hb dX2_keep_157 rfl (lv_at hl 0 rfl) ?_
          refine va_get (D := (dC, dI)) (ci := 2) (v := .ref (ad (103))) (C := RX2) (T := TX2) (N := 7) hx hb hts hinX2 hown hK hP (101) (kg101 (by omega)) rfl 1 (by decide) (hts (.fieldLink RX2 20 "LikeWords$Known" "tails" "[J") (by decide +kernel)) (fun _ h9 => h9) rfl dX2_keep_158 ?_
          refine lv_iload hx hb dX2_keep_161 (lv_at hl 5 rfl) ?_
          refine lv_aload_n hx hb dX2_keep_163 rfl (lv_at hl 0 rfl) ?_
          refine va_get (D := (dC, dI)) (ci := 2) (v := .long (iL ((y).1 (101) 6))) (C := RX2) (T := TX2) (N := 7) hx hb hts hinX2 hown hK hP (101) (kg101 (by omega)) rfl 6 (by decide) (hts (.fieldLink RX2 40 "LikeWords$Known" "tail" "J") (by decide +kernel)) (fun _ h9 => h9) rfl dX2_keep_164 ?_
          refine wi_last (f := (kA (y) (102) (b).toNat ((y).1 (101) 5)).2 103) (n := wl) hx hb hK hP hD hS (103) 1 (kgK103 (by omega) rfl) rfl (i := b) (x := (y).1 (101) 6) (by omega) (by omega) hwl31 dX2_keep_167 (fun H locs hP hD hS => ?_)
          rw [ksK103] at hP hD
          refine lv_aload_n hx hb dX2_keep_168 rfl (lv_at hl 0 rfl) ?_
          refine va_get (D := (dC, dI)) (ci := 2) (v := .ref (ad (104))) (C := RX2) (T := TX2) (N := 7) hx hb hts hinX2 hown hK hP (101) (kg101 (by omega)) rfl 2 (by decide) (hts (.fieldLink RX2 23 "LikeWords$Known" "endHeads" "[J") (by decide +kernel)) (fun _ h9 => h9) rfl dX2_keep_169 ?_
          refine lv_iload hx hb dX2_keep_172 (lv_at hl 5 rfl) ?_
          refine lv_aload_n hx hb dX2_keep_174 rfl (lv_at hl 1 rfl) ?_
          refine lv_iload_n hx hb dX2_keep_175 rfl (lv_at hl 2 rfl) ?_
          refine lv_iload_n hx hb dX2_keep_176 rfl (lv_at hl 3 rfl) ?_
          have hFc : ∀ q, va_A (kWd cI cJ cZ cR wl ad M (kA (kA (y) (102) (b).toNat ((y).1 (101) 5)) (103) (b).toNat ((y).1 (101) 6))) H.size q → A q := fun q hq => Or.elim hq (fun ⟨k, e, hk⟩ => hD.2 k (q, e) hk) (fun hk => hA q (Nat.le_trans hS.1 hk))
          refine va_calll (va_runV (b := ad (88)) (As := [.int (iI (f0)), .int (iI (t0))]) (rest := [.int (iI (b)), .ref (ad (104))]) ⟨hx, hb, hml, hown, hts⟩ (c_w_pack l dC dI ad cI cJ cZ cR M wl H.size (kA (kA (y) (102) (b).toNat ((y).1 (101) 5)) (103) (b).toNat ((y).1 (101) 6)) (88) (f0) (t0) hM rfl (by omega) (by omega) (by omega) (by unfold iR; omega) uy0 uy1 (fun j => by have := ray j; show iR (y.2 89 j); unfold iR; omega)) (cwV 2 hts gX2_keep_X10_pack rfl rfl rfl (by decide +kernel) ⟨Nat.le_of_ble_eq_true rfl, Nat.le_of_ble_eq_true rfl⟩) ⟨fun a U g mk q => by obtain ⟨q0, q1, qP, qK, qD, qN⟩ := q; exact ⟨q0, q1, qP, va_K.moved (u := U) (U := U.calling g mk a) (Vm.Alike.refl U.vm) qK, qD, kNw.same (u := U) (U := U.calling g mk a) rfl qN⟩, va_recv hK hP (ci := 10) (q0 := 88) rfl (kgw rfl (by omega)), fun U hU hW => ⟨rfl, by rw [hU], by rw [hU]; exact hP, va_K.moved hW.alike hK, hD.weaken (fun _ _ _ _ => trivial), kNw.warm hW hNw⟩⟩ rfl rfl hl.1 rfl (lv_room (Nat.le_of_ble_eq_true rfl)) dX2_keep_177 ⟨Nat.le_of_ble_eq_true rfl, Nat.le_of_ble_eq_true rfl⟩) hS (fun q _ h => hFc q h) hFc (fun r9 u9 t H1 locs ht hvm hw hB hz1 hk1 hS => ?_)
          obtain ⟨hP1, hK1, hD1⟩ := hB
          rw [ht] at hP1
          obtain ⟨hw1, hw2⟩ := hw
          rw [hw2] at hP1 hD1
          rw [hw1]
          rw [F_w_pack_2] at hP1 hD1
          have hD2 := hD1.weaken (B := A) (fun _ q _ h => hFc q.1 h)
          have hP := hP1
          have hD := hD2
          generalize H1 = H at hP hS ⊢
          refine wi_last (f := (kA (kA (y) (102) (b).toNat ((y).1 (101) 5)) (103) (b).toNat ((y).1 (101) 6)).2 104) (n := wl) hx hb hK hP hD hS (104) 1 (kgK104 (by omega) rfl) rfl (i := b) (x := (F_w_pack (kA (kA (y) (102) (b).toNat ((y).1 (101) 5)) (103) (b).toNat ((y).1 (101) 6)) (88) (f0) (t0)).1) (by omega) (by omega) hwl31 dX2_keep_180 (fun H locs hP hD hS => ?_)
          rw [ksK104] at hP hD
          refine lv_aload_n hx hb dX2_keep_181 rfl (lv_at hl 0 rfl) ?_
          refine va_get (D := (dC, dI)) (ci := 2) (v := .ref (ad (105))) (C := RX2) (T := TX2) (N := 7) hx hb hts hinX2 hown hK hP (101) (kg101 (by omega)) rfl 3 (by decide) (hts (.fieldLink RX2 26 "LikeWords$Known" "endTails" "[J") (by decide +kernel)) (fun _ h9 => h9) rfl dX2_keep_182 ?_
          refine lv_iload hx hb dX2_keep_185 (lv_at hl 5 rfl) ?_
          refine lv_aload_n hx hb dX2_keep_187 rfl (lv_at hl 1 rfl) ?_
          refine lv_iload_n hx hb dX2_keep_188 rfl (lv_at hl 2 rfl) ?_
          refine lv_bipush (v := iI (30 : Int)) hx hb dX2_keep_189 (by decide) ?_
          refine wi_iadd hx hb dX2_keep_191 ?_
          refine lv_iload_n hx hb dX2_keep_192 rfl (lv_at hl 3 rfl) ?_
          have hFc : ∀ q, va_A (kWd cI cJ cZ cR wl ad M (kA (kA (kA (y) (102) (b).toNat ((y).1 (101) 5)) (103) (b).toNat ((y).1 (101) 6)) (104) (b).toNat ((F_w_pack (kA (kA (y) (102) (b).toNat ((y).1 (101) 5)) (103) (b).toNat ((y).1 (101) 6)) (88) (f0) (t0)).1))) H.size q → A q := fun q hq => Or.elim hq (fun ⟨k, e, hk⟩ => hD.2 k (q, e) hk) (fun hk => hA q (Nat.le_trans hS.1 hk))
          refine va_calll (va_runV (b := ad (88)) (As := [.int (iI ((f0) + ((30 : Int)))), .int (iI (t0))]) (rest := [.int (iI (b)), .ref (ad (105))]) ⟨hx, hb, hml, hown, hts⟩ (c_w_pack l dC dI ad cI cJ cZ cR M wl H.size (kA (kA (kA (y) (102) (b).toNat ((y).1 (101) 5)) (103) (b).toNat ((y).1 (101) 6)) (104) (b).toNat ((F_w_pack (kA (kA (y) (102) (b).toNat ((y).1 (101) 5)) (103) (b).toNat ((y).1 (101) 6)) (88) (f0) (t0)).1)) (88) ((f0) + ((30 : Int))) (t0) hM rfl (by omega) (by omega) (by omega) (by unfold iR; omega) uy0 uy1 (fun j => by have := ray j; show iR (y.2 89 j); unfold iR; omega)) (cwV 2 hts gX2_keep_X10_pack rfl rfl rfl (by decide +kernel) ⟨Nat.le_of_ble_eq_true rfl, Nat.le_of_ble_eq_true rfl⟩) ⟨fun a U g mk q => by obtain ⟨q0, q1, qP, qK, qD, qN⟩ := q; exact ⟨q0, q1, qP, va_K.moved (u := U) (U := U.calling g mk a) (Vm.Alike.refl U.vm) qK, qD, kNw.same (u := U) (U := U.calling g mk a) rfl qN⟩, va_recv hK hP (ci := 10) (q0 := 88) rfl (kgw rfl (by omega)), fun U hU hW => ⟨rfl, by rw [hU], by rw [hU]; exact hP, va_K.moved hW.alike hK, hD.weaken (fun _ _ _ _ => trivial), kNw.warm hW hNw⟩⟩ rfl rfl hl.1 rfl (lv_room (Nat.le_of_ble_eq_true rfl)) dX2_keep_193 ⟨Nat.le_of_ble_eq_true rfl, Nat.le_of_ble_eq_true rfl⟩) hS (fun q _ h => hFc q h) hFc (fun r9 u9 t H1 locs ht hvm hw hB hz1 hk1 hS => ?_)
          obtain ⟨hP1, hK1, hD1⟩ := hB
          rw [ht] at hP1
          obtain ⟨hw1, hw2⟩ := hw
          rw [hw2] at hP1 hD1
          rw [hw1]
          rw [F_w_pack_2] at hP1 hD1
          have hD2 := hD1.weaken (B := A) (fun _ q _ h => hFc q.1 h)
          have hP := hP1
          have hD := hD2
          generalize H1 = H at hP hS ⊢
          refine wi_last (f := (kA (kA (kA (y) (102) (b).toNat ((y).1 (101) 5)) (103) (b).toNat ((y).1 (101) 6)) (104) (b).toNat ((F_w_pack (kA (kA (y) (102) (b).toNat ((y).1 (101) 5)) (103) (b).toNat ((y).1 (101) 6)) (88) (f0) (t0)).1)).2 105) (n := wl) hx hb hK hP hD hS (105) 1 (kgK105 (by omega) rfl) rfl (i := b) (x := (F_w_pack (kA (kA (kA (y) (102) (b).toNat ((y).1 (101) 5)) (103) (b).toNat ((y).1 (101) 6)) (104) (b).toNat ((F_w_pack (kA (kA (y) (102) (b).toNat ((y).1 (101) 5)) (103) (b).toNat ((y).1 (101) 6)) (88) (f0) (t0)).1)) (88) ((f0) + ((30 : Int))) (t0)).1) (by omega) (by omega) hwl31 dX2_keep_196 (fun H locs hP hD hS => ?_)
          rw [ksK105] at hP hD
          refine lv_aload_n hx hb dX2_keep_197 rfl (lv_at hl 0 rfl) ?_
          refine lv_iconst (v := iI (0 : Int)) hx hb dX2_keep_198 (by decide) ?_
          refine va_put (D := (dC, dI)) (ci := 2) (v := .int (iI ((0 : Int)))) (ty := .boolean) (C := RX2) (T := TX2) (N := 7) hx hb hts hinX2 tyX2 tyX2_ok nmX2 hown hK hP hD hS (101) (kg101 (by omega)) rfl 4 (by decide) (hts (.fieldLink RX2 29 "LikeWords$Known" "isEmpty" "Z") (by decide +kernel)) (fun _ h9 => h9) rfl (by decide +kernel) (kz _ (Or.inl rfl)) rfl (Nat.le_of_ble_eq_true rfl) dX2_keep_199 (fun H locs hP hD hS => ?_)
          rw [ks101_4] at hP hD
          exact W.vret hx hb hr (fun t ht hW => ⟨⟨kS (kA (kA (kA (kA (y) (102) (b).toNat ((y).1 (101) 5)) (103) (b).toNat ((y).1 (101) 6)) (104) (b).toNat ((F_w_pack (kA (kA (y) (102) (b).toNat ((y).1 (101) 5)) (103) (b).toNat ((y).1 (101) 6)) (88) (f0) (t0)).1)) (105) (b).toNat ((F_w_pack (kA (kA (kA (y) (102) (b).toNat ((y).1 (101) 5)) (103) (b).toNat ((y).1 (101) 6)) (104) (b).toNat ((F_w_pack (kA (kA (y) (102) (b).toNat ((y).1 (101) 5)) (103) (b).toNat ((y).1 (101) 6)) (88) (f0) (t0)).1)) (88) ((f0) + ((30 : Int))) (t0)).1)) (101) 4 ((0 : Int)), rfl, (by have h9 := congrArg (fun z : Int × KS => z.2) hres; exact h9), by rw [ht]; exact hP, va_K.moved hW.alike hK, hD⟩, hS.F ht⟩) hS.2.2 dX2_keep_202
        · skip
          rw [if_neg c_20] at hres
          refine lv_iload hx hb dX2_keep_23 (lv_at hl 6 rfl) ?_
          refine lv_aload_n hx hb dX2_keep_25 rfl (lv_at hl 0 rfl) ?_
          refine va_get (D := (dC, dI)) (ci := 2) (v := .ref (ad (102))) (C := RX2) (T := TX2) (N := 7) hx hb hts hinX2 hown hK hP (101) (kg101 (by omega)) rfl 0 (by decide) (hts (.fieldLink RX2 16 "LikeWords$Known" "heads" "[J") (by decide +kernel)) (fun _ h9 => h9) rfl dX2_keep_26 ?_
          refine va_alen (v := iI ((y).1 (101) 9)) hx hb hK hP (102) 1 (kgK102 (by omega) rfl) rfl (by rw [hwly]; exact iI_nat _) dX2_keep_29 ?_
          refine wi_icmp_ge (tgt := 146) hx hb (by unfold iR; omega) (by unfold iR; omega) dX2_keep_30 (by decide) (fun c_30 => ?_) (fun c_30 => ?_)
          · skip
            rw [if_pos c_30] at hres
            refine lv_aload_n hx hb dX2_keep_146 rfl (lv_at hl 0 rfl) ?_
            refine va_get (D := (dC, dI)) (ci := 2) (v := .ref (ad (102))) (C := RX2) (T := TX2) (N := 7) hx hb hts hinX2 hown hK hP (101) (kg101 (by omega)) rfl 0 (by decide) (hts (.fieldLink RX2 16 "LikeWords$Known" "heads" "[J") (by decide +kernel)) (fun _ h9 => h9) rfl dX2_keep_147 ?_
            refine lv_iload hx hb dX2_keep_150 (lv_at hl 5 rfl) ?_
            refine lv_aload_n hx hb dX2_keep_152 rfl (lv_at hl 0 rfl) ?_
            refine va_get (D := (dC, dI)) (ci := 2) (v := .long (iL ((y).1 (101) 5))) (C := RX2) (T := TX2) (N := 7) hx hb hts hinX2 hown hK hP (101) (kg101 (by omega)) rfl 5 (by decide) (hts (.fieldLink RX2 36 "LikeWords$Known" "head" "J") (by decide +kernel)) (fun _ h9 => h9) rfl dX2_keep_153 ?_
            refine wi_last (f := (y).2 102) (n := wl) hx hb hK hP hD hS (102) 1 (kgK102 (by omega) rfl) rfl (i := b) (x := (y).1 (101) 5) (by omega) (by omega) hwl31 dX2_keep_156 (fun H locs hP hD hS => ?_)
            rw [ksK102] at hP hD
            refine lv_aload_n hx hb dX2_keep_157 rfl (lv_at hl 0 rfl) ?_
            refine va_get (D := (dC, dI)) (ci := 2) (v := .ref (ad (103))) (C := RX2) (T := TX2) (N := 7) hx hb hts hinX2 hown hK hP (101) (kg101 (by omega)) rfl 1 (by decide) (hts (.fieldLink RX2 20 "LikeWords$Known" "tails" "[J") (by decide +kernel)) (fun _ h9 => h9) rfl dX2_keep_158 ?_
            refine lv_iload hx hb dX2_keep_161 (lv_at hl 5 rfl) ?_
            refine lv_aload_n hx hb dX2_keep_163 rfl (lv_at hl 0 rfl) ?_
            refine va_get (D := (dC, dI)) (ci := 2) (v := .long (iL ((y).1 (101) 6))) (C := RX2) (T := TX2) (N := 7) hx hb hts hinX2 hown hK hP (101) (kg101 (by omega)) rfl 6 (by decide) (hts (.fieldLink RX2 40 "LikeWords$Known" "tail" "J") (by decide +kernel)) (fun _ h9 => h9) rfl dX2_keep_164 ?_
            refine wi_last (f := (kA (y) (102) (b).toNat ((y).1 (101) 5)).2 103) (n := wl) hx hb hK hP hD hS (103) 1 (kgK103 (by omega) rfl) rfl (i := b) (x := (y).1 (101) 6) (by omega) (by omega) hwl31 dX2_keep_167 (fun H locs hP hD hS => ?_)
            rw [ksK103] at hP hD
            refine lv_aload_n hx hb dX2_keep_168 rfl (lv_at hl 0 rfl) ?_
            refine va_get (D := (dC, dI)) (ci := 2) (v := .ref (ad (104))) (C := RX2) (T := TX2) (N := 7) hx hb hts hinX2 hown hK hP (101) (kg101 (by omega)) rfl 2 (by decide) (hts (.fieldLink RX2 23 "LikeWords$Known" "endHeads" "[J") (by decide +kernel)) (fun _ h9 => h9) rfl dX2_keep_169 ?_
            refine lv_iload hx hb dX2_keep_172 (lv_at hl 5 rfl) ?_
            refine lv_aload_n hx hb dX2_keep_174 rfl (lv_at hl 1 rfl) ?_
            refine lv_iload_n hx hb dX2_keep_175 rfl (lv_at hl 2 rfl) ?_
            refine lv_iload_n hx hb dX2_keep_176 rfl (lv_at hl 3 rfl) ?_
            have hFc : ∀ q, va_A (kWd cI cJ cZ cR wl ad M (kA (kA (y) (102) (b).toNat ((y).1 (101) 5)) (103) (b).toNat ((y).1 (101) 6))) H.size q → A q := fun q hq => Or.elim hq (fun ⟨k, e, hk⟩ => hD.2 k (q, e) hk) (fun hk => hA q (Nat.le_trans hS.1 hk))
            refine va_calll (va_runV (b := ad (88)) (As := [.int (iI (f0)), .int (iI (t0))]) (rest := [.int (iI (b)), .ref (ad (104))]) ⟨hx, hb, hml, hown, hts⟩ (c_w_pack l dC dI ad cI cJ cZ cR M wl H.size (kA (kA (y) (102) (b).toNat ((y).1 (101) 5)) (103) (b).toNat ((y).1 (101) 6)) (88) (f0) (t0) hM rfl (by omega) (by omega) (by omega) (by unfold iR; omega) uy0 uy1 (fun j => by have := ray j; show iR (y.2 89 j); unfold iR; omega)) (cwV 2 hts gX2_keep_X10_pack rfl rfl rfl (by decide +kernel) ⟨Nat.le_of_ble_eq_true rfl, Nat.le_of_ble_eq_true rfl⟩) ⟨fun a U g mk q => by obtain ⟨q0, q1, qP, qK, qD, qN⟩ := q; exact ⟨q0, q1, qP, va_K.moved (u := U) (U := U.calling g mk a) (Vm.Alike.refl U.vm) qK, qD, kNw.same (u := U) (U := U.calling g mk a) rfl qN⟩, va_recv hK hP (ci := 10) (q0 := 88) rfl (kgw rfl (by omega)), fun U hU hW => ⟨rfl, by rw [hU], by rw [hU]; exact hP, va_K.moved hW.alike hK, hD.weaken (fun _ _ _ _ => trivial), kNw.warm hW hNw⟩⟩ rfl rfl hl.1 rfl (lv_room (Nat.le_of_ble_eq_true rfl)) dX2_keep_177 ⟨Nat.le_of_ble_eq_true rfl, Nat.le_of_ble_eq_true rfl⟩) hS (fun q _ h => hFc q h) hFc (fun r9 u9 t H1 locs ht hvm hw hB hz1 hk1 hS => ?_)
            obtain ⟨hP1, hK1, hD1⟩ := hB
            rw [ht] at hP1
            obtain ⟨hw1, hw2⟩ := hw
            rw [hw2] at hP1 hD1
            rw [hw1]
            rw [F_w_pack_2] at hP1 hD1
            have hD2 := hD1.weaken (B := A) (fun _ q _ h => hFc q.1 h)
            have hP := hP1
            have hD := hD2
            generalize H1 = H at hP hS ⊢
            refine wi_last (f := (kA (kA (y) (102) (b).toNat ((y).1 (101) 5)) (103) (b).toNat ((y).1 (101) 6)).2 104) (n := wl) hx hb hK hP hD hS (104) 1 (kgK104 (by omega) rfl) rfl (i := b) (x := (F_w_pack (kA (kA (y) (102) (b).toNat ((y).1 (101) 5)) (103) (b).toNat ((y).1 (101) 6)) (88) (f0) (t0)).1) (by omega) (by omega) hwl31 dX2_keep_180 (fun H locs hP hD hS => ?_)
            rw [ksK104] at hP hD
            refine lv_aload_n hx hb dX2_keep_181 rfl (lv_at hl 0 rfl) ?_
            refine va_get (D := (dC, dI)) (ci := 2) (v := .ref (ad (105))) (C := RX2) (T := TX2) (N := 7) hx hb hts hinX2 hown hK hP (101) (kg101 (by omega)) rfl 3 (by decide) (hts (.fieldLink RX2 26 "LikeWords$Known" "endTails" "[J") (by decide +kernel)) (fun _ h9 => h9) rfl dX2_keep_182 ?_
            refine lv_iload hx hb dX2_keep_185 (lv_at hl 5 rfl) ?_
            refine lv_aload_n hx hb dX2_keep_187 rfl (lv_at hl 1 rfl) ?_
            refine lv_iload_n hx hb dX2_keep_188 rfl (lv_at hl 2 rfl) ?_
            refine lv_bipush (v := iI (30 : Int)) hx hb dX2_keep_189 (by decide) ?_
            refine wi_iadd hx hb dX2_keep_191 ?_
            refine lv_iload_n hx hb dX2_keep_192 rfl (lv_at hl 3 rfl) ?_
            have hFc : ∀ q, va_A (kWd cI cJ cZ cR wl ad M (kA (kA (kA (y) (102) (b).toNat ((y).1 (101) 5)) (103) (b).toNat ((y).1 (101) 6)) (104) (b).toNat ((F_w_pack (kA (kA (y) (102) (b).toNat ((y).1 (101) 5)) (103) (b).toNat ((y).1 (101) 6)) (88) (f0) (t0)).1))) H.size q → A q := fun q hq => Or.elim hq (fun ⟨k, e, hk⟩ => hD.2 k (q, e) hk) (fun hk => hA q (Nat.le_trans hS.1 hk))
            refine va_calll (va_runV (b := ad (88)) (As := [.int (iI ((f0) + ((30 : Int)))), .int (iI (t0))]) (rest := [.int (iI (b)), .ref (ad (105))]) ⟨hx, hb, hml, hown, hts⟩ (c_w_pack l dC dI ad cI cJ cZ cR M wl H.size (kA (kA (kA (y) (102) (b).toNat ((y).1 (101) 5)) (103) (b).toNat ((y).1 (101) 6)) (104) (b).toNat ((F_w_pack (kA (kA (y) (102) (b).toNat ((y).1 (101) 5)) (103) (b).toNat ((y).1 (101) 6)) (88) (f0) (t0)).1)) (88) ((f0) + ((30 : Int))) (t0) hM rfl (by omega) (by omega) (by omega) (by unfold iR; omega) uy0 uy1 (fun j => by have := ray j; show iR (y.2 89 j); unfold iR; omega)) (cwV 2 hts gX2_keep_X10_pack rfl rfl rfl (by decide +kernel) ⟨Nat.le_of_ble_eq_true rfl, Nat.le_of_ble_eq_true rfl⟩) ⟨fun a U g mk q => by obtain ⟨q0, q1, qP, qK, qD, qN⟩ := q; exact ⟨q0, q1, qP, va_K.moved (u := U) (U := U.calling g mk a) (Vm.Alike.refl U.vm) qK, qD, kNw.same (u := U) (U := U.calling g mk a) rfl qN⟩, va_recv hK hP (ci := 10) (q0 := 88) rfl (kgw rfl (by omega)), fun U hU hW => ⟨rfl, by rw [hU], by rw [hU]; exact hP, va_K.moved hW.alike hK, hD.weaken (fun _ _ _ _ => trivial), kNw.warm hW hNw⟩⟩ rfl rfl hl.1 rfl (lv_room (Nat.le_of_ble_eq_true rfl)) dX2_keep_193 ⟨Nat.le_of_ble_eq_true rfl, Nat.le_of_ble_eq_true rfl⟩) hS (fun q _ h => hFc q h) hFc (fun r9 u9 t H1 locs ht hvm hw hB hz1 hk1 hS => ?_)
            obtain ⟨hP1, hK1, hD1⟩ := hB
            rw [ht] at hP1
            obtain ⟨hw1, hw2⟩ := hw
            rw [hw2] at hP1 hD1
            rw [hw1]
            rw [F_w_pack_2] at hP1 hD1
            have hD2 := hD1.weaken (B := A) (fun _ q _ h => hFc q.1 h)
            have hP := hP1
            have hD := hD2
            generalize H1 = H at hP hS ⊢
            refine wi_last (f := (kA (kA (kA (y) (102) (b).toNat ((y).1 (101) 5)) (103) (b).toNat ((y).1 (101) 6)) (104) (b).toNat ((F_w_pack (kA (kA (y) (102) (b).toNat ((y).1 (101) 5)) (103) (b).toNat ((y).1 (101) 6)) (88) (f0) (t0)).1)).2 105) (n := wl) hx hb hK hP hD hS (105) 1 (kgK105 (by omega) rfl) rfl (i := b) (x := (F_w_pack (kA (kA (kA (y) (102) (b).toNat ((y).1 (101) 5)) (103) (b).toNat ((y).1 (101) 6)) (104) (b).toNat ((F_w_pack (kA (kA (y) (102) (b).toNat ((y).1 (101) 5)) (103) (b).toNat ((y).1 (101) 6)) (88) (f0) (t0)).1)) (88) ((f0) + ((30 : Int))) (t0)).1) (by omega) (by omega) hwl31 dX2_keep_196 (fun H locs hP hD hS => ?_)
            rw [ksK105] at hP hD
            refine lv_aload_n hx hb dX2_keep_197 rfl (lv_at hl 0 rfl) ?_
            refine lv_iconst (v := iI (0 : Int)) hx hb dX2_keep_198 (by decide) ?_
            refine va_put (D := (dC, dI)) (ci := 2) (v := .int (iI ((0 : Int)))) (ty := .boolean) (C := RX2) (T := TX2) (N := 7) hx hb hts hinX2 tyX2 tyX2_ok nmX2 hown hK hP hD hS (101) (kg101 (by omega)) rfl 4 (by decide) (hts (.fieldLink RX2 29 "LikeWords$Known" "isEmpty" "Z") (by decide +kernel)) (fun _ h9 => h9) rfl (by decide +kernel) (kz _ (Or.inl rfl)) rfl (Nat.le_of_ble_eq_true rfl) dX2_keep_199 (fun H locs hP hD hS => ?_)
            rw [ks101_4] at hP hD
            exact W.vret hx hb hr (fun t ht hW => ⟨⟨kS (kA (kA (kA (kA (y) (102) (b).toNat ((y).1 (101) 5)) (103) (b).toNat ((y).1 (101) 6)) (104) (b).toNat ((F_w_pack (kA (kA (y) (102) (b).toNat ((y).1 (101) 5)) (103) (b).toNat ((y).1 (101) 6)) (88) (f0) (t0)).1)) (105) (b).toNat ((F_w_pack (kA (kA (kA (y) (102) (b).toNat ((y).1 (101) 5)) (103) (b).toNat ((y).1 (101) 6)) (104) (b).toNat ((F_w_pack (kA (kA (y) (102) (b).toNat ((y).1 (101) 5)) (103) (b).toNat ((y).1 (101) 6)) (88) (f0) (t0)).1)) (88) ((f0) + ((30 : Int))) (t0)).1)) (101) 4 ((0 : Int)), rfl, (by have h9 := congrArg (fun z : Int × KS => z.2) hres; exact h9), by rw [ht]; exact hP, va_K.moved hW.alike hK, hD⟩, hS.F ht⟩) hS.2.2 dX2_keep_202
          · skip
            rw [if_neg c_30] at hres
            refine lv_aload_n hx hb dX2_keep_33 rfl (lv_at hl 0 rfl) ?_
            refine va_get (D := (dC, dI)) (ci := 2) (v := .ref (ad (102))) (C := RX2) (T := TX2) (N := 7) hx hb hts hinX2 hown hK hP (101) (kg101 (by omega)) rfl 0 (by decide) (hts (.fieldLink RX2 16 "LikeWords$Known" "heads" "[J") (by decide +kernel)) (fun _ h9 => h9) rfl dX2_keep_34 ?_
            refine lv_iload hx hb dX2_keep_37 (lv_at hl 6 rfl) ?_
            refine wi_lald (f := (y).2 (102)) (n := wl) hx hb hK hP (102) 1 (kgK102 (by omega) rfl) rfl (i := i) (by omega) (by omega) hwl31 dX2_keep_39 ?_
            refine lv_lconst (v := iL 0) hx hb dX2_keep_40 (by decide) ?_
            refine wi_lcmp hx hb (kny.2.2.1 _) ⟨by decide, by decide⟩ dX2_keep_41 ?_
            refine wi_if_eq (tgt := 75) hx hb iC_R dX2_keep_42 (by decide) (fun c_42 => ?_) (fun c_42 => ?_)
            · skip
              rw [if_pos c_42] at hres
              refine lv_iload hx hb dX2_keep_75 (lv_at hl 6 rfl) ?_
              refine lv_istore (lv' := [(5, .int (iI (i))), (0, .ref (ad (101))), (1, .ref (ad (88))), (2, .int (iI (f0))), (3, .int (iI (t0))), (4, .int (iI (f9))), (6, .int (iI (i)))]) hx hb dX2_keep_77 hl (by decide) rfl (fun ls hl => ?_)
              refine lv_goto (tgt := 146) hx hb dX2_keep_79 (by decide) ?_
              refine lv_aload_n hx hb dX2_keep_146 rfl (lv_at hl 1 rfl) ?_
              refine va_get (D := (dC, dI)) (ci := 2) (v := .ref (ad (102))) (C := RX2) (T := TX2) (N := 7) hx hb hts hinX2 hown hK hP (101) (kg101 (by omega)) rfl 0 (by decide) (hts (.fieldLink RX2 16 "LikeWords$Known" "heads" "[J") (by decide +kernel)) (fun _ h9 => h9) rfl dX2_keep_147 ?_
              refine lv_iload hx hb dX2_keep_150 (lv_at hl 0 rfl) ?_
              refine lv_aload_n hx hb dX2_keep_152 rfl (lv_at hl 1 rfl) ?_
              refine va_get (D := (dC, dI)) (ci := 2) (v := .long (iL ((y).1 (101) 5))) (C := RX2) (T := TX2) (N := 7) hx hb hts hinX2 hown hK hP (101) (kg101 (by omega)) rfl 5 (by decide) (hts (.fieldLink RX2 36 "LikeWords$Known" "head" "J") (by decide +kernel)) (fun _ h9 => h9) rfl dX2_keep_153 ?_
              refine wi_last (f := (y).2 102) (n := wl) hx hb hK hP hD hS (102) 1 (kgK102 (by omega) rfl) rfl (i := i) (x := (y).1 (101) 5) (by omega) (by omega) hwl31 dX2_keep_156 (fun H locs hP hD hS => ?_)
              rw [ksK102] at hP hD
              refine lv_aload_n hx hb dX2_keep_157 rfl (lv_at hl 1 rfl) ?_
              refine va_get (D := (dC, dI)) (ci := 2) (v := .ref (ad (103))) (C := RX2) (T := TX2) (N := 7) hx hb hts hinX2 hown hK hP (101) (kg101 (by omega)) rfl 1 (by decide) (hts (.fieldLink RX2 20 "LikeWords$Known" "tails" "[J") (by decide +kernel)) (fun _ h9 => h9) rfl dX2_keep_158 ?_
              refine lv_iload hx hb dX2_keep_161 (lv_at hl 0 rfl) ?_
              refine lv_aload_n hx hb dX2_keep_163 rfl (lv_at hl 1 rfl) ?_
              refine va_get (D := (dC, dI)) (ci := 2) (v := .long (iL ((y).1 (101) 6))) (C := RX2) (T := TX2) (N := 7) hx hb hts hinX2 hown hK hP (101) (kg101 (by omega)) rfl 6 (by decide) (hts (.fieldLink RX2 40 "LikeWords$Known" "tail" "J") (by decide +kernel)) (fun _ h9 => h9) rfl dX2_keep_164 ?_
              refine wi_last (f := (kA (y) (102) (i).toNat ((y).1 (101) 5)).2 103) (n := wl) hx hb hK hP hD hS (103) 1 (kgK103 (by omega) rfl) rfl (i := i) (x := (y).1 (101) 6) (by omega) (by omega) hwl31 dX2_keep_167 (fun H locs hP hD hS => ?_)
              rw [ksK103] at hP hD
              refine lv_aload_n hx hb dX2_keep_168 rfl (lv_at hl 1 rfl) ?_
              refine va_get (D := (dC, dI)) (ci := 2) (v := .ref (ad (104))) (C := RX2) (T := TX2) (N := 7) hx hb hts hinX2 hown hK hP (101) (kg101 (by omega)) rfl 2 (by decide) (hts (.fieldLink RX2 23 "LikeWords$Known" "endHeads" "[J") (by decide +kernel)) (fun _ h9 => h9) rfl dX2_keep_169 ?_
              refine lv_iload hx hb dX2_keep_172 (lv_at hl 0 rfl) ?_
              refine lv_aload_n hx hb dX2_keep_174 rfl (lv_at hl 2 rfl) ?_
              refine lv_iload_n hx hb dX2_keep_175 rfl (lv_at hl 3 rfl) ?_
              refine lv_iload_n hx hb dX2_keep_176 rfl (lv_at hl 4 rfl) ?_
              have hFc : ∀ q, va_A (kWd cI cJ cZ cR wl ad M (kA (kA (y) (102) (i).toNat ((y).1 (101) 5)) (103) (i).toNat ((y).1 (101) 6))) H.size q → A q := fun q hq => Or.elim hq (fun ⟨k, e, hk⟩ => hD.2 k (q, e) hk) (fun hk => hA q (Nat.le_trans hS.1 hk))
              refine va_calll (va_runV (b := ad (88)) (As := [.int (iI (f0)), .int (iI (t0))]) (rest := [.int (iI (i)), .ref (ad (104))]) ⟨hx, hb, hml, hown, hts⟩ (c_w_pack l dC dI ad cI cJ cZ cR M wl H.size (kA (kA (y) (102) (i).toNat ((y).1 (101) 5)) (103) (i).toNat ((y).1 (101) 6)) (88) (f0) (t0) hM rfl (by omega) (by omega) (by omega) (by unfold iR; omega) uy0 uy1 (fun j => by have := ray j; show iR (y.2 89 j); unfold iR; omega)) (cwV 2 hts gX2_keep_X10_pack rfl rfl rfl (by decide +kernel) ⟨Nat.le_of_ble_eq_true rfl, Nat.le_of_ble_eq_true rfl⟩) ⟨fun a U g mk q => by obtain ⟨q0, q1, qP, qK, qD, qN⟩ := q; exact ⟨q0, q1, qP, va_K.moved (u := U) (U := U.calling g mk a) (Vm.Alike.refl U.vm) qK, qD, kNw.same (u := U) (U := U.calling g mk a) rfl qN⟩, va_recv hK hP (ci := 10) (q0 := 88) rfl (kgw rfl (by omega)), fun U hU hW => ⟨rfl, by rw [hU], by rw [hU]; exact hP, va_K.moved hW.alike hK, hD.weaken (fun _ _ _ _ => trivial), kNw.warm hW hNw⟩⟩ rfl rfl hl.1 rfl (lv_room (Nat.le_of_ble_eq_true rfl)) dX2_keep_177 ⟨Nat.le_of_ble_eq_true rfl, Nat.le_of_ble_eq_true rfl⟩) hS (fun q _ h => hFc q h) hFc (fun r9 u9 t H1 locs ht hvm hw hB hz1 hk1 hS => ?_)
              obtain ⟨hP1, hK1, hD1⟩ := hB
              rw [ht] at hP1
              obtain ⟨hw1, hw2⟩ := hw
              rw [hw2] at hP1 hD1
              rw [hw1]
              rw [F_w_pack_2] at hP1 hD1
              have hD2 := hD1.weaken (B := A) (fun _ q _ h => hFc q.1 h)
              have hP := hP1
              have hD := hD2
              generalize H1 = H at hP hS ⊢
              refine wi_last (f := (kA (kA (y) (102) (i).toNat ((y).1 (101) 5)) (103) (i).toNat ((y).1 (101) 6)).2 104) (n := wl) hx hb hK hP hD hS (104) 1 (kgK104 (by omega) rfl) rfl (i := i) (x := (F_w_pack (kA (kA (y) (102) (i).toNat ((y).1 (101) 5)) (103) (i).toNat ((y).1 (101) 6)) (88) (f0) (t0)).1) (by omega) (by omega) hwl31 dX2_keep_180 (fun H locs hP hD hS => ?_)
              rw [ksK104] at hP hD
              refine lv_aload_n hx hb dX2_keep_181 rfl (lv_at hl 1 rfl) ?_
              refine va_get (D := (dC, dI)) (ci := 2) (v := .ref (ad (105))) (C := RX2) (T := TX2) (N := 7) hx hb hts hinX2 hown hK hP (101) (kg101 (by omega)) rfl 3 (by decide) (hts (.fieldLink RX2 26 "LikeWords$Known" "endTails" "[J") (by decide +kernel)) (fun _ h9 => h9) rfl dX2_keep_182 ?_
              refine lv_iload hx hb dX2_keep_185 (lv_at hl 0 rfl) ?_
              refine lv_aload_n hx hb dX2_keep_187 rfl (lv_at hl 2 rfl) ?_
              refine lv_iload_n hx hb dX2_keep_188 rfl (lv_at hl 3 rfl) ?_
              refine lv_bipush (v := iI (30 : Int)) hx hb dX2_keep_189 (by decide) ?_
              refine wi_iadd hx hb dX2_keep_191 ?_
              refine lv_iload_n hx hb dX2_keep_192 rfl (lv_at hl 4 rfl) ?_
              have hFc : ∀ q, va_A (kWd cI cJ cZ cR wl ad M (kA (kA (kA (y) (102) (i).toNat ((y).1 (101) 5)) (103) (i).toNat ((y).1 (101) 6)) (104) (i).toNat ((F_w_pack (kA (kA (y) (102) (i).toNat ((y).1 (101) 5)) (103) (i).toNat ((y).1 (101) 6)) (88) (f0) (t0)).1))) H.size q → A q := fun q hq => Or.elim hq (fun ⟨k, e, hk⟩ => hD.2 k (q, e) hk) (fun hk => hA q (Nat.le_trans hS.1 hk))
              refine va_calll (va_runV (b := ad (88)) (As := [.int (iI ((f0) + ((30 : Int)))), .int (iI (t0))]) (rest := [.int (iI (i)), .ref (ad (105))]) ⟨hx, hb, hml, hown, hts⟩ (c_w_pack l dC dI ad cI cJ cZ cR M wl H.size (kA (kA (kA (y) (102) (i).toNat ((y).1 (101) 5)) (103) (i).toNat ((y).1 (101) 6)) (104) (i).toNat ((F_w_pack (kA (kA (y) (102) (i).toNat ((y).1 (101) 5)) (103) (i).toNat ((y).1 (101) 6)) (88) (f0) (t0)).1)) (88) ((f0) + ((30 : Int))) (t0) hM rfl (by omega) (by omega) (by omega) (by unfold iR; omega) uy0 uy1 (fun j => by have := ray j; show iR (y.2 89 j); unfold iR; omega)) (cwV 2 hts gX2_keep_X10_pack rfl rfl rfl (by decide +kernel) ⟨Nat.le_of_ble_eq_true rfl, Nat.le_of_ble_eq_true rfl⟩) ⟨fun a U g mk q => by obtain ⟨q0, q1, qP, qK, qD, qN⟩ := q; exact ⟨q0, q1, qP, va_K.moved (u := U) (U := U.calling g mk a) (Vm.Alike.refl U.vm) qK, qD, kNw.same (u := U) (U := U.calling g mk a) rfl qN⟩, va_recv hK hP (ci := 10) (q0 := 88) rfl (kgw rfl (by omega)), fun U hU hW => ⟨rfl, by rw [hU], by rw [hU]; exact hP, va_K.moved hW.alike hK, hD.weaken (fun _ _ _ _ => trivial), kNw.warm hW hNw⟩⟩ rfl rfl hl.1 rfl (lv_room (Nat.le_of_ble_eq_true rfl)) dX2_keep_193 ⟨Nat.le_of_ble_eq_true rfl, Nat.le_of_ble_eq_true rfl⟩) hS (fun q _ h => hFc q h) hFc (fun r9 u9 t H1 locs ht hvm hw hB hz1 hk1 hS => ?_)
              obtain ⟨hP1, hK1, hD1⟩ := hB
              rw [ht] at hP1
              obtain ⟨hw1, hw2⟩ := hw
              rw [hw2] at hP1 hD1
              rw [hw1]
              rw [F_w_pack_2] at hP1 hD1
              have hD2 := hD1.weaken (B := A) (fun _ q _ h => hFc q.1 h)
              have hP := hP1
              have hD := hD2
              generalize H1 = H at hP hS ⊢
              refine wi_last (f := (kA (kA (kA (y) (102) (i).toNat ((y).1 (101) 5)) (103) (i).toNat ((y).1 (101) 6)) (104) (i).toNat ((F_w_pack (kA (kA (y) (102) (i).toNat ((y).1 (101) 5)) (103) (i).toNat ((y).1 (101) 6)) (88) (f0) (t0)).1)).2 105) (n := wl) hx hb hK hP hD hS (105) 1 (kgK105 (by omega) rfl) rfl (i := i) (x := (F_w_pack (kA (kA (kA (y) (102) (i).toNat ((y).1 (101) 5)) (103) (i).toNat ((y).1 (101) 6)) (104) (i).toNat ((F_w_pack (kA (kA (y) (102) (i).toNat ((y).1 (101) 5)) (103) (i).toNat ((y).1 (101) 6)) (88) (f0) (t0)).1)) (88) ((f0) + ((30 : Int))) (t0)).1) (by omega) (by omega) hwl31 dX2_keep_196 (fun H locs hP hD hS => ?_)
              rw [ksK105] at hP hD
              refine lv_aload_n hx hb dX2_keep_197 rfl (lv_at hl 1 rfl) ?_
              refine lv_iconst (v := iI (0 : Int)) hx hb dX2_keep_198 (by decide) ?_
              refine va_put (D := (dC, dI)) (ci := 2) (v := .int (iI ((0 : Int)))) (ty := .boolean) (C := RX2) (T := TX2) (N := 7) hx hb hts hinX2 tyX2 tyX2_ok nmX2 hown hK hP hD hS (101) (kg101 (by omega)) rfl 4 (by decide) (hts (.fieldLink RX2 29 "LikeWords$Known" "isEmpty" "Z") (by decide +kernel)) (fun _ h9 => h9) rfl (by decide +kernel) (kz _ (Or.inl rfl)) rfl (Nat.le_of_ble_eq_true rfl) dX2_keep_199 (fun H locs hP hD hS => ?_)
              rw [ks101_4] at hP hD
              exact W.vret hx hb hr (fun t ht hW => ⟨⟨kS (kA (kA (kA (kA (y) (102) (i).toNat ((y).1 (101) 5)) (103) (i).toNat ((y).1 (101) 6)) (104) (i).toNat ((F_w_pack (kA (kA (y) (102) (i).toNat ((y).1 (101) 5)) (103) (i).toNat ((y).1 (101) 6)) (88) (f0) (t0)).1)) (105) (i).toNat ((F_w_pack (kA (kA (kA (y) (102) (i).toNat ((y).1 (101) 5)) (103) (i).toNat ((y).1 (101) 6)) (104) (i).toNat ((F_w_pack (kA (kA (y) (102) (i).toNat ((y).1 (101) 5)) (103) (i).toNat ((y).1 (101) 6)) (88) (f0) (t0)).1)) (88) ((f0) + ((30 : Int))) (t0)).1)) (101) 4 ((0 : Int)), rfl, (by have h9 := congrArg (fun z : Int × KS => z.2) hres; exact h9), by rw [ht]; exact hP, va_K.moved hW.alike hK, hD⟩, hS.F ht⟩) hS.2.2 dX2_keep_202
            · skip
              rw [if_neg c_42] at hres
              refine lv_aload_n hx hb dX2_keep_45 rfl (lv_at hl 0 rfl) ?_
              refine va_get (D := (dC, dI)) (ci := 2) (v := .ref (ad (102))) (C := RX2) (T := TX2) (N := 7) hx hb hts hinX2 hown hK hP (101) (kg101 (by omega)) rfl 0 (by decide) (hts (.fieldLink RX2 16 "LikeWords$Known" "heads" "[J") (by decide +kernel)) (fun _ h9 => h9) rfl dX2_keep_46 ?_
              refine lv_iload hx hb dX2_keep_49 (lv_at hl 6 rfl) ?_
              refine wi_lald (f := (y).2 (102)) (n := wl) hx hb hK hP (102) 1 (kgK102 (by omega) rfl) rfl (i := i) (by omega) (by omega) hwl31 dX2_keep_51 ?_
              refine lv_aload_n hx hb dX2_keep_52 rfl (lv_at hl 0 rfl) ?_
              refine va_get (D := (dC, dI)) (ci := 2) (v := .long (iL ((y).1 (101) 5))) (C := RX2) (T := TX2) (N := 7) hx hb hts hinX2 hown hK hP (101) (kg101 (by omega)) rfl 5 (by decide) (hts (.fieldLink RX2 36 "LikeWords$Known" "head" "J") (by decide +kernel)) (fun _ h9 => h9) rfl dX2_keep_53 ?_
              refine wi_lcmp hx hb (by first | exact kny.2.2.1 _ | exact rhy) (by first | exact kny.2.2.1 _ | exact rhy) dX2_keep_56 ?_
              refine wi_if_ne (tgt := 82) hx hb iC_R dX2_keep_57 (by decide) (fun c_57 => ?_) (fun c_57 => ?_)
              · skip
                rw [if_neg c_57] at hres
                refine lv_aload_n hx hb dX2_keep_82 rfl (lv_at hl 0 rfl) ?_
                refine va_get (D := (dC, dI)) (ci := 2) (v := .ref (ad (103))) (C := RX2) (T := TX2) (N := 7) hx hb hts hinX2 hown hK hP (101) (kg101 (by omega)) rfl 1 (by decide) (hts (.fieldLink RX2 20 "LikeWords$Known" "tails" "[J") (by decide +kernel)) (fun _ h9 => h9) rfl dX2_keep_83 ?_
                refine lv_iload hx hb dX2_keep_86 (lv_at hl 6 rfl) ?_
                refine wi_lald (f := (y).2 (103)) (n := wl) hx hb hK hP (103) 1 (kgK103 (by omega) rfl) rfl (i := i) (by omega) (by omega) hwl31 dX2_keep_88 ?_
                refine lv_aload_n hx hb dX2_keep_89 rfl (lv_at hl 0 rfl) ?_
                refine va_get (D := (dC, dI)) (ci := 2) (v := .ref (ad (103))) (C := RX2) (T := TX2) (N := 7) hx hb hts hinX2 hown hK hP (101) (kg101 (by omega)) rfl 1 (by decide) (hts (.fieldLink RX2 20 "LikeWords$Known" "tails" "[J") (by decide +kernel)) (fun _ h9 => h9) rfl dX2_keep_90 ?_
                refine lv_iload hx hb dX2_keep_93 (lv_at hl 5 rfl) ?_
                refine wi_lald (f := (y).2 (103)) (n := wl) hx hb hK hP (103) 1 (kgK103 (by omega) rfl) rfl (i := b) (by omega) (by omega) hwl31 dX2_keep_95 ?_
                refine wi_lcmp hx hb (kny.2.2.2.1 _) (kny.2.2.2.1 _) dX2_keep_96 ?_
                refine wi_if_gt (tgt := 136) hx hb iC_R dX2_keep_97 (by decide) (fun c_97 => ?_) (fun c_97 => ?_)
                · skip
                  rw [if_pos c_97] at hres
                  refine lv_iload hx hb dX2_keep_136 (lv_at hl 6 rfl) ?_
                  refine lv_istore (lv' := [(5, .int (iI (i))), (0, .ref (ad (101))), (1, .ref (ad (88))), (2, .int (iI (f0))), (3, .int (iI (t0))), (4, .int (iI (f9))), (6, .int (iI (i)))]) hx hb dX2_keep_138 hl (by decide) rfl (fun ls hl => ?_)
                  refine lv_iinc (v := iI ((i) + (1 : Int))) (lv' := [(6, .int (iI ((i) + (1 : Int)))), (5, .int (iI (i))), (0, .ref (ad (101))), (1, .ref (ad (88))), (2, .int (iI (f0))), (3, .int (iI (t0))), (4, .int (iI (f9)))]) hx hb dX2_keep_140 hl (k := 6) rfl (iI_add _ _) (by decide) rfl (fun ls hl => ?_)
                  refine lv_goto (tgt := 14) hx hb dX2_keep_143 (by decide) ?_
                  exact ih (y) (f9) (i) ((i) + (1 : Int)) (kny) (rhy) (rty) (ray) (uy0) (uy1) (ff0) (f19) (by omega) (by omega) (by omega) (by omega) (by omega) hres _ _ ls hP hD hS (lv_sub hl [2, 3, 4, 5, 6, 1, 0] rfl)
                · skip
                  rw [if_neg c_97] at hres
                  refine lv_aload_n hx hb dX2_keep_100 rfl (lv_at hl 0 rfl) ?_
                  refine va_get (D := (dC, dI)) (ci := 2) (v := .ref (ad (103))) (C := RX2) (T := TX2) (N := 7) hx hb hts hinX2 hown hK hP (101) (kg101 (by omega)) rfl 1 (by decide) (hts (.fieldLink RX2 20 "LikeWords$Known" "tails" "[J") (by decide +kernel)) (fun _ h9 => h9) rfl dX2_keep_101 ?_
                  refine lv_iload hx hb dX2_keep_104 (lv_at hl 6 rfl) ?_
                  refine wi_lald (f := (y).2 (103)) (n := wl) hx hb hK hP (103) 1 (kgK103 (by omega) rfl) rfl (i := i) (by omega) (by omega) hwl31 dX2_keep_106 ?_
                  refine lv_aload_n hx hb dX2_keep_107 rfl (lv_at hl 0 rfl) ?_
                  refine va_get (D := (dC, dI)) (ci := 2) (v := .ref (ad (103))) (C := RX2) (T := TX2) (N := 7) hx hb hts hinX2 hown hK hP (101) (kg101 (by omega)) rfl 1 (by decide) (hts (.fieldLink RX2 20 "LikeWords$Known" "tails" "[J") (by decide +kernel)) (fun _ h9 => h9) rfl dX2_keep_108 ?_
                  refine lv_iload hx hb dX2_keep_111 (lv_at hl 5 rfl) ?_
                  refine wi_lald (f := (y).2 (103)) (n := wl) hx hb hK hP (103) 1 (kgK103 (by omega) rfl) rfl (i := b) (by omega) (by omega) hwl31 dX2_keep_113 ?_
                  refine wi_lcmp hx hb (kny.2.2.2.1 _) (kny.2.2.2.1 _) dX2_keep_114 ?_
                  refine wi_if_ne (tgt := 140) hx hb iC_R dX2_keep_115 (by decide) (fun c_115 => ?_) (fun c_115 => ?_)
                  · skip
                    rw [if_neg c_115] at hres
                    refine lv_iinc (v := iI ((i) + (1 : Int))) (lv' := [(6, .int (iI ((i) + (1 : Int)))), (0, .ref (ad (101))), (1, .ref (ad (88))), (2, .int (iI (f0))), (3, .int (iI (t0))), (4, .int (iI (f9))), (5, .int (iI (b)))]) hx hb dX2_keep_140 hl (k := 6) rfl (iI_add _ _) (by decide) rfl (fun ls hl => ?_)
                    refine lv_goto (tgt := 14) hx hb dX2_keep_143 (by decide) ?_
                    exact ih (y) (f9) (b) ((i) + (1 : Int)) (kny) (rhy) (rty) (ray) (uy0) (uy1) (ff0) (f19) (by omega) (by omega) (by omega) (by omega) (by omega) hres _ _ ls hP hD hS (lv_sub hl [1, 2, 3, 4, 5, 6, 0] rfl)
                  · skip
                    rw [if_pos c_115] at hres
                    refine lv_aload_n hx hb dX2_keep_118 rfl (lv_at hl 0 rfl) ?_
                    refine va_get (D := (dC, dI)) (ci := 2) (v := .ref (ad (102))) (C := RX2) (T := TX2) (N := 7) hx hb hts hinX2 hown hK hP (101) (kg101 (by omega)) rfl 0 (by decide) (hts (.fieldLink RX2 16 "LikeWords$Known" "heads" "[J") (by decide +kernel)) (fun _ h9 => h9) rfl dX2_keep_119 ?_
                    refine lv_iload hx hb dX2_keep_122 (lv_at hl 6 rfl) ?_
                    refine wi_lald (f := (y).2 (102)) (n := wl) hx hb hK hP (102) 1 (kgK102 (by omega) rfl) rfl (i := i) (by omega) (by omega) hwl31 dX2_keep_124 ?_
                    refine lv_aload_n hx hb dX2_keep_125 rfl (lv_at hl 0 rfl) ?_
                    refine va_get (D := (dC, dI)) (ci := 2) (v := .ref (ad (102))) (C := RX2) (T := TX2) (N := 7) hx hb hts hinX2 hown hK hP (101) (kg101 (by omega)) rfl 0 (by decide) (hts (.fieldLink RX2 16 "LikeWords$Known" "heads" "[J") (by decide +kernel)) (fun _ h9 => h9) rfl dX2_keep_126 ?_
                    refine lv_iload hx hb dX2_keep_129 (lv_at hl 5 rfl) ?_
                    refine wi_lald (f := (y).2 (102)) (n := wl) hx hb hK hP (102) 1 (kgK102 (by omega) rfl) rfl (i := b) (by omega) (by omega) hwl31 dX2_keep_131 ?_
                    refine wi_lcmp hx hb (kny.2.2.1 _) (kny.2.2.1 _) dX2_keep_132 ?_
                    refine wi_if_le (tgt := 140) hx hb iC_R dX2_keep_133 (by decide) (fun c_133 => ?_) (fun c_133 => ?_)
                    · skip
                      rw [if_pos c_133] at hres
                      refine lv_iinc (v := iI ((i) + (1 : Int))) (lv' := [(6, .int (iI ((i) + (1 : Int)))), (0, .ref (ad (101))), (1, .ref (ad (88))), (2, .int (iI (f0))), (3, .int (iI (t0))), (4, .int (iI (f9))), (5, .int (iI (b)))]) hx hb dX2_keep_140 hl (k := 6) rfl (iI_add _ _) (by decide) rfl (fun ls hl => ?_)
                      refine lv_goto (tgt := 14) hx hb dX2_keep_143 (by decide) ?_
                      exact ih (y) (f9) (b) ((i) + (1 : Int)) (kny) (rhy) (rty) (ray) (uy0) (uy1) (ff0) (f19) (by omega) (by omega) (by omega) (by omega) (by omega) hres _ _ ls hP hD hS (lv_sub hl [1, 2, 3, 4, 5, 6, 0] rfl)
                    · skip
                      rw [if_neg c_133] at hres
                      refine lv_iload hx hb dX2_keep_136 (lv_at hl 6 rfl) ?_
                      refine lv_istore (lv' := [(5, .int (iI (i))), (0, .ref (ad (101))), (1, .ref (ad (88))), (2, .int (iI (f0))), (3, .int (iI (t0))), (4, .int (iI (f9))), (6, .int (iI (i)))]) hx hb dX2_keep_138 hl (by decide) rfl (fun ls hl => ?_)
                      refine lv_iinc (v := iI ((i) + (1 : Int))) (lv' := [(6, .int (iI ((i) + (1 : Int)))), (5, .int (iI (i))), (0, .ref (ad (101))), (1, .ref (ad (88))), (2, .int (iI (f0))), (3, .int (iI (t0))), (4, .int (iI (f9)))]) hx hb dX2_keep_140 hl (k := 6) rfl (iI_add _ _) (by decide) rfl (fun ls hl => ?_)
                      refine lv_goto (tgt := 14) hx hb dX2_keep_143 (by decide) ?_
                      exact ih (y) (f9) (i) ((i) + (1 : Int)) (kny) (rhy) (rty) (ray) (uy0) (uy1) (ff0) (f19) (by omega) (by omega) (by omega) (by omega) (by omega) hres _ _ ls hP hD hS (lv_sub hl [2, 3, 4, 5, 6, 1, 0] rfl)
              · skip
                rw [if_pos c_57] at hres
                refine lv_aload_n hx hb dX2_keep_60 rfl (lv_at hl 0 rfl) ?_
                refine va_get (D := (dC, dI)) (ci := 2) (v := .ref (ad (103))) (C := RX2) (T := TX2) (N := 7) hx hb hts hinX2 hown hK hP (101) (kg101 (by omega)) rfl 1 (by decide) (hts (.fieldLink RX2 20 "LikeWords$Known" "tails" "[J") (by decide +kernel)) (fun _ h9 => h9) rfl dX2_keep_61 ?_
                refine lv_iload hx hb dX2_keep_64 (lv_at hl 6 rfl) ?_
                refine wi_lald (f := (y).2 (103)) (n := wl) hx hb hK hP (103) 1 (kgK103 (by omega) rfl) rfl (i := i) (by omega) (by omega) hwl31 dX2_keep_66 ?_
                refine lv_aload_n hx hb dX2_keep_67 rfl (lv_at hl 0 rfl) ?_
                refine va_get (D := (dC, dI)) (ci := 2) (v := .long (iL ((y).1 (101) 6))) (C := RX2) (T := TX2) (N := 7) hx hb hts hinX2 hown hK hP (101) (kg101 (by omega)) rfl 6 (by decide) (hts (.fieldLink RX2 40 "LikeWords$Known" "tail" "J") (by decide +kernel)) (fun _ h9 => h9) rfl dX2_keep_68 ?_
                refine wi_lcmp hx hb (by first | exact kny.2.2.2.1 _ | exact rty) (by first | exact kny.2.2.2.1 _ | exact rty) dX2_keep_71 ?_
                refine wi_if_ne (tgt := 82) hx hb iC_R dX2_keep_72 (by decide) (fun c_72 => ?_) (fun c_72 => ?_)
                · skip
                  rw [if_neg c_72] at hres
                  refine lv_aload_n hx hb dX2_keep_82 rfl (lv_at hl 0 rfl) ?_
                  refine va_get (D := (dC, dI)) (ci := 2) (v := .ref (ad (103))) (C := RX2) (T := TX2) (N := 7) hx hb hts hinX2 hown hK hP (101) (kg101 (by omega)) rfl 1 (by decide) (hts (.fieldLink RX2 20 "LikeWords$Known" "tails" "[J") (by decide +kernel)) (fun _ h9 => h9) rfl dX2_keep_83 ?_
                  refine lv_iload hx hb dX2_keep_86 (lv_at hl 6 rfl) ?_
                  refine wi_lald (f := (y).2 (103)) (n := wl) hx hb hK hP (103) 1 (kgK103 (by omega) rfl) rfl (i := i) (by omega) (by omega) hwl31 dX2_keep_88 ?_
                  refine lv_aload_n hx hb dX2_keep_89 rfl (lv_at hl 0 rfl) ?_
                  refine va_get (D := (dC, dI)) (ci := 2) (v := .ref (ad (103))) (C := RX2) (T := TX2) (N := 7) hx hb hts hinX2 hown hK hP (101) (kg101 (by omega)) rfl 1 (by decide) (hts (.fieldLink RX2 20 "LikeWords$Known" "tails" "[J") (by decide +kernel)) (fun _ h9 => h9) rfl dX2_keep_90 ?_
                  refine lv_iload hx hb dX2_keep_93 (lv_at hl 5 rfl) ?_
                  refine wi_lald (f := (y).2 (103)) (n := wl) hx hb hK hP (103) 1 (kgK103 (by omega) rfl) rfl (i := b) (by omega) (by omega) hwl31 dX2_keep_95 ?_
                  refine wi_lcmp hx hb (kny.2.2.2.1 _) (kny.2.2.2.1 _) dX2_keep_96 ?_
                  refine wi_if_gt (tgt := 136) hx hb iC_R dX2_keep_97 (by decide) (fun c_97 => ?_) (fun c_97 => ?_)
                  · skip
                    rw [if_pos c_97] at hres
                    refine lv_iload hx hb dX2_keep_136 (lv_at hl 6 rfl) ?_
                    refine lv_istore (lv' := [(5, .int (iI (i))), (0, .ref (ad (101))), (1, .ref (ad (88))), (2, .int (iI (f0))), (3, .int (iI (t0))), (4, .int (iI (f9))), (6, .int (iI (i)))]) hx hb dX2_keep_138 hl (by decide) rfl (fun ls hl => ?_)
                    refine lv_iinc (v := iI ((i) + (1 : Int))) (lv' := [(6, .int (iI ((i) + (1 : Int)))), (5, .int (iI (i))), (0, .ref (ad (101))), (1, .ref (ad (88))), (2, .int (iI (f0))), (3, .int (iI (t0))), (4, .int (iI (f9)))]) hx hb dX2_keep_140 hl (k := 6) rfl (iI_add _ _) (by decide) rfl (fun ls hl => ?_)
                    refine lv_goto (tgt := 14) hx hb dX2_keep_143 (by decide) ?_
                    exact ih (y) (f9) (i) ((i) + (1 : Int)) (kny) (rhy) (rty) (ray) (uy0) (uy1) (ff0) (f19) (by omega) (by omega) (by omega) (by omega) (by omega) hres _ _ ls hP hD hS (lv_sub hl [2, 3, 4, 5, 6, 1, 0] rfl)
                  · skip
                    rw [if_neg c_97] at hres
                    refine lv_aload_n hx hb dX2_keep_100 rfl (lv_at hl 0 rfl) ?_
                    refine va_get (D := (dC, dI)) (ci := 2) (v := .ref (ad (103))) (C := RX2) (T := TX2) (N := 7) hx hb hts hinX2 hown hK hP (101) (kg101 (by omega)) rfl 1 (by decide) (hts (.fieldLink RX2 20 "LikeWords$Known" "tails" "[J") (by decide +kernel)) (fun _ h9 => h9) rfl dX2_keep_101 ?_
                    refine lv_iload hx hb dX2_keep_104 (lv_at hl 6 rfl) ?_
                    refine wi_lald (f := (y).2 (103)) (n := wl) hx hb hK hP (103) 1 (kgK103 (by omega) rfl) rfl (i := i) (by omega) (by omega) hwl31 dX2_keep_106 ?_
                    refine lv_aload_n hx hb dX2_keep_107 rfl (lv_at hl 0 rfl) ?_
                    refine va_get (D := (dC, dI)) (ci := 2) (v := .ref (ad (103))) (C := RX2) (T := TX2) (N := 7) hx hb hts hinX2 hown hK hP (101) (kg101 (by omega)) rfl 1 (by decide) (hts (.fieldLink RX2 20 "LikeWords$Known" "tails" "[J") (by decide +kernel)) (fun _ h9 => h9) rfl dX2_keep_108 ?_
                    refine lv_iload hx hb dX2_keep_111 (lv_at hl 5 rfl) ?_
                    refine wi_lald (f := (y).2 (103)) (n := wl) hx hb hK hP (103) 1 (kgK103 (by omega) rfl) rfl (i := b) (by omega) (by omega) hwl31 dX2_keep_113 ?_
                    refine wi_lcmp hx hb (kny.2.2.2.1 _) (kny.2.2.2.1 _) dX2_keep_114 ?_
                    refine wi_if_ne (tgt := 140) hx hb iC_R dX2_keep_115 (by decide) (fun c_115 => ?_) (fun c_115 => ?_)
                    · skip
                      rw [if_neg c_115] at hres
                      refine lv_iinc (v := iI ((i) + (1 : Int))) (lv' := [(6, .int (iI ((i) + (1 : Int)))), (0, .ref (ad (101))), (1, .ref (ad (88))), (2, .int (iI (f0))), (3, .int (iI (t0))), (4, .int (iI (f9))), (5, .int (iI (b)))]) hx hb dX2_keep_140 hl (k := 6) rfl (iI_add _ _) (by decide) rfl (fun ls hl => ?_)
                      refine lv_goto (tgt := 14) hx hb dX2_keep_143 (by decide) ?_
                      exact ih (y) (f9) (b) ((i) + (1 : Int)) (kny) (rhy) (rty) (ray) (uy0) (uy1) (ff0) (f19) (by omega) (by omega) (by omega) (by omega) (by omega) hres _ _ ls hP hD hS (lv_sub hl [1, 2, 3, 4, 5, 6, 0] rfl)
                    · skip
                      rw [if_pos c_115] at hres
                      refine lv_aload_n hx hb dX2_keep_118 rfl (lv_at hl 0 rfl) ?_
                      refine va_get (D := (dC, dI)) (ci := 2) (v := .ref (ad (102))) (C := RX2) (T := TX2) (N := 7) hx hb hts hinX2 hown hK hP (101) (kg101 (by omega)) rfl 0 (by decide) (hts (.fieldLink RX2 16 "LikeWords$Known" "heads" "[J") (by decide +kernel)) (fun _ h9 => h9) rfl dX2_keep_119 ?_
                      refine lv_iload hx hb dX2_keep_122 (lv_at hl 6 rfl) ?_
                      refine wi_lald (f := (y).2 (102)) (n := wl) hx hb hK hP (102) 1 (kgK102 (by omega) rfl) rfl (i := i) (by omega) (by omega) hwl31 dX2_keep_124 ?_
                      refine lv_aload_n hx hb dX2_keep_125 rfl (lv_at hl 0 rfl) ?_
                      refine va_get (D := (dC, dI)) (ci := 2) (v := .ref (ad (102))) (C := RX2) (T := TX2) (N := 7) hx hb hts hinX2 hown hK hP (101) (kg101 (by omega)) rfl 0 (by decide) (hts (.fieldLink RX2 16 "LikeWords$Known" "heads" "[J") (by decide +kernel)) (fun _ h9 => h9) rfl dX2_keep_126 ?_
                      refine lv_iload hx hb dX2_keep_129 (lv_at hl 5 rfl) ?_
                      refine wi_lald (f := (y).2 (102)) (n := wl) hx hb hK hP (102) 1 (kgK102 (by omega) rfl) rfl (i := b) (by omega) (by omega) hwl31 dX2_keep_131 ?_
                      refine wi_lcmp hx hb (kny.2.2.1 _) (kny.2.2.1 _) dX2_keep_132 ?_
                      refine wi_if_le (tgt := 140) hx hb iC_R dX2_keep_133 (by decide) (fun c_133 => ?_) (fun c_133 => ?_)
                      · skip
                        rw [if_pos c_133] at hres
                        refine lv_iinc (v := iI ((i) + (1 : Int))) (lv' := [(6, .int (iI ((i) + (1 : Int)))), (0, .ref (ad (101))), (1, .ref (ad (88))), (2, .int (iI (f0))), (3, .int (iI (t0))), (4, .int (iI (f9))), (5, .int (iI (b)))]) hx hb dX2_keep_140 hl (k := 6) rfl (iI_add _ _) (by decide) rfl (fun ls hl => ?_)
                        refine lv_goto (tgt := 14) hx hb dX2_keep_143 (by decide) ?_
                        exact ih (y) (f9) (b) ((i) + (1 : Int)) (kny) (rhy) (rty) (ray) (uy0) (uy1) (ff0) (f19) (by omega) (by omega) (by omega) (by omega) (by omega) hres _ _ ls hP hD hS (lv_sub hl [1, 2, 3, 4, 5, 6, 0] rfl)
                      · skip
                        rw [if_neg c_133] at hres
                        refine lv_iload hx hb dX2_keep_136 (lv_at hl 6 rfl) ?_
                        refine lv_istore (lv' := [(5, .int (iI (i))), (0, .ref (ad (101))), (1, .ref (ad (88))), (2, .int (iI (f0))), (3, .int (iI (t0))), (4, .int (iI (f9))), (6, .int (iI (i)))]) hx hb dX2_keep_138 hl (by decide) rfl (fun ls hl => ?_)
                        refine lv_iinc (v := iI ((i) + (1 : Int))) (lv' := [(6, .int (iI ((i) + (1 : Int)))), (5, .int (iI (i))), (0, .ref (ad (101))), (1, .ref (ad (88))), (2, .int (iI (f0))), (3, .int (iI (t0))), (4, .int (iI (f9)))]) hx hb dX2_keep_140 hl (k := 6) rfl (iI_add _ _) (by decide) rfl (fun ls hl => ?_)
                        refine lv_goto (tgt := 14) hx hb dX2_keep_143 (by decide) ?_
                        exact ih (y) (f9) (i) ((i) + (1 : Int)) (kny) (rhy) (rty) (ray) (uy0) (uy1) (ff0) (f19) (by omega) (by omega) (by omega) (by omega) (by omega) hres _ _ ls hP hD hS (lv_sub hl [2, 3, 4, 5, 6, 1, 0] rfl)
                · skip
                  rw [if_pos c_72] at hres
                  refine lv_iload hx hb dX2_keep_75 (lv_at hl 6 rfl) ?_
                  refine lv_istore (lv' := [(5, .int (iI (i))), (0, .ref (ad (101))), (1, .ref (ad (88))), (2, .int (iI (f0))), (3, .int (iI (t0))), (4, .int (iI (f9))), (6, .int (iI (i)))]) hx hb dX2_keep_77 hl (by decide) rfl (fun ls hl => ?_)
                  refine lv_goto (tgt := 146) hx hb dX2_keep_79 (by decide) ?_
                  refine lv_aload_n hx hb dX2_keep_146 rfl (lv_at hl 1 rfl) ?_
                  refine va_get (D := (dC, dI)) (ci := 2) (v := .ref (ad (102))) (C := RX2) (T := TX2) (N := 7) hx hb hts hinX2 hown hK hP (101) (kg101 (by omega)) rfl 0 (by decide) (hts (.fieldLink RX2 16 "LikeWords$Known" "heads" "[J") (by decide +kernel)) (fun _ h9 => h9) rfl dX2_keep_147 ?_
                  refine lv_iload hx hb dX2_keep_150 (lv_at hl 0 rfl) ?_
                  refine lv_aload_n hx hb dX2_keep_152 rfl (lv_at hl 1 rfl) ?_
                  refine va_get (D := (dC, dI)) (ci := 2) (v := .long (iL ((y).1 (101) 5))) (C := RX2) (T := TX2) (N := 7) hx hb hts hinX2 hown hK hP (101) (kg101 (by omega)) rfl 5 (by decide) (hts (.fieldLink RX2 36 "LikeWords$Known" "head" "J") (by decide +kernel)) (fun _ h9 => h9) rfl dX2_keep_153 ?_
                  refine wi_last (f := (y).2 102) (n := wl) hx hb hK hP hD hS (102) 1 (kgK102 (by omega) rfl) rfl (i := i) (x := (y).1 (101) 5) (by omega) (by omega) hwl31 dX2_keep_156 (fun H locs hP hD hS => ?_)
                  rw [ksK102] at hP hD
                  refine lv_aload_n hx hb dX2_keep_157 rfl (lv_at hl 1 rfl) ?_
                  refine va_get (D := (dC, dI)) (ci := 2) (v := .ref (ad (103))) (C := RX2) (T := TX2) (N := 7) hx hb hts hinX2 hown hK hP (101) (kg101 (by omega)) rfl 1 (by decide) (hts (.fieldLink RX2 20 "LikeWords$Known" "tails" "[J") (by decide +kernel)) (fun _ h9 => h9) rfl dX2_keep_158 ?_
                  refine lv_iload hx hb dX2_keep_161 (lv_at hl 0 rfl) ?_
                  refine lv_aload_n hx hb dX2_keep_163 rfl (lv_at hl 1 rfl) ?_
                  refine va_get (D := (dC, dI)) (ci := 2) (v := .long (iL ((y).1 (101) 6))) (C := RX2) (T := TX2) (N := 7) hx hb hts hinX2 hown hK hP (101) (kg101 (by omega)) rfl 6 (by decide) (hts (.fieldLink RX2 40 "LikeWords$Known" "tail" "J") (by decide +kernel)) (fun _ h9 => h9) rfl dX2_keep_164 ?_
                  refine wi_last (f := (kA (y) (102) (i).toNat ((y).1 (101) 5)).2 103) (n := wl) hx hb hK hP hD hS (103) 1 (kgK103 (by omega) rfl) rfl (i := i) (x := (y).1 (101) 6) (by omega) (by omega) hwl31 dX2_keep_167 (fun H locs hP hD hS => ?_)
                  rw [ksK103] at hP hD
                  refine lv_aload_n hx hb dX2_keep_168 rfl (lv_at hl 1 rfl) ?_
                  refine va_get (D := (dC, dI)) (ci := 2) (v := .ref (ad (104))) (C := RX2) (T := TX2) (N := 7) hx hb hts hinX2 hown hK hP (101) (kg101 (by omega)) rfl 2 (by decide) (hts (.fieldLink RX2 23 "LikeWords$Known" "endHeads" "[J") (by decide +kernel)) (fun _ h9 => h9) rfl dX2_keep_169 ?_
                  refine lv_iload hx hb dX2_keep_172 (lv_at hl 0 rfl) ?_
                  refine lv_aload_n hx hb dX2_keep_174 rfl (lv_at hl 2 rfl) ?_
                  refine lv_iload_n hx hb dX2_keep_175 rfl (lv_at hl 3 rfl) ?_
                  refine lv_iload_n hx hb dX2_keep_176 rfl (lv_at hl 4 rfl) ?_
                  have hFc : ∀ q, va_A (kWd cI cJ cZ cR wl ad M (kA (kA (y) (102) (i).toNat ((y).1 (101) 5)) (103) (i).toNat ((y).1 (101) 6))) H.size q → A q := fun q hq => Or.elim hq (fun ⟨k, e, hk⟩ => hD.2 k (q, e) hk) (fun hk => hA q (Nat.le_trans hS.1 hk))
                  refine va_calll (va_runV (b := ad (88)) (As := [.int (iI (f0)), .int (iI (t0))]) (rest := [.int (iI (i)), .ref (ad (104))]) ⟨hx, hb, hml, hown, hts⟩ (c_w_pack l dC dI ad cI cJ cZ cR M wl H.size (kA (kA (y) (102) (i).toNat ((y).1 (101) 5)) (103) (i).toNat ((y).1 (101) 6)) (88) (f0) (t0) hM rfl (by omega) (by omega) (by omega) (by unfold iR; omega) uy0 uy1 (fun j => by have := ray j; show iR (y.2 89 j); unfold iR; omega)) (cwV 2 hts gX2_keep_X10_pack rfl rfl rfl (by decide +kernel) ⟨Nat.le_of_ble_eq_true rfl, Nat.le_of_ble_eq_true rfl⟩) ⟨fun a U g mk q => by obtain ⟨q0, q1, qP, qK, qD, qN⟩ := q; exact ⟨q0, q1, qP, va_K.moved (u := U) (U := U.calling g mk a) (Vm.Alike.refl U.vm) qK, qD, kNw.same (u := U) (U := U.calling g mk a) rfl qN⟩, va_recv hK hP (ci := 10) (q0 := 88) rfl (kgw rfl (by omega)), fun U hU hW => ⟨rfl, by rw [hU], by rw [hU]; exact hP, va_K.moved hW.alike hK, hD.weaken (fun _ _ _ _ => trivial), kNw.warm hW hNw⟩⟩ rfl rfl hl.1 rfl (lv_room (Nat.le_of_ble_eq_true rfl)) dX2_keep_177 ⟨Nat.le_of_ble_eq_true rfl, Nat.le_of_ble_eq_true rfl⟩) hS (fun q _ h => hFc q h) hFc (fun r9 u9 t H1 locs ht hvm hw hB hz1 hk1 hS => ?_)
                  obtain ⟨hP1, hK1, hD1⟩ := hB
                  rw [ht] at hP1
                  obtain ⟨hw1, hw2⟩ := hw
                  rw [hw2] at hP1 hD1
                  rw [hw1]
                  rw [F_w_pack_2] at hP1 hD1
                  have hD2 := hD1.weaken (B := A) (fun _ q _ h => hFc q.1 h)
                  have hP := hP1
                  have hD := hD2
                  generalize H1 = H at hP hS ⊢
                  refine wi_last (f := (kA (kA (y) (102) (i).toNat ((y).1 (101) 5)) (103) (i).toNat ((y).1 (101) 6)).2 104) (n := wl) hx hb hK hP hD hS (104) 1 (kgK104 (by omega) rfl) rfl (i := i) (x := (F_w_pack (kA (kA (y) (102) (i).toNat ((y).1 (101) 5)) (103) (i).toNat ((y).1 (101) 6)) (88) (f0) (t0)).1) (by omega) (by omega) hwl31 dX2_keep_180 (fun H locs hP hD hS => ?_)
                  rw [ksK104] at hP hD
                  refine lv_aload_n hx hb dX2_keep_181 rfl (lv_at hl 1 rfl) ?_
                  refine va_get (D := (dC, dI)) (ci := 2) (v := .ref (ad (105))) (C := RX2) (T := TX2) (N := 7) hx hb hts hinX2 hown hK hP (101) (kg101 (by omega)) rfl 3 (by decide) (hts (.fieldLink RX2 26 "LikeWords$Known" "endTails" "[J") (by decide +kernel)) (fun _ h9 => h9) rfl dX2_keep_182 ?_
                  refine lv_iload hx hb dX2_keep_185 (lv_at hl 0 rfl) ?_
                  refine lv_aload_n hx hb dX2_keep_187 rfl (lv_at hl 2 rfl) ?_
                  refine lv_iload_n hx hb dX2_keep_188 rfl (lv_at hl 3 rfl) ?_
                  refine lv_bipush (v := iI (30 : Int)) hx hb dX2_keep_189 (by decide) ?_
                  refine wi_iadd hx hb dX2_keep_191 ?_
                  refine lv_iload_n hx hb dX2_keep_192 rfl (lv_at hl 4 rfl) ?_
                  have hFc : ∀ q, va_A (kWd cI cJ cZ cR wl ad M (kA (kA (kA (y) (102) (i).toNat ((y).1 (101) 5)) (103) (i).toNat ((y).1 (101) 6)) (104) (i).toNat ((F_w_pack (kA (kA (y) (102) (i).toNat ((y).1 (101) 5)) (103) (i).toNat ((y).1 (101) 6)) (88) (f0) (t0)).1))) H.size q → A q := fun q hq => Or.elim hq (fun ⟨k, e, hk⟩ => hD.2 k (q, e) hk) (fun hk => hA q (Nat.le_trans hS.1 hk))
                  refine va_calll (va_runV (b := ad (88)) (As := [.int (iI ((f0) + ((30 : Int)))), .int (iI (t0))]) (rest := [.int (iI (i)), .ref (ad (105))]) ⟨hx, hb, hml, hown, hts⟩ (c_w_pack l dC dI ad cI cJ cZ cR M wl H.size (kA (kA (kA (y) (102) (i).toNat ((y).1 (101) 5)) (103) (i).toNat ((y).1 (101) 6)) (104) (i).toNat ((F_w_pack (kA (kA (y) (102) (i).toNat ((y).1 (101) 5)) (103) (i).toNat ((y).1 (101) 6)) (88) (f0) (t0)).1)) (88) ((f0) + ((30 : Int))) (t0) hM rfl (by omega) (by omega) (by omega) (by unfold iR; omega) uy0 uy1 (fun j => by have := ray j; show iR (y.2 89 j); unfold iR; omega)) (cwV 2 hts gX2_keep_X10_pack rfl rfl rfl (by decide +kernel) ⟨Nat.le_of_ble_eq_true rfl, Nat.le_of_ble_eq_true rfl⟩) ⟨fun a U g mk q => by obtain ⟨q0, q1, qP, qK, qD, qN⟩ := q; exact ⟨q0, q1, qP, va_K.moved (u := U) (U := U.calling g mk a) (Vm.Alike.refl U.vm) qK, qD, kNw.same (u := U) (U := U.calling g mk a) rfl qN⟩, va_recv hK hP (ci := 10) (q0 := 88) rfl (kgw rfl (by omega)), fun U hU hW => ⟨rfl, by rw [hU], by rw [hU]; exact hP, va_K.moved hW.alike hK, hD.weaken (fun _ _ _ _ => trivial), kNw.warm hW hNw⟩⟩ rfl rfl hl.1 rfl (lv_room (Nat.le_of_ble_eq_true rfl)) dX2_keep_193 ⟨Nat.le_of_ble_eq_true rfl, Nat.le_of_ble_eq_true rfl⟩) hS (fun q _ h => hFc q h) hFc (fun r9 u9 t H1 locs ht hvm hw hB hz1 hk1 hS => ?_)
                  obtain ⟨hP1, hK1, hD1⟩ := hB
                  rw [ht] at hP1
                  obtain ⟨hw1, hw2⟩ := hw
                  rw [hw2] at hP1 hD1
                  rw [hw1]
                  rw [F_w_pack_2] at hP1 hD1
                  have hD2 := hD1.weaken (B := A) (fun _ q _ h => hFc q.1 h)
                  have hP := hP1
                  have hD := hD2
                  generalize H1 = H at hP hS ⊢
                  refine wi_last (f := (kA (kA (kA (y) (102) (i).toNat ((y).1 (101) 5)) (103) (i).toNat ((y).1 (101) 6)) (104) (i).toNat ((F_w_pack (kA (kA (y) (102) (i).toNat ((y).1 (101) 5)) (103) (i).toNat ((y).1 (101) 6)) (88) (f0) (t0)).1)).2 105) (n := wl) hx hb hK hP hD hS (105) 1 (kgK105 (by omega) rfl) rfl (i := i) (x := (F_w_pack (kA (kA (kA (y) (102) (i).toNat ((y).1 (101) 5)) (103) (i).toNat ((y).1 (101) 6)) (104) (i).toNat ((F_w_pack (kA (kA (y) (102) (i).toNat ((y).1 (101) 5)) (103) (i).toNat ((y).1 (101) 6)) (88) (f0) (t0)).1)) (88) ((f0) + ((30 : Int))) (t0)).1) (by omega) (by omega) hwl31 dX2_keep_196 (fun H locs hP hD hS => ?_)
                  rw [ksK105] at hP hD
                  refine lv_aload_n hx hb dX2_keep_197 rfl (lv_at hl 1 rfl) ?_
                  refine lv_iconst (v := iI (0 : Int)) hx hb dX2_keep_198 (by decide) ?_
                  refine va_put (D := (dC, dI)) (ci := 2) (v := .int (iI ((0 : Int)))) (ty := .boolean) (C := RX2) (T := TX2) (N := 7) hx hb hts hinX2 tyX2 tyX2_ok nmX2 hown hK hP hD hS (101) (kg101 (by omega)) rfl 4 (by decide) (hts (.fieldLink RX2 29 "LikeWords$Known" "isEmpty" "Z") (by decide +kernel)) (fun _ h9 => h9) rfl (by decide +kernel) (kz _ (Or.inl rfl)) rfl (Nat.le_of_ble_eq_true rfl) dX2_keep_199 (fun H locs hP hD hS => ?_)
                  rw [ks101_4] at hP hD
                  exact W.vret hx hb hr (fun t ht hW => ⟨⟨kS (kA (kA (kA (kA (y) (102) (i).toNat ((y).1 (101) 5)) (103) (i).toNat ((y).1 (101) 6)) (104) (i).toNat ((F_w_pack (kA (kA (y) (102) (i).toNat ((y).1 (101) 5)) (103) (i).toNat ((y).1 (101) 6)) (88) (f0) (t0)).1)) (105) (i).toNat ((F_w_pack (kA (kA (kA (y) (102) (i).toNat ((y).1 (101) 5)) (103) (i).toNat ((y).1 (101) 6)) (104) (i).toNat ((F_w_pack (kA (kA (y) (102) (i).toNat ((y).1 (101) 5)) (103) (i).toNat ((y).1 (101) 6)) (88) (f0) (t0)).1)) (88) ((f0) + ((30 : Int))) (t0)).1)) (101) 4 ((0 : Int)), rfl, (by have h9 := congrArg (fun z : Int × KS => z.2) hres; exact h9), by rw [ht]; exact hP, va_K.moved hW.alike hK, hD⟩, hS.F ht⟩) hS.2.2 dX2_keep_202
  have key : ∀ (H : Heap) (locs : List Loc), va_P (dC, dI) vwCl (kWd cI cJ cZ cR wl ad M (x)) H → va_S A s.heap H locs → W p l e (headSpec wsX2_keep ({ frames := 1, cells := 0, slots := 0, locals := 25 })).room s m ([.ref (ad 101), .ref (ad 88), .int (iI f0), .int (iI t0)] : List Value).toArray below meth c H locs 0 0 (MQ below (va_Qv (fun u : KS => u = (F_k_keep x f0 t0).2) (kAt dC dI ad cI cJ cZ cR M wl A) A) ([.ref (ad 101), .ref (ad 88), .int (iI f0), .int (iI t0)] : List Value).toArray s 0 0 A) (F0 m 0 ls []) := by
    intro H locs hP hS
    have hres : F_k_keep_s 10 0 (x) (f0) (t0) ((F_k_firstPlace (x)).1) ((F_k_firstPlace (x)).1) ((F_k_firstPlace (x)).1) = F_k_keep x f0 t0 := rfl
    refine lv_aload_n hx hb dX2_keep_0 rfl (lv_at hl 0 rfl) ?_
    have hFc : ∀ q, va_A (kWd cI cJ cZ cR wl ad M (x)) H.size q → A q := fun q hq => Or.elim hq (fun ⟨k, e, hk⟩ => hD.2 k (q, e) hk) (fun hk => hA q (Nat.le_trans hS.1 hk))
    refine va_calli (va_runV (b := ad (101)) (As := []) (rest := []) ⟨hx, hb, hml, hown, hts⟩ (c_k_firstPlace l dC dI ad cI cJ cZ cR M wl H.size (x)   hM hG kn) (cwV 0 hts gX2_keep_X2_firstPlace rfl rfl rfl (by decide +kernel) ⟨Nat.le_of_ble_eq_true rfl, Nat.le_of_ble_eq_true rfl⟩) ⟨fun a U g mk q => by obtain ⟨q0, q1, qP, qK, qD, qN⟩ := q; exact ⟨q0, q1, qP, va_K.moved (u := U) (U := U.calling g mk a) (Vm.Alike.refl U.vm) qK, qD, kNw.same (u := U) (U := U.calling g mk a) rfl qN⟩, va_recv hK hP (ci := 2) (q0 := 101) rfl (kg101 (by omega)), fun U hU hW => ⟨rfl, by rw [hU], by rw [hU]; exact hP, va_K.moved hW.alike hK, hD.weaken (fun _ _ _ _ => trivial), kNw.warm hW hNw⟩⟩ rfl rfl hl.1 rfl (lv_room (Nat.le_of_ble_eq_true rfl)) dX2_keep_1 ⟨Nat.le_of_ble_eq_true rfl, Nat.le_of_ble_eq_true rfl⟩) hS (fun q _ h => hFc q h) hFc (fun r9 u9 t H1 locs ht hvm hw hB hz1 hk1 hS => ?_)
    obtain ⟨hP1, hK1, hD1⟩ := hB
    rw [ht] at hP1
    obtain ⟨hw1, hw2⟩ := hw
    rw [hw2] at hP1 hD1
    rw [hw1]
    rw [F_k_firstPlace_2] at hP1 hD1
    have hD2 := hD1.weaken (B := A) (fun _ q _ h => hFc q.1 h)
    have hP := hP1
    have hD := hD2
    generalize H1 = H at hP hS ⊢
    refine lv_istore (lv' := [(4, .int (iI ((F_k_firstPlace (x)).1))), (0, .ref (ad (101))), (1, .ref (ad (88))), (2, .int (iI (f0))), (3, .int (iI (t0)))]) hx hb dX2_keep_4 hl (by decide) rfl (fun ls hl => ?_)
    refine lv_iload hx hb dX2_keep_6 (lv_at hl 0 rfl) ?_
    refine lv_istore (lv' := [(5, .int (iI ((F_k_firstPlace (x)).1))), (4, .int (iI ((F_k_firstPlace (x)).1))), (0, .ref (ad (101))), (1, .ref (ad (88))), (2, .int (iI (f0))), (3, .int (iI (t0)))]) hx hb dX2_keep_8 hl (by decide) rfl (fun ls hl => ?_)
    refine lv_iload hx hb dX2_keep_10 (lv_at hl 1 rfl) ?_
    refine lv_istore (lv' := [(6, .int (iI ((F_k_firstPlace (x)).1))), (5, .int (iI ((F_k_firstPlace (x)).1))), (4, .int (iI ((F_k_firstPlace (x)).1))), (0, .ref (ad (101))), (1, .ref (ad (88))), (2, .int (iI (f0))), (3, .int (iI (t0)))]) hx hb dX2_keep_12 hl (by decide) rfl (fun ls hl => ?_)
    exact (L (10)) (x) ((F_k_firstPlace (x)).1) ((F_k_firstPlace (x)).1) ((F_k_firstPlace (x)).1) (kn) (rh) (rt) (ra) (u0) (u1) (fp.1) (fp.2) (by omega) (by omega) (by omega) (by omega) (by omega) hres _ _ ls hP hD hS (lv_sub hl [3, 4, 5, 6, 2, 1, 0] rfl)
  exact key _ _ hP hS
theorem F_k_keep_sfr  : ∀ n : Nat, (∀ (y : KS) (v0 : Int) (v1 : Int) (v2 : Int) (v3 : Int) (v4 : Int), ksame [(101, 4)] [102, 103, 104, 105] y (F_k_keep_s n 0 y v0 v1 v2 v3 v4).2) := by
  intro n
  induction n with
  | zero => exact fun y _ _ _ _ _ => km_rf _ _ _
  | succ n ih =>
    skip
    · intro y f0 t0 f9 b i
      rw [F_k_keep_e0]
      by_cases hc : ((f9) + ((4 : Int))) ≤ (i)
      · rw [if_pos hc]
        exact (km_s (List.Mem.head _) (km_a (List.Mem.tail _ (List.Mem.tail _ (List.Mem.tail _ (List.Mem.head _)))) (km_a (List.Mem.tail _ (List.Mem.tail _ (List.Mem.head _))) (km_a (List.Mem.tail _ (List.Mem.head _)) (km_a (List.Mem.head _) (km_rf _ _ _))))))
      · rw [if_neg hc]
        by_cases hc : ((y).1 (101) 9) ≤ (i)
        · rw [if_pos hc]
          exact (km_s (List.Mem.head _) (km_a (List.Mem.tail _ (List.Mem.tail _ (List.Mem.tail _ (List.Mem.head _)))) (km_a (List.Mem.tail _ (List.Mem.tail _ (List.Mem.head _))) (km_a (List.Mem.tail _ (List.Mem.head _)) (km_a (List.Mem.head _) (km_rf _ _ _))))))
        · rw [if_neg hc]
          by_cases hc : (iC (((y).2 (102)) (i).toNat) ((0 : Int))) = (0)
          · rw [if_pos hc]
            exact (km_s (List.Mem.head _) (km_a (List.Mem.tail _ (List.Mem.tail _ (List.Mem.tail _ (List.Mem.head _)))) (km_a (List.Mem.tail _ (List.Mem.tail _ (List.Mem.head _))) (km_a (List.Mem.tail _ (List.Mem.head _)) (km_a (List.Mem.head _) (km_rf _ _ _))))))
          · rw [if_neg hc]
            by_cases hc : (iC (((y).2 (102)) (i).toNat) ((y).1 (101) 5)) = (0)
            · rw [if_pos hc]
              by_cases hc : (iC (((y).2 (103)) (i).toNat) ((y).1 (101) 6)) = (0)
              · rw [if_pos hc]
                exact (km_s (List.Mem.head _) (km_a (List.Mem.tail _ (List.Mem.tail _ (List.Mem.tail _ (List.Mem.head _)))) (km_a (List.Mem.tail _ (List.Mem.tail _ (List.Mem.head _))) (km_a (List.Mem.tail _ (List.Mem.head _)) (km_a (List.Mem.head _) (km_rf _ _ _))))))
              · rw [if_neg hc]
                by_cases hc : (0) < (iC (((y).2 (103)) (i).toNat) (((y).2 (103)) (b).toNat))
                · rw [if_pos hc]
                  exact km_tr ((km_rf _ _ _)) (ih (y) (f0) (t0) (f9) (i) ((i) + (1 : Int)))
                · rw [if_neg hc]
                  by_cases hc : (iC (((y).2 (103)) (i).toNat) (((y).2 (103)) (b).toNat)) = (0)
                  · rw [if_pos hc]
                    by_cases hc : (iC (((y).2 (102)) (i).toNat) (((y).2 (102)) (b).toNat)) ≤ (0)
                    · rw [if_pos hc]
                      exact km_tr ((km_rf _ _ _)) (ih (y) (f0) (t0) (f9) (b) ((i) + (1 : Int)))
                    · rw [if_neg hc]
                      exact km_tr ((km_rf _ _ _)) (ih (y) (f0) (t0) (f9) (i) ((i) + (1 : Int)))
                  · rw [if_neg hc]
                    exact km_tr ((km_rf _ _ _)) (ih (y) (f0) (t0) (f9) (b) ((i) + (1 : Int)))
            · rw [if_neg hc]
              by_cases hc : (0) < (iC (((y).2 (103)) (i).toNat) (((y).2 (103)) (b).toNat))
              · rw [if_pos hc]
                exact km_tr ((km_rf _ _ _)) (ih (y) (f0) (t0) (f9) (i) ((i) + (1 : Int)))
              · rw [if_neg hc]
                by_cases hc : (iC (((y).2 (103)) (i).toNat) (((y).2 (103)) (b).toNat)) = (0)
                · rw [if_pos hc]
                  by_cases hc : (iC (((y).2 (102)) (i).toNat) (((y).2 (102)) (b).toNat)) ≤ (0)
                  · rw [if_pos hc]
                    exact km_tr ((km_rf _ _ _)) (ih (y) (f0) (t0) (f9) (b) ((i) + (1 : Int)))
                  · rw [if_neg hc]
                    exact km_tr ((km_rf _ _ _)) (ih (y) (f0) (t0) (f9) (i) ((i) + (1 : Int)))
                · rw [if_neg hc]
                  exact km_tr ((km_rf _ _ _)) (ih (y) (f0) (t0) (f9) (b) ((i) + (1 : Int)))
theorem F_k_keep_fr (x : KS) (f0 : Int) (t0 : Int) : ksame [(101, 4)] [102, 103, 104, 105] x (F_k_keep x f0 t0).2 := by
  unfold F_k_keep
  exact km_tr ((km_rf _ _ _)) ((F_k_keep_sfr  (10)) (x) (f0) (t0) ((F_k_firstPlace (x)).1) ((F_k_firstPlace (x)).1) ((F_k_firstPlace (x)).1))
theorem F_k_keep_q (x : KS) (f0 : Int) (t0 : Int)  : kq [101] [102, 103, 104, 105] x (F_k_keep x f0 t0).2 := kq_of (F_k_keep_fr x f0 t0) (kq_c (Or.inr (by decide)) kq_m) (kq_c (Or.inr (by decide)) (kq_c (Or.inr (by decide)) (kq_c (Or.inr (by decide)) (kq_c (Or.inr (by decide)) kq_n))))
theorem F_k_keep_s_kn {wl : Nat} : ∀ (n : Nat) (y : KS) (f0 t0 f9 b i : Int), knR y wl → iRL (y.1 101 5) → iRL (y.1 101 6) → (∀ j : Nat, 0 ≤ y.2 89 j ∧ y.2 89 j ≤ 3) → 0 ≤ f0 → knR (F_k_keep_s n 0 y f0 t0 f9 b i).2 wl := by
  intro n
  induction n with
  | zero => intro y f0 t0 f9 b i h _ _ _ _; exact h
  | succ n ih =>
    intro y f0 t0 f9 b i h rh rt ra hf
    rw [F_k_keep_e0]
    obtain ⟨a1, a2, a3, a4, a5, a6⟩ := id h
    have key : ∀ z : KS, z.2 89 = y.2 89 → ∀ f : Int, 0 ≤ f → iRL (F_w_pack z 88 f t0).1 := fun z hz f hf => F_w_pack_RL (w := 88) (fun j => by show 0 ≤ z.2 89 j ∧ z.2 89 j ≤ 3; rw [hz]; exact ra j) hf
    repeat' split
    all_goals first
      | exact ih _ _ _ _ _ _ h rh rt ra hf
      | exact ⟨a1, a2, iU_all (P := iRL) rh a3, iU_all (P := iRL) rt a4, iU_all (P := iRL) (key _ (by rfl) _ hf) a5, iU_all (P := iRL) (key _ (by rfl) _ (by omega)) a6⟩
theorem F_k_keep_kn {x : KS} {wl : Nat} {f0 t0 : Int} (kn : knR x wl) (rh : iRL (x.1 101 5)) (rt : iRL (x.1 101 6)) (ra : ∀ j : Nat, 0 ≤ x.2 89 j ∧ x.2 89 j ≤ 3) (hf : 0 ≤ f0) : knR (F_k_keep x f0 t0).2 wl := F_k_keep_s_kn _ _ _ _ _ _ _ kn rh rt ra hf
theorem F_k_find_s_01 : ∀ (n : Nat) (y : KS) (f9 i : Int), (F_k_find_s n 0 y f9 i).1 = 0 ∨ (F_k_find_s n 0 y f9 i).1 = 1 := by
  intro n
  induction n with
  | zero => intro y f9 i; exact Or.inl rfl
  | succ n ih =>
    intro y f9 i
    rw [F_k_find_e0]
    repeat' split
    all_goals first | exact Or.inl rfl | exact Or.inr rfl | exact ih _ _ _
theorem F_k_find_01 (x : KS) : (F_k_find x).1 = 0 ∨ (F_k_find x).1 = 1 := F_k_find_s_01 _ _ _ _
