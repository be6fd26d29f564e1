-- deps: 30 31 32
/-- all of lesser leads down -/
def jnR (x : KS) : Prop := (0 ≤ x.1 56 1 ∧ x.1 56 1 ≤ 10000) ∧ ∀ j : Nat, j < 10000 → 0 ≤ x.2 57 j ∧ x.2 57 j ≤ j
theorem jnR_up {y : KS} (h : jnR y) {r : Nat} {v : Int} (h0 : 0 ≤ v) (h1 : v ≤ r) : jnR (kA y 57 r v) := by
  refine ⟨h.1, fun j hj => ?_⟩
  show 0 ≤ iU (y.2 57) r v j ∧ iU (y.2 57) r v j ≤ j
  unfold iU
  split
  · subst_vars; exact ⟨h0, h1⟩
  · exact h.2 j hj
def F_j_begin_s  : Nat → Nat → KS → Int → Int → Int × KS
  | 0, _, x, _, _ => (0, x)
  | n + 1, t, x, p0, p1 => match t with
    | 0 => (fun (v : Int) (i : Int) => (if ((x).1 (56) 1) ≤ (i) then (0, x) else F_j_begin_s n 0 (kA (x) (57) (i).toNat (i)) (v) ((i) + (1 : Int)))) p0 p1
    | _ => (0, x)
theorem F_j_begin_e0  (n : Nat) (x : KS) (v : Int) (i : Int) : F_j_begin_s (n + 1) 0 x v i = (if ((x).1 (56) 1) ≤ (i) then (0, x) else F_j_begin_s n 0 (kA (x) (57) (i).toNat (i)) (v) ((i) + (1 : Int))) := rfl
def F_j_begin (x : KS) (v : Int) : Int × KS := F_j_begin_s 10010 0 (kS (x) (56) 1 (min (v) ((10000 : Int)))) (v) ((0 : Int))
set_option maxHeartbeats 4000000 in
set_option maxRecDepth 100000 in
/-- LikeWords$Joins, begin -/
theorem c_j_begin (l : Launch) (dC : Nat → ClassId) (dI : Nat → Nat → Nat) (ad : Nat → Nat) (cI cJ cZ cR : ClassId) (M wl sz : Nat) (x : KS) (v : Int) (hM : 87 ≤ M) (v0 : 0 ≤ v) (rv : iR v) : Met l yX1_begin wsX1_begin ({ frames := 1, cells := 0, slots := 0, locals := 21 }) (kPc dC dI ad cI cJ cZ cR M wl sz x [.ref (ad 56), .int (iI v)]) (va_Qv (fun u : KS => u = (F_j_begin x v).2) (kAt dC dI ad cI cJ cZ cR M wl (va_A (kWd cI cJ cZ cR wl ad M (x)) sz)) (va_A (kWd cI cJ cZ cR wl ad M (x)) sz)) 0 0 (va_A (kWd cI cJ cZ cR wl ad M (x)) sz) := by
  refine Met.ofW (cc := cX1_begin) (maxL := 3) (ret := none) (by decide) rfl ?_
  intro p e s m args below meth c s₁ B hml hv
  obtain ⟨rfl, hsz, hP, hK, hD0, hNw⟩ := hv
  have hx := B.exec
  have hb := B.bytes
  have hr := B.returns
  have hts := atoms_spec (ws := wsX1_begin) B.pre
  have hown : s.vm.findClass RX1 = some m.cls := findClass_of_methodNamed B.named
  have hlocks := B.notSynchronized
  have hinX1 : ∀ w ∈ u_ws RX1 TX1 3, w ∈ wsX1_begin := by decide +kernel
  subst hsz
  have hD := hD0.self (sz := s.heap.size)
  generalize hAe : va_A (kWd cI cJ cZ cR wl ad M (x)) s.heap.size = A at hD ⊢
  have hA : ∀ q : Nat, s.heap.size ≤ q → A q := fun q h => by rw [← hAe]; exact Or.inr h
  have hS : va_S A s.heap s.heap [] := va_S.rf
  have hl := lv_entry ([.ref (ad 56), .int (iI v)]) (n := 3) (Nat.le_of_ble_eq_true rfl)
  rw [lg_entry_eq]
  generalize (lg_sl ([.ref (ad 56), .int (iI v)]) ++ List.replicate (3 - (lg_sl ([.ref (ad 56), .int (iI v)])).length) Slot.unset).toArray = ls at hl ⊢
  have hl : lv_has ls 3 [(0, .ref (ad (56))), (1, .int (iI (v)))] := hl
  have L : ∀ n : Nat, (∀ (y : KS) (i : Int), (0 ≤ i) → (i ≤ y.1 56 1) → (y.1 56 1 ≤ 10000) → (y.1 56 1 - i < n) → F_j_begin_s n 0 y v i = F_j_begin x v → ∀ (H : Heap) (locs : List Loc) (ls : Array Slot), va_P (dC, dI) vwCl (kWd cI cJ cZ cR wl ad M (y)) H → va_D A (kWd cI cJ cZ cR wl ad M (y)) → va_S A s.heap H locs → lv_has ls 3 [(0, .ref (ad (56))), (1, .int (iI (v))), (2, .int (iI (i)))] → W p l e (headSpec wsX1_begin ({ frames := 1, cells := 0, slots := 0, locals := 21 })).room s m ([.ref (ad 56), .int (iI v)] : List Value).toArray below meth c H locs 0 0 (MQ below (va_Qv (fun u : KS => u = (F_j_begin x v).2) (kAt dC dI ad cI cJ cZ cR M wl A) A) ([.ref (ad 56), .int (iI v)] : List Value).toArray s 0 0 A) (F0 m 15 ls [])) := by
    intro n
    induction n with
    | zero =>
      skip
      · intro y i i0 i1 y1 fu hres
        exact absurd fu (by omega)
    | succ n ih =>
      skip
      · intro y i i0 i1 y1 fu hres H locs ls hP hD hS hl
        rw [F_j_begin_e0] at hres
        refine lv_iload_n hx hb dX1_begin_15 rfl (lv_at hl 2 rfl) ?_
        refine lv_aload_n hx hb dX1_begin_16 rfl (lv_at hl 0 rfl) ?_
        refine va_get (D := (dC, dI)) (ci := 1) (v := .int (iI ((y).1 (56) 1))) (C := RX1) (T := TX1) (N := 3) hx hb hts hinX1 hown hK hP (56) (kg56 (by omega)) rfl 1 (by decide) (hts (.fieldLink RX1 21 "LikeWords$Joins" "all" "I") (by decide +kernel)) (fun _ h9 => h9) rfl dX1_begin_17 ?_
        refine wi_icmp_ge (tgt := 36) hx hb (by first | assumption | (unfold iR; omega) | exact kR01 (by assumption)) (by first | assumption | (unfold iR; omega) | exact kR01 (by assumption)) dX1_begin_20 (by decide) (fun c_20 => ?_) (fun c_20 => ?_)
        · skip
          rw [if_pos c_20] at hres
          exact W.vret hx hb hr (fun t ht hW => ⟨⟨y, rfl, (by have h9 := congrArg (fun z : Int × KS => z.2) hres; exact h9), by rw [ht]; exact hP, va_K.moved hW.alike hK, hD⟩, hS.F ht⟩) hS.2.2 dX1_begin_36
        · skip
          rw [if_neg c_20] at hres
          refine lv_aload_n hx hb dX1_begin_23 rfl (lv_at hl 0 rfl) ?_
          refine va_get (D := (dC, dI)) (ci := 1) (v := .ref (ad (57))) (C := RX1) (T := TX1) (N := 3) hx hb hts hinX1 hown hK hP (56) (kg56 (by omega)) rfl 0 (by decide) (hts (.fieldLink RX1 9 "LikeWords$Joins" "lesser" "[I") (by decide +kernel)) (fun _ h9 => h9) rfl dX1_begin_24 ?_
          refine lv_iload_n hx hb dX1_begin_27 rfl (lv_at hl 2 rfl) ?_
          refine lv_iload_n hx hb dX1_begin_28 rfl (lv_at hl 2 rfl) ?_
          refine wi_iast (f := (y).2 (57)) (n := kLen (57)) hx hb hK hP hD hS (57) 0 (kgi kC57 (by omega) rfl) rfl (i := i) (x := i) (by omega) (by show _ < ((10000 : Nat) : Int); exact (by omega)) (kLen_lt _) dX1_begin_29 (fun H locs hP hD hS => ?_)
          rw [ksi kC57] at hP hD
          refine lv_iinc (v := iI ((i) + (1 : Int))) (lv' := [(2, .int (iI ((i) + (1 : Int)))), (0, .ref (ad (56))), (1, .int (iI (v)))]) hx hb dX1_begin_30 hl (k := 2) rfl (iI_add _ _) (by decide) rfl (fun ls hl => ?_)
          refine lv_goto (tgt := 15) hx hb dX1_begin_33 (by decide) ?_
          exact ih (kA (y) (57) (i).toNat (i)) ((i) + (1 : Int)) (by omega) (by show _ ≤ y.1 56 1; omega) (y1) (by show y.1 56 1 - _ < n; omega) hres _ _ ls hP hD hS (lv_sub hl [1, 2, 0] rfl)
  have key : ∀ (H : Heap) (locs : List Loc), va_P (dC, dI) vwCl (kWd cI cJ cZ cR wl ad M (x)) H → va_S A s.heap H locs → W p l e (headSpec wsX1_begin ({ frames := 1, cells := 0, slots := 0, locals := 21 })).room s m ([.ref (ad 56), .int (iI v)] : List Value).toArray below meth c H locs 0 0 (MQ below (va_Qv (fun u : KS => u = (F_j_begin x v).2) (kAt dC dI ad cI cJ cZ cR M wl A) A) ([.ref (ad 56), .int (iI v)] : List Value).toArray s 0 0 A) (F0 m 0 ls []) := by
    intro H locs hP hS
    have hres : F_j_begin_s 10010 0 (kS (x) (56) 1 (min (v) ((10000 : Int)))) (v) ((0 : Int)) = F_j_begin x v := rfl
    refine lv_aload_n hx hb dX1_begin_0 rfl (lv_at hl 0 rfl) ?_
    refine lv_iload_n hx hb dX1_begin_1 rfl (lv_at hl 1 rfl) ?_
    refine lv_aload_n hx hb dX1_begin_2 rfl (lv_at hl 0 rfl) ?_
    refine va_get (D := (dC, dI)) (ci := 1) (v := .ref (ad (57))) (C := RX1) (T := TX1) (N := 3) hx hb hts hinX1 hown hK hP (56) (kg56 (by omega)) rfl 0 (by decide) (hts (.fieldLink RX1 9 "LikeWords$Joins" "lesser" "[I") (by decide +kernel)) (fun _ h9 => h9) rfl dX1_begin_3 ?_
    refine va_alen (v := iI ((10000 : Int))) hx hb hK hP (57) 0 (kgi kC57 (by omega) rfl) rfl (iI_nat _) dX1_begin_6 ?_
    refine va_mmin hx hb (by rw [hml]; exact hl.1.symm) hown (hts (.methodLink RX1 15 Lib.Math.min.name) (by decide +kernel)) (hts (.static Lib.Math.min.name) (by decide +kernel)) (hts (.initialized "java/lang/Math") (by decide +kernel)) (hts (.code Lib.Math.min.name Lib.Math.min.code 2 (some .int)) (by decide +kernel)) (Nat.le_of_ble_eq_true rfl) (Nat.le_of_ble_eq_true rfl) (Nat.le_of_ble_eq_true rfl) (Nat.le_of_ble_eq_true rfl) dX1_begin_7 ?_
    rw [iI_min (by first | assumption | (unfold iR; omega) | exact kR01 (by assumption)) ⟨by decide, by decide⟩]
    refine va_put (D := (dC, dI)) (ci := 1) (v := .int (iI (min (v) ((10000 : Int))))) (ty := .int) (C := RX1) (T := TX1) (N := 3) hx hb hts hinX1 tyX1 tyX1_ok nmX1 hown hK hP hD hS (56) (kg56 (by omega)) rfl 1 (by decide) (hts (.fieldLink RX1 21 "LikeWords$Joins" "all" "I") (by decide +kernel)) (fun _ h9 => h9) rfl (by decide +kernel) rfl rfl (Nat.le_of_ble_eq_true rfl) dX1_begin_10 (fun H locs hP hD hS => ?_)
    rw [ks56_1] at hP hD
    refine lv_iconst (v := iI (0 : Int)) hx hb dX1_begin_13 (by decide) ?_
    refine lv_istore_n (lv' := [(2, .int (iI ((0 : Int)))), (0, .ref (ad (56))), (1, .int (iI (v)))]) hx hb dX1_begin_14 rfl hl (by decide) rfl (fun ls hl => ?_)
    exact (L (10010)) (kS (x) (56) 1 (min (v) ((10000 : Int)))) ((0 : Int)) (by omega) (by show 0 ≤ min v 10000; omega) (by show min v 10000 ≤ 10000; omega) (by show min v 10000 - 0 < _; omega) hres _ _ ls hP hD hS (lv_sub hl [1, 2, 0] rfl)
  exact key _ _ hP hS
theorem F_j_begin_sfr  : ∀ n : Nat, (∀ (y : KS) (v0 : Int) (v1 : Int), ksame [(56, 1)] [57] y (F_j_begin_s n 0 y v0 v1).2) := by
  intro n
  induction n with
  | zero => exact fun y _ _ => km_rf _ _ _
  | succ n ih =>
    skip
    · intro y v i
      rw [F_j_begin_e0]
      by_cases hc : ((y).1 (56) 1) ≤ (i)
      · rw [if_pos hc]
        exact (km_rf _ _ _)
      · rw [if_neg hc]
        exact km_tr ((km_a (List.Mem.head _) (km_rf _ _ _))) (ih (kA (y) (57) (i).toNat (i)) (v) ((i) + (1 : Int)))
theorem F_j_begin_fr (x : KS) (v : Int) : ksame [(56, 1)] [57] x (F_j_begin x v).2 := by
  unfold F_j_begin
  exact km_tr ((km_s (List.Mem.head _) (km_rf _ _ _))) ((F_j_begin_sfr  (10010)) (kS (x) (56) 1 (min (v) ((10000 : Int)))) (v) ((0 : Int)))
theorem F_j_begin_q (x : KS) (v : Int)  : kq [56] [57] x (F_j_begin x v).2 := kq_of (F_j_begin_fr x v) (kq_c (Or.inr (by decide)) kq_m) (kq_c (Or.inr (by decide)) kq_n)
def F_j_leastOf_s  : Nat → Nat → KS → Int → Int → Int → Int × KS
  | 0, _, x, _, _, _ => (0, x)
  | n + 1, t, x, p0, p1, p2 => match t with
    | 0 => (fun (v : Int) (h1 : Int) (i : Int) => (if ((x).1 (56) 1) ≤ (i) then (h1, x) else (if (((x).2 (57)) (h1).toNat) = (h1) then (h1, x) else F_j_leastOf_s n 0 (kA (x) (57) (h1).toNat (((x).2 (57)) (((x).2 (57)) (h1).toNat).toNat)) (v) ((iU ((x).2 (57)) (h1).toNat (((x).2 (57)) (((x).2 (57)) (h1).toNat).toNat)) (h1).toNat) ((i) + (1 : Int))))) p0 p1 p2
    | _ => (0, x)
theorem F_j_leastOf_e0  (n : Nat) (x : KS) (v : Int) (h1 : Int) (i : Int) : F_j_leastOf_s (n + 1) 0 x v h1 i = (if ((x).1 (56) 1) ≤ (i) then (h1, x) else (if (((x).2 (57)) (h1).toNat) = (h1) then (h1, x) else F_j_leastOf_s n 0 (kA (x) (57) (h1).toNat (((x).2 (57)) (((x).2 (57)) (h1).toNat).toNat)) (v) ((iU ((x).2 (57)) (h1).toNat (((x).2 (57)) (((x).2 (57)) (h1).toNat).toNat)) (h1).toNat) ((i) + (1 : Int)))) := rfl
def F_j_leastOf (x : KS) (v : Int) : Int × KS := (if (v) < (0) then ((0 : Int), x) else (if (v) < ((x).1 (56) 1) then F_j_leastOf_s 10010 0 (x) (v) (v) ((0 : Int)) else ((0 : Int), x)))
set_option maxHeartbeats 4000000 in
set_option maxRecDepth 100000 in
/-- LikeWords$Joins, leastOf -/
theorem c_j_leastOf (l : Launch) (dC : Nat → ClassId) (dI : Nat → Nat → Nat) (ad : Nat → Nat) (cI cJ cZ cR : ClassId) (M wl sz : Nat) (x : KS) (v : Int) (hM : 87 ≤ M) (rv : iR v) (jr : jnR x) : Met l yX1_leastOf wsX1_leastOf ({ frames := 0, cells := 0, slots := 0, locals := 0 }) (kPc dC dI ad cI cJ cZ cR M wl sz x [.ref (ad 56), .int (iI v)]) (va_Qi (fun (r : Int32) (u : KS) => r = iI (F_j_leastOf x v).1 ∧ u = (F_j_leastOf x v).2) (kAt dC dI ad cI cJ cZ cR M wl (va_A (kWd cI cJ cZ cR wl ad M (x)) sz)) (va_A (kWd cI cJ cZ cR wl ad M (x)) sz)) 0 0 (va_A (kWd cI cJ cZ cR wl ad M (x)) sz) := by
  refine Met.ofW (cc := cX1_leastOf) (maxL := 4) (ret := (some .int)) (by decide) rfl ?_
  intro p e s m args below meth c s₁ B hml hv
  obtain ⟨rfl, hsz, hP, hK, hD0, hNw⟩ := hv
  have hx := B.exec
  have hb := B.bytes
  have hr := B.returns
  have hts := atoms_spec (ws := wsX1_leastOf) B.pre
  have hown : s.vm.findClass RX1 = some m.cls := findClass_of_methodNamed B.named
  have hlocks := B.notSynchronized
  have hinX1 : ∀ w ∈ u_ws RX1 TX1 3, w ∈ wsX1_leastOf := by decide +kernel
  subst hsz
  have hD := hD0.self (sz := s.heap.size)
  generalize hAe : va_A (kWd cI cJ cZ cR wl ad M (x)) s.heap.size = A at hD ⊢
  have hA : ∀ q : Nat, s.heap.size ≤ q → A q := fun q h => by rw [← hAe]; exact Or.inr h
  have hS : va_S A s.heap s.heap [] := va_S.rf
  have hl := lv_entry ([.ref (ad 56), .int (iI v)]) (n := 4) (Nat.le_of_ble_eq_true rfl)
  rw [lg_entry_eq]
  generalize (lg_sl ([.ref (ad 56), .int (iI v)]) ++ List.replicate (4 - (lg_sl ([.ref (ad 56), .int (iI v)])).length) Slot.unset).toArray = ls at hl ⊢
  have hl : lv_has ls 4 [(0, .ref (ad (56))), (1, .int (iI (v)))] := hl
  have j1 := jr.1
  have jr0 := jr.2
  have L : ∀ n : Nat, (∀ (y : KS) (h1 : Int) (i : Int), (0 ≤ h1) → (h1 < 10000) → (0 ≤ i) → (i ≤ 10000) → (jnR y) → (10000 - i < n) → F_j_leastOf_s n 0 y v h1 i = F_j_leastOf x v → ∀ (H : Heap) (locs : List Loc) (ls : Array Slot), va_P (dC, dI) vwCl (kWd cI cJ cZ cR wl ad M (y)) H → va_D A (kWd cI cJ cZ cR wl ad M (y)) → va_S A s.heap H locs → lv_has ls 4 [(0, .ref (ad (56))), (1, .int (iI (v))), (2, .int (iI (h1))), (3, .int (iI (i)))] → W p l e (headSpec wsX1_leastOf ({ frames := 0, cells := 0, slots := 0, locals := 0 })).room s m ([.ref (ad 56), .int (iI v)] : List Value).toArray below meth c H locs 0 0 (MQ below (va_Qi (fun (r : Int32) (u : KS) => r = iI (F_j_leastOf x v).1 ∧ u = (F_j_leastOf x v).2) (kAt dC dI ad cI cJ cZ cR M wl A) A) ([.ref (ad 56), .int (iI v)] : List Value).toArray s 0 0 A) (F0 m 18 ls [])) := by
    intro n
    induction n with
    | zero =>
      skip
      · intro y h1 i h0 h2 i0 i1 jy fu hres
        exact absurd fu (by omega)
    | succ n ih =>
      skip
      · intro y h1 i h0 h2 i0 i1 jy fu hres H locs ls hP hD hS hl
        rw [F_j_leastOf_e0] at hres
        have ja := jy.1
        have jb := jy.2 h1.toNat (by omega)
        have jc := jy.2 ((y.2 57) h1.toNat).toNat (by omega)
        refine lv_iload_n hx hb dX1_leastOf_18 rfl (lv_at hl 3 rfl) ?_
        refine lv_aload_n hx hb dX1_leastOf_19 rfl (lv_at hl 0 rfl) ?_
        refine va_get (D := (dC, dI)) (ci := 1) (v := .int (iI ((y).1 (56) 1))) (C := RX1) (T := TX1) (N := 3) hx hb hts hinX1 hown hK hP (56) (kg56 (by omega)) rfl 1 (by decide) (hts (.fieldLink RX1 21 "LikeWords$Joins" "all" "I") (by decide +kernel)) (fun _ h9 => h9) rfl dX1_leastOf_20 ?_
        refine wi_icmp_ge (tgt := 66) hx hb (by first | assumption | (unfold iR; omega) | exact kR01 (by assumption)) (by first | assumption | (unfold iR; omega) | exact kR01 (by assumption)) dX1_leastOf_23 (by decide) (fun c_23 => ?_) (fun c_23 => ?_)
        · skip
          rw [if_pos c_23] at hres
          refine lv_iload_n hx hb dX1_leastOf_66 rfl (lv_at hl 2 rfl) ?_
          exact W.iret (v := iI (h1)) hx hb hr (fun t ht hW => ⟨⟨iI (h1), y, rfl, ⟨(by have h9 := congrArg (fun z : Int × KS => iI z.1) hres; exact h9), (by have h9 := congrArg (fun z : Int × KS => z.2) hres; exact h9)⟩, by rw [ht]; exact hP, va_K.moved hW.alike hK, hD⟩, hS.F ht⟩) hS.2.2 dX1_leastOf_67
        · skip
          rw [if_neg c_23] at hres
          refine lv_aload_n hx hb dX1_leastOf_26 rfl (lv_at hl 0 rfl) ?_
          refine va_get (D := (dC, dI)) (ci := 1) (v := .ref (ad (57))) (C := RX1) (T := TX1) (N := 3) hx hb hts hinX1 hown hK hP (56) (kg56 (by omega)) rfl 0 (by decide) (hts (.fieldLink RX1 9 "LikeWords$Joins" "lesser" "[I") (by decide +kernel)) (fun _ h9 => h9) rfl dX1_leastOf_27 ?_
          refine lv_iload_n hx hb dX1_leastOf_30 rfl (lv_at hl 2 rfl) ?_
          refine wi_iald (f := (y).2 (57)) (n := kLen (57)) hx hb hK hP (57) 0 (kgi kC57 (by omega) rfl) rfl (i := h1) (by omega) (by show _ < ((10000 : Nat) : Int); exact (by omega)) (kLen_lt _) dX1_leastOf_31 ?_
          refine lv_iload_n hx hb dX1_leastOf_32 rfl (lv_at hl 2 rfl) ?_
          refine wi_icmp_eq (tgt := 66) hx hb (by first | assumption | (unfold iR; omega) | exact kR01 (by assumption)) (by first | assumption | (unfold iR; omega) | exact kR01 (by assumption)) dX1_leastOf_33 (by decide) (fun c_33 => ?_) (fun c_33 => ?_)
          · skip
            rw [if_pos c_33] at hres
            refine lv_iload_n hx hb dX1_leastOf_66 rfl (lv_at hl 2 rfl) ?_
            exact W.iret (v := iI (h1)) hx hb hr (fun t ht hW => ⟨⟨iI (h1), y, rfl, ⟨(by have h9 := congrArg (fun z : Int × KS => iI z.1) hres; exact h9), (by have h9 := congrArg (fun z : Int × KS => z.2) hres; exact h9)⟩, by rw [ht]; exact hP, va_K.moved hW.alike hK, hD⟩, hS.F ht⟩) hS.2.2 dX1_leastOf_67
          · skip
            rw [if_neg c_33] at hres
            refine lv_aload_n hx hb dX1_leastOf_36 rfl (lv_at hl 0 rfl) ?_
            refine va_get (D := (dC, dI)) (ci := 1) (v := .ref (ad (57))) (C := RX1) (T := TX1) (N := 3) hx hb hts hinX1 hown hK hP (56) (kg56 (by omega)) rfl 0 (by decide) (hts (.fieldLink RX1 9 "LikeWords$Joins" "lesser" "[I") (by decide +kernel)) (fun _ h9 => h9) rfl dX1_leastOf_37 ?_
            refine lv_iload_n hx hb dX1_leastOf_40 rfl (lv_at hl 2 rfl) ?_
            refine lv_aload_n hx hb dX1_leastOf_41 rfl (lv_at hl 0 rfl) ?_
            refine va_get (D := (dC, dI)) (ci := 1) (v := .ref (ad (57))) (C := RX1) (T := TX1) (N := 3) hx hb hts hinX1 hown hK hP (56) (kg56 (by omega)) rfl 0 (by decide) (hts (.fieldLink RX1 9 "LikeWords$Joins" "lesser" "[I") (by decide +kernel)) (fun _ h9 => h9) rfl dX1_leastOf_42 ?_
            refine lv_aload_n hx hb dX1_leastOf_45 rfl (lv_at hl 0 rfl) ?_
            refine va_get (D := (dC, dI)) (ci := 1) (v := .ref (ad (57))) (C := RX1) (T := TX1) (N := 3) hx hb hts hinX1 hown hK hP (56) (kg56 (by omega)) rfl 0 (by decide) (hts (.fieldLink RX1 9 "LikeWords$Joins" "lesser" "[I") (by decide +kernel)) (fun _ h9 => h9) rfl dX1_leastOf_46 ?_
            refine lv_iload_n hx hb dX1_leastOf_49 rfl (lv_at hl 2 rfl) ?_
            refine wi_iald (f := (y).2 (57)) (n := kLen (57)) hx hb hK hP (57) 0 (kgi kC57 (by omega) rfl) rfl (i := h1) (by omega) (by show _ < ((10000 : Nat) : Int); exact (by omega)) (kLen_lt _) dX1_leastOf_50 ?_
            refine wi_iald (f := (y).2 (57)) (n := kLen (57)) hx hb hK hP (57) 0 (kgi kC57 (by omega) rfl) rfl (i := ((y).2 (57)) (h1).toNat) (by omega) (by show _ < ((10000 : Nat) : Int); exact (by omega)) (kLen_lt _) dX1_leastOf_51 ?_
            refine wi_iast (f := (y).2 (57)) (n := kLen (57)) hx hb hK hP hD hS (57) 0 (kgi kC57 (by omega) rfl) rfl (i := h1) (x := ((y).2 (57)) (((y).2 (57)) (h1).toNat).toNat) (by omega) (by show _ < ((10000 : Nat) : Int); exact (by omega)) (kLen_lt _) dX1_leastOf_52 (fun H locs hP hD hS => ?_)
            rw [ksi kC57] at hP hD
            refine lv_aload_n hx hb dX1_leastOf_53 rfl (lv_at hl 0 rfl) ?_
            refine va_get (D := (dC, dI)) (ci := 1) (v := .ref (ad (57))) (C := RX1) (T := TX1) (N := 3) hx hb hts hinX1 hown hK hP (56) (kg56 (by omega)) rfl 0 (by decide) (hts (.fieldLink RX1 9 "LikeWords$Joins" "lesser" "[I") (by decide +kernel)) (fun _ h9 => h9) rfl dX1_leastOf_54 ?_
            refine lv_iload_n hx hb dX1_leastOf_57 rfl (lv_at hl 2 rfl) ?_
            refine wi_iald (f := iU ((y).2 (57)) (h1).toNat (((y).2 (57)) (((y).2 (57)) (h1).toNat).toNat)) (n := kLen (57)) hx hb hK hP (57) 0 (kgi kC57 (by omega) (kA_s.trans (congrArg (fun z9 => iU z9 (h1).toNat (((y).2 (57)) (((y).2 (57)) (h1).toNat).toNat)) rfl))) rfl (i := h1) (by omega) (by show _ < ((10000 : Nat) : Int); exact (by omega)) (kLen_lt _) dX1_leastOf_58 ?_
            refine lv_istore_n (lv' := [(2, .int (iI ((iU ((y).2 (57)) (h1).toNat (((y).2 (57)) (((y).2 (57)) (h1).toNat).toNat)) (h1).toNat))), (0, .ref (ad (56))), (1, .int (iI (v))), (3, .int (iI (i)))]) hx hb dX1_leastOf_59 rfl hl (by decide) rfl (fun ls hl => ?_)
            refine lv_iinc (v := iI ((i) + (1 : Int))) (lv' := [(3, .int (iI ((i) + (1 : Int)))), (2, .int (iI ((iU ((y).2 (57)) (h1).toNat (((y).2 (57)) (((y).2 (57)) (h1).toNat).toNat)) (h1).toNat))), (0, .ref (ad (56))), (1, .int (iI (v)))]) hx hb dX1_leastOf_60 hl (k := 3) rfl (iI_add _ _) (by decide) rfl (fun ls hl => ?_)
            refine lv_goto (tgt := 18) hx hb dX1_leastOf_63 (by decide) ?_
            exact ih (kA (y) (57) (h1).toNat (((y).2 (57)) (((y).2 (57)) (h1).toNat).toNat)) ((iU ((y).2 (57)) (h1).toNat (((y).2 (57)) (((y).2 (57)) (h1).toNat).toNat)) (h1).toNat) ((i) + (1 : Int)) (by rw [iU_s]; omega) (by rw [iU_s]; omega) (by omega) (by omega) (jnR_up jy jc.1 (by omega)) (by omega) hres _ _ ls hP hD hS (lv_sub hl [2, 3, 1, 0] rfl)
  have key : ∀ (H : Heap) (locs : List Loc), va_P (dC, dI) vwCl (kWd cI cJ cZ cR wl ad M (x)) H → va_S A s.heap H locs → W p l e (headSpec wsX1_leastOf ({ frames := 0, cells := 0, slots := 0, locals := 0 })).room s m ([.ref (ad 56), .int (iI v)] : List Value).toArray below meth c H locs 0 0 (MQ below (va_Qi (fun (r : Int32) (u : KS) => r = iI (F_j_leastOf x v).1 ∧ u = (F_j_leastOf x v).2) (kAt dC dI ad cI cJ cZ cR M wl A) A) ([.ref (ad 56), .int (iI v)] : List Value).toArray s 0 0 A) (F0 m 0 ls []) := by
    intro H locs hP hS
    have hres : (if (v) < (0) then ((0 : Int), x) else (if (v) < ((x).1 (56) 1) then F_j_leastOf_s 10010 0 (x) (v) (v) ((0 : Int)) else ((0 : Int), x))) = F_j_leastOf x v := rfl
    refine lv_iload_n hx hb dX1_leastOf_0 rfl (lv_at hl 1 rfl) ?_
    refine wi_if_lt (tgt := 12) hx hb (by first | assumption | (unfold iR; omega) | exact kR01 (by assumption)) dX1_leastOf_1 (by decide) (fun c_1 => ?_) (fun c_1 => ?_)
    · skip
      rw [if_pos c_1] at hres
      refine lv_iconst (v := iI (0 : Int)) hx hb dX1_leastOf_12 (by decide) ?_
      exact W.iret (v := iI ((0 : Int))) hx hb hr (fun t ht hW => ⟨⟨iI ((0 : Int)), x, rfl, ⟨(by have h9 := congrArg (fun z : Int × KS => iI z.1) hres; exact h9), (by have h9 := congrArg (fun z : Int × KS => z.2) hres; exact h9)⟩, by rw [ht]; exact hP, va_K.moved hW.alike hK, hD⟩, hS.F ht⟩) hS.2.2 dX1_leastOf_13
    · skip
      rw [if_neg c_1] at hres
      refine lv_iload_n hx hb dX1_leastOf_4 rfl (lv_at hl 1 rfl) ?_
      refine lv_aload_n hx hb dX1_leastOf_5 rfl (lv_at hl 0 rfl) ?_
      refine va_get (D := (dC, dI)) (ci := 1) (v := .int (iI ((x).1 (56) 1))) (C := RX1) (T := TX1) (N := 3) hx hb hts hinX1 hown hK hP (56) (kg56 (by omega)) rfl 1 (by decide) (hts (.fieldLink RX1 21 "LikeWords$Joins" "all" "I") (by decide +kernel)) (fun _ h9 => h9) rfl dX1_leastOf_6 ?_
      refine wi_icmp_lt (tgt := 14) hx hb (by first | assumption | (unfold iR; omega) | exact kR01 (by assumption)) (by first | assumption | (unfold iR; omega) | exact kR01 (by assumption)) dX1_leastOf_9 (by decide) (fun c_9 => ?_) (fun c_9 => ?_)
      · skip
        rw [if_pos c_9] at hres
        refine lv_iload_n hx hb dX1_leastOf_14 rfl (lv_at hl 1 rfl) ?_
        refine lv_istore_n (lv' := [(2, .int (iI (v))), (0, .ref (ad (56))), (1, .int (iI (v)))]) hx hb dX1_leastOf_15 rfl hl (by decide) rfl (fun ls hl => ?_)
        refine lv_iconst (v := iI (0 : Int)) hx hb dX1_leastOf_16 (by decide) ?_
        refine lv_istore_n (lv' := [(3, .int (iI ((0 : Int)))), (2, .int (iI (v))), (0, .ref (ad (56))), (1, .int (iI (v)))]) hx hb dX1_leastOf_17 rfl hl (by decide) rfl (fun ls hl => ?_)
        exact (L (10010)) (x) (v) ((0 : Int)) (by omega) (by omega) (by omega) (by omega) (jr) (by omega) hres _ _ ls hP hD hS (lv_sub hl [2, 3, 1, 0] rfl)
      · skip
        rw [if_neg c_9] at hres
        refine lv_iconst (v := iI (0 : Int)) hx hb dX1_leastOf_12 (by decide) ?_
        exact W.iret (v := iI ((0 : Int))) hx hb hr (fun t ht hW => ⟨⟨iI ((0 : Int)), x, rfl, ⟨(by have h9 := congrArg (fun z : Int × KS => iI z.1) hres; exact h9), (by have h9 := congrArg (fun z : Int × KS => z.2) hres; exact h9)⟩, by rw [ht]; exact hP, va_K.moved hW.alike hK, hD⟩, hS.F ht⟩) hS.2.2 dX1_leastOf_13
  exact key _ _ hP hS
theorem F_j_leastOf_sfr  : ∀ n : Nat, (∀ (y : KS) (v0 : Int) (v1 : Int) (v2 : Int), ksame [] [57] y (F_j_leastOf_s n 0 y v0 v1 v2).2) := by
  intro n
  induction n with
  | zero => exact fun y _ _ _ => km_rf _ _ _
  | succ n ih =>
    skip
    · intro y v h1 i
      rw [F_j_leastOf_e0]
      by_cases hc : ((y).1 (56) 1) ≤ (i)
      · rw [if_pos hc]
        exact (km_rf _ _ _)
      · rw [if_neg hc]
        by_cases hc : (((y).2 (57)) (h1).toNat) = (h1)
        · rw [if_pos hc]
          exact (km_rf _ _ _)
        · rw [if_neg hc]
          exact km_tr ((km_a (List.Mem.head _) (km_rf _ _ _))) (ih (kA (y) (57) (h1).toNat (((y).2 (57)) (((y).2 (57)) (h1).toNat).toNat)) (v) ((iU ((y).2 (57)) (h1).toNat (((y).2 (57)) (((y).2 (57)) (h1).toNat).toNat)) (h1).toNat) ((i) + (1 : Int)))
theorem F_j_leastOf_fr (x : KS) (v : Int) : ksame [] [57] x (F_j_leastOf x v).2 := by
  unfold F_j_leastOf
  by_cases hc : (v) < (0)
  · rw [if_pos hc]
    exact (km_rf _ _ _)
  · rw [if_neg hc]
    by_cases hc : (v) < ((x).1 (56) 1)
    · rw [if_pos hc]
      exact km_tr ((km_rf _ _ _)) ((F_j_leastOf_sfr  (10010)) (x) (v) (v) ((0 : Int)))
    · rw [if_neg hc]
      exact (km_rf _ _ _)
theorem F_j_leastOf_q (x : KS) (v : Int)  : kq [] [57] x (F_j_leastOf x v).2 := kq_of (F_j_leastOf_fr x v) kq_m (kq_c (Or.inr (by decide)) kq_n)
theorem F_j_leastOf_s_ok : ∀ (n : Nat) (y : KS) (v r i : Int), jnR y → 0 ≤ r → r < 10000 → jnR (F_j_leastOf_s n 0 y v r i).2 ∧ 0 ≤ (F_j_leastOf_s n 0 y v r i).1 ∧ (F_j_leastOf_s n 0 y v r i).1 ≤ r := by
  intro n
  induction n with
  | zero => intro y v r i hj h0 h1; exact ⟨hj, Int.le_refl 0, h0⟩
  | succ n ih =>
    intro y v r i hj h0 h1
    rw [F_j_leastOf_e0]
    have g1 := hj.2 r.toNat (by omega)
    have g2 := hj.2 ((y.2 57) r.toNat).toNat (by omega)
    split
    · exact ⟨hj, h0, Int.le_refl r⟩
    · split
      · exact ⟨hj, h0, Int.le_refl r⟩
      · obtain ⟨k1, k2, k3⟩ := ih (kA y 57 r.toNat (y.2 57 (y.2 57 r.toNat).toNat)) v (iU (y.2 57) r.toNat (y.2 57 (y.2 57 r.toNat).toNat) r.toNat) (i + 1) (jnR_up hj g2.1 (by omega)) (by rw [iU_s]; exact g2.1) (by rw [iU_s]; omega)
        exact ⟨k1, k2, Int.le_trans k3 (by rw [iU_s]; omega)⟩
theorem F_j_leastOf_ok {x : KS} {v : Int} (hj : jnR x) : jnR (F_j_leastOf x v).2 ∧ 0 ≤ (F_j_leastOf x v).1 ∧ (0 ≤ v → (F_j_leastOf x v).1 ≤ v) ∧ (F_j_leastOf x v).1 < 10000 := by
  have j1 := hj.1
  unfold F_j_leastOf
  split
  · exact ⟨hj, Int.le_refl 0, fun h => h, by show (0 : Int) < 10000; decide⟩
  · split
    · obtain ⟨k1, k2, k3⟩ := F_j_leastOf_s_ok 10010 x v v 0 hj (by omega) (by omega)
      exact ⟨k1, k2, fun _ => k3, by omega⟩
    · exact ⟨hj, Int.le_refl 0, fun h => h, by show (0 : Int) < 10000; decide⟩
def F_j_join (x : KS) (a : Int) (b : Int) : Int × KS := (if (a) < (0) then (0, x) else (if ((x).1 (56) 1) ≤ (a) then (0, x) else (if (b) < (0) then (0, x) else (if (b) < ((x).1 (56) 1) then (if ((F_j_leastOf ((F_j_leastOf (x) (a)).2) (b)).1) ≤ ((F_j_leastOf (x) (a)).1) then (0, kA ((F_j_leastOf ((F_j_leastOf (x) (a)).2) (b)).2) (57) ((F_j_leastOf (x) (a)).1).toNat ((F_j_leastOf ((F_j_leastOf (x) (a)).2) (b)).1)) else (0, kA ((F_j_leastOf ((F_j_leastOf (x) (a)).2) (b)).2) (57) ((F_j_leastOf ((F_j_leastOf (x) (a)).2) (b)).1).toNat ((F_j_leastOf (x) (a)).1))) else (0, x)))))
set_option maxHeartbeats 4000000 in
set_option maxRecDepth 100000 in
/-- LikeWords$Joins, join -/
theorem c_j_join (l : Launch) (dC : Nat → ClassId) (dI : Nat → Nat → Nat) (ad : Nat → Nat) (cI cJ cZ cR : ClassId) (M wl sz : Nat) (x : KS) (a : Int) (b : Int) (hM : 87 ≤ M) (ra : iR a) (rb : iR b) (jr : jnR x) : Met l yX1_join wsX1_join ({ frames := 1, cells := 0, slots := 0, locals := 23 }) (kPc dC dI ad cI cJ cZ cR M wl sz x [.ref (ad 56), .int (iI a), .int (iI b)]) (va_Qv (fun u : KS => u = (F_j_join x a b).2) (kAt dC dI ad cI cJ cZ cR M wl (va_A (kWd cI cJ cZ cR wl ad M (x)) sz)) (va_A (kWd cI cJ cZ cR wl ad M (x)) sz)) 0 0 (va_A (kWd cI cJ cZ cR wl ad M (x)) sz) := by
  refine Met.ofW (cc := cX1_join) (maxL := 5) (ret := none) (by decide) rfl ?_
  intro p e s m args below meth c s₁ B hml hv
  obtain ⟨rfl, hsz, hP, hK, hD0, hNw⟩ := hv
  have hx := B.exec
  have hb := B.bytes
  have hr := B.returns
  have hts := atoms_spec (ws := wsX1_join) B.pre
  have hown : s.vm.findClass RX1 = some m.cls := findClass_of_methodNamed B.named
  have hlocks := B.notSynchronized
  have hinX1 : ∀ w ∈ u_ws RX1 TX1 3, w ∈ wsX1_join := by decide +kernel
  subst hsz
  have hD := hD0.self (sz := s.heap.size)
  generalize hAe : va_A (kWd cI cJ cZ cR wl ad M (x)) s.heap.size = A at hD ⊢
  have hA : ∀ q : Nat, s.heap.size ≤ q → A q := fun q h => by rw [← hAe]; exact Or.inr h
  have hS : va_S A s.heap s.heap [] := va_S.rf
  have hl := lv_entry ([.ref (ad 56), .int (iI a), .int (iI b)]) (n := 5) (Nat.le_of_ble_eq_true rfl)
  rw [lg_entry_eq]
  generalize (lg_sl ([.ref (ad 56), .int (iI a), .int (iI b)]) ++ List.replicate (5 - (lg_sl ([.ref (ad 56), .int (iI a), .int (iI b)])).length) Slot.unset).toArray = ls at hl ⊢
  have hl : lv_has ls 5 [(0, .ref (ad (56))), (1, .int (iI (a))), (2, .int (iI (b)))] := hl
  have j1 := jr.1
  have o1 := F_j_leastOf_ok (v := a) jr
  have o2 := F_j_leastOf_ok (v := b) o1.1
  have key : ∀ (H : Heap) (locs : List Loc), va_P (dC, dI) vwCl (kWd cI cJ cZ cR wl ad M (x)) H → va_S A s.heap H locs → W p l e (headSpec wsX1_join ({ frames := 1, cells := 0, slots := 0, locals := 23 })).room s m ([.ref (ad 56), .int (iI a), .int (iI b)] : List Value).toArray below meth c H locs 0 0 (MQ below (va_Qv (fun u : KS => u = (F_j_join x a b).2) (kAt dC dI ad cI cJ cZ cR M wl A) A) ([.ref (ad 56), .int (iI a), .int (iI b)] : List Value).toArray s 0 0 A) (F0 m 0 ls []) := by
    intro H locs hP hS
    have hres : (if (a) < (0) then (0, x) else (if ((x).1 (56) 1) ≤ (a) then (0, x) else (if (b) < (0) then (0, x) else (if (b) < ((x).1 (56) 1) then (if ((F_j_leastOf ((F_j_leastOf (x) (a)).2) (b)).1) ≤ ((F_j_leastOf (x) (a)).1) then (0, kA ((F_j_leastOf ((F_j_leastOf (x) (a)).2) (b)).2) (57) ((F_j_leastOf (x) (a)).1).toNat ((F_j_leastOf ((F_j_leastOf (x) (a)).2) (b)).1)) else (0, kA ((F_j_leastOf ((F_j_leastOf (x) (a)).2) (b)).2) (57) ((F_j_leastOf ((F_j_leastOf (x) (a)).2) (b)).1).toNat ((F_j_leastOf (x) (a)).1))) else (0, x))))) = F_j_join x a b := rfl
    refine lv_iload_n hx hb dX1_join_0 rfl (lv_at hl 1 rfl) ?_
    refine wi_if_lt (tgt := 24) hx hb (by first | assumption | (unfold iR; omega) | exact kR01 (by assumption)) dX1_join_1 (by decide) (fun c_1 => ?_) (fun c_1 => ?_)
    · skip
      rw [if_pos c_1] at hres
      exact W.vret hx hb hr (fun t ht hW => ⟨⟨x, rfl, (by have h9 := congrArg (fun z : Int × KS => z.2) hres; exact h9), by rw [ht]; exact hP, va_K.moved hW.alike hK, hD⟩, hS.F ht⟩) hS.2.2 dX1_join_24
    · skip
      rw [if_neg c_1] at hres
      refine lv_iload_n hx hb dX1_join_4 rfl (lv_at hl 1 rfl) ?_
      refine lv_aload_n hx hb dX1_join_5 rfl (lv_at hl 0 rfl) ?_
      refine va_get (D := (dC, dI)) (ci := 1) (v := .int (iI ((x).1 (56) 1))) (C := RX1) (T := TX1) (N := 3) hx hb hts hinX1 hown hK hP (56) (kg56 (by omega)) rfl 1 (by decide) (hts (.fieldLink RX1 21 "LikeWords$Joins" "all" "I") (by decide +kernel)) (fun _ h9 => h9) rfl dX1_join_6 ?_
      refine wi_icmp_ge (tgt := 24) hx hb (by first | assumption | (unfold iR; omega) | exact kR01 (by assumption)) (by first | assumption | (unfold iR; omega) | exact kR01 (by assumption)) dX1_join_9 (by decide) (fun c_9 => ?_) (fun c_9 => ?_)
      · skip
        rw [if_pos c_9] at hres
        exact W.vret hx hb hr (fun t ht hW => ⟨⟨x, rfl, (by have h9 := congrArg (fun z : Int × KS => z.2) hres; exact h9), by rw [ht]; exact hP, va_K.moved hW.alike hK, hD⟩, hS.F ht⟩) hS.2.2 dX1_join_24
      · skip
        rw [if_neg c_9] at hres
        refine lv_iload_n hx hb dX1_join_12 rfl (lv_at hl 2 rfl) ?_
        refine wi_if_lt (tgt := 24) hx hb (by first | assumption | (unfold iR; omega) | exact kR01 (by assumption)) dX1_join_13 (by decide) (fun c_13 => ?_) (fun c_13 => ?_)
        · skip
          rw [if_pos c_13] at hres
          exact W.vret hx hb hr (fun t ht hW => ⟨⟨x, rfl, (by have h9 := congrArg (fun z : Int × KS => z.2) hres; exact h9), by rw [ht]; exact hP, va_K.moved hW.alike hK, hD⟩, hS.F ht⟩) hS.2.2 dX1_join_24
        · skip
          rw [if_neg c_13] at hres
          refine lv_iload_n hx hb dX1_join_16 rfl (lv_at hl 2 rfl) ?_
          refine lv_aload_n hx hb dX1_join_17 rfl (lv_at hl 0 rfl) ?_
          refine va_get (D := (dC, dI)) (ci := 1) (v := .int (iI ((x).1 (56) 1))) (C := RX1) (T := TX1) (N := 3) hx hb hts hinX1 hown hK hP (56) (kg56 (by omega)) rfl 1 (by decide) (hts (.fieldLink RX1 21 "LikeWords$Joins" "all" "I") (by decide +kernel)) (fun _ h9 => h9) rfl dX1_join_18 ?_
          refine wi_icmp_lt (tgt := 25) hx hb (by first | assumption | (unfold iR; omega) | exact kR01 (by assumption)) (by first | assumption | (unfold iR; omega) | exact kR01 (by assumption)) dX1_join_21 (by decide) (fun c_21 => ?_) (fun c_21 => ?_)
          · skip
            rw [if_pos c_21] at hres
            refine lv_aload_n hx hb dX1_join_25 rfl (lv_at hl 0 rfl) ?_
            refine lv_iload_n hx hb dX1_join_26 rfl (lv_at hl 1 rfl) ?_
            have hFc : ∀ q, va_A (kWd cI cJ cZ cR wl ad M (x)) H.size q → A q := fun q hq => Or.elim hq (fun ⟨k, e, hk⟩ => hD.2 k (q, e) hk) (fun hk => hA q (Nat.le_trans hS.1 hk))
            refine va_calli (va_runV (b := ad (56)) (As := [.int (iI (a))]) (rest := []) ⟨hx, hb, hml, hown, hts⟩ (c_j_leastOf l dC dI ad cI cJ cZ cR M wl H.size (x)  (a) hM ra jr) (cwV 1 hts gX1_join_X1_leastOf rfl rfl rfl (by decide +kernel) ⟨Nat.le_of_ble_eq_true rfl, Nat.le_of_ble_eq_true rfl⟩) ⟨fun a U g mk q => by obtain ⟨q0, q1, qP, qK, qD, qN⟩ := q; exact ⟨q0, q1, qP, va_K.moved (u := U) (U := U.calling g mk a) (Vm.Alike.refl U.vm) qK, qD, kNw.same (u := U) (U := U.calling g mk a) rfl qN⟩, va_recv hK hP (ci := 1) (q0 := 56) rfl (kg56 (by omega)), fun U hU hW => ⟨rfl, by rw [hU], by rw [hU]; exact hP, va_K.moved hW.alike hK, hD.weaken (fun _ _ _ _ => trivial), kNw.warm hW hNw⟩⟩ rfl rfl hl.1 rfl (lv_room (Nat.le_of_ble_eq_true rfl)) dX1_join_27 ⟨Nat.le_of_ble_eq_true rfl, Nat.le_of_ble_eq_true rfl⟩) hS (fun q _ h => hFc q h) hFc (fun r9 u9 t H1 locs ht hvm hw hB hz1 hk1 hS => ?_)
            obtain ⟨hP1, hK1, hD1⟩ := hB
            rw [ht] at hP1
            obtain ⟨hw1, hw2⟩ := hw
            rw [hw2] at hP1 hD1
            rw [hw1]
            have hD2 := hD1.weaken (B := A) (fun _ q _ h => hFc q.1 h)
            have hP := hP1
            have hD := hD2
            generalize H1 = H at hP hS ⊢
            refine lv_istore_n (lv' := [(3, .int (iI ((F_j_leastOf (x) (a)).1))), (0, .ref (ad (56))), (1, .int (iI (a))), (2, .int (iI (b)))]) hx hb dX1_join_30 rfl hl (by decide) rfl (fun ls hl => ?_)
            refine lv_aload_n hx hb dX1_join_31 rfl (lv_at hl 1 rfl) ?_
            refine lv_iload_n hx hb dX1_join_32 rfl (lv_at hl 3 rfl) ?_
            have hFc : ∀ q, va_A (kWd cI cJ cZ cR wl ad M ((F_j_leastOf (x) (a)).2)) H.size q → A q := fun q hq => Or.elim hq (fun ⟨k, e, hk⟩ => hD.2 k (q, e) hk) (fun hk => hA q (Nat.le_trans hS.1 hk))
            refine va_calli (va_runV (b := ad (56)) (As := [.int (iI (b))]) (rest := []) ⟨hx, hb, hml, hown, hts⟩ (c_j_leastOf l dC dI ad cI cJ cZ cR M wl H.size ((F_j_leastOf (x) (a)).2)  (b) hM rb o1.1) (cwV 1 hts gX1_join_X1_leastOf rfl rfl rfl (by decide +kernel) ⟨Nat.le_of_ble_eq_true rfl, Nat.le_of_ble_eq_true rfl⟩) ⟨fun a U g mk q => by obtain ⟨q0, q1, qP, qK, qD, qN⟩ := q; exact ⟨q0, q1, qP, va_K.moved (u := U) (U := U.calling g mk a) (Vm.Alike.refl U.vm) qK, qD, kNw.same (u := U) (U := U.calling g mk a) rfl qN⟩, va_recv hK hP (ci := 1) (q0 := 56) rfl (kg56 (by omega)), fun U hU hW => ⟨rfl, by rw [hU], by rw [hU]; exact hP, va_K.moved hW.alike hK, hD.weaken (fun _ _ _ _ => trivial), kNw.warm hW hNw⟩⟩ rfl rfl hl.1 rfl (lv_room (Nat.le_of_ble_eq_true rfl)) dX1_join_33 ⟨Nat.le_of_ble_eq_true rfl, Nat.le_of_ble_eq_true rfl⟩) hS (fun q _ h => hFc q h) hFc (fun r9 u9 t H1 locs ht hvm hw hB hz1 hk1 hS => ?_)
            obtain ⟨hP1, hK1, hD1⟩ := hB
            rw [ht] at hP1
            obtain ⟨hw1, hw2⟩ := hw
            rw [hw2] at hP1 hD1
            rw [hw1]
            have hD2 := hD1.weaken (B := A) (fun _ q _ h => hFc q.1 h)
            have hP := hP1
            have hD := hD2
            generalize H1 = H at hP hS ⊢
            refine lv_istore (lv' := [(4, .int (iI ((F_j_leastOf ((F_j_leastOf (x) (a)).2) (b)).1))), (3, .int (iI ((F_j_leastOf (x) (a)).1))), (0, .ref (ad (56))), (1, .int (iI (a))), (2, .int (iI (b)))]) hx hb dX1_join_36 hl (by decide) rfl (fun ls hl => ?_)
            refine lv_iload_n hx hb dX1_join_38 rfl (lv_at hl 1 rfl) ?_
            refine lv_iload hx hb dX1_join_39 (lv_at hl 0 rfl) ?_
            refine wi_icmp_ge (tgt := 55) hx hb (by first | assumption | (unfold iR; omega) | exact kR01 (by assumption)) (by first | assumption | (unfold iR; omega) | exact kR01 (by assumption)) dX1_join_41 (by decide) (fun c_41 => ?_) (fun c_41 => ?_)
            · skip
              rw [if_pos c_41] at hres
              refine lv_aload_n hx hb dX1_join_55 rfl (lv_at hl 2 rfl) ?_
              refine va_get (D := (dC, dI)) (ci := 1) (v := .ref (ad (57))) (C := RX1) (T := TX1) (N := 3) hx hb hts hinX1 hown hK hP (56) (kg56 (by omega)) rfl 0 (by decide) (hts (.fieldLink RX1 9 "LikeWords$Joins" "lesser" "[I") (by decide +kernel)) (fun _ h9 => h9) rfl dX1_join_56 ?_
              refine lv_iload_n hx hb dX1_join_59 rfl (lv_at hl 1 rfl) ?_
              refine lv_iload hx hb dX1_join_60 (lv_at hl 0 rfl) ?_
              refine wi_iast (f := ((F_j_leastOf ((F_j_leastOf (x) (a)).2) (b)).2).2 (57)) (n := kLen (57)) hx hb hK hP hD hS (57) 0 (kgi kC57 (by omega) rfl) rfl (i := (F_j_leastOf (x) (a)).1) (x := (F_j_leastOf ((F_j_leastOf (x) (a)).2) (b)).1) (by omega) (by show _ < ((10000 : Nat) : Int); exact (by omega)) (kLen_lt _) dX1_join_62 (fun H locs hP hD hS => ?_)
              rw [ksi kC57] at hP hD
              exact W.vret hx hb hr (fun t ht hW => ⟨⟨kA ((F_j_leastOf ((F_j_leastOf (x) (a)).2) (b)).2) (57) ((F_j_leastOf (x) (a)).1).toNat ((F_j_leastOf ((F_j_leastOf (x) (a)).2) (b)).1), rfl, (by have h9 := congrArg (fun z : Int × KS => z.2) hres; exact h9), by rw [ht]; exact hP, va_K.moved hW.alike hK, hD⟩, hS.F ht⟩) hS.2.2 dX1_join_63
            · skip
              rw [if_neg c_41] at hres
              refine lv_aload_n hx hb dX1_join_44 rfl (lv_at hl 2 rfl) ?_
              refine va_get (D := (dC, dI)) (ci := 1) (v := .ref (ad (57))) (C := RX1) (T := TX1) (N := 3) hx hb hts hinX1 hown hK hP (56) (kg56 (by omega)) rfl 0 (by decide) (hts (.fieldLink RX1 9 "LikeWords$Joins" "lesser" "[I") (by decide +kernel)) (fun _ h9 => h9) rfl dX1_join_45 ?_
              refine lv_iload hx hb dX1_join_48 (lv_at hl 0 rfl) ?_
              refine lv_iload_n hx hb dX1_join_50 rfl (lv_at hl 1 rfl) ?_
              refine wi_iast (f := ((F_j_leastOf ((F_j_leastOf (x) (a)).2) (b)).2).2 (57)) (n := kLen (57)) hx hb hK hP hD hS (57) 0 (kgi kC57 (by omega) rfl) rfl (i := (F_j_leastOf ((F_j_leastOf (x) (a)).2) (b)).1) (x := (F_j_leastOf (x) (a)).1) (by omega) (by show _ < ((10000 : Nat) : Int); exact (by omega)) (kLen_lt _) dX1_join_51 (fun H locs hP hD hS => ?_)
              rw [ksi kC57] at hP hD
              refine lv_goto (tgt := 63) hx hb dX1_join_52 (by decide) ?_
              exact W.vret hx hb hr (fun t ht hW => ⟨⟨kA ((F_j_leastOf ((F_j_leastOf (x) (a)).2) (b)).2) (57) ((F_j_leastOf ((F_j_leastOf (x) (a)).2) (b)).1).toNat ((F_j_leastOf (x) (a)).1), rfl, (by have h9 := congrArg (fun z : Int × KS => z.2) hres; exact h9), by rw [ht]; exact hP, va_K.moved hW.alike hK, hD⟩, hS.F ht⟩) hS.2.2 dX1_join_63
          · skip
            rw [if_neg c_21] at hres
            exact W.vret hx hb hr (fun t ht hW => ⟨⟨x, rfl, (by have h9 := congrArg (fun z : Int × KS => z.2) hres; exact h9), by rw [ht]; exact hP, va_K.moved hW.alike hK, hD⟩, hS.F ht⟩) hS.2.2 dX1_join_24
  exact key _ _ hP hS
theorem F_j_join_fr (x : KS) (a : Int) (b : Int) : ksame [] [57] x (F_j_join x a b).2 := by
  unfold F_j_join
  by_cases hc : (a) < (0)
  · rw [if_pos hc]
    exact (km_rf _ _ _)
  · rw [if_neg hc]
    by_cases hc : ((x).1 (56) 1) ≤ (a)
    · rw [if_pos hc]
      exact (km_rf _ _ _)
    · rw [if_neg hc]
      by_cases hc : (b) < (0)
      · rw [if_pos hc]
        exact (km_rf _ _ _)
      · rw [if_neg hc]
        by_cases hc : (b) < ((x).1 (56) 1)
        · rw [if_pos hc]
          by_cases hc : ((F_j_leastOf ((F_j_leastOf (x) (a)).2) (b)).1) ≤ ((F_j_leastOf (x) (a)).1)
          · rw [if_pos hc]
            exact (km_a (List.Mem.head _) (km_tr (km_tr (km_rf _ _ _) (km_mono km0 (km1 (List.Mem.head _) km0) (F_j_leastOf_fr (x) (a)))) (km_mono km0 (km1 (List.Mem.head _) km0) (F_j_leastOf_fr ((F_j_leastOf (x) (a)).2) (b)))))
          · rw [if_neg hc]
            exact (km_a (List.Mem.head _) (km_tr (km_tr (km_rf _ _ _) (km_mono km0 (km1 (List.Mem.head _) km0) (F_j_leastOf_fr (x) (a)))) (km_mono km0 (km1 (List.Mem.head _) km0) (F_j_leastOf_fr ((F_j_leastOf (x) (a)).2) (b)))))
        · rw [if_neg hc]
          exact (km_rf _ _ _)
theorem F_j_join_q (x : KS) (a : Int) (b : Int)  : kq [] [57] x (F_j_join x a b).2 := kq_of (F_j_join_fr x a b) kq_m (kq_c (Or.inr (by decide)) kq_n)
theorem F_j_join_ok {x : KS} {a b : Int} (hj : jnR x) : jnR (F_j_join x a b).2 := by
  have o1 := F_j_leastOf_ok (v := a) hj
  have o2 := F_j_leastOf_ok (v := b) o1.1
  unfold F_j_join
  repeat' split
  all_goals first | exact hj | exact jnR_up o2.1 o1.2.1 (by omega) | exact jnR_up o2.1 o2.2.1 (by omega)
def F_j_isLeast (x : KS) (v : Int) : Int × KS := (if (v) < (0) then ((0 : Int), x) else (if ((x).1 (56) 1) ≤ (v) then ((0 : Int), x) else (if (((x).2 (57)) (v).toNat) = (v) then ((1 : Int), x) else ((0 : Int), x))))
set_option maxHeartbeats 4000000 in
set_option maxRecDepth 100000 in
/-- LikeWords$Joins, isLeast -/
theorem c_j_isLeast (l : Launch) (dC : Nat → ClassId) (dI : Nat → Nat → Nat) (ad : Nat → Nat) (cI cJ cZ cR : ClassId) (M wl sz : Nat) (x : KS) (v : Int) (hM : 87 ≤ M) (rv : iR v) (jr : jnR x) : Met l yX1_isLeast wsX1_isLeast ({ frames := 0, cells := 0, slots := 0, locals := 0 }) (kPc dC dI ad cI cJ cZ cR M wl sz x [.ref (ad 56), .int (iI v)]) (va_Qi (fun (r : Int32) (u : KS) => r = iI (F_j_isLeast x v).1 ∧ u = (F_j_isLeast x v).2) (kAt dC dI ad cI cJ cZ cR M wl (va_A (kWd cI cJ cZ cR wl ad M (x)) sz)) (va_A (kWd cI cJ cZ cR wl ad M (x)) sz)) 0 0 (va_A (kWd cI cJ cZ cR wl ad M (x)) sz) := by
  refine Met.ofW (cc := cX1_isLeast) (maxL := 2) (ret := (some .boolean)) (by decide) rfl ?_
  intro p e s m args below meth c s₁ B hml hv
  obtain ⟨rfl, hsz, hP, hK, hD0, hNw⟩ := hv
  have hx := B.exec
  have hb := B.bytes
  have hr := B.returns
  have hts := atoms_spec (ws := wsX1_isLeast) B.pre
  have hown : s.vm.findClass RX1 = some m.cls := findClass_of_methodNamed B.named
  have hlocks := B.notSynchronized
  have hinX1 : ∀ w ∈ u_ws RX1 TX1 3, w ∈ wsX1_isLeast := by decide +kernel
  subst hsz
  have hD := hD0.self (sz := s.heap.size)
  generalize hAe : va_A (kWd cI cJ cZ cR wl ad M (x)) s.heap.size = A at hD ⊢
  have hA : ∀ q : Nat, s.heap.size ≤ q → A q := fun q h => by rw [← hAe]; exact Or.inr h
  have hS : va_S A s.heap s.heap [] := va_S.rf
  have hl := lv_entry ([.ref (ad 56), .int (iI v)]) (n := 2) (Nat.le_of_ble_eq_true rfl)
  rw [lg_entry_eq]
  generalize (lg_sl ([.ref (ad 56), .int (iI v)]) ++ List.replicate (2 - (lg_sl ([.ref (ad 56), .int (iI v)])).length) Slot.unset).toArray = ls at hl ⊢
  have hl : lv_has ls 2 [(0, .ref (ad (56))), (1, .int (iI (v)))] := hl
  have j1 := jr.1
  have key : ∀ (H : Heap) (locs : List Loc), va_P (dC, dI) vwCl (kWd cI cJ cZ cR wl ad M (x)) H → va_S A s.heap H locs → W p l e (headSpec wsX1_isLeast ({ frames := 0, cells := 0, slots := 0, locals := 0 })).room s m ([.ref (ad 56), .int (iI v)] : List Value).toArray below meth c H locs 0 0 (MQ below (va_Qi (fun (r : Int32) (u : KS) => r = iI (F_j_isLeast x v).1 ∧ u = (F_j_isLeast x v).2) (kAt dC dI ad cI cJ cZ cR M wl A) A) ([.ref (ad 56), .int (iI v)] : List Value).toArray s 0 0 A) (F0 m 0 ls []) := by
    intro H locs hP hS
    have hres : (if (v) < (0) then ((0 : Int), x) else (if ((x).1 (56) 1) ≤ (v) then ((0 : Int), x) else (if (((x).2 (57)) (v).toNat) = (v) then ((1 : Int), x) else ((0 : Int), x)))) = F_j_isLeast x v := rfl
    refine lv_iload_n hx hb dX1_isLeast_0 rfl (lv_at hl 1 rfl) ?_
    refine wi_if_lt (tgt := 26) hx hb (by first | assumption | (unfold iR; omega) | exact kR01 (by assumption)) dX1_isLeast_1 (by decide) (fun c_1 => ?_) (fun c_1 => ?_)
    · skip
      rw [if_pos c_1] at hres
      refine lv_iconst (v := iI (0 : Int)) hx hb dX1_isLeast_26 (by decide) ?_
      exact W.zret (v := iI ((0 : Int))) hx hb hr (kz _ (by first | assumption | omega)) (fun t ht hW => ⟨⟨iI ((0 : Int)), x, rfl, ⟨(by have h9 := congrArg (fun z : Int × KS => iI z.1) hres; exact h9), (by have h9 := congrArg (fun z : Int × KS => z.2) hres; exact h9)⟩, by rw [ht]; exact hP, va_K.moved hW.alike hK, hD⟩, hS.F ht⟩) hS.2.2 dX1_isLeast_27
    · skip
      rw [if_neg c_1] at hres
      refine lv_iload_n hx hb dX1_isLeast_4 rfl (lv_at hl 1 rfl) ?_
      refine lv_aload_n hx hb dX1_isLeast_5 rfl (lv_at hl 0 rfl) ?_
      refine va_get (D := (dC, dI)) (ci := 1) (v := .int (iI ((x).1 (56) 1))) (C := RX1) (T := TX1) (N := 3) hx hb hts hinX1 hown hK hP (56) (kg56 (by omega)) rfl 1 (by decide) (hts (.fieldLink RX1 21 "LikeWords$Joins" "all" "I") (by decide +kernel)) (fun _ h9 => h9) rfl dX1_isLeast_6 ?_
      refine wi_icmp_ge (tgt := 26) hx hb (by first | assumption | (unfold iR; omega) | exact kR01 (by assumption)) (by first | assumption | (unfold iR; omega) | exact kR01 (by assumption)) dX1_isLeast_9 (by decide) (fun c_9 => ?_) (fun c_9 => ?_)
      · skip
        rw [if_pos c_9] at hres
        refine lv_iconst (v := iI (0 : Int)) hx hb dX1_isLeast_26 (by decide) ?_
        exact W.zret (v := iI ((0 : Int))) hx hb hr (kz _ (by first | assumption | omega)) (fun t ht hW => ⟨⟨iI ((0 : Int)), x, rfl, ⟨(by have h9 := congrArg (fun z : Int × KS => iI z.1) hres; exact h9), (by have h9 := congrArg (fun z : Int × KS => z.2) hres; exact h9)⟩, by rw [ht]; exact hP, va_K.moved hW.alike hK, hD⟩, hS.F ht⟩) hS.2.2 dX1_isLeast_27
      · skip
        rw [if_neg c_9] at hres
        refine lv_aload_n hx hb dX1_isLeast_12 rfl (lv_at hl 0 rfl) ?_
        refine va_get (D := (dC, dI)) (ci := 1) (v := .ref (ad (57))) (C := RX1) (T := TX1) (N := 3) hx hb hts hinX1 hown hK hP (56) (kg56 (by omega)) rfl 0 (by decide) (hts (.fieldLink RX1 9 "LikeWords$Joins" "lesser" "[I") (by decide +kernel)) (fun _ h9 => h9) rfl dX1_isLeast_13 ?_
        refine lv_iload_n hx hb dX1_isLeast_16 rfl (lv_at hl 1 rfl) ?_
        refine wi_iald (f := (x).2 (57)) (n := kLen (57)) hx hb hK hP (57) 0 (kgi kC57 (by omega) rfl) rfl (i := v) (by omega) (by show _ < ((10000 : Nat) : Int); exact (by omega)) (kLen_lt _) dX1_isLeast_17 ?_
        refine lv_iload_n hx hb dX1_isLeast_18 rfl (lv_at hl 1 rfl) ?_
        refine wi_icmp_ne (tgt := 26) hx hb (by have := jr.2 v.toNat (by omega); unfold iR; omega) rv dX1_isLeast_19 (by decide) (fun c_19 => ?_) (fun c_19 => ?_)
        · skip
          rw [if_neg c_19] at hres
          refine lv_iconst (v := iI (0 : Int)) hx hb dX1_isLeast_26 (by decide) ?_
          exact W.zret (v := iI ((0 : Int))) hx hb hr (kz _ (by first | assumption | omega)) (fun t ht hW => ⟨⟨iI ((0 : Int)), x, rfl, ⟨(by have h9 := congrArg (fun z : Int × KS => iI z.1) hres; exact h9), (by have h9 := congrArg (fun z : Int × KS => z.2) hres; exact h9)⟩, by rw [ht]; exact hP, va_K.moved hW.alike hK, hD⟩, hS.F ht⟩) hS.2.2 dX1_isLeast_27
        · skip
          rw [if_pos c_19] at hres
          refine lv_iconst (v := iI (1 : Int)) hx hb dX1_isLeast_22 (by decide) ?_
          refine lv_goto (tgt := 27) hx hb dX1_isLeast_23 (by decide) ?_
          exact W.zret (v := iI ((1 : Int))) hx hb hr (kz _ (by first | assumption | omega)) (fun t ht hW => ⟨⟨iI ((1 : Int)), x, rfl, ⟨(by have h9 := congrArg (fun z : Int × KS => iI z.1) hres; exact h9), (by have h9 := congrArg (fun z : Int × KS => z.2) hres; exact h9)⟩, by rw [ht]; exact hP, va_K.moved hW.alike hK, hD⟩, hS.F ht⟩) hS.2.2 dX1_isLeast_27
  exact key _ _ hP hS
theorem F_j_isLeast_fr (x : KS) (v : Int) : ksame [] [] x (F_j_isLeast x v).2 := by
  unfold F_j_isLeast
  by_cases hc : (v) < (0)
  · rw [if_pos hc]
    exact (km_rf _ _ _)
  · rw [if_neg hc]
    by_cases hc : ((x).1 (56) 1) ≤ (v)
    · rw [if_pos hc]
      exact (km_rf _ _ _)
    · rw [if_neg hc]
      by_cases hc : (((x).2 (57)) (v).toNat) = (v)
      · rw [if_pos hc]
        exact (km_rf _ _ _)
      · rw [if_neg hc]
        exact (km_rf _ _ _)
theorem F_j_isLeast_2 (x : KS) (v : Int) : (F_j_isLeast x v).2 = x := km_nil (F_j_isLeast_fr x v)
def F_j_settle_s  : Nat → Nat → KS → Int → Int × KS
  | 0, _, x, _ => (0, x)
  | n + 1, t, x, p0 => match t with
    | 0 => (fun (i : Int) => (if ((x).1 (56) 1) ≤ (i) then (0, x) else (if (((x).2 (57)) (i).toNat) = (i) then F_j_settle_s n 0 (kA (kS (x) (56) 2 (((x).1 (56) 2) + ((1 : Int)))) (57) (i).toNat (((x).2 (57)) (((x).2 (57)) (i).toNat).toNat)) ((i) + (1 : Int)) else F_j_settle_s n 0 (kA (x) (57) (i).toNat (((x).2 (57)) (((x).2 (57)) (i).toNat).toNat)) ((i) + (1 : Int))))) p0
    | _ => (0, x)
theorem F_j_settle_e0  (n : Nat) (x : KS) (i : Int) : F_j_settle_s (n + 1) 0 x i = (if ((x).1 (56) 1) ≤ (i) then (0, x) else (if (((x).2 (57)) (i).toNat) = (i) then F_j_settle_s n 0 (kA (kS (x) (56) 2 (((x).1 (56) 2) + ((1 : Int)))) (57) (i).toNat (((x).2 (57)) (((x).2 (57)) (i).toNat).toNat)) ((i) + (1 : Int)) else F_j_settle_s n 0 (kA (x) (57) (i).toNat (((x).2 (57)) (((x).2 (57)) (i).toNat).toNat)) ((i) + (1 : Int)))) := rfl
def F_j_settle (x : KS)  : Int × KS := F_j_settle_s 10010 0 (kS (x) (56) 2 ((0 : Int))) ((0 : Int))
set_option maxHeartbeats 4000000 in
set_option maxRecDepth 100000 in
/-- LikeWords$Joins, settle -/
theorem c_j_settle (l : Launch) (dC : Nat → ClassId) (dI : Nat → Nat → Nat) (ad : Nat → Nat) (cI cJ cZ cR : ClassId) (M wl sz : Nat) (x : KS)  (hM : 87 ≤ M) (jr : jnR x) : Met l yX1_settle wsX1_settle ({ frames := 0, cells := 0, slots := 0, locals := 0 }) (kPc dC dI ad cI cJ cZ cR M wl sz x [.ref (ad 56)]) (va_Qv (fun u : KS => u = (F_j_settle x).2) (kAt dC dI ad cI cJ cZ cR M wl (va_A (kWd cI cJ cZ cR wl ad M (x)) sz)) (va_A (kWd cI cJ cZ cR wl ad M (x)) sz)) 0 0 (va_A (kWd cI cJ cZ cR wl ad M (x)) sz) := by
  refine Met.ofW (cc := cX1_settle) (maxL := 2) (ret := none) (by decide) rfl ?_
  intro p e s m args below meth c s₁ B hml hv
  obtain ⟨rfl, hsz, hP, hK, hD0, hNw⟩ := hv
  have hx := B.exec
  have hb := B.bytes
  have hr := B.returns
  have hts := atoms_spec (ws := wsX1_settle) B.pre
  have hown : s.vm.findClass RX1 = some m.cls := findClass_of_methodNamed B.named
  have hlocks := B.notSynchronized
  have hinX1 : ∀ w ∈ u_ws RX1 TX1 3, w ∈ wsX1_settle := by decide +kernel
  subst hsz
  have hD := hD0.self (sz := s.heap.size)
  generalize hAe : va_A (kWd cI cJ cZ cR wl ad M (x)) s.heap.size = A at hD ⊢
  have hA : ∀ q : Nat, s.heap.size ≤ q → A q := fun q h => by rw [← hAe]; exact Or.inr h
  have hS : va_S A s.heap s.heap [] := va_S.rf
  have hl := lv_entry ([.ref (ad 56)]) (n := 2) (Nat.le_of_ble_eq_true rfl)
  rw [lg_entry_eq]
  generalize (lg_sl ([.ref (ad 56)]) ++ List.replicate (2 - (lg_sl ([.ref (ad 56)])).length) Slot.unset).toArray = ls at hl ⊢
  have hl : lv_has ls 2 [(0, .ref (ad (56)))] := hl
  have j1 := jr.1
  have L : ∀ n : Nat, (∀ (y : KS) (i : Int), (0 ≤ i) → (i ≤ 10000) → (jnR y) → (10000 - i < n) → F_j_settle_s n 0 y i = F_j_settle x → ∀ (H : Heap) (locs : List Loc) (ls : Array Slot), va_P (dC, dI) vwCl (kWd cI cJ cZ cR wl ad M (y)) H → va_D A (kWd cI cJ cZ cR wl ad M (y)) → va_S A s.heap H locs → lv_has ls 2 [(0, .ref (ad (56))), (1, .int (iI (i)))] → W p l e (headSpec wsX1_settle ({ frames := 0, cells := 0, slots := 0, locals := 0 })).room s m ([.ref (ad 56)] : List Value).toArray below meth c H locs 0 0 (MQ below (va_Qv (fun u : KS => u = (F_j_settle x).2) (kAt dC dI ad cI cJ cZ cR M wl A) A) ([.ref (ad 56)] : List Value).toArray s 0 0 A) (F0 m 7 ls [])) := by
    intro n
    induction n with
    | zero =>
      skip
      · intro y i i0 i1 jy fu hres
        exact absurd fu (by omega)
    | succ n ih =>
      skip
      · intro y i i0 i1 jy fu hres H locs ls hP hD hS hl
        rw [F_j_settle_e0] at hres
        have ja := jy.1
        have jb := jy.2 i.toNat
        have jc := jy.2 ((y.2 57) i.toNat).toNat
        refine lv_iload_n hx hb dX1_settle_7 rfl (lv_at hl 1 rfl) ?_
        refine lv_aload_n hx hb dX1_settle_8 rfl (lv_at hl 0 rfl) ?_
        refine va_get (D := (dC, dI)) (ci := 1) (v := .int (iI ((y).1 (56) 1))) (C := RX1) (T := TX1) (N := 3) hx hb hts hinX1 hown hK hP (56) (kg56 (by omega)) rfl 1 (by decide) (hts (.fieldLink RX1 21 "LikeWords$Joins" "all" "I") (by decide +kernel)) (fun _ h9 => h9) rfl dX1_settle_9 ?_
        refine wi_icmp_ge (tgt := 58) hx hb (by first | assumption | (unfold iR; omega) | exact kR01 (by assumption)) (by first | assumption | (unfold iR; omega) | exact kR01 (by assumption)) dX1_settle_12 (by decide) (fun c_12 => ?_) (fun c_12 => ?_)
        · skip
          rw [if_pos c_12] at hres
          exact W.vret hx hb hr (fun t ht hW => ⟨⟨y, rfl, (by have h9 := congrArg (fun z : Int × KS => z.2) hres; exact h9), by rw [ht]; exact hP, va_K.moved hW.alike hK, hD⟩, hS.F ht⟩) hS.2.2 dX1_settle_58
        · skip
          rw [if_neg c_12] at hres
          refine lv_aload_n hx hb dX1_settle_15 rfl (lv_at hl 0 rfl) ?_
          refine va_get (D := (dC, dI)) (ci := 1) (v := .ref (ad (57))) (C := RX1) (T := TX1) (N := 3) hx hb hts hinX1 hown hK hP (56) (kg56 (by omega)) rfl 0 (by decide) (hts (.fieldLink RX1 9 "LikeWords$Joins" "lesser" "[I") (by decide +kernel)) (fun _ h9 => h9) rfl dX1_settle_16 ?_
          refine lv_iload_n hx hb dX1_settle_19 rfl (lv_at hl 1 rfl) ?_
          refine wi_iald (f := (y).2 (57)) (n := kLen (57)) hx hb hK hP (57) 0 (kgi kC57 (by omega) rfl) rfl (i := i) (by omega) (by show _ < ((10000 : Nat) : Int); exact (by omega)) (kLen_lt _) dX1_settle_20 ?_
          refine lv_iload_n hx hb dX1_settle_21 rfl (lv_at hl 1 rfl) ?_
          refine wi_icmp_ne (tgt := 35) hx hb (by have := jb (by omega); unfold iR; omega) (by unfold iR; omega) dX1_settle_22 (by decide) (fun c_22 => ?_) (fun c_22 => ?_)
          · skip
            rw [if_neg c_22] at hres
            refine lv_aload_n hx hb dX1_settle_35 rfl (lv_at hl 0 rfl) ?_
            refine va_get (D := (dC, dI)) (ci := 1) (v := .ref (ad (57))) (C := RX1) (T := TX1) (N := 3) hx hb hts hinX1 hown hK hP (56) (kg56 (by omega)) rfl 0 (by decide) (hts (.fieldLink RX1 9 "LikeWords$Joins" "lesser" "[I") (by decide +kernel)) (fun _ h9 => h9) rfl dX1_settle_36 ?_
            refine lv_iload_n hx hb dX1_settle_39 rfl (lv_at hl 1 rfl) ?_
            refine lv_aload_n hx hb dX1_settle_40 rfl (lv_at hl 0 rfl) ?_
            refine va_get (D := (dC, dI)) (ci := 1) (v := .ref (ad (57))) (C := RX1) (T := TX1) (N := 3) hx hb hts hinX1 hown hK hP (56) (kg56 (by omega)) rfl 0 (by decide) (hts (.fieldLink RX1 9 "LikeWords$Joins" "lesser" "[I") (by decide +kernel)) (fun _ h9 => h9) rfl dX1_settle_41 ?_
            refine lv_aload_n hx hb dX1_settle_44 rfl (lv_at hl 0 rfl) ?_
            refine va_get (D := (dC, dI)) (ci := 1) (v := .ref (ad (57))) (C := RX1) (T := TX1) (N := 3) hx hb hts hinX1 hown hK hP (56) (kg56 (by omega)) rfl 0 (by decide) (hts (.fieldLink RX1 9 "LikeWords$Joins" "lesser" "[I") (by decide +kernel)) (fun _ h9 => h9) rfl dX1_settle_45 ?_
            refine lv_iload_n hx hb dX1_settle_48 rfl (lv_at hl 1 rfl) ?_
            refine wi_iald (f := (y).2 (57)) (n := kLen (57)) hx hb hK hP (57) 0 (kgi kC57 (by omega) rfl) rfl (i := i) (by omega) (by show _ < ((10000 : Nat) : Int); exact (by omega)) (kLen_lt _) dX1_settle_49 ?_
            refine wi_iald (f := (y).2 (57)) (n := kLen (57)) hx hb hK hP (57) 0 (kgi kC57 (by omega) rfl) rfl (i := ((y).2 (57)) (i).toNat) (by have := jb (by omega); omega) (by show _ < ((10000 : Nat) : Int); exact (by have := jb (by omega); omega)) (kLen_lt _) dX1_settle_50 ?_
            refine wi_iast (f := (y).2 (57)) (n := kLen (57)) hx hb hK hP hD hS (57) 0 (kgi kC57 (by omega) rfl) rfl (i := i) (x := ((y).2 (57)) (((y).2 (57)) (i).toNat).toNat) (by omega) (by show _ < ((10000 : Nat) : Int); exact (by omega)) (kLen_lt _) dX1_settle_51 (fun H locs hP hD hS => ?_)
            rw [ksi kC57] at hP hD
            refine lv_iinc (v := iI ((i) + (1 : Int))) (lv' := [(1, .int (iI ((i) + (1 : Int)))), (0, .ref (ad (56)))]) hx hb dX1_settle_52 hl (k := 1) rfl (iI_add _ _) (by decide) rfl (fun ls hl => ?_)
            refine lv_goto (tgt := 7) hx hb dX1_settle_55 (by decide) ?_
            exact ih (kA (y) (57) (i).toNat (((y).2 (57)) (((y).2 (57)) (i).toNat).toNat)) ((i) + (1 : Int)) (by omega) (by omega) (jnR_up jy (jc (by omega)).1 (by have := jc (by omega); have := jb (by omega); omega)) (by omega) hres _ _ ls hP hD hS (lv_sub hl [1, 0] rfl)
          · skip
            rw [if_pos c_22] at hres
            refine lv_aload_n hx hb dX1_settle_25 rfl (lv_at hl 0 rfl) ?_
            refine lv_dup hx hb dX1_settle_26 rfl ?_
            refine va_get (D := (dC, dI)) (ci := 1) (v := .int (iI ((y).1 (56) 2))) (C := RX1) (T := TX1) (N := 3) hx hb hts hinX1 hown hK hP (56) (kg56 (by omega)) rfl 2 (by decide) (hts (.fieldLink RX1 61 "LikeWords$Joins" "groups" "I") (by decide +kernel)) (fun _ h9 => h9) rfl dX1_settle_27 ?_
            refine lv_iconst (v := iI (1 : Int)) hx hb dX1_settle_30 (by decide) ?_
            refine wi_iadd hx hb dX1_settle_31 ?_
            refine va_put (D := (dC, dI)) (ci := 1) (v := .int (iI (((y).1 (56) 2) + ((1 : Int))))) (ty := .int) (C := RX1) (T := TX1) (N := 3) hx hb hts hinX1 tyX1 tyX1_ok nmX1 hown hK hP hD hS (56) (kg56 (by omega)) rfl 2 (by decide) (hts (.fieldLink RX1 61 "LikeWords$Joins" "groups" "I") (by decide +kernel)) (fun _ h9 => h9) rfl (by decide +kernel) rfl rfl (Nat.le_of_ble_eq_true rfl) dX1_settle_32 (fun H locs hP hD hS => ?_)
            rw [ks56_2] at hP hD
            refine lv_aload_n hx hb dX1_settle_35 rfl (lv_at hl 0 rfl) ?_
            refine va_get (D := (dC, dI)) (ci := 1) (v := .ref (ad (57))) (C := RX1) (T := TX1) (N := 3) hx hb hts hinX1 hown hK hP (56) (kg56 (by omega)) rfl 0 (by decide) (hts (.fieldLink RX1 9 "LikeWords$Joins" "lesser" "[I") (by decide +kernel)) (fun _ h9 => h9) rfl dX1_settle_36 ?_
            refine lv_iload_n hx hb dX1_settle_39 rfl (lv_at hl 1 rfl) ?_
            refine lv_aload_n hx hb dX1_settle_40 rfl (lv_at hl 0 rfl) ?_
            refine va_get (D := (dC, dI)) (ci := 1) (v := .ref (ad (57))) (C := RX1) (T := TX1) (N := 3) hx hb hts hinX1 hown hK hP (56) (kg56 (by omega)) rfl 0 (by decide) (hts (.fieldLink RX1 9 "LikeWords$Joins" "lesser" "[I") (by decide +kernel)) (fun _ h9 => h9) rfl dX1_settle_41 ?_
            refine lv_aload_n hx hb dX1_settle_44 rfl (lv_at hl 0 rfl) ?_
            refine va_get (D := (dC, dI)) (ci := 1) (v := .ref (ad (57))) (C := RX1) (T := TX1) (N := 3) hx hb hts hinX1 hown hK hP (56) (kg56 (by omega)) rfl 0 (by decide) (hts (.fieldLink RX1 9 "LikeWords$Joins" "lesser" "[I") (by decide +kernel)) (fun _ h9 => h9) rfl dX1_settle_45 ?_
            refine lv_iload_n hx hb dX1_settle_48 rfl (lv_at hl 1 rfl) ?_
            refine wi_iald (f := (y).2 (57)) (n := kLen (57)) hx hb hK hP (57) 0 (kgi kC57 (by omega) rfl) rfl (i := i) (by omega) (by show _ < ((10000 : Nat) : Int); exact (by omega)) (kLen_lt _) dX1_settle_49 ?_
            refine wi_iald (f := (y).2 (57)) (n := kLen (57)) hx hb hK hP (57) 0 (kgi kC57 (by omega) rfl) rfl (i := ((y).2 (57)) (i).toNat) (by have := jb (by omega); omega) (by show _ < ((10000 : Nat) : Int); exact (by have := jb (by omega); omega)) (kLen_lt _) dX1_settle_50 ?_
            refine wi_iast (f := (kS (y) (56) 2 (((y).1 (56) 2) + ((1 : Int)))).2 (57)) (n := kLen (57)) hx hb hK hP hD hS (57) 0 (kgi kC57 (by omega) rfl) rfl (i := i) (x := ((y).2 (57)) (((y).2 (57)) (i).toNat).toNat) (by omega) (by show _ < ((10000 : Nat) : Int); exact (by omega)) (kLen_lt _) dX1_settle_51 (fun H locs hP hD hS => ?_)
            rw [ksi kC57] at hP hD
            refine lv_iinc (v := iI ((i) + (1 : Int))) (lv' := [(1, .int (iI ((i) + (1 : Int)))), (0, .ref (ad (56)))]) hx hb dX1_settle_52 hl (k := 1) rfl (iI_add _ _) (by decide) rfl (fun ls hl => ?_)
            refine lv_goto (tgt := 7) hx hb dX1_settle_55 (by decide) ?_
            exact ih (kA (kS (y) (56) 2 (((y).1 (56) 2) + ((1 : Int)))) (57) (i).toNat (((y).2 (57)) (((y).2 (57)) (i).toNat).toNat)) ((i) + (1 : Int)) (by omega) (by omega) (jnR_up jy (jc (by omega)).1 (by have := jc (by omega); have := jb (by omega); omega)) (by omega) hres _ _ ls hP hD hS (lv_sub hl [1, 0] rfl)
  have key : ∀ (H : Heap) (locs : List Loc), va_P (dC, dI) vwCl (kWd cI cJ cZ cR wl ad M (x)) H → va_S A s.heap H locs → W p l e (headSpec wsX1_settle ({ frames := 0, cells := 0, slots := 0, locals := 0 })).room s m ([.ref (ad 56)] : List Value).toArray below meth c H locs 0 0 (MQ below (va_Qv (fun u : KS => u = (F_j_settle x).2) (kAt dC dI ad cI cJ cZ cR M wl A) A) ([.ref (ad 56)] : List Value).toArray s 0 0 A) (F0 m 0 ls []) := by
    intro H locs hP hS
    have hres : F_j_settle_s 10010 0 (kS (x) (56) 2 ((0 : Int))) ((0 : Int)) = F_j_settle x := rfl
    refine lv_aload_n hx hb dX1_settle_0 rfl (lv_at hl 0 rfl) ?_
    refine lv_iconst (v := iI (0 : Int)) hx hb dX1_settle_1 (by decide) ?_
    refine va_put (D := (dC, dI)) (ci := 1) (v := .int (iI ((0 : Int)))) (ty := .int) (C := RX1) (T := TX1) (N := 3) hx hb hts hinX1 tyX1 tyX1_ok nmX1 hown hK hP hD hS (56) (kg56 (by omega)) rfl 2 (by decide) (hts (.fieldLink RX1 61 "LikeWords$Joins" "groups" "I") (by decide +kernel)) (fun _ h9 => h9) rfl (by decide +kernel) rfl rfl (Nat.le_of_ble_eq_true rfl) dX1_settle_2 (fun H locs hP hD hS => ?_)
    rw [ks56_2] at hP hD
    refine lv_iconst (v := iI (0 : Int)) hx hb dX1_settle_5 (by decide) ?_
    refine lv_istore_n (lv' := [(1, .int (iI ((0 : Int)))), (0, .ref (ad (56)))]) hx hb dX1_settle_6 rfl hl (by decide) rfl (fun ls hl => ?_)
    exact (L (10010)) (kS (x) (56) 2 ((0 : Int))) ((0 : Int)) (by omega) (by omega) (jr) (by omega) hres _ _ ls hP hD hS (lv_sub hl [1, 0] rfl)
  exact key _ _ hP hS
theorem F_j_settle_sfr  : ∀ n : Nat, (∀ (y : KS) (v0 : Int), ksame [(56, 2)] [57] y (F_j_settle_s n 0 y v0).2) := by
  intro n
  induction n with
  | zero => exact fun y _ => km_rf _ _ _
  | succ n ih =>
    skip
    · intro y i
      rw [F_j_settle_e0]
      by_cases hc : ((y).1 (56) 1) ≤ (i)
      · rw [if_pos hc]
        exact (km_rf _ _ _)
      · rw [if_neg hc]
        by_cases hc : (((y).2 (57)) (i).toNat) = (i)
        · rw [if_pos hc]
          exact km_tr ((km_a (List.Mem.head _) (km_s (List.Mem.head _) (km_rf _ _ _)))) (ih (kA (kS (y) (56) 2 (((y).1 (56) 2) + ((1 : Int)))) (57) (i).toNat (((y).2 (57)) (((y).2 (57)) (i).toNat).toNat)) ((i) + (1 : Int)))
        · rw [if_neg hc]
          exact km_tr ((km_a (List.Mem.head _) (km_rf _ _ _))) (ih (kA (y) (57) (i).toNat (((y).2 (57)) (((y).2 (57)) (i).toNat).toNat)) ((i) + (1 : Int)))
theorem F_j_settle_fr (x : KS)  : ksame [(56, 2)] [57] x (F_j_settle x).2 := by
  unfold F_j_settle
  exact km_tr ((km_s (List.Mem.head _) (km_rf _ _ _))) ((F_j_settle_sfr  (10010)) (kS (x) (56) 2 ((0 : Int))) ((0 : Int)))
theorem F_j_settle_q (x : KS)   : kq [56] [57] x (F_j_settle x).2 := kq_of (F_j_settle_fr x) (kq_c (Or.inr (by decide)) kq_m) (kq_c (Or.inr (by decide)) kq_n)
