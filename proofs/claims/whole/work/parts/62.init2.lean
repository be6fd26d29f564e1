-- deps: 30 60 61
set_option maxHeartbeats 4000000 in
set_option maxRecDepth 100000 in
/-- LikeWords$Joins.init -/
theorem n_j_init (l : Launch) (dC : Nat → ClassId) (dI : Nat → Nat → Nat) (h : Nat) (cI cJ cZ : ClassId) (sz : Nat)    : Met l yX1_init wsX1_init ({ frames := 1, cells := 1, slots := 10000, locals := 20 }) (va_Pc [.ref (h)] (fun U => U.heap.size = sz ∧ va_P (dC, dI) vwCl [(h, .inr (1, [.null, .int (iI 0), .int (iI 0)]))] U.heap ∧ va_K (dC, dI) vwCl [(cI, .int), (cJ, .long), (cZ, .boolean)] U ∧ va_D (fun _ => True) [(h, .inr (1, [.null, .int (iI 0), .int (iI 0)]))])) (va_Qv (fun _ : Nat → Nat => True) (fun u t => va_P (dC, dI) vwCl [(h, .inr (1, [.ref (u 0), .int (iI 0), .int (iI 0)])), ((u 0), .inl (cI, 10000, .inl (iA (fun _ => 0))))] t.heap ∧ va_K (dC, dI) vwCl [(cI, .int), (cJ, .long), (cZ, .boolean)] t ∧ va_D (va_A [(h, .inr (1, [.null, .int (iI 0), .int (iI 0)]))] sz) [(h, .inr (1, [.ref (u 0), .int (iI 0), .int (iI 0)])), ((u 0), .inl (cI, 10000, .inl (iA (fun _ => 0))))]) (va_A [(h, .inr (1, [.null, .int (iI 0), .int (iI 0)]))] sz)) 1 (10000) (va_A [(h, .inr (1, [.null, .int (iI 0), .int (iI 0)]))] sz) := by
  refine Met.ofW (cc := cX1_init) (maxL := 1) (ret := none) (by decide) rfl ?_
  intro p e s m args below meth c s₁ B hml hv
  obtain ⟨rfl, hsz, hP, hK, hD0⟩ := hv
  have hx := B.exec
  have hb := B.bytes
  have hr := B.returns
  have hts := atoms_spec (ws := wsX1_init) B.pre
  have hown : s.vm.findClass RX1 = some m.cls := findClass_of_methodNamed B.named
  have hlocks := B.notSynchronized
  have hin2 : meth.name = "<init>" := (name_of_methodNamed B.named B.method).1
  have hinX : ∀ w ∈ u_ws RX1 TX1 3, w ∈ wsX1_init := by decide +kernel
  subst hsz
  have hD := hD0.self (sz := s.heap.size)
  generalize hAe : va_A [(h, .inr (1, [.null, .int (iI 0), .int (iI 0)]))] s.heap.size = A at hD ⊢
  have hA : ∀ q : Nat, s.heap.size ≤ q → A q := fun q h => by rw [← hAe]; exact Or.inr h
  have hS : va_S A s.heap s.heap [] := va_S.rf
  have hl := lv_entry ([.ref (h)]) (n := 1) (Nat.le_of_ble_eq_true rfl)
  rw [lg_entry_eq]
  generalize (lg_sl ([.ref (h)]) ++ List.replicate (1 - (lg_sl ([.ref (h)])).length) Slot.unset).toArray = ls at hl ⊢
  have hl : lv_has ls 1 [(0, .ref (h))] := hl
  have hP : va_P (dC, dI) vwCl [(h, .inr (1, [.null, .int (iI 0), .int (iI 0)]))] s.heap := hP
  refine lv_aload_n hx hb dX1_init_0 rfl (lv_at hl 0 rfl) ?_
  refine W.objInit hx hb hown (hts (.methodLink RX1 3 objectInit) (by decide +kernel)) (hts (.instanceMethod objectInit) (by decide +kernel)) (hts (.code objectInit ⟨#[0xb1]⟩ 1 none) (by decide +kernel)) rfl (by rw [hml]; exact hl.1) rfl dX1_init_1 (Nat.le_of_ble_eq_true rfl) (Nat.le_of_ble_eq_true rfl) ?_
  refine W.eq (g2 := F0 m 4 ls []) rfl ?_
  refine lv_aload_n hx hb dX1_init_4 rfl (lv_at hl 0 rfl) ?_
  refine lv_sipush (v := iI (10000 : Int)) hx hb dX1_init_5 (by decide) ?_
  refine wk_newI (N' := 10000) (n := (10000 : Int)) hx hb (hts (.arrayClass .int) (by decide +kernel)) hK hP hD hS hA 0 rfl (by decide) (by omega) (show _ ≤ 1 by omega) (show _ ≤ (10000) by omega) dX1_init_8 (fun q8_5 H hP hD hS => ?_)
  have hP : va_P (dC, dI) vwCl [(h, .inr (1, [.null, .int (iI 0), .int (iI 0)])), (q8_5, .inl (cI, 10000, .inl (iA (fun _ => 0))))] H := hP
  have hD : va_D A [(h, .inr (1, [.null, .int (iI 0), .int (iI 0)])), (q8_5, .inl (cI, 10000, .inl (iA (fun _ => 0))))] := hD
  refine W.widen (k := 1) (n := 10000) (by omega) (by omega) ?_
  refine va_putF (D := (dC, dI)) (ci := 1) (v := .ref (q8_5)) (ty := (.array .int)) (C := RX1) (T := TX1) (N := 3) hx hb hts hinX tyX1 tyX1_ok nmX1 hown hK hP hD hS 0 rfl rfl 0 (by decide) (hts (.fieldLink RX1 9 "LikeWords$Joins" "lesser" "[I") (by decide +kernel)) (fun _ h9 => h9) rfl hin2 rfl (by decide +kernel) rfl rfl (Nat.le_of_ble_eq_true rfl) dX1_init_10 (fun H locs hP hD hS => ?_)
  have hP : va_P (dC, dI) vwCl [(h, .inr (1, [.ref (q8_5), .int (iI 0), .int (iI 0)])), (q8_5, .inl (cI, 10000, .inl (iA (fun _ => 0))))] H := hP
  have hD : va_D A [(h, .inr (1, [.ref (q8_5), .int (iI 0), .int (iI 0)])), (q8_5, .inl (cI, 10000, .inl (iA (fun _ => 0))))] := hD
  have hP9 := hP.sub (ws' := [(h, .inr (1, [.ref (q8_5), .int (iI 0), .int (iI 0)])), (q8_5, .inl (cI, 10000, .inl (iA (fun _ => 0))))]) [0, 1] rfl
  have hD9 := hD.sub (ws' := [(h, .inr (1, [.ref (q8_5), .int (iI 0), .int (iI 0)])), (q8_5, .inl (cI, 10000, .inl (iA (fun _ => 0))))]) [0, 1] (by decide) rfl
  exact W.vret hx hb hr (fun t ht hW => ⟨⟨(fun k9 => if k9 = 0 then q8_5 else 0), rfl, trivial, by rw [ht]; exact hP9, va_K.moved hW.alike hK, hD9⟩, hS.F ht⟩) hS.2.2 dX1_init_13
set_option maxHeartbeats 4000000 in
set_option maxRecDepth 100000 in
/-- LikeWords$Rules.init -/
theorem n_u_init (l : Launch) (dC : Nat → ClassId) (dI : Nat → Nat → Nat) (h : Nat) (cI cJ cZ : ClassId) (sz : Nat)  (ra : Nat)  : Met l yX7_init wsX7_init ({ frames := 1, cells := 5, slots := 200, locals := 20 }) (va_Pc [.ref (h), .ref (ra)] (fun U => U.heap.size = sz ∧ va_P (dC, dI) vwCl [(h, .inr (7, [.null, .null, .null, .null, .null, .null, .int (iI 0)]))] U.heap ∧ va_K (dC, dI) vwCl [(cI, .int), (cJ, .long), (cZ, .boolean)] U ∧ va_D (fun _ => True) [(h, .inr (7, [.null, .null, .null, .null, .null, .null, .int (iI 0)]))])) (va_Qv (fun _ : Nat → Nat => True) (fun u t => va_P (dC, dI) vwCl [(h, .inr (7, [.ref (ra), .ref (u 0), .ref (u 1), .ref (u 2), .ref (u 3), .ref (u 4), .int (iI 0)])), ((u 0), .inl (cI, 40, .inl (iA (fun _ => 0)))), ((u 1), .inl (cI, 40, .inl (iA (fun _ => 0)))), ((u 2), .inl (cI, 40, .inl (iA (fun _ => 0)))), ((u 3), .inl (cJ, 40, .inr (.inl (iAL (fun _ => 0))))), ((u 4), .inl (cJ, 40, .inr (.inl (iAL (fun _ => 0)))))] t.heap ∧ va_K (dC, dI) vwCl [(cI, .int), (cJ, .long), (cZ, .boolean)] t ∧ va_D (va_A [(h, .inr (7, [.null, .null, .null, .null, .null, .null, .int (iI 0)]))] sz) [(h, .inr (7, [.ref (ra), .ref (u 0), .ref (u 1), .ref (u 2), .ref (u 3), .ref (u 4), .int (iI 0)])), ((u 0), .inl (cI, 40, .inl (iA (fun _ => 0)))), ((u 1), .inl (cI, 40, .inl (iA (fun _ => 0)))), ((u 2), .inl (cI, 40, .inl (iA (fun _ => 0)))), ((u 3), .inl (cJ, 40, .inr (.inl (iAL (fun _ => 0))))), ((u 4), .inl (cJ, 40, .inr (.inl (iAL (fun _ => 0)))))]) (va_A [(h, .inr (7, [.null, .null, .null, .null, .null, .null, .int (iI 0)]))] sz)) 5 (200) (va_A [(h, .inr (7, [.null, .null, .null, .null, .null, .null, .int (iI 0)]))] sz) := by
  refine Met.ofW (cc := cX7_init) (maxL := 2) (ret := none) (by decide) rfl ?_
  intro p e s m args below meth c s₁ B hml hv
  obtain ⟨rfl, hsz, hP, hK, hD0⟩ := hv
  have hx := B.exec
  have hb := B.bytes
  have hr := B.returns
  have hts := atoms_spec (ws := wsX7_init) B.pre
  have hown : s.vm.findClass RX7 = some m.cls := findClass_of_methodNamed B.named
  have hlocks := B.notSynchronized
  have hin2 : meth.name = "<init>" := (name_of_methodNamed B.named B.method).1
  have hinX : ∀ w ∈ u_ws RX7 TX7 7, w ∈ wsX7_init := by decide +kernel
  subst hsz
  have hD := hD0.self (sz := s.heap.size)
  generalize hAe : va_A [(h, .inr (7, [.null, .null, .null, .null, .null, .null, .int (iI 0)]))] s.heap.size = A at hD ⊢
  have hA : ∀ q : Nat, s.heap.size ≤ q → A q := fun q h => by rw [← hAe]; exact Or.inr h
  have hS : va_S A s.heap s.heap [] := va_S.rf
  have hl := lv_entry ([.ref (h), .ref (ra)]) (n := 2) (Nat.le_of_ble_eq_true rfl)
  rw [lg_entry_eq]
  generalize (lg_sl ([.ref (h), .ref (ra)]) ++ List.replicate (2 - (lg_sl ([.ref (h), .ref (ra)])).length) Slot.unset).toArray = ls at hl ⊢
  have hl : lv_has ls 2 [(0, .ref (h)), (1, .ref (ra))] := hl
  have hP : va_P (dC, dI) vwCl [(h, .inr (7, [.null, .null, .null, .null, .null, .null, .int (iI 0)]))] s.heap := hP
  refine lv_aload_n hx hb dX7_init_0 rfl (lv_at hl 0 rfl) ?_
  refine W.objInit hx hb hown (hts (.methodLink RX7 3 objectInit) (by decide +kernel)) (hts (.instanceMethod objectInit) (by decide +kernel)) (hts (.code objectInit ⟨#[0xb1]⟩ 1 none) (by decide +kernel)) rfl (by rw [hml]; exact hl.1) rfl dX7_init_1 (Nat.le_of_ble_eq_true rfl) (Nat.le_of_ble_eq_true rfl) ?_
  refine W.eq (g2 := F0 m 4 ls []) rfl ?_
  refine lv_aload_n hx hb dX7_init_4 rfl (lv_at hl 0 rfl) ?_
  refine lv_aload_n hx hb dX7_init_5 rfl (lv_at hl 1 rfl) ?_
  refine va_putF (D := (dC, dI)) (ci := 7) (v := .ref (ra)) (ty := (.object "LikeWords$Scale")) (C := RX7) (T := TX7) (N := 7) hx hb hts hinX tyX7 tyX7_ok nmX7 hown hK hP hD hS 0 rfl rfl 0 (by decide) (hts (.fieldLink RX7 9 "LikeWords$Rules" "scale" "LLikeWords$Scale;") (by decide +kernel)) (fun _ h9 => h9) rfl hin2 rfl (by decide +kernel) rfl rfl (Nat.le_of_ble_eq_true rfl) dX7_init_6 (fun H locs hP hD hS => ?_)
  have hP : va_P (dC, dI) vwCl [(h, .inr (7, [.ref (ra), .null, .null, .null, .null, .null, .int (iI 0)]))] H := hP
  have hD : va_D A [(h, .inr (7, [.ref (ra), .null, .null, .null, .null, .null, .int (iI 0)]))] := hD
  refine lv_aload_n hx hb dX7_init_9 rfl (lv_at hl 0 rfl) ?_
  refine lv_bipush (v := iI (40 : Int)) hx hb dX7_init_10 (by decide) ?_
  refine wk_newI (N' := 40) (n := (40 : Int)) hx hb (hts (.arrayClass .int) (by decide +kernel)) hK hP hD hS hA 0 rfl (by decide) (by omega) (show _ ≤ 5 by omega) (show _ ≤ (200) by omega) dX7_init_12 (fun q12_8 H hP hD hS => ?_)
  have hP : va_P (dC, dI) vwCl [(h, .inr (7, [.ref (ra), .null, .null, .null, .null, .null, .int (iI 0)])), (q12_8, .inl (cI, 40, .inl (iA (fun _ => 0))))] H := hP
  have hD : va_D A [(h, .inr (7, [.ref (ra), .null, .null, .null, .null, .null, .int (iI 0)])), (q12_8, .inl (cI, 40, .inl (iA (fun _ => 0))))] := hD
  refine W.widen (k := 1) (n := 40) (by omega) (by omega) ?_
  refine va_putF (D := (dC, dI)) (ci := 7) (v := .ref (q12_8)) (ty := (.array .int)) (C := RX7) (T := TX7) (N := 7) hx hb hts hinX tyX7 tyX7_ok nmX7 hown hK hP hD hS 0 rfl rfl 1 (by decide) (hts (.fieldLink RX7 15 "LikeWords$Rules" "leftNumbers" "[I") (by decide +kernel)) (fun _ h9 => h9) rfl hin2 rfl (by decide +kernel) rfl rfl (Nat.le_of_ble_eq_true rfl) dX7_init_14 (fun H locs hP hD hS => ?_)
  have hP : va_P (dC, dI) vwCl [(h, .inr (7, [.ref (ra), .ref (q12_8), .null, .null, .null, .null, .int (iI 0)])), (q12_8, .inl (cI, 40, .inl (iA (fun _ => 0))))] H := hP
  have hD : va_D A [(h, .inr (7, [.ref (ra), .ref (q12_8), .null, .null, .null, .null, .int (iI 0)])), (q12_8, .inl (cI, 40, .inl (iA (fun _ => 0))))] := hD
  refine lv_aload_n hx hb dX7_init_17 rfl (lv_at hl 0 rfl) ?_
  refine lv_bipush (v := iI (40 : Int)) hx hb dX7_init_18 (by decide) ?_
  refine wk_newI (N' := 40) (n := (40 : Int)) hx hb (hts (.arrayClass .int) (by decide +kernel)) hK hP hD hS hA 0 rfl (by decide) (by omega) (show _ ≤ 5 by omega) (show _ ≤ (200) by omega) dX7_init_20 (fun q20_12 H hP hD hS => ?_)
  have hP : va_P (dC, dI) vwCl [(h, .inr (7, [.ref (ra), .ref (q12_8), .null, .null, .null, .null, .int (iI 0)])), (q12_8, .inl (cI, 40, .inl (iA (fun _ => 0)))), (q20_12, .inl (cI, 40, .inl (iA (fun _ => 0))))] H := hP
  have hD : va_D A [(h, .inr (7, [.ref (ra), .ref (q12_8), .null, .null, .null, .null, .int (iI 0)])), (q12_8, .inl (cI, 40, .inl (iA (fun _ => 0)))), (q20_12, .inl (cI, 40, .inl (iA (fun _ => 0))))] := hD
  refine W.widen (k := 2) (n := 80) (by omega) (by omega) ?_
  refine va_putF (D := (dC, dI)) (ci := 7) (v := .ref (q20_12)) (ty := (.array .int)) (C := RX7) (T := TX7) (N := 7) hx hb hts hinX tyX7 tyX7_ok nmX7 hown hK hP hD hS 0 rfl rfl 2 (by decide) (hts (.fieldLink RX7 19 "LikeWords$Rules" "leftSpans" "[I") (by decide +kernel)) (fun _ h9 => h9) rfl hin2 rfl (by decide +kernel) rfl rfl (Nat.le_of_ble_eq_true rfl) dX7_init_22 (fun H locs hP hD hS => ?_)
  have hP : va_P (dC, dI) vwCl [(h, .inr (7, [.ref (ra), .ref (q12_8), .ref (q20_12), .null, .null, .null, .int (iI 0)])), (q12_8, .inl (cI, 40, .inl (iA (fun _ => 0)))), (q20_12, .inl (cI, 40, .inl (iA (fun _ => 0))))] H := hP
  have hD : va_D A [(h, .inr (7, [.ref (ra), .ref (q12_8), .ref (q20_12), .null, .null, .null, .int (iI 0)])), (q12_8, .inl (cI, 40, .inl (iA (fun _ => 0)))), (q20_12, .inl (cI, 40, .inl (iA (fun _ => 0))))] := hD
  refine lv_aload_n hx hb dX7_init_25 rfl (lv_at hl 0 rfl) ?_
  refine lv_bipush (v := iI (40 : Int)) hx hb dX7_init_26 (by decide) ?_
  refine wk_newI (N' := 40) (n := (40 : Int)) hx hb (hts (.arrayClass .int) (by decide +kernel)) hK hP hD hS hA 0 rfl (by decide) (by omega) (show _ ≤ 5 by omega) (show _ ≤ (200) by omega) dX7_init_28 (fun q28_16 H hP hD hS => ?_)
  have hP : va_P (dC, dI) vwCl [(h, .inr (7, [.ref (ra), .ref (q12_8), .ref (q20_12), .null, .null, .null, .int (iI 0)])), (q12_8, .inl (cI, 40, .inl (iA (fun _ => 0)))), (q20_12, .inl (cI, 40, .inl (iA (fun _ => 0)))), (q28_16, .inl (cI, 40, .inl (iA (fun _ => 0))))] H := hP
  have hD : va_D A [(h, .inr (7, [.ref (ra), .ref (q12_8), .ref (q20_12), .null, .null, .null, .int (iI 0)])), (q12_8, .inl (cI, 40, .inl (iA (fun _ => 0)))), (q20_12, .inl (cI, 40, .inl (iA (fun _ => 0)))), (q28_16, .inl (cI, 40, .inl (iA (fun _ => 0))))] := hD
  refine W.widen (k := 3) (n := 120) (by omega) (by omega) ?_
  refine va_putF (D := (dC, dI)) (ci := 7) (v := .ref (q28_16)) (ty := (.array .int)) (C := RX7) (T := TX7) (N := 7) hx hb hts hinX tyX7 tyX7_ok nmX7 hown hK hP hD hS 0 rfl rfl 3 (by decide) (hts (.fieldLink RX7 22 "LikeWords$Rules" "rightSpans" "[I") (by decide +kernel)) (fun _ h9 => h9) rfl hin2 rfl (by decide +kernel) rfl rfl (Nat.le_of_ble_eq_true rfl) dX7_init_30 (fun H locs hP hD hS => ?_)
  have hP : va_P (dC, dI) vwCl [(h, .inr (7, [.ref (ra), .ref (q12_8), .ref (q20_12), .ref (q28_16), .null, .null, .int (iI 0)])), (q12_8, .inl (cI, 40, .inl (iA (fun _ => 0)))), (q20_12, .inl (cI, 40, .inl (iA (fun _ => 0)))), (q28_16, .inl (cI, 40, .inl (iA (fun _ => 0))))] H := hP
  have hD : va_D A [(h, .inr (7, [.ref (ra), .ref (q12_8), .ref (q20_12), .ref (q28_16), .null, .null, .int (iI 0)])), (q12_8, .inl (cI, 40, .inl (iA (fun _ => 0)))), (q20_12, .inl (cI, 40, .inl (iA (fun _ => 0)))), (q28_16, .inl (cI, 40, .inl (iA (fun _ => 0))))] := hD
  refine lv_aload_n hx hb dX7_init_33 rfl (lv_at hl 0 rfl) ?_
  refine lv_bipush (v := iI (40 : Int)) hx hb dX7_init_34 (by decide) ?_
  refine wk_newJ (N' := 40) (n := (40 : Int)) hx hb (hts (.arrayClass .long) (by decide +kernel)) hK hP hD hS hA 1 rfl (by decide) (by omega) (show _ ≤ 5 by omega) (show _ ≤ (200) by omega) dX7_init_36 (fun q36_20 H hP hD hS => ?_)
  have hP : va_P (dC, dI) vwCl [(h, .inr (7, [.ref (ra), .ref (q12_8), .ref (q20_12), .ref (q28_16), .null, .null, .int (iI 0)])), (q12_8, .inl (cI, 40, .inl (iA (fun _ => 0)))), (q20_12, .inl (cI, 40, .inl (iA (fun _ => 0)))), (q28_16, .inl (cI, 40, .inl (iA (fun _ => 0)))), (q36_20, .inl (cJ, 40, .inr (.inl (iAL (fun _ => 0)))))] H := hP
  have hD : va_D A [(h, .inr (7, [.ref (ra), .ref (q12_8), .ref (q20_12), .ref (q28_16), .null, .null, .int (iI 0)])), (q12_8, .inl (cI, 40, .inl (iA (fun _ => 0)))), (q20_12, .inl (cI, 40, .inl (iA (fun _ => 0)))), (q28_16, .inl (cI, 40, .inl (iA (fun _ => 0)))), (q36_20, .inl (cJ, 40, .inr (.inl (iAL (fun _ => 0)))))] := hD
  refine W.widen (k := 4) (n := 160) (by omega) (by omega) ?_
  refine va_putF (D := (dC, dI)) (ci := 7) (v := .ref (q36_20)) (ty := (.array .long)) (C := RX7) (T := TX7) (N := 7) hx hb hts hinX tyX7 tyX7_ok nmX7 hown hK hP hD hS 0 rfl rfl 4 (by decide) (hts (.fieldLink RX7 25 "LikeWords$Rules" "leftCodes" "[J") (by decide +kernel)) (fun _ h9 => h9) rfl hin2 rfl (by decide +kernel) rfl rfl (Nat.le_of_ble_eq_true rfl) dX7_init_38 (fun H locs hP hD hS => ?_)
  have hP : va_P (dC, dI) vwCl [(h, .inr (7, [.ref (ra), .ref (q12_8), .ref (q20_12), .ref (q28_16), .ref (q36_20), .null, .int (iI 0)])), (q12_8, .inl (cI, 40, .inl (iA (fun _ => 0)))), (q20_12, .inl (cI, 40, .inl (iA (fun _ => 0)))), (q28_16, .inl (cI, 40, .inl (iA (fun _ => 0)))), (q36_20, .inl (cJ, 40, .inr (.inl (iAL (fun _ => 0)))))] H := hP
  have hD : va_D A [(h, .inr (7, [.ref (ra), .ref (q12_8), .ref (q20_12), .ref (q28_16), .ref (q36_20), .null, .int (iI 0)])), (q12_8, .inl (cI, 40, .inl (iA (fun _ => 0)))), (q20_12, .inl (cI, 40, .inl (iA (fun _ => 0)))), (q28_16, .inl (cI, 40, .inl (iA (fun _ => 0)))), (q36_20, .inl (cJ, 40, .inr (.inl (iAL (fun _ => 0)))))] := hD
  refine lv_aload_n hx hb dX7_init_41 rfl (lv_at hl 0 rfl) ?_
  refine lv_bipush (v := iI (40 : Int)) hx hb dX7_init_42 (by decide) ?_
  refine wk_newJ (N' := 40) (n := (40 : Int)) hx hb (hts (.arrayClass .long) (by decide +kernel)) hK hP hD hS hA 1 rfl (by decide) (by omega) (show _ ≤ 5 by omega) (show _ ≤ (200) by omega) dX7_init_44 (fun q44_24 H hP hD hS => ?_)
  have hP : va_P (dC, dI) vwCl [(h, .inr (7, [.ref (ra), .ref (q12_8), .ref (q20_12), .ref (q28_16), .ref (q36_20), .null, .int (iI 0)])), (q12_8, .inl (cI, 40, .inl (iA (fun _ => 0)))), (q20_12, .inl (cI, 40, .inl (iA (fun _ => 0)))), (q28_16, .inl (cI, 40, .inl (iA (fun _ => 0)))), (q36_20, .inl (cJ, 40, .inr (.inl (iAL (fun _ => 0))))), (q44_24, .inl (cJ, 40, .inr (.inl (iAL (fun _ => 0)))))] H := hP
  have hD : va_D A [(h, .inr (7, [.ref (ra), .ref (q12_8), .ref (q20_12), .ref (q28_16), .ref (q36_20), .null, .int (iI 0)])), (q12_8, .inl (cI, 40, .inl (iA (fun _ => 0)))), (q20_12, .inl (cI, 40, .inl (iA (fun _ => 0)))), (q28_16, .inl (cI, 40, .inl (iA (fun _ => 0)))), (q36_20, .inl (cJ, 40, .inr (.inl (iAL (fun _ => 0))))), (q44_24, .inl (cJ, 40, .inr (.inl (iAL (fun _ => 0)))))] := hD
  refine W.widen (k := 5) (n := 200) (by omega) (by omega) ?_
  refine va_putF (D := (dC, dI)) (ci := 7) (v := .ref (q44_24)) (ty := (.array .long)) (C := RX7) (T := TX7) (N := 7) hx hb hts hinX tyX7 tyX7_ok nmX7 hown hK hP hD hS 0 rfl rfl 5 (by decide) (hts (.fieldLink RX7 29 "LikeWords$Rules" "rightCodes" "[J") (by decide +kernel)) (fun _ h9 => h9) rfl hin2 rfl (by decide +kernel) rfl rfl (Nat.le_of_ble_eq_true rfl) dX7_init_46 (fun H locs hP hD hS => ?_)
  have hP : va_P (dC, dI) vwCl [(h, .inr (7, [.ref (ra), .ref (q12_8), .ref (q20_12), .ref (q28_16), .ref (q36_20), .ref (q44_24), .int (iI 0)])), (q12_8, .inl (cI, 40, .inl (iA (fun _ => 0)))), (q20_12, .inl (cI, 40, .inl (iA (fun _ => 0)))), (q28_16, .inl (cI, 40, .inl (iA (fun _ => 0)))), (q36_20, .inl (cJ, 40, .inr (.inl (iAL (fun _ => 0))))), (q44_24, .inl (cJ, 40, .inr (.inl (iAL (fun _ => 0)))))] H := hP
  have hD : va_D A [(h, .inr (7, [.ref (ra), .ref (q12_8), .ref (q20_12), .ref (q28_16), .ref (q36_20), .ref (q44_24), .int (iI 0)])), (q12_8, .inl (cI, 40, .inl (iA (fun _ => 0)))), (q20_12, .inl (cI, 40, .inl (iA (fun _ => 0)))), (q28_16, .inl (cI, 40, .inl (iA (fun _ => 0)))), (q36_20, .inl (cJ, 40, .inr (.inl (iAL (fun _ => 0))))), (q44_24, .inl (cJ, 40, .inr (.inl (iAL (fun _ => 0)))))] := hD
  have hP9 := hP.sub (ws' := [(h, .inr (7, [.ref (ra), .ref (q12_8), .ref (q20_12), .ref (q28_16), .ref (q36_20), .ref (q44_24), .int (iI 0)])), (q12_8, .inl (cI, 40, .inl (iA (fun _ => 0)))), (q20_12, .inl (cI, 40, .inl (iA (fun _ => 0)))), (q28_16, .inl (cI, 40, .inl (iA (fun _ => 0)))), (q36_20, .inl (cJ, 40, .inr (.inl (iAL (fun _ => 0))))), (q44_24, .inl (cJ, 40, .inr (.inl (iAL (fun _ => 0)))))]) [0, 1, 2, 3, 4, 5] rfl
  have hD9 := hD.sub (ws' := [(h, .inr (7, [.ref (ra), .ref (q12_8), .ref (q20_12), .ref (q28_16), .ref (q36_20), .ref (q44_24), .int (iI 0)])), (q12_8, .inl (cI, 40, .inl (iA (fun _ => 0)))), (q20_12, .inl (cI, 40, .inl (iA (fun _ => 0)))), (q28_16, .inl (cI, 40, .inl (iA (fun _ => 0)))), (q36_20, .inl (cJ, 40, .inr (.inl (iAL (fun _ => 0))))), (q44_24, .inl (cJ, 40, .inr (.inl (iAL (fun _ => 0)))))]) [0, 1, 2, 3, 4, 5] (by decide) rfl
  exact W.vret hx hb hr (fun t ht hW => ⟨⟨(fun k9 => if k9 = 0 then q12_8 else if k9 = 1 then q20_12 else if k9 = 2 then q28_16 else if k9 = 3 then q36_20 else if k9 = 4 then q44_24 else 0), rfl, trivial, by rw [ht]; exact hP9, va_K.moved hW.alike hK, hD9⟩, hS.F ht⟩) hS.2.2 dX7_init_49
set_option maxHeartbeats 4000000 in
set_option maxRecDepth 100000 in
/-- LikeWords$Machine.init -/
theorem n_a_init (l : Launch) (dC : Nat → ClassId) (dI : Nat → Nat → Nat) (h : Nat) (cI cJ cZ : ClassId) (sz : Nat)  (ra : Nat) (rb : Nat)  : Met l yX3_init wsX3_init ({ frames := 1, cells := 5, slots := 1632, locals := 20 }) (va_Pc [.ref (h), .ref (ra), .ref (rb)] (fun U => U.heap.size = sz ∧ va_P (dC, dI) vwCl [(h, .inr (3, [.null, .null, .null, .null, .null, .null, .null, .int (iI 0), .int (iI 0), .int (iI 0)]))] U.heap ∧ va_K (dC, dI) vwCl [(cI, .int), (cJ, .long), (cZ, .boolean)] U ∧ va_D (fun _ => True) [(h, .inr (3, [.null, .null, .null, .null, .null, .null, .null, .int (iI 0), .int (iI 0), .int (iI 0)]))])) (va_Qv (fun _ : Nat → Nat => True) (fun u t => va_P (dC, dI) vwCl [(h, .inr (3, [.ref (ra), .ref (rb), .ref (u 0), .ref (u 1), .ref (u 2), .ref (u 3), .ref (u 4), .int (iI 0), .int (iI 0), .int (iI 0)])), ((u 0), .inl (cI, 320, .inl (iA (fun _ => 0)))), ((u 1), .inl (cI, 640, .inl (iA (fun _ => 0)))), ((u 2), .inl (cJ, 320, .inr (.inl (iAL (fun _ => 0))))), ((u 3), .inl (cJ, 320, .inr (.inl (iAL (fun _ => 0))))), ((u 4), .inl (cJ, 32, .inr (.inl (iAL (fun _ => 0)))))] t.heap ∧ va_K (dC, dI) vwCl [(cI, .int), (cJ, .long), (cZ, .boolean)] t ∧ va_D (va_A [(h, .inr (3, [.null, .null, .null, .null, .null, .null, .null, .int (iI 0), .int (iI 0), .int (iI 0)]))] sz) [(h, .inr (3, [.ref (ra), .ref (rb), .ref (u 0), .ref (u 1), .ref (u 2), .ref (u 3), .ref (u 4), .int (iI 0), .int (iI 0), .int (iI 0)])), ((u 0), .inl (cI, 320, .inl (iA (fun _ => 0)))), ((u 1), .inl (cI, 640, .inl (iA (fun _ => 0)))), ((u 2), .inl (cJ, 320, .inr (.inl (iAL (fun _ => 0))))), ((u 3), .inl (cJ, 320, .inr (.inl (iAL (fun _ => 0))))), ((u 4), .inl (cJ, 32, .inr (.inl (iAL (fun _ => 0)))))]) (va_A [(h, .inr (3, [.null, .null, .null, .null, .null, .null, .null, .int (iI 0), .int (iI 0), .int (iI 0)]))] sz)) 5 (1632) (va_A [(h, .inr (3, [.null, .null, .null, .null, .null, .null, .null, .int (iI 0), .int (iI 0), .int (iI 0)]))] sz) := by
  refine Met.ofW (cc := cX3_init) (maxL := 3) (ret := none) (by decide) rfl ?_
  intro p e s m args below meth c s₁ B hml hv
  obtain ⟨rfl, hsz, hP, hK, hD0⟩ := hv
  have hx := B.exec
  have hb := B.bytes
  have hr := B.returns
  have hts := atoms_spec (ws := wsX3_init) B.pre
  have hown : s.vm.findClass RX3 = some m.cls := findClass_of_methodNamed B.named
  have hlocks := B.notSynchronized
  have hin2 : meth.name = "<init>" := (name_of_methodNamed B.named B.method).1
  have hinX : ∀ w ∈ u_ws RX3 TX3 10, w ∈ wsX3_init := by decide +kernel
  subst hsz
  have hD := hD0.self (sz := s.heap.size)
  generalize hAe : va_A [(h, .inr (3, [.null, .null, .null, .null, .null, .null, .null, .int (iI 0), .int (iI 0), .int (iI 0)]))] s.heap.size = A at hD ⊢
  have hA : ∀ q : Nat, s.heap.size ≤ q → A q := fun q h => by rw [← hAe]; exact Or.inr h
  have hS : va_S A s.heap s.heap [] := va_S.rf
  have hl := lv_entry ([.ref (h), .ref (ra), .ref (rb)]) (n := 3) (Nat.le_of_ble_eq_true rfl)
  rw [lg_entry_eq]
  generalize (lg_sl ([.ref (h), .ref (ra), .ref (rb)]) ++ List.replicate (3 - (lg_sl ([.ref (h), .ref (ra), .ref (rb)])).length) Slot.unset).toArray = ls at hl ⊢
  have hl : lv_has ls 3 [(0, .ref (h)), (1, .ref (ra)), (2, .ref (rb))] := hl
  have hP : va_P (dC, dI) vwCl [(h, .inr (3, [.null, .null, .null, .null, .null, .null, .null, .int (iI 0), .int (iI 0), .int (iI 0)]))] s.heap := hP
  refine lv_aload_n hx hb dX3_init_0 rfl (lv_at hl 0 rfl) ?_
  refine W.objInit hx hb hown (hts (.methodLink RX3 3 objectInit) (by decide +kernel)) (hts (.instanceMethod objectInit) (by decide +kernel)) (hts (.code objectInit ⟨#[0xb1]⟩ 1 none) (by decide +kernel)) rfl (by rw [hml]; exact hl.1) rfl dX3_init_1 (Nat.le_of_ble_eq_true rfl) (Nat.le_of_ble_eq_true rfl) ?_
  refine W.eq (g2 := F0 m 4 ls []) rfl ?_
  refine lv_aload_n hx hb dX3_init_4 rfl (lv_at hl 0 rfl) ?_
  refine lv_aload_n hx hb dX3_init_5 rfl (lv_at hl 1 rfl) ?_
  refine va_putF (D := (dC, dI)) (ci := 3) (v := .ref (ra)) (ty := (.object "LikeWords$Scale")) (C := RX3) (T := TX3) (N := 10) hx hb hts hinX tyX3 tyX3_ok nmX3 hown hK hP hD hS 0 rfl rfl 0 (by decide) (hts (.fieldLink RX3 9 "LikeWords$Machine" "scale" "LLikeWords$Scale;") (by decide +kernel)) (fun _ h9 => h9) rfl hin2 rfl (by decide +kernel) rfl rfl (Nat.le_of_ble_eq_true rfl) dX3_init_6 (fun H locs hP hD hS => ?_)
  have hP : va_P (dC, dI) vwCl [(h, .inr (3, [.ref (ra), .null, .null, .null, .null, .null, .null, .int (iI 0), .int (iI 0), .int (iI 0)]))] H := hP
  have hD : va_D A [(h, .inr (3, [.ref (ra), .null, .null, .null, .null, .null, .null, .int (iI 0), .int (iI 0), .int (iI 0)]))] := hD
  refine lv_aload_n hx hb dX3_init_9 rfl (lv_at hl 0 rfl) ?_
  refine lv_aload_n hx hb dX3_init_10 rfl (lv_at hl 2 rfl) ?_
  refine va_putF (D := (dC, dI)) (ci := 3) (v := .ref (rb)) (ty := (.object "LikeWords$Rules")) (C := RX3) (T := TX3) (N := 10) hx hb hts hinX tyX3 tyX3_ok nmX3 hown hK hP hD hS 0 rfl rfl 1 (by decide) (hts (.fieldLink RX3 15 "LikeWords$Machine" "rules" "LLikeWords$Rules;") (by decide +kernel)) (fun _ h9 => h9) rfl hin2 rfl (by decide +kernel) rfl rfl (Nat.le_of_ble_eq_true rfl) dX3_init_11 (fun H locs hP hD hS => ?_)
  have hP : va_P (dC, dI) vwCl [(h, .inr (3, [.ref (ra), .ref (rb), .null, .null, .null, .null, .null, .int (iI 0), .int (iI 0), .int (iI 0)]))] H := hP
  have hD : va_D A [(h, .inr (3, [.ref (ra), .ref (rb), .null, .null, .null, .null, .null, .int (iI 0), .int (iI 0), .int (iI 0)]))] := hD
  refine lv_aload_n hx hb dX3_init_14 rfl (lv_at hl 0 rfl) ?_
  refine lv_sipush (v := iI (320 : Int)) hx hb dX3_init_15 (by decide) ?_
  refine wk_newI (N' := 320) (n := (320 : Int)) hx hb (hts (.arrayClass .int) (by decide +kernel)) hK hP hD hS hA 0 rfl (by decide) (by omega) (show _ ≤ 5 by omega) (show _ ≤ (1632) by omega) dX3_init_18 (fun q18_11 H hP hD hS => ?_)
  have hP : va_P (dC, dI) vwCl [(h, .inr (3, [.ref (ra), .ref (rb), .null, .null, .null, .null, .null, .int (iI 0), .int (iI 0), .int (iI 0)])), (q18_11, .inl (cI, 320, .inl (iA (fun _ => 0))))] H := hP
  have hD : va_D A [(h, .inr (3, [.ref (ra), .ref (rb), .null, .null, .null, .null, .null, .int (iI 0), .int (iI 0), .int (iI 0)])), (q18_11, .inl (cI, 320, .inl (iA (fun _ => 0))))] := hD
  refine W.widen (k := 1) (n := 320) (by omega) (by omega) ?_
  refine va_putF (D := (dC, dI)) (ci := 3) (v := .ref (q18_11)) (ty := (.array .int)) (C := RX3) (T := TX3) (N := 10) hx hb hts hinX tyX3 tyX3_ok nmX3 hown hK hP hD hS 0 rfl rfl 2 (by decide) (hts (.fieldLink RX3 19 "LikeWords$Machine" "numbers" "[I") (by decide +kernel)) (fun _ h9 => h9) rfl hin2 rfl (by decide +kernel) rfl rfl (Nat.le_of_ble_eq_true rfl) dX3_init_20 (fun H locs hP hD hS => ?_)
  have hP : va_P (dC, dI) vwCl [(h, .inr (3, [.ref (ra), .ref (rb), .ref (q18_11), .null, .null, .null, .null, .int (iI 0), .int (iI 0), .int (iI 0)])), (q18_11, .inl (cI, 320, .inl (iA (fun _ => 0))))] H := hP
  have hD : va_D A [(h, .inr (3, [.ref (ra), .ref (rb), .ref (q18_11), .null, .null, .null, .null, .int (iI 0), .int (iI 0), .int (iI 0)])), (q18_11, .inl (cI, 320, .inl (iA (fun _ => 0))))] := hD
  refine lv_aload_n hx hb dX3_init_23 rfl (lv_at hl 0 rfl) ?_
  refine lv_sipush (v := iI (640 : Int)) hx hb dX3_init_24 (by decide) ?_
  refine wk_newI (N' := 640) (n := (640 : Int)) hx hb (hts (.arrayClass .int) (by decide +kernel)) hK hP hD hS hA 0 rfl (by decide) (by omega) (show _ ≤ 5 by omega) (show _ ≤ (1632) by omega) dX3_init_27 (fun q27_15 H hP hD hS => ?_)
  have hP : va_P (dC, dI) vwCl [(h, .inr (3, [.ref (ra), .ref (rb), .ref (q18_11), .null, .null, .null, .null, .int (iI 0), .int (iI 0), .int (iI 0)])), (q18_11, .inl (cI, 320, .inl (iA (fun _ => 0)))), (q27_15, .inl (cI, 640, .inl (iA (fun _ => 0))))] H := hP
  have hD : va_D A [(h, .inr (3, [.ref (ra), .ref (rb), .ref (q18_11), .null, .null, .null, .null, .int (iI 0), .int (iI 0), .int (iI 0)])), (q18_11, .inl (cI, 320, .inl (iA (fun _ => 0)))), (q27_15, .inl (cI, 640, .inl (iA (fun _ => 0))))] := hD
  refine W.widen (k := 2) (n := 960) (by omega) (by omega) ?_
  refine va_putF (D := (dC, dI)) (ci := 3) (v := .ref (q27_15)) (ty := (.array .int)) (C := RX3) (T := TX3) (N := 10) hx hb hts hinX tyX3 tyX3_ok nmX3 hown hK hP hD hS 0 rfl rfl 3 (by decide) (hts (.fieldLink RX3 23 "LikeWords$Machine" "steps" "[I") (by decide +kernel)) (fun _ h9 => h9) rfl hin2 rfl (by decide +kernel) rfl rfl (Nat.le_of_ble_eq_true rfl) dX3_init_29 (fun H locs hP hD hS => ?_)
  have hP : va_P (dC, dI) vwCl [(h, .inr (3, [.ref (ra), .ref (rb), .ref (q18_11), .ref (q27_15), .null, .null, .null, .int (iI 0), .int (iI 0), .int (iI 0)])), (q18_11, .inl (cI, 320, .inl (iA (fun _ => 0)))), (q27_15, .inl (cI, 640, .inl (iA (fun _ => 0))))] H := hP
  have hD : va_D A [(h, .inr (3, [.ref (ra), .ref (rb), .ref (q18_11), .ref (q27_15), .null, .null, .null, .int (iI 0), .int (iI 0), .int (iI 0)])), (q18_11, .inl (cI, 320, .inl (iA (fun _ => 0)))), (q27_15, .inl (cI, 640, .inl (iA (fun _ => 0))))] := hD
  refine lv_aload_n hx hb dX3_init_32 rfl (lv_at hl 0 rfl) ?_
  refine lv_sipush (v := iI (320 : Int)) hx hb dX3_init_33 (by decide) ?_
  refine wk_newJ (N' := 320) (n := (320 : Int)) hx hb (hts (.arrayClass .long) (by decide +kernel)) hK hP hD hS hA 1 rfl (by decide) (by omega) (show _ ≤ 5 by omega) (show _ ≤ (1632) by omega) dX3_init_36 (fun q36_19 H hP hD hS => ?_)
  have hP : va_P (dC, dI) vwCl [(h, .inr (3, [.ref (ra), .ref (rb), .ref (q18_11), .ref (q27_15), .null, .null, .null, .int (iI 0), .int (iI 0), .int (iI 0)])), (q18_11, .inl (cI, 320, .inl (iA (fun _ => 0)))), (q27_15, .inl (cI, 640, .inl (iA (fun _ => 0)))), (q36_19, .inl (cJ, 320, .inr (.inl (iAL (fun _ => 0)))))] H := hP
  have hD : va_D A [(h, .inr (3, [.ref (ra), .ref (rb), .ref (q18_11), .ref (q27_15), .null, .null, .null, .int (iI 0), .int (iI 0), .int (iI 0)])), (q18_11, .inl (cI, 320, .inl (iA (fun _ => 0)))), (q27_15, .inl (cI, 640, .inl (iA (fun _ => 0)))), (q36_19, .inl (cJ, 320, .inr (.inl (iAL (fun _ => 0)))))] := hD
  refine W.widen (k := 3) (n := 1280) (by omega) (by omega) ?_
  refine va_put (D := (dC, dI)) (ci := 3) (v := .ref (q36_19)) (ty := (.array .long)) (C := RX3) (T := TX3) (N := 10) hx hb hts hinX tyX3 tyX3_ok nmX3 hown hK hP hD hS 0 rfl rfl 4 (by decide) (hts (.fieldLink RX3 26 "LikeWords$Machine" "ways" "[J") (by decide +kernel)) (fun _ h9 => h9) rfl (by decide +kernel) rfl rfl (Nat.le_of_ble_eq_true rfl) dX3_init_38 (fun H locs hP hD hS => ?_)
  have hP : va_P (dC, dI) vwCl [(h, .inr (3, [.ref (ra), .ref (rb), .ref (q18_11), .ref (q27_15), .ref (q36_19), .null, .null, .int (iI 0), .int (iI 0), .int (iI 0)])), (q18_11, .inl (cI, 320, .inl (iA (fun _ => 0)))), (q27_15, .inl (cI, 640, .inl (iA (fun _ => 0)))), (q36_19, .inl (cJ, 320, .inr (.inl (iAL (fun _ => 0)))))] H := hP
  have hD : va_D A [(h, .inr (3, [.ref (ra), .ref (rb), .ref (q18_11), .ref (q27_15), .ref (q36_19), .null, .null, .int (iI 0), .int (iI 0), .int (iI 0)])), (q18_11, .inl (cI, 320, .inl (iA (fun _ => 0)))), (q27_15, .inl (cI, 640, .inl (iA (fun _ => 0)))), (q36_19, .inl (cJ, 320, .inr (.inl (iAL (fun _ => 0)))))] := hD
  refine lv_aload_n hx hb dX3_init_41 rfl (lv_at hl 0 rfl) ?_
  refine lv_sipush (v := iI (320 : Int)) hx hb dX3_init_42 (by decide) ?_
  refine wk_newJ (N' := 320) (n := (320 : Int)) hx hb (hts (.arrayClass .long) (by decide +kernel)) hK hP hD hS hA 1 rfl (by decide) (by omega) (show _ ≤ 5 by omega) (show _ ≤ (1632) by omega) dX3_init_45 (fun q45_23 H hP hD hS => ?_)
  have hP : va_P (dC, dI) vwCl [(h, .inr (3, [.ref (ra), .ref (rb), .ref (q18_11), .ref (q27_15), .ref (q36_19), .null, .null, .int (iI 0), .int (iI 0), .int (iI 0)])), (q18_11, .inl (cI, 320, .inl (iA (fun _ => 0)))), (q27_15, .inl (cI, 640, .inl (iA (fun _ => 0)))), (q36_19, .inl (cJ, 320, .inr (.inl (iAL (fun _ => 0))))), (q45_23, .inl (cJ, 320, .inr (.inl (iAL (fun _ => 0)))))] H := hP
  have hD : va_D A [(h, .inr (3, [.ref (ra), .ref (rb), .ref (q18_11), .ref (q27_15), .ref (q36_19), .null, .null, .int (iI 0), .int (iI 0), .int (iI 0)])), (q18_11, .inl (cI, 320, .inl (iA (fun _ => 0)))), (q27_15, .inl (cI, 640, .inl (iA (fun _ => 0)))), (q36_19, .inl (cJ, 320, .inr (.inl (iAL (fun _ => 0))))), (q45_23, .inl (cJ, 320, .inr (.inl (iAL (fun _ => 0)))))] := hD
  refine W.widen (k := 4) (n := 1600) (by omega) (by omega) ?_
  refine va_put (D := (dC, dI)) (ci := 3) (v := .ref (q45_23)) (ty := (.array .long)) (C := RX3) (T := TX3) (N := 10) hx hb hts hinX tyX3 tyX3_ok nmX3 hown hK hP hD hS 0 rfl rfl 5 (by decide) (hts (.fieldLink RX3 30 "LikeWords$Machine" "spare" "[J") (by decide +kernel)) (fun _ h9 => h9) rfl (by decide +kernel) rfl rfl (Nat.le_of_ble_eq_true rfl) dX3_init_47 (fun H locs hP hD hS => ?_)
  have hP : va_P (dC, dI) vwCl [(h, .inr (3, [.ref (ra), .ref (rb), .ref (q18_11), .ref (q27_15), .ref (q36_19), .ref (q45_23), .null, .int (iI 0), .int (iI 0), .int (iI 0)])), (q18_11, .inl (cI, 320, .inl (iA (fun _ => 0)))), (q27_15, .inl (cI, 640, .inl (iA (fun _ => 0)))), (q36_19, .inl (cJ, 320, .inr (.inl (iAL (fun _ => 0))))), (q45_23, .inl (cJ, 320, .inr (.inl (iAL (fun _ => 0)))))] H := hP
  have hD : va_D A [(h, .inr (3, [.ref (ra), .ref (rb), .ref (q18_11), .ref (q27_15), .ref (q36_19), .ref (q45_23), .null, .int (iI 0), .int (iI 0), .int (iI 0)])), (q18_11, .inl (cI, 320, .inl (iA (fun _ => 0)))), (q27_15, .inl (cI, 640, .inl (iA (fun _ => 0)))), (q36_19, .inl (cJ, 320, .inr (.inl (iAL (fun _ => 0))))), (q45_23, .inl (cJ, 320, .inr (.inl (iAL (fun _ => 0)))))] := hD
  refine lv_aload_n hx hb dX3_init_50 rfl (lv_at hl 0 rfl) ?_
  refine lv_bipush (v := iI (32 : Int)) hx hb dX3_init_51 (by decide) ?_
  refine wk_newJ (N' := 32) (n := (32 : Int)) hx hb (hts (.arrayClass .long) (by decide +kernel)) hK hP hD hS hA 1 rfl (by decide) (by omega) (show _ ≤ 5 by omega) (show _ ≤ (1632) by omega) dX3_init_53 (fun q53_27 H hP hD hS => ?_)
  have hP : va_P (dC, dI) vwCl [(h, .inr (3, [.ref (ra), .ref (rb), .ref (q18_11), .ref (q27_15), .ref (q36_19), .ref (q45_23), .null, .int (iI 0), .int (iI 0), .int (iI 0)])), (q18_11, .inl (cI, 320, .inl (iA (fun _ => 0)))), (q27_15, .inl (cI, 640, .inl (iA (fun _ => 0)))), (q36_19, .inl (cJ, 320, .inr (.inl (iAL (fun _ => 0))))), (q45_23, .inl (cJ, 320, .inr (.inl (iAL (fun _ => 0))))), (q53_27, .inl (cJ, 32, .inr (.inl (iAL (fun _ => 0)))))] H := hP
  have hD : va_D A [(h, .inr (3, [.ref (ra), .ref (rb), .ref (q18_11), .ref (q27_15), .ref (q36_19), .ref (q45_23), .null, .int (iI 0), .int (iI 0), .int (iI 0)])), (q18_11, .inl (cI, 320, .inl (iA (fun _ => 0)))), (q27_15, .inl (cI, 640, .inl (iA (fun _ => 0)))), (q36_19, .inl (cJ, 320, .inr (.inl (iAL (fun _ => 0))))), (q45_23, .inl (cJ, 320, .inr (.inl (iAL (fun _ => 0))))), (q53_27, .inl (cJ, 32, .inr (.inl (iAL (fun _ => 0)))))] := hD
  refine W.widen (k := 5) (n := 1632) (by omega) (by omega) ?_
  refine va_putF (D := (dC, dI)) (ci := 3) (v := .ref (q53_27)) (ty := (.array .long)) (C := RX3) (T := TX3) (N := 10) hx hb hts hinX tyX3 tyX3_ok nmX3 hown hK hP hD hS 0 rfl rfl 6 (by decide) (hts (.fieldLink RX3 33 "LikeWords$Machine" "counts" "[J") (by decide +kernel)) (fun _ h9 => h9) rfl hin2 rfl (by decide +kernel) rfl rfl (Nat.le_of_ble_eq_true rfl) dX3_init_55 (fun H locs hP hD hS => ?_)
  have hP : va_P (dC, dI) vwCl [(h, .inr (3, [.ref (ra), .ref (rb), .ref (q18_11), .ref (q27_15), .ref (q36_19), .ref (q45_23), .ref (q53_27), .int (iI 0), .int (iI 0), .int (iI 0)])), (q18_11, .inl (cI, 320, .inl (iA (fun _ => 0)))), (q27_15, .inl (cI, 640, .inl (iA (fun _ => 0)))), (q36_19, .inl (cJ, 320, .inr (.inl (iAL (fun _ => 0))))), (q45_23, .inl (cJ, 320, .inr (.inl (iAL (fun _ => 0))))), (q53_27, .inl (cJ, 32, .inr (.inl (iAL (fun _ => 0)))))] H := hP
  have hD : va_D A [(h, .inr (3, [.ref (ra), .ref (rb), .ref (q18_11), .ref (q27_15), .ref (q36_19), .ref (q45_23), .ref (q53_27), .int (iI 0), .int (iI 0), .int (iI 0)])), (q18_11, .inl (cI, 320, .inl (iA (fun _ => 0)))), (q27_15, .inl (cI, 640, .inl (iA (fun _ => 0)))), (q36_19, .inl (cJ, 320, .inr (.inl (iAL (fun _ => 0))))), (q45_23, .inl (cJ, 320, .inr (.inl (iAL (fun _ => 0))))), (q53_27, .inl (cJ, 32, .inr (.inl (iAL (fun _ => 0)))))] := hD
  have hP9 := hP.sub (ws' := [(h, .inr (3, [.ref (ra), .ref (rb), .ref (q18_11), .ref (q27_15), .ref (q36_19), .ref (q45_23), .ref (q53_27), .int (iI 0), .int (iI 0), .int (iI 0)])), (q18_11, .inl (cI, 320, .inl (iA (fun _ => 0)))), (q27_15, .inl (cI, 640, .inl (iA (fun _ => 0)))), (q36_19, .inl (cJ, 320, .inr (.inl (iAL (fun _ => 0))))), (q45_23, .inl (cJ, 320, .inr (.inl (iAL (fun _ => 0))))), (q53_27, .inl (cJ, 32, .inr (.inl (iAL (fun _ => 0)))))]) [0, 1, 2, 3, 4, 5] rfl
  have hD9 := hD.sub (ws' := [(h, .inr (3, [.ref (ra), .ref (rb), .ref (q18_11), .ref (q27_15), .ref (q36_19), .ref (q45_23), .ref (q53_27), .int (iI 0), .int (iI 0), .int (iI 0)])), (q18_11, .inl (cI, 320, .inl (iA (fun _ => 0)))), (q27_15, .inl (cI, 640, .inl (iA (fun _ => 0)))), (q36_19, .inl (cJ, 320, .inr (.inl (iAL (fun _ => 0))))), (q45_23, .inl (cJ, 320, .inr (.inl (iAL (fun _ => 0))))), (q53_27, .inl (cJ, 32, .inr (.inl (iAL (fun _ => 0)))))]) [0, 1, 2, 3, 4, 5] (by decide) rfl
  exact W.vret hx hb hr (fun t ht hW => ⟨⟨(fun k9 => if k9 = 0 then q18_11 else if k9 = 1 then q27_15 else if k9 = 2 then q36_19 else if k9 = 3 then q45_23 else if k9 = 4 then q53_27 else 0), rfl, trivial, by rw [ht]; exact hP9, va_K.moved hW.alike hK, hD9⟩, hS.F ht⟩) hS.2.2 dX3_init_58
set_option maxHeartbeats 4000000 in
set_option maxRecDepth 100000 in
/-- LikeWords$Rewriter.init -/
theorem n_r_init (l : Launch) (dC : Nat → ClassId) (dI : Nat → Nat → Nat) (h : Nat) (cI cJ cZ : ClassId) (sz : Nat)  (ra : Nat) (rb : Nat)  : Met l yX6_init wsX6_init ({ frames := 1, cells := 2, slots := 121, locals := 20 }) (va_Pc [.ref (h), .ref (ra), .ref (rb)] (fun U => U.heap.size = sz ∧ va_P (dC, dI) vwCl [(h, .inr (6, [.null, .null, .null, .null, .int (iI 0), .null]))] U.heap ∧ va_K (dC, dI) vwCl [(cI, .int), (cJ, .long), (cZ, .boolean)] U ∧ va_D (fun _ => True) [(h, .inr (6, [.null, .null, .null, .null, .int (iI 0), .null]))])) (va_Qv (fun _ : Nat → Nat => True) (fun u t => va_P (dC, dI) vwCl [(h, .inr (6, [.ref (ra), .ref (rb), .ref (u 0), .ref (u 1), .int (iI 0), .null])), ((u 0), .inl (cI, 60, .inl (iA (fun _ => 0)))), ((u 1), .inl (cI, 61, .inl (iA (fun _ => 0))))] t.heap ∧ va_K (dC, dI) vwCl [(cI, .int), (cJ, .long), (cZ, .boolean)] t ∧ va_D (va_A [(h, .inr (6, [.null, .null, .null, .null, .int (iI 0), .null]))] sz) [(h, .inr (6, [.ref (ra), .ref (rb), .ref (u 0), .ref (u 1), .int (iI 0), .null])), ((u 0), .inl (cI, 60, .inl (iA (fun _ => 0)))), ((u 1), .inl (cI, 61, .inl (iA (fun _ => 0))))]) (va_A [(h, .inr (6, [.null, .null, .null, .null, .int (iI 0), .null]))] sz)) 2 (121) (va_A [(h, .inr (6, [.null, .null, .null, .null, .int (iI 0), .null]))] sz) := by
  refine Met.ofW (cc := cX6_init) (maxL := 3) (ret := none) (by decide) rfl ?_
  intro p e s m args below meth c s₁ B hml hv
  obtain ⟨rfl, hsz, hP, hK, hD0⟩ := hv
  have hx := B.exec
  have hb := B.bytes
  have hr := B.returns
  have hts := atoms_spec (ws := wsX6_init) B.pre
  have hown : s.vm.findClass RX6 = some m.cls := findClass_of_methodNamed B.named
  have hlocks := B.notSynchronized
  have hin2 : meth.name = "<init>" := (name_of_methodNamed B.named B.method).1
  have hinX : ∀ w ∈ u_ws RX6 TX6 6, w ∈ wsX6_init := by decide +kernel
  subst hsz
  have hD := hD0.self (sz := s.heap.size)
  generalize hAe : va_A [(h, .inr (6, [.null, .null, .null, .null, .int (iI 0), .null]))] s.heap.size = A at hD ⊢
  have hA : ∀ q : Nat, s.heap.size ≤ q → A q := fun q h => by rw [← hAe]; exact Or.inr h
  have hS : va_S A s.heap s.heap [] := va_S.rf
  have hl := lv_entry ([.ref (h), .ref (ra), .ref (rb)]) (n := 3) (Nat.le_of_ble_eq_true rfl)
  rw [lg_entry_eq]
  generalize (lg_sl ([.ref (h), .ref (ra), .ref (rb)]) ++ List.replicate (3 - (lg_sl ([.ref (h), .ref (ra), .ref (rb)])).length) Slot.unset).toArray = ls at hl ⊢
  have hl : lv_has ls 3 [(0, .ref (h)), (1, .ref (ra)), (2, .ref (rb))] := hl
  have hP : va_P (dC, dI) vwCl [(h, .inr (6, [.null, .null, .null, .null, .int (iI 0), .null]))] s.heap := hP
  refine lv_aload_n hx hb dX6_init_0 rfl (lv_at hl 0 rfl) ?_
  refine W.objInit hx hb hown (hts (.methodLink RX6 3 objectInit) (by decide +kernel)) (hts (.instanceMethod objectInit) (by decide +kernel)) (hts (.code objectInit ⟨#[0xb1]⟩ 1 none) (by decide +kernel)) rfl (by rw [hml]; exact hl.1) rfl dX6_init_1 (Nat.le_of_ble_eq_true rfl) (Nat.le_of_ble_eq_true rfl) ?_
  refine W.eq (g2 := F0 m 4 ls []) rfl ?_
  refine lv_aload_n hx hb dX6_init_4 rfl (lv_at hl 0 rfl) ?_
  refine lv_aload_n hx hb dX6_init_5 rfl (lv_at hl 1 rfl) ?_
  refine va_putF (D := (dC, dI)) (ci := 6) (v := .ref (ra)) (ty := (.object "LikeWords$Rules")) (C := RX6) (T := TX6) (N := 6) hx hb hts hinX tyX6 tyX6_ok nmX6 hown hK hP hD hS 0 rfl rfl 0 (by decide) (hts (.fieldLink RX6 9 "LikeWords$Rewriter" "rules" "LLikeWords$Rules;") (by decide +kernel)) (fun _ h9 => h9) rfl hin2 rfl (by decide +kernel) rfl rfl (Nat.le_of_ble_eq_true rfl) dX6_init_6 (fun H locs hP hD hS => ?_)
  have hP : va_P (dC, dI) vwCl [(h, .inr (6, [.ref (ra), .null, .null, .null, .int (iI 0), .null]))] H := hP
  have hD : va_D A [(h, .inr (6, [.ref (ra), .null, .null, .null, .int (iI 0), .null]))] := hD
  refine lv_aload_n hx hb dX6_init_9 rfl (lv_at hl 0 rfl) ?_
  refine lv_aload_n hx hb dX6_init_10 rfl (lv_at hl 2 rfl) ?_
  refine va_putF (D := (dC, dI)) (ci := 6) (v := .ref (rb)) (ty := (.object "LikeWords$Machine")) (C := RX6) (T := TX6) (N := 6) hx hb hts hinX tyX6 tyX6_ok nmX6 hown hK hP hD hS 0 rfl rfl 1 (by decide) (hts (.fieldLink RX6 15 "LikeWords$Rewriter" "machine" "LLikeWords$Machine;") (by decide +kernel)) (fun _ h9 => h9) rfl hin2 rfl (by decide +kernel) rfl rfl (Nat.le_of_ble_eq_true rfl) dX6_init_11 (fun H locs hP hD hS => ?_)
  have hP : va_P (dC, dI) vwCl [(h, .inr (6, [.ref (ra), .ref (rb), .null, .null, .int (iI 0), .null]))] H := hP
  have hD : va_D A [(h, .inr (6, [.ref (ra), .ref (rb), .null, .null, .int (iI 0), .null]))] := hD
  refine lv_aload_n hx hb dX6_init_14 rfl (lv_at hl 0 rfl) ?_
  refine lv_bipush (v := iI (60 : Int)) hx hb dX6_init_15 (by decide) ?_
  refine wk_newI (N' := 60) (n := (60 : Int)) hx hb (hts (.arrayClass .int) (by decide +kernel)) hK hP hD hS hA 0 rfl (by decide) (by omega) (show _ ≤ 2 by omega) (show _ ≤ (121) by omega) dX6_init_17 (fun q17_11 H hP hD hS => ?_)
  have hP : va_P (dC, dI) vwCl [(h, .inr (6, [.ref (ra), .ref (rb), .null, .null, .int (iI 0), .null])), (q17_11, .inl (cI, 60, .inl (iA (fun _ => 0))))] H := hP
  have hD : va_D A [(h, .inr (6, [.ref (ra), .ref (rb), .null, .null, .int (iI 0), .null])), (q17_11, .inl (cI, 60, .inl (iA (fun _ => 0))))] := hD
  refine W.widen (k := 1) (n := 60) (by omega) (by omega) ?_
  refine va_putF (D := (dC, dI)) (ci := 6) (v := .ref (q17_11)) (ty := (.array .int)) (C := RX6) (T := TX6) (N := 6) hx hb hts hinX tyX6 tyX6_ok nmX6 hown hK hP hD hS 0 rfl rfl 2 (by decide) (hts (.fieldLink RX6 19 "LikeWords$Rewriter" "rest" "[I") (by decide +kernel)) (fun _ h9 => h9) rfl hin2 rfl (by decide +kernel) rfl rfl (Nat.le_of_ble_eq_true rfl) dX6_init_19 (fun H locs hP hD hS => ?_)
  have hP : va_P (dC, dI) vwCl [(h, .inr (6, [.ref (ra), .ref (rb), .ref (q17_11), .null, .int (iI 0), .null])), (q17_11, .inl (cI, 60, .inl (iA (fun _ => 0))))] H := hP
  have hD : va_D A [(h, .inr (6, [.ref (ra), .ref (rb), .ref (q17_11), .null, .int (iI 0), .null])), (q17_11, .inl (cI, 60, .inl (iA (fun _ => 0))))] := hD
  refine lv_aload_n hx hb dX6_init_22 rfl (lv_at hl 0 rfl) ?_
  refine lv_bipush (v := iI (61 : Int)) hx hb dX6_init_23 (by decide) ?_
  refine wk_newI (N' := 61) (n := (61 : Int)) hx hb (hts (.arrayClass .int) (by decide +kernel)) hK hP hD hS hA 0 rfl (by decide) (by omega) (show _ ≤ 2 by omega) (show _ ≤ (121) by omega) dX6_init_25 (fun q25_15 H hP hD hS => ?_)
  have hP : va_P (dC, dI) vwCl [(h, .inr (6, [.ref (ra), .ref (rb), .ref (q17_11), .null, .int (iI 0), .null])), (q17_11, .inl (cI, 60, .inl (iA (fun _ => 0)))), (q25_15, .inl (cI, 61, .inl (iA (fun _ => 0))))] H := hP
  have hD : va_D A [(h, .inr (6, [.ref (ra), .ref (rb), .ref (q17_11), .null, .int (iI 0), .null])), (q17_11, .inl (cI, 60, .inl (iA (fun _ => 0)))), (q25_15, .inl (cI, 61, .inl (iA (fun _ => 0))))] := hD
  refine W.widen (k := 2) (n := 121) (by omega) (by omega) ?_
  refine va_putF (D := (dC, dI)) (ci := 6) (v := .ref (q25_15)) (ty := (.array .int)) (C := RX6) (T := TX6) (N := 6) hx hb hts hinX tyX6 tyX6_ok nmX6 hown hK hP hD hS 0 rfl rfl 3 (by decide) (hts (.fieldLink RX6 23 "LikeWords$Rewriter" "places" "[I") (by decide +kernel)) (fun _ h9 => h9) rfl hin2 rfl (by decide +kernel) rfl rfl (Nat.le_of_ble_eq_true rfl) dX6_init_27 (fun H locs hP hD hS => ?_)
  have hP : va_P (dC, dI) vwCl [(h, .inr (6, [.ref (ra), .ref (rb), .ref (q17_11), .ref (q25_15), .int (iI 0), .null])), (q17_11, .inl (cI, 60, .inl (iA (fun _ => 0)))), (q25_15, .inl (cI, 61, .inl (iA (fun _ => 0))))] H := hP
  have hD : va_D A [(h, .inr (6, [.ref (ra), .ref (rb), .ref (q17_11), .ref (q25_15), .int (iI 0), .null])), (q17_11, .inl (cI, 60, .inl (iA (fun _ => 0)))), (q25_15, .inl (cI, 61, .inl (iA (fun _ => 0))))] := hD
  have hP9 := hP.sub (ws' := [(h, .inr (6, [.ref (ra), .ref (rb), .ref (q17_11), .ref (q25_15), .int (iI 0), .null])), (q17_11, .inl (cI, 60, .inl (iA (fun _ => 0)))), (q25_15, .inl (cI, 61, .inl (iA (fun _ => 0))))]) [0, 1, 2] rfl
  have hD9 := hD.sub (ws' := [(h, .inr (6, [.ref (ra), .ref (rb), .ref (q17_11), .ref (q25_15), .int (iI 0), .null])), (q17_11, .inl (cI, 60, .inl (iA (fun _ => 0)))), (q25_15, .inl (cI, 61, .inl (iA (fun _ => 0))))]) [0, 1, 2] (by decide) rfl
  exact W.vret hx hb hr (fun t ht hW => ⟨⟨(fun k9 => if k9 = 0 then q17_11 else if k9 = 1 then q25_15 else 0), rfl, trivial, by rw [ht]; exact hP9, va_K.moved hW.alike hK, hD9⟩, hS.F ht⟩) hS.2.2 dX6_init_30
set_option maxHeartbeats 4000000 in
set_option maxRecDepth 100000 in
/-- LikeWords$Proof.init -/
theorem n_p_init (l : Launch) (dC : Nat → ClassId) (dI : Nat → Nat → Nat) (h : Nat) (cI cJ cZ : ClassId) (sz : Nat)  (ra : Nat) (rb : Nat) (rc : Nat) (rd : Nat)  : Met l yX5_init wsX5_init ({ frames := 1, cells := 0, slots := 0, locals := 20 }) (va_Pc [.ref (h), .ref (ra), .ref (rb), .ref (rc), .ref (rd)] (fun U => U.heap.size = sz ∧ va_P (dC, dI) vwCl [(h, .inr (5, [.null, .null, .null, .null]))] U.heap ∧ va_K (dC, dI) vwCl [(cI, .int), (cJ, .long), (cZ, .boolean)] U ∧ va_D (fun _ => True) [(h, .inr (5, [.null, .null, .null, .null]))])) (va_Qv (fun _ : Nat → Nat => True) (fun u t => va_P (dC, dI) vwCl [(h, .inr (5, [.ref (ra), .ref (rb), .ref (rc), .ref (rd)]))] t.heap ∧ va_K (dC, dI) vwCl [(cI, .int), (cJ, .long), (cZ, .boolean)] t ∧ va_D (va_A [(h, .inr (5, [.null, .null, .null, .null]))] sz) [(h, .inr (5, [.ref (ra), .ref (rb), .ref (rc), .ref (rd)]))]) (va_A [(h, .inr (5, [.null, .null, .null, .null]))] sz)) 0 (0) (va_A [(h, .inr (5, [.null, .null, .null, .null]))] sz) := by
  refine Met.ofW (cc := cX5_init) (maxL := 5) (ret := none) (by decide) rfl ?_
  intro p e s m args below meth c s₁ B hml hv
  obtain ⟨rfl, hsz, hP, hK, hD0⟩ := hv
  have hx := B.exec
  have hb := B.bytes
  have hr := B.returns
  have hts := atoms_spec (ws := wsX5_init) B.pre
  have hown : s.vm.findClass RX5 = some m.cls := findClass_of_methodNamed B.named
  have hlocks := B.notSynchronized
  have hin2 : meth.name = "<init>" := (name_of_methodNamed B.named B.method).1
  have hinX : ∀ w ∈ u_ws RX5 TX5 4, w ∈ wsX5_init := by decide +kernel
  subst hsz
  have hD := hD0.self (sz := s.heap.size)
  generalize hAe : va_A [(h, .inr (5, [.null, .null, .null, .null]))] s.heap.size = A at hD ⊢
  have hA : ∀ q : Nat, s.heap.size ≤ q → A q := fun q h => by rw [← hAe]; exact Or.inr h
  have hS : va_S A s.heap s.heap [] := va_S.rf
  have hl := lv_entry ([.ref (h), .ref (ra), .ref (rb), .ref (rc), .ref (rd)]) (n := 5) (Nat.le_of_ble_eq_true rfl)
  rw [lg_entry_eq]
  generalize (lg_sl ([.ref (h), .ref (ra), .ref (rb), .ref (rc), .ref (rd)]) ++ List.replicate (5 - (lg_sl ([.ref (h), .ref (ra), .ref (rb), .ref (rc), .ref (rd)])).length) Slot.unset).toArray = ls at hl ⊢
  have hl : lv_has ls 5 [(0, .ref (h)), (1, .ref (ra)), (2, .ref (rb)), (3, .ref (rc)), (4, .ref (rd))] := hl
  have hP : va_P (dC, dI) vwCl [(h, .inr (5, [.null, .null, .null, .null]))] s.heap := hP
  refine lv_aload_n hx hb dX5_init_0 rfl (lv_at hl 0 rfl) ?_
  refine W.objInit hx hb hown (hts (.methodLink RX5 1 objectInit) (by decide +kernel)) (hts (.instanceMethod objectInit) (by decide +kernel)) (hts (.code objectInit ⟨#[0xb1]⟩ 1 none) (by decide +kernel)) rfl (by rw [hml]; exact hl.1) rfl dX5_init_1 (Nat.le_of_ble_eq_true rfl) (Nat.le_of_ble_eq_true rfl) ?_
  refine W.eq (g2 := F0 m 4 ls []) rfl ?_
  refine lv_aload_n hx hb dX5_init_4 rfl (lv_at hl 0 rfl) ?_
  refine lv_aload_n hx hb dX5_init_5 rfl (lv_at hl 1 rfl) ?_
  refine va_putF (D := (dC, dI)) (ci := 5) (v := .ref (ra)) (ty := (.object "LikeWords$Rules")) (C := RX5) (T := TX5) (N := 4) hx hb hts hinX tyX5 tyX5_ok nmX5 hown hK hP hD hS 0 rfl rfl 0 (by decide) (hts (.fieldLink RX5 7 "LikeWords$Proof" "rules" "LLikeWords$Rules;") (by decide +kernel)) (fun _ h9 => h9) rfl hin2 rfl (by decide +kernel) rfl rfl (Nat.le_of_ble_eq_true rfl) dX5_init_6 (fun H locs hP hD hS => ?_)
  have hP : va_P (dC, dI) vwCl [(h, .inr (5, [.ref (ra), .null, .null, .null]))] H := hP
  have hD : va_D A [(h, .inr (5, [.ref (ra), .null, .null, .null]))] := hD
  refine lv_aload_n hx hb dX5_init_9 rfl (lv_at hl 0 rfl) ?_
  refine lv_aload_n hx hb dX5_init_10 rfl (lv_at hl 2 rfl) ?_
  refine va_putF (D := (dC, dI)) (ci := 5) (v := .ref (rb)) (ty := (.object "LikeWords$Rewriter")) (C := RX5) (T := TX5) (N := 4) hx hb hts hinX tyX5 tyX5_ok nmX5 hown hK hP hD hS 0 rfl rfl 1 (by decide) (hts (.fieldLink RX5 13 "LikeWords$Proof" "rewriter" "LLikeWords$Rewriter;") (by decide +kernel)) (fun _ h9 => h9) rfl hin2 rfl (by decide +kernel) rfl rfl (Nat.le_of_ble_eq_true rfl) dX5_init_11 (fun H locs hP hD hS => ?_)
  have hP : va_P (dC, dI) vwCl [(h, .inr (5, [.ref (ra), .ref (rb), .null, .null]))] H := hP
  have hD : va_D A [(h, .inr (5, [.ref (ra), .ref (rb), .null, .null]))] := hD
  refine lv_aload_n hx hb dX5_init_14 rfl (lv_at hl 0 rfl) ?_
  refine lv_aload_n hx hb dX5_init_15 rfl (lv_at hl 3 rfl) ?_
  refine va_putF (D := (dC, dI)) (ci := 5) (v := .ref (rc)) (ty := (.object "LikeWords$Word")) (C := RX5) (T := TX5) (N := 4) hx hb hts hinX tyX5 tyX5_ok nmX5 hown hK hP hD hS 0 rfl rfl 2 (by decide) (hts (.fieldLink RX5 17 "LikeWords$Proof" "one" "LLikeWords$Word;") (by decide +kernel)) (fun _ h9 => h9) rfl hin2 rfl (by decide +kernel) rfl rfl (Nat.le_of_ble_eq_true rfl) dX5_init_16 (fun H locs hP hD hS => ?_)
  have hP : va_P (dC, dI) vwCl [(h, .inr (5, [.ref (ra), .ref (rb), .ref (rc), .null]))] H := hP
  have hD : va_D A [(h, .inr (5, [.ref (ra), .ref (rb), .ref (rc), .null]))] := hD
  refine lv_aload_n hx hb dX5_init_19 rfl (lv_at hl 0 rfl) ?_
  refine lv_aload hx hb dX5_init_20 (lv_at hl 4 rfl) ?_
  refine va_putF (D := (dC, dI)) (ci := 5) (v := .ref (rd)) (ty := (.object "LikeWords$Word")) (C := RX5) (T := TX5) (N := 4) hx hb hts hinX tyX5 tyX5_ok nmX5 hown hK hP hD hS 0 rfl rfl 3 (by decide) (hts (.fieldLink RX5 21 "LikeWords$Proof" "other" "LLikeWords$Word;") (by decide +kernel)) (fun _ h9 => h9) rfl hin2 rfl (by decide +kernel) rfl rfl (Nat.le_of_ble_eq_true rfl) dX5_init_22 (fun H locs hP hD hS => ?_)
  have hP : va_P (dC, dI) vwCl [(h, .inr (5, [.ref (ra), .ref (rb), .ref (rc), .ref (rd)]))] H := hP
  have hD : va_D A [(h, .inr (5, [.ref (ra), .ref (rb), .ref (rc), .ref (rd)]))] := hD
  have hP9 := hP.sub (ws' := [(h, .inr (5, [.ref (ra), .ref (rb), .ref (rc), .ref (rd)]))]) [0] rfl
  have hD9 := hD.sub (ws' := [(h, .inr (5, [.ref (ra), .ref (rb), .ref (rc), .ref (rd)]))]) [0] (by decide) rfl
  exact W.vret hx hb hr (fun t ht hW => ⟨⟨(fun k9 => 0), rfl, trivial, by rw [ht]; exact hP9, va_K.moved hW.alike hK, hD9⟩, hS.F ht⟩) hS.2.2 dX5_init_25
set_option maxHeartbeats 4000000 in
set_option maxRecDepth 100000 in
/-- LikeWords$Walk.init -/
theorem n_v_init (l : Launch) (dC : Nat → ClassId) (dI : Nat → Nat → Nat) (h : Nat) (cI cJ cZ : ClassId) (sz : Nat)  (ra : Nat)  : Met l yX9_init wsX9_init ({ frames := 2, cells := 3, slots := 63, locals := 42 }) (va_Pc [.ref (h), .ref (ra)] (fun U => U.heap.size = sz ∧ va_P (dC, dI) vwCl [(h, .inr (9, [.null, .null, .null]))] U.heap ∧ va_K (dC, dI) vwCl [(cI, .int), (cJ, .long), (cZ, .boolean)] U ∧ va_D (fun _ => True) [(h, .inr (9, [.null, .null, .null]))])) (va_Qv (fun _ : Nat → Nat => True) (fun u t => va_P (dC, dI) vwCl [(h, .inr (9, [.ref (ra), .ref (u 0), .ref (u 1)])), ((u 0), .inl (cI, 31, .inl (iA (fun _ => 0)))), ((u 1), .inr (10, [.ref (u 2), .int (iI 0)])), ((u 2), .inl (cI, 30, .inl (iA (fun _ => 0))))] t.heap ∧ va_K (dC, dI) vwCl [(cI, .int), (cJ, .long), (cZ, .boolean)] t ∧ va_D (va_A [(h, .inr (9, [.null, .null, .null]))] sz) [(h, .inr (9, [.ref (ra), .ref (u 0), .ref (u 1)])), ((u 0), .inl (cI, 31, .inl (iA (fun _ => 0)))), ((u 1), .inr (10, [.ref (u 2), .int (iI 0)])), ((u 2), .inl (cI, 30, .inl (iA (fun _ => 0))))]) (va_A [(h, .inr (9, [.null, .null, .null]))] sz)) 3 (63) (va_A [(h, .inr (9, [.null, .null, .null]))] sz) := by
  refine Met.ofW (cc := cX9_init) (maxL := 2) (ret := none) (by decide) rfl ?_
  intro p e s m args below meth c s₁ B hml hv
  obtain ⟨rfl, hsz, hP, hK, hD0⟩ := hv
  have hx := B.exec
  have hb := B.bytes
  have hr := B.returns
  have hts := atoms_spec (ws := wsX9_init) B.pre
  have hown : s.vm.findClass RX9 = some m.cls := findClass_of_methodNamed B.named
  have hlocks := B.notSynchronized
  have hin2 : meth.name = "<init>" := (name_of_methodNamed B.named B.method).1
  have hinX : ∀ w ∈ u_ws RX9 TX9 3, w ∈ wsX9_init := by decide +kernel
  subst hsz
  have hD := hD0.self (sz := s.heap.size)
  generalize hAe : va_A [(h, .inr (9, [.null, .null, .null]))] s.heap.size = A at hD ⊢
  have hA : ∀ q : Nat, s.heap.size ≤ q → A q := fun q h => by rw [← hAe]; exact Or.inr h
  have hS : va_S A s.heap s.heap [] := va_S.rf
  have hl := lv_entry ([.ref (h), .ref (ra)]) (n := 2) (Nat.le_of_ble_eq_true rfl)
  rw [lg_entry_eq]
  generalize (lg_sl ([.ref (h), .ref (ra)]) ++ List.replicate (2 - (lg_sl ([.ref (h), .ref (ra)])).length) Slot.unset).toArray = ls at hl ⊢
  have hl : lv_has ls 2 [(0, .ref (h)), (1, .ref (ra))] := hl
  have hP : va_P (dC, dI) vwCl [(h, .inr (9, [.null, .null, .null]))] s.heap := hP
  refine lv_aload_n hx hb dX9_init_0 rfl (lv_at hl 0 rfl) ?_
  refine W.objInit hx hb hown (hts (.methodLink RX9 3 objectInit) (by decide +kernel)) (hts (.instanceMethod objectInit) (by decide +kernel)) (hts (.code objectInit ⟨#[0xb1]⟩ 1 none) (by decide +kernel)) rfl (by rw [hml]; exact hl.1) rfl dX9_init_1 (Nat.le_of_ble_eq_true rfl) (Nat.le_of_ble_eq_true rfl) ?_
  refine W.eq (g2 := F0 m 4 ls []) rfl ?_
  refine lv_aload_n hx hb dX9_init_4 rfl (lv_at hl 0 rfl) ?_
  refine lv_aload_n hx hb dX9_init_5 rfl (lv_at hl 1 rfl) ?_
  refine va_putF (D := (dC, dI)) (ci := 9) (v := .ref (ra)) (ty := (.object "LikeWords$Machine")) (C := RX9) (T := TX9) (N := 3) hx hb hts hinX tyX9 tyX9_ok nmX9 hown hK hP hD hS 0 rfl rfl 0 (by decide) (hts (.fieldLink RX9 9 "LikeWords$Walk" "machine" "LLikeWords$Machine;") (by decide +kernel)) (fun _ h9 => h9) rfl hin2 rfl (by decide +kernel) rfl rfl (Nat.le_of_ble_eq_true rfl) dX9_init_6 (fun H locs hP hD hS => ?_)
  have hP : va_P (dC, dI) vwCl [(h, .inr (9, [.ref (ra), .null, .null]))] H := hP
  have hD : va_D A [(h, .inr (9, [.ref (ra), .null, .null]))] := hD
  refine lv_aload_n hx hb dX9_init_9 rfl (lv_at hl 0 rfl) ?_
  refine lv_bipush (v := iI (31 : Int)) hx hb dX9_init_10 (by decide) ?_
  refine wk_newI (N' := 31) (n := (31 : Int)) hx hb (hts (.arrayClass .int) (by decide +kernel)) hK hP hD hS hA 0 rfl (by decide) (by omega) (show _ ≤ 3 by omega) (show _ ≤ (63) by omega) dX9_init_12 (fun q12_8 H hP hD hS => ?_)
  have hP : va_P (dC, dI) vwCl [(h, .inr (9, [.ref (ra), .null, .null])), (q12_8, .inl (cI, 31, .inl (iA (fun _ => 0))))] H := hP
  have hD : va_D A [(h, .inr (9, [.ref (ra), .null, .null])), (q12_8, .inl (cI, 31, .inl (iA (fun _ => 0))))] := hD
  refine W.widen (k := 1) (n := 31) (by omega) (by omega) ?_
  refine va_putF (D := (dC, dI)) (ci := 9) (v := .ref (q12_8)) (ty := (.array .int)) (C := RX9) (T := TX9) (N := 3) hx hb hts hinX tyX9 tyX9_ok nmX9 hown hK hP hD hS 0 rfl rfl 1 (by decide) (hts (.fieldLink RX9 15 "LikeWords$Walk" "places" "[I") (by decide +kernel)) (fun _ h9 => h9) rfl hin2 rfl (by decide +kernel) rfl rfl (Nat.le_of_ble_eq_true rfl) dX9_init_14 (fun H locs hP hD hS => ?_)
  have hP : va_P (dC, dI) vwCl [(h, .inr (9, [.ref (ra), .ref (q12_8), .null])), (q12_8, .inl (cI, 31, .inl (iA (fun _ => 0))))] H := hP
  have hD : va_D A [(h, .inr (9, [.ref (ra), .ref (q12_8), .null])), (q12_8, .inl (cI, 31, .inl (iA (fun _ => 0))))] := hD
  refine lv_aload_n hx hb dX9_init_17 rfl (lv_at hl 0 rfl) ?_
  refine va_new (ci := 10) (fs := [.null, .int (iI 0)]) (C := RX10) (T := TX10) (N := 2) hx hb hts (by decide +kernel) tyX10 tyX10_ok hown (hts (.classLink RX9 19 RX10) (by decide +kernel)) (hts (.instantiable RX10 2) (by decide +kernel)) (hts (.initialized RX10) (by decide +kernel)) hK hP hD hS hA rfl (fun j hj => by (rcases (show j = 0 ∨ j = 1 by omega) with rfl | rfl) <;> rfl) (show _ ≤ 3 by omega) (show _ ≤ (63) by omega) dX9_init_18 (fun q18_11 H hP hD hS => ?_)
  have hP : va_P (dC, dI) vwCl [(h, .inr (9, [.ref (ra), .ref (q12_8), .null])), (q12_8, .inl (cI, 31, .inl (iA (fun _ => 0)))), (q18_11, .inr (10, [.null, .int (iI 0)]))] H := hP
  have hD : va_D A [(h, .inr (9, [.ref (ra), .ref (q12_8), .null])), (q12_8, .inl (cI, 31, .inl (iA (fun _ => 0)))), (q18_11, .inr (10, [.null, .int (iI 0)]))] := hD
  refine W.widen (k := 2) (n := 33) (by omega) (by omega) ?_
  refine lv_dup hx hb dX9_init_21 rfl ?_
  refine lv_bipush (v := iI (30 : Int)) hx hb dX9_init_22 (by decide) ?_
  have hPc := hP.sub (ws' := [(q18_11, .inr (10, [.null, .int (iI 0)]))]) [2] rfl
  have hDc := hD.sub (ws' := [(q18_11, .inr (10, [.null, .int (iI 0)]))]) [2] (by decide) rfl
  have hFc := va_free (wc := [(q18_11, .inr (10, [.null, .int (iI 0)]))]) hD hS hA [2] rfl
  have hKc := hK.sub (tys' := [(cI, .int), (cJ, .long), (cZ, .boolean)]) [0, 1, 2] rfl
  refine va_callv (va_runI (As := [.int (iI ((30 : Int)))]) (rest := [.ref (q18_11), .ref (h)]) ⟨hx, hb, hml, hown, hts⟩ (n_w_init l dC dI (q18_11) cI cJ cZ H.size 30 (by decide)) (cwI 1 hts gX9_init_X10_init rfl rfl rfl (hts (.initialized RX10) (by decide +kernel)) (hts (.methodLink RX9 21 yX10_init) (by decide +kernel)) (hts (.instanceMethod yX10_init) (by decide +kernel)) rfl (by decide +kernel) ⟨Nat.le_of_ble_eq_true rfl, Nat.le_of_ble_eq_true rfl⟩) ⟨fun a U g mk q => by obtain ⟨q0, q1, qP, qK, qD⟩ := q; exact ⟨q0, q1, qP, va_K.moved (u := U) (U := U.calling g mk a) (Vm.Alike.refl U.vm) qK, qD⟩, fun U hU hW => ⟨rfl, by rw [hU], by rw [hU]; exact hPc, va_K.moved hW.alike hKc, hDc.weaken (fun _ _ _ _ => trivial)⟩⟩ rfl rfl hl.1 rfl (lv_room (Nat.le_of_ble_eq_true rfl)) dX9_init_24 ⟨(show _ ≤ 3 by omega), (show _ ≤ (63) by omega)⟩) hS (fun q _ h => hFc q h) hFc (fun u24_14 t H1 locs ht hvm hw hB hz1 hk1 hS => ?_)
  obtain ⟨hP1, hK1, hD1⟩ := hB
  rw [ht] at hP1
  obtain ⟨hP, hD⟩ := va_join (wr := [(h, .inr (9, [.ref (ra), .ref (q12_8), .null])), (q12_8, .inl (cI, 31, .inl (iA (fun _ => 0))))]) (w1 := [(q18_11, .inr (10, [.ref (u24_14 0), .int (iI 0)])), ((u24_14 0), .inl (cI, 30, .inl (iA (fun _ => 0))))]) hP hD [2] [0, 1] rfl rfl (by decide) (by decide) hk1 hFc hP1 hD1
  generalize H1 = H at hP hS ⊢
  have hP : va_P (dC, dI) vwCl [(h, .inr (9, [.ref (ra), .ref (q12_8), .null])), (q12_8, .inl (cI, 31, .inl (iA (fun _ => 0)))), (q18_11, .inr (10, [.ref (u24_14 0), .int (iI 0)])), ((u24_14 0), .inl (cI, 30, .inl (iA (fun _ => 0))))] H := hP
  have hD : va_D A [(h, .inr (9, [.ref (ra), .ref (q12_8), .null])), (q12_8, .inl (cI, 31, .inl (iA (fun _ => 0)))), (q18_11, .inr (10, [.ref (u24_14 0), .int (iI 0)])), ((u24_14 0), .inl (cI, 30, .inl (iA (fun _ => 0))))] := hD
  refine W.widen (k := 3) (n := 63) (by omega) (by omega) ?_
  refine va_putF (D := (dC, dI)) (ci := 9) (v := .ref (q18_11)) (ty := (.object "LikeWords$Word")) (C := RX9) (T := TX9) (N := 3) hx hb hts hinX tyX9 tyX9_ok nmX9 hown hK hP hD hS 0 rfl rfl 2 (by decide) (hts (.fieldLink RX9 24 "LikeWords$Walk" "word" "LLikeWords$Word;") (by decide +kernel)) (fun _ h9 => h9) rfl hin2 rfl (by decide +kernel) rfl rfl (Nat.le_of_ble_eq_true rfl) dX9_init_27 (fun H locs hP hD hS => ?_)
  have hP : va_P (dC, dI) vwCl [(h, .inr (9, [.ref (ra), .ref (q12_8), .ref (q18_11)])), (q12_8, .inl (cI, 31, .inl (iA (fun _ => 0)))), (q18_11, .inr (10, [.ref (u24_14 0), .int (iI 0)])), ((u24_14 0), .inl (cI, 30, .inl (iA (fun _ => 0))))] H := hP
  have hD : va_D A [(h, .inr (9, [.ref (ra), .ref (q12_8), .ref (q18_11)])), (q12_8, .inl (cI, 31, .inl (iA (fun _ => 0)))), (q18_11, .inr (10, [.ref (u24_14 0), .int (iI 0)])), ((u24_14 0), .inl (cI, 30, .inl (iA (fun _ => 0))))] := hD
  have hP9 := hP.sub (ws' := [(h, .inr (9, [.ref (ra), .ref (q12_8), .ref (q18_11)])), (q12_8, .inl (cI, 31, .inl (iA (fun _ => 0)))), (q18_11, .inr (10, [.ref (u24_14 0), .int (iI 0)])), ((u24_14 0), .inl (cI, 30, .inl (iA (fun _ => 0))))]) [0, 1, 2, 3] rfl
  have hD9 := hD.sub (ws' := [(h, .inr (9, [.ref (ra), .ref (q12_8), .ref (q18_11)])), (q12_8, .inl (cI, 31, .inl (iA (fun _ => 0)))), (q18_11, .inr (10, [.ref (u24_14 0), .int (iI 0)])), ((u24_14 0), .inl (cI, 30, .inl (iA (fun _ => 0))))]) [0, 1, 2, 3] (by decide) rfl
  exact W.vret hx hb hr (fun t ht hW => ⟨⟨(fun k9 => if k9 = 0 then q12_8 else if k9 = 1 then q18_11 else if k9 = 2 then (u24_14 0) else 0), rfl, trivial, by rw [ht]; exact hP9, va_K.moved hW.alike hK, hD9⟩, hS.F ht⟩) hS.2.2 dX9_init_30
set_option maxHeartbeats 4000000 in
set_option maxRecDepth 100000 in
/-- LikeWords$Made.init -/
theorem n_d_init (l : Launch) (dC : Nat → ClassId) (dI : Nat → Nat → Nat) (h : Nat) (cI cJ cZ : ClassId) (sz : Nat)    : Met l yX4_init wsX4_init ({ frames := 1, cells := 2, slots := 600, locals := 20 }) (va_Pc [.ref (h)] (fun U => U.heap.size = sz ∧ va_P (dC, dI) vwCl [(h, .inr (4, [.null, .null, .int (iI 0)]))] U.heap ∧ va_K (dC, dI) vwCl [(cI, .int), (cJ, .long), (cZ, .boolean)] U ∧ va_D (fun _ => True) [(h, .inr (4, [.null, .null, .int (iI 0)]))])) (va_Qv (fun _ : Nat → Nat => True) (fun u t => va_P (dC, dI) vwCl [(h, .inr (4, [.ref (u 0), .ref (u 1), .int (iI 0)])), ((u 0), .inl (cJ, 300, .inr (.inl (iAL (fun _ => 0))))), ((u 1), .inl (cJ, 300, .inr (.inl (iAL (fun _ => 0)))))] t.heap ∧ va_K (dC, dI) vwCl [(cI, .int), (cJ, .long), (cZ, .boolean)] t ∧ va_D (va_A [(h, .inr (4, [.null, .null, .int (iI 0)]))] sz) [(h, .inr (4, [.ref (u 0), .ref (u 1), .int (iI 0)])), ((u 0), .inl (cJ, 300, .inr (.inl (iAL (fun _ => 0))))), ((u 1), .inl (cJ, 300, .inr (.inl (iAL (fun _ => 0)))))]) (va_A [(h, .inr (4, [.null, .null, .int (iI 0)]))] sz)) 2 (600) (va_A [(h, .inr (4, [.null, .null, .int (iI 0)]))] sz) := by
  refine Met.ofW (cc := cX4_init) (maxL := 1) (ret := none) (by decide) rfl ?_
  intro p e s m args below meth c s₁ B hml hv
  obtain ⟨rfl, hsz, hP, hK, hD0⟩ := hv
  have hx := B.exec
  have hb := B.bytes
  have hr := B.returns
  have hts := atoms_spec (ws := wsX4_init) B.pre
  have hown : s.vm.findClass RX4 = some m.cls := findClass_of_methodNamed B.named
  have hlocks := B.notSynchronized
  have hin2 : meth.name = "<init>" := (name_of_methodNamed B.named B.method).1
  have hinX : ∀ w ∈ u_ws RX4 TX4 3, w ∈ wsX4_init := by decide +kernel
  subst hsz
  have hD := hD0.self (sz := s.heap.size)
  generalize hAe : va_A [(h, .inr (4, [.null, .null, .int (iI 0)]))] s.heap.size = A at hD ⊢
  have hA : ∀ q : Nat, s.heap.size ≤ q → A q := fun q h => by rw [← hAe]; exact Or.inr h
  have hS : va_S A s.heap s.heap [] := va_S.rf
  have hl := lv_entry ([.ref (h)]) (n := 1) (Nat.le_of_ble_eq_true rfl)
  rw [lg_entry_eq]
  generalize (lg_sl ([.ref (h)]) ++ List.replicate (1 - (lg_sl ([.ref (h)])).length) Slot.unset).toArray = ls at hl ⊢
  have hl : lv_has ls 1 [(0, .ref (h))] := hl
  have hP : va_P (dC, dI) vwCl [(h, .inr (4, [.null, .null, .int (iI 0)]))] s.heap := hP
  refine lv_aload_n hx hb dX4_init_0 rfl (lv_at hl 0 rfl) ?_
  refine W.objInit hx hb hown (hts (.methodLink RX4 3 objectInit) (by decide +kernel)) (hts (.instanceMethod objectInit) (by decide +kernel)) (hts (.code objectInit ⟨#[0xb1]⟩ 1 none) (by decide +kernel)) rfl (by rw [hml]; exact hl.1) rfl dX4_init_1 (Nat.le_of_ble_eq_true rfl) (Nat.le_of_ble_eq_true rfl) ?_
  refine W.eq (g2 := F0 m 4 ls []) rfl ?_
  refine lv_aload_n hx hb dX4_init_4 rfl (lv_at hl 0 rfl) ?_
  refine lv_sipush (v := iI (300 : Int)) hx hb dX4_init_5 (by decide) ?_
  refine wk_newJ (N' := 300) (n := (300 : Int)) hx hb (hts (.arrayClass .long) (by decide +kernel)) hK hP hD hS hA 1 rfl (by decide) (by omega) (show _ ≤ 2 by omega) (show _ ≤ (600) by omega) dX4_init_8 (fun q8_5 H hP hD hS => ?_)
  have hP : va_P (dC, dI) vwCl [(h, .inr (4, [.null, .null, .int (iI 0)])), (q8_5, .inl (cJ, 300, .inr (.inl (iAL (fun _ => 0)))))] H := hP
  have hD : va_D A [(h, .inr (4, [.null, .null, .int (iI 0)])), (q8_5, .inl (cJ, 300, .inr (.inl (iAL (fun _ => 0)))))] := hD
  refine W.widen (k := 1) (n := 300) (by omega) (by omega) ?_
  refine va_putF (D := (dC, dI)) (ci := 4) (v := .ref (q8_5)) (ty := (.array .long)) (C := RX4) (T := TX4) (N := 3) hx hb hts hinX tyX4 tyX4_ok nmX4 hown hK hP hD hS 0 rfl rfl 0 (by decide) (hts (.fieldLink RX4 9 "LikeWords$Made" "heads" "[J") (by decide +kernel)) (fun _ h9 => h9) rfl hin2 rfl (by decide +kernel) rfl rfl (Nat.le_of_ble_eq_true rfl) dX4_init_10 (fun H locs hP hD hS => ?_)
  have hP : va_P (dC, dI) vwCl [(h, .inr (4, [.ref (q8_5), .null, .int (iI 0)])), (q8_5, .inl (cJ, 300, .inr (.inl (iAL (fun _ => 0)))))] H := hP
  have hD : va_D A [(h, .inr (4, [.ref (q8_5), .null, .int (iI 0)])), (q8_5, .inl (cJ, 300, .inr (.inl (iAL (fun _ => 0)))))] := hD
  refine lv_aload_n hx hb dX4_init_13 rfl (lv_at hl 0 rfl) ?_
  refine lv_sipush (v := iI (300 : Int)) hx hb dX4_init_14 (by decide) ?_
  refine wk_newJ (N' := 300) (n := (300 : Int)) hx hb (hts (.arrayClass .long) (by decide +kernel)) hK hP hD hS hA 1 rfl (by decide) (by omega) (show _ ≤ 2 by omega) (show _ ≤ (600) by omega) dX4_init_17 (fun q17_9 H hP hD hS => ?_)
  have hP : va_P (dC, dI) vwCl [(h, .inr (4, [.ref (q8_5), .null, .int (iI 0)])), (q8_5, .inl (cJ, 300, .inr (.inl (iAL (fun _ => 0))))), (q17_9, .inl (cJ, 300, .inr (.inl (iAL (fun _ => 0)))))] H := hP
  have hD : va_D A [(h, .inr (4, [.ref (q8_5), .null, .int (iI 0)])), (q8_5, .inl (cJ, 300, .inr (.inl (iAL (fun _ => 0))))), (q17_9, .inl (cJ, 300, .inr (.inl (iAL (fun _ => 0)))))] := hD
  refine W.widen (k := 2) (n := 600) (by omega) (by omega) ?_
  refine va_putF (D := (dC, dI)) (ci := 4) (v := .ref (q17_9)) (ty := (.array .long)) (C := RX4) (T := TX4) (N := 3) hx hb hts hinX tyX4 tyX4_ok nmX4 hown hK hP hD hS 0 rfl rfl 1 (by decide) (hts (.fieldLink RX4 15 "LikeWords$Made" "tails" "[J") (by decide +kernel)) (fun _ h9 => h9) rfl hin2 rfl (by decide +kernel) rfl rfl (Nat.le_of_ble_eq_true rfl) dX4_init_19 (fun H locs hP hD hS => ?_)
  have hP : va_P (dC, dI) vwCl [(h, .inr (4, [.ref (q8_5), .ref (q17_9), .int (iI 0)])), (q8_5, .inl (cJ, 300, .inr (.inl (iAL (fun _ => 0))))), (q17_9, .inl (cJ, 300, .inr (.inl (iAL (fun _ => 0)))))] H := hP
  have hD : va_D A [(h, .inr (4, [.ref (q8_5), .ref (q17_9), .int (iI 0)])), (q8_5, .inl (cJ, 300, .inr (.inl (iAL (fun _ => 0))))), (q17_9, .inl (cJ, 300, .inr (.inl (iAL (fun _ => 0)))))] := hD
  have hP9 := hP.sub (ws' := [(h, .inr (4, [.ref (q8_5), .ref (q17_9), .int (iI 0)])), (q8_5, .inl (cJ, 300, .inr (.inl (iAL (fun _ => 0))))), (q17_9, .inl (cJ, 300, .inr (.inl (iAL (fun _ => 0)))))]) [0, 1, 2] rfl
  have hD9 := hD.sub (ws' := [(h, .inr (4, [.ref (q8_5), .ref (q17_9), .int (iI 0)])), (q8_5, .inl (cJ, 300, .inr (.inl (iAL (fun _ => 0))))), (q17_9, .inl (cJ, 300, .inr (.inl (iAL (fun _ => 0)))))]) [0, 1, 2] (by decide) rfl
  exact W.vret hx hb hr (fun t ht hW => ⟨⟨(fun k9 => if k9 = 0 then q8_5 else if k9 = 1 then q17_9 else 0), rfl, trivial, by rw [ht]; exact hP9, va_K.moved hW.alike hK, hD9⟩, hS.F ht⟩) hS.2.2 dX4_init_22
