-- deps: 30 60
set_option maxHeartbeats 4000000 in
set_option maxRecDepth 100000 in
/-- LikeWords$Word.init -/
theorem n_w_init (l : Launch) (dC : Nat → ClassId) (dI : Nat → Nat → Nat) (h : Nat) (cI cJ cZ : ClassId) (sz : Nat)  (zn : Nat) (zn9 : zn ≤ 1000) : Met l yX10_init wsX10_init ({ frames := 1, cells := 1, slots := zn, locals := 21 }) (va_Pc [.ref (h), .int (iI (((zn : Nat) : Int)))] (fun U => U.heap.size = sz ∧ va_P (dC, dI) vwCl [(h, .inr (10, [.null, .int (iI 0)]))] U.heap ∧ va_K (dC, dI) vwCl [(cI, .int), (cJ, .long), (cZ, .boolean)] U ∧ va_D (fun _ => True) [(h, .inr (10, [.null, .int (iI 0)]))])) (va_Qv (fun _ : Nat → Nat => True) (fun u t => va_P (dC, dI) vwCl [(h, .inr (10, [.ref (u 0), .int (iI 0)])), ((u 0), .inl (cI, zn, .inl (iA (fun _ => 0))))] t.heap ∧ va_K (dC, dI) vwCl [(cI, .int), (cJ, .long), (cZ, .boolean)] t ∧ va_D (va_A [(h, .inr (10, [.null, .int (iI 0)]))] sz) [(h, .inr (10, [.ref (u 0), .int (iI 0)])), ((u 0), .inl (cI, zn, .inl (iA (fun _ => 0))))]) (va_A [(h, .inr (10, [.null, .int (iI 0)]))] sz)) 1 (zn) (va_A [(h, .inr (10, [.null, .int (iI 0)]))] sz) := by
  refine Met.ofW (cc := cX10_init) (maxL := 2) (ret := none) (by decide) rfl ?_
  intro p e s m args below meth c s₁ B hml hv
  obtain ⟨rfl, hsz, hP, hK, hD0⟩ := hv
  have hx := B.exec
  have hb := B.bytes
  have hr := B.returns
  have hts := atoms_spec (ws := wsX10_init) B.pre
  have hown : s.vm.findClass RX10 = some m.cls := findClass_of_methodNamed B.named
  have hlocks := B.notSynchronized
  have hin2 : meth.name = "<init>" := (name_of_methodNamed B.named B.method).1
  have hinX : ∀ w ∈ u_ws RX10 TX10 2, w ∈ wsX10_init := by decide +kernel
  subst hsz
  have hD := hD0.self (sz := s.heap.size)
  generalize hAe : va_A [(h, .inr (10, [.null, .int (iI 0)]))] s.heap.size = A at hD ⊢
  have hA : ∀ q : Nat, s.heap.size ≤ q → A q := fun q h => by rw [← hAe]; exact Or.inr h
  have hS : va_S A s.heap s.heap [] := va_S.rf
  have hl := lv_entry ([.ref (h), .int (iI (((zn : Nat) : Int)))]) (n := 2) (Nat.le_of_ble_eq_true rfl)
  rw [lg_entry_eq]
  generalize (lg_sl ([.ref (h), .int (iI (((zn : Nat) : Int)))]) ++ List.replicate (2 - (lg_sl ([.ref (h), .int (iI (((zn : Nat) : Int)))])).length) Slot.unset).toArray = ls at hl ⊢
  have hl : lv_has ls 2 [(0, .ref (h)), (1, .int (iI (((zn : Nat) : Int))))] := hl
  have hP : va_P (dC, dI) vwCl [(h, .inr (10, [.null, .int (iI 0)]))] s.heap := hP
  refine lv_aload_n hx hb dX10_init_0 rfl (lv_at hl 0 rfl) ?_
  refine W.objInit hx hb hown (hts (.methodLink RX10 3 objectInit) (by decide +kernel)) (hts (.instanceMethod objectInit) (by decide +kernel)) (hts (.code objectInit ⟨#[0xb1]⟩ 1 none) (by decide +kernel)) rfl (by rw [hml]; exact hl.1) rfl dX10_init_1 (Nat.le_of_ble_eq_true rfl) (Nat.le_of_ble_eq_true rfl) ?_
  refine W.eq (g2 := F0 m 4 ls []) rfl ?_
  refine lv_aload_n hx hb dX10_init_4 rfl (lv_at hl 0 rfl) ?_
  refine lv_iload_n hx hb dX10_init_5 rfl (lv_at hl 1 rfl) ?_
  refine lv_iconst (v := iI (0 : Int)) hx hb dX10_init_6 (by decide) ?_
  refine va_mmax hx hb (by rw [hml]; exact hl.1.symm) hown (hts (.methodLink RX10 9 Lib.Math.max.name) (by decide +kernel)) (hts (.static Lib.Math.max.name) (by decide +kernel)) (hts (.initialized "java/lang/Math") (by decide +kernel)) (hts (.code Lib.Math.max.name Lib.Math.max.code 2 (some .int)) (by decide +kernel)) (Nat.le_of_ble_eq_true rfl) (Nat.le_of_ble_eq_true rfl) (Nat.zero_le _) (Nat.zero_le _) dX10_init_7 ?_
  rw [iI_max (by unfold iR; omega) ⟨by decide, by decide⟩]
  refine wk_newI (N' := zn) (n := max (((zn : Nat) : Int)) ((0 : Int))) hx hb (hts (.arrayClass .int) (by decide +kernel)) hK hP hD hS hA 0 rfl (by omega) (by omega) (show _ ≤ 1 by omega) (show _ ≤ (zn) by omega) dX10_init_10 (fun q10 H hP hD hS => ?_)
  have hP : va_P (dC, dI) vwCl [(h, .inr (10, [.null, .int (iI 0)])), (q10, .inl (cI, zn, .inl (iA (fun _ => 0))))] H := hP
  have hD : va_D A [(h, .inr (10, [.null, .int (iI 0)])), (q10, .inl (cI, zn, .inl (iA (fun _ => 0))))] := hD
  refine W.widen (k := 1) (n := zn) (by omega) (by omega) ?_
  refine va_putF (D := (dC, dI)) (ci := 10) (v := .ref (q10)) (ty := (.array .int)) (C := RX10) (T := TX10) (N := 2) hx hb hts hinX tyX10 tyX10_ok nmX10 hown hK hP hD hS 0 rfl rfl 0 (by decide) (hts (.fieldLink RX10 15 "LikeWords$Word" "signs" "[I") (by decide +kernel)) (fun _ h9 => h9) rfl hin2 rfl (by decide +kernel) rfl rfl (Nat.le_of_ble_eq_true rfl) dX10_init_12 (fun H locs hP hD hS => ?_)
  have hP : va_P (dC, dI) vwCl [(h, .inr (10, [.ref (q10), .int (iI 0)])), (q10, .inl (cI, zn, .inl (iA (fun _ => 0))))] H := hP
  have hD : va_D A [(h, .inr (10, [.ref (q10), .int (iI 0)])), (q10, .inl (cI, zn, .inl (iA (fun _ => 0))))] := hD
  have hP9 := hP.sub (ws' := [(h, .inr (10, [.ref (q10), .int (iI 0)])), (q10, .inl (cI, zn, .inl (iA (fun _ => 0))))]) [0, 1] rfl
  have hD9 := hD.sub (ws' := [(h, .inr (10, [.ref (q10), .int (iI 0)])), (q10, .inl (cI, zn, .inl (iA (fun _ => 0))))]) [0, 1] (by decide) rfl
  exact W.vret hx hb hr (fun t ht hW => ⟨⟨(fun k9 => if k9 = 0 then q10 else 0), rfl, trivial, by rw [ht]; exact hP9, va_K.moved hW.alike hK, hD9⟩, hS.F ht⟩) hS.2.2 dX10_init_15
