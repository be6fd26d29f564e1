-- deps: 30
theorem kn_i (cA : ClassId) (n : Nat) : vp_cell cA (n, .inl (iA (fun _ => 0))) = arrV cA n (fun _ => defaultValue .int) := by
  rw [vp_cell_i]
  have e : (fun j : Nat => Value.int (iA (fun _ => 0) j)) = (fun _ => defaultValue .int) := funext fun j => rfl
  rw [e]
theorem kn_z (cA : ClassId) (n : Nat) : vp_cell cA (n, .inl (iA (fun _ => 0))) = arrV cA n (fun _ => defaultValue .boolean) := by
  rw [vp_cell_i]
  have e : (fun j : Nat => Value.int (iA (fun _ => 0) j)) = (fun _ => defaultValue .boolean) := funext fun j => rfl
  rw [e]
theorem kn_j (cA : ClassId) (n : Nat) : vp_cell cA (n, .inr (.inl (iAL (fun _ => 0)))) = arrV cA n (fun _ => defaultValue .long) := by
  rw [vp_cell_l]
  have e : (fun j : Nat => Value.long (iAL (fun _ => 0) j)) = (fun _ => defaultValue .long) := funext fun j => rfl
  rw [e]
theorem kn_b4 {n : Nat} (h : n ≤ 1000000) : n * componentBytes .int ≤ 536870912 := by
  have : componentBytes .int = 4 := rfl
  rw [this]; omega
theorem kn_b1 {n : Nat} (h : n ≤ 1000000) : n * componentBytes .boolean ≤ 536870912 := by
  have : componentBytes .boolean = 1 := rfl
  rw [this]; omega
theorem kn_b8 {n : Nat} (h : n ≤ 1000000) : n * componentBytes .long ≤ 536870912 := by
  have : componentBytes .long = 8 := rfl
  rw [this]; omega
theorem kn_0 {n : Nat} (hN : n ≤ 1000000) : ¬ iI (n : Int) < 0 := by
  have hr : iR (n : Int) := ⟨by omega, by omega⟩
  intro h9
  rw [iI_0, iI_lt hr iR0] at h9
  omega
theorem kn_c {n : Nat} (hN : n ≤ 1000000) : (iI (n : Int)).toNatClampNeg = n := by
  rw [iI_clamp ⟨by omega, by omega⟩]
  exact Int.toNat_natCast n
theorem kn_e {U : State} {D : va_G} {cl : List vw_C} {tys : List (ClassId × FieldType)} {cA cB : ClassId} {t0 : Nat} (ht : tys[t0]? = some (cA, .int)) (h : va_K D cl (tys ++ [(cB, .int)]) U) (h0 : va_K D cl tys U) : cB = cA := by
  have e1 := (h.2 tys.length (cB, .int) (by rw [List.getElem?_append_right (Nat.le_refl _), Nat.sub_self]; rfl)).2
  have e0 := (h0.2 t0 _ ht).2
  exact Option.some.inj (Eq.trans (Eq.symm e1) e0)
theorem kn_ez {U : State} {D : va_G} {cl : List vw_C} {tys : List (ClassId × FieldType)} {cA cB : ClassId} {t0 : Nat} (ht : tys[t0]? = some (cA, .boolean)) (h : va_K D cl (tys ++ [(cB, .boolean)]) U) (h0 : va_K D cl tys U) : cB = cA := by
  have e1 := (h.2 tys.length (cB, .boolean) (by rw [List.getElem?_append_right (Nat.le_refl _), Nat.sub_self]; rfl)).2
  have e0 := (h0.2 t0 _ ht).2
  exact Option.some.inj (Eq.trans (Eq.symm e1) e0)
theorem kn_ej {U : State} {D : va_G} {cl : List vw_C} {tys : List (ClassId × FieldType)} {cA cB : ClassId} {t0 : Nat} (ht : tys[t0]? = some (cA, .long)) (h : va_K D cl (tys ++ [(cB, .long)]) U) (h0 : va_K D cl tys U) : cB = cA := by
  have e1 := (h.2 tys.length (cB, .long) (by rw [List.getElem?_append_right (Nat.le_refl _), Nat.sub_self]; rfl)).2
  have e0 := (h0.2 t0 _ ht).2
  exact Option.some.inj (Eq.trans (Eq.symm e1) e0)
theorem kn_eq {U : State} {D : va_G} {cl : List vw_C} {tys : List (ClassId × FieldType)} {cA cB : ClassId} {C : String} {t0 : Nat} (ht : tys[t0]? = some (cA, .object C)) (h : va_K D cl (tys ++ [(cB, .object C)]) U) (h0 : va_K D cl tys U) : cB = cA := by
  obtain ⟨_, _, _, _, _, e1⟩ := (h.2 tys.length (cB, .object C) (by rw [List.getElem?_append_right (Nat.le_refl _), Nat.sub_self]; rfl)).2
  obtain ⟨_, _, _, _, _, e0⟩ := (h0.2 t0 _ ht).2
  exact Option.some.inj (Eq.trans (Eq.symm e1) e0)
section WN
variable {p : Program} {l : Launch} {e : Env} {R : Room} {s : State} {m : MethodId} {args : Array Value} {below : List Frame} {meth : Method} {c : Code} {H H0 : Heap} {locs : List Loc} {cells slots : Nat} {Q : State → Prop}
variable {cc : ByteArray} {pc : Nat} {ls : Array Slot} {rest : List Value} {D : va_G} {cl : List vw_C} {ws : va_W} {tys : List (ClassId × FieldType)} {A : Nat → Prop}
theorem wk_newI (hx : p.tables.exec = Jvm.exec) (hb : c.code = cc) (harr : (Cond.arrayClass .int).before args s = true) (hK : va_K D cl tys s) (hP : va_P D cl ws H) (hD : va_D A ws) (hS : va_S A H0 H locs) (hA : ∀ q, H0.size ≤ q → A q) (t0 : Nat) {cA : ClassId} (ht : tys[t0]? = some (cA, .int)) {n : Int} {N' : Nat} (hn : n = (N' : Int)) (hN : N' ≤ 1000000) (hcells : cells + 1 ≤ R.cells) (hslots : slots + N' ≤ R.slots) (hdg : decode cc pc = .ok (.newarray .int, 2))
    (kk : ∀ (q : Nat) (H1 : Heap), va_P D cl (ws ++ [(q, .inl (cA, N', .inl (iA (fun _ => 0))))]) H1 → va_D A (ws ++ [(q, .inl (cA, N', .inl (iA (fun _ => 0))))]) → va_S A H0 H1 locs → W p l e R s m args below meth c H1 locs (cells + 1) (slots + N') Q (F0 m (pc + 2) ls (.ref q :: rest))) : W p l e R s m args below meth c H locs cells slots Q (F0 m pc ls (.int (iI n) :: rest)) := by
  subst hn
  exact va_newa (atype := .int) (ty := .int) (N' := N') (a0 := (N', .inl (iA (fun _ => 0)))) hx hb harr rfl hK hP hD hS hA (fun cA => kn_i cA N') (kn_0 hN) (kn_c hN) (kn_b4 hN) hcells hslots hdg (fun q cB H1 hK1 hP1 hD1 hS1 => by have e2 := kn_e ht hK1 hK; subst e2; exact kk q H1 hP1 hD1 hS1)
theorem wk_newZ (hx : p.tables.exec = Jvm.exec) (hb : c.code = cc) (harr : (Cond.arrayClass .boolean).before args s = true) (hK : va_K D cl tys s) (hP : va_P D cl ws H) (hD : va_D A ws) (hS : va_S A H0 H locs) (hA : ∀ q, H0.size ≤ q → A q) (t0 : Nat) {cA : ClassId} (ht : tys[t0]? = some (cA, .boolean)) {n : Int} {N' : Nat} (hn : n = (N' : Int)) (hN : N' ≤ 1000000) (hcells : cells + 1 ≤ R.cells) (hslots : slots + N' ≤ R.slots) (hdg : decode cc pc = .ok (.newarray .boolean, 2))
    (kk : ∀ (q : Nat) (H1 : Heap), va_P D cl (ws ++ [(q, .inl (cA, N', .inl (iA (fun _ => 0))))]) H1 → va_D A (ws ++ [(q, .inl (cA, N', .inl (iA (fun _ => 0))))]) → va_S A H0 H1 locs → W p l e R s m args below meth c H1 locs (cells + 1) (slots + N') Q (F0 m (pc + 2) ls (.ref q :: rest))) : W p l e R s m args below meth c H locs cells slots Q (F0 m pc ls (.int (iI n) :: rest)) := by
  subst hn
  exact va_newa (atype := .boolean) (ty := .boolean) (N' := N') (a0 := (N', .inl (iA (fun _ => 0)))) hx hb harr rfl hK hP hD hS hA (fun cA => kn_z cA N') (kn_0 hN) (kn_c hN) (kn_b1 hN) hcells hslots hdg (fun q cB H1 hK1 hP1 hD1 hS1 => by have e2 := kn_ez ht hK1 hK; subst e2; exact kk q H1 hP1 hD1 hS1)
theorem wk_newJ (hx : p.tables.exec = Jvm.exec) (hb : c.code = cc) (harr : (Cond.arrayClass .long).before args s = true) (hK : va_K D cl tys s) (hP : va_P D cl ws H) (hD : va_D A ws) (hS : va_S A H0 H locs) (hA : ∀ q, H0.size ≤ q → A q) (t0 : Nat) {cA : ClassId} (ht : tys[t0]? = some (cA, .long)) {n : Int} {N' : Nat} (hn : n = (N' : Int)) (hN : N' ≤ 1000000) (hcells : cells + 1 ≤ R.cells) (hslots : slots + N' ≤ R.slots) (hdg : decode cc pc = .ok (.newarray .long, 2))
    (kk : ∀ (q : Nat) (H1 : Heap), va_P D cl (ws ++ [(q, .inl (cA, N', .inr (.inl (iAL (fun _ => 0)))))]) H1 → va_D A (ws ++ [(q, .inl (cA, N', .inr (.inl (iAL (fun _ => 0)))))]) → va_S A H0 H1 locs → W p l e R s m args below meth c H1 locs (cells + 1) (slots + N') Q (F0 m (pc + 2) ls (.ref q :: rest))) : W p l e R s m args below meth c H locs cells slots Q (F0 m pc ls (.int (iI n) :: rest)) := by
  subst hn
  exact va_newa (atype := .long) (ty := .long) (N' := N') (a0 := (N', .inr (.inl (iAL (fun _ => 0))))) hx hb harr rfl hK hP hD hS hA (fun cA => kn_j cA N') (kn_0 hN) (kn_c hN) (kn_b8 hN) hcells hslots hdg (fun q cB H1 hK1 hP1 hD1 hS1 => by have e2 := kn_ej ht hK1 hK; subst e2; exact kk q H1 hP1 hD1 hS1)
end WN
