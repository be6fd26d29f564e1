-- deps: 30 31 32 33 34 36 37
/-- THE MACHINE's rows: small numbers -/
def maR (x : KS) : Prop := (0 ≤ x.1 64 7 ∧ x.1 64 7 ≤ 320) ∧ (∀ j : Nat, 0 ≤ x.2 65 j ∧ x.2 65 j ≤ 40000) ∧ (∀ j : Nat, -1000 ≤ x.2 66 j ∧ x.2 66 j < 320)
def F_a_has (x : KS) (s0 : Int) : Int × KS := (if (s0) < (0) then ((0 : Int), x) else (if ((x).1 (64) 7) ≤ (s0) then ((0 : Int), x) else ((1 : Int), x)))
set_option maxHeartbeats 4000000 in
set_option maxRecDepth 100000 in
/-- LikeWords$Machine, has -/
theorem c_a_has (l : Launch) (dC : Nat → ClassId) (dI : Nat → Nat → Nat) (ad : Nat → Nat) (cI cJ cZ cR : ClassId) (M wl sz : Nat) (x : KS) (s0 : Int) (hM : 87 ≤ M) (rs : iR s0) (ma : maR x) : Met l yX3_has wsX3_has ({ frames := 0, cells := 0, slots := 0, locals := 0 }) (kPc dC dI ad cI cJ cZ cR M wl sz x [.ref (ad 64), .int (iI s0)]) (va_Qi (fun (r : Int32) (u : KS) => r = iI (F_a_has x s0).1 ∧ u = (F_a_has x s0).2) (kAt dC dI ad cI cJ cZ cR M wl (va_A (kWd cI cJ cZ cR wl ad M (x)) sz)) (va_A (kWd cI cJ cZ cR wl ad M (x)) sz)) 0 0 (va_A (kWd cI cJ cZ cR wl ad M (x)) sz) := by
  refine Met.ofW (cc := cX3_has) (maxL := 2) (ret := (some .boolean)) (by decide) rfl ?_
  intro p e s m args below meth c s₁ B hml hv
  obtain ⟨rfl, hsz, hP, hK, hD0, hNw⟩ := hv
  have hx := B.exec
  have hb := B.bytes
  have hr := B.returns
  have hts := atoms_spec (ws := wsX3_has) B.pre
  have hown : s.vm.findClass RX3 = some m.cls := findClass_of_methodNamed B.named
  have hlocks := B.notSynchronized
  have hinX3 : ∀ w ∈ u_ws RX3 TX3 10, w ∈ wsX3_has := by decide +kernel
  subst hsz
  have hD := hD0.self (sz := s.heap.size)
  generalize hAe : va_A (kWd cI cJ cZ cR wl ad M (x)) s.heap.size = A at hD ⊢
  have hA : ∀ q : Nat, s.heap.size ≤ q → A q := fun q h => by rw [← hAe]; exact Or.inr h
  have hS : va_S A s.heap s.heap [] := va_S.rf
  have hl := lv_entry ([.ref (ad 64), .int (iI s0)]) (n := 2) (Nat.le_of_ble_eq_true rfl)
  rw [lg_entry_eq]
  generalize (lg_sl ([.ref (ad 64), .int (iI s0)]) ++ List.replicate (2 - (lg_sl ([.ref (ad 64), .int (iI s0)])).length) Slot.unset).toArray = ls at hl ⊢
  have hl : lv_has ls 2 [(0, .ref (ad (64))), (1, .int (iI (s0)))] := hl
  have ma1 := ma.1
  have key : ∀ (H : Heap) (locs : List Loc), va_P (dC, dI) vwCl (kWd cI cJ cZ cR wl ad M (x)) H → va_S A s.heap H locs → W p l e (headSpec wsX3_has ({ frames := 0, cells := 0, slots := 0, locals := 0 })).room s m ([.ref (ad 64), .int (iI s0)] : List Value).toArray below meth c H locs 0 0 (MQ below (va_Qi (fun (r : Int32) (u : KS) => r = iI (F_a_has x s0).1 ∧ u = (F_a_has x s0).2) (kAt dC dI ad cI cJ cZ cR M wl A) A) ([.ref (ad 64), .int (iI s0)] : List Value).toArray s 0 0 A) (F0 m 0 ls []) := by
    intro H locs hP hS
    have hres : (if (s0) < (0) then ((0 : Int), x) else (if ((x).1 (64) 7) ≤ (s0) then ((0 : Int), x) else ((1 : Int), x))) = F_a_has x s0 := rfl
    refine lv_iload_n hx hb dX3_has_0 rfl (lv_at hl 1 rfl) ?_
    refine wi_if_lt (tgt := 16) hx hb (by first | assumption | (unfold iR; omega) | exact kR01 (by assumption)) dX3_has_1 (by decide) (fun c_1 => ?_) (fun c_1 => ?_)
    · skip
      rw [if_pos c_1] at hres
      refine lv_iconst (v := iI (0 : Int)) hx hb dX3_has_16 (by decide) ?_
      exact W.zret (v := iI ((0 : Int))) hx hb hr (kz _ (by first | assumption | omega)) (fun t ht hW => ⟨⟨iI ((0 : Int)), x, rfl, ⟨(by have h9 := congrArg (fun z : Int × KS => iI z.1) hres; exact h9), (by have h9 := congrArg (fun z : Int × KS => z.2) hres; exact h9)⟩, by rw [ht]; exact hP, va_K.moved hW.alike hK, hD⟩, hS.F ht⟩) hS.2.2 dX3_has_17
    · skip
      rw [if_neg c_1] at hres
      refine lv_iload_n hx hb dX3_has_4 rfl (lv_at hl 1 rfl) ?_
      refine lv_aload_n hx hb dX3_has_5 rfl (lv_at hl 0 rfl) ?_
      refine va_get (D := (dC, dI)) (ci := 3) (v := .int (iI ((x).1 (64) 7))) (C := RX3) (T := TX3) (N := 10) hx hb hts hinX3 hown hK hP (64) (kg64 (by omega)) rfl 7 (by decide) (hts (.fieldLink RX3 36 "LikeWords$Machine" "held" "I") (by decide +kernel)) (fun _ h9 => h9) rfl dX3_has_6 ?_
      refine wi_icmp_ge (tgt := 16) hx hb (by first | assumption | (unfold iR; omega) | exact kR01 (by assumption)) (by first | assumption | (unfold iR; omega) | exact kR01 (by assumption)) dX3_has_9 (by decide) (fun c_9 => ?_) (fun c_9 => ?_)
      · skip
        rw [if_pos c_9] at hres
        refine lv_iconst (v := iI (0 : Int)) hx hb dX3_has_16 (by decide) ?_
        exact W.zret (v := iI ((0 : Int))) hx hb hr (kz _ (by first | assumption | omega)) (fun t ht hW => ⟨⟨iI ((0 : Int)), x, rfl, ⟨(by have h9 := congrArg (fun z : Int × KS => iI z.1) hres; exact h9), (by have h9 := congrArg (fun z : Int × KS => z.2) hres; exact h9)⟩, by rw [ht]; exact hP, va_K.moved hW.alike hK, hD⟩, hS.F ht⟩) hS.2.2 dX3_has_17
      · skip
        rw [if_neg c_9] at hres
        refine lv_iconst (v := iI (1 : Int)) hx hb dX3_has_12 (by decide) ?_
        refine lv_goto (tgt := 17) hx hb dX3_has_13 (by decide) ?_
        exact W.zret (v := iI ((1 : Int))) hx hb hr (kz _ (by first | assumption | omega)) (fun t ht hW => ⟨⟨iI ((1 : Int)), x, rfl, ⟨(by have h9 := congrArg (fun z : Int × KS => iI z.1) hres; exact h9), (by have h9 := congrArg (fun z : Int × KS => z.2) hres; exact h9)⟩, by rw [ht]; exact hP, va_K.moved hW.alike hK, hD⟩, hS.F ht⟩) hS.2.2 dX3_has_17
  exact key _ _ hP hS
theorem F_a_has_fr (x : KS) (s0 : Int) : ksame [] [] x (F_a_has x s0).2 := by
  unfold F_a_has
  by_cases hc : (s0) < (0)
  · rw [if_pos hc]
    exact (km_rf _ _ _)
  · rw [if_neg hc]
    by_cases hc : ((x).1 (64) 7) ≤ (s0)
    · rw [if_pos hc]
      exact (km_rf _ _ _)
    · rw [if_neg hc]
      exact (km_rf _ _ _)
theorem F_a_has_2 (x : KS) (s0 : Int) : (F_a_has x s0).2 = x := km_nil (F_a_has_fr x s0)
def F_a_letterCount (x : KS)  : Int × KS := ((x).1 (1) 2, x)
set_option maxHeartbeats 4000000 in
set_option maxRecDepth 100000 in
/-- LikeWords$Machine, letterCount -/
theorem c_a_letterCount (l : Launch) (dC : Nat → ClassId) (dI : Nat → Nat → Nat) (ad : Nat → Nat) (cI cJ cZ cR : ClassId) (M wl sz : Nat) (x : KS)  (hM : 87 ≤ M)  : Met l yX3_letterCount wsX3_letterCount ({ frames := 0, cells := 0, slots := 0, locals := 0 }) (kPc dC dI ad cI cJ cZ cR M wl sz x [.ref (ad 64)]) (va_Qi (fun (r : Int32) (u : KS) => r = iI (F_a_letterCount x).1 ∧ u = (F_a_letterCount x).2) (kAt dC dI ad cI cJ cZ cR M wl (va_A (kWd cI cJ cZ cR wl ad M (x)) sz)) (va_A (kWd cI cJ cZ cR wl ad M (x)) sz)) 0 0 (va_A (kWd cI cJ cZ cR wl ad M (x)) sz) := by
  refine Met.ofW (cc := cX3_letterCount) (maxL := 1) (ret := (some .int)) (by decide) rfl ?_
  intro p e s m args below meth c s₁ B hml hv
  obtain ⟨rfl, hsz, hP, hK, hD0, hNw⟩ := hv
  have hx := B.exec
  have hb := B.bytes
  have hr := B.returns
  have hts := atoms_spec (ws := wsX3_letterCount) B.pre
  have hown : s.vm.findClass RX3 = some m.cls := findClass_of_methodNamed B.named
  have hlocks := B.notSynchronized
  have hinX3 : ∀ w ∈ u_ws RX3 TX3 10, w ∈ wsX3_letterCount := by decide +kernel
  have hinX8 : ∀ w ∈ u_ws RX8 TX8 4, w ∈ wsX3_letterCount := by decide +kernel
  subst hsz
  have hD := hD0.self (sz := s.heap.size)
  generalize hAe : va_A (kWd cI cJ cZ cR wl ad M (x)) s.heap.size = A at hD ⊢
  have hA : ∀ q : Nat, s.heap.size ≤ q → A q := fun q h => by rw [← hAe]; exact Or.inr h
  have hS : va_S A s.heap s.heap [] := va_S.rf
  have hl := lv_entry ([.ref (ad 64)]) (n := 1) (Nat.le_of_ble_eq_true rfl)
  rw [lg_entry_eq]
  generalize (lg_sl ([.ref (ad 64)]) ++ List.replicate (1 - (lg_sl ([.ref (ad 64)])).length) Slot.unset).toArray = ls at hl ⊢
  have hl : lv_has ls 1 [(0, .ref (ad (64)))] := hl
  have key : ∀ (H : Heap) (locs : List Loc), va_P (dC, dI) vwCl (kWd cI cJ cZ cR wl ad M (x)) H → va_S A s.heap H locs → W p l e (headSpec wsX3_letterCount ({ frames := 0, cells := 0, slots := 0, locals := 0 })).room s m ([.ref (ad 64)] : List Value).toArray below meth c H locs 0 0 (MQ below (va_Qi (fun (r : Int32) (u : KS) => r = iI (F_a_letterCount x).1 ∧ u = (F_a_letterCount x).2) (kAt dC dI ad cI cJ cZ cR M wl A) A) ([.ref (ad 64)] : List Value).toArray s 0 0 A) (F0 m 0 ls []) := by
    intro H locs hP hS
    have hres : ((x).1 (1) 2, x) = F_a_letterCount x := rfl
    refine lv_aload_n hx hb dX3_letterCount_0 rfl (lv_at hl 0 rfl) ?_
    refine va_get (D := (dC, dI)) (ci := 3) (v := .ref (ad (1))) (C := RX3) (T := TX3) (N := 10) hx hb hts hinX3 hown hK hP (64) (kg64 (by omega)) rfl 0 (by decide) (hts (.fieldLink RX3 9 "LikeWords$Machine" "scale" "LLikeWords$Scale;") (by decide +kernel)) (fun _ h9 => h9) rfl dX3_letterCount_1 ?_
    refine va_get (D := (dC, dI)) (ci := 8) (v := .int (iI ((x).1 (1) 2))) (C := RX8) (T := TX8) (N := 4) hx hb hts hinX8 hown hK hP (1) (kg1 (by omega)) rfl 2 (by decide) (hts (.fieldLink RX3 40 "LikeWords$Scale" "letterCount" "I") (by decide +kernel)) (fun _ h9 => h9) rfl dX3_letterCount_4 ?_
    exact W.iret (v := iI ((x).1 (1) 2)) hx hb hr (fun t ht hW => ⟨⟨iI ((x).1 (1) 2), x, rfl, ⟨(by have h9 := congrArg (fun z : Int × KS => iI z.1) hres; exact h9), (by have h9 := congrArg (fun z : Int × KS => z.2) hres; exact h9)⟩, by rw [ht]; exact hP, va_K.moved hW.alike hK, hD⟩, hS.F ht⟩) hS.2.2 dX3_letterCount_7
  exact key _ _ hP hS
theorem F_a_letterCount_fr (x : KS)  : ksame [] [] x (F_a_letterCount x).2 := by
  unfold F_a_letterCount
  exact (km_rf _ _ _)
theorem F_a_letterCount_2 (x : KS)  : (F_a_letterCount x).2 = x := km_nil (F_a_letterCount_fr x)
theorem kmul4 {a b : Int} (h1 : 1 ≤ b) (h4 : b ≤ 4) (h2 : -100000 ≤ a) (h3 : a ≤ 100000) : a * b ≤ 400000 ∧ -400000 ≤ a * b := by
  have : b = 1 ∨ b = 2 ∨ b = 3 ∨ b = 4 := by omega
  rcases this with e | e | e | e <;> subst e <;> omega
theorem F_t_placeOf_s_b (a1 : Nat) (e1 v : Int) : ∀ (n : Nat) (x : KS) (lo hi : Int), 0 ≤ lo → lo ≤ hi → hi ≤ e1 → hi - lo < n → -1 - e1 ≤ (F_t_placeOf_s a1 n 0 x e1 v lo hi).1 ∧ (F_t_placeOf_s a1 n 0 x e1 v lo hi).1 < max e1 1 := by
  intro n
  induction n with
  | zero => intro x lo hi h0 h1 h2 h3; exfalso; omega
  | succ n ih =>
    intro x lo hi h0 h1 h2 h3
    rw [F_t_placeOf_e0]
    repeat' split
    all_goals first | exact ih _ _ _ (by omega) (by omega) (by omega) (by omega) | (constructor <;> (show _ ; omega))
theorem F_t_placeOf_b {a1 : Nat} {e1 v : Int} (h : 0 ≤ e1) (x : KS) (he : e1 ≤ 100000 := by omega) : -1 - e1 ≤ (F_t_placeOf x a1 e1 v).1 ∧ (F_t_placeOf x a1 e1 v).1 < max e1 1 := by
  unfold F_t_placeOf
  exact F_t_placeOf_s_b a1 e1 v _ x 0 _ (by omega) (by omega) (by omega) (by omega)
def F_a_keep_s  : Nat → Nat → KS → Int → Int → Int → Int × KS
  | 0, _, x, _, _, _ => (0, x)
  | n + 1, t, x, p0, p1, p2 => match t with
    | 0 => (fun (v : Int) (p0 : Int) (i : Int) => (if (i) ≤ (p0) then (0, kS (kA (x) (65) (p0).toNat (v)) (64) 7 (((x).1 (64) 7) + ((1 : Int)))) else F_a_keep_s n 0 (kA (x) (65) (i).toNat (((x).2 (65)) ((i) - ((1 : Int))).toNat)) (v) (p0) ((i) + (-1 : Int)))) p0 p1 p2
    | _ => (0, x)
theorem F_a_keep_e0  (n : Nat) (x : KS) (v : Int) (p0 : Int) (i : Int) : F_a_keep_s (n + 1) 0 x v p0 i = (if (i) ≤ (p0) then (0, kS (kA (x) (65) (p0).toNat (v)) (64) 7 (((x).1 (64) 7) + ((1 : Int)))) else F_a_keep_s n 0 (kA (x) (65) (i).toNat (((x).2 (65)) ((i) - ((1 : Int))).toNat)) (v) (p0) ((i) + (-1 : Int))) := rfl
def F_a_keep (x : KS) (v : Int) : Int × KS := (if ((320 : Int)) ≤ ((x).1 (64) 7) then (if (((-1 : Int)) - ((F_t_placeOf (x) (65) ((x).1 (64) 7) (v)).1)) < (0) then (0, x) else (if ((0 : Int)) = (0) then (0, x) else F_a_keep_s 400 0 (x) (v) (((-1 : Int)) - ((F_t_placeOf (x) (65) ((x).1 (64) 7) (v)).1)) ((x).1 (64) 7))) else (if ((640 : Int)) < ((((x).1 (64) 7) + ((1 : Int))) * ((x).1 (1) 2)) then (if (((-1 : Int)) - ((F_t_placeOf (x) (65) ((x).1 (64) 7) (v)).1)) < (0) then (0, x) else (if ((0 : Int)) = (0) then (0, x) else F_a_keep_s 400 0 (x) (v) (((-1 : Int)) - ((F_t_placeOf (x) (65) ((x).1 (64) 7) (v)).1)) ((x).1 (64) 7))) else (if (((-1 : Int)) - ((F_t_placeOf (x) (65) ((x).1 (64) 7) (v)).1)) < (0) then (0, x) else (if ((1 : Int)) = (0) then (0, x) else F_a_keep_s 400 0 (x) (v) (((-1 : Int)) - ((F_t_placeOf (x) (65) ((x).1 (64) 7) (v)).1)) ((x).1 (64) 7)))))
set_option maxHeartbeats 4000000 in
set_option maxRecDepth 100000 in
/-- LikeWords$Machine, keep -/
theorem c_a_keep (l : Launch) (dC : Nat → ClassId) (dI : Nat → Nat → Nat) (ad : Nat → Nat) (cI cJ cZ cR : ClassId) (M wl sz : Nat) (x : KS) (v : Int) (hM : 87 ≤ M) (rv : iR v) (ma : maR x) (l2 : 1 ≤ x.1 1 2 ∧ x.1 1 2 ≤ 4) : Met l yX3_keep wsX3_keep ({ frames := 2, cells := 0, slots := 0, locals := 46 }) (kPc dC dI ad cI cJ cZ cR M wl sz x [.ref (ad 64), .int (iI v)]) (va_Qv (fun u : KS => u = (F_a_keep x v).2) (kAt dC dI ad cI cJ cZ cR M wl (va_A (kWd cI cJ cZ cR wl ad M (x)) sz)) (va_A (kWd cI cJ cZ cR wl ad M (x)) sz)) 0 0 (va_A (kWd cI cJ cZ cR wl ad M (x)) sz) := by
  refine Met.ofW (cc := cX3_keep) (maxL := 5) (ret := none) (by decide) rfl ?_
  intro p e s m args below meth c s₁ B hml hv
  obtain ⟨rfl, hsz, hP, hK, hD0, hNw⟩ := hv
  have hx := B.exec
  have hb := B.bytes
  have hr := B.returns
  have hts := atoms_spec (ws := wsX3_keep) B.pre
  have hown : s.vm.findClass RX3 = some m.cls := findClass_of_methodNamed B.named
  have hlocks := B.notSynchronized
  have hinX3 : ∀ w ∈ u_ws RX3 TX3 10, w ∈ wsX3_keep := by decide +kernel
  have hinX8 : ∀ w ∈ u_ws RX8 TX8 4, w ∈ wsX3_keep := by decide +kernel
  subst hsz
  have hD := hD0.self (sz := s.heap.size)
  generalize hAe : va_A (kWd cI cJ cZ cR wl ad M (x)) s.heap.size = A at hD ⊢
  have hA : ∀ q : Nat, s.heap.size ≤ q → A q := fun q h => by rw [← hAe]; exact Or.inr h
  have hS : va_S A s.heap s.heap [] := va_S.rf
  have hl := lv_entry ([.ref (ad 64), .int (iI v)]) (n := 5) (Nat.le_of_ble_eq_true rfl)
  rw [lg_entry_eq]
  generalize (lg_sl ([.ref (ad 64), .int (iI v)]) ++ List.replicate (5 - (lg_sl ([.ref (ad 64), .int (iI v)])).length) Slot.unset).toArray = ls at hl ⊢
  have hl : lv_has ls 5 [(0, .ref (ad (64))), (1, .int (iI (v)))] := hl
  obtain ⟨ma1, ma2, ma3⟩ := id ma
  have pb := F_t_placeOf_b (a1 := 65) (v := v) ma1.1 x
  have n1 : (x.1 64 7 + 1) * 1 ≤ (x.1 64 7 + 1) * x.1 1 2 := Int.mul_le_mul_of_nonneg_left l2.1 (by omega)
  have n2 : (x.1 64 7 + 1) * x.1 1 2 ≤ (x.1 64 7 + 1) * 4 := Int.mul_le_mul_of_nonneg_left l2.2 (by omega)
  have L : ∀ n : Nat, (∀ (y : KS) (p0 : Int) (i : Int), (0 ≤ p0) → (p0 ≤ i) → (i < 320) → (i - p0 < n) → F_a_keep_s n 0 y v p0 i = F_a_keep x v → ∀ (H : Heap) (locs : List Loc) (ls : Array Slot), va_P (dC, dI) vwCl (kWd cI cJ cZ cR wl ad M (y)) H → va_D A (kWd cI cJ cZ cR wl ad M (y)) → va_S A s.heap H locs → lv_has ls 5 [(0, .ref (ad (64))), (1, .int (iI (v))), (2, .int (iI (p0))), (4, .int (iI (i)))] → W p l e (headSpec wsX3_keep ({ frames := 2, cells := 0, slots := 0, locals := 46 })).room s m ([.ref (ad 64), .int (iI v)] : List Value).toArray below meth c H locs 0 0 (MQ below (va_Qv (fun u : KS => u = (F_a_keep x v).2) (kAt dC dI ad cI cJ cZ cR M wl A) A) ([.ref (ad 64), .int (iI v)] : List Value).toArray s 0 0 A) (F0 m 66 ls [])) := by
    intro n
    induction n with
    | zero =>
      skip
      · intro y p0 i ph i0 i1 fu hres
        exact absurd fu (by omega)
    | succ n ih =>
      skip
      · intro y p0 i ph i0 i1 fu hres H locs ls hP hD hS hl
        rw [F_a_keep_e0] at hres
        refine lv_iload hx hb dX3_keep_66 (lv_at hl 3 rfl) ?_
        refine lv_iload_n hx hb dX3_keep_68 rfl (lv_at hl 2 rfl) ?_
        refine wi_icmp_le (tgt := 94) hx hb (by first | assumption | (unfold iR; omega) | exact kR01 (by assumption)) (by first | assumption | (unfold iR; omega) | exact kR01 (by assumption)) dX3_keep_69 (by decide) (fun c_69 => ?_) (fun c_69 => ?_)
        · skip
          rw [if_pos c_69] at hres
          refine lv_aload_n hx hb dX3_keep_94 rfl (lv_at hl 0 rfl) ?_
          refine va_get (D := (dC, dI)) (ci := 3) (v := .ref (ad (65))) (C := RX3) (T := TX3) (N := 10) hx hb hts hinX3 hown hK hP (64) (kg64 (by omega)) rfl 2 (by decide) (hts (.fieldLink RX3 19 "LikeWords$Machine" "numbers" "[I") (by decide +kernel)) (fun _ h9 => h9) rfl dX3_keep_95 ?_
          refine lv_iload_n hx hb dX3_keep_98 rfl (lv_at hl 2 rfl) ?_
          refine lv_iload_n hx hb dX3_keep_99 rfl (lv_at hl 1 rfl) ?_
          refine wi_iast (f := (y).2 (65)) (n := kLen (65)) hx hb hK hP hD hS (65) 0 (kgi kC65 (by omega) rfl) rfl (i := p0) (x := v) (by omega) (by show _ < ((320 : Nat) : Int); exact (by omega)) (kLen_lt _) dX3_keep_100 (fun H locs hP hD hS => ?_)
          rw [ksi kC65] at hP hD
          refine lv_aload_n hx hb dX3_keep_101 rfl (lv_at hl 0 rfl) ?_
          refine lv_dup hx hb dX3_keep_102 rfl ?_
          refine va_get (D := (dC, dI)) (ci := 3) (v := .int (iI ((y).1 (64) 7))) (C := RX3) (T := TX3) (N := 10) hx hb hts hinX3 hown hK hP (64) (kg64 (by omega)) rfl 7 (by decide) (hts (.fieldLink RX3 36 "LikeWords$Machine" "held" "I") (by decide +kernel)) (fun _ h9 => h9) rfl dX3_keep_103 ?_
          refine lv_iconst (v := iI (1 : Int)) hx hb dX3_keep_106 (by decide) ?_
          refine wi_iadd hx hb dX3_keep_107 ?_
          refine va_put (D := (dC, dI)) (ci := 3) (v := .int (iI (((y).1 (64) 7) + ((1 : Int))))) (ty := .int) (C := RX3) (T := TX3) (N := 10) hx hb hts hinX3 tyX3 tyX3_ok nmX3 hown hK hP hD hS (64) (kg64 (by omega)) rfl 7 (by decide) (hts (.fieldLink RX3 36 "LikeWords$Machine" "held" "I") (by decide +kernel)) (fun _ h9 => h9) rfl (by decide +kernel) rfl rfl (Nat.le_of_ble_eq_true rfl) dX3_keep_108 (fun H locs hP hD hS => ?_)
          rw [ks64_7] at hP hD
          exact W.vret hx hb hr (fun t ht hW => ⟨⟨kS (kA (y) (65) (p0).toNat (v)) (64) 7 (((y).1 (64) 7) + ((1 : Int))), rfl, (by have h9 := congrArg (fun z : Int × KS => z.2) hres; exact h9), by rw [ht]; exact hP, va_K.moved hW.alike hK, hD⟩, hS.F ht⟩) hS.2.2 dX3_keep_111
        · skip
          rw [if_neg c_69] at hres
          refine lv_aload_n hx hb dX3_keep_72 rfl (lv_at hl 0 rfl) ?_
          refine va_get (D := (dC, dI)) (ci := 3) (v := .ref (ad (65))) (C := RX3) (T := TX3) (N := 10) hx hb hts hinX3 hown hK hP (64) (kg64 (by omega)) rfl 2 (by decide) (hts (.fieldLink RX3 19 "LikeWords$Machine" "numbers" "[I") (by decide +kernel)) (fun _ h9 => h9) rfl dX3_keep_73 ?_
          refine lv_iload hx hb dX3_keep_76 (lv_at hl 3 rfl) ?_
          refine lv_aload_n hx hb dX3_keep_78 rfl (lv_at hl 0 rfl) ?_
          refine va_get (D := (dC, dI)) (ci := 3) (v := .ref (ad (65))) (C := RX3) (T := TX3) (N := 10) hx hb hts hinX3 hown hK hP (64) (kg64 (by omega)) rfl 2 (by decide) (hts (.fieldLink RX3 19 "LikeWords$Machine" "numbers" "[I") (by decide +kernel)) (fun _ h9 => h9) rfl dX3_keep_79 ?_
          refine lv_iload hx hb dX3_keep_82 (lv_at hl 3 rfl) ?_
          refine lv_iconst (v := iI (1 : Int)) hx hb dX3_keep_84 (by decide) ?_
          refine wi_isub hx hb dX3_keep_85 ?_
          refine wi_iald (f := (y).2 (65)) (n := kLen (65)) hx hb hK hP (65) 0 (kgi kC65 (by omega) rfl) rfl (i := (i) - ((1 : Int))) (by omega) (by show _ < ((320 : Nat) : Int); exact (by omega)) (kLen_lt _) dX3_keep_86 ?_
          refine wi_iast (f := (y).2 (65)) (n := kLen (65)) hx hb hK hP hD hS (65) 0 (kgi kC65 (by omega) rfl) rfl (i := i) (x := ((y).2 (65)) ((i) - ((1 : Int))).toNat) (by omega) (by show _ < ((320 : Nat) : Int); exact (by omega)) (kLen_lt _) dX3_keep_87 (fun H locs hP hD hS => ?_)
          rw [ksi kC65] at hP hD
          refine lv_iinc (v := iI ((i) + (-1 : Int))) (lv' := [(4, .int (iI ((i) + (-1 : Int)))), (0, .ref (ad (64))), (1, .int (iI (v))), (2, .int (iI (p0)))]) hx hb dX3_keep_88 hl (k := 3) rfl (iI_add _ _) (by decide) rfl (fun ls hl => ?_)
          refine lv_goto (tgt := 66) hx hb dX3_keep_91 (by decide) ?_
          exact ih (kA (y) (65) (i).toNat (((y).2 (65)) ((i) - ((1 : Int))).toNat)) (p0) ((i) + (-1 : Int)) (ph) (by omega) (by omega) (by omega) hres _ _ ls hP hD hS (lv_sub hl [1, 2, 3, 0] rfl)
  have key : ∀ (H : Heap) (locs : List Loc), va_P (dC, dI) vwCl (kWd cI cJ cZ cR wl ad M (x)) H → va_S A s.heap H locs → W p l e (headSpec wsX3_keep ({ frames := 2, cells := 0, slots := 0, locals := 46 })).room s m ([.ref (ad 64), .int (iI v)] : List Value).toArray below meth c H locs 0 0 (MQ below (va_Qv (fun u : KS => u = (F_a_keep x v).2) (kAt dC dI ad cI cJ cZ cR M wl A) A) ([.ref (ad 64), .int (iI v)] : List Value).toArray s 0 0 A) (F0 m 0 ls []) := by
    intro H locs hP hS
    have hres : (if ((320 : Int)) ≤ ((x).1 (64) 7) then (if (((-1 : Int)) - ((F_t_placeOf (x) (65) ((x).1 (64) 7) (v)).1)) < (0) then (0, x) else (if ((0 : Int)) = (0) then (0, x) else F_a_keep_s 400 0 (x) (v) (((-1 : Int)) - ((F_t_placeOf (x) (65) ((x).1 (64) 7) (v)).1)) ((x).1 (64) 7))) else (if ((640 : Int)) < ((((x).1 (64) 7) + ((1 : Int))) * ((x).1 (1) 2)) then (if (((-1 : Int)) - ((F_t_placeOf (x) (65) ((x).1 (64) 7) (v)).1)) < (0) then (0, x) else (if ((0 : Int)) = (0) then (0, x) else F_a_keep_s 400 0 (x) (v) (((-1 : Int)) - ((F_t_placeOf (x) (65) ((x).1 (64) 7) (v)).1)) ((x).1 (64) 7))) else (if (((-1 : Int)) - ((F_t_placeOf (x) (65) ((x).1 (64) 7) (v)).1)) < (0) then (0, x) else (if ((1 : Int)) = (0) then (0, x) else F_a_keep_s 400 0 (x) (v) (((-1 : Int)) - ((F_t_placeOf (x) (65) ((x).1 (64) 7) (v)).1)) ((x).1 (64) 7))))) = F_a_keep x v := rfl
    refine lv_iconst (v := iI (-1 : Int)) hx hb dX3_keep_0 (by decide) ?_
    refine lv_aload_n hx hb dX3_keep_1 rfl (lv_at hl 0 rfl) ?_
    refine va_get (D := (dC, dI)) (ci := 3) (v := .ref (ad (65))) (C := RX3) (T := TX3) (N := 10) hx hb hts hinX3 hown hK hP (64) (kg64 (by omega)) rfl 2 (by decide) (hts (.fieldLink RX3 19 "LikeWords$Machine" "numbers" "[I") (by decide +kernel)) (fun _ h9 => h9) rfl dX3_keep_2 ?_
    refine lv_aload_n hx hb dX3_keep_5 rfl (lv_at hl 0 rfl) ?_
    refine va_get (D := (dC, dI)) (ci := 3) (v := .int (iI ((x).1 (64) 7))) (C := RX3) (T := TX3) (N := 10) hx hb hts hinX3 hown hK hP (64) (kg64 (by omega)) rfl 7 (by decide) (hts (.fieldLink RX3 36 "LikeWords$Machine" "held" "I") (by decide +kernel)) (fun _ h9 => h9) rfl dX3_keep_6 ?_
    refine lv_iload_n hx hb dX3_keep_9 rfl (lv_at hl 1 rfl) ?_
    have hFc : ∀ q, va_A (kWd cI cJ cZ cR wl ad M (x)) H.size q → A q := fun q hq => Or.elim hq (fun ⟨k, e, hk⟩ => hD.2 k (q, e) hk) (fun hk => hA q (Nat.le_trans hS.1 hk))
    refine va_calli (va_runSN (As := [.ref (ad (65)), .int (iI ((x).1 (64) 7)), .int (iI (v))]) (rest := [.int (iI ((-1 : Int)))]) ⟨hx, hb, hml, hown, hts⟩ (c_t_placeOf l dC dI ad cI cJ cZ cR M wl H.size (x) (65) ((x).1 (64) 7) (v) hM kC65 (by omega) ma1.1 (by omega) rv (fun j => by have := ma2 j; unfold iR; omega) (by decide)) ⟨va_cnB 3 hts gX3_keep_X11_placeOf_n69 rfl rfl rfl hNw.2.1 (hts (.initialized RX11) (by decide +kernel)) (by decide +kernel) ⟨Nat.le_of_ble_eq_true rfl, Nat.le_of_ble_eq_true rfl⟩, hts (.static yX11_placeOf) (by decide +kernel), trivial⟩ ⟨fun a U g mk q => by obtain ⟨q0, q1, qP, qK, qD, qN⟩ := q; exact ⟨q0, q1, qP, va_K.moved (u := U) (U := U.calling g mk a) (Vm.Alike.refl U.vm) qK, qD, kNw.same (u := U) (U := U.calling g mk a) rfl qN⟩, fun U hU hW => ⟨rfl, by rw [hU], by rw [hU]; exact hP, va_K.moved hW.alike hK, hD.weaken (fun _ _ _ _ => trivial), kNw.warm hW hNw⟩⟩ rfl rfl hl.1 rfl (lv_room (Nat.le_of_ble_eq_true rfl)) dX3_keep_10 ⟨Nat.le_of_ble_eq_true rfl, Nat.le_of_ble_eq_true rfl⟩) hS (fun q _ h => hFc q h) hFc (fun r9 u9 t H1 locs ht hvm hw hB hz1 hk1 hS => ?_)
    obtain ⟨hP1, hK1, hD1⟩ := hB
    rw [ht] at hP1
    obtain ⟨hw1, hw2⟩ := hw
    rw [hw2] at hP1 hD1
    rw [hw1]
    rw [F_t_placeOf_2] at hP1 hD1
    have hD2 := hD1.weaken (B := A) (fun _ q _ h => hFc q.1 h)
    have hP := hP1
    have hD := hD2
    generalize H1 = H at hP hS ⊢
    refine wi_isub hx hb dX3_keep_13 ?_
    refine lv_istore_n (lv' := [(2, .int (iI (((-1 : Int)) - ((F_t_placeOf (x) (65) ((x).1 (64) 7) (v)).1)))), (0, .ref (ad (64))), (1, .int (iI (v)))]) hx hb dX3_keep_14 rfl hl (by decide) rfl (fun ls hl => ?_)
    refine lv_aload_n hx hb dX3_keep_15 rfl (lv_at hl 1 rfl) ?_
    refine va_get (D := (dC, dI)) (ci := 3) (v := .int (iI ((x).1 (64) 7))) (C := RX3) (T := TX3) (N := 10) hx hb hts hinX3 hown hK hP (64) (kg64 (by omega)) rfl 7 (by decide) (hts (.fieldLink RX3 36 "LikeWords$Machine" "held" "I") (by decide +kernel)) (fun _ h9 => h9) rfl dX3_keep_16 ?_
    refine lv_sipush (v := iI (320 : Int)) hx hb dX3_keep_19 (by decide) ?_
    refine wi_icmp_ge (tgt := 49) hx hb (by first | assumption | (unfold iR; omega) | exact kR01 (by assumption)) ⟨by decide, by decide⟩ dX3_keep_22 (by decide) (fun c_22 => ?_) (fun c_22 => ?_)
    · skip
      rw [if_pos c_22] at hres
      refine lv_iconst (v := iI (0 : Int)) hx hb dX3_keep_49 (by decide) ?_
      refine lv_istore_n (lv' := [(3, .int (iI ((0 : Int)))), (2, .int (iI (((-1 : Int)) - ((F_t_placeOf (x) (65) ((x).1 (64) 7) (v)).1)))), (0, .ref (ad (64))), (1, .int (iI (v)))]) hx hb dX3_keep_50 rfl hl (by decide) rfl (fun ls hl => ?_)
      refine lv_iload_n hx hb dX3_keep_51 rfl (lv_at hl 1 rfl) ?_
      refine wi_if_lt (tgt := 59) hx hb (by first | assumption | (unfold iR; omega) | exact kR01 (by assumption)) dX3_keep_52 (by decide) (fun c_52 => ?_) (fun c_52 => ?_)
      · skip
        rw [if_pos c_52] at hres
        exact W.vret hx hb hr (fun t ht hW => ⟨⟨x, rfl, (by have h9 := congrArg (fun z : Int × KS => z.2) hres; exact h9), by rw [ht]; exact hP, va_K.moved hW.alike hK, hD⟩, hS.F ht⟩) hS.2.2 dX3_keep_59
      · skip
        rw [if_neg c_52] at hres
        refine lv_iload_n hx hb dX3_keep_55 rfl (lv_at hl 0 rfl) ?_
        refine wi_if_ne (tgt := 60) hx hb ⟨by decide, by decide⟩ dX3_keep_56 (by decide) (fun c_56 => ?_) (fun c_56 => ?_)
        · skip
          rw [if_neg c_56] at hres
          refine lv_aload_n hx hb dX3_keep_60 rfl (lv_at hl 2 rfl) ?_
          refine va_get (D := (dC, dI)) (ci := 3) (v := .int (iI ((x).1 (64) 7))) (C := RX3) (T := TX3) (N := 10) hx hb hts hinX3 hown hK hP (64) (kg64 (by omega)) rfl 7 (by decide) (hts (.fieldLink RX3 36 "LikeWords$Machine" "held" "I") (by decide +kernel)) (fun _ h9 => h9) rfl dX3_keep_61 ?_
          refine lv_istore (lv' := [(4, .int (iI ((x).1 (64) 7))), (3, .int (iI ((0 : Int)))), (2, .int (iI (((-1 : Int)) - ((F_t_placeOf (x) (65) ((x).1 (64) 7) (v)).1)))), (0, .ref (ad (64))), (1, .int (iI (v)))]) hx hb dX3_keep_64 hl (by decide) rfl (fun ls hl => ?_)
          exact (L (400)) (x) (((-1 : Int)) - ((F_t_placeOf (x) (65) ((x).1 (64) 7) (v)).1)) ((x).1 (64) 7) (by omega) (by omega) (by omega) (by omega) hres _ _ ls hP hD hS (lv_sub hl [3, 4, 2, 0] rfl)
        · skip
          rw [if_pos c_56] at hres
          exact W.vret hx hb hr (fun t ht hW => ⟨⟨x, rfl, (by have h9 := congrArg (fun z : Int × KS => z.2) hres; exact h9), by rw [ht]; exact hP, va_K.moved hW.alike hK, hD⟩, hS.F ht⟩) hS.2.2 dX3_keep_59
    · skip
      rw [if_neg c_22] at hres
      refine lv_aload_n hx hb dX3_keep_25 rfl (lv_at hl 1 rfl) ?_
      refine va_get (D := (dC, dI)) (ci := 3) (v := .int (iI ((x).1 (64) 7))) (C := RX3) (T := TX3) (N := 10) hx hb hts hinX3 hown hK hP (64) (kg64 (by omega)) rfl 7 (by decide) (hts (.fieldLink RX3 36 "LikeWords$Machine" "held" "I") (by decide +kernel)) (fun _ h9 => h9) rfl dX3_keep_26 ?_
      refine lv_iconst (v := iI (1 : Int)) hx hb dX3_keep_29 (by decide) ?_
      refine wi_iadd hx hb dX3_keep_30 ?_
      refine lv_aload_n hx hb dX3_keep_31 rfl (lv_at hl 1 rfl) ?_
      refine va_get (D := (dC, dI)) (ci := 3) (v := .ref (ad (1))) (C := RX3) (T := TX3) (N := 10) hx hb hts hinX3 hown hK hP (64) (kg64 (by omega)) rfl 0 (by decide) (hts (.fieldLink RX3 9 "LikeWords$Machine" "scale" "LLikeWords$Scale;") (by decide +kernel)) (fun _ h9 => h9) rfl dX3_keep_32 ?_
      refine va_get (D := (dC, dI)) (ci := 8) (v := .int (iI ((x).1 (1) 2))) (C := RX8) (T := TX8) (N := 4) hx hb hts hinX8 hown hK hP (1) (kg1 (by omega)) rfl 2 (by decide) (hts (.fieldLink RX3 40 "LikeWords$Scale" "letterCount" "I") (by decide +kernel)) (fun _ h9 => h9) rfl dX3_keep_35 ?_
      refine wi_imul hx hb dX3_keep_38 ?_
      refine lv_sipush (v := iI (640 : Int)) hx hb dX3_keep_39 (by decide) ?_
      refine wi_icmp_gt (tgt := 49) hx hb (by first | assumption | (unfold iR; omega) | exact kR01 (by assumption)) ⟨by decide, by decide⟩ dX3_keep_42 (by decide) (fun c_42 => ?_) (fun c_42 => ?_)
      · skip
        rw [if_pos c_42] at hres
        refine lv_iconst (v := iI (0 : Int)) hx hb dX3_keep_49 (by decide) ?_
        refine lv_istore_n (lv' := [(3, .int (iI ((0 : Int)))), (2, .int (iI (((-1 : Int)) - ((F_t_placeOf (x) (65) ((x).1 (64) 7) (v)).1)))), (0, .ref (ad (64))), (1, .int (iI (v)))]) hx hb dX3_keep_50 rfl hl (by decide) rfl (fun ls hl => ?_)
        refine lv_iload_n hx hb dX3_keep_51 rfl (lv_at hl 1 rfl) ?_
        refine wi_if_lt (tgt := 59) hx hb (by first | assumption | (unfold iR; omega) | exact kR01 (by assumption)) dX3_keep_52 (by decide) (fun c_52 => ?_) (fun c_52 => ?_)
        · skip
          rw [if_pos c_52] at hres
          exact W.vret hx hb hr (fun t ht hW => ⟨⟨x, rfl, (by have h9 := congrArg (fun z : Int × KS => z.2) hres; exact h9), by rw [ht]; exact hP, va_K.moved hW.alike hK, hD⟩, hS.F ht⟩) hS.2.2 dX3_keep_59
        · skip
          rw [if_neg c_52] at hres
          refine lv_iload_n hx hb dX3_keep_55 rfl (lv_at hl 0 rfl) ?_
          refine wi_if_ne (tgt := 60) hx hb ⟨by decide, by decide⟩ dX3_keep_56 (by decide) (fun c_56 => ?_) (fun c_56 => ?_)
          · skip
            rw [if_neg c_56] at hres
            refine lv_aload_n hx hb dX3_keep_60 rfl (lv_at hl 2 rfl) ?_
            refine va_get (D := (dC, dI)) (ci := 3) (v := .int (iI ((x).1 (64) 7))) (C := RX3) (T := TX3) (N := 10) hx hb hts hinX3 hown hK hP (64) (kg64 (by omega)) rfl 7 (by decide) (hts (.fieldLink RX3 36 "LikeWords$Machine" "held" "I") (by decide +kernel)) (fun _ h9 => h9) rfl dX3_keep_61 ?_
            refine lv_istore (lv' := [(4, .int (iI ((x).1 (64) 7))), (3, .int (iI ((0 : Int)))), (2, .int (iI (((-1 : Int)) - ((F_t_placeOf (x) (65) ((x).1 (64) 7) (v)).1)))), (0, .ref (ad (64))), (1, .int (iI (v)))]) hx hb dX3_keep_64 hl (by decide) rfl (fun ls hl => ?_)
            exact (L (400)) (x) (((-1 : Int)) - ((F_t_placeOf (x) (65) ((x).1 (64) 7) (v)).1)) ((x).1 (64) 7) (by omega) (by omega) (by omega) (by omega) hres _ _ ls hP hD hS (lv_sub hl [3, 4, 2, 0] rfl)
          · skip
            rw [if_pos c_56] at hres
            exact W.vret hx hb hr (fun t ht hW => ⟨⟨x, rfl, (by have h9 := congrArg (fun z : Int × KS => z.2) hres; exact h9), by rw [ht]; exact hP, va_K.moved hW.alike hK, hD⟩, hS.F ht⟩) hS.2.2 dX3_keep_59
      · skip
        rw [if_neg c_42] at hres
        refine lv_iconst (v := iI (1 : Int)) hx hb dX3_keep_45 (by decide) ?_
        refine lv_goto (tgt := 50) hx hb dX3_keep_46 (by decide) ?_
        refine lv_istore_n (lv' := [(3, .int (iI ((1 : Int)))), (2, .int (iI (((-1 : Int)) - ((F_t_placeOf (x) (65) ((x).1 (64) 7) (v)).1)))), (0, .ref (ad (64))), (1, .int (iI (v)))]) hx hb dX3_keep_50 rfl hl (by decide) rfl (fun ls hl => ?_)
        refine lv_iload_n hx hb dX3_keep_51 rfl (lv_at hl 1 rfl) ?_
        refine wi_if_lt (tgt := 59) hx hb (by first | assumption | (unfold iR; omega) | exact kR01 (by assumption)) dX3_keep_52 (by decide) (fun c_52 => ?_) (fun c_52 => ?_)
        · skip
          rw [if_pos c_52] at hres
          exact W.vret hx hb hr (fun t ht hW => ⟨⟨x, rfl, (by have h9 := congrArg (fun z : Int × KS => z.2) hres; exact h9), by rw [ht]; exact hP, va_K.moved hW.alike hK, hD⟩, hS.F ht⟩) hS.2.2 dX3_keep_59
        · skip
          rw [if_neg c_52] at hres
          refine lv_iload_n hx hb dX3_keep_55 rfl (lv_at hl 0 rfl) ?_
          refine wi_if_ne (tgt := 60) hx hb ⟨by decide, by decide⟩ dX3_keep_56 (by decide) (fun c_56 => ?_) (fun c_56 => ?_)
          · skip
            rw [if_neg c_56] at hres
            refine lv_aload_n hx hb dX3_keep_60 rfl (lv_at hl 2 rfl) ?_
            refine va_get (D := (dC, dI)) (ci := 3) (v := .int (iI ((x).1 (64) 7))) (C := RX3) (T := TX3) (N := 10) hx hb hts hinX3 hown hK hP (64) (kg64 (by omega)) rfl 7 (by decide) (hts (.fieldLink RX3 36 "LikeWords$Machine" "held" "I") (by decide +kernel)) (fun _ h9 => h9) rfl dX3_keep_61 ?_
            refine lv_istore (lv' := [(4, .int (iI ((x).1 (64) 7))), (3, .int (iI ((1 : Int)))), (2, .int (iI (((-1 : Int)) - ((F_t_placeOf (x) (65) ((x).1 (64) 7) (v)).1)))), (0, .ref (ad (64))), (1, .int (iI (v)))]) hx hb dX3_keep_64 hl (by decide) rfl (fun ls hl => ?_)
            exact (L (400)) (x) (((-1 : Int)) - ((F_t_placeOf (x) (65) ((x).1 (64) 7) (v)).1)) ((x).1 (64) 7) (by omega) (by omega) (by omega) (by omega) hres _ _ ls hP hD hS (lv_sub hl [3, 4, 2, 0] rfl)
          · skip
            rw [if_pos c_56] at hres
            exact W.vret hx hb hr (fun t ht hW => ⟨⟨x, rfl, (by have h9 := congrArg (fun z : Int × KS => z.2) hres; exact h9), by rw [ht]; exact hP, va_K.moved hW.alike hK, hD⟩, hS.F ht⟩) hS.2.2 dX3_keep_59
  exact key _ _ hP hS
theorem F_a_keep_sfr  : ∀ n : Nat, (∀ (y : KS) (v0 : Int) (v1 : Int) (v2 : Int), ksame [(64, 7)] [65] y (F_a_keep_s n 0 y v0 v1 v2).2) := by
  intro n
  induction n with
  | zero => exact fun y _ _ _ => km_rf _ _ _
  | succ n ih =>
    skip
    · intro y v p0 i
      rw [F_a_keep_e0]
      by_cases hc : (i) ≤ (p0)
      · rw [if_pos hc]
        exact (km_s (List.Mem.head _) (km_a (List.Mem.head _) (km_rf _ _ _)))
      · rw [if_neg hc]
        exact km_tr ((km_a (List.Mem.head _) (km_rf _ _ _))) (ih (kA (y) (65) (i).toNat (((y).2 (65)) ((i) - ((1 : Int))).toNat)) (v) (p0) ((i) + (-1 : Int)))
theorem F_a_keep_fr (x : KS) (v : Int) : ksame [(64, 7)] [65] x (F_a_keep x v).2 := by
  unfold F_a_keep
  by_cases hc : ((320 : Int)) ≤ ((x).1 (64) 7)
  · rw [if_pos hc]
    by_cases hc : (((-1 : Int)) - ((F_t_placeOf (x) (65) ((x).1 (64) 7) (v)).1)) < (0)
    · rw [if_pos hc]
      exact (km_rf _ _ _)
    · rw [if_neg hc]
      by_cases hc : ((0 : Int)) = (0)
      · rw [if_pos hc]
        exact (km_rf _ _ _)
      · rw [if_neg hc]
        exact km_tr ((km_rf _ _ _)) ((F_a_keep_sfr  (400)) (x) (v) (((-1 : Int)) - ((F_t_placeOf (x) (65) ((x).1 (64) 7) (v)).1)) ((x).1 (64) 7))
  · rw [if_neg hc]
    by_cases hc : ((640 : Int)) < ((((x).1 (64) 7) + ((1 : Int))) * ((x).1 (1) 2))
    · rw [if_pos hc]
      by_cases hc : (((-1 : Int)) - ((F_t_placeOf (x) (65) ((x).1 (64) 7) (v)).1)) < (0)
      · rw [if_pos hc]
        exact (km_rf _ _ _)
      · rw [if_neg hc]
        by_cases hc : ((0 : Int)) = (0)
        · rw [if_pos hc]
          exact (km_rf _ _ _)
        · rw [if_neg hc]
          exact km_tr ((km_rf _ _ _)) ((F_a_keep_sfr  (400)) (x) (v) (((-1 : Int)) - ((F_t_placeOf (x) (65) ((x).1 (64) 7) (v)).1)) ((x).1 (64) 7))
    · rw [if_neg hc]
      by_cases hc : (((-1 : Int)) - ((F_t_placeOf (x) (65) ((x).1 (64) 7) (v)).1)) < (0)
      · rw [if_pos hc]
        exact (km_rf _ _ _)
      · rw [if_neg hc]
        by_cases hc : ((1 : Int)) = (0)
        · rw [if_pos hc]
          exact (km_rf _ _ _)
        · rw [if_neg hc]
          exact km_tr ((km_rf _ _ _)) ((F_a_keep_sfr  (400)) (x) (v) (((-1 : Int)) - ((F_t_placeOf (x) (65) ((x).1 (64) 7) (v)).1)) ((x).1 (64) 7))
theorem F_a_keep_q (x : KS) (v : Int)  : kq [64] [65] x (F_a_keep x v).2 := kq_of (F_a_keep_fr x v) (kq_c (Or.inr (by decide)) kq_m) (kq_c (Or.inr (by decide)) kq_n)
def F_a_step (x : KS) (s0 : Int) (z : Int) : Int × KS := (if (s0) < (0) then ((0 : Int), x) else (if ((x).1 (64) 7) ≤ (s0) then ((0 : Int), x) else (if (((s0) * ((x).1 (1) 2)) + (z)) < (0) then ((0 : Int), x) else (if ((640 : Int)) ≤ (((s0) * ((x).1 (1) 2)) + (z)) then ((0 : Int), x) else (((x).2 (66)) (((s0) * ((x).1 (1) 2)) + (z)).toNat, x)))))
set_option maxHeartbeats 4000000 in
set_option maxRecDepth 100000 in
/-- LikeWords$Machine, step -/
theorem c_a_step (l : Launch) (dC : Nat → ClassId) (dI : Nat → Nat → Nat) (ad : Nat → Nat) (cI cJ cZ cR : ClassId) (M wl sz : Nat) (x : KS) (s0 : Int) (z : Int) (hM : 87 ≤ M) (s1 : -100000 ≤ s0) (s2 : s0 ≤ 100000) (z1 : -100000 ≤ z) (z2 : z ≤ 100000) (ma : maR x) (l2 : 1 ≤ x.1 1 2 ∧ x.1 1 2 ≤ 4) : Met l yX3_step wsX3_step ({ frames := 0, cells := 0, slots := 0, locals := 0 }) (kPc dC dI ad cI cJ cZ cR M wl sz x [.ref (ad 64), .int (iI s0), .int (iI z)]) (va_Qi (fun (r : Int32) (u : KS) => r = iI (F_a_step x s0 z).1 ∧ u = (F_a_step x s0 z).2) (kAt dC dI ad cI cJ cZ cR M wl (va_A (kWd cI cJ cZ cR wl ad M (x)) sz)) (va_A (kWd cI cJ cZ cR wl ad M (x)) sz)) 0 0 (va_A (kWd cI cJ cZ cR wl ad M (x)) sz) := by
  refine Met.ofW (cc := cX3_step) (maxL := 4) (ret := (some .int)) (by decide) rfl ?_
  intro p e s m args below meth c s₁ B hml hv
  obtain ⟨rfl, hsz, hP, hK, hD0, hNw⟩ := hv
  have hx := B.exec
  have hb := B.bytes
  have hr := B.returns
  have hts := atoms_spec (ws := wsX3_step) B.pre
  have hown : s.vm.findClass RX3 = some m.cls := findClass_of_methodNamed B.named
  have hlocks := B.notSynchronized
  have hinX3 : ∀ w ∈ u_ws RX3 TX3 10, w ∈ wsX3_step := by decide +kernel
  have hinX8 : ∀ w ∈ u_ws RX8 TX8 4, w ∈ wsX3_step := by decide +kernel
  subst hsz
  have hD := hD0.self (sz := s.heap.size)
  generalize hAe : va_A (kWd cI cJ cZ cR wl ad M (x)) s.heap.size = A at hD ⊢
  have hA : ∀ q : Nat, s.heap.size ≤ q → A q := fun q h => by rw [← hAe]; exact Or.inr h
  have hS : va_S A s.heap s.heap [] := va_S.rf
  have hl := lv_entry ([.ref (ad 64), .int (iI s0), .int (iI z)]) (n := 4) (Nat.le_of_ble_eq_true rfl)
  rw [lg_entry_eq]
  generalize (lg_sl ([.ref (ad 64), .int (iI s0), .int (iI z)]) ++ List.replicate (4 - (lg_sl ([.ref (ad 64), .int (iI s0), .int (iI z)])).length) Slot.unset).toArray = ls at hl ⊢
  have hl : lv_has ls 4 [(0, .ref (ad (64))), (1, .int (iI (s0))), (2, .int (iI (z)))] := hl
  have ma1 := ma.1
  have n1 : s0 * x.1 1 2 ≤ 400000 ∧ -400000 ≤ s0 * x.1 1 2 := kmul4 l2.1 l2.2 s1 s2
  have key : ∀ (H : Heap) (locs : List Loc), va_P (dC, dI) vwCl (kWd cI cJ cZ cR wl ad M (x)) H → va_S A s.heap H locs → W p l e (headSpec wsX3_step ({ frames := 0, cells := 0, slots := 0, locals := 0 })).room s m ([.ref (ad 64), .int (iI s0), .int (iI z)] : List Value).toArray below meth c H locs 0 0 (MQ below (va_Qi (fun (r : Int32) (u : KS) => r = iI (F_a_step x s0 z).1 ∧ u = (F_a_step x s0 z).2) (kAt dC dI ad cI cJ cZ cR M wl A) A) ([.ref (ad 64), .int (iI s0), .int (iI z)] : List Value).toArray s 0 0 A) (F0 m 0 ls []) := by
    intro H locs hP hS
    have hres : (if (s0) < (0) then ((0 : Int), x) else (if ((x).1 (64) 7) ≤ (s0) then ((0 : Int), x) else (if (((s0) * ((x).1 (1) 2)) + (z)) < (0) then ((0 : Int), x) else (if ((640 : Int)) ≤ (((s0) * ((x).1 (1) 2)) + (z)) then ((0 : Int), x) else (((x).2 (66)) (((s0) * ((x).1 (1) 2)) + (z)).toNat, x))))) = F_a_step x s0 z := rfl
    refine lv_iload_n hx hb dX3_step_0 rfl (lv_at hl 1 rfl) ?_
    refine lv_aload_n hx hb dX3_step_1 rfl (lv_at hl 0 rfl) ?_
    refine va_get (D := (dC, dI)) (ci := 3) (v := .ref (ad (1))) (C := RX3) (T := TX3) (N := 10) hx hb hts hinX3 hown hK hP (64) (kg64 (by omega)) rfl 0 (by decide) (hts (.fieldLink RX3 9 "LikeWords$Machine" "scale" "LLikeWords$Scale;") (by decide +kernel)) (fun _ h9 => h9) rfl dX3_step_2 ?_
    refine va_get (D := (dC, dI)) (ci := 8) (v := .int (iI ((x).1 (1) 2))) (C := RX8) (T := TX8) (N := 4) hx hb hts hinX8 hown hK hP (1) (kg1 (by omega)) rfl 2 (by decide) (hts (.fieldLink RX3 40 "LikeWords$Scale" "letterCount" "I") (by decide +kernel)) (fun _ h9 => h9) rfl dX3_step_5 ?_
    refine wi_imul hx hb dX3_step_8 ?_
    refine lv_iload_n hx hb dX3_step_9 rfl (lv_at hl 2 rfl) ?_
    refine wi_iadd hx hb dX3_step_10 ?_
    refine lv_istore_n (lv' := [(3, .int (iI (((s0) * ((x).1 (1) 2)) + (z)))), (0, .ref (ad (64))), (1, .int (iI (s0))), (2, .int (iI (z)))]) hx hb dX3_step_11 rfl hl (by decide) rfl (fun ls hl => ?_)
    refine lv_iload_n hx hb dX3_step_12 rfl (lv_at hl 2 rfl) ?_
    refine wi_if_lt (tgt := 44) hx hb (by first | assumption | (unfold iR; omega) | exact kR01 (by assumption)) dX3_step_13 (by decide) (fun c_13 => ?_) (fun c_13 => ?_)
    · skip
      rw [if_pos c_13] at hres
      refine lv_iconst (v := iI (0 : Int)) hx hb dX3_step_44 (by decide) ?_
      exact W.iret (v := iI ((0 : Int))) hx hb hr (fun t ht hW => ⟨⟨iI ((0 : Int)), x, rfl, ⟨(by have h9 := congrArg (fun z : Int × KS => iI z.1) hres; exact h9), (by have h9 := congrArg (fun z : Int × KS => z.2) hres; exact h9)⟩, by rw [ht]; exact hP, va_K.moved hW.alike hK, hD⟩, hS.F ht⟩) hS.2.2 dX3_step_45
    · skip
      rw [if_neg c_13] at hres
      refine lv_iload_n hx hb dX3_step_16 rfl (lv_at hl 2 rfl) ?_
      refine lv_aload_n hx hb dX3_step_17 rfl (lv_at hl 1 rfl) ?_
      refine va_get (D := (dC, dI)) (ci := 3) (v := .int (iI ((x).1 (64) 7))) (C := RX3) (T := TX3) (N := 10) hx hb hts hinX3 hown hK hP (64) (kg64 (by omega)) rfl 7 (by decide) (hts (.fieldLink RX3 36 "LikeWords$Machine" "held" "I") (by decide +kernel)) (fun _ h9 => h9) rfl dX3_step_18 ?_
      refine wi_icmp_ge (tgt := 44) hx hb (by first | assumption | (unfold iR; omega) | exact kR01 (by assumption)) (by first | assumption | (unfold iR; omega) | exact kR01 (by assumption)) dX3_step_21 (by decide) (fun c_21 => ?_) (fun c_21 => ?_)
      · skip
        rw [if_pos c_21] at hres
        refine lv_iconst (v := iI (0 : Int)) hx hb dX3_step_44 (by decide) ?_
        exact W.iret (v := iI ((0 : Int))) hx hb hr (fun t ht hW => ⟨⟨iI ((0 : Int)), x, rfl, ⟨(by have h9 := congrArg (fun z : Int × KS => iI z.1) hres; exact h9), (by have h9 := congrArg (fun z : Int × KS => z.2) hres; exact h9)⟩, by rw [ht]; exact hP, va_K.moved hW.alike hK, hD⟩, hS.F ht⟩) hS.2.2 dX3_step_45
      · skip
        rw [if_neg c_21] at hres
        refine lv_iload_n hx hb dX3_step_24 rfl (lv_at hl 0 rfl) ?_
        refine wi_if_lt (tgt := 44) hx hb (by first | assumption | (unfold iR; omega) | exact kR01 (by assumption)) dX3_step_25 (by decide) (fun c_25 => ?_) (fun c_25 => ?_)
        · skip
          rw [if_pos c_25] at hres
          refine lv_iconst (v := iI (0 : Int)) hx hb dX3_step_44 (by decide) ?_
          exact W.iret (v := iI ((0 : Int))) hx hb hr (fun t ht hW => ⟨⟨iI ((0 : Int)), x, rfl, ⟨(by have h9 := congrArg (fun z : Int × KS => iI z.1) hres; exact h9), (by have h9 := congrArg (fun z : Int × KS => z.2) hres; exact h9)⟩, by rw [ht]; exact hP, va_K.moved hW.alike hK, hD⟩, hS.F ht⟩) hS.2.2 dX3_step_45
        · skip
          rw [if_neg c_25] at hres
          refine lv_iload_n hx hb dX3_step_28 rfl (lv_at hl 0 rfl) ?_
          refine lv_sipush (v := iI (640 : Int)) hx hb dX3_step_29 (by decide) ?_
          refine wi_icmp_ge (tgt := 44) hx hb (by first | assumption | (unfold iR; omega) | exact kR01 (by assumption)) ⟨by decide, by decide⟩ dX3_step_32 (by decide) (fun c_32 => ?_) (fun c_32 => ?_)
          · skip
            rw [if_pos c_32] at hres
            refine lv_iconst (v := iI (0 : Int)) hx hb dX3_step_44 (by decide) ?_
            exact W.iret (v := iI ((0 : Int))) hx hb hr (fun t ht hW => ⟨⟨iI ((0 : Int)), x, rfl, ⟨(by have h9 := congrArg (fun z : Int × KS => iI z.1) hres; exact h9), (by have h9 := congrArg (fun z : Int × KS => z.2) hres; exact h9)⟩, by rw [ht]; exact hP, va_K.moved hW.alike hK, hD⟩, hS.F ht⟩) hS.2.2 dX3_step_45
          · skip
            rw [if_neg c_32] at hres
            refine lv_aload_n hx hb dX3_step_35 rfl (lv_at hl 1 rfl) ?_
            refine va_get (D := (dC, dI)) (ci := 3) (v := .ref (ad (66))) (C := RX3) (T := TX3) (N := 10) hx hb hts hinX3 hown hK hP (64) (kg64 (by omega)) rfl 3 (by decide) (hts (.fieldLink RX3 23 "LikeWords$Machine" "steps" "[I") (by decide +kernel)) (fun _ h9 => h9) rfl dX3_step_36 ?_
            refine lv_iload_n hx hb dX3_step_39 rfl (lv_at hl 0 rfl) ?_
            refine wi_iald (f := (x).2 (66)) (n := kLen (66)) hx hb hK hP (66) 0 (kgi kC66 (by omega) rfl) rfl (i := ((s0) * ((x).1 (1) 2)) + (z)) (by omega) (by show _ < ((640 : Nat) : Int); exact (by omega)) (kLen_lt _) dX3_step_40 ?_
            refine lv_goto (tgt := 45) hx hb dX3_step_41 (by decide) ?_
            exact W.iret (v := iI (((x).2 (66)) (((s0) * ((x).1 (1) 2)) + (z)).toNat)) hx hb hr (fun t ht hW => ⟨⟨iI (((x).2 (66)) (((s0) * ((x).1 (1) 2)) + (z)).toNat), x, rfl, ⟨(by have h9 := congrArg (fun z : Int × KS => iI z.1) hres; exact h9), (by have h9 := congrArg (fun z : Int × KS => z.2) hres; exact h9)⟩, by rw [ht]; exact hP, va_K.moved hW.alike hK, hD⟩, hS.F ht⟩) hS.2.2 dX3_step_45
  exact key _ _ hP hS
theorem F_a_step_fr (x : KS) (s0 : Int) (z : Int) : ksame [] [] x (F_a_step x s0 z).2 := by
  unfold F_a_step
  by_cases hc : (s0) < (0)
  · rw [if_pos hc]
    exact (km_rf _ _ _)
  · rw [if_neg hc]
    by_cases hc : ((x).1 (64) 7) ≤ (s0)
    · rw [if_pos hc]
      exact (km_rf _ _ _)
    · rw [if_neg hc]
      by_cases hc : (((s0) * ((x).1 (1) 2)) + (z)) < (0)
      · rw [if_pos hc]
        exact (km_rf _ _ _)
      · rw [if_neg hc]
        by_cases hc : ((640 : Int)) ≤ (((s0) * ((x).1 (1) 2)) + (z))
        · rw [if_pos hc]
          exact (km_rf _ _ _)
        · rw [if_neg hc]
          exact (km_rf _ _ _)
theorem F_a_step_2 (x : KS) (s0 : Int) (z : Int) : (F_a_step x s0 z).2 = x := km_nil (F_a_step_fr x s0 z)
