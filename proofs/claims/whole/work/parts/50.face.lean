-- deps: 30 31 32 34 36 37 38 39
def F_t_isSlot (x : KS) (k : Int) : Int × KS := (if (k) < (0) then ((0 : Int), x) else (if ((8 : Int)) ≤ (k) then ((0 : Int), x) else ((1 : Int), x)))
set_option maxHeartbeats 4000000 in
set_option maxRecDepth 100000 in
/-- LikeWords, isSlot -/
theorem c_t_isSlot (l : Launch) (dC : Nat → ClassId) (dI : Nat → Nat → Nat) (ad : Nat → Nat) (cI cJ cZ cR : ClassId) (M wl sz : Nat) (x : KS) (k : Int) (hM : 87 ≤ M) (rk : iR k) : Met l yX11_isSlot wsX11_isSlot ({ frames := 0, cells := 0, slots := 0, locals := 0 }) (kPc dC dI ad cI cJ cZ cR M wl sz x [.ref (ad 0), .int (iI k)]) (va_Qi (fun (r : Int32) (u : KS) => r = iI (F_t_isSlot x k).1 ∧ u = (F_t_isSlot x k).2) (kAt dC dI ad cI cJ cZ cR M wl (va_A (kWd cI cJ cZ cR wl ad M (x)) sz)) (va_A (kWd cI cJ cZ cR wl ad M (x)) sz)) 0 0 (va_A (kWd cI cJ cZ cR wl ad M (x)) sz) := by
  refine Met.ofW (cc := cX11_isSlot) (maxL := 2) (ret := (some .boolean)) (by decide) rfl ?_
  intro p e s m args below meth c s₁ B hml hv
  obtain ⟨rfl, hsz, hP, hK, hD0, hNw⟩ := hv
  have hx := B.exec
  have hb := B.bytes
  have hr := B.returns
  have hts := atoms_spec (ws := wsX11_isSlot) B.pre
  have hown : s.vm.findClass RX11 = some m.cls := findClass_of_methodNamed B.named
  have hlocks := B.notSynchronized
  subst hsz
  have hD := hD0.self (sz := s.heap.size)
  generalize hAe : va_A (kWd cI cJ cZ cR wl ad M (x)) s.heap.size = A at hD ⊢
  have hA : ∀ q : Nat, s.heap.size ≤ q → A q := fun q h => by rw [← hAe]; exact Or.inr h
  have hS : va_S A s.heap s.heap [] := va_S.rf
  have hl := lv_entry ([.ref (ad 0), .int (iI k)]) (n := 2) (Nat.le_of_ble_eq_true rfl)
  rw [lg_entry_eq]
  generalize (lg_sl ([.ref (ad 0), .int (iI k)]) ++ List.replicate (2 - (lg_sl ([.ref (ad 0), .int (iI k)])).length) Slot.unset).toArray = ls at hl ⊢
  have hl : lv_has ls 2 [(0, .ref (ad (0))), (1, .int (iI (k)))] := hl
  have key : ∀ (H : Heap) (locs : List Loc), va_P (dC, dI) vwCl (kWd cI cJ cZ cR wl ad M (x)) H → va_S A s.heap H locs → W p l e (headSpec wsX11_isSlot ({ frames := 0, cells := 0, slots := 0, locals := 0 })).room s m ([.ref (ad 0), .int (iI k)] : List Value).toArray below meth c H locs 0 0 (MQ below (va_Qi (fun (r : Int32) (u : KS) => r = iI (F_t_isSlot x k).1 ∧ u = (F_t_isSlot x k).2) (kAt dC dI ad cI cJ cZ cR M wl A) A) ([.ref (ad 0), .int (iI k)] : List Value).toArray s 0 0 A) (F0 m 0 ls []) := by
    intro H locs hP hS
    have hres : (if (k) < (0) then ((0 : Int), x) else (if ((8 : Int)) ≤ (k) then ((0 : Int), x) else ((1 : Int), x))) = F_t_isSlot x k := rfl
    refine lv_iload_n hx hb dX11_isSlot_0 rfl (lv_at hl 1 rfl) ?_
    refine wi_if_lt (tgt := 14) hx hb (by first | assumption | (unfold iR; omega) | exact kR01 (by assumption)) dX11_isSlot_1 (by decide) (fun c_1 => ?_) (fun c_1 => ?_)
    · skip
      rw [if_pos c_1] at hres
      refine lv_iconst (v := iI (0 : Int)) hx hb dX11_isSlot_14 (by decide) ?_
      exact W.zret (v := iI ((0 : Int))) hx hb hr (kz _ (by first | assumption | omega)) (fun t ht hW => ⟨⟨iI ((0 : Int)), x, rfl, ⟨(by have h9 := congrArg (fun z : Int × KS => iI z.1) hres; exact h9), (by have h9 := congrArg (fun z : Int × KS => z.2) hres; exact h9)⟩, by rw [ht]; exact hP, va_K.moved hW.alike hK, hD⟩, hS.F ht⟩) hS.2.2 dX11_isSlot_15
    · skip
      rw [if_neg c_1] at hres
      refine lv_iload_n hx hb dX11_isSlot_4 rfl (lv_at hl 1 rfl) ?_
      refine lv_bipush (v := iI (8 : Int)) hx hb dX11_isSlot_5 (by decide) ?_
      refine wi_icmp_ge (tgt := 14) hx hb (by first | assumption | (unfold iR; omega) | exact kR01 (by assumption)) ⟨by decide, by decide⟩ dX11_isSlot_7 (by decide) (fun c_7 => ?_) (fun c_7 => ?_)
      · skip
        rw [if_pos c_7] at hres
        refine lv_iconst (v := iI (0 : Int)) hx hb dX11_isSlot_14 (by decide) ?_
        exact W.zret (v := iI ((0 : Int))) hx hb hr (kz _ (by first | assumption | omega)) (fun t ht hW => ⟨⟨iI ((0 : Int)), x, rfl, ⟨(by have h9 := congrArg (fun z : Int × KS => iI z.1) hres; exact h9), (by have h9 := congrArg (fun z : Int × KS => z.2) hres; exact h9)⟩, by rw [ht]; exact hP, va_K.moved hW.alike hK, hD⟩, hS.F ht⟩) hS.2.2 dX11_isSlot_15
      · skip
        rw [if_neg c_7] at hres
        refine lv_iconst (v := iI (1 : Int)) hx hb dX11_isSlot_10 (by decide) ?_
        refine lv_goto (tgt := 15) hx hb dX11_isSlot_11 (by decide) ?_
        exact W.zret (v := iI ((1 : Int))) hx hb hr (kz _ (by first | assumption | omega)) (fun t ht hW => ⟨⟨iI ((1 : Int)), x, rfl, ⟨(by have h9 := congrArg (fun z : Int × KS => iI z.1) hres; exact h9), (by have h9 := congrArg (fun z : Int × KS => z.2) hres; exact h9)⟩, by rw [ht]; exact hP, va_K.moved hW.alike hK, hD⟩, hS.F ht⟩) hS.2.2 dX11_isSlot_15
  exact key _ _ hP hS
theorem F_t_isSlot_fr (x : KS) (k : Int) : ksame [] [] x (F_t_isSlot x k).2 := by
  unfold F_t_isSlot
  by_cases hc : (k) < (0)
  · rw [if_pos hc]
    exact (km_rf _ _ _)
  · rw [if_neg hc]
    by_cases hc : ((8 : Int)) ≤ (k)
    · rw [if_pos hc]
      exact (km_rf _ _ _)
    · rw [if_neg hc]
      exact (km_rf _ _ _)
theorem F_t_isSlot_2 (x : KS) (k : Int) : (F_t_isSlot x k).2 = x := km_nil (F_t_isSlot_fr x k)
def F_t_isLetter (x : KS) (z : Int) : Int × KS := (if (z) < (0) then ((0 : Int), x) else (if ((x).1 (1) 2) ≤ (z) then ((0 : Int), x) else ((1 : Int), x)))
set_option maxHeartbeats 4000000 in
set_option maxRecDepth 100000 in
/-- LikeWords, isLetter -/
theorem c_t_isLetter (l : Launch) (dC : Nat → ClassId) (dI : Nat → Nat → Nat) (ad : Nat → Nat) (cI cJ cZ cR : ClassId) (M wl sz : Nat) (x : KS) (z : Int) (hM : 87 ≤ M) (rz : iR z) (l2 : 1 ≤ x.1 1 2 ∧ x.1 1 2 ≤ 4) : Met l yX11_isLetter wsX11_isLetter ({ frames := 0, cells := 0, slots := 0, locals := 0 }) (kPc dC dI ad cI cJ cZ cR M wl sz x [.ref (ad 0), .int (iI z)]) (va_Qi (fun (r : Int32) (u : KS) => r = iI (F_t_isLetter x z).1 ∧ u = (F_t_isLetter x z).2) (kAt dC dI ad cI cJ cZ cR M wl (va_A (kWd cI cJ cZ cR wl ad M (x)) sz)) (va_A (kWd cI cJ cZ cR wl ad M (x)) sz)) 0 0 (va_A (kWd cI cJ cZ cR wl ad M (x)) sz) := by
  refine Met.ofW (cc := cX11_isLetter) (maxL := 2) (ret := (some .boolean)) (by decide) rfl ?_
  intro p e s m args below meth c s₁ B hml hv
  obtain ⟨rfl, hsz, hP, hK, hD0, hNw⟩ := hv
  have hx := B.exec
  have hb := B.bytes
  have hr := B.returns
  have hts := atoms_spec (ws := wsX11_isLetter) B.pre
  have hown : s.vm.findClass RX11 = some m.cls := findClass_of_methodNamed B.named
  have hlocks := B.notSynchronized
  have hinX11 : ∀ w ∈ u_ws RX11 TX11 17, w ∈ wsX11_isLetter := by decide +kernel
  have hinX8 : ∀ w ∈ u_ws RX8 TX8 4, w ∈ wsX11_isLetter := by decide +kernel
  subst hsz
  have hD := hD0.self (sz := s.heap.size)
  generalize hAe : va_A (kWd cI cJ cZ cR wl ad M (x)) s.heap.size = A at hD ⊢
  have hA : ∀ q : Nat, s.heap.size ≤ q → A q := fun q h => by rw [← hAe]; exact Or.inr h
  have hS : va_S A s.heap s.heap [] := va_S.rf
  have hl := lv_entry ([.ref (ad 0), .int (iI z)]) (n := 2) (Nat.le_of_ble_eq_true rfl)
  rw [lg_entry_eq]
  generalize (lg_sl ([.ref (ad 0), .int (iI z)]) ++ List.replicate (2 - (lg_sl ([.ref (ad 0), .int (iI z)])).length) Slot.unset).toArray = ls at hl ⊢
  have hl : lv_has ls 2 [(0, .ref (ad (0))), (1, .int (iI (z)))] := hl
  have key : ∀ (H : Heap) (locs : List Loc), va_P (dC, dI) vwCl (kWd cI cJ cZ cR wl ad M (x)) H → va_S A s.heap H locs → W p l e (headSpec wsX11_isLetter ({ frames := 0, cells := 0, slots := 0, locals := 0 })).room s m ([.ref (ad 0), .int (iI z)] : List Value).toArray below meth c H locs 0 0 (MQ below (va_Qi (fun (r : Int32) (u : KS) => r = iI (F_t_isLetter x z).1 ∧ u = (F_t_isLetter x z).2) (kAt dC dI ad cI cJ cZ cR M wl A) A) ([.ref (ad 0), .int (iI z)] : List Value).toArray s 0 0 A) (F0 m 0 ls []) := by
    intro H locs hP hS
    have hres : (if (z) < (0) then ((0 : Int), x) else (if ((x).1 (1) 2) ≤ (z) then ((0 : Int), x) else ((1 : Int), x))) = F_t_isLetter x z := rfl
    refine lv_iload_n hx hb dX11_isLetter_0 rfl (lv_at hl 1 rfl) ?_
    refine wi_if_lt (tgt := 19) hx hb (by first | assumption | (unfold iR; omega) | exact kR01 (by assumption)) dX11_isLetter_1 (by decide) (fun c_1 => ?_) (fun c_1 => ?_)
    · skip
      rw [if_pos c_1] at hres
      refine lv_iconst (v := iI (0 : Int)) hx hb dX11_isLetter_19 (by decide) ?_
      exact W.zret (v := iI ((0 : Int))) hx hb hr (kz _ (by first | assumption | omega)) (fun t ht hW => ⟨⟨iI ((0 : Int)), x, rfl, ⟨(by have h9 := congrArg (fun z : Int × KS => iI z.1) hres; exact h9), (by have h9 := congrArg (fun z : Int × KS => z.2) hres; exact h9)⟩, by rw [ht]; exact hP, va_K.moved hW.alike hK, hD⟩, hS.F ht⟩) hS.2.2 dX11_isLetter_20
    · skip
      rw [if_neg c_1] at hres
      refine lv_iload_n hx hb dX11_isLetter_4 rfl (lv_at hl 1 rfl) ?_
      refine lv_aload_n hx hb dX11_isLetter_5 rfl (lv_at hl 0 rfl) ?_
      refine va_get (D := (dC, dI)) (ci := 11) (v := .ref (ad (1))) (C := RX11) (T := TX11) (N := 17) hx hb hts hinX11 hown hK hP (0) (kg0 (by omega)) rfl 0 (by decide) (hts (.fieldLink RX11 14 "LikeWords" "scale" "LLikeWords$Scale;") (by decide +kernel)) (fun _ h9 => h9) rfl dX11_isLetter_6 ?_
      refine va_get (D := (dC, dI)) (ci := 8) (v := .int (iI ((x).1 (1) 2))) (C := RX8) (T := TX8) (N := 4) hx hb hts hinX8 hown hK hP (1) (kg1 (by omega)) rfl 2 (by decide) (hts (.fieldLink RX11 100 "LikeWords$Scale" "letterCount" "I") (by decide +kernel)) (fun _ h9 => h9) rfl dX11_isLetter_9 ?_
      refine wi_icmp_ge (tgt := 19) hx hb (by first | assumption | (unfold iR; omega) | exact kR01 (by assumption)) (by first | assumption | (unfold iR; omega) | exact kR01 (by assumption)) dX11_isLetter_12 (by decide) (fun c_12 => ?_) (fun c_12 => ?_)
      · skip
        rw [if_pos c_12] at hres
        refine lv_iconst (v := iI (0 : Int)) hx hb dX11_isLetter_19 (by decide) ?_
        exact W.zret (v := iI ((0 : Int))) hx hb hr (kz _ (by first | assumption | omega)) (fun t ht hW => ⟨⟨iI ((0 : Int)), x, rfl, ⟨(by have h9 := congrArg (fun z : Int × KS => iI z.1) hres; exact h9), (by have h9 := congrArg (fun z : Int × KS => z.2) hres; exact h9)⟩, by rw [ht]; exact hP, va_K.moved hW.alike hK, hD⟩, hS.F ht⟩) hS.2.2 dX11_isLetter_20
      · skip
        rw [if_neg c_12] at hres
        refine lv_iconst (v := iI (1 : Int)) hx hb dX11_isLetter_15 (by decide) ?_
        refine lv_goto (tgt := 20) hx hb dX11_isLetter_16 (by decide) ?_
        exact W.zret (v := iI ((1 : Int))) hx hb hr (kz _ (by first | assumption | omega)) (fun t ht hW => ⟨⟨iI ((1 : Int)), x, rfl, ⟨(by have h9 := congrArg (fun z : Int × KS => iI z.1) hres; exact h9), (by have h9 := congrArg (fun z : Int × KS => z.2) hres; exact h9)⟩, by rw [ht]; exact hP, va_K.moved hW.alike hK, hD⟩, hS.F ht⟩) hS.2.2 dX11_isLetter_20
  exact key _ _ hP hS
theorem F_t_isLetter_fr (x : KS) (z : Int) : ksame [] [] x (F_t_isLetter x z).2 := by
  unfold F_t_isLetter
  by_cases hc : (z) < (0)
  · rw [if_pos hc]
    exact (km_rf _ _ _)
  · rw [if_neg hc]
    by_cases hc : ((x).1 (1) 2) ≤ (z)
    · rw [if_pos hc]
      exact (km_rf _ _ _)
    · rw [if_neg hc]
      exact (km_rf _ _ _)
theorem F_t_isLetter_2 (x : KS) (z : Int) : (F_t_isLetter x z).2 = x := km_nil (F_t_isLetter_fr x z)
def F_t_isSeen (x : KS)  : Int × KS := (if ((x).1 (0) 15) ≤ (0) then ((0 : Int), x) else ((1 : Int), x))
set_option maxHeartbeats 4000000 in
set_option maxRecDepth 100000 in
/-- LikeWords, isSeen -/
theorem c_t_isSeen (l : Launch) (dC : Nat → ClassId) (dI : Nat → Nat → Nat) (ad : Nat → Nat) (cI cJ cZ cR : ClassId) (M wl sz : Nat) (x : KS)  (hM : 87 ≤ M) (s0 : 0 ≤ x.1 0 15) (s1 : x.1 0 15 ≤ 20) : Met l yX11_isSeen wsX11_isSeen ({ frames := 0, cells := 0, slots := 0, locals := 0 }) (kPc dC dI ad cI cJ cZ cR M wl sz x [.ref (ad 0)]) (va_Qi (fun (r : Int32) (u : KS) => r = iI (F_t_isSeen x).1 ∧ u = (F_t_isSeen x).2) (kAt dC dI ad cI cJ cZ cR M wl (va_A (kWd cI cJ cZ cR wl ad M (x)) sz)) (va_A (kWd cI cJ cZ cR wl ad M (x)) sz)) 0 0 (va_A (kWd cI cJ cZ cR wl ad M (x)) sz) := by
  refine Met.ofW (cc := cX11_isSeen) (maxL := 1) (ret := (some .boolean)) (by decide) rfl ?_
  intro p e s m args below meth c s₁ B hml hv
  obtain ⟨rfl, hsz, hP, hK, hD0, hNw⟩ := hv
  have hx := B.exec
  have hb := B.bytes
  have hr := B.returns
  have hts := atoms_spec (ws := wsX11_isSeen) B.pre
  have hown : s.vm.findClass RX11 = some m.cls := findClass_of_methodNamed B.named
  have hlocks := B.notSynchronized
  have hinX11 : ∀ w ∈ u_ws RX11 TX11 17, w ∈ wsX11_isSeen := by decide +kernel
  subst hsz
  have hD := hD0.self (sz := s.heap.size)
  generalize hAe : va_A (kWd cI cJ cZ cR wl ad M (x)) s.heap.size = A at hD ⊢
  have hA : ∀ q : Nat, s.heap.size ≤ q → A q := fun q h => by rw [← hAe]; exact Or.inr h
  have hS : va_S A s.heap s.heap [] := va_S.rf
  have hl := lv_entry ([.ref (ad 0)]) (n := 1) (Nat.le_of_ble_eq_true rfl)
  rw [lg_entry_eq]
  generalize (lg_sl ([.ref (ad 0)]) ++ List.replicate (1 - (lg_sl ([.ref (ad 0)])).length) Slot.unset).toArray = ls at hl ⊢
  have hl : lv_has ls 1 [(0, .ref (ad (0)))] := hl
  have key : ∀ (H : Heap) (locs : List Loc), va_P (dC, dI) vwCl (kWd cI cJ cZ cR wl ad M (x)) H → va_S A s.heap H locs → W p l e (headSpec wsX11_isSeen ({ frames := 0, cells := 0, slots := 0, locals := 0 })).room s m ([.ref (ad 0)] : List Value).toArray below meth c H locs 0 0 (MQ below (va_Qi (fun (r : Int32) (u : KS) => r = iI (F_t_isSeen x).1 ∧ u = (F_t_isSeen x).2) (kAt dC dI ad cI cJ cZ cR M wl A) A) ([.ref (ad 0)] : List Value).toArray s 0 0 A) (F0 m 0 ls []) := by
    intro H locs hP hS
    have hres : (if ((x).1 (0) 15) ≤ (0) then ((0 : Int), x) else ((1 : Int), x)) = F_t_isSeen x := rfl
    refine lv_aload_n hx hb dX11_isSeen_0 rfl (lv_at hl 0 rfl) ?_
    refine va_get (D := (dC, dI)) (ci := 11) (v := .int (iI ((x).1 (0) 15))) (C := RX11) (T := TX11) (N := 17) hx hb hts hinX11 hown hK hP (0) (kg0 (by omega)) rfl 15 (by decide) (hts (.fieldLink RX11 172 "LikeWords" "seenTo" "I") (by decide +kernel)) (fun _ h9 => h9) rfl dX11_isSeen_1 ?_
    refine wi_if_le (tgt := 11) hx hb (by first | assumption | (unfold iR; omega) | exact kR01 (by assumption)) dX11_isSeen_4 (by decide) (fun c_4 => ?_) (fun c_4 => ?_)
    · skip
      rw [if_pos c_4] at hres
      refine lv_iconst (v := iI (0 : Int)) hx hb dX11_isSeen_11 (by decide) ?_
      exact W.zret (v := iI ((0 : Int))) hx hb hr (kz _ (by first | assumption | omega)) (fun t ht hW => ⟨⟨iI ((0 : Int)), x, rfl, ⟨(by have h9 := congrArg (fun z : Int × KS => iI z.1) hres; exact h9), (by have h9 := congrArg (fun z : Int × KS => z.2) hres; exact h9)⟩, by rw [ht]; exact hP, va_K.moved hW.alike hK, hD⟩, hS.F ht⟩) hS.2.2 dX11_isSeen_12
    · skip
      rw [if_neg c_4] at hres
      refine lv_iconst (v := iI (1 : Int)) hx hb dX11_isSeen_7 (by decide) ?_
      refine lv_goto (tgt := 12) hx hb dX11_isSeen_8 (by decide) ?_
      exact W.zret (v := iI ((1 : Int))) hx hb hr (kz _ (by first | assumption | omega)) (fun t ht hW => ⟨⟨iI ((1 : Int)), x, rfl, ⟨(by have h9 := congrArg (fun z : Int × KS => iI z.1) hres; exact h9), (by have h9 := congrArg (fun z : Int × KS => z.2) hres; exact h9)⟩, by rw [ht]; exact hP, va_K.moved hW.alike hK, hD⟩, hS.F ht⟩) hS.2.2 dX11_isSeen_12
  exact key _ _ hP hS
theorem F_t_isSeen_fr (x : KS)  : ksame [] [] x (F_t_isSeen x).2 := by
  unfold F_t_isSeen
  by_cases hc : ((x).1 (0) 15) ≤ (0)
  · rw [if_pos hc]
    exact (km_rf _ _ _)
  · rw [if_neg hc]
    exact (km_rf _ _ _)
theorem F_t_isSeen_2 (x : KS)  : (F_t_isSeen x).2 = x := km_nil (F_t_isSeen_fr x)
theorem F_t_isSlot_01 (x : KS) (k : Int) : (F_t_isSlot x k).1 = 0 ∨ (F_t_isSlot x k).1 = 1 := by
  unfold F_t_isSlot
  repeat' split
  all_goals first | exact Or.inl rfl | exact Or.inr rfl
theorem F_t_isSlot_1 {x : KS} {k : Int} (h : ¬ (F_t_isSlot x k).1 = 0) : 0 ≤ k ∧ k < 8 := by
  unfold F_t_isSlot at h
  revert h
  repeat' split
  all_goals first | (intro _; omega) | (intro h; exact absurd rfl h)
theorem F_t_isLetter_01 (x : KS) (k : Int) : (F_t_isLetter x k).1 = 0 ∨ (F_t_isLetter x k).1 = 1 := by
  unfold F_t_isLetter
  repeat' split
  all_goals first | exact Or.inl rfl | exact Or.inr rfl
theorem F_t_isLetter_1 {x : KS} {k : Int} (h : ¬ (F_t_isLetter x k).1 = 0) : 0 ≤ k ∧ k < x.1 1 2 := by
  unfold F_t_isLetter at h
  revert h
  repeat' split
  all_goals first | (intro _; omega) | (intro h; exact absurd rfl h)
theorem F_t_isSeen_01 (x : KS) : (F_t_isSeen x).1 = 0 ∨ (F_t_isSeen x).1 = 1 := by
  unfold F_t_isSeen
  repeat' split
  all_goals first | exact Or.inl rfl | exact Or.inr rfl
theorem F_u_has_01 (x : KS) (k : Int) : (F_u_has x k).1 = 0 ∨ (F_u_has x k).1 = 1 := by
  unfold F_u_has
  repeat' split
  all_goals first | exact Or.inl rfl | exact Or.inr rfl
theorem F_a_has_01 (x : KS) (k : Int) : (F_a_has x k).1 = 0 ∨ (F_a_has x k).1 = 1 := by
  unfold F_a_has
  repeat' split
  all_goals first | exact Or.inl rfl | exact Or.inr rfl
theorem F_a_has_1 {x : KS} {k : Int} (h : ¬ (F_a_has x k).1 = 0) : 0 ≤ k ∧ k < x.1 64 7 := by
  unfold F_a_has at h
  revert h
  repeat' split
  all_goals first | (intro _; omega) | (intro h; exact absurd rfl h)
def F_t_isProved (x : KS)  : Int × KS := (if ((F_t_isSeen (x)).1) = (0) then ((0 : Int), x) else (if ((x).1 (0) 16) = (0) then ((0 : Int), x) else ((1 : Int), x)))
set_option maxHeartbeats 4000000 in
set_option maxRecDepth 100000 in
/-- LikeWords, isProved -/
theorem c_t_isProved (l : Launch) (dC : Nat → ClassId) (dI : Nat → Nat → Nat) (ad : Nat → Nat) (cI cJ cZ cR : ClassId) (M wl sz : Nat) (x : KS)  (hM : 87 ≤ M) (s0 : 0 ≤ x.1 0 15) (s1 : x.1 0 15 ≤ 20) (p01 : x.1 0 16 = 0 ∨ x.1 0 16 = 1) : Met l yX11_isProved wsX11_isProved ({ frames := 1, cells := 0, slots := 0, locals := 20 }) (kPc dC dI ad cI cJ cZ cR M wl sz x [.ref (ad 0)]) (va_Qi (fun (r : Int32) (u : KS) => r = iI (F_t_isProved x).1 ∧ u = (F_t_isProved x).2) (kAt dC dI ad cI cJ cZ cR M wl (va_A (kWd cI cJ cZ cR wl ad M (x)) sz)) (va_A (kWd cI cJ cZ cR wl ad M (x)) sz)) 0 0 (va_A (kWd cI cJ cZ cR wl ad M (x)) sz) := by
  refine Met.ofW (cc := cX11_isProved) (maxL := 1) (ret := (some .boolean)) (by decide) rfl ?_
  intro p e s m args below meth c s₁ B hml hv
  obtain ⟨rfl, hsz, hP, hK, hD0, hNw⟩ := hv
  have hx := B.exec
  have hb := B.bytes
  have hr := B.returns
  have hts := atoms_spec (ws := wsX11_isProved) B.pre
  have hown : s.vm.findClass RX11 = some m.cls := findClass_of_methodNamed B.named
  have hlocks := B.notSynchronized
  have hinX11 : ∀ w ∈ u_ws RX11 TX11 17, w ∈ wsX11_isProved := by decide +kernel
  subst hsz
  have hD := hD0.self (sz := s.heap.size)
  generalize hAe : va_A (kWd cI cJ cZ cR wl ad M (x)) s.heap.size = A at hD ⊢
  have hA : ∀ q : Nat, s.heap.size ≤ q → A q := fun q h => by rw [← hAe]; exact Or.inr h
  have hS : va_S A s.heap s.heap [] := va_S.rf
  have hl := lv_entry ([.ref (ad 0)]) (n := 1) (Nat.le_of_ble_eq_true rfl)
  rw [lg_entry_eq]
  generalize (lg_sl ([.ref (ad 0)]) ++ List.replicate (1 - (lg_sl ([.ref (ad 0)])).length) Slot.unset).toArray = ls at hl ⊢
  have hl : lv_has ls 1 [(0, .ref (ad (0)))] := hl
  have key : ∀ (H : Heap) (locs : List Loc), va_P (dC, dI) vwCl (kWd cI cJ cZ cR wl ad M (x)) H → va_S A s.heap H locs → W p l e (headSpec wsX11_isProved ({ frames := 1, cells := 0, slots := 0, locals := 20 })).room s m ([.ref (ad 0)] : List Value).toArray below meth c H locs 0 0 (MQ below (va_Qi (fun (r : Int32) (u : KS) => r = iI (F_t_isProved x).1 ∧ u = (F_t_isProved x).2) (kAt dC dI ad cI cJ cZ cR M wl A) A) ([.ref (ad 0)] : List Value).toArray s 0 0 A) (F0 m 0 ls []) := by
    intro H locs hP hS
    have hres : (if ((F_t_isSeen (x)).1) = (0) then ((0 : Int), x) else (if ((x).1 (0) 16) = (0) then ((0 : Int), x) else ((1 : Int), x))) = F_t_isProved x := rfl
    refine lv_aload_n hx hb dX11_isProved_0 rfl (lv_at hl 0 rfl) ?_
    have hFc : ∀ q, va_A (kWd cI cJ cZ cR wl ad M (x)) H.size q → A q := fun q hq => Or.elim hq (fun ⟨k, e, hk⟩ => hD.2 k (q, e) hk) (fun hk => hA q (Nat.le_trans hS.1 hk))
    refine va_calli (va_runV (b := ad (0)) (As := []) (rest := []) ⟨hx, hb, hml, hown, hts⟩ (c_t_isSeen l dC dI ad cI cJ cZ cR M wl H.size (x)   hM s0 s1) (cwV 0 hts gX11_isProved_X11_isSeen rfl rfl rfl (by decide +kernel) ⟨Nat.le_of_ble_eq_true rfl, Nat.le_of_ble_eq_true rfl⟩) ⟨fun a U g mk q => by obtain ⟨q0, q1, qP, qK, qD, qN⟩ := q; exact ⟨q0, q1, qP, va_K.moved (u := U) (U := U.calling g mk a) (Vm.Alike.refl U.vm) qK, qD, kNw.same (u := U) (U := U.calling g mk a) rfl qN⟩, va_recv hK hP (ci := 11) (q0 := 0) rfl (kg0 (by omega)), fun U hU hW => ⟨rfl, by rw [hU], by rw [hU]; exact hP, va_K.moved hW.alike hK, hD.weaken (fun _ _ _ _ => trivial), kNw.warm hW hNw⟩⟩ rfl rfl hl.1 rfl (lv_room (Nat.le_of_ble_eq_true rfl)) dX11_isProved_1 ⟨Nat.le_of_ble_eq_true rfl, Nat.le_of_ble_eq_true rfl⟩) hS (fun q _ h => hFc q h) hFc (fun r9 u9 t H1 locs ht hvm hw hB hz1 hk1 hS => ?_)
    obtain ⟨hP1, hK1, hD1⟩ := hB
    rw [ht] at hP1
    obtain ⟨hw1, hw2⟩ := hw
    rw [hw2] at hP1 hD1
    rw [hw1]
    rw [F_t_isSeen_2] at hP1 hD1
    have hD2 := hD1.weaken (B := A) (fun _ q _ h => hFc q.1 h)
    have hP := hP1
    have hD := hD2
    generalize H1 = H at hP hS ⊢
    refine wi_if_eq (tgt := 18) hx hb (kR01 (F_t_isSeen_01 _)) dX11_isProved_4 (by decide) (fun c_4 => ?_) (fun c_4 => ?_)
    · skip
      rw [if_pos c_4] at hres
      refine lv_iconst (v := iI (0 : Int)) hx hb dX11_isProved_18 (by decide) ?_
      exact W.zret (v := iI ((0 : Int))) hx hb hr (kz _ (by first | assumption | omega)) (fun t ht hW => ⟨⟨iI ((0 : Int)), x, rfl, ⟨(by have h9 := congrArg (fun z : Int × KS => iI z.1) hres; exact h9), (by have h9 := congrArg (fun z : Int × KS => z.2) hres; exact h9)⟩, by rw [ht]; exact hP, va_K.moved hW.alike hK, hD⟩, hS.F ht⟩) hS.2.2 dX11_isProved_19
    · skip
      rw [if_neg c_4] at hres
      refine lv_aload_n hx hb dX11_isProved_7 rfl (lv_at hl 0 rfl) ?_
      refine va_get (D := (dC, dI)) (ci := 11) (v := .int (iI ((x).1 (0) 16))) (C := RX11) (T := TX11) (N := 17) hx hb hts hinX11 hown hK hP (0) (kg0 (by omega)) rfl 16 (by decide) (hts (.fieldLink RX11 165 "LikeWords" "proved" "Z") (by decide +kernel)) (fun _ h9 => h9) rfl dX11_isProved_8 ?_
      refine wi_if_eq (tgt := 18) hx hb (kR01 p01) dX11_isProved_11 (by decide) (fun c_11 => ?_) (fun c_11 => ?_)
      · skip
        rw [if_pos c_11] at hres
        refine lv_iconst (v := iI (0 : Int)) hx hb dX11_isProved_18 (by decide) ?_
        exact W.zret (v := iI ((0 : Int))) hx hb hr (kz _ (by first | assumption | omega)) (fun t ht hW => ⟨⟨iI ((0 : Int)), x, rfl, ⟨(by have h9 := congrArg (fun z : Int × KS => iI z.1) hres; exact h9), (by have h9 := congrArg (fun z : Int × KS => z.2) hres; exact h9)⟩, by rw [ht]; exact hP, va_K.moved hW.alike hK, hD⟩, hS.F ht⟩) hS.2.2 dX11_isProved_19
      · skip
        rw [if_neg c_11] at hres
        refine lv_iconst (v := iI (1 : Int)) hx hb dX11_isProved_14 (by decide) ?_
        refine lv_goto (tgt := 19) hx hb dX11_isProved_15 (by decide) ?_
        exact W.zret (v := iI ((1 : Int))) hx hb hr (kz _ (by first | assumption | omega)) (fun t ht hW => ⟨⟨iI ((1 : Int)), x, rfl, ⟨(by have h9 := congrArg (fun z : Int × KS => iI z.1) hres; exact h9), (by have h9 := congrArg (fun z : Int × KS => z.2) hres; exact h9)⟩, by rw [ht]; exact hP, va_K.moved hW.alike hK, hD⟩, hS.F ht⟩) hS.2.2 dX11_isProved_19
  exact key _ _ hP hS
theorem F_t_isProved_fr (x : KS)  : ksame [] [] x (F_t_isProved x).2 := by
  unfold F_t_isProved
  by_cases hc : ((F_t_isSeen (x)).1) = (0)
  · rw [if_pos hc]
    exact (km_rf _ _ _)
  · rw [if_neg hc]
    by_cases hc : ((x).1 (0) 16) = (0)
    · rw [if_pos hc]
      exact (km_rf _ _ _)
    · rw [if_neg hc]
      exact (km_rf _ _ _)
theorem F_t_isProved_2 (x : KS)  : (F_t_isProved x).2 = x := km_nil (F_t_isProved_fr x)
theorem F_t_isProved_01 (x : KS) : (F_t_isProved x).1 = 0 ∨ (F_t_isProved x).1 = 1 := by
  unfold F_t_isProved
  repeat' split
  all_goals first | exact Or.inl rfl | exact Or.inr rfl
def F_t_forget (x : KS)  : Int × KS := (0, kS (kS (x) (0) 15 ((0 : Int))) (0) 16 ((0 : Int)))
set_option maxHeartbeats 4000000 in
set_option maxRecDepth 100000 in
/-- LikeWords, forget -/
theorem c_t_forget (l : Launch) (dC : Nat → ClassId) (dI : Nat → Nat → Nat) (ad : Nat → Nat) (cI cJ cZ cR : ClassId) (M wl sz : Nat) (x : KS)  (hM : 87 ≤ M)  : Met l yX11_forget wsX11_forget ({ frames := 0, cells := 0, slots := 0, locals := 0 }) (kPc dC dI ad cI cJ cZ cR M wl sz x [.ref (ad 0)]) (va_Qv (fun u : KS => u = (F_t_forget x).2) (kAt dC dI ad cI cJ cZ cR M wl (va_A (kWd cI cJ cZ cR wl ad M (x)) sz)) (va_A (kWd cI cJ cZ cR wl ad M (x)) sz)) 0 0 (va_A (kWd cI cJ cZ cR wl ad M (x)) sz) := by
  refine Met.ofW (cc := cX11_forget) (maxL := 1) (ret := none) (by decide) rfl ?_
  intro p e s m args below meth c s₁ B hml hv
  obtain ⟨rfl, hsz, hP, hK, hD0, hNw⟩ := hv
  have hx := B.exec
  have hb := B.bytes
  have hr := B.returns
  have hts := atoms_spec (ws := wsX11_forget) B.pre
  have hown : s.vm.findClass RX11 = some m.cls := findClass_of_methodNamed B.named
  have hlocks := B.notSynchronized
  have hinX11 : ∀ w ∈ u_ws RX11 TX11 17, w ∈ wsX11_forget := by decide +kernel
  subst hsz
  have hD := hD0.self (sz := s.heap.size)
  generalize hAe : va_A (kWd cI cJ cZ cR wl ad M (x)) s.heap.size = A at hD ⊢
  have hA : ∀ q : Nat, s.heap.size ≤ q → A q := fun q h => by rw [← hAe]; exact Or.inr h
  have hS : va_S A s.heap s.heap [] := va_S.rf
  have hl := lv_entry ([.ref (ad 0)]) (n := 1) (Nat.le_of_ble_eq_true rfl)
  rw [lg_entry_eq]
  generalize (lg_sl ([.ref (ad 0)]) ++ List.replicate (1 - (lg_sl ([.ref (ad 0)])).length) Slot.unset).toArray = ls at hl ⊢
  have hl : lv_has ls 1 [(0, .ref (ad (0)))] := hl
  have key : ∀ (H : Heap) (locs : List Loc), va_P (dC, dI) vwCl (kWd cI cJ cZ cR wl ad M (x)) H → va_S A s.heap H locs → W p l e (headSpec wsX11_forget ({ frames := 0, cells := 0, slots := 0, locals := 0 })).room s m ([.ref (ad 0)] : List Value).toArray below meth c H locs 0 0 (MQ below (va_Qv (fun u : KS => u = (F_t_forget x).2) (kAt dC dI ad cI cJ cZ cR M wl A) A) ([.ref (ad 0)] : List Value).toArray s 0 0 A) (F0 m 0 ls []) := by
    intro H locs hP hS
    have hres : (0, kS (kS (x) (0) 15 ((0 : Int))) (0) 16 ((0 : Int))) = F_t_forget x := rfl
    refine lv_aload_n hx hb dX11_forget_0 rfl (lv_at hl 0 rfl) ?_
    refine lv_iconst (v := iI (0 : Int)) hx hb dX11_forget_1 (by decide) ?_
    refine va_put (D := (dC, dI)) (ci := 11) (v := .int (iI ((0 : Int)))) (ty := .int) (C := RX11) (T := TX11) (N := 17) hx hb hts hinX11 tyX11 tyX11_ok nmX11 hown hK hP hD hS (0) (kg0 (by omega)) rfl 15 (by decide) (hts (.fieldLink RX11 172 "LikeWords" "seenTo" "I") (by decide +kernel)) (fun _ h9 => h9) rfl (by decide +kernel) rfl rfl (Nat.le_of_ble_eq_true rfl) dX11_forget_2 (fun H locs hP hD hS => ?_)
    rw [ks0_15] at hP hD
    refine lv_aload_n hx hb dX11_forget_5 rfl (lv_at hl 0 rfl) ?_
    refine lv_iconst (v := iI (0 : Int)) hx hb dX11_forget_6 (by decide) ?_
    refine va_put (D := (dC, dI)) (ci := 11) (v := .int (iI ((0 : Int)))) (ty := .boolean) (C := RX11) (T := TX11) (N := 17) hx hb hts hinX11 tyX11 tyX11_ok nmX11 hown hK hP hD hS (0) (kg0 (by omega)) rfl 16 (by decide) (hts (.fieldLink RX11 165 "LikeWords" "proved" "Z") (by decide +kernel)) (fun _ h9 => h9) rfl (by decide +kernel) (kz _ (by first | assumption | omega)) rfl (Nat.le_of_ble_eq_true rfl) dX11_forget_7 (fun H locs hP hD hS => ?_)
    rw [ks0_16] at hP hD
    exact W.vret hx hb hr (fun t ht hW => ⟨⟨kS (kS (x) (0) 15 ((0 : Int))) (0) 16 ((0 : Int)), rfl, (by have h9 := congrArg (fun z : Int × KS => z.2) hres; exact h9), by rw [ht]; exact hP, va_K.moved hW.alike hK, hD⟩, hS.F ht⟩) hS.2.2 dX11_forget_10
  exact key _ _ hP hS
theorem F_t_forget_fr (x : KS)  : ksame [(0, 15), (0, 16)] [] x (F_t_forget x).2 := by
  unfold F_t_forget
  exact (km_s (List.Mem.tail _ (List.Mem.head _)) (km_s (List.Mem.head _) (km_rf _ _ _)))
theorem F_t_forget_q (x : KS)   : kq [0] [] x (F_t_forget x).2 := kq_of (F_t_forget_fr x) (kq_c (Or.inr (by decide)) (kq_c (Or.inr (by decide)) kq_m)) kq_n
def F_t_letters_s  : Nat → Nat → KS → Int → Int → Int → Int × KS
  | 0, _, x, _, _, _ => (0, x)
  | n + 1, t, x, p0, p1, p2 => match t with
    | 0 => (fun (n0 : Int) (b : Int) (i : Int) => (if ((8 : Int)) ≤ (i) then (b, (F_t_forget (kS (x) (0) 14 ((0 : Int)))).2) else F_t_letters_s n 0 ((F_w_wipe (x) (7 + 2 * (i).toNat)).2) (n0) (b) ((i) + (1 : Int)))) p0 p1 p2
    | _ => (0, x)
theorem F_t_letters_e0  (n : Nat) (x : KS) (n0 : Int) (b : Int) (i : Int) : F_t_letters_s (n + 1) 0 x n0 b i = (if ((8 : Int)) ≤ (i) then (b, (F_t_forget (kS (x) (0) 14 ((0 : Int)))).2) else F_t_letters_s n 0 ((F_w_wipe (x) (7 + 2 * (i).toNat)).2) (n0) (b) ((i) + (1 : Int))) := rfl
def F_t_letters (x : KS) (n0 : Int) : Int × KS := (if (n0) < ((1 : Int)) then ((-2 : Int), x) else (if (n0) ≤ ((4 : Int)) then F_t_letters_s 20 0 ((F_w_wipe ((F_s_setLetters (x) (n0)).2) (4)).2) (n0) ((x).1 (1) 2) ((0 : Int)) else ((-2 : Int), x)))
set_option maxHeartbeats 4000000 in
set_option maxRecDepth 100000 in
/-- LikeWords, letters -/
theorem c_t_letters (l : Launch) (dC : Nat → ClassId) (dI : Nat → Nat → Nat) (ad : Nat → Nat) (cI cJ cZ cR : ClassId) (M wl sz : Nat) (x : KS) (n0 : Int) (hM : 87 ≤ M) (rn : iR n0) : Met l yX11_letters wsX11_letters ({ frames := 2, cells := 0, slots := 0, locals := 45 }) (kPc dC dI ad cI cJ cZ cR M wl sz x [.ref (ad 0), .int (iI n0)]) (va_Qi (fun (r : Int32) (u : KS) => r = iI (F_t_letters x n0).1 ∧ u = (F_t_letters x n0).2) (kAt dC dI ad cI cJ cZ cR M wl (va_A (kWd cI cJ cZ cR wl ad M (x)) sz)) (va_A (kWd cI cJ cZ cR wl ad M (x)) sz)) 0 0 (va_A (kWd cI cJ cZ cR wl ad M (x)) sz) := by
  refine Met.ofW (cc := cX11_letters) (maxL := 4) (ret := (some .int)) (by decide) rfl ?_
  intro p e s m args below meth c s₁ B hml hv
  obtain ⟨rfl, hsz, hP, hK, hD0, hNw⟩ := hv
  have hx := B.exec
  have hb := B.bytes
  have hr := B.returns
  have hts := atoms_spec (ws := wsX11_letters) B.pre
  have hown : s.vm.findClass RX11 = some m.cls := findClass_of_methodNamed B.named
  have hlocks := B.notSynchronized
  have hinX11 : ∀ w ∈ u_ws RX11 TX11 17, w ∈ wsX11_letters := by decide +kernel
  have hinX8 : ∀ w ∈ u_ws RX8 TX8 4, w ∈ wsX11_letters := by decide +kernel
  subst hsz
  have hD := hD0.self (sz := s.heap.size)
  generalize hAe : va_A (kWd cI cJ cZ cR wl ad M (x)) s.heap.size = A at hD ⊢
  have hA : ∀ q : Nat, s.heap.size ≤ q → A q := fun q h => by rw [← hAe]; exact Or.inr h
  have hS : va_S A s.heap s.heap [] := va_S.rf
  have hl := lv_entry ([.ref (ad 0), .int (iI n0)]) (n := 4) (Nat.le_of_ble_eq_true rfl)
  rw [lg_entry_eq]
  generalize (lg_sl ([.ref (ad 0), .int (iI n0)]) ++ List.replicate (4 - (lg_sl ([.ref (ad 0), .int (iI n0)])).length) Slot.unset).toArray = ls at hl ⊢
  have hl : lv_has ls 4 [(0, .ref (ad (0))), (1, .int (iI (n0)))] := hl
  have L : ∀ n : Nat, (∀ (y : KS) (b : Int) (i : Int), (0 ≤ i) → (i ≤ 8) → (8 - i < n) → F_t_letters_s n 0 y n0 b i = F_t_letters x n0 → ∀ (H : Heap) (locs : List Loc) (ls : Array Slot), va_P (dC, dI) vwCl (kWd cI cJ cZ cR wl ad M (y)) H → va_D A (kWd cI cJ cZ cR wl ad M (y)) → va_S A s.heap H locs → lv_has ls 4 [(0, .ref (ad (0))), (1, .int (iI (n0))), (2, .int (iI (b))), (3, .int (iI (i)))] → W p l e (headSpec wsX11_letters ({ frames := 2, cells := 0, slots := 0, locals := 45 })).room s m ([.ref (ad 0), .int (iI n0)] : List Value).toArray below meth c H locs 0 0 (MQ below (va_Qi (fun (r : Int32) (u : KS) => r = iI (F_t_letters x n0).1 ∧ u = (F_t_letters x n0).2) (kAt dC dI ad cI cJ cZ cR M wl A) A) ([.ref (ad 0), .int (iI n0)] : List Value).toArray s 0 0 A) (F0 m 38 ls [])) := by
    intro n
    induction n with
    | zero =>
      skip
      · intro y b i i0 i1 fu hres
        exact absurd fu (by omega)
    | succ n ih =>
      skip
      · intro y b i i0 i1 fu hres H locs ls hP hD hS hl
        rw [F_t_letters_e0] at hres
        refine lv_iload_n hx hb dX11_letters_38 rfl (lv_at hl 3 rfl) ?_
        refine lv_bipush (v := iI (8 : Int)) hx hb dX11_letters_39 (by decide) ?_
        refine wi_icmp_ge (tgt := 59) hx hb (by first | assumption | (unfold iR; omega) | exact kR01 (by assumption)) ⟨by decide, by decide⟩ dX11_letters_41 (by decide) (fun c_41 => ?_) (fun c_41 => ?_)
        · skip
          rw [if_pos c_41] at hres
          refine lv_aload_n hx hb dX11_letters_59 rfl (lv_at hl 0 rfl) ?_
          refine lv_iconst (v := iI (0 : Int)) hx hb dX11_letters_60 (by decide) ?_
          refine va_put (D := (dC, dI)) (ci := 11) (v := .int (iI ((0 : Int)))) (ty := .int) (C := RX11) (T := TX11) (N := 17) hx hb hts hinX11 tyX11 tyX11_ok nmX11 hown hK hP hD hS (0) (kg0 (by omega)) rfl 14 (by decide) (hts (.fieldLink RX11 110 "LikeWords" "lawsHeld" "I") (by decide +kernel)) (fun _ h9 => h9) rfl (by decide +kernel) rfl rfl (Nat.le_of_ble_eq_true rfl) dX11_letters_61 (fun H locs hP hD hS => ?_)
          rw [ks0_14] at hP hD
          refine lv_aload_n hx hb dX11_letters_64 rfl (lv_at hl 0 rfl) ?_
          have hFc : ∀ q, va_A (kWd cI cJ cZ cR wl ad M (kS (y) (0) 14 ((0 : Int)))) H.size q → A q := fun q hq => Or.elim hq (fun ⟨k, e, hk⟩ => hD.2 k (q, e) hk) (fun hk => hA q (Nat.le_trans hS.1 hk))
          refine va_callv (va_runV (b := ad (0)) (As := []) (rest := []) ⟨hx, hb, hml, hown, hts⟩ (c_t_forget l dC dI ad cI cJ cZ cR M wl H.size (kS (y) (0) 14 ((0 : Int)))   hM ) (cwV 0 hts gX11_letters_X11_forget rfl rfl rfl (by decide +kernel) ⟨Nat.le_of_ble_eq_true rfl, Nat.le_of_ble_eq_true rfl⟩) ⟨fun a U g mk q => by obtain ⟨q0, q1, qP, qK, qD, qN⟩ := q; exact ⟨q0, q1, qP, va_K.moved (u := U) (U := U.calling g mk a) (Vm.Alike.refl U.vm) qK, qD, kNw.same (u := U) (U := U.calling g mk a) rfl qN⟩, va_recv hK hP (ci := 11) (q0 := 0) rfl (kg0 (by omega)), fun U hU hW => ⟨rfl, by rw [hU], by rw [hU]; exact hP, va_K.moved hW.alike hK, hD.weaken (fun _ _ _ _ => trivial), kNw.warm hW hNw⟩⟩ rfl rfl hl.1 rfl (lv_room (Nat.le_of_ble_eq_true rfl)) dX11_letters_65 ⟨Nat.le_of_ble_eq_true rfl, Nat.le_of_ble_eq_true rfl⟩) hS (fun q _ h => hFc q h) hFc (fun u9 t H1 locs ht hvm hw hB hz1 hk1 hS => ?_)
          obtain ⟨hP1, hK1, hD1⟩ := hB
          rw [ht] at hP1
          rw [hw] at hP1 hD1
          have hD2 := hD1.weaken (B := A) (fun _ q _ h => hFc q.1 h)
          have hP := hP1
          have hD := hD2
          generalize H1 = H at hP hS ⊢
          refine lv_iload_n hx hb dX11_letters_68 rfl (lv_at hl 2 rfl) ?_
          exact W.iret (v := iI (b)) hx hb hr (fun t ht hW => ⟨⟨iI (b), (F_t_forget (kS (y) (0) 14 ((0 : Int)))).2, rfl, ⟨(by have h9 := congrArg (fun z : Int × KS => iI z.1) hres; exact h9), (by have h9 := congrArg (fun z : Int × KS => z.2) hres; exact h9)⟩, by rw [ht]; exact hP, va_K.moved hW.alike hK, hD⟩, hS.F ht⟩) hS.2.2 dX11_letters_69
        · skip
          rw [if_neg c_41] at hres
          refine lv_aload_n hx hb dX11_letters_44 rfl (lv_at hl 0 rfl) ?_
          refine va_get (D := (dC, dI)) (ci := 11) (v := .ref (ad (6))) (C := RX11) (T := TX11) (N := 17) hx hb hts hinX11 hown hK hP (0) (kg0 (by omega)) rfl 2 (by decide) (hts (.fieldLink RX11 25 "LikeWords" "slots" "[LLikeWords$Word;") (by decide +kernel)) (fun _ h9 => h9) rfl dX11_letters_45 ?_
          refine lv_iload_n hx hb dX11_letters_48 rfl (lv_at hl 3 rfl) ?_
          refine va_aldq (C := "LikeWords$Word") (n := 8) (f := fun j => some (ad (7 + 2 * j))) hx hb hK hP 6 3 (kget (by omega)) rfl (iI_in (z := i) (by omega) (by omega) (by decide)) dX11_letters_49 ?_
          rw [iI_clamp ⟨by omega, by omega⟩]
          refine W.eq (g2 := F0 m 50 ls [.ref (ad (7 + 2 * (i).toNat))]) rfl ?_
          have hFc : ∀ q, va_A (kWd cI cJ cZ cR wl ad M (y)) H.size q → A q := fun q hq => Or.elim hq (fun ⟨k, e, hk⟩ => hD.2 k (q, e) hk) (fun hk => hA q (Nat.le_trans hS.1 hk))
          refine va_callv (va_runV (b := ad (7 + 2 * (i).toNat)) (As := []) (rest := []) ⟨hx, hb, hml, hown, hts⟩ (c_w_wipe l dC dI ad cI cJ cZ cR M wl H.size (y) (7 + 2 * (i).toNat)  hM (kW_slot (by omega) (by omega)) (by omega) ) (cwV 0 hts gX11_letters_X10_wipe rfl rfl rfl (by decide +kernel) ⟨Nat.le_of_ble_eq_true rfl, Nat.le_of_ble_eq_true rfl⟩) ⟨fun a U g mk q => by obtain ⟨q0, q1, qP, qK, qD, qN⟩ := q; exact ⟨q0, q1, qP, va_K.moved (u := U) (U := U.calling g mk a) (Vm.Alike.refl U.vm) qK, qD, kNw.same (u := U) (U := U.calling g mk a) rfl qN⟩, va_recv hK hP (ci := 10) (q0 := 7 + 2 * (i).toNat) rfl (kgw (kW_slot (by omega) (by omega)) (by omega)), fun U hU hW => ⟨rfl, by rw [hU], by rw [hU]; exact hP, va_K.moved hW.alike hK, hD.weaken (fun _ _ _ _ => trivial), kNw.warm hW hNw⟩⟩ rfl rfl hl.1 rfl (lv_room (Nat.le_of_ble_eq_true rfl)) dX11_letters_50 ⟨Nat.le_of_ble_eq_true rfl, Nat.le_of_ble_eq_true rfl⟩) hS (fun q _ h => hFc q h) hFc (fun u9 t H1 locs ht hvm hw hB hz1 hk1 hS => ?_)
          obtain ⟨hP1, hK1, hD1⟩ := hB
          rw [ht] at hP1
          rw [hw] at hP1 hD1
          have hD2 := hD1.weaken (B := A) (fun _ q _ h => hFc q.1 h)
          have hP := hP1
          have hD := hD2
          generalize H1 = H at hP hS ⊢
          refine lv_iinc (v := iI ((i) + (1 : Int))) (lv' := [(3, .int (iI ((i) + (1 : Int)))), (0, .ref (ad (0))), (1, .int (iI (n0))), (2, .int (iI (b)))]) hx hb dX11_letters_53 hl (k := 3) rfl (iI_add _ _) (by decide) rfl (fun ls hl => ?_)
          refine lv_goto (tgt := 38) hx hb dX11_letters_56 (by decide) ?_
          exact ih ((F_w_wipe (y) (7 + 2 * (i).toNat)).2) (b) ((i) + (1 : Int)) (by omega) (by omega) (by omega) hres _ _ ls hP hD hS (lv_sub hl [1, 2, 3, 0] rfl)
  have key : ∀ (H : Heap) (locs : List Loc), va_P (dC, dI) vwCl (kWd cI cJ cZ cR wl ad M (x)) H → va_S A s.heap H locs → W p l e (headSpec wsX11_letters ({ frames := 2, cells := 0, slots := 0, locals := 45 })).room s m ([.ref (ad 0), .int (iI n0)] : List Value).toArray below meth c H locs 0 0 (MQ below (va_Qi (fun (r : Int32) (u : KS) => r = iI (F_t_letters x n0).1 ∧ u = (F_t_letters x n0).2) (kAt dC dI ad cI cJ cZ cR M wl A) A) ([.ref (ad 0), .int (iI n0)] : List Value).toArray s 0 0 A) (F0 m 0 ls []) := by
    intro H locs hP hS
    have hres : (if (n0) < ((1 : Int)) then ((-2 : Int), x) else (if (n0) ≤ ((4 : Int)) then F_t_letters_s 20 0 ((F_w_wipe ((F_s_setLetters (x) (n0)).2) (4)).2) (n0) ((x).1 (1) 2) ((0 : Int)) else ((-2 : Int), x))) = F_t_letters x n0 := rfl
    refine lv_iload_n hx hb dX11_letters_0 rfl (lv_at hl 1 rfl) ?_
    refine lv_iconst (v := iI (1 : Int)) hx hb dX11_letters_1 (by decide) ?_
    refine wi_icmp_lt (tgt := 10) hx hb (by first | assumption | (unfold iR; omega) | exact kR01 (by assumption)) ⟨by decide, by decide⟩ dX11_letters_2 (by decide) (fun c_2 => ?_) (fun c_2 => ?_)
    · skip
      rw [if_pos c_2] at hres
      refine lv_bipush (v := iI (-2 : Int)) hx hb dX11_letters_10 (by decide) ?_
      exact W.iret (v := iI ((-2 : Int))) hx hb hr (fun t ht hW => ⟨⟨iI ((-2 : Int)), x, rfl, ⟨(by have h9 := congrArg (fun z : Int × KS => iI z.1) hres; exact h9), (by have h9 := congrArg (fun z : Int × KS => z.2) hres; exact h9)⟩, by rw [ht]; exact hP, va_K.moved hW.alike hK, hD⟩, hS.F ht⟩) hS.2.2 dX11_letters_12
    · skip
      rw [if_neg c_2] at hres
      refine lv_iload_n hx hb dX11_letters_5 rfl (lv_at hl 1 rfl) ?_
      refine lv_iconst (v := iI (4 : Int)) hx hb dX11_letters_6 (by decide) ?_
      refine wi_icmp_le (tgt := 13) hx hb (by first | assumption | (unfold iR; omega) | exact kR01 (by assumption)) ⟨by decide, by decide⟩ dX11_letters_7 (by decide) (fun c_7 => ?_) (fun c_7 => ?_)
      · skip
        rw [if_pos c_7] at hres
        refine lv_aload_n hx hb dX11_letters_13 rfl (lv_at hl 0 rfl) ?_
        refine va_get (D := (dC, dI)) (ci := 11) (v := .ref (ad (1))) (C := RX11) (T := TX11) (N := 17) hx hb hts hinX11 hown hK hP (0) (kg0 (by omega)) rfl 0 (by decide) (hts (.fieldLink RX11 14 "LikeWords" "scale" "LLikeWords$Scale;") (by decide +kernel)) (fun _ h9 => h9) rfl dX11_letters_14 ?_
        refine va_get (D := (dC, dI)) (ci := 8) (v := .int (iI ((x).1 (1) 2))) (C := RX8) (T := TX8) (N := 4) hx hb hts hinX8 hown hK hP (1) (kg1 (by omega)) rfl 2 (by decide) (hts (.fieldLink RX11 100 "LikeWords$Scale" "letterCount" "I") (by decide +kernel)) (fun _ h9 => h9) rfl dX11_letters_17 ?_
        refine lv_istore_n (lv' := [(2, .int (iI ((x).1 (1) 2))), (0, .ref (ad (0))), (1, .int (iI (n0)))]) hx hb dX11_letters_20 rfl hl (by decide) rfl (fun ls hl => ?_)
        refine lv_aload_n hx hb dX11_letters_21 rfl (lv_at hl 1 rfl) ?_
        refine va_get (D := (dC, dI)) (ci := 11) (v := .ref (ad (1))) (C := RX11) (T := TX11) (N := 17) hx hb hts hinX11 hown hK hP (0) (kg0 (by omega)) rfl 0 (by decide) (hts (.fieldLink RX11 14 "LikeWords" "scale" "LLikeWords$Scale;") (by decide +kernel)) (fun _ h9 => h9) rfl dX11_letters_22 ?_
        refine lv_iload_n hx hb dX11_letters_25 rfl (lv_at hl 2 rfl) ?_
        have hFc : ∀ q, va_A (kWd cI cJ cZ cR wl ad M (x)) H.size q → A q := fun q hq => Or.elim hq (fun ⟨k, e, hk⟩ => hD.2 k (q, e) hk) (fun hk => hA q (Nat.le_trans hS.1 hk))
        refine va_callv (va_runV (b := ad (1)) (As := [.int (iI (n0))]) (rest := []) ⟨hx, hb, hml, hown, hts⟩ (c_s_setLetters l dC dI ad cI cJ cZ cR M wl H.size (x)  (n0) hM (by omega) (by omega)) (cwV 1 hts gX11_letters_X8_setLetters rfl rfl rfl (by decide +kernel) ⟨Nat.le_of_ble_eq_true rfl, Nat.le_of_ble_eq_true rfl⟩) ⟨fun a U g mk q => by obtain ⟨q0, q1, qP, qK, qD, qN⟩ := q; exact ⟨q0, q1, qP, va_K.moved (u := U) (U := U.calling g mk a) (Vm.Alike.refl U.vm) qK, qD, kNw.same (u := U) (U := U.calling g mk a) rfl qN⟩, va_recv hK hP (ci := 8) (q0 := 1) rfl (kg1 (by omega)), fun U hU hW => ⟨rfl, by rw [hU], by rw [hU]; exact hP, va_K.moved hW.alike hK, hD.weaken (fun _ _ _ _ => trivial), kNw.warm hW hNw⟩⟩ rfl rfl hl.1 rfl (lv_room (Nat.le_of_ble_eq_true rfl)) dX11_letters_26 ⟨Nat.le_of_ble_eq_true rfl, Nat.le_of_ble_eq_true rfl⟩) hS (fun q _ h => hFc q h) hFc (fun u9 t H1 locs ht hvm hw hB hz1 hk1 hS => ?_)
        obtain ⟨hP1, hK1, hD1⟩ := hB
        rw [ht] at hP1
        rw [hw] at hP1 hD1
        have hD2 := hD1.weaken (B := A) (fun _ q _ h => hFc q.1 h)
        have hP := hP1
        have hD := hD2
        generalize H1 = H at hP hS ⊢
        refine lv_aload_n hx hb dX11_letters_29 rfl (lv_at hl 1 rfl) ?_
        refine va_get (D := (dC, dI)) (ci := 11) (v := .ref (ad (4))) (C := RX11) (T := TX11) (N := 17) hx hb hts hinX11 hown hK hP (0) (kg0 (by omega)) rfl 1 (by decide) (hts (.fieldLink RX11 21 "LikeWords" "string" "LLikeWords$Word;") (by decide +kernel)) (fun _ h9 => h9) rfl dX11_letters_30 ?_
        have hFc : ∀ q, va_A (kWd cI cJ cZ cR wl ad M ((F_s_setLetters (x) (n0)).2)) H.size q → A q := fun q hq => Or.elim hq (fun ⟨k, e, hk⟩ => hD.2 k (q, e) hk) (fun hk => hA q (Nat.le_trans hS.1 hk))
        refine va_callv (va_runV (b := ad (4)) (As := []) (rest := []) ⟨hx, hb, hml, hown, hts⟩ (c_w_wipe l dC dI ad cI cJ cZ cR M wl H.size ((F_s_setLetters (x) (n0)).2) (4)  hM rfl (by omega) ) (cwV 0 hts gX11_letters_X10_wipe rfl rfl rfl (by decide +kernel) ⟨Nat.le_of_ble_eq_true rfl, Nat.le_of_ble_eq_true rfl⟩) ⟨fun a U g mk q => by obtain ⟨q0, q1, qP, qK, qD, qN⟩ := q; exact ⟨q0, q1, qP, va_K.moved (u := U) (U := U.calling g mk a) (Vm.Alike.refl U.vm) qK, qD, kNw.same (u := U) (U := U.calling g mk a) rfl qN⟩, va_recv hK hP (ci := 10) (q0 := 4) rfl (kgw rfl (by omega)), fun U hU hW => ⟨rfl, by rw [hU], by rw [hU]; exact hP, va_K.moved hW.alike hK, hD.weaken (fun _ _ _ _ => trivial), kNw.warm hW hNw⟩⟩ rfl rfl hl.1 rfl (lv_room (Nat.le_of_ble_eq_true rfl)) dX11_letters_33 ⟨Nat.le_of_ble_eq_true rfl, Nat.le_of_ble_eq_true rfl⟩) hS (fun q _ h => hFc q h) hFc (fun u9 t H1 locs ht hvm hw hB hz1 hk1 hS => ?_)
        obtain ⟨hP1, hK1, hD1⟩ := hB
        rw [ht] at hP1
        rw [hw] at hP1 hD1
        have hD2 := hD1.weaken (B := A) (fun _ q _ h => hFc q.1 h)
        have hP := hP1
        have hD := hD2
        generalize H1 = H at hP hS ⊢
        refine lv_iconst (v := iI (0 : Int)) hx hb dX11_letters_36 (by decide) ?_
        refine lv_istore_n (lv' := [(3, .int (iI ((0 : Int)))), (2, .int (iI ((x).1 (1) 2))), (0, .ref (ad (0))), (1, .int (iI (n0)))]) hx hb dX11_letters_37 rfl hl (by decide) rfl (fun ls hl => ?_)
        exact (L (20)) ((F_w_wipe ((F_s_setLetters (x) (n0)).2) (4)).2) ((x).1 (1) 2) ((0 : Int)) (by omega) (by omega) (by omega) hres _ _ ls hP hD hS (lv_sub hl [2, 3, 1, 0] rfl)
      · skip
        rw [if_neg c_7] at hres
        refine lv_bipush (v := iI (-2 : Int)) hx hb dX11_letters_10 (by decide) ?_
        exact W.iret (v := iI ((-2 : Int))) hx hb hr (fun t ht hW => ⟨⟨iI ((-2 : Int)), x, rfl, ⟨(by have h9 := congrArg (fun z : Int × KS => iI z.1) hres; exact h9), (by have h9 := congrArg (fun z : Int × KS => z.2) hres; exact h9)⟩, by rw [ht]; exact hP, va_K.moved hW.alike hK, hD⟩, hS.F ht⟩) hS.2.2 dX11_letters_12
  exact key _ _ hP hS
theorem F_t_letters_sfr  : ∀ n : Nat, (∀ (y : KS) (v0 : Int) (v1 : Int) (v2 : Int), ksame [(0, 14), (0, 15), (0, 16), (7, 1), (9, 1), (11, 1), (13, 1), (15, 1), (17, 1), (19, 1), (21, 1), (1, 3), (1, 2), (4, 1)] [2, 3] y (F_t_letters_s n 0 y v0 v1 v2).2) := by
  intro n
  induction n with
  | zero => exact fun y _ _ _ => km_rf _ _ _
  | succ n ih =>
    skip
    · intro y n0 b i
      rw [F_t_letters_e0]
      by_cases hc : ((8 : Int)) ≤ (i)
      · rw [if_pos hc]
        exact (km_tr (km_s (List.Mem.head _) (km_rf _ _ _)) (km_mono (km1 (List.Mem.tail _ (List.Mem.head _)) (km1 (List.Mem.tail _ (List.Mem.tail _ (List.Mem.head _))) km0)) km0 (F_t_forget_fr (kS (y) (0) 14 ((0 : Int))))))
      · rw [if_neg hc]
        exact km_tr ((km_tr (km_rf _ _ _) (km_mono (km1 (by have h9 : (i).toNat < 8 := (by omega); revert h9; generalize (i).toNat = t9; revert t9; decide) km0) km0 (F_w_wipe_fr (y) (7 + 2 * (i).toNat))))) (ih ((F_w_wipe (y) (7 + 2 * (i).toNat)).2) (n0) (b) ((i) + (1 : Int)))
theorem F_t_letters_fr (x : KS) (n0 : Int) : ksame [(0, 14), (0, 15), (0, 16), (7, 1), (9, 1), (11, 1), (13, 1), (15, 1), (17, 1), (19, 1), (21, 1), (1, 3), (1, 2), (4, 1)] [2, 3] x (F_t_letters x n0).2 := by
  unfold F_t_letters
  by_cases hc : (n0) < ((1 : Int))
  · rw [if_pos hc]
    exact (km_rf _ _ _)
  · rw [if_neg hc]
    by_cases hc : (n0) ≤ ((4 : Int))
    · rw [if_pos hc]
      exact km_tr ((km_tr (km_tr (km_rf _ _ _) (km_mono (km1 (List.Mem.tail _ (List.Mem.tail _ (List.Mem.tail _ (List.Mem.tail _ (List.Mem.tail _ (List.Mem.tail _ (List.Mem.tail _ (List.Mem.tail _ (List.Mem.tail _ (List.Mem.tail _ (List.Mem.tail _ (List.Mem.head _)))))))))))) (km1 (List.Mem.tail _ (List.Mem.tail _ (List.Mem.tail _ (List.Mem.tail _ (List.Mem.tail _ (List.Mem.tail _ (List.Mem.tail _ (List.Mem.tail _ (List.Mem.tail _ (List.Mem.tail _ (List.Mem.tail _ (List.Mem.tail _ (List.Mem.head _))))))))))))) km0)) (km1 (List.Mem.head _) (km1 (List.Mem.tail _ (List.Mem.head _)) km0)) (F_s_setLetters_fr (x) (n0)))) (km_mono (km1 (List.Mem.tail _ (List.Mem.tail _ (List.Mem.tail _ (List.Mem.tail _ (List.Mem.tail _ (List.Mem.tail _ (List.Mem.tail _ (List.Mem.tail _ (List.Mem.tail _ (List.Mem.tail _ (List.Mem.tail _ (List.Mem.tail _ (List.Mem.tail _ (List.Mem.head _)))))))))))))) km0) km0 (F_w_wipe_fr ((F_s_setLetters (x) (n0)).2) (4))))) ((F_t_letters_sfr  (20)) ((F_w_wipe ((F_s_setLetters (x) (n0)).2) (4)).2) (n0) ((x).1 (1) 2) ((0 : Int)))
    · rw [if_neg hc]
      exact (km_rf _ _ _)
theorem F_t_letters_q (x : KS) (n0 : Int)  : kq [0, 1] [2, 3] x (F_t_letters x n0).2 := kq_of (F_t_letters_fr x n0) (kq_c (Or.inr (by decide)) (kq_c (Or.inr (by decide)) (kq_c (Or.inr (by decide)) (kq_c (Or.inl rfl) (kq_c (Or.inl rfl) (kq_c (Or.inl rfl) (kq_c (Or.inl rfl) (kq_c (Or.inl rfl) (kq_c (Or.inl rfl) (kq_c (Or.inl rfl) (kq_c (Or.inl rfl) (kq_c (Or.inr (by decide)) (kq_c (Or.inr (by decide)) (kq_c (Or.inl rfl) kq_m)))))))))))))) (kq_c (Or.inr (by decide)) (kq_c (Or.inr (by decide)) kq_n))
def F_t_letter (x : KS) (z : Int) : Int × KS := (if ((F_t_isLetter (x) (z)).1) = (0) then ((-1 : Int), x) else (if ((F_w_push (x) (4) (z)).1) = (0) then ((-4 : Int), (F_w_push (x) (4) (z)).2) else (((F_w_push (x) (4) (z)).2).1 (4) 1, (F_w_push (x) (4) (z)).2)))
set_option maxHeartbeats 4000000 in
set_option maxRecDepth 100000 in
/-- LikeWords, letter -/
theorem c_t_letter (l : Launch) (dC : Nat → ClassId) (dI : Nat → Nat → Nat) (ad : Nat → Nat) (cI cJ cZ cR : ClassId) (M wl sz : Nat) (x : KS) (z : Int) (hM : 87 ≤ M) (rz : iR z) (l2 : 1 ≤ x.1 1 2 ∧ x.1 1 2 ≤ 4) (u0 : 0 ≤ x.1 4 1) (u1 : x.1 4 1 ≤ 60) : Met l yX11_letter wsX11_letter ({ frames := 1, cells := 0, slots := 0, locals := 21 }) (kPc dC dI ad cI cJ cZ cR M wl sz x [.ref (ad 0), .int (iI z)]) (va_Qi (fun (r : Int32) (u : KS) => r = iI (F_t_letter x z).1 ∧ u = (F_t_letter x z).2) (kAt dC dI ad cI cJ cZ cR M wl (va_A (kWd cI cJ cZ cR wl ad M (x)) sz)) (va_A (kWd cI cJ cZ cR wl ad M (x)) sz)) 0 0 (va_A (kWd cI cJ cZ cR wl ad M (x)) sz) := by
  refine Met.ofW (cc := cX11_letter) (maxL := 2) (ret := (some .int)) (by decide) rfl ?_
  intro p e s m args below meth c s₁ B hml hv
  obtain ⟨rfl, hsz, hP, hK, hD0, hNw⟩ := hv
  have hx := B.exec
  have hb := B.bytes
  have hr := B.returns
  have hts := atoms_spec (ws := wsX11_letter) B.pre
  have hown : s.vm.findClass RX11 = some m.cls := findClass_of_methodNamed B.named
  have hlocks := B.notSynchronized
  have hinX10 : ∀ w ∈ u_ws RX10 TX10 2, w ∈ wsX11_letter := by decide +kernel
  have hinX11 : ∀ w ∈ u_ws RX11 TX11 17, w ∈ wsX11_letter := by decide +kernel
  subst hsz
  have hD := hD0.self (sz := s.heap.size)
  generalize hAe : va_A (kWd cI cJ cZ cR wl ad M (x)) s.heap.size = A at hD ⊢
  have hA : ∀ q : Nat, s.heap.size ≤ q → A q := fun q h => by rw [← hAe]; exact Or.inr h
  have hS : va_S A s.heap s.heap [] := va_S.rf
  have hl := lv_entry ([.ref (ad 0), .int (iI z)]) (n := 2) (Nat.le_of_ble_eq_true rfl)
  rw [lg_entry_eq]
  generalize (lg_sl ([.ref (ad 0), .int (iI z)]) ++ List.replicate (2 - (lg_sl ([.ref (ad 0), .int (iI z)])).length) Slot.unset).toArray = ls at hl ⊢
  have hl : lv_has ls 2 [(0, .ref (ad (0))), (1, .int (iI (z)))] := hl
  have key : ∀ (H : Heap) (locs : List Loc), va_P (dC, dI) vwCl (kWd cI cJ cZ cR wl ad M (x)) H → va_S A s.heap H locs → W p l e (headSpec wsX11_letter ({ frames := 1, cells := 0, slots := 0, locals := 21 })).room s m ([.ref (ad 0), .int (iI z)] : List Value).toArray below meth c H locs 0 0 (MQ below (va_Qi (fun (r : Int32) (u : KS) => r = iI (F_t_letter x z).1 ∧ u = (F_t_letter x z).2) (kAt dC dI ad cI cJ cZ cR M wl A) A) ([.ref (ad 0), .int (iI z)] : List Value).toArray s 0 0 A) (F0 m 0 ls []) := by
    intro H locs hP hS
    have hres : (if ((F_t_isLetter (x) (z)).1) = (0) then ((-1 : Int), x) else (if ((F_w_push (x) (4) (z)).1) = (0) then ((-4 : Int), (F_w_push (x) (4) (z)).2) else (((F_w_push (x) (4) (z)).2).1 (4) 1, (F_w_push (x) (4) (z)).2))) = F_t_letter x z := rfl
    refine lv_aload_n hx hb dX11_letter_0 rfl (lv_at hl 0 rfl) ?_
    refine lv_iload_n hx hb dX11_letter_1 rfl (lv_at hl 1 rfl) ?_
    have hFc : ∀ q, va_A (kWd cI cJ cZ cR wl ad M (x)) H.size q → A q := fun q hq => Or.elim hq (fun ⟨k, e, hk⟩ => hD.2 k (q, e) hk) (fun hk => hA q (Nat.le_trans hS.1 hk))
    refine va_calli (va_runV (b := ad (0)) (As := [.int (iI (z))]) (rest := []) ⟨hx, hb, hml, hown, hts⟩ (c_t_isLetter l dC dI ad cI cJ cZ cR M wl H.size (x)  (z) hM rz l2) (cwV 1 hts gX11_letter_X11_isLetter rfl rfl rfl (by decide +kernel) ⟨Nat.le_of_ble_eq_true rfl, Nat.le_of_ble_eq_true rfl⟩) ⟨fun a U g mk q => by obtain ⟨q0, q1, qP, qK, qD, qN⟩ := q; exact ⟨q0, q1, qP, va_K.moved (u := U) (U := U.calling g mk a) (Vm.Alike.refl U.vm) qK, qD, kNw.same (u := U) (U := U.calling g mk a) rfl qN⟩, va_recv hK hP (ci := 11) (q0 := 0) rfl (kg0 (by omega)), fun U hU hW => ⟨rfl, by rw [hU], by rw [hU]; exact hP, va_K.moved hW.alike hK, hD.weaken (fun _ _ _ _ => trivial), kNw.warm hW hNw⟩⟩ rfl rfl hl.1 rfl (lv_room (Nat.le_of_ble_eq_true rfl)) dX11_letter_2 ⟨Nat.le_of_ble_eq_true rfl, Nat.le_of_ble_eq_true rfl⟩) hS (fun q _ h => hFc q h) hFc (fun r9 u9 t H1 locs ht hvm hw hB hz1 hk1 hS => ?_)
    obtain ⟨hP1, hK1, hD1⟩ := hB
    rw [ht] at hP1
    obtain ⟨hw1, hw2⟩ := hw
    rw [hw2] at hP1 hD1
    rw [hw1]
    rw [F_t_isLetter_2] at hP1 hD1
    have hD2 := hD1.weaken (B := A) (fun _ q _ h => hFc q.1 h)
    have hP := hP1
    have hD := hD2
    generalize H1 = H at hP hS ⊢
    refine wi_if_ne (tgt := 10) hx hb (kR01 (F_t_isLetter_01 _ _)) dX11_letter_5 (by decide) (fun c_5 => ?_) (fun c_5 => ?_)
    · skip
      rw [if_neg c_5] at hres
      refine lv_aload_n hx hb dX11_letter_10 rfl (lv_at hl 0 rfl) ?_
      refine va_get (D := (dC, dI)) (ci := 11) (v := .ref (ad (4))) (C := RX11) (T := TX11) (N := 17) hx hb hts hinX11 hown hK hP (0) (kg0 (by omega)) rfl 1 (by decide) (hts (.fieldLink RX11 21 "LikeWords" "string" "LLikeWords$Word;") (by decide +kernel)) (fun _ h9 => h9) rfl dX11_letter_11 ?_
      refine lv_iload_n hx hb dX11_letter_14 rfl (lv_at hl 1 rfl) ?_
      have hFc : ∀ q, va_A (kWd cI cJ cZ cR wl ad M (x)) H.size q → A q := fun q hq => Or.elim hq (fun ⟨k, e, hk⟩ => hD.2 k (q, e) hk) (fun hk => hA q (Nat.le_trans hS.1 hk))
      refine va_calli (va_runV (b := ad (4)) (As := [.int (iI (z))]) (rest := []) ⟨hx, hb, hml, hown, hts⟩ (c_w_push l dC dI ad cI cJ cZ cR M wl H.size (x) (4) (z) hM rfl (by omega) u0 u1) (cwV 1 hts gX11_letter_X10_push rfl rfl rfl (by decide +kernel) ⟨Nat.le_of_ble_eq_true rfl, Nat.le_of_ble_eq_true rfl⟩) ⟨fun a U g mk q => by obtain ⟨q0, q1, qP, qK, qD, qN⟩ := q; exact ⟨q0, q1, qP, va_K.moved (u := U) (U := U.calling g mk a) (Vm.Alike.refl U.vm) qK, qD, kNw.same (u := U) (U := U.calling g mk a) rfl qN⟩, va_recv hK hP (ci := 10) (q0 := 4) rfl (kgw rfl (by omega)), fun U hU hW => ⟨rfl, by rw [hU], by rw [hU]; exact hP, va_K.moved hW.alike hK, hD.weaken (fun _ _ _ _ => trivial), kNw.warm hW hNw⟩⟩ rfl rfl hl.1 rfl (lv_room (Nat.le_of_ble_eq_true rfl)) dX11_letter_15 ⟨Nat.le_of_ble_eq_true rfl, Nat.le_of_ble_eq_true rfl⟩) hS (fun q _ h => hFc q h) hFc (fun r9 u9 t H1 locs ht hvm hw hB hz1 hk1 hS => ?_)
      obtain ⟨hP1, hK1, hD1⟩ := hB
      rw [ht] at hP1
      obtain ⟨hw1, hw2⟩ := hw
      rw [hw2] at hP1 hD1
      rw [hw1]
      have hD2 := hD1.weaken (B := A) (fun _ q _ h => hFc q.1 h)
      have hP := hP1
      have hD := hD2
      generalize H1 = H at hP hS ⊢
      refine wi_if_eq (tgt := 31) hx hb (kR01 (F_w_push_01 _ _ _)) dX11_letter_18 (by decide) (fun c_18 => ?_) (fun c_18 => ?_)
      · skip
        rw [if_pos c_18] at hres
        refine lv_bipush (v := iI (-4 : Int)) hx hb dX11_letter_31 (by decide) ?_
        exact W.iret (v := iI ((-4 : Int))) hx hb hr (fun t ht hW => ⟨⟨iI ((-4 : Int)), (F_w_push (x) (4) (z)).2, rfl, ⟨(by have h9 := congrArg (fun z : Int × KS => iI z.1) hres; exact h9), (by have h9 := congrArg (fun z : Int × KS => z.2) hres; exact h9)⟩, by rw [ht]; exact hP, va_K.moved hW.alike hK, hD⟩, hS.F ht⟩) hS.2.2 dX11_letter_33
      · skip
        rw [if_neg c_18] at hres
        refine lv_aload_n hx hb dX11_letter_21 rfl (lv_at hl 0 rfl) ?_
        refine va_get (D := (dC, dI)) (ci := 11) (v := .ref (ad (4))) (C := RX11) (T := TX11) (N := 17) hx hb hts hinX11 hown hK hP (0) (kg0 (by omega)) rfl 1 (by decide) (hts (.fieldLink RX11 21 "LikeWords" "string" "LLikeWords$Word;") (by decide +kernel)) (fun _ h9 => h9) rfl dX11_letter_22 ?_
        refine va_get (D := (dC, dI)) (ci := 10) (v := .int (iI (((F_w_push (x) (4) (z)).2).1 (4) 1))) (C := RX10) (T := TX10) (N := 2) hx hb hts hinX10 hown hK hP (4) (kgw rfl (by omega)) rfl 1 (by decide) (hts (.fieldLink RX11 123 "LikeWords$Word" "used" "I") (by decide +kernel)) (fun _ h9 => h9) rfl dX11_letter_25 ?_
        refine lv_goto (tgt := 33) hx hb dX11_letter_28 (by decide) ?_
        exact W.iret (v := iI (((F_w_push (x) (4) (z)).2).1 (4) 1)) hx hb hr (fun t ht hW => ⟨⟨iI (((F_w_push (x) (4) (z)).2).1 (4) 1), (F_w_push (x) (4) (z)).2, rfl, ⟨(by have h9 := congrArg (fun z : Int × KS => iI z.1) hres; exact h9), (by have h9 := congrArg (fun z : Int × KS => z.2) hres; exact h9)⟩, by rw [ht]; exact hP, va_K.moved hW.alike hK, hD⟩, hS.F ht⟩) hS.2.2 dX11_letter_33
    · skip
      rw [if_pos c_5] at hres
      refine lv_iconst (v := iI (-1 : Int)) hx hb dX11_letter_8 (by decide) ?_
      exact W.iret (v := iI ((-1 : Int))) hx hb hr (fun t ht hW => ⟨⟨iI ((-1 : Int)), x, rfl, ⟨(by have h9 := congrArg (fun z : Int × KS => iI z.1) hres; exact h9), (by have h9 := congrArg (fun z : Int × KS => z.2) hres; exact h9)⟩, by rw [ht]; exact hP, va_K.moved hW.alike hK, hD⟩, hS.F ht⟩) hS.2.2 dX11_letter_9
  exact key _ _ hP hS
theorem F_t_letter_fr (x : KS) (z : Int) : ksame [(4, 1)] [5] x (F_t_letter x z).2 := by
  unfold F_t_letter
  by_cases hc : ((F_t_isLetter (x) (z)).1) = (0)
  · rw [if_pos hc]
    exact (km_rf _ _ _)
  · rw [if_neg hc]
    by_cases hc : ((F_w_push (x) (4) (z)).1) = (0)
    · rw [if_pos hc]
      exact (km_tr (km_rf _ _ _) (km_mono (km1 (List.Mem.head _) km0) (km1 (List.Mem.head _) km0) (F_w_push_fr (x) (4) (z))))
    · rw [if_neg hc]
      exact (km_tr (km_rf _ _ _) (km_mono (km1 (List.Mem.head _) km0) (km1 (List.Mem.head _) km0) (F_w_push_fr (x) (4) (z))))
theorem F_t_letter_q (x : KS) (z : Int)  : kq [] [] x (F_t_letter x z).2 := kq_of (F_t_letter_fr x z) (kq_c (Or.inl rfl) kq_m) (kq_c (Or.inl rfl) kq_n)
def F_t_clear (x : KS)  : Int × KS := ((x).1 (4) 1, (F_w_wipe (x) (4)).2)
set_option maxHeartbeats 4000000 in
set_option maxRecDepth 100000 in
/-- LikeWords, clear -/
theorem c_t_clear (l : Launch) (dC : Nat → ClassId) (dI : Nat → Nat → Nat) (ad : Nat → Nat) (cI cJ cZ cR : ClassId) (M wl sz : Nat) (x : KS)  (hM : 87 ≤ M)  : Met l yX11_clear wsX11_clear ({ frames := 1, cells := 0, slots := 0, locals := 20 }) (kPc dC dI ad cI cJ cZ cR M wl sz x [.ref (ad 0)]) (va_Qi (fun (r : Int32) (u : KS) => r = iI (F_t_clear x).1 ∧ u = (F_t_clear x).2) (kAt dC dI ad cI cJ cZ cR M wl (va_A (kWd cI cJ cZ cR wl ad M (x)) sz)) (va_A (kWd cI cJ cZ cR wl ad M (x)) sz)) 0 0 (va_A (kWd cI cJ cZ cR wl ad M (x)) sz) := by
  refine Met.ofW (cc := cX11_clear) (maxL := 2) (ret := (some .int)) (by decide) rfl ?_
  intro p e s m args below meth c s₁ B hml hv
  obtain ⟨rfl, hsz, hP, hK, hD0, hNw⟩ := hv
  have hx := B.exec
  have hb := B.bytes
  have hr := B.returns
  have hts := atoms_spec (ws := wsX11_clear) B.pre
  have hown : s.vm.findClass RX11 = some m.cls := findClass_of_methodNamed B.named
  have hlocks := B.notSynchronized
  have hinX10 : ∀ w ∈ u_ws RX10 TX10 2, w ∈ wsX11_clear := by decide +kernel
  have hinX11 : ∀ w ∈ u_ws RX11 TX11 17, w ∈ wsX11_clear := by decide +kernel
  subst hsz
  have hD := hD0.self (sz := s.heap.size)
  generalize hAe : va_A (kWd cI cJ cZ cR wl ad M (x)) s.heap.size = A at hD ⊢
  have hA : ∀ q : Nat, s.heap.size ≤ q → A q := fun q h => by rw [← hAe]; exact Or.inr h
  have hS : va_S A s.heap s.heap [] := va_S.rf
  have hl := lv_entry ([.ref (ad 0)]) (n := 2) (Nat.le_of_ble_eq_true rfl)
  rw [lg_entry_eq]
  generalize (lg_sl ([.ref (ad 0)]) ++ List.replicate (2 - (lg_sl ([.ref (ad 0)])).length) Slot.unset).toArray = ls at hl ⊢
  have hl : lv_has ls 2 [(0, .ref (ad (0)))] := hl
  have key : ∀ (H : Heap) (locs : List Loc), va_P (dC, dI) vwCl (kWd cI cJ cZ cR wl ad M (x)) H → va_S A s.heap H locs → W p l e (headSpec wsX11_clear ({ frames := 1, cells := 0, slots := 0, locals := 20 })).room s m ([.ref (ad 0)] : List Value).toArray below meth c H locs 0 0 (MQ below (va_Qi (fun (r : Int32) (u : KS) => r = iI (F_t_clear x).1 ∧ u = (F_t_clear x).2) (kAt dC dI ad cI cJ cZ cR M wl A) A) ([.ref (ad 0)] : List Value).toArray s 0 0 A) (F0 m 0 ls []) := by
    intro H locs hP hS
    have hres : ((x).1 (4) 1, (F_w_wipe (x) (4)).2) = F_t_clear x := rfl
    refine lv_aload_n hx hb dX11_clear_0 rfl (lv_at hl 0 rfl) ?_
    refine va_get (D := (dC, dI)) (ci := 11) (v := .ref (ad (4))) (C := RX11) (T := TX11) (N := 17) hx hb hts hinX11 hown hK hP (0) (kg0 (by omega)) rfl 1 (by decide) (hts (.fieldLink RX11 21 "LikeWords" "string" "LLikeWords$Word;") (by decide +kernel)) (fun _ h9 => h9) rfl dX11_clear_1 ?_
    refine va_get (D := (dC, dI)) (ci := 10) (v := .int (iI ((x).1 (4) 1))) (C := RX10) (T := TX10) (N := 2) hx hb hts hinX10 hown hK hP (4) (kgw rfl (by omega)) rfl 1 (by decide) (hts (.fieldLink RX11 123 "LikeWords$Word" "used" "I") (by decide +kernel)) (fun _ h9 => h9) rfl dX11_clear_4 ?_
    refine lv_istore_n (lv' := [(1, .int (iI ((x).1 (4) 1))), (0, .ref (ad (0)))]) hx hb dX11_clear_7 rfl hl (by decide) rfl (fun ls hl => ?_)
    refine lv_aload_n hx hb dX11_clear_8 rfl (lv_at hl 1 rfl) ?_
    refine va_get (D := (dC, dI)) (ci := 11) (v := .ref (ad (4))) (C := RX11) (T := TX11) (N := 17) hx hb hts hinX11 hown hK hP (0) (kg0 (by omega)) rfl 1 (by decide) (hts (.fieldLink RX11 21 "LikeWords" "string" "LLikeWords$Word;") (by decide +kernel)) (fun _ h9 => h9) rfl dX11_clear_9 ?_
    have hFc : ∀ q, va_A (kWd cI cJ cZ cR wl ad M (x)) H.size q → A q := fun q hq => Or.elim hq (fun ⟨k, e, hk⟩ => hD.2 k (q, e) hk) (fun hk => hA q (Nat.le_trans hS.1 hk))
    refine va_callv (va_runV (b := ad (4)) (As := []) (rest := []) ⟨hx, hb, hml, hown, hts⟩ (c_w_wipe l dC dI ad cI cJ cZ cR M wl H.size (x) (4)  hM rfl (by omega) ) (cwV 0 hts gX11_clear_X10_wipe rfl rfl rfl (by decide +kernel) ⟨Nat.le_of_ble_eq_true rfl, Nat.le_of_ble_eq_true rfl⟩) ⟨fun a U g mk q => by obtain ⟨q0, q1, qP, qK, qD, qN⟩ := q; exact ⟨q0, q1, qP, va_K.moved (u := U) (U := U.calling g mk a) (Vm.Alike.refl U.vm) qK, qD, kNw.same (u := U) (U := U.calling g mk a) rfl qN⟩, va_recv hK hP (ci := 10) (q0 := 4) rfl (kgw rfl (by omega)), fun U hU hW => ⟨rfl, by rw [hU], by rw [hU]; exact hP, va_K.moved hW.alike hK, hD.weaken (fun _ _ _ _ => trivial), kNw.warm hW hNw⟩⟩ rfl rfl hl.1 rfl (lv_room (Nat.le_of_ble_eq_true rfl)) dX11_clear_12 ⟨Nat.le_of_ble_eq_true rfl, Nat.le_of_ble_eq_true rfl⟩) hS (fun q _ h => hFc q h) hFc (fun u9 t H1 locs ht hvm hw hB hz1 hk1 hS => ?_)
    obtain ⟨hP1, hK1, hD1⟩ := hB
    rw [ht] at hP1
    rw [hw] at hP1 hD1
    have hD2 := hD1.weaken (B := A) (fun _ q _ h => hFc q.1 h)
    have hP := hP1
    have hD := hD2
    generalize H1 = H at hP hS ⊢
    refine lv_iload_n hx hb dX11_clear_15 rfl (lv_at hl 0 rfl) ?_
    exact W.iret (v := iI ((x).1 (4) 1)) hx hb hr (fun t ht hW => ⟨⟨iI ((x).1 (4) 1), (F_w_wipe (x) (4)).2, rfl, ⟨(by have h9 := congrArg (fun z : Int × KS => iI z.1) hres; exact h9), (by have h9 := congrArg (fun z : Int × KS => z.2) hres; exact h9)⟩, by rw [ht]; exact hP, va_K.moved hW.alike hK, hD⟩, hS.F ht⟩) hS.2.2 dX11_clear_16
  exact key _ _ hP hS
theorem F_t_clear_fr (x : KS)  : ksame [(4, 1)] [] x (F_t_clear x).2 := by
  unfold F_t_clear
  exact (km_tr (km_rf _ _ _) (km_mono (km1 (List.Mem.head _) km0) km0 (F_w_wipe_fr (x) (4))))
theorem F_t_clear_q (x : KS)   : kq [] [] x (F_t_clear x).2 := kq_of (F_t_clear_fr x) (kq_c (Or.inl rfl) kq_m) kq_n
def F_t_slot (x : KS) (k : Int) : Int × KS := (if ((F_t_isSlot (x) (k)).1) = (0) then ((-1 : Int), x) else (((F_w_wipe ((F_w_take (x) (7 + 2 * (k).toNat) (4)).2) (4)).2).1 (7 + 2 * (k).toNat) 1, (F_w_wipe ((F_w_take (x) (7 + 2 * (k).toNat) (4)).2) (4)).2))
set_option maxHeartbeats 4000000 in
set_option maxRecDepth 100000 in
/-- LikeWords, slot -/
theorem c_t_slot (l : Launch) (dC : Nat → ClassId) (dI : Nat → Nat → Nat) (ad : Nat → Nat) (cI cJ cZ cR : ClassId) (M wl sz : Nat) (x : KS) (k : Int) (hM : 87 ≤ M) (rk : iR k) (u0 : 0 ≤ x.1 4 1) (u1 : x.1 4 1 ≤ 60) : Met l yX11_slot wsX11_slot ({ frames := 2, cells := 0, slots := 0, locals := 43 }) (kPc dC dI ad cI cJ cZ cR M wl sz x [.ref (ad 0), .int (iI k)]) (va_Qi (fun (r : Int32) (u : KS) => r = iI (F_t_slot x k).1 ∧ u = (F_t_slot x k).2) (kAt dC dI ad cI cJ cZ cR M wl (va_A (kWd cI cJ cZ cR wl ad M (x)) sz)) (va_A (kWd cI cJ cZ cR wl ad M (x)) sz)) 0 0 (va_A (kWd cI cJ cZ cR wl ad M (x)) sz) := by
  refine Met.ofW (cc := cX11_slot) (maxL := 2) (ret := (some .int)) (by decide) rfl ?_
  intro p e s m args below meth c s₁ B hml hv
  obtain ⟨rfl, hsz, hP, hK, hD0, hNw⟩ := hv
  have hx := B.exec
  have hb := B.bytes
  have hr := B.returns
  have hts := atoms_spec (ws := wsX11_slot) B.pre
  have hown : s.vm.findClass RX11 = some m.cls := findClass_of_methodNamed B.named
  have hlocks := B.notSynchronized
  have hinX10 : ∀ w ∈ u_ws RX10 TX10 2, w ∈ wsX11_slot := by decide +kernel
  have hinX11 : ∀ w ∈ u_ws RX11 TX11 17, w ∈ wsX11_slot := by decide +kernel
  subst hsz
  have hD := hD0.self (sz := s.heap.size)
  generalize hAe : va_A (kWd cI cJ cZ cR wl ad M (x)) s.heap.size = A at hD ⊢
  have hA : ∀ q : Nat, s.heap.size ≤ q → A q := fun q h => by rw [← hAe]; exact Or.inr h
  have hS : va_S A s.heap s.heap [] := va_S.rf
  have hl := lv_entry ([.ref (ad 0), .int (iI k)]) (n := 2) (Nat.le_of_ble_eq_true rfl)
  rw [lg_entry_eq]
  generalize (lg_sl ([.ref (ad 0), .int (iI k)]) ++ List.replicate (2 - (lg_sl ([.ref (ad 0), .int (iI k)])).length) Slot.unset).toArray = ls at hl ⊢
  have hl : lv_has ls 2 [(0, .ref (ad (0))), (1, .int (iI (k)))] := hl
  have key : ∀ (H : Heap) (locs : List Loc), va_P (dC, dI) vwCl (kWd cI cJ cZ cR wl ad M (x)) H → va_S A s.heap H locs → W p l e (headSpec wsX11_slot ({ frames := 2, cells := 0, slots := 0, locals := 43 })).room s m ([.ref (ad 0), .int (iI k)] : List Value).toArray below meth c H locs 0 0 (MQ below (va_Qi (fun (r : Int32) (u : KS) => r = iI (F_t_slot x k).1 ∧ u = (F_t_slot x k).2) (kAt dC dI ad cI cJ cZ cR M wl A) A) ([.ref (ad 0), .int (iI k)] : List Value).toArray s 0 0 A) (F0 m 0 ls []) := by
    intro H locs hP hS
    have hres : (if ((F_t_isSlot (x) (k)).1) = (0) then ((-1 : Int), x) else (((F_w_wipe ((F_w_take (x) (7 + 2 * (k).toNat) (4)).2) (4)).2).1 (7 + 2 * (k).toNat) 1, (F_w_wipe ((F_w_take (x) (7 + 2 * (k).toNat) (4)).2) (4)).2)) = F_t_slot x k := rfl
    refine lv_aload_n hx hb dX11_slot_0 rfl (lv_at hl 0 rfl) ?_
    refine lv_iload_n hx hb dX11_slot_1 rfl (lv_at hl 1 rfl) ?_
    have hFc : ∀ q, va_A (kWd cI cJ cZ cR wl ad M (x)) H.size q → A q := fun q hq => Or.elim hq (fun ⟨k, e, hk⟩ => hD.2 k (q, e) hk) (fun hk => hA q (Nat.le_trans hS.1 hk))
    refine va_calli (va_runV (b := ad (0)) (As := [.int (iI (k))]) (rest := []) ⟨hx, hb, hml, hown, hts⟩ (c_t_isSlot l dC dI ad cI cJ cZ cR M wl H.size (x)  (k) hM rk) (cwV 1 hts gX11_slot_X11_isSlot rfl rfl rfl (by decide +kernel) ⟨Nat.le_of_ble_eq_true rfl, Nat.le_of_ble_eq_true rfl⟩) ⟨fun a U g mk q => by obtain ⟨q0, q1, qP, qK, qD, qN⟩ := q; exact ⟨q0, q1, qP, va_K.moved (u := U) (U := U.calling g mk a) (Vm.Alike.refl U.vm) qK, qD, kNw.same (u := U) (U := U.calling g mk a) rfl qN⟩, va_recv hK hP (ci := 11) (q0 := 0) rfl (kg0 (by omega)), fun U hU hW => ⟨rfl, by rw [hU], by rw [hU]; exact hP, va_K.moved hW.alike hK, hD.weaken (fun _ _ _ _ => trivial), kNw.warm hW hNw⟩⟩ rfl rfl hl.1 rfl (lv_room (Nat.le_of_ble_eq_true rfl)) dX11_slot_2 ⟨Nat.le_of_ble_eq_true rfl, Nat.le_of_ble_eq_true rfl⟩) hS (fun q _ h => hFc q h) hFc (fun r9 u9 t H1 locs ht hvm hw hB hz1 hk1 hS => ?_)
    obtain ⟨hP1, hK1, hD1⟩ := hB
    rw [ht] at hP1
    obtain ⟨hw1, hw2⟩ := hw
    rw [hw2] at hP1 hD1
    rw [hw1]
    rw [F_t_isSlot_2] at hP1 hD1
    have hD2 := hD1.weaken (B := A) (fun _ q _ h => hFc q.1 h)
    have hP := hP1
    have hD := hD2
    generalize H1 = H at hP hS ⊢
    refine wi_if_ne (tgt := 10) hx hb (kR01 (F_t_isSlot_01 _ _)) dX11_slot_5 (by decide) (fun c_5 => ?_) (fun c_5 => ?_)
    · skip
      rw [if_neg c_5] at hres
      obtain ⟨k0, k1⟩ := F_t_isSlot_1 c_5
      refine lv_aload_n hx hb dX11_slot_10 rfl (lv_at hl 0 rfl) ?_
      refine va_get (D := (dC, dI)) (ci := 11) (v := .ref (ad (6))) (C := RX11) (T := TX11) (N := 17) hx hb hts hinX11 hown hK hP (0) (kg0 (by omega)) rfl 2 (by decide) (hts (.fieldLink RX11 25 "LikeWords" "slots" "[LLikeWords$Word;") (by decide +kernel)) (fun _ h9 => h9) rfl dX11_slot_11 ?_
      refine lv_iload_n hx hb dX11_slot_14 rfl (lv_at hl 1 rfl) ?_
      refine va_aldq (C := "LikeWords$Word") (n := 8) (f := fun j => some (ad (7 + 2 * j))) hx hb hK hP 6 3 (kget (by omega)) rfl (iI_in (z := k) (by omega) (by omega) (by decide)) dX11_slot_15 ?_
      rw [iI_clamp ⟨by omega, by omega⟩]
      refine W.eq (g2 := F0 m 16 ls [.ref (ad (7 + 2 * (k).toNat))]) rfl ?_
      refine lv_aload_n hx hb dX11_slot_16 rfl (lv_at hl 0 rfl) ?_
      refine va_get (D := (dC, dI)) (ci := 11) (v := .ref (ad (4))) (C := RX11) (T := TX11) (N := 17) hx hb hts hinX11 hown hK hP (0) (kg0 (by omega)) rfl 1 (by decide) (hts (.fieldLink RX11 21 "LikeWords" "string" "LLikeWords$Word;") (by decide +kernel)) (fun _ h9 => h9) rfl dX11_slot_17 ?_
      have hFc : ∀ q, va_A (kWd cI cJ cZ cR wl ad M (x)) H.size q → A q := fun q hq => Or.elim hq (fun ⟨k, e, hk⟩ => hD.2 k (q, e) hk) (fun hk => hA q (Nat.le_trans hS.1 hk))
      refine va_callv (va_runV (b := ad (7 + 2 * (k).toNat)) (As := [.ref (ad (4))]) (rest := []) ⟨hx, hb, hml, hown, hts⟩ (c_w_take l dC dI ad cI cJ cZ cR M wl H.size (x) (7 + 2 * (k).toNat) (4)  hM (kW_slot (by omega) (by omega)) (by omega) rfl (by omega) u0 u1) (cwV 1 hts gX11_slot_X10_take rfl rfl rfl (by decide +kernel) ⟨Nat.le_of_ble_eq_true rfl, Nat.le_of_ble_eq_true rfl⟩) ⟨fun a U g mk q => by obtain ⟨q0, q1, qP, qK, qD, qN⟩ := q; exact ⟨q0, q1, qP, va_K.moved (u := U) (U := U.calling g mk a) (Vm.Alike.refl U.vm) qK, qD, kNw.same (u := U) (U := U.calling g mk a) rfl qN⟩, va_recv hK hP (ci := 10) (q0 := 7 + 2 * (k).toNat) rfl (kgw (kW_slot (by omega) (by omega)) (by omega)), fun U hU hW => ⟨rfl, by rw [hU], by rw [hU]; exact hP, va_K.moved hW.alike hK, hD.weaken (fun _ _ _ _ => trivial), kNw.warm hW hNw⟩⟩ rfl rfl hl.1 rfl (lv_room (Nat.le_of_ble_eq_true rfl)) dX11_slot_20 ⟨Nat.le_of_ble_eq_true rfl, Nat.le_of_ble_eq_true rfl⟩) hS (fun q _ h => hFc q h) hFc (fun u9 t H1 locs ht hvm hw hB hz1 hk1 hS => ?_)
      obtain ⟨hP1, hK1, hD1⟩ := hB
      rw [ht] at hP1
      rw [hw] at hP1 hD1
      have hD2 := hD1.weaken (B := A) (fun _ q _ h => hFc q.1 h)
      have hP := hP1
      have hD := hD2
      generalize H1 = H at hP hS ⊢
      refine lv_aload_n hx hb dX11_slot_23 rfl (lv_at hl 0 rfl) ?_
      refine va_get (D := (dC, dI)) (ci := 11) (v := .ref (ad (4))) (C := RX11) (T := TX11) (N := 17) hx hb hts hinX11 hown hK hP (0) (kg0 (by omega)) rfl 1 (by decide) (hts (.fieldLink RX11 21 "LikeWords" "string" "LLikeWords$Word;") (by decide +kernel)) (fun _ h9 => h9) rfl dX11_slot_24 ?_
      have hFc : ∀ q, va_A (kWd cI cJ cZ cR wl ad M ((F_w_take (x) (7 + 2 * (k).toNat) (4)).2)) H.size q → A q := fun q hq => Or.elim hq (fun ⟨k, e, hk⟩ => hD.2 k (q, e) hk) (fun hk => hA q (Nat.le_trans hS.1 hk))
      refine va_callv (va_runV (b := ad (4)) (As := []) (rest := []) ⟨hx, hb, hml, hown, hts⟩ (c_w_wipe l dC dI ad cI cJ cZ cR M wl H.size ((F_w_take (x) (7 + 2 * (k).toNat) (4)).2) (4)  hM rfl (by omega) ) (cwV 0 hts gX11_slot_X10_wipe rfl rfl rfl (by decide +kernel) ⟨Nat.le_of_ble_eq_true rfl, Nat.le_of_ble_eq_true rfl⟩) ⟨fun a U g mk q => by obtain ⟨q0, q1, qP, qK, qD, qN⟩ := q; exact ⟨q0, q1, qP, va_K.moved (u := U) (U := U.calling g mk a) (Vm.Alike.refl U.vm) qK, qD, kNw.same (u := U) (U := U.calling g mk a) rfl qN⟩, va_recv hK hP (ci := 10) (q0 := 4) rfl (kgw rfl (by omega)), fun U hU hW => ⟨rfl, by rw [hU], by rw [hU]; exact hP, va_K.moved hW.alike hK, hD.weaken (fun _ _ _ _ => trivial), kNw.warm hW hNw⟩⟩ rfl rfl hl.1 rfl (lv_room (Nat.le_of_ble_eq_true rfl)) dX11_slot_27 ⟨Nat.le_of_ble_eq_true rfl, Nat.le_of_ble_eq_true rfl⟩) hS (fun q _ h => hFc q h) hFc (fun u9 t H1 locs ht hvm hw hB hz1 hk1 hS => ?_)
      obtain ⟨hP1, hK1, hD1⟩ := hB
      rw [ht] at hP1
      rw [hw] at hP1 hD1
      have hD2 := hD1.weaken (B := A) (fun _ q _ h => hFc q.1 h)
      have hP := hP1
      have hD := hD2
      generalize H1 = H at hP hS ⊢
      refine lv_aload_n hx hb dX11_slot_30 rfl (lv_at hl 0 rfl) ?_
      refine va_get (D := (dC, dI)) (ci := 11) (v := .ref (ad (6))) (C := RX11) (T := TX11) (N := 17) hx hb hts hinX11 hown hK hP (0) (kg0 (by omega)) rfl 2 (by decide) (hts (.fieldLink RX11 25 "LikeWords" "slots" "[LLikeWords$Word;") (by decide +kernel)) (fun _ h9 => h9) rfl dX11_slot_31 ?_
      refine lv_iload_n hx hb dX11_slot_34 rfl (lv_at hl 1 rfl) ?_
      refine va_aldq (C := "LikeWords$Word") (n := 8) (f := fun j => some (ad (7 + 2 * j))) hx hb hK hP 6 3 (kget (by omega)) rfl (iI_in (z := k) (by omega) (by omega) (by decide)) dX11_slot_35 ?_
      rw [iI_clamp ⟨by omega, by omega⟩]
      refine W.eq (g2 := F0 m 36 ls [.ref (ad (7 + 2 * (k).toNat))]) rfl ?_
      refine va_get (D := (dC, dI)) (ci := 10) (v := .int (iI (((F_w_wipe ((F_w_take (x) (7 + 2 * (k).toNat) (4)).2) (4)).2).1 (7 + 2 * (k).toNat) 1))) (C := RX10) (T := TX10) (N := 2) hx hb hts hinX10 hown hK hP (7 + 2 * (k).toNat) (kgw (kW_slot (by omega) (by omega)) (by omega)) rfl 1 (by decide) (hts (.fieldLink RX11 123 "LikeWords$Word" "used" "I") (by decide +kernel)) (fun _ h9 => h9) rfl dX11_slot_36 ?_
      exact W.iret (v := iI (((F_w_wipe ((F_w_take (x) (7 + 2 * (k).toNat) (4)).2) (4)).2).1 (7 + 2 * (k).toNat) 1)) hx hb hr (fun t ht hW => ⟨⟨iI (((F_w_wipe ((F_w_take (x) (7 + 2 * (k).toNat) (4)).2) (4)).2).1 (7 + 2 * (k).toNat) 1), (F_w_wipe ((F_w_take (x) (7 + 2 * (k).toNat) (4)).2) (4)).2, rfl, ⟨(by have h9 := congrArg (fun z : Int × KS => iI z.1) hres; exact h9), (by have h9 := congrArg (fun z : Int × KS => z.2) hres; exact h9)⟩, by rw [ht]; exact hP, va_K.moved hW.alike hK, hD⟩, hS.F ht⟩) hS.2.2 dX11_slot_39
    · skip
      rw [if_pos c_5] at hres
      refine lv_iconst (v := iI (-1 : Int)) hx hb dX11_slot_8 (by decide) ?_
      exact W.iret (v := iI ((-1 : Int))) hx hb hr (fun t ht hW => ⟨⟨iI ((-1 : Int)), x, rfl, ⟨(by have h9 := congrArg (fun z : Int × KS => iI z.1) hres; exact h9), (by have h9 := congrArg (fun z : Int × KS => z.2) hres; exact h9)⟩, by rw [ht]; exact hP, va_K.moved hW.alike hK, hD⟩, hS.F ht⟩) hS.2.2 dX11_slot_9
  exact key _ _ hP hS
theorem F_t_slot_fr (x : KS) (k : Int) : ksame [(7 + 2 * (k).toNat, 1), (4, 1)] [(7 + 2 * (k).toNat) + 1] x (F_t_slot x k).2 := by
  unfold F_t_slot
  by_cases hc : ((F_t_isSlot (x) (k)).1) = (0)
  · rw [if_pos hc]
    exact (km_rf _ _ _)
  · rw [if_neg hc]
    exact (km_tr (km_tr (km_rf _ _ _) (km_mono (km1 (List.Mem.head _) km0) (km1 (List.Mem.head _) km0) (F_w_take_fr (x) (7 + 2 * (k).toNat) (4)))) (km_mono (km1 (List.Mem.tail _ (List.Mem.head _)) km0) km0 (F_w_wipe_fr ((F_w_take (x) (7 + 2 * (k).toNat) (4)).2) (4))))
def F_t_at (x : KS) (k : Int) (i : Int) : Int × KS := (if ((F_t_isSlot (x) (k)).1) = (0) then ((-1 : Int), x) else ((F_w_pick (x) (7 + 2 * (k).toNat) (i)).1, x))
set_option maxHeartbeats 4000000 in
set_option maxRecDepth 100000 in
/-- LikeWords, at -/
theorem c_t_at (l : Launch) (dC : Nat → ClassId) (dI : Nat → Nat → Nat) (ad : Nat → Nat) (cI cJ cZ cR : ClassId) (M wl sz : Nat) (x : KS) (k : Int) (i : Int) (hM : 87 ≤ M) (rk : iR k) (ri : iR i) (su : ∀ j : Int, 0 ≤ j → j < 8 → 0 ≤ x.1 (7 + 2 * j.toNat) 1 ∧ x.1 (7 + 2 * j.toNat) 1 ≤ 60) : Met l yX11_at wsX11_at ({ frames := 1, cells := 0, slots := 0, locals := 21 }) (kPc dC dI ad cI cJ cZ cR M wl sz x [.ref (ad 0), .int (iI k), .int (iI i)]) (va_Qi (fun (r : Int32) (u : KS) => r = iI (F_t_at x k i).1 ∧ u = (F_t_at x k i).2) (kAt dC dI ad cI cJ cZ cR M wl (va_A (kWd cI cJ cZ cR wl ad M (x)) sz)) (va_A (kWd cI cJ cZ cR wl ad M (x)) sz)) 0 0 (va_A (kWd cI cJ cZ cR wl ad M (x)) sz) := by
  refine Met.ofW (cc := cX11_at) (maxL := 3) (ret := (some .int)) (by decide) rfl ?_
  intro p e s m args below meth c s₁ B hml hv
  obtain ⟨rfl, hsz, hP, hK, hD0, hNw⟩ := hv
  have hx := B.exec
  have hb := B.bytes
  have hr := B.returns
  have hts := atoms_spec (ws := wsX11_at) B.pre
  have hown : s.vm.findClass RX11 = some m.cls := findClass_of_methodNamed B.named
  have hlocks := B.notSynchronized
  have hinX11 : ∀ w ∈ u_ws RX11 TX11 17, w ∈ wsX11_at := by decide +kernel
  subst hsz
  have hD := hD0.self (sz := s.heap.size)
  generalize hAe : va_A (kWd cI cJ cZ cR wl ad M (x)) s.heap.size = A at hD ⊢
  have hA : ∀ q : Nat, s.heap.size ≤ q → A q := fun q h => by rw [← hAe]; exact Or.inr h
  have hS : va_S A s.heap s.heap [] := va_S.rf
  have hl := lv_entry ([.ref (ad 0), .int (iI k), .int (iI i)]) (n := 3) (Nat.le_of_ble_eq_true rfl)
  rw [lg_entry_eq]
  generalize (lg_sl ([.ref (ad 0), .int (iI k), .int (iI i)]) ++ List.replicate (3 - (lg_sl ([.ref (ad 0), .int (iI k), .int (iI i)])).length) Slot.unset).toArray = ls at hl ⊢
  have hl : lv_has ls 3 [(0, .ref (ad (0))), (1, .int (iI (k))), (2, .int (iI (i)))] := hl
  have key : ∀ (H : Heap) (locs : List Loc), va_P (dC, dI) vwCl (kWd cI cJ cZ cR wl ad M (x)) H → va_S A s.heap H locs → W p l e (headSpec wsX11_at ({ frames := 1, cells := 0, slots := 0, locals := 21 })).room s m ([.ref (ad 0), .int (iI k), .int (iI i)] : List Value).toArray below meth c H locs 0 0 (MQ below (va_Qi (fun (r : Int32) (u : KS) => r = iI (F_t_at x k i).1 ∧ u = (F_t_at x k i).2) (kAt dC dI ad cI cJ cZ cR M wl A) A) ([.ref (ad 0), .int (iI k), .int (iI i)] : List Value).toArray s 0 0 A) (F0 m 0 ls []) := by
    intro H locs hP hS
    have hres : (if ((F_t_isSlot (x) (k)).1) = (0) then ((-1 : Int), x) else ((F_w_pick (x) (7 + 2 * (k).toNat) (i)).1, x)) = F_t_at x k i := rfl
    refine lv_aload_n hx hb dX11_at_0 rfl (lv_at hl 0 rfl) ?_
    refine lv_iload_n hx hb dX11_at_1 rfl (lv_at hl 1 rfl) ?_
    have hFc : ∀ q, va_A (kWd cI cJ cZ cR wl ad M (x)) H.size q → A q := fun q hq => Or.elim hq (fun ⟨k, e, hk⟩ => hD.2 k (q, e) hk) (fun hk => hA q (Nat.le_trans hS.1 hk))
    refine va_calli (va_runV (b := ad (0)) (As := [.int (iI (k))]) (rest := []) ⟨hx, hb, hml, hown, hts⟩ (c_t_isSlot l dC dI ad cI cJ cZ cR M wl H.size (x)  (k) hM rk) (cwV 1 hts gX11_at_X11_isSlot rfl rfl rfl (by decide +kernel) ⟨Nat.le_of_ble_eq_true rfl, Nat.le_of_ble_eq_true rfl⟩) ⟨fun a U g mk q => by obtain ⟨q0, q1, qP, qK, qD, qN⟩ := q; exact ⟨q0, q1, qP, va_K.moved (u := U) (U := U.calling g mk a) (Vm.Alike.refl U.vm) qK, qD, kNw.same (u := U) (U := U.calling g mk a) rfl qN⟩, va_recv hK hP (ci := 11) (q0 := 0) rfl (kg0 (by omega)), fun U hU hW => ⟨rfl, by rw [hU], by rw [hU]; exact hP, va_K.moved hW.alike hK, hD.weaken (fun _ _ _ _ => trivial), kNw.warm hW hNw⟩⟩ rfl rfl hl.1 rfl (lv_room (Nat.le_of_ble_eq_true rfl)) dX11_at_2 ⟨Nat.le_of_ble_eq_true rfl, Nat.le_of_ble_eq_true rfl⟩) hS (fun q _ h => hFc q h) hFc (fun r9 u9 t H1 locs ht hvm hw hB hz1 hk1 hS => ?_)
    obtain ⟨hP1, hK1, hD1⟩ := hB
    rw [ht] at hP1
    obtain ⟨hw1, hw2⟩ := hw
    rw [hw2] at hP1 hD1
    rw [hw1]
    rw [F_t_isSlot_2] at hP1 hD1
    have hD2 := hD1.weaken (B := A) (fun _ q _ h => hFc q.1 h)
    have hP := hP1
    have hD := hD2
    generalize H1 = H at hP hS ⊢
    refine wi_if_eq (tgt := 21) hx hb (kR01 (F_t_isSlot_01 _ _)) dX11_at_5 (by decide) (fun c_5 => ?_) (fun c_5 => ?_)
    · skip
      rw [if_pos c_5] at hres
      refine lv_iconst (v := iI (-1 : Int)) hx hb dX11_at_21 (by decide) ?_
      exact W.iret (v := iI ((-1 : Int))) hx hb hr (fun t ht hW => ⟨⟨iI ((-1 : Int)), x, rfl, ⟨(by have h9 := congrArg (fun z : Int × KS => iI z.1) hres; exact h9), (by have h9 := congrArg (fun z : Int × KS => z.2) hres; exact h9)⟩, by rw [ht]; exact hP, va_K.moved hW.alike hK, hD⟩, hS.F ht⟩) hS.2.2 dX11_at_22
    · skip
      rw [if_neg c_5] at hres
      obtain ⟨k0, k1⟩ := F_t_isSlot_1 c_5
      refine lv_aload_n hx hb dX11_at_8 rfl (lv_at hl 0 rfl) ?_
      refine va_get (D := (dC, dI)) (ci := 11) (v := .ref (ad (6))) (C := RX11) (T := TX11) (N := 17) hx hb hts hinX11 hown hK hP (0) (kg0 (by omega)) rfl 2 (by decide) (hts (.fieldLink RX11 25 "LikeWords" "slots" "[LLikeWords$Word;") (by decide +kernel)) (fun _ h9 => h9) rfl dX11_at_9 ?_
      refine lv_iload_n hx hb dX11_at_12 rfl (lv_at hl 1 rfl) ?_
      refine va_aldq (C := "LikeWords$Word") (n := 8) (f := fun j => some (ad (7 + 2 * j))) hx hb hK hP 6 3 (kget (by omega)) rfl (iI_in (z := k) (by omega) (by omega) (by decide)) dX11_at_13 ?_
      rw [iI_clamp ⟨by omega, by omega⟩]
      refine W.eq (g2 := F0 m 14 ls [.ref (ad (7 + 2 * (k).toNat))]) rfl ?_
      refine lv_iload_n hx hb dX11_at_14 rfl (lv_at hl 2 rfl) ?_
      have hFc : ∀ q, va_A (kWd cI cJ cZ cR wl ad M (x)) H.size q → A q := fun q hq => Or.elim hq (fun ⟨k, e, hk⟩ => hD.2 k (q, e) hk) (fun hk => hA q (Nat.le_trans hS.1 hk))
      refine va_calli (va_runV (b := ad (7 + 2 * (k).toNat)) (As := [.int (iI (i))]) (rest := []) ⟨hx, hb, hml, hown, hts⟩ (c_w_pick l dC dI ad cI cJ cZ cR M wl H.size (x) (7 + 2 * (k).toNat) (i) hM (kW_slot (by omega) (by omega)) (by omega) ri (su k k0 k1).1 (by rw [kL_slot k0 k1]; exact (su k k0 k1).2)) (cwV 1 hts gX11_at_X10_pick rfl rfl rfl (by decide +kernel) ⟨Nat.le_of_ble_eq_true rfl, Nat.le_of_ble_eq_true rfl⟩) ⟨fun a U g mk q => by obtain ⟨q0, q1, qP, qK, qD, qN⟩ := q; exact ⟨q0, q1, qP, va_K.moved (u := U) (U := U.calling g mk a) (Vm.Alike.refl U.vm) qK, qD, kNw.same (u := U) (U := U.calling g mk a) rfl qN⟩, va_recv hK hP (ci := 10) (q0 := 7 + 2 * (k).toNat) rfl (kgw (kW_slot (by omega) (by omega)) (by omega)), fun U hU hW => ⟨rfl, by rw [hU], by rw [hU]; exact hP, va_K.moved hW.alike hK, hD.weaken (fun _ _ _ _ => trivial), kNw.warm hW hNw⟩⟩ rfl rfl hl.1 rfl (lv_room (Nat.le_of_ble_eq_true rfl)) dX11_at_15 ⟨Nat.le_of_ble_eq_true rfl, Nat.le_of_ble_eq_true rfl⟩) hS (fun q _ h => hFc q h) hFc (fun r9 u9 t H1 locs ht hvm hw hB hz1 hk1 hS => ?_)
      obtain ⟨hP1, hK1, hD1⟩ := hB
      rw [ht] at hP1
      obtain ⟨hw1, hw2⟩ := hw
      rw [hw2] at hP1 hD1
      rw [hw1]
      rw [F_w_pick_2] at hP1 hD1
      have hD2 := hD1.weaken (B := A) (fun _ q _ h => hFc q.1 h)
      have hP := hP1
      have hD := hD2
      generalize H1 = H at hP hS ⊢
      refine lv_goto (tgt := 22) hx hb dX11_at_18 (by decide) ?_
      exact W.iret (v := iI ((F_w_pick (x) (7 + 2 * (k).toNat) (i)).1)) hx hb hr (fun t ht hW => ⟨⟨iI ((F_w_pick (x) (7 + 2 * (k).toNat) (i)).1), x, rfl, ⟨(by have h9 := congrArg (fun z : Int × KS => iI z.1) hres; exact h9), (by have h9 := congrArg (fun z : Int × KS => z.2) hres; exact h9)⟩, by rw [ht]; exact hP, va_K.moved hW.alike hK, hD⟩, hS.F ht⟩) hS.2.2 dX11_at_22
  exact key _ _ hP hS
theorem F_t_at_fr (x : KS) (k : Int) (i : Int) : ksame [] [] x (F_t_at x k i).2 := by
  unfold F_t_at
  by_cases hc : ((F_t_isSlot (x) (k)).1) = (0)
  · rw [if_pos hc]
    exact (km_rf _ _ _)
  · rw [if_neg hc]
    exact (km_rf _ _ _)
theorem F_t_at_2 (x : KS) (k : Int) (i : Int) : (F_t_at x k i).2 = x := km_nil (F_t_at_fr x k i)
def F_t_length (x : KS) (k : Int) : Int × KS := (if ((F_t_isSlot (x) (k)).1) = (0) then ((-1 : Int), x) else ((x).1 (7 + 2 * (k).toNat) 1, x))
set_option maxHeartbeats 4000000 in
set_option maxRecDepth 100000 in
/-- LikeWords, length -/
theorem c_t_length (l : Launch) (dC : Nat → ClassId) (dI : Nat → Nat → Nat) (ad : Nat → Nat) (cI cJ cZ cR : ClassId) (M wl sz : Nat) (x : KS) (k : Int) (hM : 87 ≤ M) (rk : iR k) : Met l yX11_length wsX11_length ({ frames := 1, cells := 0, slots := 0, locals := 21 }) (kPc dC dI ad cI cJ cZ cR M wl sz x [.ref (ad 0), .int (iI k)]) (va_Qi (fun (r : Int32) (u : KS) => r = iI (F_t_length x k).1 ∧ u = (F_t_length x k).2) (kAt dC dI ad cI cJ cZ cR M wl (va_A (kWd cI cJ cZ cR wl ad M (x)) sz)) (va_A (kWd cI cJ cZ cR wl ad M (x)) sz)) 0 0 (va_A (kWd cI cJ cZ cR wl ad M (x)) sz) := by
  refine Met.ofW (cc := cX11_length) (maxL := 2) (ret := (some .int)) (by decide) rfl ?_
  intro p e s m args below meth c s₁ B hml hv
  obtain ⟨rfl, hsz, hP, hK, hD0, hNw⟩ := hv
  have hx := B.exec
  have hb := B.bytes
  have hr := B.returns
  have hts := atoms_spec (ws := wsX11_length) B.pre
  have hown : s.vm.findClass RX11 = some m.cls := findClass_of_methodNamed B.named
  have hlocks := B.notSynchronized
  have hinX10 : ∀ w ∈ u_ws RX10 TX10 2, w ∈ wsX11_length := by decide +kernel
  have hinX11 : ∀ w ∈ u_ws RX11 TX11 17, w ∈ wsX11_length := by decide +kernel
  subst hsz
  have hD := hD0.self (sz := s.heap.size)
  generalize hAe : va_A (kWd cI cJ cZ cR wl ad M (x)) s.heap.size = A at hD ⊢
  have hA : ∀ q : Nat, s.heap.size ≤ q → A q := fun q h => by rw [← hAe]; exact Or.inr h
  have hS : va_S A s.heap s.heap [] := va_S.rf
  have hl := lv_entry ([.ref (ad 0), .int (iI k)]) (n := 2) (Nat.le_of_ble_eq_true rfl)
  rw [lg_entry_eq]
  generalize (lg_sl ([.ref (ad 0), .int (iI k)]) ++ List.replicate (2 - (lg_sl ([.ref (ad 0), .int (iI k)])).length) Slot.unset).toArray = ls at hl ⊢
  have hl : lv_has ls 2 [(0, .ref (ad (0))), (1, .int (iI (k)))] := hl
  have key : ∀ (H : Heap) (locs : List Loc), va_P (dC, dI) vwCl (kWd cI cJ cZ cR wl ad M (x)) H → va_S A s.heap H locs → W p l e (headSpec wsX11_length ({ frames := 1, cells := 0, slots := 0, locals := 21 })).room s m ([.ref (ad 0), .int (iI k)] : List Value).toArray below meth c H locs 0 0 (MQ below (va_Qi (fun (r : Int32) (u : KS) => r = iI (F_t_length x k).1 ∧ u = (F_t_length x k).2) (kAt dC dI ad cI cJ cZ cR M wl A) A) ([.ref (ad 0), .int (iI k)] : List Value).toArray s 0 0 A) (F0 m 0 ls []) := by
    intro H locs hP hS
    have hres : (if ((F_t_isSlot (x) (k)).1) = (0) then ((-1 : Int), x) else ((x).1 (7 + 2 * (k).toNat) 1, x)) = F_t_length x k := rfl
    refine lv_aload_n hx hb dX11_length_0 rfl (lv_at hl 0 rfl) ?_
    refine lv_iload_n hx hb dX11_length_1 rfl (lv_at hl 1 rfl) ?_
    have hFc : ∀ q, va_A (kWd cI cJ cZ cR wl ad M (x)) H.size q → A q := fun q hq => Or.elim hq (fun ⟨k, e, hk⟩ => hD.2 k (q, e) hk) (fun hk => hA q (Nat.le_trans hS.1 hk))
    refine va_calli (va_runV (b := ad (0)) (As := [.int (iI (k))]) (rest := []) ⟨hx, hb, hml, hown, hts⟩ (c_t_isSlot l dC dI ad cI cJ cZ cR M wl H.size (x)  (k) hM rk) (cwV 1 hts gX11_length_X11_isSlot rfl rfl rfl (by decide +kernel) ⟨Nat.le_of_ble_eq_true rfl, Nat.le_of_ble_eq_true rfl⟩) ⟨fun a U g mk q => by obtain ⟨q0, q1, qP, qK, qD, qN⟩ := q; exact ⟨q0, q1, qP, va_K.moved (u := U) (U := U.calling g mk a) (Vm.Alike.refl U.vm) qK, qD, kNw.same (u := U) (U := U.calling g mk a) rfl qN⟩, va_recv hK hP (ci := 11) (q0 := 0) rfl (kg0 (by omega)), fun U hU hW => ⟨rfl, by rw [hU], by rw [hU]; exact hP, va_K.moved hW.alike hK, hD.weaken (fun _ _ _ _ => trivial), kNw.warm hW hNw⟩⟩ rfl rfl hl.1 rfl (lv_room (Nat.le_of_ble_eq_true rfl)) dX11_length_2 ⟨Nat.le_of_ble_eq_true rfl, Nat.le_of_ble_eq_true rfl⟩) hS (fun q _ h => hFc q h) hFc (fun r9 u9 t H1 locs ht hvm hw hB hz1 hk1 hS => ?_)
    obtain ⟨hP1, hK1, hD1⟩ := hB
    rw [ht] at hP1
    obtain ⟨hw1, hw2⟩ := hw
    rw [hw2] at hP1 hD1
    rw [hw1]
    rw [F_t_isSlot_2] at hP1 hD1
    have hD2 := hD1.weaken (B := A) (fun _ q _ h => hFc q.1 h)
    have hP := hP1
    have hD := hD2
    generalize H1 = H at hP hS ⊢
    refine wi_if_eq (tgt := 20) hx hb (kR01 (F_t_isSlot_01 _ _)) dX11_length_5 (by decide) (fun c_5 => ?_) (fun c_5 => ?_)
    · skip
      rw [if_pos c_5] at hres
      refine lv_iconst (v := iI (-1 : Int)) hx hb dX11_length_20 (by decide) ?_
      exact W.iret (v := iI ((-1 : Int))) hx hb hr (fun t ht hW => ⟨⟨iI ((-1 : Int)), x, rfl, ⟨(by have h9 := congrArg (fun z : Int × KS => iI z.1) hres; exact h9), (by have h9 := congrArg (fun z : Int × KS => z.2) hres; exact h9)⟩, by rw [ht]; exact hP, va_K.moved hW.alike hK, hD⟩, hS.F ht⟩) hS.2.2 dX11_length_21
    · skip
      rw [if_neg c_5] at hres
      obtain ⟨k0, k1⟩ := F_t_isSlot_1 c_5
      refine lv_aload_n hx hb dX11_length_8 rfl (lv_at hl 0 rfl) ?_
      refine va_get (D := (dC, dI)) (ci := 11) (v := .ref (ad (6))) (C := RX11) (T := TX11) (N := 17) hx hb hts hinX11 hown hK hP (0) (kg0 (by omega)) rfl 2 (by decide) (hts (.fieldLink RX11 25 "LikeWords" "slots" "[LLikeWords$Word;") (by decide +kernel)) (fun _ h9 => h9) rfl dX11_length_9 ?_
      refine lv_iload_n hx hb dX11_length_12 rfl (lv_at hl 1 rfl) ?_
      refine va_aldq (C := "LikeWords$Word") (n := 8) (f := fun j => some (ad (7 + 2 * j))) hx hb hK hP 6 3 (kget (by omega)) rfl (iI_in (z := k) (by omega) (by omega) (by decide)) dX11_length_13 ?_
      rw [iI_clamp ⟨by omega, by omega⟩]
      refine W.eq (g2 := F0 m 14 ls [.ref (ad (7 + 2 * (k).toNat))]) rfl ?_
      refine va_get (D := (dC, dI)) (ci := 10) (v := .int (iI ((x).1 (7 + 2 * (k).toNat) 1))) (C := RX10) (T := TX10) (N := 2) hx hb hts hinX10 hown hK hP (7 + 2 * (k).toNat) (kgw (kW_slot (by omega) (by omega)) (by omega)) rfl 1 (by decide) (hts (.fieldLink RX11 123 "LikeWords$Word" "used" "I") (by decide +kernel)) (fun _ h9 => h9) rfl dX11_length_14 ?_
      refine lv_goto (tgt := 21) hx hb dX11_length_17 (by decide) ?_
      exact W.iret (v := iI ((x).1 (7 + 2 * (k).toNat) 1)) hx hb hr (fun t ht hW => ⟨⟨iI ((x).1 (7 + 2 * (k).toNat) 1), x, rfl, ⟨(by have h9 := congrArg (fun z : Int × KS => iI z.1) hres; exact h9), (by have h9 := congrArg (fun z : Int × KS => z.2) hres; exact h9)⟩, by rw [ht]; exact hP, va_K.moved hW.alike hK, hD⟩, hS.F ht⟩) hS.2.2 dX11_length_21
  exact key _ _ hP hS
theorem F_t_length_fr (x : KS) (k : Int) : ksame [] [] x (F_t_length x k).2 := by
  unfold F_t_length
  by_cases hc : ((F_t_isSlot (x) (k)).1) = (0)
  · rw [if_pos hc]
    exact (km_rf _ _ _)
  · rw [if_neg hc]
    exact (km_rf _ _ _)
theorem F_t_length_2 (x : KS) (k : Int) : (F_t_length x k).2 = x := km_nil (F_t_length_fr x k)
def F_t_free (x : KS)  : Int × KS := ((x).1 (0) 14, (F_t_forget (kS (x) (0) 14 ((0 : Int)))).2)
set_option maxHeartbeats 4000000 in
set_option maxRecDepth 100000 in
/-- LikeWords, free -/
theorem c_t_free (l : Launch) (dC : Nat → ClassId) (dI : Nat → Nat → Nat) (ad : Nat → Nat) (cI cJ cZ cR : ClassId) (M wl sz : Nat) (x : KS)  (hM : 87 ≤ M)  : Met l yX11_free wsX11_free ({ frames := 1, cells := 0, slots := 0, locals := 20 }) (kPc dC dI ad cI cJ cZ cR M wl sz x [.ref (ad 0)]) (va_Qi (fun (r : Int32) (u : KS) => r = iI (F_t_free x).1 ∧ u = (F_t_free x).2) (kAt dC dI ad cI cJ cZ cR M wl (va_A (kWd cI cJ cZ cR wl ad M (x)) sz)) (va_A (kWd cI cJ cZ cR wl ad M (x)) sz)) 0 0 (va_A (kWd cI cJ cZ cR wl ad M (x)) sz) := by
  refine Met.ofW (cc := cX11_free) (maxL := 2) (ret := (some .int)) (by decide) rfl ?_
  intro p e s m args below meth c s₁ B hml hv
  obtain ⟨rfl, hsz, hP, hK, hD0, hNw⟩ := hv
  have hx := B.exec
  have hb := B.bytes
  have hr := B.returns
  have hts := atoms_spec (ws := wsX11_free) B.pre
  have hown : s.vm.findClass RX11 = some m.cls := findClass_of_methodNamed B.named
  have hlocks := B.notSynchronized
  have hinX11 : ∀ w ∈ u_ws RX11 TX11 17, w ∈ wsX11_free := by decide +kernel
  subst hsz
  have hD := hD0.self (sz := s.heap.size)
  generalize hAe : va_A (kWd cI cJ cZ cR wl ad M (x)) s.heap.size = A at hD ⊢
  have hA : ∀ q : Nat, s.heap.size ≤ q → A q := fun q h => by rw [← hAe]; exact Or.inr h
  have hS : va_S A s.heap s.heap [] := va_S.rf
  have hl := lv_entry ([.ref (ad 0)]) (n := 2) (Nat.le_of_ble_eq_true rfl)
  rw [lg_entry_eq]
  generalize (lg_sl ([.ref (ad 0)]) ++ List.replicate (2 - (lg_sl ([.ref (ad 0)])).length) Slot.unset).toArray = ls at hl ⊢
  have hl : lv_has ls 2 [(0, .ref (ad (0)))] := hl
  have key : ∀ (H : Heap) (locs : List Loc), va_P (dC, dI) vwCl (kWd cI cJ cZ cR wl ad M (x)) H → va_S A s.heap H locs → W p l e (headSpec wsX11_free ({ frames := 1, cells := 0, slots := 0, locals := 20 })).room s m ([.ref (ad 0)] : List Value).toArray below meth c H locs 0 0 (MQ below (va_Qi (fun (r : Int32) (u : KS) => r = iI (F_t_free x).1 ∧ u = (F_t_free x).2) (kAt dC dI ad cI cJ cZ cR M wl A) A) ([.ref (ad 0)] : List Value).toArray s 0 0 A) (F0 m 0 ls []) := by
    intro H locs hP hS
    have hres : ((x).1 (0) 14, (F_t_forget (kS (x) (0) 14 ((0 : Int)))).2) = F_t_free x := rfl
    refine lv_aload_n hx hb dX11_free_0 rfl (lv_at hl 0 rfl) ?_
    refine va_get (D := (dC, dI)) (ci := 11) (v := .int (iI ((x).1 (0) 14))) (C := RX11) (T := TX11) (N := 17) hx hb hts hinX11 hown hK hP (0) (kg0 (by omega)) rfl 14 (by decide) (hts (.fieldLink RX11 110 "LikeWords" "lawsHeld" "I") (by decide +kernel)) (fun _ h9 => h9) rfl dX11_free_1 ?_
    refine lv_istore_n (lv' := [(1, .int (iI ((x).1 (0) 14))), (0, .ref (ad (0)))]) hx hb dX11_free_4 rfl hl (by decide) rfl (fun ls hl => ?_)
    refine lv_aload_n hx hb dX11_free_5 rfl (lv_at hl 1 rfl) ?_
    refine lv_iconst (v := iI (0 : Int)) hx hb dX11_free_6 (by decide) ?_
    refine va_put (D := (dC, dI)) (ci := 11) (v := .int (iI ((0 : Int)))) (ty := .int) (C := RX11) (T := TX11) (N := 17) hx hb hts hinX11 tyX11 tyX11_ok nmX11 hown hK hP hD hS (0) (kg0 (by omega)) rfl 14 (by decide) (hts (.fieldLink RX11 110 "LikeWords" "lawsHeld" "I") (by decide +kernel)) (fun _ h9 => h9) rfl (by decide +kernel) rfl rfl (Nat.le_of_ble_eq_true rfl) dX11_free_7 (fun H locs hP hD hS => ?_)
    rw [ks0_14] at hP hD
    refine lv_aload_n hx hb dX11_free_10 rfl (lv_at hl 1 rfl) ?_
    have hFc : ∀ q, va_A (kWd cI cJ cZ cR wl ad M (kS (x) (0) 14 ((0 : Int)))) H.size q → A q := fun q hq => Or.elim hq (fun ⟨k, e, hk⟩ => hD.2 k (q, e) hk) (fun hk => hA q (Nat.le_trans hS.1 hk))
    refine va_callv (va_runV (b := ad (0)) (As := []) (rest := []) ⟨hx, hb, hml, hown, hts⟩ (c_t_forget l dC dI ad cI cJ cZ cR M wl H.size (kS (x) (0) 14 ((0 : Int)))   hM ) (cwV 0 hts gX11_free_X11_forget rfl rfl rfl (by decide +kernel) ⟨Nat.le_of_ble_eq_true rfl, Nat.le_of_ble_eq_true rfl⟩) ⟨fun a U g mk q => by obtain ⟨q0, q1, qP, qK, qD, qN⟩ := q; exact ⟨q0, q1, qP, va_K.moved (u := U) (U := U.calling g mk a) (Vm.Alike.refl U.vm) qK, qD, kNw.same (u := U) (U := U.calling g mk a) rfl qN⟩, va_recv hK hP (ci := 11) (q0 := 0) rfl (kg0 (by omega)), fun U hU hW => ⟨rfl, by rw [hU], by rw [hU]; exact hP, va_K.moved hW.alike hK, hD.weaken (fun _ _ _ _ => trivial), kNw.warm hW hNw⟩⟩ rfl rfl hl.1 rfl (lv_room (Nat.le_of_ble_eq_true rfl)) dX11_free_11 ⟨Nat.le_of_ble_eq_true rfl, Nat.le_of_ble_eq_true rfl⟩) hS (fun q _ h => hFc q h) hFc (fun u9 t H1 locs ht hvm hw hB hz1 hk1 hS => ?_)
    obtain ⟨hP1, hK1, hD1⟩ := hB
    rw [ht] at hP1
    rw [hw] at hP1 hD1
    have hD2 := hD1.weaken (B := A) (fun _ q _ h => hFc q.1 h)
    have hP := hP1
    have hD := hD2
    generalize H1 = H at hP hS ⊢
    refine lv_iload_n hx hb dX11_free_14 rfl (lv_at hl 0 rfl) ?_
    exact W.iret (v := iI ((x).1 (0) 14)) hx hb hr (fun t ht hW => ⟨⟨iI ((x).1 (0) 14), (F_t_forget (kS (x) (0) 14 ((0 : Int)))).2, rfl, ⟨(by have h9 := congrArg (fun z : Int × KS => iI z.1) hres; exact h9), (by have h9 := congrArg (fun z : Int × KS => z.2) hres; exact h9)⟩, by rw [ht]; exact hP, va_K.moved hW.alike hK, hD⟩, hS.F ht⟩) hS.2.2 dX11_free_15
  exact key _ _ hP hS
theorem F_t_free_fr (x : KS)  : ksame [(0, 14), (0, 15), (0, 16)] [] x (F_t_free x).2 := by
  unfold F_t_free
  exact (km_tr (km_s (List.Mem.head _) (km_rf _ _ _)) (km_mono (km1 (List.Mem.tail _ (List.Mem.head _)) (km1 (List.Mem.tail _ (List.Mem.tail _ (List.Mem.head _))) km0)) km0 (F_t_forget_fr (kS (x) (0) 14 ((0 : Int))))))
theorem F_t_free_q (x : KS)   : kq [0] [] x (F_t_free x).2 := kq_of (F_t_free_fr x) (kq_c (Or.inr (by decide)) (kq_c (Or.inr (by decide)) (kq_c (Or.inr (by decide)) kq_m))) kq_n
def F_t_seen (x : KS)  : Int × KS := (if ((F_t_isSeen (x)).1) = (0) then ((-9 : Int), x) else ((x).1 (0) 15, x))
set_option maxHeartbeats 4000000 in
set_option maxRecDepth 100000 in
/-- LikeWords, seen -/
theorem c_t_seen (l : Launch) (dC : Nat → ClassId) (dI : Nat → Nat → Nat) (ad : Nat → Nat) (cI cJ cZ cR : ClassId) (M wl sz : Nat) (x : KS)  (hM : 87 ≤ M) (s0 : 0 ≤ x.1 0 15) (s1 : x.1 0 15 ≤ 20) : Met l yX11_seen wsX11_seen ({ frames := 1, cells := 0, slots := 0, locals := 20 }) (kPc dC dI ad cI cJ cZ cR M wl sz x [.ref (ad 0)]) (va_Qi (fun (r : Int32) (u : KS) => r = iI (F_t_seen x).1 ∧ u = (F_t_seen x).2) (kAt dC dI ad cI cJ cZ cR M wl (va_A (kWd cI cJ cZ cR wl ad M (x)) sz)) (va_A (kWd cI cJ cZ cR wl ad M (x)) sz)) 0 0 (va_A (kWd cI cJ cZ cR wl ad M (x)) sz) := by
  refine Met.ofW (cc := cX11_seen) (maxL := 1) (ret := (some .int)) (by decide) rfl ?_
  intro p e s m args below meth c s₁ B hml hv
  obtain ⟨rfl, hsz, hP, hK, hD0, hNw⟩ := hv
  have hx := B.exec
  have hb := B.bytes
  have hr := B.returns
  have hts := atoms_spec (ws := wsX11_seen) B.pre
  have hown : s.vm.findClass RX11 = some m.cls := findClass_of_methodNamed B.named
  have hlocks := B.notSynchronized
  have hinX11 : ∀ w ∈ u_ws RX11 TX11 17, w ∈ wsX11_seen := by decide +kernel
  subst hsz
  have hD := hD0.self (sz := s.heap.size)
  generalize hAe : va_A (kWd cI cJ cZ cR wl ad M (x)) s.heap.size = A at hD ⊢
  have hA : ∀ q : Nat, s.heap.size ≤ q → A q := fun q h => by rw [← hAe]; exact Or.inr h
  have hS : va_S A s.heap s.heap [] := va_S.rf
  have hl := lv_entry ([.ref (ad 0)]) (n := 1) (Nat.le_of_ble_eq_true rfl)
  rw [lg_entry_eq]
  generalize (lg_sl ([.ref (ad 0)]) ++ List.replicate (1 - (lg_sl ([.ref (ad 0)])).length) Slot.unset).toArray = ls at hl ⊢
  have hl : lv_has ls 1 [(0, .ref (ad (0)))] := hl
  have key : ∀ (H : Heap) (locs : List Loc), va_P (dC, dI) vwCl (kWd cI cJ cZ cR wl ad M (x)) H → va_S A s.heap H locs → W p l e (headSpec wsX11_seen ({ frames := 1, cells := 0, slots := 0, locals := 20 })).room s m ([.ref (ad 0)] : List Value).toArray below meth c H locs 0 0 (MQ below (va_Qi (fun (r : Int32) (u : KS) => r = iI (F_t_seen x).1 ∧ u = (F_t_seen x).2) (kAt dC dI ad cI cJ cZ cR M wl A) A) ([.ref (ad 0)] : List Value).toArray s 0 0 A) (F0 m 0 ls []) := by
    intro H locs hP hS
    have hres : (if ((F_t_isSeen (x)).1) = (0) then ((-9 : Int), x) else ((x).1 (0) 15, x)) = F_t_seen x := rfl
    refine lv_aload_n hx hb dX11_seen_0 rfl (lv_at hl 0 rfl) ?_
    have hFc : ∀ q, va_A (kWd cI cJ cZ cR wl ad M (x)) H.size q → A q := fun q hq => Or.elim hq (fun ⟨k, e, hk⟩ => hD.2 k (q, e) hk) (fun hk => hA q (Nat.le_trans hS.1 hk))
    refine va_calli (va_runV (b := ad (0)) (As := []) (rest := []) ⟨hx, hb, hml, hown, hts⟩ (c_t_isSeen l dC dI ad cI cJ cZ cR M wl H.size (x)   hM s0 s1) (cwV 0 hts gX11_seen_X11_isSeen rfl rfl rfl (by decide +kernel) ⟨Nat.le_of_ble_eq_true rfl, Nat.le_of_ble_eq_true rfl⟩) ⟨fun a U g mk q => by obtain ⟨q0, q1, qP, qK, qD, qN⟩ := q; exact ⟨q0, q1, qP, va_K.moved (u := U) (U := U.calling g mk a) (Vm.Alike.refl U.vm) qK, qD, kNw.same (u := U) (U := U.calling g mk a) rfl qN⟩, va_recv hK hP (ci := 11) (q0 := 0) rfl (kg0 (by omega)), fun U hU hW => ⟨rfl, by rw [hU], by rw [hU]; exact hP, va_K.moved hW.alike hK, hD.weaken (fun _ _ _ _ => trivial), kNw.warm hW hNw⟩⟩ rfl rfl hl.1 rfl (lv_room (Nat.le_of_ble_eq_true rfl)) dX11_seen_1 ⟨Nat.le_of_ble_eq_true rfl, Nat.le_of_ble_eq_true rfl⟩) hS (fun q _ h => hFc q h) hFc (fun r9 u9 t H1 locs ht hvm hw hB hz1 hk1 hS => ?_)
    obtain ⟨hP1, hK1, hD1⟩ := hB
    rw [ht] at hP1
    obtain ⟨hw1, hw2⟩ := hw
    rw [hw2] at hP1 hD1
    rw [hw1]
    rw [F_t_isSeen_2] at hP1 hD1
    have hD2 := hD1.weaken (B := A) (fun _ q _ h => hFc q.1 h)
    have hP := hP1
    have hD := hD2
    generalize H1 = H at hP hS ⊢
    refine wi_if_eq (tgt := 14) hx hb (kR01 (F_t_isSeen_01 _)) dX11_seen_4 (by decide) (fun c_4 => ?_) (fun c_4 => ?_)
    · skip
      rw [if_pos c_4] at hres
      refine lv_bipush (v := iI (-9 : Int)) hx hb dX11_seen_14 (by decide) ?_
      exact W.iret (v := iI ((-9 : Int))) hx hb hr (fun t ht hW => ⟨⟨iI ((-9 : Int)), x, rfl, ⟨(by have h9 := congrArg (fun z : Int × KS => iI z.1) hres; exact h9), (by have h9 := congrArg (fun z : Int × KS => z.2) hres; exact h9)⟩, by rw [ht]; exact hP, va_K.moved hW.alike hK, hD⟩, hS.F ht⟩) hS.2.2 dX11_seen_16
    · skip
      rw [if_neg c_4] at hres
      refine lv_aload_n hx hb dX11_seen_7 rfl (lv_at hl 0 rfl) ?_
      refine va_get (D := (dC, dI)) (ci := 11) (v := .int (iI ((x).1 (0) 15))) (C := RX11) (T := TX11) (N := 17) hx hb hts hinX11 hown hK hP (0) (kg0 (by omega)) rfl 15 (by decide) (hts (.fieldLink RX11 172 "LikeWords" "seenTo" "I") (by decide +kernel)) (fun _ h9 => h9) rfl dX11_seen_8 ?_
      refine lv_goto (tgt := 16) hx hb dX11_seen_11 (by decide) ?_
      exact W.iret (v := iI ((x).1 (0) 15)) hx hb hr (fun t ht hW => ⟨⟨iI ((x).1 (0) 15), x, rfl, ⟨(by have h9 := congrArg (fun z : Int × KS => iI z.1) hres; exact h9), (by have h9 := congrArg (fun z : Int × KS => z.2) hres; exact h9)⟩, by rw [ht]; exact hP, va_K.moved hW.alike hK, hD⟩, hS.F ht⟩) hS.2.2 dX11_seen_16
  exact key _ _ hP hS
theorem F_t_seen_fr (x : KS)  : ksame [] [] x (F_t_seen x).2 := by
  unfold F_t_seen
  by_cases hc : ((F_t_isSeen (x)).1) = (0)
  · rw [if_pos hc]
    exact (km_rf _ _ _)
  · rw [if_neg hc]
    exact (km_rf _ _ _)
theorem F_t_seen_2 (x : KS)  : (F_t_seen x).2 = x := km_nil (F_t_seen_fr x)
def F_t_least (x : KS)  : Int × KS := (if ((F_t_isSeen (x)).1) = (0) then ((-3 : Int), x) else ((x).1 (56) 2, x))
set_option maxHeartbeats 4000000 in
set_option maxRecDepth 100000 in
/-- LikeWords, least -/
theorem c_t_least (l : Launch) (dC : Nat → ClassId) (dI : Nat → Nat → Nat) (ad : Nat → Nat) (cI cJ cZ cR : ClassId) (M wl sz : Nat) (x : KS)  (hM : 87 ≤ M) (s0 : 0 ≤ x.1 0 15) (s1 : x.1 0 15 ≤ 20) : Met l yX11_least wsX11_least ({ frames := 1, cells := 0, slots := 0, locals := 20 }) (kPc dC dI ad cI cJ cZ cR M wl sz x [.ref (ad 0)]) (va_Qi (fun (r : Int32) (u : KS) => r = iI (F_t_least x).1 ∧ u = (F_t_least x).2) (kAt dC dI ad cI cJ cZ cR M wl (va_A (kWd cI cJ cZ cR wl ad M (x)) sz)) (va_A (kWd cI cJ cZ cR wl ad M (x)) sz)) 0 0 (va_A (kWd cI cJ cZ cR wl ad M (x)) sz) := by
  refine Met.ofW (cc := cX11_least) (maxL := 1) (ret := (some .int)) (by decide) rfl ?_
  intro p e s m args below meth c s₁ B hml hv
  obtain ⟨rfl, hsz, hP, hK, hD0, hNw⟩ := hv
  have hx := B.exec
  have hb := B.bytes
  have hr := B.returns
  have hts := atoms_spec (ws := wsX11_least) B.pre
  have hown : s.vm.findClass RX11 = some m.cls := findClass_of_methodNamed B.named
  have hlocks := B.notSynchronized
  have hinX1 : ∀ w ∈ u_ws RX1 TX1 3, w ∈ wsX11_least := by decide +kernel
  have hinX11 : ∀ w ∈ u_ws RX11 TX11 17, w ∈ wsX11_least := by decide +kernel
  subst hsz
  have hD := hD0.self (sz := s.heap.size)
  generalize hAe : va_A (kWd cI cJ cZ cR wl ad M (x)) s.heap.size = A at hD ⊢
  have hA : ∀ q : Nat, s.heap.size ≤ q → A q := fun q h => by rw [← hAe]; exact Or.inr h
  have hS : va_S A s.heap s.heap [] := va_S.rf
  have hl := lv_entry ([.ref (ad 0)]) (n := 1) (Nat.le_of_ble_eq_true rfl)
  rw [lg_entry_eq]
  generalize (lg_sl ([.ref (ad 0)]) ++ List.replicate (1 - (lg_sl ([.ref (ad 0)])).length) Slot.unset).toArray = ls at hl ⊢
  have hl : lv_has ls 1 [(0, .ref (ad (0)))] := hl
  have key : ∀ (H : Heap) (locs : List Loc), va_P (dC, dI) vwCl (kWd cI cJ cZ cR wl ad M (x)) H → va_S A s.heap H locs → W p l e (headSpec wsX11_least ({ frames := 1, cells := 0, slots := 0, locals := 20 })).room s m ([.ref (ad 0)] : List Value).toArray below meth c H locs 0 0 (MQ below (va_Qi (fun (r : Int32) (u : KS) => r = iI (F_t_least x).1 ∧ u = (F_t_least x).2) (kAt dC dI ad cI cJ cZ cR M wl A) A) ([.ref (ad 0)] : List Value).toArray s 0 0 A) (F0 m 0 ls []) := by
    intro H locs hP hS
    have hres : (if ((F_t_isSeen (x)).1) = (0) then ((-3 : Int), x) else ((x).1 (56) 2, x)) = F_t_least x := rfl
    refine lv_aload_n hx hb dX11_least_0 rfl (lv_at hl 0 rfl) ?_
    have hFc : ∀ q, va_A (kWd cI cJ cZ cR wl ad M (x)) H.size q → A q := fun q hq => Or.elim hq (fun ⟨k, e, hk⟩ => hD.2 k (q, e) hk) (fun hk => hA q (Nat.le_trans hS.1 hk))
    refine va_calli (va_runV (b := ad (0)) (As := []) (rest := []) ⟨hx, hb, hml, hown, hts⟩ (c_t_isSeen l dC dI ad cI cJ cZ cR M wl H.size (x)   hM s0 s1) (cwV 0 hts gX11_least_X11_isSeen rfl rfl rfl (by decide +kernel) ⟨Nat.le_of_ble_eq_true rfl, Nat.le_of_ble_eq_true rfl⟩) ⟨fun a U g mk q => by obtain ⟨q0, q1, qP, qK, qD, qN⟩ := q; exact ⟨q0, q1, qP, va_K.moved (u := U) (U := U.calling g mk a) (Vm.Alike.refl U.vm) qK, qD, kNw.same (u := U) (U := U.calling g mk a) rfl qN⟩, va_recv hK hP (ci := 11) (q0 := 0) rfl (kg0 (by omega)), fun U hU hW => ⟨rfl, by rw [hU], by rw [hU]; exact hP, va_K.moved hW.alike hK, hD.weaken (fun _ _ _ _ => trivial), kNw.warm hW hNw⟩⟩ rfl rfl hl.1 rfl (lv_room (Nat.le_of_ble_eq_true rfl)) dX11_least_1 ⟨Nat.le_of_ble_eq_true rfl, Nat.le_of_ble_eq_true rfl⟩) hS (fun q _ h => hFc q h) hFc (fun r9 u9 t H1 locs ht hvm hw hB hz1 hk1 hS => ?_)
    obtain ⟨hP1, hK1, hD1⟩ := hB
    rw [ht] at hP1
    obtain ⟨hw1, hw2⟩ := hw
    rw [hw2] at hP1 hD1
    rw [hw1]
    rw [F_t_isSeen_2] at hP1 hD1
    have hD2 := hD1.weaken (B := A) (fun _ q _ h => hFc q.1 h)
    have hP := hP1
    have hD := hD2
    generalize H1 = H at hP hS ⊢
    refine wi_if_eq (tgt := 17) hx hb (kR01 (F_t_isSeen_01 _)) dX11_least_4 (by decide) (fun c_4 => ?_) (fun c_4 => ?_)
    · skip
      rw [if_pos c_4] at hres
      refine lv_bipush (v := iI (-3 : Int)) hx hb dX11_least_17 (by decide) ?_
      exact W.iret (v := iI ((-3 : Int))) hx hb hr (fun t ht hW => ⟨⟨iI ((-3 : Int)), x, rfl, ⟨(by have h9 := congrArg (fun z : Int × KS => iI z.1) hres; exact h9), (by have h9 := congrArg (fun z : Int × KS => z.2) hres; exact h9)⟩, by rw [ht]; exact hP, va_K.moved hW.alike hK, hD⟩, hS.F ht⟩) hS.2.2 dX11_least_19
    · skip
      rw [if_neg c_4] at hres
      refine lv_aload_n hx hb dX11_least_7 rfl (lv_at hl 0 rfl) ?_
      refine va_get (D := (dC, dI)) (ci := 11) (v := .ref (ad (56))) (C := RX11) (T := TX11) (N := 17) hx hb hts hinX11 hown hK hP (0) (kg0 (by omega)) rfl 4 (by decide) (hts (.fieldLink RX11 35 "LikeWords" "joins" "LLikeWords$Joins;") (by decide +kernel)) (fun _ h9 => h9) rfl dX11_least_8 ?_
      refine va_get (D := (dC, dI)) (ci := 1) (v := .int (iI ((x).1 (56) 2))) (C := RX1) (T := TX1) (N := 3) hx hb hts hinX1 hown hK hP (56) (kg56 (by omega)) rfl 2 (by decide) (hts (.fieldLink RX11 182 "LikeWords$Joins" "groups" "I") (by decide +kernel)) (fun _ h9 => h9) rfl dX11_least_11 ?_
      refine lv_goto (tgt := 19) hx hb dX11_least_14 (by decide) ?_
      exact W.iret (v := iI ((x).1 (56) 2)) hx hb hr (fun t ht hW => ⟨⟨iI ((x).1 (56) 2), x, rfl, ⟨(by have h9 := congrArg (fun z : Int × KS => iI z.1) hres; exact h9), (by have h9 := congrArg (fun z : Int × KS => z.2) hres; exact h9)⟩, by rw [ht]; exact hP, va_K.moved hW.alike hK, hD⟩, hS.F ht⟩) hS.2.2 dX11_least_19
  exact key _ _ hP hS
theorem F_t_least_fr (x : KS)  : ksame [] [] x (F_t_least x).2 := by
  unfold F_t_least
  by_cases hc : ((F_t_isSeen (x)).1) = (0)
  · rw [if_pos hc]
    exact (km_rf _ _ _)
  · rw [if_neg hc]
    exact (km_rf _ _ _)
theorem F_t_least_2 (x : KS)  : (F_t_least x).2 = x := km_nil (F_t_least_fr x)
def F_t_rule (x : KS) (r0 : Int) (b0 : Int) (i0 : Int) : Int × KS := (if ((F_t_isSeen (x)).1) = (0) then ((-3 : Int), x) else (if ((F_u_has (x) (r0)).1) = (0) then ((-1 : Int), x) else (if (i0) < (0) then ((-9 : Int), x) else (if ((F_u_spanOf (x) (r0) (b0)).1) ≤ (i0) then ((-9 : Int), x) else ((F_u_signAt (x) (r0) (b0) (i0)).1, x)))))
set_option maxHeartbeats 4000000 in
set_option maxRecDepth 100000 in
/-- LikeWords, rule -/
theorem c_t_rule (l : Launch) (dC : Nat → ClassId) (dI : Nat → Nat → Nat) (ad : Nat → Nat) (cI cJ cZ cR : ClassId) (M wl sz : Nat) (x : KS) (r0 : Int) (b0 : Int) (i0 : Int) (hM : 87 ≤ M) (s0 : 0 ≤ x.1 0 15) (s1 : x.1 0 15 ≤ 20) (ru : ruR x) (rr0 : iR r0) (b01 : b0 = 0 ∨ b0 = 1) (ri : iR i0) : Met l yX11_rule wsX11_rule ({ frames := 1, cells := 0, slots := 0, locals := 24 }) (kPc dC dI ad cI cJ cZ cR M wl sz x [.ref (ad 0), .int (iI r0), .int (iI b0), .int (iI i0)]) (va_Qi (fun (r : Int32) (u : KS) => r = iI (F_t_rule x r0 b0 i0).1 ∧ u = (F_t_rule x r0 b0 i0).2) (kAt dC dI ad cI cJ cZ cR M wl (va_A (kWd cI cJ cZ cR wl ad M (x)) sz)) (va_A (kWd cI cJ cZ cR wl ad M (x)) sz)) 0 0 (va_A (kWd cI cJ cZ cR wl ad M (x)) sz) := by
  refine Met.ofW (cc := cX11_rule) (maxL := 4) (ret := (some .int)) (by decide) rfl ?_
  intro p e s m args below meth c s₁ B hml hv
  obtain ⟨rfl, hsz, hP, hK, hD0, hNw⟩ := hv
  have hx := B.exec
  have hb := B.bytes
  have hr := B.returns
  have hts := atoms_spec (ws := wsX11_rule) B.pre
  have hown : s.vm.findClass RX11 = some m.cls := findClass_of_methodNamed B.named
  have hlocks := B.notSynchronized
  have hinX11 : ∀ w ∈ u_ws RX11 TX11 17, w ∈ wsX11_rule := by decide +kernel
  subst hsz
  have hD := hD0.self (sz := s.heap.size)
  generalize hAe : va_A (kWd cI cJ cZ cR wl ad M (x)) s.heap.size = A at hD ⊢
  have hA : ∀ q : Nat, s.heap.size ≤ q → A q := fun q h => by rw [← hAe]; exact Or.inr h
  have hS : va_S A s.heap s.heap [] := va_S.rf
  have hl := lv_entry ([.ref (ad 0), .int (iI r0), .int (iI b0), .int (iI i0)]) (n := 4) (Nat.le_of_ble_eq_true rfl)
  rw [lg_entry_eq]
  generalize (lg_sl ([.ref (ad 0), .int (iI r0), .int (iI b0), .int (iI i0)]) ++ List.replicate (4 - (lg_sl ([.ref (ad 0), .int (iI r0), .int (iI b0), .int (iI i0)])).length) Slot.unset).toArray = ls at hl ⊢
  have hl : lv_has ls 4 [(0, .ref (ad (0))), (1, .int (iI (r0))), (2, .int (iI (b0))), (3, .int (iI (i0)))] := hl
  have key : ∀ (H : Heap) (locs : List Loc), va_P (dC, dI) vwCl (kWd cI cJ cZ cR wl ad M (x)) H → va_S A s.heap H locs → W p l e (headSpec wsX11_rule ({ frames := 1, cells := 0, slots := 0, locals := 24 })).room s m ([.ref (ad 0), .int (iI r0), .int (iI b0), .int (iI i0)] : List Value).toArray below meth c H locs 0 0 (MQ below (va_Qi (fun (r : Int32) (u : KS) => r = iI (F_t_rule x r0 b0 i0).1 ∧ u = (F_t_rule x r0 b0 i0).2) (kAt dC dI ad cI cJ cZ cR M wl A) A) ([.ref (ad 0), .int (iI r0), .int (iI b0), .int (iI i0)] : List Value).toArray s 0 0 A) (F0 m 0 ls []) := by
    intro H locs hP hS
    have hres : (if ((F_t_isSeen (x)).1) = (0) then ((-3 : Int), x) else (if ((F_u_has (x) (r0)).1) = (0) then ((-1 : Int), x) else (if (i0) < (0) then ((-9 : Int), x) else (if ((F_u_spanOf (x) (r0) (b0)).1) ≤ (i0) then ((-9 : Int), x) else ((F_u_signAt (x) (r0) (b0) (i0)).1, x))))) = F_t_rule x r0 b0 i0 := rfl
    refine lv_aload_n hx hb dX11_rule_0 rfl (lv_at hl 0 rfl) ?_
    have hFc : ∀ q, va_A (kWd cI cJ cZ cR wl ad M (x)) H.size q → A q := fun q hq => Or.elim hq (fun ⟨k, e, hk⟩ => hD.2 k (q, e) hk) (fun hk => hA q (Nat.le_trans hS.1 hk))
    refine va_calli (va_runV (b := ad (0)) (As := []) (rest := []) ⟨hx, hb, hml, hown, hts⟩ (c_t_isSeen l dC dI ad cI cJ cZ cR M wl H.size (x)   hM s0 s1) (cwV 0 hts gX11_rule_X11_isSeen rfl rfl rfl (by decide +kernel) ⟨Nat.le_of_ble_eq_true rfl, Nat.le_of_ble_eq_true rfl⟩) ⟨fun a U g mk q => by obtain ⟨q0, q1, qP, qK, qD, qN⟩ := q; exact ⟨q0, q1, qP, va_K.moved (u := U) (U := U.calling g mk a) (Vm.Alike.refl U.vm) qK, qD, kNw.same (u := U) (U := U.calling g mk a) rfl qN⟩, va_recv hK hP (ci := 11) (q0 := 0) rfl (kg0 (by omega)), fun U hU hW => ⟨rfl, by rw [hU], by rw [hU]; exact hP, va_K.moved hW.alike hK, hD.weaken (fun _ _ _ _ => trivial), kNw.warm hW hNw⟩⟩ rfl rfl hl.1 rfl (lv_room (Nat.le_of_ble_eq_true rfl)) dX11_rule_1 ⟨Nat.le_of_ble_eq_true rfl, Nat.le_of_ble_eq_true rfl⟩) hS (fun q _ h => hFc q h) hFc (fun r9 u9 t H1 locs ht hvm hw hB hz1 hk1 hS => ?_)
    obtain ⟨hP1, hK1, hD1⟩ := hB
    rw [ht] at hP1
    obtain ⟨hw1, hw2⟩ := hw
    rw [hw2] at hP1 hD1
    rw [hw1]
    rw [F_t_isSeen_2] at hP1 hD1
    have hD2 := hD1.weaken (B := A) (fun _ q _ h => hFc q.1 h)
    have hP := hP1
    have hD := hD2
    generalize H1 = H at hP hS ⊢
    refine wi_if_ne (tgt := 10) hx hb (kR01 (F_t_isSeen_01 _)) dX11_rule_4 (by decide) (fun c_4 => ?_) (fun c_4 => ?_)
    · skip
      rw [if_neg c_4] at hres
      refine lv_aload_n hx hb dX11_rule_10 rfl (lv_at hl 0 rfl) ?_
      refine va_get (D := (dC, dI)) (ci := 11) (v := .ref (ad (58))) (C := RX11) (T := TX11) (N := 17) hx hb hts hinX11 hown hK hP (0) (kg0 (by omega)) rfl 5 (by decide) (hts (.fieldLink RX11 44 "LikeWords" "rules" "LLikeWords$Rules;") (by decide +kernel)) (fun _ h9 => h9) rfl dX11_rule_11 ?_
      refine lv_iload_n hx hb dX11_rule_14 rfl (lv_at hl 1 rfl) ?_
      have hFc : ∀ q, va_A (kWd cI cJ cZ cR wl ad M (x)) H.size q → A q := fun q hq => Or.elim hq (fun ⟨k, e, hk⟩ => hD.2 k (q, e) hk) (fun hk => hA q (Nat.le_trans hS.1 hk))
      refine va_calli (va_runV (b := ad (58)) (As := [.int (iI (r0))]) (rest := []) ⟨hx, hb, hml, hown, hts⟩ (c_u_has l dC dI ad cI cJ cZ cR M wl H.size (x)  (r0) hM rr0 ru) (cwV 1 hts gX11_rule_X7_has rfl rfl rfl (by decide +kernel) ⟨Nat.le_of_ble_eq_true rfl, Nat.le_of_ble_eq_true rfl⟩) ⟨fun a U g mk q => by obtain ⟨q0, q1, qP, qK, qD, qN⟩ := q; exact ⟨q0, q1, qP, va_K.moved (u := U) (U := U.calling g mk a) (Vm.Alike.refl U.vm) qK, qD, kNw.same (u := U) (U := U.calling g mk a) rfl qN⟩, va_recv hK hP (ci := 7) (q0 := 58) rfl (kg58 (by omega)), fun U hU hW => ⟨rfl, by rw [hU], by rw [hU]; exact hP, va_K.moved hW.alike hK, hD.weaken (fun _ _ _ _ => trivial), kNw.warm hW hNw⟩⟩ rfl rfl hl.1 rfl (lv_room (Nat.le_of_ble_eq_true rfl)) dX11_rule_15 ⟨Nat.le_of_ble_eq_true rfl, Nat.le_of_ble_eq_true rfl⟩) hS (fun q _ h => hFc q h) hFc (fun r9 u9 t H1 locs ht hvm hw hB hz1 hk1 hS => ?_)
      obtain ⟨hP1, hK1, hD1⟩ := hB
      rw [ht] at hP1
      obtain ⟨hw1, hw2⟩ := hw
      rw [hw2] at hP1 hD1
      rw [hw1]
      rw [F_u_has_2] at hP1 hD1
      have hD2 := hD1.weaken (B := A) (fun _ q _ h => hFc q.1 h)
      have hP := hP1
      have hD := hD2
      generalize H1 = H at hP hS ⊢
      refine wi_if_ne (tgt := 23) hx hb (kR01 (F_u_has_01 _ _)) dX11_rule_18 (by decide) (fun c_18 => ?_) (fun c_18 => ?_)
      · skip
        rw [if_neg c_18] at hres
        refine lv_iload_n hx hb dX11_rule_23 rfl (lv_at hl 3 rfl) ?_
        refine wi_if_lt (tgt := 53) hx hb (by first | assumption | (unfold iR; omega) | exact kR01 (by assumption)) dX11_rule_24 (by decide) (fun c_24 => ?_) (fun c_24 => ?_)
        · skip
          rw [if_pos c_24] at hres
          refine lv_bipush (v := iI (-9 : Int)) hx hb dX11_rule_53 (by decide) ?_
          exact W.iret (v := iI ((-9 : Int))) hx hb hr (fun t ht hW => ⟨⟨iI ((-9 : Int)), x, rfl, ⟨(by have h9 := congrArg (fun z : Int × KS => iI z.1) hres; exact h9), (by have h9 := congrArg (fun z : Int × KS => z.2) hres; exact h9)⟩, by rw [ht]; exact hP, va_K.moved hW.alike hK, hD⟩, hS.F ht⟩) hS.2.2 dX11_rule_55
        · skip
          rw [if_neg c_24] at hres
          refine lv_iload_n hx hb dX11_rule_27 rfl (lv_at hl 3 rfl) ?_
          refine lv_aload_n hx hb dX11_rule_28 rfl (lv_at hl 0 rfl) ?_
          refine va_get (D := (dC, dI)) (ci := 11) (v := .ref (ad (58))) (C := RX11) (T := TX11) (N := 17) hx hb hts hinX11 hown hK hP (0) (kg0 (by omega)) rfl 5 (by decide) (hts (.fieldLink RX11 44 "LikeWords" "rules" "LLikeWords$Rules;") (by decide +kernel)) (fun _ h9 => h9) rfl dX11_rule_29 ?_
          refine lv_iload_n hx hb dX11_rule_32 rfl (lv_at hl 1 rfl) ?_
          refine lv_iload_n hx hb dX11_rule_33 rfl (lv_at hl 2 rfl) ?_
          have hFc : ∀ q, va_A (kWd cI cJ cZ cR wl ad M (x)) H.size q → A q := fun q hq => Or.elim hq (fun ⟨k, e, hk⟩ => hD.2 k (q, e) hk) (fun hk => hA q (Nat.le_trans hS.1 hk))
          refine va_calli (va_runV (b := ad (58)) (As := [.int (iI (r0)), .int (iI (b0))]) (rest := [.int (iI (i0))]) ⟨hx, hb, hml, hown, hts⟩ (c_u_spanOf l dC dI ad cI cJ cZ cR M wl H.size (x)  (r0) (b0) hM rr0 b01) (cwV 2 hts gX11_rule_X7_spanOf rfl rfl rfl (by decide +kernel) ⟨Nat.le_of_ble_eq_true rfl, Nat.le_of_ble_eq_true rfl⟩) ⟨fun a U g mk q => by obtain ⟨q0, q1, qP, qK, qD, qN⟩ := q; exact ⟨q0, q1, qP, va_K.moved (u := U) (U := U.calling g mk a) (Vm.Alike.refl U.vm) qK, qD, kNw.same (u := U) (U := U.calling g mk a) rfl qN⟩, va_recv hK hP (ci := 7) (q0 := 58) rfl (kg58 (by omega)), fun U hU hW => ⟨rfl, by rw [hU], by rw [hU]; exact hP, va_K.moved hW.alike hK, hD.weaken (fun _ _ _ _ => trivial), kNw.warm hW hNw⟩⟩ rfl rfl hl.1 rfl (lv_room (Nat.le_of_ble_eq_true rfl)) dX11_rule_34 ⟨Nat.le_of_ble_eq_true rfl, Nat.le_of_ble_eq_true rfl⟩) hS (fun q _ h => hFc q h) hFc (fun r9 u9 t H1 locs ht hvm hw hB hz1 hk1 hS => ?_)
          obtain ⟨hP1, hK1, hD1⟩ := hB
          rw [ht] at hP1
          obtain ⟨hw1, hw2⟩ := hw
          rw [hw2] at hP1 hD1
          rw [hw1]
          rw [F_u_spanOf_2] at hP1 hD1
          have hD2 := hD1.weaken (B := A) (fun _ q _ h => hFc q.1 h)
          have hP := hP1
          have hD := hD2
          generalize H1 = H at hP hS ⊢
          refine wi_icmp_ge (tgt := 53) hx hb ri (by have := F_u_spanOf_b ru r0 b0; unfold iR; omega) dX11_rule_37 (by decide) (fun c_37 => ?_) (fun c_37 => ?_)
          · skip
            rw [if_pos c_37] at hres
            refine lv_bipush (v := iI (-9 : Int)) hx hb dX11_rule_53 (by decide) ?_
            exact W.iret (v := iI ((-9 : Int))) hx hb hr (fun t ht hW => ⟨⟨iI ((-9 : Int)), x, rfl, ⟨(by have h9 := congrArg (fun z : Int × KS => iI z.1) hres; exact h9), (by have h9 := congrArg (fun z : Int × KS => z.2) hres; exact h9)⟩, by rw [ht]; exact hP, va_K.moved hW.alike hK, hD⟩, hS.F ht⟩) hS.2.2 dX11_rule_55
          · skip
            rw [if_neg c_37] at hres
            refine lv_aload_n hx hb dX11_rule_40 rfl (lv_at hl 0 rfl) ?_
            refine va_get (D := (dC, dI)) (ci := 11) (v := .ref (ad (58))) (C := RX11) (T := TX11) (N := 17) hx hb hts hinX11 hown hK hP (0) (kg0 (by omega)) rfl 5 (by decide) (hts (.fieldLink RX11 44 "LikeWords" "rules" "LLikeWords$Rules;") (by decide +kernel)) (fun _ h9 => h9) rfl dX11_rule_41 ?_
            refine lv_iload_n hx hb dX11_rule_44 rfl (lv_at hl 1 rfl) ?_
            refine lv_iload_n hx hb dX11_rule_45 rfl (lv_at hl 2 rfl) ?_
            refine lv_iload_n hx hb dX11_rule_46 rfl (lv_at hl 3 rfl) ?_
            have hFc : ∀ q, va_A (kWd cI cJ cZ cR wl ad M (x)) H.size q → A q := fun q hq => Or.elim hq (fun ⟨k, e, hk⟩ => hD.2 k (q, e) hk) (fun hk => hA q (Nat.le_trans hS.1 hk))
            refine va_calli (va_runV (b := ad (58)) (As := [.int (iI (r0)), .int (iI (b0)), .int (iI (i0))]) (rest := []) ⟨hx, hb, hml, hown, hts⟩ (c_u_signAt l dC dI ad cI cJ cZ cR M wl H.size (x)  (r0) (b0) (i0) hM rr0 b01) (cwV 3 hts gX11_rule_X7_signAt rfl rfl rfl (by decide +kernel) ⟨Nat.le_of_ble_eq_true rfl, Nat.le_of_ble_eq_true rfl⟩) ⟨fun a U g mk q => by obtain ⟨q0, q1, qP, qK, qD, qN⟩ := q; exact ⟨q0, q1, qP, va_K.moved (u := U) (U := U.calling g mk a) (Vm.Alike.refl U.vm) qK, qD, kNw.same (u := U) (U := U.calling g mk a) rfl qN⟩, va_recv hK hP (ci := 7) (q0 := 58) rfl (kg58 (by omega)), fun U hU hW => ⟨rfl, by rw [hU], by rw [hU]; exact hP, va_K.moved hW.alike hK, hD.weaken (fun _ _ _ _ => trivial), kNw.warm hW hNw⟩⟩ rfl rfl hl.1 rfl (lv_room (Nat.le_of_ble_eq_true rfl)) dX11_rule_47 ⟨Nat.le_of_ble_eq_true rfl, Nat.le_of_ble_eq_true rfl⟩) hS (fun q _ h => hFc q h) hFc (fun r9 u9 t H1 locs ht hvm hw hB hz1 hk1 hS => ?_)
            obtain ⟨hP1, hK1, hD1⟩ := hB
            rw [ht] at hP1
            obtain ⟨hw1, hw2⟩ := hw
            rw [hw2] at hP1 hD1
            rw [hw1]
            rw [F_u_signAt_2] at hP1 hD1
            have hD2 := hD1.weaken (B := A) (fun _ q _ h => hFc q.1 h)
            have hP := hP1
            have hD := hD2
            generalize H1 = H at hP hS ⊢
            refine lv_goto (tgt := 55) hx hb dX11_rule_50 (by decide) ?_
            exact W.iret (v := iI ((F_u_signAt (x) (r0) (b0) (i0)).1)) hx hb hr (fun t ht hW => ⟨⟨iI ((F_u_signAt (x) (r0) (b0) (i0)).1), x, rfl, ⟨(by have h9 := congrArg (fun z : Int × KS => iI z.1) hres; exact h9), (by have h9 := congrArg (fun z : Int × KS => z.2) hres; exact h9)⟩, by rw [ht]; exact hP, va_K.moved hW.alike hK, hD⟩, hS.F ht⟩) hS.2.2 dX11_rule_55
      · skip
        rw [if_pos c_18] at hres
        refine lv_iconst (v := iI (-1 : Int)) hx hb dX11_rule_21 (by decide) ?_
        exact W.iret (v := iI ((-1 : Int))) hx hb hr (fun t ht hW => ⟨⟨iI ((-1 : Int)), x, rfl, ⟨(by have h9 := congrArg (fun z : Int × KS => iI z.1) hres; exact h9), (by have h9 := congrArg (fun z : Int × KS => z.2) hres; exact h9)⟩, by rw [ht]; exact hP, va_K.moved hW.alike hK, hD⟩, hS.F ht⟩) hS.2.2 dX11_rule_22
    · skip
      rw [if_pos c_4] at hres
      refine lv_bipush (v := iI (-3 : Int)) hx hb dX11_rule_7 (by decide) ?_
      exact W.iret (v := iI ((-3 : Int))) hx hb hr (fun t ht hW => ⟨⟨iI ((-3 : Int)), x, rfl, ⟨(by have h9 := congrArg (fun z : Int × KS => iI z.1) hres; exact h9), (by have h9 := congrArg (fun z : Int × KS => z.2) hres; exact h9)⟩, by rw [ht]; exact hP, va_K.moved hW.alike hK, hD⟩, hS.F ht⟩) hS.2.2 dX11_rule_9
  exact key _ _ hP hS
theorem F_t_rule_fr (x : KS) (r0 : Int) (b0 : Int) (i0 : Int) : ksame [] [] x (F_t_rule x r0 b0 i0).2 := by
  unfold F_t_rule
  by_cases hc : ((F_t_isSeen (x)).1) = (0)
  · rw [if_pos hc]
    exact (km_rf _ _ _)
  · rw [if_neg hc]
    by_cases hc : ((F_u_has (x) (r0)).1) = (0)
    · rw [if_pos hc]
      exact (km_rf _ _ _)
    · rw [if_neg hc]
      by_cases hc : (i0) < (0)
      · rw [if_pos hc]
        exact (km_rf _ _ _)
      · rw [if_neg hc]
        by_cases hc : ((F_u_spanOf (x) (r0) (b0)).1) ≤ (i0)
        · rw [if_pos hc]
          exact (km_rf _ _ _)
        · rw [if_neg hc]
          exact (km_rf _ _ _)
theorem F_t_rule_2 (x : KS) (r0 : Int) (b0 : Int) (i0 : Int) : (F_t_rule x r0 b0 i0).2 = x := km_nil (F_t_rule_fr x r0 b0 i0)
def F_t_closed (x : KS)  : Int × KS := (if ((F_t_isSeen (x)).1) = (0) then ((-3 : Int), x) else (if ((x).1 (0) 16) = (0) then ((0 : Int), x) else ((1 : Int), x)))
set_option maxHeartbeats 4000000 in
set_option maxRecDepth 100000 in
/-- LikeWords, closed -/
theorem c_t_closed (l : Launch) (dC : Nat → ClassId) (dI : Nat → Nat → Nat) (ad : Nat → Nat) (cI cJ cZ cR : ClassId) (M wl sz : Nat) (x : KS)  (hM : 87 ≤ M) (s0 : 0 ≤ x.1 0 15) (s1 : x.1 0 15 ≤ 20) (p01 : x.1 0 16 = 0 ∨ x.1 0 16 = 1) : Met l yX11_closed wsX11_closed ({ frames := 1, cells := 0, slots := 0, locals := 20 }) (kPc dC dI ad cI cJ cZ cR M wl sz x [.ref (ad 0)]) (va_Qi (fun (r : Int32) (u : KS) => r = iI (F_t_closed x).1 ∧ u = (F_t_closed x).2) (kAt dC dI ad cI cJ cZ cR M wl (va_A (kWd cI cJ cZ cR wl ad M (x)) sz)) (va_A (kWd cI cJ cZ cR wl ad M (x)) sz)) 0 0 (va_A (kWd cI cJ cZ cR wl ad M (x)) sz) := by
  refine Met.ofW (cc := cX11_closed) (maxL := 1) (ret := (some .int)) (by decide) rfl ?_
  intro p e s m args below meth c s₁ B hml hv
  obtain ⟨rfl, hsz, hP, hK, hD0, hNw⟩ := hv
  have hx := B.exec
  have hb := B.bytes
  have hr := B.returns
  have hts := atoms_spec (ws := wsX11_closed) B.pre
  have hown : s.vm.findClass RX11 = some m.cls := findClass_of_methodNamed B.named
  have hlocks := B.notSynchronized
  have hinX11 : ∀ w ∈ u_ws RX11 TX11 17, w ∈ wsX11_closed := by decide +kernel
  subst hsz
  have hD := hD0.self (sz := s.heap.size)
  generalize hAe : va_A (kWd cI cJ cZ cR wl ad M (x)) s.heap.size = A at hD ⊢
  have hA : ∀ q : Nat, s.heap.size ≤ q → A q := fun q h => by rw [← hAe]; exact Or.inr h
  have hS : va_S A s.heap s.heap [] := va_S.rf
  have hl := lv_entry ([.ref (ad 0)]) (n := 1) (Nat.le_of_ble_eq_true rfl)
  rw [lg_entry_eq]
  generalize (lg_sl ([.ref (ad 0)]) ++ List.replicate (1 - (lg_sl ([.ref (ad 0)])).length) Slot.unset).toArray = ls at hl ⊢
  have hl : lv_has ls 1 [(0, .ref (ad (0)))] := hl
  have key : ∀ (H : Heap) (locs : List Loc), va_P (dC, dI) vwCl (kWd cI cJ cZ cR wl ad M (x)) H → va_S A s.heap H locs → W p l e (headSpec wsX11_closed ({ frames := 1, cells := 0, slots := 0, locals := 20 })).room s m ([.ref (ad 0)] : List Value).toArray below meth c H locs 0 0 (MQ below (va_Qi (fun (r : Int32) (u : KS) => r = iI (F_t_closed x).1 ∧ u = (F_t_closed x).2) (kAt dC dI ad cI cJ cZ cR M wl A) A) ([.ref (ad 0)] : List Value).toArray s 0 0 A) (F0 m 0 ls []) := by
    intro H locs hP hS
    have hres : (if ((F_t_isSeen (x)).1) = (0) then ((-3 : Int), x) else (if ((x).1 (0) 16) = (0) then ((0 : Int), x) else ((1 : Int), x))) = F_t_closed x := rfl
    refine lv_aload_n hx hb dX11_closed_0 rfl (lv_at hl 0 rfl) ?_
    have hFc : ∀ q, va_A (kWd cI cJ cZ cR wl ad M (x)) H.size q → A q := fun q hq => Or.elim hq (fun ⟨k, e, hk⟩ => hD.2 k (q, e) hk) (fun hk => hA q (Nat.le_trans hS.1 hk))
    refine va_calli (va_runV (b := ad (0)) (As := []) (rest := []) ⟨hx, hb, hml, hown, hts⟩ (c_t_isSeen l dC dI ad cI cJ cZ cR M wl H.size (x)   hM s0 s1) (cwV 0 hts gX11_closed_X11_isSeen rfl rfl rfl (by decide +kernel) ⟨Nat.le_of_ble_eq_true rfl, Nat.le_of_ble_eq_true rfl⟩) ⟨fun a U g mk q => by obtain ⟨q0, q1, qP, qK, qD, qN⟩ := q; exact ⟨q0, q1, qP, va_K.moved (u := U) (U := U.calling g mk a) (Vm.Alike.refl U.vm) qK, qD, kNw.same (u := U) (U := U.calling g mk a) rfl qN⟩, va_recv hK hP (ci := 11) (q0 := 0) rfl (kg0 (by omega)), fun U hU hW => ⟨rfl, by rw [hU], by rw [hU]; exact hP, va_K.moved hW.alike hK, hD.weaken (fun _ _ _ _ => trivial), kNw.warm hW hNw⟩⟩ rfl rfl hl.1 rfl (lv_room (Nat.le_of_ble_eq_true rfl)) dX11_closed_1 ⟨Nat.le_of_ble_eq_true rfl, Nat.le_of_ble_eq_true rfl⟩) hS (fun q _ h => hFc q h) hFc (fun r9 u9 t H1 locs ht hvm hw hB hz1 hk1 hS => ?_)
    obtain ⟨hP1, hK1, hD1⟩ := hB
    rw [ht] at hP1
    obtain ⟨hw1, hw2⟩ := hw
    rw [hw2] at hP1 hD1
    rw [hw1]
    rw [F_t_isSeen_2] at hP1 hD1
    have hD2 := hD1.weaken (B := A) (fun _ q _ h => hFc q.1 h)
    have hP := hP1
    have hD := hD2
    generalize H1 = H at hP hS ⊢
    refine wi_if_ne (tgt := 10) hx hb (kR01 (F_t_isSeen_01 _)) dX11_closed_4 (by decide) (fun c_4 => ?_) (fun c_4 => ?_)
    · skip
      rw [if_neg c_4] at hres
      refine lv_aload_n hx hb dX11_closed_10 rfl (lv_at hl 0 rfl) ?_
      refine va_get (D := (dC, dI)) (ci := 11) (v := .int (iI ((x).1 (0) 16))) (C := RX11) (T := TX11) (N := 17) hx hb hts hinX11 hown hK hP (0) (kg0 (by omega)) rfl 16 (by decide) (hts (.fieldLink RX11 165 "LikeWords" "proved" "Z") (by decide +kernel)) (fun _ h9 => h9) rfl dX11_closed_11 ?_
      refine wi_if_eq (tgt := 21) hx hb (kR01 p01) dX11_closed_14 (by decide) (fun c_14 => ?_) (fun c_14 => ?_)
      · skip
        rw [if_pos c_14] at hres
        refine lv_iconst (v := iI (0 : Int)) hx hb dX11_closed_21 (by decide) ?_
        exact W.iret (v := iI ((0 : Int))) hx hb hr (fun t ht hW => ⟨⟨iI ((0 : Int)), x, rfl, ⟨(by have h9 := congrArg (fun z : Int × KS => iI z.1) hres; exact h9), (by have h9 := congrArg (fun z : Int × KS => z.2) hres; exact h9)⟩, by rw [ht]; exact hP, va_K.moved hW.alike hK, hD⟩, hS.F ht⟩) hS.2.2 dX11_closed_22
      · skip
        rw [if_neg c_14] at hres
        refine lv_iconst (v := iI (1 : Int)) hx hb dX11_closed_17 (by decide) ?_
        refine lv_goto (tgt := 22) hx hb dX11_closed_18 (by decide) ?_
        exact W.iret (v := iI ((1 : Int))) hx hb hr (fun t ht hW => ⟨⟨iI ((1 : Int)), x, rfl, ⟨(by have h9 := congrArg (fun z : Int × KS => iI z.1) hres; exact h9), (by have h9 := congrArg (fun z : Int × KS => z.2) hres; exact h9)⟩, by rw [ht]; exact hP, va_K.moved hW.alike hK, hD⟩, hS.F ht⟩) hS.2.2 dX11_closed_22
    · skip
      rw [if_pos c_4] at hres
      refine lv_bipush (v := iI (-3 : Int)) hx hb dX11_closed_7 (by decide) ?_
      exact W.iret (v := iI ((-3 : Int))) hx hb hr (fun t ht hW => ⟨⟨iI ((-3 : Int)), x, rfl, ⟨(by have h9 := congrArg (fun z : Int × KS => iI z.1) hres; exact h9), (by have h9 := congrArg (fun z : Int × KS => z.2) hres; exact h9)⟩, by rw [ht]; exact hP, va_K.moved hW.alike hK, hD⟩, hS.F ht⟩) hS.2.2 dX11_closed_9
  exact key _ _ hP hS
theorem F_t_closed_fr (x : KS)  : ksame [] [] x (F_t_closed x).2 := by
  unfold F_t_closed
  by_cases hc : ((F_t_isSeen (x)).1) = (0)
  · rw [if_pos hc]
    exact (km_rf _ _ _)
  · rw [if_neg hc]
    by_cases hc : ((x).1 (0) 16) = (0)
    · rw [if_pos hc]
      exact (km_rf _ _ _)
    · rw [if_neg hc]
      exact (km_rf _ _ _)
theorem F_t_closed_2 (x : KS)  : (F_t_closed x).2 = x := km_nil (F_t_closed_fr x)
def F_t_states (x : KS)  : Int × KS := (if ((F_t_isProved (x)).1) = (0) then ((-3 : Int), x) else ((x).1 (64) 7, x))
set_option maxHeartbeats 4000000 in
set_option maxRecDepth 100000 in
/-- LikeWords, states -/
theorem c_t_states (l : Launch) (dC : Nat → ClassId) (dI : Nat → Nat → Nat) (ad : Nat → Nat) (cI cJ cZ cR : ClassId) (M wl sz : Nat) (x : KS)  (hM : 87 ≤ M) (s0 : 0 ≤ x.1 0 15) (s1 : x.1 0 15 ≤ 20) (p01 : x.1 0 16 = 0 ∨ x.1 0 16 = 1) : Met l yX11_states wsX11_states ({ frames := 2, cells := 0, slots := 0, locals := 40 }) (kPc dC dI ad cI cJ cZ cR M wl sz x [.ref (ad 0)]) (va_Qi (fun (r : Int32) (u : KS) => r = iI (F_t_states x).1 ∧ u = (F_t_states x).2) (kAt dC dI ad cI cJ cZ cR M wl (va_A (kWd cI cJ cZ cR wl ad M (x)) sz)) (va_A (kWd cI cJ cZ cR wl ad M (x)) sz)) 0 0 (va_A (kWd cI cJ cZ cR wl ad M (x)) sz) := by
  refine Met.ofW (cc := cX11_states) (maxL := 1) (ret := (some .int)) (by decide) rfl ?_
  intro p e s m args below meth c s₁ B hml hv
  obtain ⟨rfl, hsz, hP, hK, hD0, hNw⟩ := hv
  have hx := B.exec
  have hb := B.bytes
  have hr := B.returns
  have hts := atoms_spec (ws := wsX11_states) B.pre
  have hown : s.vm.findClass RX11 = some m.cls := findClass_of_methodNamed B.named
  have hlocks := B.notSynchronized
  have hinX11 : ∀ w ∈ u_ws RX11 TX11 17, w ∈ wsX11_states := by decide +kernel
  have hinX3 : ∀ w ∈ u_ws RX3 TX3 10, w ∈ wsX11_states := by decide +kernel
  subst hsz
  have hD := hD0.self (sz := s.heap.size)
  generalize hAe : va_A (kWd cI cJ cZ cR wl ad M (x)) s.heap.size = A at hD ⊢
  have hA : ∀ q : Nat, s.heap.size ≤ q → A q := fun q h => by rw [← hAe]; exact Or.inr h
  have hS : va_S A s.heap s.heap [] := va_S.rf
  have hl := lv_entry ([.ref (ad 0)]) (n := 1) (Nat.le_of_ble_eq_true rfl)
  rw [lg_entry_eq]
  generalize (lg_sl ([.ref (ad 0)]) ++ List.replicate (1 - (lg_sl ([.ref (ad 0)])).length) Slot.unset).toArray = ls at hl ⊢
  have hl : lv_has ls 1 [(0, .ref (ad (0)))] := hl
  have key : ∀ (H : Heap) (locs : List Loc), va_P (dC, dI) vwCl (kWd cI cJ cZ cR wl ad M (x)) H → va_S A s.heap H locs → W p l e (headSpec wsX11_states ({ frames := 2, cells := 0, slots := 0, locals := 40 })).room s m ([.ref (ad 0)] : List Value).toArray below meth c H locs 0 0 (MQ below (va_Qi (fun (r : Int32) (u : KS) => r = iI (F_t_states x).1 ∧ u = (F_t_states x).2) (kAt dC dI ad cI cJ cZ cR M wl A) A) ([.ref (ad 0)] : List Value).toArray s 0 0 A) (F0 m 0 ls []) := by
    intro H locs hP hS
    have hres : (if ((F_t_isProved (x)).1) = (0) then ((-3 : Int), x) else ((x).1 (64) 7, x)) = F_t_states x := rfl
    refine lv_aload_n hx hb dX11_states_0 rfl (lv_at hl 0 rfl) ?_
    have hFc : ∀ q, va_A (kWd cI cJ cZ cR wl ad M (x)) H.size q → A q := fun q hq => Or.elim hq (fun ⟨k, e, hk⟩ => hD.2 k (q, e) hk) (fun hk => hA q (Nat.le_trans hS.1 hk))
    refine va_calli (va_runV (b := ad (0)) (As := []) (rest := []) ⟨hx, hb, hml, hown, hts⟩ (c_t_isProved l dC dI ad cI cJ cZ cR M wl H.size (x)   hM s0 s1 p01) (cwV 0 hts gX11_states_X11_isProved rfl rfl rfl (by decide +kernel) ⟨Nat.le_of_ble_eq_true rfl, Nat.le_of_ble_eq_true rfl⟩) ⟨fun a U g mk q => by obtain ⟨q0, q1, qP, qK, qD, qN⟩ := q; exact ⟨q0, q1, qP, va_K.moved (u := U) (U := U.calling g mk a) (Vm.Alike.refl U.vm) qK, qD, kNw.same (u := U) (U := U.calling g mk a) rfl qN⟩, va_recv hK hP (ci := 11) (q0 := 0) rfl (kg0 (by omega)), fun U hU hW => ⟨rfl, by rw [hU], by rw [hU]; exact hP, va_K.moved hW.alike hK, hD.weaken (fun _ _ _ _ => trivial), kNw.warm hW hNw⟩⟩ rfl rfl hl.1 rfl (lv_room (Nat.le_of_ble_eq_true rfl)) dX11_states_1 ⟨Nat.le_of_ble_eq_true rfl, Nat.le_of_ble_eq_true rfl⟩) hS (fun q _ h => hFc q h) hFc (fun r9 u9 t H1 locs ht hvm hw hB hz1 hk1 hS => ?_)
    obtain ⟨hP1, hK1, hD1⟩ := hB
    rw [ht] at hP1
    obtain ⟨hw1, hw2⟩ := hw
    rw [hw2] at hP1 hD1
    rw [hw1]
    rw [F_t_isProved_2] at hP1 hD1
    have hD2 := hD1.weaken (B := A) (fun _ q _ h => hFc q.1 h)
    have hP := hP1
    have hD := hD2
    generalize H1 = H at hP hS ⊢
    refine wi_if_eq (tgt := 17) hx hb (kR01 (F_t_isProved_01 _)) dX11_states_4 (by decide) (fun c_4 => ?_) (fun c_4 => ?_)
    · skip
      rw [if_pos c_4] at hres
      refine lv_bipush (v := iI (-3 : Int)) hx hb dX11_states_17 (by decide) ?_
      exact W.iret (v := iI ((-3 : Int))) hx hb hr (fun t ht hW => ⟨⟨iI ((-3 : Int)), x, rfl, ⟨(by have h9 := congrArg (fun z : Int × KS => iI z.1) hres; exact h9), (by have h9 := congrArg (fun z : Int × KS => z.2) hres; exact h9)⟩, by rw [ht]; exact hP, va_K.moved hW.alike hK, hD⟩, hS.F ht⟩) hS.2.2 dX11_states_19
    · skip
      rw [if_neg c_4] at hres
      refine lv_aload_n hx hb dX11_states_7 rfl (lv_at hl 0 rfl) ?_
      refine va_get (D := (dC, dI)) (ci := 11) (v := .ref (ad (64))) (C := RX11) (T := TX11) (N := 17) hx hb hts hinX11 hown hK hP (0) (kg0 (by omega)) rfl 6 (by decide) (hts (.fieldLink RX11 53 "LikeWords" "machine" "LLikeWords$Machine;") (by decide +kernel)) (fun _ h9 => h9) rfl dX11_states_8 ?_
      refine va_get (D := (dC, dI)) (ci := 3) (v := .int (iI ((x).1 (64) 7))) (C := RX3) (T := TX3) (N := 10) hx hb hts hinX3 hown hK hP (64) (kg64 (by omega)) rfl 7 (by decide) (hts (.fieldLink RX11 207 "LikeWords$Machine" "held" "I") (by decide +kernel)) (fun _ h9 => h9) rfl dX11_states_11 ?_
      refine lv_goto (tgt := 19) hx hb dX11_states_14 (by decide) ?_
      exact W.iret (v := iI ((x).1 (64) 7)) hx hb hr (fun t ht hW => ⟨⟨iI ((x).1 (64) 7), x, rfl, ⟨(by have h9 := congrArg (fun z : Int × KS => iI z.1) hres; exact h9), (by have h9 := congrArg (fun z : Int × KS => z.2) hres; exact h9)⟩, by rw [ht]; exact hP, va_K.moved hW.alike hK, hD⟩, hS.F ht⟩) hS.2.2 dX11_states_19
  exact key _ _ hP hS
theorem F_t_states_fr (x : KS)  : ksame [] [] x (F_t_states x).2 := by
  unfold F_t_states
  by_cases hc : ((F_t_isProved (x)).1) = (0)
  · rw [if_pos hc]
    exact (km_rf _ _ _)
  · rw [if_neg hc]
    exact (km_rf _ _ _)
theorem F_t_states_2 (x : KS)  : (F_t_states x).2 = x := km_nil (F_t_states_fr x)
def F_t_leads (x : KS) (s9 : Int) (z : Int) : Int × KS := (if ((F_t_isProved (x)).1) = (0) then ((-3 : Int), x) else (if ((F_a_has (x) (s9)).1) = (0) then ((-1 : Int), x) else (if ((F_t_isLetter (x) (z)).1) = (0) then ((-1 : Int), x) else (if ((F_a_step (x) (s9) (z)).1) < (0) then ((-9 : Int), x) else ((F_a_step (x) (s9) (z)).1, x)))))
set_option maxHeartbeats 4000000 in
set_option maxRecDepth 100000 in
/-- LikeWords, leads -/
theorem c_t_leads (l : Launch) (dC : Nat → ClassId) (dI : Nat → Nat → Nat) (ad : Nat → Nat) (cI cJ cZ cR : ClassId) (M wl sz : Nat) (x : KS) (s9 : Int) (z : Int) (hM : 87 ≤ M) (s0 : 0 ≤ x.1 0 15) (s1 : x.1 0 15 ≤ 20) (p01 : x.1 0 16 = 0 ∨ x.1 0 16 = 1) (ma : maR x) (l2 : 1 ≤ x.1 1 2 ∧ x.1 1 2 ≤ 4) (rs : iR s9) (rz : iR z) : Met l yX11_leads wsX11_leads ({ frames := 2, cells := 0, slots := 0, locals := 40 }) (kPc dC dI ad cI cJ cZ cR M wl sz x [.ref (ad 0), .int (iI s9), .int (iI z)]) (va_Qi (fun (r : Int32) (u : KS) => r = iI (F_t_leads x s9 z).1 ∧ u = (F_t_leads x s9 z).2) (kAt dC dI ad cI cJ cZ cR M wl (va_A (kWd cI cJ cZ cR wl ad M (x)) sz)) (va_A (kWd cI cJ cZ cR wl ad M (x)) sz)) 0 0 (va_A (kWd cI cJ cZ cR wl ad M (x)) sz) := by
  refine Met.ofW (cc := cX11_leads) (maxL := 4) (ret := (some .int)) (by decide) rfl ?_
  intro p e s m args below meth c s₁ B hml hv
  obtain ⟨rfl, hsz, hP, hK, hD0, hNw⟩ := hv
  have hx := B.exec
  have hb := B.bytes
  have hr := B.returns
  have hts := atoms_spec (ws := wsX11_leads) B.pre
  have hown : s.vm.findClass RX11 = some m.cls := findClass_of_methodNamed B.named
  have hlocks := B.notSynchronized
  have hinX11 : ∀ w ∈ u_ws RX11 TX11 17, w ∈ wsX11_leads := by decide +kernel
  subst hsz
  have hD := hD0.self (sz := s.heap.size)
  generalize hAe : va_A (kWd cI cJ cZ cR wl ad M (x)) s.heap.size = A at hD ⊢
  have hA : ∀ q : Nat, s.heap.size ≤ q → A q := fun q h => by rw [← hAe]; exact Or.inr h
  have hS : va_S A s.heap s.heap [] := va_S.rf
  have hl := lv_entry ([.ref (ad 0), .int (iI s9), .int (iI z)]) (n := 4) (Nat.le_of_ble_eq_true rfl)
  rw [lg_entry_eq]
  generalize (lg_sl ([.ref (ad 0), .int (iI s9), .int (iI z)]) ++ List.replicate (4 - (lg_sl ([.ref (ad 0), .int (iI s9), .int (iI z)])).length) Slot.unset).toArray = ls at hl ⊢
  have hl : lv_has ls 4 [(0, .ref (ad (0))), (1, .int (iI (s9))), (2, .int (iI (z)))] := hl
  have key : ∀ (H : Heap) (locs : List Loc), va_P (dC, dI) vwCl (kWd cI cJ cZ cR wl ad M (x)) H → va_S A s.heap H locs → W p l e (headSpec wsX11_leads ({ frames := 2, cells := 0, slots := 0, locals := 40 })).room s m ([.ref (ad 0), .int (iI s9), .int (iI z)] : List Value).toArray below meth c H locs 0 0 (MQ below (va_Qi (fun (r : Int32) (u : KS) => r = iI (F_t_leads x s9 z).1 ∧ u = (F_t_leads x s9 z).2) (kAt dC dI ad cI cJ cZ cR M wl A) A) ([.ref (ad 0), .int (iI s9), .int (iI z)] : List Value).toArray s 0 0 A) (F0 m 0 ls []) := by
    intro H locs hP hS
    have hres : (if ((F_t_isProved (x)).1) = (0) then ((-3 : Int), x) else (if ((F_a_has (x) (s9)).1) = (0) then ((-1 : Int), x) else (if ((F_t_isLetter (x) (z)).1) = (0) then ((-1 : Int), x) else (if ((F_a_step (x) (s9) (z)).1) < (0) then ((-9 : Int), x) else ((F_a_step (x) (s9) (z)).1, x))))) = F_t_leads x s9 z := rfl
    refine lv_aload_n hx hb dX11_leads_0 rfl (lv_at hl 0 rfl) ?_
    have hFc : ∀ q, va_A (kWd cI cJ cZ cR wl ad M (x)) H.size q → A q := fun q hq => Or.elim hq (fun ⟨k, e, hk⟩ => hD.2 k (q, e) hk) (fun hk => hA q (Nat.le_trans hS.1 hk))
    refine va_calli (va_runV (b := ad (0)) (As := []) (rest := []) ⟨hx, hb, hml, hown, hts⟩ (c_t_isProved l dC dI ad cI cJ cZ cR M wl H.size (x)   hM s0 s1 p01) (cwV 0 hts gX11_leads_X11_isProved rfl rfl rfl (by decide +kernel) ⟨Nat.le_of_ble_eq_true rfl, Nat.le_of_ble_eq_true rfl⟩) ⟨fun a U g mk q => by obtain ⟨q0, q1, qP, qK, qD, qN⟩ := q; exact ⟨q0, q1, qP, va_K.moved (u := U) (U := U.calling g mk a) (Vm.Alike.refl U.vm) qK, qD, kNw.same (u := U) (U := U.calling g mk a) rfl qN⟩, va_recv hK hP (ci := 11) (q0 := 0) rfl (kg0 (by omega)), fun U hU hW => ⟨rfl, by rw [hU], by rw [hU]; exact hP, va_K.moved hW.alike hK, hD.weaken (fun _ _ _ _ => trivial), kNw.warm hW hNw⟩⟩ rfl rfl hl.1 rfl (lv_room (Nat.le_of_ble_eq_true rfl)) dX11_leads_1 ⟨Nat.le_of_ble_eq_true rfl, Nat.le_of_ble_eq_true rfl⟩) hS (fun q _ h => hFc q h) hFc (fun r9 u9 t H1 locs ht hvm hw hB hz1 hk1 hS => ?_)
    obtain ⟨hP1, hK1, hD1⟩ := hB
    rw [ht] at hP1
    obtain ⟨hw1, hw2⟩ := hw
    rw [hw2] at hP1 hD1
    rw [hw1]
    rw [F_t_isProved_2] at hP1 hD1
    have hD2 := hD1.weaken (B := A) (fun _ q _ h => hFc q.1 h)
    have hP := hP1
    have hD := hD2
    generalize H1 = H at hP hS ⊢
    refine wi_if_ne (tgt := 10) hx hb (kR01 (F_t_isProved_01 _)) dX11_leads_4 (by decide) (fun c_4 => ?_) (fun c_4 => ?_)
    · skip
      rw [if_neg c_4] at hres
      refine lv_aload_n hx hb dX11_leads_10 rfl (lv_at hl 0 rfl) ?_
      refine va_get (D := (dC, dI)) (ci := 11) (v := .ref (ad (64))) (C := RX11) (T := TX11) (N := 17) hx hb hts hinX11 hown hK hP (0) (kg0 (by omega)) rfl 6 (by decide) (hts (.fieldLink RX11 53 "LikeWords" "machine" "LLikeWords$Machine;") (by decide +kernel)) (fun _ h9 => h9) rfl dX11_leads_11 ?_
      refine lv_iload_n hx hb dX11_leads_14 rfl (lv_at hl 1 rfl) ?_
      have hFc : ∀ q, va_A (kWd cI cJ cZ cR wl ad M (x)) H.size q → A q := fun q hq => Or.elim hq (fun ⟨k, e, hk⟩ => hD.2 k (q, e) hk) (fun hk => hA q (Nat.le_trans hS.1 hk))
      refine va_calli (va_runV (b := ad (64)) (As := [.int (iI (s9))]) (rest := []) ⟨hx, hb, hml, hown, hts⟩ (c_a_has l dC dI ad cI cJ cZ cR M wl H.size (x)  (s9) hM rs ma) (cwV 1 hts gX11_leads_X3_has rfl rfl rfl (by decide +kernel) ⟨Nat.le_of_ble_eq_true rfl, Nat.le_of_ble_eq_true rfl⟩) ⟨fun a U g mk q => by obtain ⟨q0, q1, qP, qK, qD, qN⟩ := q; exact ⟨q0, q1, qP, va_K.moved (u := U) (U := U.calling g mk a) (Vm.Alike.refl U.vm) qK, qD, kNw.same (u := U) (U := U.calling g mk a) rfl qN⟩, va_recv hK hP (ci := 3) (q0 := 64) rfl (kg64 (by omega)), fun U hU hW => ⟨rfl, by rw [hU], by rw [hU]; exact hP, va_K.moved hW.alike hK, hD.weaken (fun _ _ _ _ => trivial), kNw.warm hW hNw⟩⟩ rfl rfl hl.1 rfl (lv_room (Nat.le_of_ble_eq_true rfl)) dX11_leads_15 ⟨Nat.le_of_ble_eq_true rfl, Nat.le_of_ble_eq_true rfl⟩) hS (fun q _ h => hFc q h) hFc (fun r9 u9 t H1 locs ht hvm hw hB hz1 hk1 hS => ?_)
      obtain ⟨hP1, hK1, hD1⟩ := hB
      rw [ht] at hP1
      obtain ⟨hw1, hw2⟩ := hw
      rw [hw2] at hP1 hD1
      rw [hw1]
      rw [F_a_has_2] at hP1 hD1
      have hD2 := hD1.weaken (B := A) (fun _ q _ h => hFc q.1 h)
      have hP := hP1
      have hD := hD2
      generalize H1 = H at hP hS ⊢
      refine wi_if_eq (tgt := 29) hx hb (kR01 (F_a_has_01 _ _)) dX11_leads_18 (by decide) (fun c_18 => ?_) (fun c_18 => ?_)
      · skip
        rw [if_pos c_18] at hres
        refine lv_iconst (v := iI (-1 : Int)) hx hb dX11_leads_29 (by decide) ?_
        exact W.iret (v := iI ((-1 : Int))) hx hb hr (fun t ht hW => ⟨⟨iI ((-1 : Int)), x, rfl, ⟨(by have h9 := congrArg (fun z : Int × KS => iI z.1) hres; exact h9), (by have h9 := congrArg (fun z : Int × KS => z.2) hres; exact h9)⟩, by rw [ht]; exact hP, va_K.moved hW.alike hK, hD⟩, hS.F ht⟩) hS.2.2 dX11_leads_30
      · skip
        rw [if_neg c_18] at hres
        refine lv_aload_n hx hb dX11_leads_21 rfl (lv_at hl 0 rfl) ?_
        refine lv_iload_n hx hb dX11_leads_22 rfl (lv_at hl 2 rfl) ?_
        have hFc : ∀ q, va_A (kWd cI cJ cZ cR wl ad M (x)) H.size q → A q := fun q hq => Or.elim hq (fun ⟨k, e, hk⟩ => hD.2 k (q, e) hk) (fun hk => hA q (Nat.le_trans hS.1 hk))
        refine va_calli (va_runV (b := ad (0)) (As := [.int (iI (z))]) (rest := []) ⟨hx, hb, hml, hown, hts⟩ (c_t_isLetter l dC dI ad cI cJ cZ cR M wl H.size (x)  (z) hM rz l2) (cwV 1 hts gX11_leads_X11_isLetter rfl rfl rfl (by decide +kernel) ⟨Nat.le_of_ble_eq_true rfl, Nat.le_of_ble_eq_true rfl⟩) ⟨fun a U g mk q => by obtain ⟨q0, q1, qP, qK, qD, qN⟩ := q; exact ⟨q0, q1, qP, va_K.moved (u := U) (U := U.calling g mk a) (Vm.Alike.refl U.vm) qK, qD, kNw.same (u := U) (U := U.calling g mk a) rfl qN⟩, va_recv hK hP (ci := 11) (q0 := 0) rfl (kg0 (by omega)), fun U hU hW => ⟨rfl, by rw [hU], by rw [hU]; exact hP, va_K.moved hW.alike hK, hD.weaken (fun _ _ _ _ => trivial), kNw.warm hW hNw⟩⟩ rfl rfl hl.1 rfl (lv_room (Nat.le_of_ble_eq_true rfl)) dX11_leads_23 ⟨Nat.le_of_ble_eq_true rfl, Nat.le_of_ble_eq_true rfl⟩) hS (fun q _ h => hFc q h) hFc (fun r9 u9 t H1 locs ht hvm hw hB hz1 hk1 hS => ?_)
        obtain ⟨hP1, hK1, hD1⟩ := hB
        rw [ht] at hP1
        obtain ⟨hw1, hw2⟩ := hw
        rw [hw2] at hP1 hD1
        rw [hw1]
        rw [F_t_isLetter_2] at hP1 hD1
        have hD2 := hD1.weaken (B := A) (fun _ q _ h => hFc q.1 h)
        have hP := hP1
        have hD := hD2
        generalize H1 = H at hP hS ⊢
        refine wi_if_ne (tgt := 31) hx hb (kR01 (F_t_isLetter_01 _ _)) dX11_leads_26 (by decide) (fun c_26 => ?_) (fun c_26 => ?_)
        · skip
          rw [if_neg c_26] at hres
          have ha := F_a_has_1 c_18
          have hz := F_t_isLetter_1 c_26
          have ma1 := ma.1
          have sb := F_a_step_b ma s9 z
          refine lv_aload_n hx hb dX11_leads_31 rfl (lv_at hl 0 rfl) ?_
          refine va_get (D := (dC, dI)) (ci := 11) (v := .ref (ad (64))) (C := RX11) (T := TX11) (N := 17) hx hb hts hinX11 hown hK hP (0) (kg0 (by omega)) rfl 6 (by decide) (hts (.fieldLink RX11 53 "LikeWords" "machine" "LLikeWords$Machine;") (by decide +kernel)) (fun _ h9 => h9) rfl dX11_leads_32 ?_
          refine lv_iload_n hx hb dX11_leads_35 rfl (lv_at hl 1 rfl) ?_
          refine lv_iload_n hx hb dX11_leads_36 rfl (lv_at hl 2 rfl) ?_
          have hFc : ∀ q, va_A (kWd cI cJ cZ cR wl ad M (x)) H.size q → A q := fun q hq => Or.elim hq (fun ⟨k, e, hk⟩ => hD.2 k (q, e) hk) (fun hk => hA q (Nat.le_trans hS.1 hk))
          refine va_calli (va_runV (b := ad (64)) (As := [.int (iI (s9)), .int (iI (z))]) (rest := []) ⟨hx, hb, hml, hown, hts⟩ (c_a_step l dC dI ad cI cJ cZ cR M wl H.size (x)  (s9) (z) hM (by omega) (by omega) (by omega) (by omega) ma l2) (cwV 2 hts gX11_leads_X3_step rfl rfl rfl (by decide +kernel) ⟨Nat.le_of_ble_eq_true rfl, Nat.le_of_ble_eq_true rfl⟩) ⟨fun a U g mk q => by obtain ⟨q0, q1, qP, qK, qD, qN⟩ := q; exact ⟨q0, q1, qP, va_K.moved (u := U) (U := U.calling g mk a) (Vm.Alike.refl U.vm) qK, qD, kNw.same (u := U) (U := U.calling g mk a) rfl qN⟩, va_recv hK hP (ci := 3) (q0 := 64) rfl (kg64 (by omega)), fun U hU hW => ⟨rfl, by rw [hU], by rw [hU]; exact hP, va_K.moved hW.alike hK, hD.weaken (fun _ _ _ _ => trivial), kNw.warm hW hNw⟩⟩ rfl rfl hl.1 rfl (lv_room (Nat.le_of_ble_eq_true rfl)) dX11_leads_37 ⟨Nat.le_of_ble_eq_true rfl, Nat.le_of_ble_eq_true rfl⟩) hS (fun q _ h => hFc q h) hFc (fun r9 u9 t H1 locs ht hvm hw hB hz1 hk1 hS => ?_)
          obtain ⟨hP1, hK1, hD1⟩ := hB
          rw [ht] at hP1
          obtain ⟨hw1, hw2⟩ := hw
          rw [hw2] at hP1 hD1
          rw [hw1]
          rw [F_a_step_2] at hP1 hD1
          have hD2 := hD1.weaken (B := A) (fun _ q _ h => hFc q.1 h)
          have hP := hP1
          have hD := hD2
          generalize H1 = H at hP hS ⊢
          refine lv_istore_n (lv' := [(3, .int (iI ((F_a_step (x) (s9) (z)).1))), (0, .ref (ad (0))), (1, .int (iI (s9))), (2, .int (iI (z)))]) hx hb dX11_leads_40 rfl hl (by decide) rfl (fun ls hl => ?_)
          refine lv_iload_n hx hb dX11_leads_41 rfl (lv_at hl 0 rfl) ?_
          refine wi_if_lt (tgt := 49) hx hb (by first | assumption | (unfold iR; omega) | exact kR01 (by assumption)) dX11_leads_42 (by decide) (fun c_42 => ?_) (fun c_42 => ?_)
          · skip
            rw [if_pos c_42] at hres
            refine lv_bipush (v := iI (-9 : Int)) hx hb dX11_leads_49 (by decide) ?_
            exact W.iret (v := iI ((-9 : Int))) hx hb hr (fun t ht hW => ⟨⟨iI ((-9 : Int)), x, rfl, ⟨(by have h9 := congrArg (fun z : Int × KS => iI z.1) hres; exact h9), (by have h9 := congrArg (fun z : Int × KS => z.2) hres; exact h9)⟩, by rw [ht]; exact hP, va_K.moved hW.alike hK, hD⟩, hS.F ht⟩) hS.2.2 dX11_leads_51
          · skip
            rw [if_neg c_42] at hres
            refine lv_iload_n hx hb dX11_leads_45 rfl (lv_at hl 0 rfl) ?_
            refine lv_goto (tgt := 51) hx hb dX11_leads_46 (by decide) ?_
            exact W.iret (v := iI ((F_a_step (x) (s9) (z)).1)) hx hb hr (fun t ht hW => ⟨⟨iI ((F_a_step (x) (s9) (z)).1), x, rfl, ⟨(by have h9 := congrArg (fun z : Int × KS => iI z.1) hres; exact h9), (by have h9 := congrArg (fun z : Int × KS => z.2) hres; exact h9)⟩, by rw [ht]; exact hP, va_K.moved hW.alike hK, hD⟩, hS.F ht⟩) hS.2.2 dX11_leads_51
        · skip
          rw [if_pos c_26] at hres
          refine lv_iconst (v := iI (-1 : Int)) hx hb dX11_leads_29 (by decide) ?_
          exact W.iret (v := iI ((-1 : Int))) hx hb hr (fun t ht hW => ⟨⟨iI ((-1 : Int)), x, rfl, ⟨(by have h9 := congrArg (fun z : Int × KS => iI z.1) hres; exact h9), (by have h9 := congrArg (fun z : Int × KS => z.2) hres; exact h9)⟩, by rw [ht]; exact hP, va_K.moved hW.alike hK, hD⟩, hS.F ht⟩) hS.2.2 dX11_leads_30
    · skip
      rw [if_pos c_4] at hres
      refine lv_bipush (v := iI (-3 : Int)) hx hb dX11_leads_7 (by decide) ?_
      exact W.iret (v := iI ((-3 : Int))) hx hb hr (fun t ht hW => ⟨⟨iI ((-3 : Int)), x, rfl, ⟨(by have h9 := congrArg (fun z : Int × KS => iI z.1) hres; exact h9), (by have h9 := congrArg (fun z : Int × KS => z.2) hres; exact h9)⟩, by rw [ht]; exact hP, va_K.moved hW.alike hK, hD⟩, hS.F ht⟩) hS.2.2 dX11_leads_9
  exact key _ _ hP hS
theorem F_t_leads_fr (x : KS) (s9 : Int) (z : Int) : ksame [] [] x (F_t_leads x s9 z).2 := by
  unfold F_t_leads
  by_cases hc : ((F_t_isProved (x)).1) = (0)
  · rw [if_pos hc]
    exact (km_rf _ _ _)
  · rw [if_neg hc]
    by_cases hc : ((F_a_has (x) (s9)).1) = (0)
    · rw [if_pos hc]
      exact (km_rf _ _ _)
    · rw [if_neg hc]
      by_cases hc : ((F_t_isLetter (x) (z)).1) = (0)
      · rw [if_pos hc]
        exact (km_rf _ _ _)
      · rw [if_neg hc]
        by_cases hc : ((F_a_step (x) (s9) (z)).1) < (0)
        · rw [if_pos hc]
          exact (km_rf _ _ _)
        · rw [if_neg hc]
          exact (km_rf _ _ _)
theorem F_t_leads_2 (x : KS) (s9 : Int) (z : Int) : (F_t_leads x s9 z).2 = x := km_nil (F_t_leads_fr x s9 z)
def F_t_count (x : KS) (v : Int) : Int × KS := (if (v) < (0) then ((-2 : Int), x) else (if (v) ≤ ((30 : Int)) then (if ((F_t_isProved (x)).1) = (0) then ((-3 : Int), x) else (((x).2 (69)) (v).toNat, x)) else ((-2 : Int), x)))
set_option maxHeartbeats 4000000 in
set_option maxRecDepth 100000 in
/-- LikeWords, count -/
theorem c_t_count (l : Launch) (dC : Nat → ClassId) (dI : Nat → Nat → Nat) (ad : Nat → Nat) (cI cJ cZ cR : ClassId) (M wl sz : Nat) (x : KS) (v : Int) (hM : 87 ≤ M) (s0 : 0 ≤ x.1 0 15) (s1 : x.1 0 15 ≤ 20) (p01 : x.1 0 16 = 0 ∨ x.1 0 16 = 1) (rv : iR v) : Met l yX11_count wsX11_count ({ frames := 2, cells := 0, slots := 0, locals := 40 }) (kPc dC dI ad cI cJ cZ cR M wl sz x [.ref (ad 0), .int (iI v)]) (va_Ql (fun (r : Int64) (u : KS) => r = iL (F_t_count x v).1 ∧ u = (F_t_count x v).2) (kAt dC dI ad cI cJ cZ cR M wl (va_A (kWd cI cJ cZ cR wl ad M (x)) sz)) (va_A (kWd cI cJ cZ cR wl ad M (x)) sz)) 0 0 (va_A (kWd cI cJ cZ cR wl ad M (x)) sz) := by
  refine Met.ofW (cc := cX11_count) (maxL := 2) (ret := (some .long)) (by decide) rfl ?_
  intro p e s m args below meth c s₁ B hml hv
  obtain ⟨rfl, hsz, hP, hK, hD0, hNw⟩ := hv
  have hx := B.exec
  have hb := B.bytes
  have hr := B.returns
  have hts := atoms_spec (ws := wsX11_count) B.pre
  have hown : s.vm.findClass RX11 = some m.cls := findClass_of_methodNamed B.named
  have hlocks := B.notSynchronized
  have hinX11 : ∀ w ∈ u_ws RX11 TX11 17, w ∈ wsX11_count := by decide +kernel
  have hinX3 : ∀ w ∈ u_ws RX3 TX3 10, w ∈ wsX11_count := by decide +kernel
  subst hsz
  have hD := hD0.self (sz := s.heap.size)
  generalize hAe : va_A (kWd cI cJ cZ cR wl ad M (x)) s.heap.size = A at hD ⊢
  have hA : ∀ q : Nat, s.heap.size ≤ q → A q := fun q h => by rw [← hAe]; exact Or.inr h
  have hS : va_S A s.heap s.heap [] := va_S.rf
  have hl := lv_entry ([.ref (ad 0), .int (iI v)]) (n := 2) (Nat.le_of_ble_eq_true rfl)
  rw [lg_entry_eq]
  generalize (lg_sl ([.ref (ad 0), .int (iI v)]) ++ List.replicate (2 - (lg_sl ([.ref (ad 0), .int (iI v)])).length) Slot.unset).toArray = ls at hl ⊢
  have hl : lv_has ls 2 [(0, .ref (ad (0))), (1, .int (iI (v)))] := hl
  have key : ∀ (H : Heap) (locs : List Loc), va_P (dC, dI) vwCl (kWd cI cJ cZ cR wl ad M (x)) H → va_S A s.heap H locs → W p l e (headSpec wsX11_count ({ frames := 2, cells := 0, slots := 0, locals := 40 })).room s m ([.ref (ad 0), .int (iI v)] : List Value).toArray below meth c H locs 0 0 (MQ below (va_Ql (fun (r : Int64) (u : KS) => r = iL (F_t_count x v).1 ∧ u = (F_t_count x v).2) (kAt dC dI ad cI cJ cZ cR M wl A) A) ([.ref (ad 0), .int (iI v)] : List Value).toArray s 0 0 A) (F0 m 0 ls []) := by
    intro H locs hP hS
    have hres : (if (v) < (0) then ((-2 : Int), x) else (if (v) ≤ ((30 : Int)) then (if ((F_t_isProved (x)).1) = (0) then ((-3 : Int), x) else (((x).2 (69)) (v).toNat, x)) else ((-2 : Int), x))) = F_t_count x v := rfl
    refine lv_iload_n hx hb dX11_count_0 rfl (lv_at hl 1 rfl) ?_
    refine wi_if_lt (tgt := 10) hx hb (by first | assumption | (unfold iR; omega) | exact kR01 (by assumption)) dX11_count_1 (by decide) (fun c_1 => ?_) (fun c_1 => ?_)
    · skip
      rw [if_pos c_1] at hres
      refine lv_ldc2 (v := iL (-2 : Int)) hx hb hown (hts (.constantLong RX11 213 (-2)) (by decide +kernel)) dX11_count_10 ?_
      exact W.lret (v := iL ((-2 : Int))) hx hb hr (fun t ht hW => ⟨⟨iL ((-2 : Int)), x, rfl, ⟨(by have h9 := congrArg (fun z : Int × KS => iL z.1) hres; exact h9), (by have h9 := congrArg (fun z : Int × KS => z.2) hres; exact h9)⟩, by rw [ht]; exact hP, va_K.moved hW.alike hK, hD⟩, hS.F ht⟩) hS.2.2 dX11_count_13
    · skip
      rw [if_neg c_1] at hres
      refine lv_iload_n hx hb dX11_count_4 rfl (lv_at hl 1 rfl) ?_
      refine lv_bipush (v := iI (30 : Int)) hx hb dX11_count_5 (by decide) ?_
      refine wi_icmp_le (tgt := 14) hx hb (by first | assumption | (unfold iR; omega) | exact kR01 (by assumption)) ⟨by decide, by decide⟩ dX11_count_7 (by decide) (fun c_7 => ?_) (fun c_7 => ?_)
      · skip
        rw [if_pos c_7] at hres
        refine lv_aload_n hx hb dX11_count_14 rfl (lv_at hl 0 rfl) ?_
        have hFc : ∀ q, va_A (kWd cI cJ cZ cR wl ad M (x)) H.size q → A q := fun q hq => Or.elim hq (fun ⟨k, e, hk⟩ => hD.2 k (q, e) hk) (fun hk => hA q (Nat.le_trans hS.1 hk))
        refine va_calli (va_runV (b := ad (0)) (As := []) (rest := []) ⟨hx, hb, hml, hown, hts⟩ (c_t_isProved l dC dI ad cI cJ cZ cR M wl H.size (x)   hM s0 s1 p01) (cwV 0 hts gX11_count_X11_isProved rfl rfl rfl (by decide +kernel) ⟨Nat.le_of_ble_eq_true rfl, Nat.le_of_ble_eq_true rfl⟩) ⟨fun a U g mk q => by obtain ⟨q0, q1, qP, qK, qD, qN⟩ := q; exact ⟨q0, q1, qP, va_K.moved (u := U) (U := U.calling g mk a) (Vm.Alike.refl U.vm) qK, qD, kNw.same (u := U) (U := U.calling g mk a) rfl qN⟩, va_recv hK hP (ci := 11) (q0 := 0) rfl (kg0 (by omega)), fun U hU hW => ⟨rfl, by rw [hU], by rw [hU]; exact hP, va_K.moved hW.alike hK, hD.weaken (fun _ _ _ _ => trivial), kNw.warm hW hNw⟩⟩ rfl rfl hl.1 rfl (lv_room (Nat.le_of_ble_eq_true rfl)) dX11_count_15 ⟨Nat.le_of_ble_eq_true rfl, Nat.le_of_ble_eq_true rfl⟩) hS (fun q _ h => hFc q h) hFc (fun r9 u9 t H1 locs ht hvm hw hB hz1 hk1 hS => ?_)
        obtain ⟨hP1, hK1, hD1⟩ := hB
        rw [ht] at hP1
        obtain ⟨hw1, hw2⟩ := hw
        rw [hw2] at hP1 hD1
        rw [hw1]
        rw [F_t_isProved_2] at hP1 hD1
        have hD2 := hD1.weaken (B := A) (fun _ q _ h => hFc q.1 h)
        have hP := hP1
        have hD := hD2
        generalize H1 = H at hP hS ⊢
        refine wi_if_eq (tgt := 33) hx hb (kR01 (F_t_isProved_01 _)) dX11_count_18 (by decide) (fun c_18 => ?_) (fun c_18 => ?_)
        · skip
          rw [if_pos c_18] at hres
          refine lv_ldc2 (v := iL (-3 : Int)) hx hb hown (hts (.constantLong RX11 219 (-3)) (by decide +kernel)) dX11_count_33 ?_
          exact W.lret (v := iL ((-3 : Int))) hx hb hr (fun t ht hW => ⟨⟨iL ((-3 : Int)), x, rfl, ⟨(by have h9 := congrArg (fun z : Int × KS => iL z.1) hres; exact h9), (by have h9 := congrArg (fun z : Int × KS => z.2) hres; exact h9)⟩, by rw [ht]; exact hP, va_K.moved hW.alike hK, hD⟩, hS.F ht⟩) hS.2.2 dX11_count_36
        · skip
          rw [if_neg c_18] at hres
          refine lv_aload_n hx hb dX11_count_21 rfl (lv_at hl 0 rfl) ?_
          refine va_get (D := (dC, dI)) (ci := 11) (v := .ref (ad (64))) (C := RX11) (T := TX11) (N := 17) hx hb hts hinX11 hown hK hP (0) (kg0 (by omega)) rfl 6 (by decide) (hts (.fieldLink RX11 53 "LikeWords" "machine" "LLikeWords$Machine;") (by decide +kernel)) (fun _ h9 => h9) rfl dX11_count_22 ?_
          refine va_get (D := (dC, dI)) (ci := 3) (v := .ref (ad (69))) (C := RX3) (T := TX3) (N := 10) hx hb hts hinX3 hown hK hP (64) (kg64 (by omega)) rfl 6 (by decide) (hts (.fieldLink RX11 215 "LikeWords$Machine" "counts" "[J") (by decide +kernel)) (fun _ h9 => h9) rfl dX11_count_25 ?_
          refine lv_iload_n hx hb dX11_count_28 rfl (lv_at hl 1 rfl) ?_
          refine wi_lald (f := (x).2 (69)) (n := kLen (69)) hx hb hK hP (69) 1 (kgj kC69 (by omega) rfl) rfl (i := v) (by omega) (by show _ < ((32 : Nat) : Int); exact (by omega)) (kLen_lt _) dX11_count_29 ?_
          refine lv_goto (tgt := 36) hx hb dX11_count_30 (by decide) ?_
          exact W.lret (v := iL (((x).2 (69)) (v).toNat)) hx hb hr (fun t ht hW => ⟨⟨iL (((x).2 (69)) (v).toNat), x, rfl, ⟨(by have h9 := congrArg (fun z : Int × KS => iL z.1) hres; exact h9), (by have h9 := congrArg (fun z : Int × KS => z.2) hres; exact h9)⟩, by rw [ht]; exact hP, va_K.moved hW.alike hK, hD⟩, hS.F ht⟩) hS.2.2 dX11_count_36
      · skip
        rw [if_neg c_7] at hres
        refine lv_ldc2 (v := iL (-2 : Int)) hx hb hown (hts (.constantLong RX11 213 (-2)) (by decide +kernel)) dX11_count_10 ?_
        exact W.lret (v := iL ((-2 : Int))) hx hb hr (fun t ht hW => ⟨⟨iL ((-2 : Int)), x, rfl, ⟨(by have h9 := congrArg (fun z : Int × KS => iL z.1) hres; exact h9), (by have h9 := congrArg (fun z : Int × KS => z.2) hres; exact h9)⟩, by rw [ht]; exact hP, va_K.moved hW.alike hK, hD⟩, hS.F ht⟩) hS.2.2 dX11_count_13
  exact key _ _ hP hS
theorem F_t_count_fr (x : KS) (v : Int) : ksame [] [] x (F_t_count x v).2 := by
  unfold F_t_count
  by_cases hc : (v) < (0)
  · rw [if_pos hc]
    exact (km_rf _ _ _)
  · rw [if_neg hc]
    by_cases hc : (v) ≤ ((30 : Int))
    · rw [if_pos hc]
      by_cases hc : ((F_t_isProved (x)).1) = (0)
      · rw [if_pos hc]
        exact (km_rf _ _ _)
      · rw [if_neg hc]
        exact (km_rf _ _ _)
    · rw [if_neg hc]
      exact (km_rf _ _ _)
theorem F_t_count_2 (x : KS) (v : Int) : (F_t_count x v).2 = x := km_nil (F_t_count_fr x v)
def F_t_size (x : KS)  : Int × KS := (if ((F_t_isProved (x)).1) = (0) then ((-3 : Int), x) else (if ((x).1 (64) 9) = (0) then (if (iC (((x).2 (69)) ((31 : Int)).toNat) ((0 : Int))) ≤ (0) then ((F_a_countBelow (x) ((31 : Int))).1, x) else ((-4 : Int), x)) else ((-9 : Int), x)))
set_option maxHeartbeats 4000000 in
set_option maxRecDepth 100000 in
/-- LikeWords, size -/
theorem c_t_size (l : Launch) (dC : Nat → ClassId) (dI : Nat → Nat → Nat) (ad : Nat → Nat) (cI cJ cZ cR : ClassId) (M wl sz : Nat) (x : KS)  (hM : 87 ≤ M) (s0 : 0 ≤ x.1 0 15) (s1 : x.1 0 15 ≤ 20) (p01 : x.1 0 16 = 0 ∨ x.1 0 16 = 1) (e01 : x.1 64 9 = 0 ∨ x.1 64 9 = 1) (rc : iRL (x.2 69 31)) : Met l yX11_size wsX11_size ({ frames := 2, cells := 0, slots := 0, locals := 40 }) (kPc dC dI ad cI cJ cZ cR M wl sz x [.ref (ad 0)]) (va_Ql (fun (r : Int64) (u : KS) => r = iL (F_t_size x).1 ∧ u = (F_t_size x).2) (kAt dC dI ad cI cJ cZ cR M wl (va_A (kWd cI cJ cZ cR wl ad M (x)) sz)) (va_A (kWd cI cJ cZ cR wl ad M (x)) sz)) 0 0 (va_A (kWd cI cJ cZ cR wl ad M (x)) sz) := by
  refine Met.ofW (cc := cX11_size) (maxL := 1) (ret := (some .long)) (by decide) rfl ?_
  intro p e s m args below meth c s₁ B hml hv
  obtain ⟨rfl, hsz, hP, hK, hD0, hNw⟩ := hv
  have hx := B.exec
  have hb := B.bytes
  have hr := B.returns
  have hts := atoms_spec (ws := wsX11_size) B.pre
  have hown : s.vm.findClass RX11 = some m.cls := findClass_of_methodNamed B.named
  have hlocks := B.notSynchronized
  have hinX11 : ∀ w ∈ u_ws RX11 TX11 17, w ∈ wsX11_size := by decide +kernel
  have hinX3 : ∀ w ∈ u_ws RX3 TX3 10, w ∈ wsX11_size := by decide +kernel
  subst hsz
  have hD := hD0.self (sz := s.heap.size)
  generalize hAe : va_A (kWd cI cJ cZ cR wl ad M (x)) s.heap.size = A at hD ⊢
  have hA : ∀ q : Nat, s.heap.size ≤ q → A q := fun q h => by rw [← hAe]; exact Or.inr h
  have hS : va_S A s.heap s.heap [] := va_S.rf
  have hl := lv_entry ([.ref (ad 0)]) (n := 1) (Nat.le_of_ble_eq_true rfl)
  rw [lg_entry_eq]
  generalize (lg_sl ([.ref (ad 0)]) ++ List.replicate (1 - (lg_sl ([.ref (ad 0)])).length) Slot.unset).toArray = ls at hl ⊢
  have hl : lv_has ls 1 [(0, .ref (ad (0)))] := hl
  have key : ∀ (H : Heap) (locs : List Loc), va_P (dC, dI) vwCl (kWd cI cJ cZ cR wl ad M (x)) H → va_S A s.heap H locs → W p l e (headSpec wsX11_size ({ frames := 2, cells := 0, slots := 0, locals := 40 })).room s m ([.ref (ad 0)] : List Value).toArray below meth c H locs 0 0 (MQ below (va_Ql (fun (r : Int64) (u : KS) => r = iL (F_t_size x).1 ∧ u = (F_t_size x).2) (kAt dC dI ad cI cJ cZ cR M wl A) A) ([.ref (ad 0)] : List Value).toArray s 0 0 A) (F0 m 0 ls []) := by
    intro H locs hP hS
    have hres : (if ((F_t_isProved (x)).1) = (0) then ((-3 : Int), x) else (if ((x).1 (64) 9) = (0) then (if (iC (((x).2 (69)) ((31 : Int)).toNat) ((0 : Int))) ≤ (0) then ((F_a_countBelow (x) ((31 : Int))).1, x) else ((-4 : Int), x)) else ((-9 : Int), x))) = F_t_size x := rfl
    refine lv_aload_n hx hb dX11_size_0 rfl (lv_at hl 0 rfl) ?_
    have hFc : ∀ q, va_A (kWd cI cJ cZ cR wl ad M (x)) H.size q → A q := fun q hq => Or.elim hq (fun ⟨k, e, hk⟩ => hD.2 k (q, e) hk) (fun hk => hA q (Nat.le_trans hS.1 hk))
    refine va_calli (va_runV (b := ad (0)) (As := []) (rest := []) ⟨hx, hb, hml, hown, hts⟩ (c_t_isProved l dC dI ad cI cJ cZ cR M wl H.size (x)   hM s0 s1 p01) (cwV 0 hts gX11_size_X11_isProved rfl rfl rfl (by decide +kernel) ⟨Nat.le_of_ble_eq_true rfl, Nat.le_of_ble_eq_true rfl⟩) ⟨fun a U g mk q => by obtain ⟨q0, q1, qP, qK, qD, qN⟩ := q; exact ⟨q0, q1, qP, va_K.moved (u := U) (U := U.calling g mk a) (Vm.Alike.refl U.vm) qK, qD, kNw.same (u := U) (U := U.calling g mk a) rfl qN⟩, va_recv hK hP (ci := 11) (q0 := 0) rfl (kg0 (by omega)), fun U hU hW => ⟨rfl, by rw [hU], by rw [hU]; exact hP, va_K.moved hW.alike hK, hD.weaken (fun _ _ _ _ => trivial), kNw.warm hW hNw⟩⟩ rfl rfl hl.1 rfl (lv_room (Nat.le_of_ble_eq_true rfl)) dX11_size_1 ⟨Nat.le_of_ble_eq_true rfl, Nat.le_of_ble_eq_true rfl⟩) hS (fun q _ h => hFc q h) hFc (fun r9 u9 t H1 locs ht hvm hw hB hz1 hk1 hS => ?_)
    obtain ⟨hP1, hK1, hD1⟩ := hB
    rw [ht] at hP1
    obtain ⟨hw1, hw2⟩ := hw
    rw [hw2] at hP1 hD1
    rw [hw1]
    rw [F_t_isProved_2] at hP1 hD1
    have hD2 := hD1.weaken (B := A) (fun _ q _ h => hFc q.1 h)
    have hP := hP1
    have hD := hD2
    generalize H1 = H at hP hS ⊢
    refine wi_if_ne (tgt := 11) hx hb (kR01 (F_t_isProved_01 _)) dX11_size_4 (by decide) (fun c_4 => ?_) (fun c_4 => ?_)
    · skip
      rw [if_neg c_4] at hres
      refine lv_aload_n hx hb dX11_size_11 rfl (lv_at hl 0 rfl) ?_
      refine va_get (D := (dC, dI)) (ci := 11) (v := .ref (ad (64))) (C := RX11) (T := TX11) (N := 17) hx hb hts hinX11 hown hK hP (0) (kg0 (by omega)) rfl 6 (by decide) (hts (.fieldLink RX11 53 "LikeWords" "machine" "LLikeWords$Machine;") (by decide +kernel)) (fun _ h9 => h9) rfl dX11_size_12 ?_
      refine va_get (D := (dC, dI)) (ci := 3) (v := .int (iI ((x).1 (64) 9))) (C := RX3) (T := TX3) (N := 10) hx hb hts hinX3 hown hK hP (64) (kg64 (by omega)) rfl 9 (by decide) (hts (.fieldLink RX11 221 "LikeWords$Machine" "endless" "Z") (by decide +kernel)) (fun _ h9 => h9) rfl dX11_size_15 ?_
      refine wi_if_eq (tgt := 25) hx hb (kR01 e01) dX11_size_18 (by decide) (fun c_18 => ?_) (fun c_18 => ?_)
      · skip
        rw [if_pos c_18] at hres
        refine lv_aload_n hx hb dX11_size_25 rfl (lv_at hl 0 rfl) ?_
        refine va_get (D := (dC, dI)) (ci := 11) (v := .ref (ad (64))) (C := RX11) (T := TX11) (N := 17) hx hb hts hinX11 hown hK hP (0) (kg0 (by omega)) rfl 6 (by decide) (hts (.fieldLink RX11 53 "LikeWords" "machine" "LLikeWords$Machine;") (by decide +kernel)) (fun _ h9 => h9) rfl dX11_size_26 ?_
        refine va_get (D := (dC, dI)) (ci := 3) (v := .ref (ad (69))) (C := RX3) (T := TX3) (N := 10) hx hb hts hinX3 hown hK hP (64) (kg64 (by omega)) rfl 6 (by decide) (hts (.fieldLink RX11 215 "LikeWords$Machine" "counts" "[J") (by decide +kernel)) (fun _ h9 => h9) rfl dX11_size_29 ?_
        refine lv_bipush (v := iI (31 : Int)) hx hb dX11_size_32 (by decide) ?_
        refine wi_lald (f := (x).2 (69)) (n := kLen (69)) hx hb hK hP (69) 1 (kgj kC69 (by omega) rfl) rfl (i := (31 : Int)) (by omega) (by show _ < ((32 : Nat) : Int); exact (by omega)) (kLen_lt _) dX11_size_34 ?_
        refine lv_lconst (v := iL 0) hx hb dX11_size_35 (by decide) ?_
        refine wi_lcmp hx hb rc ⟨by decide, by decide⟩ dX11_size_36 ?_
        refine wi_if_le (tgt := 46) hx hb iC_R dX11_size_37 (by decide) (fun c_37 => ?_) (fun c_37 => ?_)
        · skip
          rw [if_pos c_37] at hres
          refine lv_aload_n hx hb dX11_size_46 rfl (lv_at hl 0 rfl) ?_
          refine va_get (D := (dC, dI)) (ci := 11) (v := .ref (ad (64))) (C := RX11) (T := TX11) (N := 17) hx hb hts hinX11 hown hK hP (0) (kg0 (by omega)) rfl 6 (by decide) (hts (.fieldLink RX11 53 "LikeWords" "machine" "LLikeWords$Machine;") (by decide +kernel)) (fun _ h9 => h9) rfl dX11_size_47 ?_
          refine lv_bipush (v := iI (31 : Int)) hx hb dX11_size_50 (by decide) ?_
          have hFc : ∀ q, va_A (kWd cI cJ cZ cR wl ad M (x)) H.size q → A q := fun q hq => Or.elim hq (fun ⟨k, e, hk⟩ => hD.2 k (q, e) hk) (fun hk => hA q (Nat.le_trans hS.1 hk))
          refine va_calll (va_runV (b := ad (64)) (As := [.int (iI ((31 : Int)))]) (rest := []) ⟨hx, hb, hml, hown, hts⟩ (c_a_countBelow l dC dI ad cI cJ cZ cR M wl H.size (x)  ((31 : Int)) hM (by decide) (by decide)) (cwV 1 hts gX11_size_X3_countBelow rfl rfl rfl (by decide +kernel) ⟨Nat.le_of_ble_eq_true rfl, Nat.le_of_ble_eq_true rfl⟩) ⟨fun a U g mk q => by obtain ⟨q0, q1, qP, qK, qD, qN⟩ := q; exact ⟨q0, q1, qP, va_K.moved (u := U) (U := U.calling g mk a) (Vm.Alike.refl U.vm) qK, qD, kNw.same (u := U) (U := U.calling g mk a) rfl qN⟩, va_recv hK hP (ci := 3) (q0 := 64) rfl (kg64 (by omega)), fun U hU hW => ⟨rfl, by rw [hU], by rw [hU]; exact hP, va_K.moved hW.alike hK, hD.weaken (fun _ _ _ _ => trivial), kNw.warm hW hNw⟩⟩ rfl rfl hl.1 rfl (lv_room (Nat.le_of_ble_eq_true rfl)) dX11_size_52 ⟨Nat.le_of_ble_eq_true rfl, Nat.le_of_ble_eq_true rfl⟩) hS (fun q _ h => hFc q h) hFc (fun r9 u9 t H1 locs ht hvm hw hB hz1 hk1 hS => ?_)
          obtain ⟨hP1, hK1, hD1⟩ := hB
          rw [ht] at hP1
          obtain ⟨hw1, hw2⟩ := hw
          rw [hw2] at hP1 hD1
          rw [hw1]
          rw [F_a_countBelow_2] at hP1 hD1
          have hD2 := hD1.weaken (B := A) (fun _ q _ h => hFc q.1 h)
          have hP := hP1
          have hD := hD2
          generalize H1 = H at hP hS ⊢
          exact W.lret (v := iL ((F_a_countBelow (x) ((31 : Int))).1)) hx hb hr (fun t ht hW => ⟨⟨iL ((F_a_countBelow (x) ((31 : Int))).1), x, rfl, ⟨(by have h9 := congrArg (fun z : Int × KS => iL z.1) hres; exact h9), (by have h9 := congrArg (fun z : Int × KS => z.2) hres; exact h9)⟩, by rw [ht]; exact hP, va_K.moved hW.alike hK, hD⟩, hS.F ht⟩) hS.2.2 dX11_size_55
        · skip
          rw [if_neg c_37] at hres
          refine lv_ldc2 (v := iL (-4 : Int)) hx hb hown (hts (.constantLong RX11 226 (-4)) (by decide +kernel)) dX11_size_40 ?_
          refine lv_goto (tgt := 55) hx hb dX11_size_43 (by decide) ?_
          exact W.lret (v := iL ((-4 : Int))) hx hb hr (fun t ht hW => ⟨⟨iL ((-4 : Int)), x, rfl, ⟨(by have h9 := congrArg (fun z : Int × KS => iL z.1) hres; exact h9), (by have h9 := congrArg (fun z : Int × KS => z.2) hres; exact h9)⟩, by rw [ht]; exact hP, va_K.moved hW.alike hK, hD⟩, hS.F ht⟩) hS.2.2 dX11_size_55
      · skip
        rw [if_neg c_18] at hres
        refine lv_ldc2 (v := iL (-9 : Int)) hx hb hown (hts (.constantLong RX11 224 (-9)) (by decide +kernel)) dX11_size_21 ?_
        exact W.lret (v := iL ((-9 : Int))) hx hb hr (fun t ht hW => ⟨⟨iL ((-9 : Int)), x, rfl, ⟨(by have h9 := congrArg (fun z : Int × KS => iL z.1) hres; exact h9), (by have h9 := congrArg (fun z : Int × KS => z.2) hres; exact h9)⟩, by rw [ht]; exact hP, va_K.moved hW.alike hK, hD⟩, hS.F ht⟩) hS.2.2 dX11_size_24
    · skip
      rw [if_pos c_4] at hres
      refine lv_ldc2 (v := iL (-3 : Int)) hx hb hown (hts (.constantLong RX11 219 (-3)) (by decide +kernel)) dX11_size_7 ?_
      exact W.lret (v := iL ((-3 : Int))) hx hb hr (fun t ht hW => ⟨⟨iL ((-3 : Int)), x, rfl, ⟨(by have h9 := congrArg (fun z : Int × KS => iL z.1) hres; exact h9), (by have h9 := congrArg (fun z : Int × KS => z.2) hres; exact h9)⟩, by rw [ht]; exact hP, va_K.moved hW.alike hK, hD⟩, hS.F ht⟩) hS.2.2 dX11_size_10
  exact key _ _ hP hS
theorem F_t_size_fr (x : KS)  : ksame [] [] x (F_t_size x).2 := by
  unfold F_t_size
  by_cases hc : ((F_t_isProved (x)).1) = (0)
  · rw [if_pos hc]
    exact (km_rf _ _ _)
  · rw [if_neg hc]
    by_cases hc : ((x).1 (64) 9) = (0)
    · rw [if_pos hc]
      by_cases hc : (iC (((x).2 (69)) ((31 : Int)).toNat) ((0 : Int))) ≤ (0)
      · rw [if_pos hc]
        exact (km_rf _ _ _)
      · rw [if_neg hc]
        exact (km_rf _ _ _)
    · rw [if_neg hc]
      exact (km_rf _ _ _)
theorem F_t_size_2 (x : KS)  : (F_t_size x).2 = x := km_nil (F_t_size_fr x)
def F_t_total (x : KS) (v : Int) : Int × KS := (if (v) = (0 : Int) then ((x).1 (1) 2, x) else (if (v) = (1 : Int) then ((x).1 (0) 14, x) else (if (v) = (2 : Int) then (if ((F_t_isSeen (x)).1) = (0) then ((0 : Int), x) else ((x).1 (58) 6, x)) else (if (v) = (3 : Int) then ((x).1 (4) 1, x) else ((-2 : Int), x)))))
set_option maxHeartbeats 4000000 in
set_option maxRecDepth 100000 in
/-- LikeWords, total -/
theorem c_t_total (l : Launch) (dC : Nat → ClassId) (dI : Nat → Nat → Nat) (ad : Nat → Nat) (cI cJ cZ cR : ClassId) (M wl sz : Nat) (x : KS) (v : Int) (hM : 87 ≤ M) (s0 : 0 ≤ x.1 0 15) (s1 : x.1 0 15 ≤ 20) (rv : iR v) : Met l yX11_total wsX11_total ({ frames := 1, cells := 0, slots := 0, locals := 20 }) (kPc dC dI ad cI cJ cZ cR M wl sz x [.ref (ad 0), .int (iI v)]) (va_Qi (fun (r : Int32) (u : KS) => r = iI (F_t_total x v).1 ∧ u = (F_t_total x v).2) (kAt dC dI ad cI cJ cZ cR M wl (va_A (kWd cI cJ cZ cR wl ad M (x)) sz)) (va_A (kWd cI cJ cZ cR wl ad M (x)) sz)) 0 0 (va_A (kWd cI cJ cZ cR wl ad M (x)) sz) := by
  refine Met.ofW (cc := cX11_total) (maxL := 2) (ret := (some .int)) (by decide) rfl ?_
  intro p e s m args below meth c s₁ B hml hv
  obtain ⟨rfl, hsz, hP, hK, hD0, hNw⟩ := hv
  have hx := B.exec
  have hb := B.bytes
  have hr := B.returns
  have hts := atoms_spec (ws := wsX11_total) B.pre
  have hown : s.vm.findClass RX11 = some m.cls := findClass_of_methodNamed B.named
  have hlocks := B.notSynchronized
  have hinX10 : ∀ w ∈ u_ws RX10 TX10 2, w ∈ wsX11_total := by decide +kernel
  have hinX11 : ∀ w ∈ u_ws RX11 TX11 17, w ∈ wsX11_total := by decide +kernel
  have hinX7 : ∀ w ∈ u_ws RX7 TX7 7, w ∈ wsX11_total := by decide +kernel
  have hinX8 : ∀ w ∈ u_ws RX8 TX8 4, w ∈ wsX11_total := by decide +kernel
  subst hsz
  have hD := hD0.self (sz := s.heap.size)
  generalize hAe : va_A (kWd cI cJ cZ cR wl ad M (x)) s.heap.size = A at hD ⊢
  have hA : ∀ q : Nat, s.heap.size ≤ q → A q := fun q h => by rw [← hAe]; exact Or.inr h
  have hS : va_S A s.heap s.heap [] := va_S.rf
  have hl := lv_entry ([.ref (ad 0), .int (iI v)]) (n := 2) (Nat.le_of_ble_eq_true rfl)
  rw [lg_entry_eq]
  generalize (lg_sl ([.ref (ad 0), .int (iI v)]) ++ List.replicate (2 - (lg_sl ([.ref (ad 0), .int (iI v)])).length) Slot.unset).toArray = ls at hl ⊢
  have hl : lv_has ls 2 [(0, .ref (ad (0))), (1, .int (iI (v)))] := hl
  have key : ∀ (H : Heap) (locs : List Loc), va_P (dC, dI) vwCl (kWd cI cJ cZ cR wl ad M (x)) H → va_S A s.heap H locs → W p l e (headSpec wsX11_total ({ frames := 1, cells := 0, slots := 0, locals := 20 })).room s m ([.ref (ad 0), .int (iI v)] : List Value).toArray below meth c H locs 0 0 (MQ below (va_Qi (fun (r : Int32) (u : KS) => r = iI (F_t_total x v).1 ∧ u = (F_t_total x v).2) (kAt dC dI ad cI cJ cZ cR M wl A) A) ([.ref (ad 0), .int (iI v)] : List Value).toArray s 0 0 A) (F0 m 0 ls []) := by
    intro H locs hP hS
    have hres : (if (v) = (0 : Int) then ((x).1 (1) 2, x) else (if (v) = (1 : Int) then ((x).1 (0) 14, x) else (if (v) = (2 : Int) then (if ((F_t_isSeen (x)).1) = (0) then ((0 : Int), x) else ((x).1 (58) 6, x)) else (if (v) = (3 : Int) then ((x).1 (4) 1, x) else ((-2 : Int), x))))) = F_t_total x v := rfl
    refine lv_iload_n hx hb dX11_total_0 rfl (lv_at hl 1 rfl) ?_
    by_cases c_1_0 : (v) = (0 : Int)
    · rw [if_pos c_1_0] at hres
      refine lv_tableIn (off := 31) (tgt := 32) hx hb dX11_total_1 (by rw [iI_toInt (by first | assumption | (unfold iR; omega) | exact kR01 (by assumption))]; omega) (by rw [iI_toInt (by first | assumption | (unfold iR; omega) | exact kR01 (by assumption))]; omega) (by rw [iI_toInt (by first | assumption | (unfold iR; omega) | exact kR01 (by assumption)), c_1_0]; rfl) (by decide) ?_
      refine lv_aload_n hx hb dX11_total_32 rfl (lv_at hl 0 rfl) ?_
      refine va_get (D := (dC, dI)) (ci := 11) (v := .ref (ad (1))) (C := RX11) (T := TX11) (N := 17) hx hb hts hinX11 hown hK hP (0) (kg0 (by omega)) rfl 0 (by decide) (hts (.fieldLink RX11 14 "LikeWords" "scale" "LLikeWords$Scale;") (by decide +kernel)) (fun _ h9 => h9) rfl dX11_total_33 ?_
      refine va_get (D := (dC, dI)) (ci := 8) (v := .int (iI ((x).1 (1) 2))) (C := RX8) (T := TX8) (N := 4) hx hb hts hinX8 hown hK hP (1) (kg1 (by omega)) rfl 2 (by decide) (hts (.fieldLink RX11 100 "LikeWords$Scale" "letterCount" "I") (by decide +kernel)) (fun _ h9 => h9) rfl dX11_total_36 ?_
      exact W.iret (v := iI ((x).1 (1) 2)) hx hb hr (fun t ht hW => ⟨⟨iI ((x).1 (1) 2), x, rfl, ⟨(by have h9 := congrArg (fun z : Int × KS => iI z.1) hres; exact h9), (by have h9 := congrArg (fun z : Int × KS => z.2) hres; exact h9)⟩, by rw [ht]; exact hP, va_K.moved hW.alike hK, hD⟩, hS.F ht⟩) hS.2.2 dX11_total_39
    rw [if_neg c_1_0] at hres
    by_cases c_1_1 : (v) = (1 : Int)
    · rw [if_pos c_1_1] at hres
      refine lv_tableIn (off := 39) (tgt := 40) hx hb dX11_total_1 (by rw [iI_toInt (by first | assumption | (unfold iR; omega) | exact kR01 (by assumption))]; omega) (by rw [iI_toInt (by first | assumption | (unfold iR; omega) | exact kR01 (by assumption))]; omega) (by rw [iI_toInt (by first | assumption | (unfold iR; omega) | exact kR01 (by assumption)), c_1_1]; rfl) (by decide) ?_
      refine lv_aload_n hx hb dX11_total_40 rfl (lv_at hl 0 rfl) ?_
      refine va_get (D := (dC, dI)) (ci := 11) (v := .int (iI ((x).1 (0) 14))) (C := RX11) (T := TX11) (N := 17) hx hb hts hinX11 hown hK hP (0) (kg0 (by omega)) rfl 14 (by decide) (hts (.fieldLink RX11 110 "LikeWords" "lawsHeld" "I") (by decide +kernel)) (fun _ h9 => h9) rfl dX11_total_41 ?_
      exact W.iret (v := iI ((x).1 (0) 14)) hx hb hr (fun t ht hW => ⟨⟨iI ((x).1 (0) 14), x, rfl, ⟨(by have h9 := congrArg (fun z : Int × KS => iI z.1) hres; exact h9), (by have h9 := congrArg (fun z : Int × KS => z.2) hres; exact h9)⟩, by rw [ht]; exact hP, va_K.moved hW.alike hK, hD⟩, hS.F ht⟩) hS.2.2 dX11_total_44
    rw [if_neg c_1_1] at hres
    by_cases c_1_2 : (v) = (2 : Int)
    · rw [if_pos c_1_2] at hres
      refine lv_tableIn (off := 44) (tgt := 45) hx hb dX11_total_1 (by rw [iI_toInt (by first | assumption | (unfold iR; omega) | exact kR01 (by assumption))]; omega) (by rw [iI_toInt (by first | assumption | (unfold iR; omega) | exact kR01 (by assumption))]; omega) (by rw [iI_toInt (by first | assumption | (unfold iR; omega) | exact kR01 (by assumption)), c_1_2]; rfl) (by decide) ?_
      refine lv_aload_n hx hb dX11_total_45 rfl (lv_at hl 0 rfl) ?_
      have hFc : ∀ q, va_A (kWd cI cJ cZ cR wl ad M (x)) H.size q → A q := fun q hq => Or.elim hq (fun ⟨k, e, hk⟩ => hD.2 k (q, e) hk) (fun hk => hA q (Nat.le_trans hS.1 hk))
      refine va_calli (va_runV (b := ad (0)) (As := []) (rest := []) ⟨hx, hb, hml, hown, hts⟩ (c_t_isSeen l dC dI ad cI cJ cZ cR M wl H.size (x)   hM s0 s1) (cwV 0 hts gX11_total_X11_isSeen rfl rfl rfl (by decide +kernel) ⟨Nat.le_of_ble_eq_true rfl, Nat.le_of_ble_eq_true rfl⟩) ⟨fun a U g mk q => by obtain ⟨q0, q1, qP, qK, qD, qN⟩ := q; exact ⟨q0, q1, qP, va_K.moved (u := U) (U := U.calling g mk a) (Vm.Alike.refl U.vm) qK, qD, kNw.same (u := U) (U := U.calling g mk a) rfl qN⟩, va_recv hK hP (ci := 11) (q0 := 0) rfl (kg0 (by omega)), fun U hU hW => ⟨rfl, by rw [hU], by rw [hU]; exact hP, va_K.moved hW.alike hK, hD.weaken (fun _ _ _ _ => trivial), kNw.warm hW hNw⟩⟩ rfl rfl hl.1 rfl (lv_room (Nat.le_of_ble_eq_true rfl)) dX11_total_46 ⟨Nat.le_of_ble_eq_true rfl, Nat.le_of_ble_eq_true rfl⟩) hS (fun q _ h => hFc q h) hFc (fun r9 u9 t H1 locs ht hvm hw hB hz1 hk1 hS => ?_)
      obtain ⟨hP1, hK1, hD1⟩ := hB
      rw [ht] at hP1
      obtain ⟨hw1, hw2⟩ := hw
      rw [hw2] at hP1 hD1
      rw [hw1]
      rw [F_t_isSeen_2] at hP1 hD1
      have hD2 := hD1.weaken (B := A) (fun _ q _ h => hFc q.1 h)
      have hP := hP1
      have hD := hD2
      generalize H1 = H at hP hS ⊢
      refine wi_if_eq (tgt := 62) hx hb (kR01 (F_t_isSeen_01 _)) dX11_total_49 (by decide) (fun c_49 => ?_) (fun c_49 => ?_)
      · skip
        rw [if_pos c_49] at hres
        refine lv_iconst (v := iI (0 : Int)) hx hb dX11_total_62 (by decide) ?_
        exact W.iret (v := iI ((0 : Int))) hx hb hr (fun t ht hW => ⟨⟨iI ((0 : Int)), x, rfl, ⟨(by have h9 := congrArg (fun z : Int × KS => iI z.1) hres; exact h9), (by have h9 := congrArg (fun z : Int × KS => z.2) hres; exact h9)⟩, by rw [ht]; exact hP, va_K.moved hW.alike hK, hD⟩, hS.F ht⟩) hS.2.2 dX11_total_63
      · skip
        rw [if_neg c_49] at hres
        refine lv_aload_n hx hb dX11_total_52 rfl (lv_at hl 0 rfl) ?_
        refine va_get (D := (dC, dI)) (ci := 11) (v := .ref (ad (58))) (C := RX11) (T := TX11) (N := 17) hx hb hts hinX11 hown hK hP (0) (kg0 (by omega)) rfl 5 (by decide) (hts (.fieldLink RX11 44 "LikeWords" "rules" "LLikeWords$Rules;") (by decide +kernel)) (fun _ h9 => h9) rfl dX11_total_53 ?_
        refine va_get (D := (dC, dI)) (ci := 7) (v := .int (iI ((x).1 (58) 6))) (C := RX7) (T := TX7) (N := 7) hx hb hts hinX7 hown hK hP (58) (kg58 (by omega)) rfl 6 (by decide) (hts (.fieldLink RX11 175 "LikeWords$Rules" "held" "I") (by decide +kernel)) (fun _ h9 => h9) rfl dX11_total_56 ?_
        refine lv_goto (tgt := 63) hx hb dX11_total_59 (by decide) ?_
        exact W.iret (v := iI ((x).1 (58) 6)) hx hb hr (fun t ht hW => ⟨⟨iI ((x).1 (58) 6), x, rfl, ⟨(by have h9 := congrArg (fun z : Int × KS => iI z.1) hres; exact h9), (by have h9 := congrArg (fun z : Int × KS => z.2) hres; exact h9)⟩, by rw [ht]; exact hP, va_K.moved hW.alike hK, hD⟩, hS.F ht⟩) hS.2.2 dX11_total_63
    rw [if_neg c_1_2] at hres
    by_cases c_1_3 : (v) = (3 : Int)
    · rw [if_pos c_1_3] at hres
      refine lv_tableIn (off := 63) (tgt := 64) hx hb dX11_total_1 (by rw [iI_toInt (by first | assumption | (unfold iR; omega) | exact kR01 (by assumption))]; omega) (by rw [iI_toInt (by first | assumption | (unfold iR; omega) | exact kR01 (by assumption))]; omega) (by rw [iI_toInt (by first | assumption | (unfold iR; omega) | exact kR01 (by assumption)), c_1_3]; rfl) (by decide) ?_
      refine lv_aload_n hx hb dX11_total_64 rfl (lv_at hl 0 rfl) ?_
      refine va_get (D := (dC, dI)) (ci := 11) (v := .ref (ad (4))) (C := RX11) (T := TX11) (N := 17) hx hb hts hinX11 hown hK hP (0) (kg0 (by omega)) rfl 1 (by decide) (hts (.fieldLink RX11 21 "LikeWords" "string" "LLikeWords$Word;") (by decide +kernel)) (fun _ h9 => h9) rfl dX11_total_65 ?_
      refine va_get (D := (dC, dI)) (ci := 10) (v := .int (iI ((x).1 (4) 1))) (C := RX10) (T := TX10) (N := 2) hx hb hts hinX10 hown hK hP (4) (kgw rfl (by omega)) rfl 1 (by decide) (hts (.fieldLink RX11 123 "LikeWords$Word" "used" "I") (by decide +kernel)) (fun _ h9 => h9) rfl dX11_total_68 ?_
      exact W.iret (v := iI ((x).1 (4) 1)) hx hb hr (fun t ht hW => ⟨⟨iI ((x).1 (4) 1), x, rfl, ⟨(by have h9 := congrArg (fun z : Int × KS => iI z.1) hres; exact h9), (by have h9 := congrArg (fun z : Int × KS => z.2) hres; exact h9)⟩, by rw [ht]; exact hP, va_K.moved hW.alike hK, hD⟩, hS.F ht⟩) hS.2.2 dX11_total_71
    rw [if_neg c_1_3] at hres
    refine lv_tableOut (tgt := 72) hx hb dX11_total_1 (by rw [iI_toInt (by first | assumption | (unfold iR; omega) | exact kR01 (by assumption))]; omega) (by decide) ?_
    refine lv_bipush (v := iI (-2 : Int)) hx hb dX11_total_72 (by decide) ?_
    exact W.iret (v := iI ((-2 : Int))) hx hb hr (fun t ht hW => ⟨⟨iI ((-2 : Int)), x, rfl, ⟨(by have h9 := congrArg (fun z : Int × KS => iI z.1) hres; exact h9), (by have h9 := congrArg (fun z : Int × KS => z.2) hres; exact h9)⟩, by rw [ht]; exact hP, va_K.moved hW.alike hK, hD⟩, hS.F ht⟩) hS.2.2 dX11_total_74
  exact key _ _ hP hS
theorem F_t_total_fr (x : KS) (v : Int) : ksame [] [] x (F_t_total x v).2 := by
  unfold F_t_total
  by_cases hc : (v) = (0 : Int)
  · rw [if_pos hc]
    exact (km_rf _ _ _)
  rw [if_neg hc]
  by_cases hc : (v) = (1 : Int)
  · rw [if_pos hc]
    exact (km_rf _ _ _)
  rw [if_neg hc]
  by_cases hc : (v) = (2 : Int)
  · rw [if_pos hc]
    by_cases hc : ((F_t_isSeen (x)).1) = (0)
    · rw [if_pos hc]
      exact (km_rf _ _ _)
    · rw [if_neg hc]
      exact (km_rf _ _ _)
  rw [if_neg hc]
  by_cases hc : (v) = (3 : Int)
  · rw [if_pos hc]
    exact (km_rf _ _ _)
  rw [if_neg hc]
  exact (km_rf _ _ _)
theorem F_t_total_2 (x : KS) (v : Int) : (F_t_total x v).2 = x := km_nil (F_t_total_fr x v)
def F_t_law (x : KS) (a : Int) (b : Int) : Int × KS := (if ((F_t_isSlot (x) (a)).1) = (0) then ((-1 : Int), x) else (if ((F_t_isSlot (x) (b)).1) = (0) then ((-1 : Int), x) else (if ((12 : Int)) < ((x).1 (7 + 2 * (a).toNat) 1) then ((-3 : Int), x) else (if ((x).1 (7 + 2 * (b).toNat) 1) ≤ ((12 : Int)) then (if ((x).1 (0) 14) < ((8 : Int)) then (((F_t_forget (kS ((F_w_take ((F_w_take (x) (24 + 2 * (((2 : Int)) * ((x).1 (0) 14)).toNat) (7 + 2 * (a).toNat)).2) (24 + 2 * ((((2 : Int)) * (((F_w_take (x) (24 + 2 * (((2 : Int)) * ((x).1 (0) 14)).toNat) (7 + 2 * (a).toNat)).2).1 (0) 14)) + ((1 : Int))).toNat) (7 + 2 * (b).toNat)).2) (0) 14 ((((F_w_take ((F_w_take (x) (24 + 2 * (((2 : Int)) * ((x).1 (0) 14)).toNat) (7 + 2 * (a).toNat)).2) (24 + 2 * ((((2 : Int)) * (((F_w_take (x) (24 + 2 * (((2 : Int)) * ((x).1 (0) 14)).toNat) (7 + 2 * (a).toNat)).2).1 (0) 14)) + ((1 : Int))).toNat) (7 + 2 * (b).toNat)).2).1 (0) 14) + ((1 : Int))))).2).1 (0) 14, (F_t_forget (kS ((F_w_take ((F_w_take (x) (24 + 2 * (((2 : Int)) * ((x).1 (0) 14)).toNat) (7 + 2 * (a).toNat)).2) (24 + 2 * ((((2 : Int)) * (((F_w_take (x) (24 + 2 * (((2 : Int)) * ((x).1 (0) 14)).toNat) (7 + 2 * (a).toNat)).2).1 (0) 14)) + ((1 : Int))).toNat) (7 + 2 * (b).toNat)).2) (0) 14 ((((F_w_take ((F_w_take (x) (24 + 2 * (((2 : Int)) * ((x).1 (0) 14)).toNat) (7 + 2 * (a).toNat)).2) (24 + 2 * ((((2 : Int)) * (((F_w_take (x) (24 + 2 * (((2 : Int)) * ((x).1 (0) 14)).toNat) (7 + 2 * (a).toNat)).2).1 (0) 14)) + ((1 : Int))).toNat) (7 + 2 * (b).toNat)).2).1 (0) 14) + ((1 : Int))))).2) else ((-4 : Int), x)) else ((-3 : Int), x)))))
set_option maxHeartbeats 4000000 in
set_option maxRecDepth 100000 in
/-- LikeWords, law -/
theorem c_t_law (l : Launch) (dC : Nat → ClassId) (dI : Nat → Nat → Nat) (ad : Nat → Nat) (cI cJ cZ cR : ClassId) (M wl sz : Nat) (x : KS) (a : Int) (b : Int) (hM : 87 ≤ M) (ra : iR a) (rb : iR b) (su : ∀ j : Int, 0 ≤ j → j < 8 → 0 ≤ x.1 (7 + 2 * j.toNat) 1 ∧ x.1 (7 + 2 * j.toNat) 1 ≤ 60) (h0 : 0 ≤ x.1 0 14) (h8 : x.1 0 14 ≤ 8) : Met l yX11_law wsX11_law ({ frames := 2, cells := 0, slots := 0, locals := 43 }) (kPc dC dI ad cI cJ cZ cR M wl sz x [.ref (ad 0), .int (iI a), .int (iI b)]) (va_Qi (fun (r : Int32) (u : KS) => r = iI (F_t_law x a b).1 ∧ u = (F_t_law x a b).2) (kAt dC dI ad cI cJ cZ cR M wl (va_A (kWd cI cJ cZ cR wl ad M (x)) sz)) (va_A (kWd cI cJ cZ cR wl ad M (x)) sz)) 0 0 (va_A (kWd cI cJ cZ cR wl ad M (x)) sz) := by
  refine Met.ofW (cc := cX11_law) (maxL := 3) (ret := (some .int)) (by decide) rfl ?_
  intro p e s m args below meth c s₁ B hml hv
  obtain ⟨rfl, hsz, hP, hK, hD0, hNw⟩ := hv
  have hx := B.exec
  have hb := B.bytes
  have hr := B.returns
  have hts := atoms_spec (ws := wsX11_law) B.pre
  have hown : s.vm.findClass RX11 = some m.cls := findClass_of_methodNamed B.named
  have hlocks := B.notSynchronized
  have hinX10 : ∀ w ∈ u_ws RX10 TX10 2, w ∈ wsX11_law := by decide +kernel
  have hinX11 : ∀ w ∈ u_ws RX11 TX11 17, w ∈ wsX11_law := by decide +kernel
  subst hsz
  have hD := hD0.self (sz := s.heap.size)
  generalize hAe : va_A (kWd cI cJ cZ cR wl ad M (x)) s.heap.size = A at hD ⊢
  have hA : ∀ q : Nat, s.heap.size ≤ q → A q := fun q h => by rw [← hAe]; exact Or.inr h
  have hS : va_S A s.heap s.heap [] := va_S.rf
  have hl := lv_entry ([.ref (ad 0), .int (iI a), .int (iI b)]) (n := 3) (Nat.le_of_ble_eq_true rfl)
  rw [lg_entry_eq]
  generalize (lg_sl ([.ref (ad 0), .int (iI a), .int (iI b)]) ++ List.replicate (3 - (lg_sl ([.ref (ad 0), .int (iI a), .int (iI b)])).length) Slot.unset).toArray = ls at hl ⊢
  have hl : lv_has ls 3 [(0, .ref (ad (0))), (1, .int (iI (a))), (2, .int (iI (b)))] := hl
  have key : ∀ (H : Heap) (locs : List Loc), va_P (dC, dI) vwCl (kWd cI cJ cZ cR wl ad M (x)) H → va_S A s.heap H locs → W p l e (headSpec wsX11_law ({ frames := 2, cells := 0, slots := 0, locals := 43 })).room s m ([.ref (ad 0), .int (iI a), .int (iI b)] : List Value).toArray below meth c H locs 0 0 (MQ below (va_Qi (fun (r : Int32) (u : KS) => r = iI (F_t_law x a b).1 ∧ u = (F_t_law x a b).2) (kAt dC dI ad cI cJ cZ cR M wl A) A) ([.ref (ad 0), .int (iI a), .int (iI b)] : List Value).toArray s 0 0 A) (F0 m 0 ls []) := by
    intro H locs hP hS
    have hres : (if ((F_t_isSlot (x) (a)).1) = (0) then ((-1 : Int), x) else (if ((F_t_isSlot (x) (b)).1) = (0) then ((-1 : Int), x) else (if ((12 : Int)) < ((x).1 (7 + 2 * (a).toNat) 1) then ((-3 : Int), x) else (if ((x).1 (7 + 2 * (b).toNat) 1) ≤ ((12 : Int)) then (if ((x).1 (0) 14) < ((8 : Int)) then (((F_t_forget (kS ((F_w_take ((F_w_take (x) (24 + 2 * (((2 : Int)) * ((x).1 (0) 14)).toNat) (7 + 2 * (a).toNat)).2) (24 + 2 * ((((2 : Int)) * (((F_w_take (x) (24 + 2 * (((2 : Int)) * ((x).1 (0) 14)).toNat) (7 + 2 * (a).toNat)).2).1 (0) 14)) + ((1 : Int))).toNat) (7 + 2 * (b).toNat)).2) (0) 14 ((((F_w_take ((F_w_take (x) (24 + 2 * (((2 : Int)) * ((x).1 (0) 14)).toNat) (7 + 2 * (a).toNat)).2) (24 + 2 * ((((2 : Int)) * (((F_w_take (x) (24 + 2 * (((2 : Int)) * ((x).1 (0) 14)).toNat) (7 + 2 * (a).toNat)).2).1 (0) 14)) + ((1 : Int))).toNat) (7 + 2 * (b).toNat)).2).1 (0) 14) + ((1 : Int))))).2).1 (0) 14, (F_t_forget (kS ((F_w_take ((F_w_take (x) (24 + 2 * (((2 : Int)) * ((x).1 (0) 14)).toNat) (7 + 2 * (a).toNat)).2) (24 + 2 * ((((2 : Int)) * (((F_w_take (x) (24 + 2 * (((2 : Int)) * ((x).1 (0) 14)).toNat) (7 + 2 * (a).toNat)).2).1 (0) 14)) + ((1 : Int))).toNat) (7 + 2 * (b).toNat)).2) (0) 14 ((((F_w_take ((F_w_take (x) (24 + 2 * (((2 : Int)) * ((x).1 (0) 14)).toNat) (7 + 2 * (a).toNat)).2) (24 + 2 * ((((2 : Int)) * (((F_w_take (x) (24 + 2 * (((2 : Int)) * ((x).1 (0) 14)).toNat) (7 + 2 * (a).toNat)).2).1 (0) 14)) + ((1 : Int))).toNat) (7 + 2 * (b).toNat)).2).1 (0) 14) + ((1 : Int))))).2) else ((-4 : Int), x)) else ((-3 : Int), x))))) = F_t_law x a b := rfl
    refine lv_aload_n hx hb dX11_law_0 rfl (lv_at hl 0 rfl) ?_
    refine lv_iload_n hx hb dX11_law_1 rfl (lv_at hl 1 rfl) ?_
    have hFc : ∀ q, va_A (kWd cI cJ cZ cR wl ad M (x)) H.size q → A q := fun q hq => Or.elim hq (fun ⟨k, e, hk⟩ => hD.2 k (q, e) hk) (fun hk => hA q (Nat.le_trans hS.1 hk))
    refine va_calli (va_runV (b := ad (0)) (As := [.int (iI (a))]) (rest := []) ⟨hx, hb, hml, hown, hts⟩ (c_t_isSlot l dC dI ad cI cJ cZ cR M wl H.size (x)  (a) hM ra) (cwV 1 hts gX11_law_X11_isSlot rfl rfl rfl (by decide +kernel) ⟨Nat.le_of_ble_eq_true rfl, Nat.le_of_ble_eq_true rfl⟩) ⟨fun a U g mk q => by obtain ⟨q0, q1, qP, qK, qD, qN⟩ := q; exact ⟨q0, q1, qP, va_K.moved (u := U) (U := U.calling g mk a) (Vm.Alike.refl U.vm) qK, qD, kNw.same (u := U) (U := U.calling g mk a) rfl qN⟩, va_recv hK hP (ci := 11) (q0 := 0) rfl (kg0 (by omega)), fun U hU hW => ⟨rfl, by rw [hU], by rw [hU]; exact hP, va_K.moved hW.alike hK, hD.weaken (fun _ _ _ _ => trivial), kNw.warm hW hNw⟩⟩ rfl rfl hl.1 rfl (lv_room (Nat.le_of_ble_eq_true rfl)) dX11_law_2 ⟨Nat.le_of_ble_eq_true rfl, Nat.le_of_ble_eq_true rfl⟩) hS (fun q _ h => hFc q h) hFc (fun r9 u9 t H1 locs ht hvm hw hB hz1 hk1 hS => ?_)
    obtain ⟨hP1, hK1, hD1⟩ := hB
    rw [ht] at hP1
    obtain ⟨hw1, hw2⟩ := hw
    rw [hw2] at hP1 hD1
    rw [hw1]
    rw [F_t_isSlot_2] at hP1 hD1
    have hD2 := hD1.weaken (B := A) (fun _ q _ h => hFc q.1 h)
    have hP := hP1
    have hD := hD2
    generalize H1 = H at hP hS ⊢
    refine wi_if_eq (tgt := 16) hx hb (kR01 (F_t_isSlot_01 _ _)) dX11_law_5 (by decide) (fun c_5 => ?_) (fun c_5 => ?_)
    · skip
      rw [if_pos c_5] at hres
      refine lv_iconst (v := iI (-1 : Int)) hx hb dX11_law_16 (by decide) ?_
      exact W.iret (v := iI ((-1 : Int))) hx hb hr (fun t ht hW => ⟨⟨iI ((-1 : Int)), x, rfl, ⟨(by have h9 := congrArg (fun z : Int × KS => iI z.1) hres; exact h9), (by have h9 := congrArg (fun z : Int × KS => z.2) hres; exact h9)⟩, by rw [ht]; exact hP, va_K.moved hW.alike hK, hD⟩, hS.F ht⟩) hS.2.2 dX11_law_17
    · skip
      rw [if_neg c_5] at hres
      refine lv_aload_n hx hb dX11_law_8 rfl (lv_at hl 0 rfl) ?_
      refine lv_iload_n hx hb dX11_law_9 rfl (lv_at hl 2 rfl) ?_
      have hFc : ∀ q, va_A (kWd cI cJ cZ cR wl ad M (x)) H.size q → A q := fun q hq => Or.elim hq (fun ⟨k, e, hk⟩ => hD.2 k (q, e) hk) (fun hk => hA q (Nat.le_trans hS.1 hk))
      refine va_calli (va_runV (b := ad (0)) (As := [.int (iI (b))]) (rest := []) ⟨hx, hb, hml, hown, hts⟩ (c_t_isSlot l dC dI ad cI cJ cZ cR M wl H.size (x)  (b) hM rb) (cwV 1 hts gX11_law_X11_isSlot rfl rfl rfl (by decide +kernel) ⟨Nat.le_of_ble_eq_true rfl, Nat.le_of_ble_eq_true rfl⟩) ⟨fun a U g mk q => by obtain ⟨q0, q1, qP, qK, qD, qN⟩ := q; exact ⟨q0, q1, qP, va_K.moved (u := U) (U := U.calling g mk a) (Vm.Alike.refl U.vm) qK, qD, kNw.same (u := U) (U := U.calling g mk a) rfl qN⟩, va_recv hK hP (ci := 11) (q0 := 0) rfl (kg0 (by omega)), fun U hU hW => ⟨rfl, by rw [hU], by rw [hU]; exact hP, va_K.moved hW.alike hK, hD.weaken (fun _ _ _ _ => trivial), kNw.warm hW hNw⟩⟩ rfl rfl hl.1 rfl (lv_room (Nat.le_of_ble_eq_true rfl)) dX11_law_10 ⟨Nat.le_of_ble_eq_true rfl, Nat.le_of_ble_eq_true rfl⟩) hS (fun q _ h => hFc q h) hFc (fun r9 u9 t H1 locs ht hvm hw hB hz1 hk1 hS => ?_)
      obtain ⟨hP1, hK1, hD1⟩ := hB
      rw [ht] at hP1
      obtain ⟨hw1, hw2⟩ := hw
      rw [hw2] at hP1 hD1
      rw [hw1]
      rw [F_t_isSlot_2] at hP1 hD1
      have hD2 := hD1.weaken (B := A) (fun _ q _ h => hFc q.1 h)
      have hP := hP1
      have hD := hD2
      generalize H1 = H at hP hS ⊢
      refine wi_if_ne (tgt := 18) hx hb (kR01 (F_t_isSlot_01 _ _)) dX11_law_13 (by decide) (fun c_13 => ?_) (fun c_13 => ?_)
      · skip
        rw [if_neg c_13] at hres
        obtain ⟨a0, a1⟩ := F_t_isSlot_1 c_5
        obtain ⟨b0, b1⟩ := F_t_isSlot_1 c_13
        refine lv_aload_n hx hb dX11_law_18 rfl (lv_at hl 0 rfl) ?_
        refine va_get (D := (dC, dI)) (ci := 11) (v := .ref (ad (6))) (C := RX11) (T := TX11) (N := 17) hx hb hts hinX11 hown hK hP (0) (kg0 (by omega)) rfl 2 (by decide) (hts (.fieldLink RX11 25 "LikeWords" "slots" "[LLikeWords$Word;") (by decide +kernel)) (fun _ h9 => h9) rfl dX11_law_19 ?_
        refine lv_iload_n hx hb dX11_law_22 rfl (lv_at hl 1 rfl) ?_
        refine va_aldq (C := "LikeWords$Word") (n := 8) (f := fun j => some (ad (7 + 2 * j))) hx hb hK hP 6 3 (kget (by omega)) rfl (iI_in (z := a) (by omega) (by omega) (by decide)) dX11_law_23 ?_
        rw [iI_clamp ⟨by omega, by omega⟩]
        refine W.eq (g2 := F0 m 24 ls [.ref (ad (7 + 2 * (a).toNat))]) rfl ?_
        refine va_get (D := (dC, dI)) (ci := 10) (v := .int (iI ((x).1 (7 + 2 * (a).toNat) 1))) (C := RX10) (T := TX10) (N := 2) hx hb hts hinX10 hown hK hP (7 + 2 * (a).toNat) (kgw (kW_slot (by omega) (by omega)) (by omega)) rfl 1 (by decide) (hts (.fieldLink RX11 123 "LikeWords$Word" "used" "I") (by decide +kernel)) (fun _ h9 => h9) rfl dX11_law_24 ?_
        refine lv_bipush (v := iI (12 : Int)) hx hb dX11_law_27 (by decide) ?_
        refine wi_icmp_gt (tgt := 46) hx hb (by have := su a a0 a1; unfold iR; omega) ⟨by decide, by decide⟩ dX11_law_29 (by decide) (fun c_29 => ?_) (fun c_29 => ?_)
        · skip
          rw [if_pos c_29] at hres
          refine lv_bipush (v := iI (-3 : Int)) hx hb dX11_law_46 (by decide) ?_
          exact W.iret (v := iI ((-3 : Int))) hx hb hr (fun t ht hW => ⟨⟨iI ((-3 : Int)), x, rfl, ⟨(by have h9 := congrArg (fun z : Int × KS => iI z.1) hres; exact h9), (by have h9 := congrArg (fun z : Int × KS => z.2) hres; exact h9)⟩, by rw [ht]; exact hP, va_K.moved hW.alike hK, hD⟩, hS.F ht⟩) hS.2.2 dX11_law_48
        · skip
          rw [if_neg c_29] at hres
          refine lv_aload_n hx hb dX11_law_32 rfl (lv_at hl 0 rfl) ?_
          refine va_get (D := (dC, dI)) (ci := 11) (v := .ref (ad (6))) (C := RX11) (T := TX11) (N := 17) hx hb hts hinX11 hown hK hP (0) (kg0 (by omega)) rfl 2 (by decide) (hts (.fieldLink RX11 25 "LikeWords" "slots" "[LLikeWords$Word;") (by decide +kernel)) (fun _ h9 => h9) rfl dX11_law_33 ?_
          refine lv_iload_n hx hb dX11_law_36 rfl (lv_at hl 2 rfl) ?_
          refine va_aldq (C := "LikeWords$Word") (n := 8) (f := fun j => some (ad (7 + 2 * j))) hx hb hK hP 6 3 (kget (by omega)) rfl (iI_in (z := b) (by omega) (by omega) (by decide)) dX11_law_37 ?_
          rw [iI_clamp ⟨by omega, by omega⟩]
          refine W.eq (g2 := F0 m 38 ls [.ref (ad (7 + 2 * (b).toNat))]) rfl ?_
          refine va_get (D := (dC, dI)) (ci := 10) (v := .int (iI ((x).1 (7 + 2 * (b).toNat) 1))) (C := RX10) (T := TX10) (N := 2) hx hb hts hinX10 hown hK hP (7 + 2 * (b).toNat) (kgw (kW_slot (by omega) (by omega)) (by omega)) rfl 1 (by decide) (hts (.fieldLink RX11 123 "LikeWords$Word" "used" "I") (by decide +kernel)) (fun _ h9 => h9) rfl dX11_law_38 ?_
          refine lv_bipush (v := iI (12 : Int)) hx hb dX11_law_41 (by decide) ?_
          refine wi_icmp_le (tgt := 49) hx hb (by have := su b b0 b1; unfold iR; omega) ⟨by decide, by decide⟩ dX11_law_43 (by decide) (fun c_43 => ?_) (fun c_43 => ?_)
          · skip
            rw [if_pos c_43] at hres
            refine lv_aload_n hx hb dX11_law_49 rfl (lv_at hl 0 rfl) ?_
            refine va_get (D := (dC, dI)) (ci := 11) (v := .int (iI ((x).1 (0) 14))) (C := RX11) (T := TX11) (N := 17) hx hb hts hinX11 hown hK hP (0) (kg0 (by omega)) rfl 14 (by decide) (hts (.fieldLink RX11 110 "LikeWords" "lawsHeld" "I") (by decide +kernel)) (fun _ h9 => h9) rfl dX11_law_50 ?_
            refine lv_bipush (v := iI (8 : Int)) hx hb dX11_law_53 (by decide) ?_
            refine wi_icmp_lt (tgt := 61) hx hb (by first | assumption | (unfold iR; omega) | exact kR01 (by assumption)) ⟨by decide, by decide⟩ dX11_law_55 (by decide) (fun c_55 => ?_) (fun c_55 => ?_)
            · skip
              rw [if_pos c_55] at hres
              refine lv_aload_n hx hb dX11_law_61 rfl (lv_at hl 0 rfl) ?_
              refine va_get (D := (dC, dI)) (ci := 11) (v := .ref (ad (23))) (C := RX11) (T := TX11) (N := 17) hx hb hts hinX11 hown hK hP (0) (kg0 (by omega)) rfl 3 (by decide) (hts (.fieldLink RX11 29 "LikeWords" "lawSides" "[LLikeWords$Word;") (by decide +kernel)) (fun _ h9 => h9) rfl dX11_law_62 ?_
              refine lv_iconst (v := iI (2 : Int)) hx hb dX11_law_65 (by decide) ?_
              refine lv_aload_n hx hb dX11_law_66 rfl (lv_at hl 0 rfl) ?_
              refine va_get (D := (dC, dI)) (ci := 11) (v := .int (iI ((x).1 (0) 14))) (C := RX11) (T := TX11) (N := 17) hx hb hts hinX11 hown hK hP (0) (kg0 (by omega)) rfl 14 (by decide) (hts (.fieldLink RX11 110 "LikeWords" "lawsHeld" "I") (by decide +kernel)) (fun _ h9 => h9) rfl dX11_law_67 ?_
              refine wi_imul hx hb dX11_law_70 ?_
              refine va_aldq (C := "LikeWords$Word") (n := 16) (f := fun j => some (ad (24 + 2 * j))) hx hb hK hP 23 3 (kget (by omega)) rfl (iI_in (z := ((2 : Int)) * ((x).1 (0) 14)) (by omega) (by omega) (by decide)) dX11_law_71 ?_
              rw [iI_clamp ⟨by omega, by omega⟩]
              refine W.eq (g2 := F0 m 72 ls [.ref (ad (24 + 2 * (((2 : Int)) * ((x).1 (0) 14)).toNat))]) rfl ?_
              refine lv_aload_n hx hb dX11_law_72 rfl (lv_at hl 0 rfl) ?_
              refine va_get (D := (dC, dI)) (ci := 11) (v := .ref (ad (6))) (C := RX11) (T := TX11) (N := 17) hx hb hts hinX11 hown hK hP (0) (kg0 (by omega)) rfl 2 (by decide) (hts (.fieldLink RX11 25 "LikeWords" "slots" "[LLikeWords$Word;") (by decide +kernel)) (fun _ h9 => h9) rfl dX11_law_73 ?_
              refine lv_iload_n hx hb dX11_law_76 rfl (lv_at hl 1 rfl) ?_
              refine va_aldq (C := "LikeWords$Word") (n := 8) (f := fun j => some (ad (7 + 2 * j))) hx hb hK hP 6 3 (kget (by omega)) rfl (iI_in (z := a) (by omega) (by omega) (by decide)) dX11_law_77 ?_
              rw [iI_clamp ⟨by omega, by omega⟩]
              refine W.eq (g2 := F0 m 78 ls [.ref (ad (7 + 2 * (a).toNat)), .ref (ad (24 + 2 * (((2 : Int)) * ((x).1 (0) 14)).toNat))]) rfl ?_
              have hFc : ∀ q, va_A (kWd cI cJ cZ cR wl ad M (x)) H.size q → A q := fun q hq => Or.elim hq (fun ⟨k, e, hk⟩ => hD.2 k (q, e) hk) (fun hk => hA q (Nat.le_trans hS.1 hk))
              refine va_callv (va_runV (b := ad (24 + 2 * (((2 : Int)) * ((x).1 (0) 14)).toNat)) (As := [.ref (ad (7 + 2 * (a).toNat))]) (rest := []) ⟨hx, hb, hml, hown, hts⟩ (c_w_take l dC dI ad cI cJ cZ cR M wl H.size (x) (24 + 2 * (((2 : Int)) * ((x).1 (0) 14)).toNat) (7 + 2 * (a).toNat)  hM (kW_law (by omega) (by omega)) (by omega) (kW_slot (by omega) (by omega)) (by omega) (su a a0 a1).1 (by rw [kL_slot a0 a1]; exact (su a a0 a1).2)) (cwV 1 hts gX11_law_X10_take rfl rfl rfl (by decide +kernel) ⟨Nat.le_of_ble_eq_true rfl, Nat.le_of_ble_eq_true rfl⟩) ⟨fun a U g mk q => by obtain ⟨q0, q1, qP, qK, qD, qN⟩ := q; exact ⟨q0, q1, qP, va_K.moved (u := U) (U := U.calling g mk a) (Vm.Alike.refl U.vm) qK, qD, kNw.same (u := U) (U := U.calling g mk a) rfl qN⟩, va_recv hK hP (ci := 10) (q0 := 24 + 2 * (((2 : Int)) * ((x).1 (0) 14)).toNat) rfl (kgw (kW_law (by omega) (by omega)) (by omega)), fun U hU hW => ⟨rfl, by rw [hU], by rw [hU]; exact hP, va_K.moved hW.alike hK, hD.weaken (fun _ _ _ _ => trivial), kNw.warm hW hNw⟩⟩ rfl rfl hl.1 rfl (lv_room (Nat.le_of_ble_eq_true rfl)) dX11_law_78 ⟨Nat.le_of_ble_eq_true rfl, Nat.le_of_ble_eq_true rfl⟩) hS (fun q _ h => hFc q h) hFc (fun u9 t H1 locs ht hvm hw hB hz1 hk1 hS => ?_)
              obtain ⟨hP1, hK1, hD1⟩ := hB
              rw [ht] at hP1
              rw [hw] at hP1 hD1
              have hD2 := hD1.weaken (B := A) (fun _ q _ h => hFc q.1 h)
              have hP := hP1
              have hD := hD2
              generalize H1 = H at hP hS ⊢
              have fr := F_w_take_fr x (24 + 2 * ((2 : Int) * x.1 0 14).toNat) (7 + 2 * a.toNat)
              have e0 : ((F_w_take (x) (24 + 2 * (((2 : Int)) * ((x).1 (0) 14)).toNat) (7 + 2 * (a).toNat)).2).1 0 = x.1 0 := funext fun k9 => fr.1 0 k9 (by intro hm; rcases List.mem_cons.mp hm with e | e; (have := congrArg Prod.fst e; simp at this; omega); exact List.not_mem_nil e)
              have e14 : ((F_w_take (x) (24 + 2 * (((2 : Int)) * ((x).1 (0) 14)).toNat) (7 + 2 * (a).toNat)).2).1 0 14 = x.1 0 14 := congrFun e0 14
              have e9 : ((F_w_take (x) (24 + 2 * (((2 : Int)) * ((x).1 (0) 14)).toNat) (7 + 2 * (a).toNat)).2).1 (7 + 2 * b.toNat) 1 = x.1 (7 + 2 * b.toNat) 1 := fr.1 _ _ (by intro hm; rcases List.mem_cons.mp hm with e | e; (have := congrArg Prod.fst e; simp at this; omega); exact List.not_mem_nil e)
              refine lv_aload_n hx hb dX11_law_81 rfl (lv_at hl 0 rfl) ?_
              refine va_get (D := (dC, dI)) (ci := 11) (v := .ref (ad (23))) (C := RX11) (T := TX11) (N := 17) hx hb hts hinX11 hown hK hP (0) (kg0 (by omega)) rfl 3 (by decide) (hts (.fieldLink RX11 29 "LikeWords" "lawSides" "[LLikeWords$Word;") (by decide +kernel)) (fun _ h9 => h9) rfl dX11_law_82 ?_
              refine lv_iconst (v := iI (2 : Int)) hx hb dX11_law_85 (by decide) ?_
              refine lv_aload_n hx hb dX11_law_86 rfl (lv_at hl 0 rfl) ?_
              refine va_get (D := (dC, dI)) (ci := 11) (v := .int (iI (((F_w_take (x) (24 + 2 * (((2 : Int)) * ((x).1 (0) 14)).toNat) (7 + 2 * (a).toNat)).2).1 (0) 14))) (C := RX11) (T := TX11) (N := 17) hx hb hts hinX11 hown hK hP (0) (kg0 (by omega)) rfl 14 (by decide) (hts (.fieldLink RX11 110 "LikeWords" "lawsHeld" "I") (by decide +kernel)) (fun _ h9 => h9) rfl dX11_law_87 ?_
              refine wi_imul hx hb dX11_law_90 ?_
              refine lv_iconst (v := iI (1 : Int)) hx hb dX11_law_91 (by decide) ?_
              refine wi_iadd hx hb dX11_law_92 ?_
              refine va_aldq (C := "LikeWords$Word") (n := 16) (f := fun j => some (ad (24 + 2 * j))) hx hb hK hP 23 3 (kget (by omega)) rfl (iI_in (z := (((2 : Int)) * (((F_w_take (x) (24 + 2 * (((2 : Int)) * ((x).1 (0) 14)).toNat) (7 + 2 * (a).toNat)).2).1 (0) 14)) + ((1 : Int))) (by omega) (by omega) (by decide)) dX11_law_93 ?_
              rw [iI_clamp ⟨by omega, by omega⟩]
              refine W.eq (g2 := F0 m 94 ls [.ref (ad (24 + 2 * ((((2 : Int)) * (((F_w_take (x) (24 + 2 * (((2 : Int)) * ((x).1 (0) 14)).toNat) (7 + 2 * (a).toNat)).2).1 (0) 14)) + ((1 : Int))).toNat))]) rfl ?_
              refine lv_aload_n hx hb dX11_law_94 rfl (lv_at hl 0 rfl) ?_
              refine va_get (D := (dC, dI)) (ci := 11) (v := .ref (ad (6))) (C := RX11) (T := TX11) (N := 17) hx hb hts hinX11 hown hK hP (0) (kg0 (by omega)) rfl 2 (by decide) (hts (.fieldLink RX11 25 "LikeWords" "slots" "[LLikeWords$Word;") (by decide +kernel)) (fun _ h9 => h9) rfl dX11_law_95 ?_
              refine lv_iload_n hx hb dX11_law_98 rfl (lv_at hl 2 rfl) ?_
              refine va_aldq (C := "LikeWords$Word") (n := 8) (f := fun j => some (ad (7 + 2 * j))) hx hb hK hP 6 3 (kget (by omega)) rfl (iI_in (z := b) (by omega) (by omega) (by decide)) dX11_law_99 ?_
              rw [iI_clamp ⟨by omega, by omega⟩]
              refine W.eq (g2 := F0 m 100 ls [.ref (ad (7 + 2 * (b).toNat)), .ref (ad (24 + 2 * ((((2 : Int)) * (((F_w_take (x) (24 + 2 * (((2 : Int)) * ((x).1 (0) 14)).toNat) (7 + 2 * (a).toNat)).2).1 (0) 14)) + ((1 : Int))).toNat))]) rfl ?_
              have hFc : ∀ q, va_A (kWd cI cJ cZ cR wl ad M ((F_w_take (x) (24 + 2 * (((2 : Int)) * ((x).1 (0) 14)).toNat) (7 + 2 * (a).toNat)).2)) H.size q → A q := fun q hq => Or.elim hq (fun ⟨k, e, hk⟩ => hD.2 k (q, e) hk) (fun hk => hA q (Nat.le_trans hS.1 hk))
              refine va_callv (va_runV (b := ad (24 + 2 * ((((2 : Int)) * (((F_w_take (x) (24 + 2 * (((2 : Int)) * ((x).1 (0) 14)).toNat) (7 + 2 * (a).toNat)).2).1 (0) 14)) + ((1 : Int))).toNat)) (As := [.ref (ad (7 + 2 * (b).toNat))]) (rest := []) ⟨hx, hb, hml, hown, hts⟩ (c_w_take l dC dI ad cI cJ cZ cR M wl H.size ((F_w_take (x) (24 + 2 * (((2 : Int)) * ((x).1 (0) 14)).toNat) (7 + 2 * (a).toNat)).2) (24 + 2 * ((((2 : Int)) * (((F_w_take (x) (24 + 2 * (((2 : Int)) * ((x).1 (0) 14)).toNat) (7 + 2 * (a).toNat)).2).1 (0) 14)) + ((1 : Int))).toNat) (7 + 2 * (b).toNat)  hM (kW_law (by omega) (by omega)) (by omega) (kW_slot (by omega) (by omega)) (by omega) (by have := e9; rw [this]; exact (su b b0 b1).1) (by rw [e9, kL_slot b0 b1]; exact (su b b0 b1).2)) (cwV 1 hts gX11_law_X10_take rfl rfl rfl (by decide +kernel) ⟨Nat.le_of_ble_eq_true rfl, Nat.le_of_ble_eq_true rfl⟩) ⟨fun a U g mk q => by obtain ⟨q0, q1, qP, qK, qD, qN⟩ := q; exact ⟨q0, q1, qP, va_K.moved (u := U) (U := U.calling g mk a) (Vm.Alike.refl U.vm) qK, qD, kNw.same (u := U) (U := U.calling g mk a) rfl qN⟩, va_recv hK hP (ci := 10) (q0 := 24 + 2 * ((((2 : Int)) * (((F_w_take (x) (24 + 2 * (((2 : Int)) * ((x).1 (0) 14)).toNat) (7 + 2 * (a).toNat)).2).1 (0) 14)) + ((1 : Int))).toNat) rfl (kgw (kW_law (by omega) (by omega)) (by omega)), fun U hU hW => ⟨rfl, by rw [hU], by rw [hU]; exact hP, va_K.moved hW.alike hK, hD.weaken (fun _ _ _ _ => trivial), kNw.warm hW hNw⟩⟩ rfl rfl hl.1 rfl (lv_room (Nat.le_of_ble_eq_true rfl)) dX11_law_100 ⟨Nat.le_of_ble_eq_true rfl, Nat.le_of_ble_eq_true rfl⟩) hS (fun q _ h => hFc q h) hFc (fun u9 t H1 locs ht hvm hw hB hz1 hk1 hS => ?_)
              obtain ⟨hP1, hK1, hD1⟩ := hB
              rw [ht] at hP1
              rw [hw] at hP1 hD1
              have hD2 := hD1.weaken (B := A) (fun _ q _ h => hFc q.1 h)
              have hP := hP1
              have hD := hD2
              generalize H1 = H at hP hS ⊢
              refine lv_aload_n hx hb dX11_law_103 rfl (lv_at hl 0 rfl) ?_
              refine lv_dup hx hb dX11_law_104 rfl ?_
              refine va_get (D := (dC, dI)) (ci := 11) (v := .int (iI (((F_w_take ((F_w_take (x) (24 + 2 * (((2 : Int)) * ((x).1 (0) 14)).toNat) (7 + 2 * (a).toNat)).2) (24 + 2 * ((((2 : Int)) * (((F_w_take (x) (24 + 2 * (((2 : Int)) * ((x).1 (0) 14)).toNat) (7 + 2 * (a).toNat)).2).1 (0) 14)) + ((1 : Int))).toNat) (7 + 2 * (b).toNat)).2).1 (0) 14))) (C := RX11) (T := TX11) (N := 17) hx hb hts hinX11 hown hK hP (0) (kg0 (by omega)) rfl 14 (by decide) (hts (.fieldLink RX11 110 "LikeWords" "lawsHeld" "I") (by decide +kernel)) (fun _ h9 => h9) rfl dX11_law_105 ?_
              refine lv_iconst (v := iI (1 : Int)) hx hb dX11_law_108 (by decide) ?_
              refine wi_iadd hx hb dX11_law_109 ?_
              refine va_put (D := (dC, dI)) (ci := 11) (v := .int (iI ((((F_w_take ((F_w_take (x) (24 + 2 * (((2 : Int)) * ((x).1 (0) 14)).toNat) (7 + 2 * (a).toNat)).2) (24 + 2 * ((((2 : Int)) * (((F_w_take (x) (24 + 2 * (((2 : Int)) * ((x).1 (0) 14)).toNat) (7 + 2 * (a).toNat)).2).1 (0) 14)) + ((1 : Int))).toNat) (7 + 2 * (b).toNat)).2).1 (0) 14) + ((1 : Int))))) (ty := .int) (C := RX11) (T := TX11) (N := 17) hx hb hts hinX11 tyX11 tyX11_ok nmX11 hown hK hP hD hS (0) (kg0 (by omega)) rfl 14 (by decide) (hts (.fieldLink RX11 110 "LikeWords" "lawsHeld" "I") (by decide +kernel)) (fun _ h9 => h9) rfl (by decide +kernel) rfl rfl (Nat.le_of_ble_eq_true rfl) dX11_law_110 (fun H locs hP hD hS => ?_)
              rw [ks0_14] at hP hD
              refine lv_aload_n hx hb dX11_law_113 rfl (lv_at hl 0 rfl) ?_
              have hFc : ∀ q, va_A (kWd cI cJ cZ cR wl ad M (kS ((F_w_take ((F_w_take (x) (24 + 2 * (((2 : Int)) * ((x).1 (0) 14)).toNat) (7 + 2 * (a).toNat)).2) (24 + 2 * ((((2 : Int)) * (((F_w_take (x) (24 + 2 * (((2 : Int)) * ((x).1 (0) 14)).toNat) (7 + 2 * (a).toNat)).2).1 (0) 14)) + ((1 : Int))).toNat) (7 + 2 * (b).toNat)).2) (0) 14 ((((F_w_take ((F_w_take (x) (24 + 2 * (((2 : Int)) * ((x).1 (0) 14)).toNat) (7 + 2 * (a).toNat)).2) (24 + 2 * ((((2 : Int)) * (((F_w_take (x) (24 + 2 * (((2 : Int)) * ((x).1 (0) 14)).toNat) (7 + 2 * (a).toNat)).2).1 (0) 14)) + ((1 : Int))).toNat) (7 + 2 * (b).toNat)).2).1 (0) 14) + ((1 : Int))))) H.size q → A q := fun q hq => Or.elim hq (fun ⟨k, e, hk⟩ => hD.2 k (q, e) hk) (fun hk => hA q (Nat.le_trans hS.1 hk))
              refine va_callv (va_runV (b := ad (0)) (As := []) (rest := []) ⟨hx, hb, hml, hown, hts⟩ (c_t_forget l dC dI ad cI cJ cZ cR M wl H.size (kS ((F_w_take ((F_w_take (x) (24 + 2 * (((2 : Int)) * ((x).1 (0) 14)).toNat) (7 + 2 * (a).toNat)).2) (24 + 2 * ((((2 : Int)) * (((F_w_take (x) (24 + 2 * (((2 : Int)) * ((x).1 (0) 14)).toNat) (7 + 2 * (a).toNat)).2).1 (0) 14)) + ((1 : Int))).toNat) (7 + 2 * (b).toNat)).2) (0) 14 ((((F_w_take ((F_w_take (x) (24 + 2 * (((2 : Int)) * ((x).1 (0) 14)).toNat) (7 + 2 * (a).toNat)).2) (24 + 2 * ((((2 : Int)) * (((F_w_take (x) (24 + 2 * (((2 : Int)) * ((x).1 (0) 14)).toNat) (7 + 2 * (a).toNat)).2).1 (0) 14)) + ((1 : Int))).toNat) (7 + 2 * (b).toNat)).2).1 (0) 14) + ((1 : Int))))   hM ) (cwV 0 hts gX11_law_X11_forget rfl rfl rfl (by decide +kernel) ⟨Nat.le_of_ble_eq_true rfl, Nat.le_of_ble_eq_true rfl⟩) ⟨fun a U g mk q => by obtain ⟨q0, q1, qP, qK, qD, qN⟩ := q; exact ⟨q0, q1, qP, va_K.moved (u := U) (U := U.calling g mk a) (Vm.Alike.refl U.vm) qK, qD, kNw.same (u := U) (U := U.calling g mk a) rfl qN⟩, va_recv hK hP (ci := 11) (q0 := 0) rfl (kg0 (by omega)), fun U hU hW => ⟨rfl, by rw [hU], by rw [hU]; exact hP, va_K.moved hW.alike hK, hD.weaken (fun _ _ _ _ => trivial), kNw.warm hW hNw⟩⟩ rfl rfl hl.1 rfl (lv_room (Nat.le_of_ble_eq_true rfl)) dX11_law_114 ⟨Nat.le_of_ble_eq_true rfl, Nat.le_of_ble_eq_true rfl⟩) hS (fun q _ h => hFc q h) hFc (fun u9 t H1 locs ht hvm hw hB hz1 hk1 hS => ?_)
              obtain ⟨hP1, hK1, hD1⟩ := hB
              rw [ht] at hP1
              rw [hw] at hP1 hD1
              have hD2 := hD1.weaken (B := A) (fun _ q _ h => hFc q.1 h)
              have hP := hP1
              have hD := hD2
              generalize H1 = H at hP hS ⊢
              refine lv_aload_n hx hb dX11_law_117 rfl (lv_at hl 0 rfl) ?_
              refine va_get (D := (dC, dI)) (ci := 11) (v := .int (iI (((F_t_forget (kS ((F_w_take ((F_w_take (x) (24 + 2 * (((2 : Int)) * ((x).1 (0) 14)).toNat) (7 + 2 * (a).toNat)).2) (24 + 2 * ((((2 : Int)) * (((F_w_take (x) (24 + 2 * (((2 : Int)) * ((x).1 (0) 14)).toNat) (7 + 2 * (a).toNat)).2).1 (0) 14)) + ((1 : Int))).toNat) (7 + 2 * (b).toNat)).2) (0) 14 ((((F_w_take ((F_w_take (x) (24 + 2 * (((2 : Int)) * ((x).1 (0) 14)).toNat) (7 + 2 * (a).toNat)).2) (24 + 2 * ((((2 : Int)) * (((F_w_take (x) (24 + 2 * (((2 : Int)) * ((x).1 (0) 14)).toNat) (7 + 2 * (a).toNat)).2).1 (0) 14)) + ((1 : Int))).toNat) (7 + 2 * (b).toNat)).2).1 (0) 14) + ((1 : Int))))).2).1 (0) 14))) (C := RX11) (T := TX11) (N := 17) hx hb hts hinX11 hown hK hP (0) (kg0 (by omega)) rfl 14 (by decide) (hts (.fieldLink RX11 110 "LikeWords" "lawsHeld" "I") (by decide +kernel)) (fun _ h9 => h9) rfl dX11_law_118 ?_
              exact W.iret (v := iI (((F_t_forget (kS ((F_w_take ((F_w_take (x) (24 + 2 * (((2 : Int)) * ((x).1 (0) 14)).toNat) (7 + 2 * (a).toNat)).2) (24 + 2 * ((((2 : Int)) * (((F_w_take (x) (24 + 2 * (((2 : Int)) * ((x).1 (0) 14)).toNat) (7 + 2 * (a).toNat)).2).1 (0) 14)) + ((1 : Int))).toNat) (7 + 2 * (b).toNat)).2) (0) 14 ((((F_w_take ((F_w_take (x) (24 + 2 * (((2 : Int)) * ((x).1 (0) 14)).toNat) (7 + 2 * (a).toNat)).2) (24 + 2 * ((((2 : Int)) * (((F_w_take (x) (24 + 2 * (((2 : Int)) * ((x).1 (0) 14)).toNat) (7 + 2 * (a).toNat)).2).1 (0) 14)) + ((1 : Int))).toNat) (7 + 2 * (b).toNat)).2).1 (0) 14) + ((1 : Int))))).2).1 (0) 14)) hx hb hr (fun t ht hW => ⟨⟨iI (((F_t_forget (kS ((F_w_take ((F_w_take (x) (24 + 2 * (((2 : Int)) * ((x).1 (0) 14)).toNat) (7 + 2 * (a).toNat)).2) (24 + 2 * ((((2 : Int)) * (((F_w_take (x) (24 + 2 * (((2 : Int)) * ((x).1 (0) 14)).toNat) (7 + 2 * (a).toNat)).2).1 (0) 14)) + ((1 : Int))).toNat) (7 + 2 * (b).toNat)).2) (0) 14 ((((F_w_take ((F_w_take (x) (24 + 2 * (((2 : Int)) * ((x).1 (0) 14)).toNat) (7 + 2 * (a).toNat)).2) (24 + 2 * ((((2 : Int)) * (((F_w_take (x) (24 + 2 * (((2 : Int)) * ((x).1 (0) 14)).toNat) (7 + 2 * (a).toNat)).2).1 (0) 14)) + ((1 : Int))).toNat) (7 + 2 * (b).toNat)).2).1 (0) 14) + ((1 : Int))))).2).1 (0) 14), (F_t_forget (kS ((F_w_take ((F_w_take (x) (24 + 2 * (((2 : Int)) * ((x).1 (0) 14)).toNat) (7 + 2 * (a).toNat)).2) (24 + 2 * ((((2 : Int)) * (((F_w_take (x) (24 + 2 * (((2 : Int)) * ((x).1 (0) 14)).toNat) (7 + 2 * (a).toNat)).2).1 (0) 14)) + ((1 : Int))).toNat) (7 + 2 * (b).toNat)).2) (0) 14 ((((F_w_take ((F_w_take (x) (24 + 2 * (((2 : Int)) * ((x).1 (0) 14)).toNat) (7 + 2 * (a).toNat)).2) (24 + 2 * ((((2 : Int)) * (((F_w_take (x) (24 + 2 * (((2 : Int)) * ((x).1 (0) 14)).toNat) (7 + 2 * (a).toNat)).2).1 (0) 14)) + ((1 : Int))).toNat) (7 + 2 * (b).toNat)).2).1 (0) 14) + ((1 : Int))))).2, rfl, ⟨(by have h9 := congrArg (fun z : Int × KS => iI z.1) hres; exact h9), (by have h9 := congrArg (fun z : Int × KS => z.2) hres; exact h9)⟩, by rw [ht]; exact hP, va_K.moved hW.alike hK, hD⟩, hS.F ht⟩) hS.2.2 dX11_law_121
            · skip
              rw [if_neg c_55] at hres
              refine lv_bipush (v := iI (-4 : Int)) hx hb dX11_law_58 (by decide) ?_
              exact W.iret (v := iI ((-4 : Int))) hx hb hr (fun t ht hW => ⟨⟨iI ((-4 : Int)), x, rfl, ⟨(by have h9 := congrArg (fun z : Int × KS => iI z.1) hres; exact h9), (by have h9 := congrArg (fun z : Int × KS => z.2) hres; exact h9)⟩, by rw [ht]; exact hP, va_K.moved hW.alike hK, hD⟩, hS.F ht⟩) hS.2.2 dX11_law_60
          · skip
            rw [if_neg c_43] at hres
            refine lv_bipush (v := iI (-3 : Int)) hx hb dX11_law_46 (by decide) ?_
            exact W.iret (v := iI ((-3 : Int))) hx hb hr (fun t ht hW => ⟨⟨iI ((-3 : Int)), x, rfl, ⟨(by have h9 := congrArg (fun z : Int × KS => iI z.1) hres; exact h9), (by have h9 := congrArg (fun z : Int × KS => z.2) hres; exact h9)⟩, by rw [ht]; exact hP, va_K.moved hW.alike hK, hD⟩, hS.F ht⟩) hS.2.2 dX11_law_48
      · skip
        rw [if_pos c_13] at hres
        refine lv_iconst (v := iI (-1 : Int)) hx hb dX11_law_16 (by decide) ?_
        exact W.iret (v := iI ((-1 : Int))) hx hb hr (fun t ht hW => ⟨⟨iI ((-1 : Int)), x, rfl, ⟨(by have h9 := congrArg (fun z : Int × KS => iI z.1) hres; exact h9), (by have h9 := congrArg (fun z : Int × KS => z.2) hres; exact h9)⟩, by rw [ht]; exact hP, va_K.moved hW.alike hK, hD⟩, hS.F ht⟩) hS.2.2 dX11_law_17
  exact key _ _ hP hS
theorem F_t_law_fr (x : KS) (a : Int) (b : Int) : ksame [(24 + 2 * (((2 : Int)) * ((x).1 (0) 14)).toNat, 1), (24 + 2 * ((((2 : Int)) * (((F_w_take (x) (24 + 2 * (((2 : Int)) * ((x).1 (0) 14)).toNat) (7 + 2 * (a).toNat)).2).1 (0) 14)) + ((1 : Int))).toNat, 1), (0, 14), (0, 15), (0, 16)] [(24 + 2 * (((2 : Int)) * ((x).1 (0) 14)).toNat) + 1, (24 + 2 * ((((2 : Int)) * (((F_w_take (x) (24 + 2 * (((2 : Int)) * ((x).1 (0) 14)).toNat) (7 + 2 * (a).toNat)).2).1 (0) 14)) + ((1 : Int))).toNat) + 1] x (F_t_law x a b).2 := by
  unfold F_t_law
  by_cases hc : ((F_t_isSlot (x) (a)).1) = (0)
  · rw [if_pos hc]
    exact (km_rf _ _ _)
  · rw [if_neg hc]
    by_cases hc : ((F_t_isSlot (x) (b)).1) = (0)
    · rw [if_pos hc]
      exact (km_rf _ _ _)
    · rw [if_neg hc]
      by_cases hc : ((12 : Int)) < ((x).1 (7 + 2 * (a).toNat) 1)
      · rw [if_pos hc]
        exact (km_rf _ _ _)
      · rw [if_neg hc]
        by_cases hc : ((x).1 (7 + 2 * (b).toNat) 1) ≤ ((12 : Int))
        · rw [if_pos hc]
          by_cases hc : ((x).1 (0) 14) < ((8 : Int))
          · rw [if_pos hc]
            exact (km_tr (km_s (List.Mem.tail _ (List.Mem.tail _ (List.Mem.head _))) (km_tr (km_tr (km_rf _ _ _) (km_mono (km1 (List.Mem.head _) km0) (km1 (List.Mem.head _) km0) (F_w_take_fr (x) (24 + 2 * (((2 : Int)) * ((x).1 (0) 14)).toNat) (7 + 2 * (a).toNat)))) (km_mono (km1 (List.Mem.tail _ (List.Mem.head _)) km0) (km1 (List.Mem.tail _ (List.Mem.head _)) km0) (F_w_take_fr ((F_w_take (x) (24 + 2 * (((2 : Int)) * ((x).1 (0) 14)).toNat) (7 + 2 * (a).toNat)).2) (24 + 2 * ((((2 : Int)) * (((F_w_take (x) (24 + 2 * (((2 : Int)) * ((x).1 (0) 14)).toNat) (7 + 2 * (a).toNat)).2).1 (0) 14)) + ((1 : Int))).toNat) (7 + 2 * (b).toNat))))) (km_mono (km1 (List.Mem.tail _ (List.Mem.tail _ (List.Mem.tail _ (List.Mem.head _)))) (km1 (List.Mem.tail _ (List.Mem.tail _ (List.Mem.tail _ (List.Mem.tail _ (List.Mem.head _))))) km0)) km0 (F_t_forget_fr (kS ((F_w_take ((F_w_take (x) (24 + 2 * (((2 : Int)) * ((x).1 (0) 14)).toNat) (7 + 2 * (a).toNat)).2) (24 + 2 * ((((2 : Int)) * (((F_w_take (x) (24 + 2 * (((2 : Int)) * ((x).1 (0) 14)).toNat) (7 + 2 * (a).toNat)).2).1 (0) 14)) + ((1 : Int))).toNat) (7 + 2 * (b).toNat)).2) (0) 14 ((((F_w_take ((F_w_take (x) (24 + 2 * (((2 : Int)) * ((x).1 (0) 14)).toNat) (7 + 2 * (a).toNat)).2) (24 + 2 * ((((2 : Int)) * (((F_w_take (x) (24 + 2 * (((2 : Int)) * ((x).1 (0) 14)).toNat) (7 + 2 * (a).toNat)).2).1 (0) 14)) + ((1 : Int))).toNat) (7 + 2 * (b).toNat)).2).1 (0) 14) + ((1 : Int)))))))
          · rw [if_neg hc]
            exact (km_rf _ _ _)
        · rw [if_neg hc]
          exact (km_rf _ _ _)
