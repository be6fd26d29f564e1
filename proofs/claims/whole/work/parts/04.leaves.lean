def F_m_in (x : MS) (v : Int) (a : Int) (b : Int) : Int × MS := (if (iC (v) (a)) < (0) then ((0 : Int), x) else (if (0) < (iC (v) (b)) then ((0 : Int), x) else ((1 : Int), x)))
set_option maxHeartbeats 4000000 in
set_option maxRecDepth 100000 in
/-- in -/
theorem c_m_in (l : Launch) (dC : Nat → ClassId) (dI : Nat → Nat → Nat) (h : Nat) (ad : Nat → Nat) (cI cJ cZ : ClassId) (sz : Nat) (x : MS) (v : Int) (a : Int) (b : Int) (rv : iRL v) (ra : iRL a) (rb : iRL b) : Met l yX12_in wsX12_in ({ frames := 0, cells := 0, slots := 0, locals := 0 }) (mPc dC dI h ad cI cJ cZ sz x [.long (iL v), .long (iL a), .long (iL b)]) (va_Qi (fun (r : Int32) (u : MS) => r = iI (F_m_in (x) (v) (a) (b)).1 ∧ u = (F_m_in (x) (v) (a) (b)).2) (mAt dC dI h ad cI cJ cZ (va_A (mW h ad cI cJ cZ (x)) sz)) (va_A (mW h ad cI cJ cZ (x)) sz)) 0 0 (va_A (mW h ad cI cJ cZ (x)) sz) := by
  refine Met.ofW (cc := cX12_in) (maxL := 6) (ret := (some .boolean)) (by decide) rfl ?_
  intro p e s m args below meth c s₁ B hml hv
  obtain ⟨rfl, hsz, hP, hK, hD0⟩ := hv
  have hx := B.exec
  have hb := B.bytes
  have hr := B.returns
  have hts := atoms_spec (ws := wsX12_in) B.pre
  have hown : s.vm.findClass RX12 = some m.cls := findClass_of_methodNamed B.named
  have hlocks := B.notSynchronized
  subst hsz
  have hD := hD0.self (sz := s.heap.size)
  generalize hAe : va_A (mW h ad cI cJ cZ (x)) s.heap.size = A at hD ⊢
  have hA : ∀ q : Nat, s.heap.size ≤ q → A q := fun q h => by rw [← hAe]; exact Or.inr h
  have hS : va_S A s.heap s.heap [] := va_S.rf
  have hl := lv_entry ([.long (iL v), .long (iL a), .long (iL b)]) (n := 6) (Nat.le_of_ble_eq_true rfl)
  rw [lg_entry_eq]
  generalize (lg_sl ([.long (iL v), .long (iL a), .long (iL b)]) ++ List.replicate (6 - (lg_sl ([.long (iL v), .long (iL a), .long (iL b)])).length) Slot.unset).toArray = ls at hl ⊢
  have hl : lv_has ls 6 [(0, .long (iL (v))), (2, .long (iL (a))), (4, .long (iL (b)))] := hl
  have key : ∀ (H : Heap) (locs : List Loc), va_P (dC, dI) vwCl (mW h ad cI cJ cZ (x)) H → va_S A s.heap H locs → W p l e (headSpec wsX12_in ({ frames := 0, cells := 0, slots := 0, locals := 0 })).room s m ([.long (iL v), .long (iL a), .long (iL b)] : List Value).toArray below meth c H locs 0 0 (MQ below (va_Qi (fun (r : Int32) (u : MS) => r = iI (F_m_in (x) (v) (a) (b)).1 ∧ u = (F_m_in (x) (v) (a) (b)).2) (mAt dC dI h ad cI cJ cZ A) A) ([.long (iL v), .long (iL a), .long (iL b)] : List Value).toArray s 0 0 A) (F0 m 0 ls []) := by
    intro H locs hP hS
    have hres : (if (iC (v) (a)) < (0) then ((0 : Int), x) else (if (0) < (iC (v) (b)) then ((0 : Int), x) else ((1 : Int), x))) = F_m_in (x) (v) (a) (b) := rfl
    refine lv_lload_n hx hb dX12_in_0 rfl (lv_at hl 0 rfl) ?_
    refine lv_lload_n hx hb dX12_in_1 rfl (lv_at hl 1 rfl) ?_
    refine wi_lcmp hx hb (by first | assumption | exact iR_L (by assumption) | (unfold iRL; omega)) (by first | assumption | exact iR_L (by assumption) | (unfold iRL; omega)) dX12_in_2 ?_
    refine wi_if_lt (tgt := 17) hx hb iC_R dX12_in_3 (by decide) (fun c_3 => ?_) (fun c_3 => ?_)
    · skip
      rw [if_pos c_3] at hres
      refine lv_iconst (v := iI (0 : Int)) hx hb dX12_in_17 (by decide) ?_
      exact W.zret (v := iI ((0 : Int))) hx hb hr (by rfl) (fun t ht hW => ⟨⟨iI ((0 : Int)), x, rfl, ⟨(by have h9 := congrArg (fun z : Int × MS => iI z.1) hres; exact h9), (by have h9 := congrArg (fun z : Int × MS => z.2) hres; exact h9)⟩, by rw [ht]; exact hP, va_K.moved hW.alike hK, hD⟩, hS.F ht⟩) hS.2.2 dX12_in_18
    · skip
      rw [if_neg c_3] at hres
      refine lv_lload_n hx hb dX12_in_6 rfl (lv_at hl 0 rfl) ?_
      refine lv_lload hx hb dX12_in_7 (lv_at hl 2 rfl) ?_
      refine wi_lcmp hx hb (by first | assumption | exact iR_L (by assumption) | (unfold iRL; omega)) (by first | assumption | exact iR_L (by assumption) | (unfold iRL; omega)) dX12_in_9 ?_
      refine wi_if_gt (tgt := 17) hx hb iC_R dX12_in_10 (by decide) (fun c_10 => ?_) (fun c_10 => ?_)
      · skip
        rw [if_pos c_10] at hres
        refine lv_iconst (v := iI (0 : Int)) hx hb dX12_in_17 (by decide) ?_
        exact W.zret (v := iI ((0 : Int))) hx hb hr (by rfl) (fun t ht hW => ⟨⟨iI ((0 : Int)), x, rfl, ⟨(by have h9 := congrArg (fun z : Int × MS => iI z.1) hres; exact h9), (by have h9 := congrArg (fun z : Int × MS => z.2) hres; exact h9)⟩, by rw [ht]; exact hP, va_K.moved hW.alike hK, hD⟩, hS.F ht⟩) hS.2.2 dX12_in_18
      · skip
        rw [if_neg c_10] at hres
        refine lv_iconst (v := iI (1 : Int)) hx hb dX12_in_13 (by decide) ?_
        refine lv_goto (tgt := 18) hx hb dX12_in_14 (by decide) ?_
        exact W.zret (v := iI ((1 : Int))) hx hb hr (by rfl) (fun t ht hW => ⟨⟨iI ((1 : Int)), x, rfl, ⟨(by have h9 := congrArg (fun z : Int × MS => iI z.1) hres; exact h9), (by have h9 := congrArg (fun z : Int × MS => z.2) hres; exact h9)⟩, by rw [ht]; exact hP, va_K.moved hW.alike hK, hD⟩, hS.F ht⟩) hS.2.2 dX12_in_18
  exact key _ _ hP hS
theorem F_m_in_fr (x : MS) (v : Int) (a : Int) (b : Int) : same [] [] x (F_m_in (x) (v) (a) (b)).2 := by
  unfold F_m_in
  by_cases hc : (iC (v) (a)) < (0)
  · rw [if_pos hc]
    exact (sm_rf _ _ _)
  · rw [if_neg hc]
    by_cases hc : (0) < (iC (v) (b))
    · rw [if_pos hc]
      exact (sm_rf _ _ _)
    · rw [if_neg hc]
      exact (sm_rf _ _ _)
theorem F_m_in_2 (x : MS) (v a b : Int) : (F_m_in x v a b).2 = x := by unfold F_m_in; split <;> (try split) <;> rfl
theorem F_m_in_1 (x : MS) (v a b : Int) : (F_m_in x v a b).1 = F_in v a b := by
  unfold F_m_in F_in
  simp only [iC_lt, iC_gt]
  split
  · rw [if_neg (by omega)]
  · split
    · rw [if_neg (by omega)]
    · rw [if_pos (by omega)]
def F_m_isSlot (x : MS) (k : Int) : Int × MS := ((F_m_in (x) (k) ((0 : Int)) ((7 : Int))).1, x)
set_option maxHeartbeats 4000000 in
set_option maxRecDepth 100000 in
/-- isSlot -/
theorem c_m_isSlot (l : Launch) (dC : Nat → ClassId) (dI : Nat → Nat → Nat) (h : Nat) (ad : Nat → Nat) (cI cJ cZ : ClassId) (sz : Nat) (x : MS) (k : Int) (rk : iR k) : Met l yX12_isSlot wsX12_isSlot ({ frames := 1, cells := 0, slots := 0, locals := 25 }) (mPc dC dI h ad cI cJ cZ sz x [.int (iI k)]) (va_Qi (fun (r : Int32) (u : MS) => r = iI (F_m_isSlot (x) (k)).1 ∧ u = (F_m_isSlot (x) (k)).2) (mAt dC dI h ad cI cJ cZ (va_A (mW h ad cI cJ cZ (x)) sz)) (va_A (mW h ad cI cJ cZ (x)) sz)) 0 0 (va_A (mW h ad cI cJ cZ (x)) sz) := by
  refine Met.ofW (cc := cX12_isSlot) (maxL := 1) (ret := (some .boolean)) (by decide) rfl ?_
  intro p e s m args below meth c s₁ B hml hv
  obtain ⟨rfl, hsz, hP, hK, hD0⟩ := hv
  have hx := B.exec
  have hb := B.bytes
  have hr := B.returns
  have hts := atoms_spec (ws := wsX12_isSlot) B.pre
  have hown : s.vm.findClass RX12 = some m.cls := findClass_of_methodNamed B.named
  have hlocks := B.notSynchronized
  subst hsz
  have hD := hD0.self (sz := s.heap.size)
  generalize hAe : va_A (mW h ad cI cJ cZ (x)) s.heap.size = A at hD ⊢
  have hA : ∀ q : Nat, s.heap.size ≤ q → A q := fun q h => by rw [← hAe]; exact Or.inr h
  have hS : va_S A s.heap s.heap [] := va_S.rf
  have hl := lv_entry ([.int (iI k)]) (n := 1) (Nat.le_of_ble_eq_true rfl)
  rw [lg_entry_eq]
  generalize (lg_sl ([.int (iI k)]) ++ List.replicate (1 - (lg_sl ([.int (iI k)])).length) Slot.unset).toArray = ls at hl ⊢
  have hl : lv_has ls 1 [(0, .int (iI (k)))] := hl
  have key : ∀ (H : Heap) (locs : List Loc), va_P (dC, dI) vwCl (mW h ad cI cJ cZ (x)) H → va_S A s.heap H locs → W p l e (headSpec wsX12_isSlot ({ frames := 1, cells := 0, slots := 0, locals := 25 })).room s m ([.int (iI k)] : List Value).toArray below meth c H locs 0 0 (MQ below (va_Qi (fun (r : Int32) (u : MS) => r = iI (F_m_isSlot (x) (k)).1 ∧ u = (F_m_isSlot (x) (k)).2) (mAt dC dI h ad cI cJ cZ A) A) ([.int (iI k)] : List Value).toArray s 0 0 A) (F0 m 0 ls []) := by
    intro H locs hP hS
    have hres : ((F_m_in (x) (k) ((0 : Int)) ((7 : Int))).1, x) = F_m_isSlot (x) (k) := rfl
    refine lv_iload_n hx hb dX12_isSlot_0 rfl (lv_at hl 0 rfl) ?_
    refine wi_i2l hx hb (by first | assumption | (unfold iR; omega) | exact F_R01 (by assumption)) dX12_isSlot_1 ?_
    refine lv_lconst (v := iL 0) hx hb dX12_isSlot_2 (by decide) ?_
    refine lv_ldc2 (v := iL (7 : Int)) hx hb hown (hts (.constantLong RX12 91 (7)) (by decide +kernel)) dX12_isSlot_3 ?_
    have hFc : ∀ q, va_A (mW h ad cI cJ cZ (x)) H.size q → A q := fun q hq => Or.elim hq (fun ⟨k, e, hk⟩ => hD.2 k (q, e) hk) (fun hk => hA q (Nat.le_trans hS.1 hk))
    refine va_calli (va_runS (As := [.long (iL (k)), .long (iL ((0 : Int))), .long (iL ((7 : Int)))]) (rest := []) ⟨hx, hb, hml, hown, hts⟩ (c_m_in l dC dI h ad cI cJ cZ H.size (x) (k) ((0 : Int)) ((7 : Int)) (by first | assumption | exact iR_L (by assumption) | exact ⟨by decide, by decide⟩ | omega | (unfold iR; omega) | (unfold iRL; omega)) (by first | assumption | exact iR_L (by assumption) | exact ⟨by decide, by decide⟩ | omega | (unfold iR; omega) | (unfold iRL; omega)) (by first | assumption | exact iR_L (by assumption) | exact ⟨by decide, by decide⟩ | omega | (unfold iR; omega) | (unfold iRL; omega))) (va_cwS 3 hts gX12_isSlot_X12_in rfl rfl rfl (by decide +kernel) ⟨Nat.le_of_ble_eq_true rfl, Nat.le_of_ble_eq_true rfl⟩) ⟨fun a U g mk q => by obtain ⟨q0, q1, qP, qK, qD⟩ := q; exact ⟨q0, q1, qP, va_K.moved (u := U) (U := U.calling g mk a) (Vm.Alike.refl U.vm) qK, qD⟩, fun U hU hW => ⟨rfl, by rw [hU], by rw [hU]; exact hP, va_K.moved hW.alike hK, hD.weaken (fun _ _ _ _ => trivial)⟩⟩ rfl rfl hl.1 rfl (lv_room (Nat.le_of_ble_eq_true rfl)) dX12_isSlot_6 ⟨Nat.le_of_ble_eq_true rfl, Nat.le_of_ble_eq_true rfl⟩) hS (fun q _ h => hFc q h) hFc (fun r9 u9 t H1 locs ht hvm hw hB hz1 hk1 hS => ?_)
    obtain ⟨hP1, hK1, hD1⟩ := hB
    rw [ht] at hP1
    obtain ⟨hw1, hw2⟩ := hw
    rw [hw2] at hP1 hD1
    rw [hw1]
    rw [F_m_in_2] at hP1 hD1
    have hD2 := hD1.weaken (B := A) (fun _ q _ h => hFc q.1 h)
    have hP := hP1
    have hD := hD2
    generalize H1 = H at hP hS ⊢
    exact W.zret (v := iI ((F_m_in (x) (k) ((0 : Int)) ((7 : Int))).1)) hx hb hr (by rw [F_m_in_1]; exact F_z _ (F_in_01 _ _ _)) (fun t ht hW => ⟨⟨iI ((F_m_in (x) (k) ((0 : Int)) ((7 : Int))).1), x, rfl, ⟨(by have h9 := congrArg (fun z : Int × MS => iI z.1) hres; exact h9), (by have h9 := congrArg (fun z : Int × MS => z.2) hres; exact h9)⟩, by rw [ht]; exact hP, va_K.moved hW.alike hK, hD⟩, hS.F ht⟩) hS.2.2 dX12_isSlot_9
  exact key _ _ hP hS
theorem F_m_isSlot_fr (x : MS) (k : Int) : same [] [] x (F_m_isSlot (x) (k)).2 := by
  unfold F_m_isSlot
  exact (sm_rf _ _ _)
theorem F_m_isSlot_2 (x : MS) (k : Int) : (F_m_isSlot x k).2 = x := rfl
theorem F_m_isSlot_1 (x : MS) (k : Int) : (F_m_isSlot x k).1 = F_in k 0 7 := F_m_in_1 x k 0 7
def F_m_copy_s : Nat → Nat → MS → Int → Int → Int → Int × MS
  | 0, _, x, _, _, _ => (0, x)
  | n + 1, t, x, p0, p1, p2 => match t with
    | 0 => (fun (a : Int) (b : Int) (i : Int) => (if (((x).2 1) (a).toNat) ≤ (i) then (0, x) else F_m_copy_s n 0 (aU (x) 2 ((((128 : Int)) * (b)) + (i)).toNat (((x).2 2) ((((128 : Int)) * (a)) + (i)).toNat)) (a) (b) ((i) + (1 : Int)))) p0 p1 p2
    | _ => (0, x)
theorem F_m_copy_e0 (n : Nat) (x : MS) (a : Int) (b : Int) (i : Int) : F_m_copy_s (n + 1) 0 x a b i = (if (((x).2 1) (a).toNat) ≤ (i) then (0, x) else F_m_copy_s n 0 (aU (x) 2 ((((128 : Int)) * (b)) + (i)).toNat (((x).2 2) ((((128 : Int)) * (a)) + (i)).toNat)) (a) (b) ((i) + (1 : Int))) := rfl
def F_m_copy (x : MS) (a : Int) (b : Int) : Int × MS := F_m_copy_s 200 0 (aU (x) 1 (b).toNat (((x).2 1) (a).toNat)) (a) (b) ((0 : Int))
set_option maxHeartbeats 4000000 in
set_option maxRecDepth 100000 in
/-- copy -/
theorem c_m_copy (l : Launch) (dC : Nat → ClassId) (dI : Nat → Nat → Nat) (h : Nat) (ad : Nat → Nat) (cI cJ cZ : ClassId) (sz : Nat) (x : MS) (a : Int) (b : Int) (a0 : 0 ≤ a) (a1 : a < 13) (b0 : 0 ≤ b) (b1 : b < 13) (s0 : 0 ≤ x.2 1 a.toNat) (s1 : x.2 1 a.toNat ≤ 128) : Met l yX12_copy wsX12_copy ({ frames := 0, cells := 0, slots := 0, locals := 0 }) (mPc dC dI h ad cI cJ cZ sz x [.ref h, .int (iI a), .int (iI b)]) (va_Qv (fun u : MS => u = (F_m_copy (x) (a) (b)).2) (mAt dC dI h ad cI cJ cZ (va_A (mW h ad cI cJ cZ (x)) sz)) (va_A (mW h ad cI cJ cZ (x)) sz)) 0 0 (va_A (mW h ad cI cJ cZ (x)) sz) := by
  refine Met.ofW (cc := cX12_copy) (maxL := 4) (ret := none) (by decide) rfl ?_
  intro p e s m args below meth c s₁ B hml hv
  obtain ⟨rfl, hsz, hP, hK, hD0⟩ := hv
  have hx := B.exec
  have hb := B.bytes
  have hr := B.returns
  have hts := atoms_spec (ws := wsX12_copy) B.pre
  have hown : s.vm.findClass RX12 = some m.cls := findClass_of_methodNamed B.named
  have hlocks := B.notSynchronized
  have hin : ∀ w ∈ u_ws RX12 TX12 34, w ∈ wsX12_copy := by decide +kernel
  subst hsz
  have hD := hD0.self (sz := s.heap.size)
  generalize hAe : va_A (mW h ad cI cJ cZ (x)) s.heap.size = A at hD ⊢
  have hA : ∀ q : Nat, s.heap.size ≤ q → A q := fun q h => by rw [← hAe]; exact Or.inr h
  have hS : va_S A s.heap s.heap [] := va_S.rf
  have hl := lv_entry ([.ref h, .int (iI a), .int (iI b)]) (n := 4) (Nat.le_of_ble_eq_true rfl)
  rw [lg_entry_eq]
  generalize (lg_sl ([.ref h, .int (iI a), .int (iI b)]) ++ List.replicate (4 - (lg_sl ([.ref h, .int (iI a), .int (iI b)])).length) Slot.unset).toArray = ls at hl ⊢
  have hl : lv_has ls 4 [(0, .ref (h)), (1, .int (iI (a))), (2, .int (iI (b)))] := hl
  have L : ∀ n : Nat, (∀ (y : MS) (i : Int), (0 ≤ i) → (i ≤ y.2 1 a.toNat) → (y.2 1 a.toNat ≤ 128) → (y.2 1 a.toNat - i < n) → F_m_copy_s n 0 y a b i = F_m_copy (x) (a) (b) → ∀ (H : Heap) (locs : List Loc) (ls : Array Slot), va_P (dC, dI) vwCl (mW h ad cI cJ cZ (y)) H → va_D A (mW h ad cI cJ cZ (y)) → va_S A s.heap H locs → lv_has ls 4 [(0, .ref (h)), (1, .int (iI (a))), (2, .int (iI (b))), (3, .int (iI (i)))] → W p l e (headSpec wsX12_copy ({ frames := 0, cells := 0, slots := 0, locals := 0 })).room s m ([.ref h, .int (iI a), .int (iI b)] : List Value).toArray below meth c H locs 0 0 (MQ below (va_Qv (fun u : MS => u = (F_m_copy (x) (a) (b)).2) (mAt dC dI h ad cI cJ cZ A) A) ([.ref h, .int (iI a), .int (iI b)] : List Value).toArray s 0 0 A) (F0 m 14 ls [])) := by
    intro n
    induction n with
    | zero =>
      skip
      · intro y i i0 is s1y fu hres
        exact absurd fu (by omega)
    | succ n ih =>
      skip
      · intro y i i0 is s1y fu hres H locs ls hP hD hS hl
        rw [F_m_copy_e0] at hres
        refine lv_iload_n hx hb dX12_copy_14 rfl (lv_at hl 3 rfl) ?_
        refine lv_aload_n hx hb dX12_copy_15 rfl (lv_at hl 0 rfl) ?_
        refine va_get (D := (dC, dI)) (ci := 12) (v := .ref (ad 1)) (C := RX12) (T := TX12) (N := 34) hx hb hts hin hown hK hP 0 rfl rfl 1 (by decide) (hts (.fieldLink RX12 13 "LikeWordsModel" "size" "[I") (by decide +kernel)) (fun _ h9 => h9) rfl dX12_copy_16 ?_
        refine lv_iload_n hx hb dX12_copy_19 rfl (lv_at hl 1 rfl) ?_
        refine wi_iald (f := (y).2 1) hx hb hK hP 1 0 rfl rfl (i := a) (by omega) (by omega) (by decide) dX12_copy_20 ?_
        refine wi_icmp_ge (tgt := 54) hx hb (by first | assumption | (unfold iR; omega) | exact F_R01 (by assumption)) (by first | assumption | (unfold iR; omega) | exact F_R01 (by assumption)) dX12_copy_21 (by decide) (fun c_21 => ?_) (fun c_21 => ?_)
        · skip
          rw [if_pos c_21] at hres
          exact W.vret hx hb hr (fun t ht hW => ⟨⟨y, rfl, (by have h9 := congrArg (fun z : Int × MS => z.2) hres; exact h9), by rw [ht]; exact hP, va_K.moved hW.alike hK, hD⟩, hS.F ht⟩) hS.2.2 dX12_copy_54
        · skip
          rw [if_neg c_21] at hres
          refine lv_aload_n hx hb dX12_copy_24 rfl (lv_at hl 0 rfl) ?_
          refine va_get (D := (dC, dI)) (ci := 12) (v := .ref (ad 2)) (C := RX12) (T := TX12) (N := 34) hx hb hts hin hown hK hP 0 rfl rfl 2 (by decide) (hts (.fieldLink RX12 17 "LikeWordsModel" "row" "[I") (by decide +kernel)) (fun _ h9 => h9) rfl dX12_copy_25 ?_
          refine lv_sipush (v := iI (128 : Int)) hx hb dX12_copy_28 (by decide) ?_
          refine lv_iload_n hx hb dX12_copy_31 rfl (lv_at hl 2 rfl) ?_
          refine wi_imul hx hb dX12_copy_32 ?_
          refine lv_iload_n hx hb dX12_copy_33 rfl (lv_at hl 3 rfl) ?_
          refine wi_iadd hx hb dX12_copy_34 ?_
          refine lv_aload_n hx hb dX12_copy_35 rfl (lv_at hl 0 rfl) ?_
          refine va_get (D := (dC, dI)) (ci := 12) (v := .ref (ad 2)) (C := RX12) (T := TX12) (N := 34) hx hb hts hin hown hK hP 0 rfl rfl 2 (by decide) (hts (.fieldLink RX12 17 "LikeWordsModel" "row" "[I") (by decide +kernel)) (fun _ h9 => h9) rfl dX12_copy_36 ?_
          refine lv_sipush (v := iI (128 : Int)) hx hb dX12_copy_39 (by decide) ?_
          refine lv_iload_n hx hb dX12_copy_42 rfl (lv_at hl 1 rfl) ?_
          refine wi_imul hx hb dX12_copy_43 ?_
          refine lv_iload_n hx hb dX12_copy_44 rfl (lv_at hl 3 rfl) ?_
          refine wi_iadd hx hb dX12_copy_45 ?_
          refine wi_iald (f := (y).2 2) hx hb hK hP 2 0 rfl rfl (i := (((128 : Int)) * (a)) + (i)) (by omega) (by omega) (by decide) dX12_copy_46 ?_
          refine wi_iast (f := (y).2 2) hx hb hK hP hD hS 2 0 rfl rfl (i := (((128 : Int)) * (b)) + (i)) (x := ((y).2 2) ((((128 : Int)) * (a)) + (i)).toNat) (by omega) (by omega) (by decide) dX12_copy_47 (fun H locs hP hD hS => ?_)
          rw [mW_a2] at hP hD
          refine lv_iinc (v := iI ((i) + (1 : Int))) (lv' := [(3, .int (iI ((i) + (1 : Int)))), (0, .ref (h)), (1, .int (iI (a))), (2, .int (iI (b)))]) hx hb dX12_copy_48 hl (k := 3) rfl (iI_add _ _) (by decide) rfl (fun ls hl => ?_)
          refine lv_goto (tgt := 14) hx hb dX12_copy_51 (by decide) ?_
          exact ih (aU (y) 2 ((((128 : Int)) * (b)) + (i)).toNat (((y).2 2) ((((128 : Int)) * (a)) + (i)).toNat)) ((i) + (1 : Int)) (by omega) (by show _ ≤ y.2 1 a.toNat; omega) (s1y) (by show y.2 1 a.toNat - (i + 1) < n; omega) hres _ _ ls hP hD hS (lv_sub hl [1, 2, 3, 0] rfl)
  have key : ∀ (H : Heap) (locs : List Loc), va_P (dC, dI) vwCl (mW h ad cI cJ cZ (x)) H → va_S A s.heap H locs → W p l e (headSpec wsX12_copy ({ frames := 0, cells := 0, slots := 0, locals := 0 })).room s m ([.ref h, .int (iI a), .int (iI b)] : List Value).toArray below meth c H locs 0 0 (MQ below (va_Qv (fun u : MS => u = (F_m_copy (x) (a) (b)).2) (mAt dC dI h ad cI cJ cZ A) A) ([.ref h, .int (iI a), .int (iI b)] : List Value).toArray s 0 0 A) (F0 m 0 ls []) := by
    intro H locs hP hS
    have hres : F_m_copy_s 200 0 (aU (x) 1 (b).toNat (((x).2 1) (a).toNat)) (a) (b) ((0 : Int)) = F_m_copy (x) (a) (b) := rfl
    refine lv_aload_n hx hb dX12_copy_0 rfl (lv_at hl 0 rfl) ?_
    refine va_get (D := (dC, dI)) (ci := 12) (v := .ref (ad 1)) (C := RX12) (T := TX12) (N := 34) hx hb hts hin hown hK hP 0 rfl rfl 1 (by decide) (hts (.fieldLink RX12 13 "LikeWordsModel" "size" "[I") (by decide +kernel)) (fun _ h9 => h9) rfl dX12_copy_1 ?_
    refine lv_iload_n hx hb dX12_copy_4 rfl (lv_at hl 2 rfl) ?_
    refine lv_aload_n hx hb dX12_copy_5 rfl (lv_at hl 0 rfl) ?_
    refine va_get (D := (dC, dI)) (ci := 12) (v := .ref (ad 1)) (C := RX12) (T := TX12) (N := 34) hx hb hts hin hown hK hP 0 rfl rfl 1 (by decide) (hts (.fieldLink RX12 13 "LikeWordsModel" "size" "[I") (by decide +kernel)) (fun _ h9 => h9) rfl dX12_copy_6 ?_
    refine lv_iload_n hx hb dX12_copy_9 rfl (lv_at hl 1 rfl) ?_
    refine wi_iald (f := (x).2 1) hx hb hK hP 1 0 rfl rfl (i := a) (by omega) (by omega) (by decide) dX12_copy_10 ?_
    refine wi_iast (f := (x).2 1) hx hb hK hP hD hS 1 0 rfl rfl (i := b) (x := ((x).2 1) (a).toNat) (by omega) (by omega) (by decide) dX12_copy_11 (fun H locs hP hD hS => ?_)
    rw [mW_a1] at hP hD
    refine lv_iconst (v := iI (0 : Int)) hx hb dX12_copy_12 (by decide) ?_
    refine lv_istore_n (lv' := [(3, .int (iI ((0 : Int)))), (0, .ref (h)), (1, .int (iI (a))), (2, .int (iI (b)))]) hx hb dX12_copy_13 rfl hl (by decide) rfl (fun ls hl => ?_)
    exact (L (200)) (aU (x) 1 (b).toNat (((x).2 1) (a).toNat)) ((0 : Int)) (by omega) (by show _ ≤ iU (x.2 1) b.toNat (x.2 1 a.toNat) a.toNat; unfold iU; split <;> omega) (by show iU (x.2 1) b.toNat (x.2 1 a.toNat) a.toNat ≤ _; unfold iU; split <;> omega) (by show iU (x.2 1) b.toNat (x.2 1 a.toNat) a.toNat - _ < _; unfold iU; split <;> omega) hres _ _ ls hP hD hS (lv_sub hl [1, 2, 3, 0] rfl)
  exact key _ _ hP hS
theorem F_m_copy_sfr : ∀ n : Nat, (∀ (y : MS) (v0 : Int) (v1 : Int) (v2 : Int), same [] [1, 2] y (F_m_copy_s n 0 y v0 v1 v2).2) := by
  intro n
  induction n with
  | zero => exact fun y _ _ _ => sm_rf _ _ _
  | succ n ih =>
    skip
    · intro y a b i
      rw [F_m_copy_e0]
      by_cases hc : (((y).2 1) (a).toNat) ≤ (i)
      · rw [if_pos hc]
        exact (sm_rf _ _ _)
      · rw [if_neg hc]
        exact sm_tr ((sm_a (by decide) (sm_rf _ _ _))) (ih (aU (y) 2 ((((128 : Int)) * (b)) + (i)).toNat (((y).2 2) ((((128 : Int)) * (a)) + (i)).toNat)) (a) (b) ((i) + (1 : Int)))
theorem F_m_copy_fr (x : MS) (a : Int) (b : Int) : same [] [1, 2] x (F_m_copy (x) (a) (b)).2 := by
  unfold F_m_copy
  exact sm_tr ((sm_a (by decide) (sm_rf _ _ _))) ((F_m_copy_sfr 200) (aU (x) 1 (b).toNat (((x).2 1) (a).toNat)) (a) (b) ((0 : Int)))
def F_m_append_s : Nat → Nat → MS → Int → Int → Int → Int × MS
  | 0, _, x, _, _, _ => (0, x)
  | n + 1, t, x, p0, p1, p2 => match t with
    | 0 => (fun (a : Int) (b : Int) (i : Int) => (if (((x).2 1) (b).toNat) ≤ (i) then (0, aU (x) 1 (a).toNat ((((x).2 1) (a).toNat) + (((x).2 1) (b).toNat))) else F_m_append_s n 0 (aU (x) 2 (((((128 : Int)) * (a)) + (((x).2 1) (a).toNat)) + (i)).toNat (((x).2 2) ((((128 : Int)) * (b)) + (i)).toNat)) (a) (b) ((i) + (1 : Int)))) p0 p1 p2
    | _ => (0, x)
theorem F_m_append_e0 (n : Nat) (x : MS) (a : Int) (b : Int) (i : Int) : F_m_append_s (n + 1) 0 x a b i = (if (((x).2 1) (b).toNat) ≤ (i) then (0, aU (x) 1 (a).toNat ((((x).2 1) (a).toNat) + (((x).2 1) (b).toNat))) else F_m_append_s n 0 (aU (x) 2 (((((128 : Int)) * (a)) + (((x).2 1) (a).toNat)) + (i)).toNat (((x).2 2) ((((128 : Int)) * (b)) + (i)).toNat)) (a) (b) ((i) + (1 : Int))) := rfl
def F_m_append (x : MS) (a : Int) (b : Int) : Int × MS := F_m_append_s 200 0 (x) (a) (b) ((0 : Int))
set_option maxHeartbeats 4000000 in
set_option maxRecDepth 100000 in
/-- append -/
theorem c_m_append (l : Launch) (dC : Nat → ClassId) (dI : Nat → Nat → Nat) (h : Nat) (ad : Nat → Nat) (cI cJ cZ : ClassId) (sz : Nat) (x : MS) (a : Int) (b : Int) (a0 : 0 ≤ a) (a1 : a < 13) (b0 : 0 ≤ b) (b1 : b < 13) (s0 : 0 ≤ x.2 1 a.toNat) (t0 : 0 ≤ x.2 1 b.toNat) (st : x.2 1 a.toNat + x.2 1 b.toNat ≤ 128) : Met l yX12_append wsX12_append ({ frames := 0, cells := 0, slots := 0, locals := 0 }) (mPc dC dI h ad cI cJ cZ sz x [.ref h, .int (iI a), .int (iI b)]) (va_Qv (fun u : MS => u = (F_m_append (x) (a) (b)).2) (mAt dC dI h ad cI cJ cZ (va_A (mW h ad cI cJ cZ (x)) sz)) (va_A (mW h ad cI cJ cZ (x)) sz)) 0 0 (va_A (mW h ad cI cJ cZ (x)) sz) := by
  refine Met.ofW (cc := cX12_append) (maxL := 4) (ret := none) (by decide) rfl ?_
  intro p e s m args below meth c s₁ B hml hv
  obtain ⟨rfl, hsz, hP, hK, hD0⟩ := hv
  have hx := B.exec
  have hb := B.bytes
  have hr := B.returns
  have hts := atoms_spec (ws := wsX12_append) B.pre
  have hown : s.vm.findClass RX12 = some m.cls := findClass_of_methodNamed B.named
  have hlocks := B.notSynchronized
  have hin : ∀ w ∈ u_ws RX12 TX12 34, w ∈ wsX12_append := by decide +kernel
  subst hsz
  have hD := hD0.self (sz := s.heap.size)
  generalize hAe : va_A (mW h ad cI cJ cZ (x)) s.heap.size = A at hD ⊢
  have hA : ∀ q : Nat, s.heap.size ≤ q → A q := fun q h => by rw [← hAe]; exact Or.inr h
  have hS : va_S A s.heap s.heap [] := va_S.rf
  have hl := lv_entry ([.ref h, .int (iI a), .int (iI b)]) (n := 4) (Nat.le_of_ble_eq_true rfl)
  rw [lg_entry_eq]
  generalize (lg_sl ([.ref h, .int (iI a), .int (iI b)]) ++ List.replicate (4 - (lg_sl ([.ref h, .int (iI a), .int (iI b)])).length) Slot.unset).toArray = ls at hl ⊢
  have hl : lv_has ls 4 [(0, .ref (h)), (1, .int (iI (a))), (2, .int (iI (b)))] := hl
  have L : ∀ n : Nat, (∀ (y : MS) (i : Int), (0 ≤ i) → (0 ≤ y.2 1 a.toNat) → (i ≤ y.2 1 b.toNat) → (y.2 1 a.toNat + y.2 1 b.toNat ≤ 128) → (y.2 1 b.toNat - i < n) → F_m_append_s n 0 y a b i = F_m_append (x) (a) (b) → ∀ (H : Heap) (locs : List Loc) (ls : Array Slot), va_P (dC, dI) vwCl (mW h ad cI cJ cZ (y)) H → va_D A (mW h ad cI cJ cZ (y)) → va_S A s.heap H locs → lv_has ls 4 [(0, .ref (h)), (1, .int (iI (a))), (2, .int (iI (b))), (3, .int (iI (i)))] → W p l e (headSpec wsX12_append ({ frames := 0, cells := 0, slots := 0, locals := 0 })).room s m ([.ref h, .int (iI a), .int (iI b)] : List Value).toArray below meth c H locs 0 0 (MQ below (va_Qv (fun u : MS => u = (F_m_append (x) (a) (b)).2) (mAt dC dI h ad cI cJ cZ A) A) ([.ref h, .int (iI a), .int (iI b)] : List Value).toArray s 0 0 A) (F0 m 2 ls [])) := by
    intro n
    induction n with
    | zero =>
      skip
      · intro y i i0 sa is sy fu hres
        exact absurd fu (by omega)
    | succ n ih =>
      skip
      · intro y i i0 sa is sy fu hres H locs ls hP hD hS hl
        rw [F_m_append_e0] at hres
        refine lv_iload_n hx hb dX12_append_2 rfl (lv_at hl 3 rfl) ?_
        refine lv_aload_n hx hb dX12_append_3 rfl (lv_at hl 0 rfl) ?_
        refine va_get (D := (dC, dI)) (ci := 12) (v := .ref (ad 1)) (C := RX12) (T := TX12) (N := 34) hx hb hts hin hown hK hP 0 rfl rfl 1 (by decide) (hts (.fieldLink RX12 13 "LikeWordsModel" "size" "[I") (by decide +kernel)) (fun _ h9 => h9) rfl dX12_append_4 ?_
        refine lv_iload_n hx hb dX12_append_7 rfl (lv_at hl 2 rfl) ?_
        refine wi_iald (f := (y).2 1) hx hb hK hP 1 0 rfl rfl (i := b) (by omega) (by omega) (by decide) dX12_append_8 ?_
        refine wi_icmp_ge (tgt := 49) hx hb (by first | assumption | (unfold iR; omega) | exact F_R01 (by assumption)) (by first | assumption | (unfold iR; omega) | exact F_R01 (by assumption)) dX12_append_9 (by decide) (fun c_9 => ?_) (fun c_9 => ?_)
        · skip
          rw [if_pos c_9] at hres
          refine lv_aload_n hx hb dX12_append_49 rfl (lv_at hl 0 rfl) ?_
          refine va_get (D := (dC, dI)) (ci := 12) (v := .ref (ad 1)) (C := RX12) (T := TX12) (N := 34) hx hb hts hin hown hK hP 0 rfl rfl 1 (by decide) (hts (.fieldLink RX12 13 "LikeWordsModel" "size" "[I") (by decide +kernel)) (fun _ h9 => h9) rfl dX12_append_50 ?_
          refine lv_iload_n hx hb dX12_append_53 rfl (lv_at hl 1 rfl) ?_
          refine lv_dup2_11 hx hb dX12_append_54 rfl rfl ?_
          refine wi_iald (f := (y).2 1) hx hb hK hP 1 0 rfl rfl (i := a) (by omega) (by omega) (by decide) dX12_append_55 ?_
          refine lv_aload_n hx hb dX12_append_56 rfl (lv_at hl 0 rfl) ?_
          refine va_get (D := (dC, dI)) (ci := 12) (v := .ref (ad 1)) (C := RX12) (T := TX12) (N := 34) hx hb hts hin hown hK hP 0 rfl rfl 1 (by decide) (hts (.fieldLink RX12 13 "LikeWordsModel" "size" "[I") (by decide +kernel)) (fun _ h9 => h9) rfl dX12_append_57 ?_
          refine lv_iload_n hx hb dX12_append_60 rfl (lv_at hl 2 rfl) ?_
          refine wi_iald (f := (y).2 1) hx hb hK hP 1 0 rfl rfl (i := b) (by omega) (by omega) (by decide) dX12_append_61 ?_
          refine wi_iadd hx hb dX12_append_62 ?_
          refine wi_iast (f := (y).2 1) hx hb hK hP hD hS 1 0 rfl rfl (i := a) (x := (((y).2 1) (a).toNat) + (((y).2 1) (b).toNat)) (by omega) (by omega) (by decide) dX12_append_63 (fun H locs hP hD hS => ?_)
          rw [mW_a1] at hP hD
          exact W.vret hx hb hr (fun t ht hW => ⟨⟨aU (y) 1 (a).toNat ((((y).2 1) (a).toNat) + (((y).2 1) (b).toNat)), rfl, (by have h9 := congrArg (fun z : Int × MS => z.2) hres; exact h9), by rw [ht]; exact hP, va_K.moved hW.alike hK, hD⟩, hS.F ht⟩) hS.2.2 dX12_append_64
        · skip
          rw [if_neg c_9] at hres
          refine lv_aload_n hx hb dX12_append_12 rfl (lv_at hl 0 rfl) ?_
          refine va_get (D := (dC, dI)) (ci := 12) (v := .ref (ad 2)) (C := RX12) (T := TX12) (N := 34) hx hb hts hin hown hK hP 0 rfl rfl 2 (by decide) (hts (.fieldLink RX12 17 "LikeWordsModel" "row" "[I") (by decide +kernel)) (fun _ h9 => h9) rfl dX12_append_13 ?_
          refine lv_sipush (v := iI (128 : Int)) hx hb dX12_append_16 (by decide) ?_
          refine lv_iload_n hx hb dX12_append_19 rfl (lv_at hl 1 rfl) ?_
          refine wi_imul hx hb dX12_append_20 ?_
          refine lv_aload_n hx hb dX12_append_21 rfl (lv_at hl 0 rfl) ?_
          refine va_get (D := (dC, dI)) (ci := 12) (v := .ref (ad 1)) (C := RX12) (T := TX12) (N := 34) hx hb hts hin hown hK hP 0 rfl rfl 1 (by decide) (hts (.fieldLink RX12 13 "LikeWordsModel" "size" "[I") (by decide +kernel)) (fun _ h9 => h9) rfl dX12_append_22 ?_
          refine lv_iload_n hx hb dX12_append_25 rfl (lv_at hl 1 rfl) ?_
          refine wi_iald (f := (y).2 1) hx hb hK hP 1 0 rfl rfl (i := a) (by omega) (by omega) (by decide) dX12_append_26 ?_
          refine wi_iadd hx hb dX12_append_27 ?_
          refine lv_iload_n hx hb dX12_append_28 rfl (lv_at hl 3 rfl) ?_
          refine wi_iadd hx hb dX12_append_29 ?_
          refine lv_aload_n hx hb dX12_append_30 rfl (lv_at hl 0 rfl) ?_
          refine va_get (D := (dC, dI)) (ci := 12) (v := .ref (ad 2)) (C := RX12) (T := TX12) (N := 34) hx hb hts hin hown hK hP 0 rfl rfl 2 (by decide) (hts (.fieldLink RX12 17 "LikeWordsModel" "row" "[I") (by decide +kernel)) (fun _ h9 => h9) rfl dX12_append_31 ?_
          refine lv_sipush (v := iI (128 : Int)) hx hb dX12_append_34 (by decide) ?_
          refine lv_iload_n hx hb dX12_append_37 rfl (lv_at hl 2 rfl) ?_
          refine wi_imul hx hb dX12_append_38 ?_
          refine lv_iload_n hx hb dX12_append_39 rfl (lv_at hl 3 rfl) ?_
          refine wi_iadd hx hb dX12_append_40 ?_
          refine wi_iald (f := (y).2 2) hx hb hK hP 2 0 rfl rfl (i := (((128 : Int)) * (b)) + (i)) (by omega) (by omega) (by decide) dX12_append_41 ?_
          refine wi_iast (f := (y).2 2) hx hb hK hP hD hS 2 0 rfl rfl (i := ((((128 : Int)) * (a)) + (((y).2 1) (a).toNat)) + (i)) (x := ((y).2 2) ((((128 : Int)) * (b)) + (i)).toNat) (by omega) (by omega) (by decide) dX12_append_42 (fun H locs hP hD hS => ?_)
          rw [mW_a2] at hP hD
          refine lv_iinc (v := iI ((i) + (1 : Int))) (lv' := [(3, .int (iI ((i) + (1 : Int)))), (0, .ref (h)), (1, .int (iI (a))), (2, .int (iI (b)))]) hx hb dX12_append_43 hl (k := 3) rfl (iI_add _ _) (by decide) rfl (fun ls hl => ?_)
          refine lv_goto (tgt := 2) hx hb dX12_append_46 (by decide) ?_
          exact ih (aU (y) 2 (((((128 : Int)) * (a)) + (((y).2 1) (a).toNat)) + (i)).toNat (((y).2 2) ((((128 : Int)) * (b)) + (i)).toNat)) ((i) + (1 : Int)) (by omega) (sa) (by show _ ≤ y.2 1 b.toNat; omega) (sy) (by show y.2 1 b.toNat - (i + 1) < n; omega) hres _ _ ls hP hD hS (lv_sub hl [1, 2, 3, 0] rfl)
  have key : ∀ (H : Heap) (locs : List Loc), va_P (dC, dI) vwCl (mW h ad cI cJ cZ (x)) H → va_S A s.heap H locs → W p l e (headSpec wsX12_append ({ frames := 0, cells := 0, slots := 0, locals := 0 })).room s m ([.ref h, .int (iI a), .int (iI b)] : List Value).toArray below meth c H locs 0 0 (MQ below (va_Qv (fun u : MS => u = (F_m_append (x) (a) (b)).2) (mAt dC dI h ad cI cJ cZ A) A) ([.ref h, .int (iI a), .int (iI b)] : List Value).toArray s 0 0 A) (F0 m 0 ls []) := by
    intro H locs hP hS
    have hres : F_m_append_s 200 0 (x) (a) (b) ((0 : Int)) = F_m_append (x) (a) (b) := rfl
    refine lv_iconst (v := iI (0 : Int)) hx hb dX12_append_0 (by decide) ?_
    refine lv_istore_n (lv' := [(3, .int (iI ((0 : Int)))), (0, .ref (h)), (1, .int (iI (a))), (2, .int (iI (b)))]) hx hb dX12_append_1 rfl hl (by decide) rfl (fun ls hl => ?_)
    exact (L (200)) (x) ((0 : Int)) (by omega) (s0) (t0) (st) (by omega) hres _ _ ls hP hD hS (lv_sub hl [1, 2, 3, 0] rfl)
  exact key _ _ hP hS
theorem F_m_append_sfr : ∀ n : Nat, (∀ (y : MS) (v0 : Int) (v1 : Int) (v2 : Int), same [] [1, 2] y (F_m_append_s n 0 y v0 v1 v2).2) := by
  intro n
  induction n with
  | zero => exact fun y _ _ _ => sm_rf _ _ _
  | succ n ih =>
    skip
    · intro y a b i
      rw [F_m_append_e0]
      by_cases hc : (((y).2 1) (b).toNat) ≤ (i)
      · rw [if_pos hc]
        exact (sm_a (by decide) (sm_rf _ _ _))
      · rw [if_neg hc]
        exact sm_tr ((sm_a (by decide) (sm_rf _ _ _))) (ih (aU (y) 2 (((((128 : Int)) * (a)) + (((y).2 1) (a).toNat)) + (i)).toNat (((y).2 2) ((((128 : Int)) * (b)) + (i)).toNat)) (a) (b) ((i) + (1 : Int)))
theorem F_m_append_fr (x : MS) (a : Int) (b : Int) : same [] [1, 2] x (F_m_append (x) (a) (b)).2 := by
  unfold F_m_append
  exact sm_tr ((sm_rf _ _ _)) ((F_m_append_sfr 200) (x) (a) (b) ((0 : Int)))
def F_m_clear (x : MS)  : Int × MS := (((x).2 1) ((8 : Int)).toNat, aU (x) 1 ((8 : Int)).toNat ((0 : Int)))
set_option maxHeartbeats 4000000 in
set_option maxRecDepth 100000 in
/-- clear -/
theorem c_m_clear (l : Launch) (dC : Nat → ClassId) (dI : Nat → Nat → Nat) (h : Nat) (ad : Nat → Nat) (cI cJ cZ : ClassId) (sz : Nat) (x : MS)   : Met l yX12_clear wsX12_clear ({ frames := 0, cells := 0, slots := 0, locals := 0 }) (mPc dC dI h ad cI cJ cZ sz x [.ref h]) (va_Qi (fun (r : Int32) (u : MS) => r = iI (F_m_clear (x)).1 ∧ u = (F_m_clear (x)).2) (mAt dC dI h ad cI cJ cZ (va_A (mW h ad cI cJ cZ (x)) sz)) (va_A (mW h ad cI cJ cZ (x)) sz)) 0 0 (va_A (mW h ad cI cJ cZ (x)) sz) := by
  refine Met.ofW (cc := cX12_clear) (maxL := 2) (ret := (some .int)) (by decide) rfl ?_
  intro p e s m args below meth c s₁ B hml hv
  obtain ⟨rfl, hsz, hP, hK, hD0⟩ := hv
  have hx := B.exec
  have hb := B.bytes
  have hr := B.returns
  have hts := atoms_spec (ws := wsX12_clear) B.pre
  have hown : s.vm.findClass RX12 = some m.cls := findClass_of_methodNamed B.named
  have hlocks := B.notSynchronized
  have hin : ∀ w ∈ u_ws RX12 TX12 34, w ∈ wsX12_clear := by decide +kernel
  subst hsz
  have hD := hD0.self (sz := s.heap.size)
  generalize hAe : va_A (mW h ad cI cJ cZ (x)) s.heap.size = A at hD ⊢
  have hA : ∀ q : Nat, s.heap.size ≤ q → A q := fun q h => by rw [← hAe]; exact Or.inr h
  have hS : va_S A s.heap s.heap [] := va_S.rf
  have hl := lv_entry ([.ref h]) (n := 2) (Nat.le_of_ble_eq_true rfl)
  rw [lg_entry_eq]
  generalize (lg_sl ([.ref h]) ++ List.replicate (2 - (lg_sl ([.ref h])).length) Slot.unset).toArray = ls at hl ⊢
  have hl : lv_has ls 2 [(0, .ref (h))] := hl
  have key : ∀ (H : Heap) (locs : List Loc), va_P (dC, dI) vwCl (mW h ad cI cJ cZ (x)) H → va_S A s.heap H locs → W p l e (headSpec wsX12_clear ({ frames := 0, cells := 0, slots := 0, locals := 0 })).room s m ([.ref h] : List Value).toArray below meth c H locs 0 0 (MQ below (va_Qi (fun (r : Int32) (u : MS) => r = iI (F_m_clear (x)).1 ∧ u = (F_m_clear (x)).2) (mAt dC dI h ad cI cJ cZ A) A) ([.ref h] : List Value).toArray s 0 0 A) (F0 m 0 ls []) := by
    intro H locs hP hS
    have hres : (((x).2 1) ((8 : Int)).toNat, aU (x) 1 ((8 : Int)).toNat ((0 : Int))) = F_m_clear (x) := rfl
    refine lv_aload_n hx hb dX12_clear_0 rfl (lv_at hl 0 rfl) ?_
    refine va_get (D := (dC, dI)) (ci := 12) (v := .ref (ad 1)) (C := RX12) (T := TX12) (N := 34) hx hb hts hin hown hK hP 0 rfl rfl 1 (by decide) (hts (.fieldLink RX12 13 "LikeWordsModel" "size" "[I") (by decide +kernel)) (fun _ h9 => h9) rfl dX12_clear_1 ?_
    refine lv_bipush (v := iI (8 : Int)) hx hb dX12_clear_4 (by decide) ?_
    refine wi_iald (f := (x).2 1) hx hb hK hP 1 0 rfl rfl (i := (8 : Int)) (by omega) (by omega) (by decide) dX12_clear_6 ?_
    refine lv_istore_n (lv' := [(1, .int (iI (((x).2 1) ((8 : Int)).toNat))), (0, .ref (h))]) hx hb dX12_clear_7 rfl hl (by decide) rfl (fun ls hl => ?_)
    refine lv_aload_n hx hb dX12_clear_8 rfl (lv_at hl 1 rfl) ?_
    refine va_get (D := (dC, dI)) (ci := 12) (v := .ref (ad 1)) (C := RX12) (T := TX12) (N := 34) hx hb hts hin hown hK hP 0 rfl rfl 1 (by decide) (hts (.fieldLink RX12 13 "LikeWordsModel" "size" "[I") (by decide +kernel)) (fun _ h9 => h9) rfl dX12_clear_9 ?_
    refine lv_bipush (v := iI (8 : Int)) hx hb dX12_clear_12 (by decide) ?_
    refine lv_iconst (v := iI (0 : Int)) hx hb dX12_clear_14 (by decide) ?_
    refine wi_iast (f := (x).2 1) hx hb hK hP hD hS 1 0 rfl rfl (i := (8 : Int)) (x := (0 : Int)) (by omega) (by omega) (by decide) dX12_clear_15 (fun H locs hP hD hS => ?_)
    rw [mW_a1] at hP hD
    refine lv_iload_n hx hb dX12_clear_16 rfl (lv_at hl 0 rfl) ?_
    exact W.iret (v := iI (((x).2 1) ((8 : Int)).toNat)) hx hb hr (fun t ht hW => ⟨⟨iI (((x).2 1) ((8 : Int)).toNat), aU (x) 1 ((8 : Int)).toNat ((0 : Int)), rfl, ⟨(by have h9 := congrArg (fun z : Int × MS => iI z.1) hres; exact h9), (by have h9 := congrArg (fun z : Int × MS => z.2) hres; exact h9)⟩, by rw [ht]; exact hP, va_K.moved hW.alike hK, hD⟩, hS.F ht⟩) hS.2.2 dX12_clear_17
  exact key _ _ hP hS
theorem F_m_clear_fr (x : MS)  : same [] [1] x (F_m_clear (x)).2 := by
  unfold F_m_clear
  exact (sm_a (by decide) (sm_rf _ _ _))
def F_m_length (x : MS) (k : Int) : Int × MS := (if ((F_m_isSlot (x) (k)).1) = (0) then ((-1 : Int), x) else (((x).2 1) (k).toNat, x))
set_option maxHeartbeats 4000000 in
set_option maxRecDepth 100000 in
/-- length -/
theorem c_m_length (l : Launch) (dC : Nat → ClassId) (dI : Nat → Nat → Nat) (h : Nat) (ad : Nat → Nat) (cI cJ cZ : ClassId) (sz : Nat) (x : MS) (k : Int) (rk : iR k) : Met l yX12_length wsX12_length ({ frames := 2, cells := 0, slots := 0, locals := 45 }) (mPc dC dI h ad cI cJ cZ sz x [.ref h, .int (iI k)]) (va_Qi (fun (r : Int32) (u : MS) => r = iI (F_m_length (x) (k)).1 ∧ u = (F_m_length (x) (k)).2) (mAt dC dI h ad cI cJ cZ (va_A (mW h ad cI cJ cZ (x)) sz)) (va_A (mW h ad cI cJ cZ (x)) sz)) 0 0 (va_A (mW h ad cI cJ cZ (x)) sz) := by
  refine Met.ofW (cc := cX12_length) (maxL := 2) (ret := (some .int)) (by decide) rfl ?_
  intro p e s m args below meth c s₁ B hml hv
  obtain ⟨rfl, hsz, hP, hK, hD0⟩ := hv
  have hx := B.exec
  have hb := B.bytes
  have hr := B.returns
  have hts := atoms_spec (ws := wsX12_length) B.pre
  have hown : s.vm.findClass RX12 = some m.cls := findClass_of_methodNamed B.named
  have hlocks := B.notSynchronized
  have hin : ∀ w ∈ u_ws RX12 TX12 34, w ∈ wsX12_length := by decide +kernel
  subst hsz
  have hD := hD0.self (sz := s.heap.size)
  generalize hAe : va_A (mW h ad cI cJ cZ (x)) s.heap.size = A at hD ⊢
  have hA : ∀ q : Nat, s.heap.size ≤ q → A q := fun q h => by rw [← hAe]; exact Or.inr h
  have hS : va_S A s.heap s.heap [] := va_S.rf
  have hl := lv_entry ([.ref h, .int (iI k)]) (n := 2) (Nat.le_of_ble_eq_true rfl)
  rw [lg_entry_eq]
  generalize (lg_sl ([.ref h, .int (iI k)]) ++ List.replicate (2 - (lg_sl ([.ref h, .int (iI k)])).length) Slot.unset).toArray = ls at hl ⊢
  have hl : lv_has ls 2 [(0, .ref (h)), (1, .int (iI (k)))] := hl
  have key : ∀ (H : Heap) (locs : List Loc), va_P (dC, dI) vwCl (mW h ad cI cJ cZ (x)) H → va_S A s.heap H locs → W p l e (headSpec wsX12_length ({ frames := 2, cells := 0, slots := 0, locals := 45 })).room s m ([.ref h, .int (iI k)] : List Value).toArray below meth c H locs 0 0 (MQ below (va_Qi (fun (r : Int32) (u : MS) => r = iI (F_m_length (x) (k)).1 ∧ u = (F_m_length (x) (k)).2) (mAt dC dI h ad cI cJ cZ A) A) ([.ref h, .int (iI k)] : List Value).toArray s 0 0 A) (F0 m 0 ls []) := by
    intro H locs hP hS
    have hres : (if ((F_m_isSlot (x) (k)).1) = (0) then ((-1 : Int), x) else (((x).2 1) (k).toNat, x)) = F_m_length (x) (k) := rfl
    refine lv_iload_n hx hb dX12_length_0 rfl (lv_at hl 1 rfl) ?_
    have hFc : ∀ q, va_A (mW h ad cI cJ cZ (x)) H.size q → A q := fun q hq => Or.elim hq (fun ⟨k, e, hk⟩ => hD.2 k (q, e) hk) (fun hk => hA q (Nat.le_trans hS.1 hk))
    refine va_calli (va_runS (As := [.int (iI (k))]) (rest := []) ⟨hx, hb, hml, hown, hts⟩ (c_m_isSlot l dC dI h ad cI cJ cZ H.size (x) (k) (by first | assumption | exact iR_L (by assumption) | exact ⟨by decide, by decide⟩ | omega | (unfold iR; omega) | (unfold iRL; omega))) (va_cwS 1 hts gX12_length_X12_isSlot rfl rfl rfl (by decide +kernel) ⟨Nat.le_of_ble_eq_true rfl, Nat.le_of_ble_eq_true rfl⟩) ⟨fun a U g mk q => by obtain ⟨q0, q1, qP, qK, qD⟩ := q; exact ⟨q0, q1, qP, va_K.moved (u := U) (U := U.calling g mk a) (Vm.Alike.refl U.vm) qK, qD⟩, fun U hU hW => ⟨rfl, by rw [hU], by rw [hU]; exact hP, va_K.moved hW.alike hK, hD.weaken (fun _ _ _ _ => trivial)⟩⟩ rfl rfl hl.1 rfl (lv_room (Nat.le_of_ble_eq_true rfl)) dX12_length_1 ⟨Nat.le_of_ble_eq_true rfl, Nat.le_of_ble_eq_true rfl⟩) hS (fun q _ h => hFc q h) hFc (fun r9 u9 t H1 locs ht hvm hw hB hz1 hk1 hS => ?_)
    obtain ⟨hP1, hK1, hD1⟩ := hB
    rw [ht] at hP1
    obtain ⟨hw1, hw2⟩ := hw
    rw [hw2] at hP1 hD1
    rw [hw1]
    rw [F_m_isSlot_2] at hP1 hD1
    have hD2 := hD1.weaken (B := A) (fun _ q _ h => hFc q.1 h)
    have hP := hP1
    have hD := hD2
    generalize H1 = H at hP hS ⊢
    refine wi_if_eq (tgt := 16) hx hb (by rw [F_m_isSlot_1]; exact F_R01 (F_in_01 _ _ _)) dX12_length_4 (by decide) (fun c_4 => ?_) (fun c_4 => ?_)
    · skip
      rw [if_pos c_4] at hres
      refine lv_iconst (v := iI (-1 : Int)) hx hb dX12_length_16 (by decide) ?_
      exact W.iret (v := iI ((-1 : Int))) hx hb hr (fun t ht hW => ⟨⟨iI ((-1 : Int)), x, rfl, ⟨(by have h9 := congrArg (fun z : Int × MS => iI z.1) hres; exact h9), (by have h9 := congrArg (fun z : Int × MS => z.2) hres; exact h9)⟩, by rw [ht]; exact hP, va_K.moved hW.alike hK, hD⟩, hS.F ht⟩) hS.2.2 dX12_length_17
    · skip
      rw [if_neg c_4] at hres
      obtain ⟨k0, k1⟩ := F_in_1 (by rw [← F_m_isSlot_1 x k]; exact c_4)
      refine lv_aload_n hx hb dX12_length_7 rfl (lv_at hl 0 rfl) ?_
      refine va_get (D := (dC, dI)) (ci := 12) (v := .ref (ad 1)) (C := RX12) (T := TX12) (N := 34) hx hb hts hin hown hK hP 0 rfl rfl 1 (by decide) (hts (.fieldLink RX12 13 "LikeWordsModel" "size" "[I") (by decide +kernel)) (fun _ h9 => h9) rfl dX12_length_8 ?_
      refine lv_iload_n hx hb dX12_length_11 rfl (lv_at hl 1 rfl) ?_
      refine wi_iald (f := (x).2 1) hx hb hK hP 1 0 rfl rfl (i := k) (by omega) (by omega) (by decide) dX12_length_12 ?_
      refine lv_goto (tgt := 17) hx hb dX12_length_13 (by decide) ?_
      exact W.iret (v := iI (((x).2 1) (k).toNat)) hx hb hr (fun t ht hW => ⟨⟨iI (((x).2 1) (k).toNat), x, rfl, ⟨(by have h9 := congrArg (fun z : Int × MS => iI z.1) hres; exact h9), (by have h9 := congrArg (fun z : Int × MS => z.2) hres; exact h9)⟩, by rw [ht]; exact hP, va_K.moved hW.alike hK, hD⟩, hS.F ht⟩) hS.2.2 dX12_length_17
  exact key _ _ hP hS
theorem F_m_length_fr (x : MS) (k : Int) : same [] [] x (F_m_length (x) (k)).2 := by
  unfold F_m_length
  by_cases hc : ((F_m_isSlot (x) (k)).1) = (0)
  · rw [if_pos hc]
    exact (sm_rf _ _ _)
  · rw [if_neg hc]
    exact (sm_rf _ _ _)
theorem F_m_length_2 (x : MS) (k : Int) : (F_m_length (x) (k)).2 = x := sm_nil (F_m_length_fr x k)
def F_m_at (x : MS) (k : Int) (i : Int) : Int × MS := (if ((F_m_isSlot (x) (k)).1) = (0) then ((-1 : Int), x) else (if ((F_m_in (x) (i) ((0 : Int)) ((((x).2 1) (k).toNat) - ((1 : Int)))).1) = (0) then ((-9 : Int), x) else (((x).2 2) ((((128 : Int)) * (k)) + (i)).toNat, x)))
set_option maxHeartbeats 4000000 in
set_option maxRecDepth 100000 in
/-- at -/
theorem c_m_at (l : Launch) (dC : Nat → ClassId) (dI : Nat → Nat → Nat) (h : Nat) (ad : Nat → Nat) (cI cJ cZ : ClassId) (sz : Nat) (x : MS) (k : Int) (i : Int) (rk : iR k) (ri : iR i) (zs : ∀ k : Nat, k < 13 → 0 ≤ x.2 1 k ∧ x.2 1 k ≤ 60) : Met l yX12_at wsX12_at ({ frames := 2, cells := 0, slots := 0, locals := 45 }) (mPc dC dI h ad cI cJ cZ sz x [.ref h, .int (iI k), .int (iI i)]) (va_Qi (fun (r : Int32) (u : MS) => r = iI (F_m_at (x) (k) (i)).1 ∧ u = (F_m_at (x) (k) (i)).2) (mAt dC dI h ad cI cJ cZ (va_A (mW h ad cI cJ cZ (x)) sz)) (va_A (mW h ad cI cJ cZ (x)) sz)) 0 0 (va_A (mW h ad cI cJ cZ (x)) sz) := by
  refine Met.ofW (cc := cX12_at) (maxL := 3) (ret := (some .int)) (by decide) rfl ?_
  intro p e s m args below meth c s₁ B hml hv
  obtain ⟨rfl, hsz, hP, hK, hD0⟩ := hv
  have hx := B.exec
  have hb := B.bytes
  have hr := B.returns
  have hts := atoms_spec (ws := wsX12_at) B.pre
  have hown : s.vm.findClass RX12 = some m.cls := findClass_of_methodNamed B.named
  have hlocks := B.notSynchronized
  have hin : ∀ w ∈ u_ws RX12 TX12 34, w ∈ wsX12_at := by decide +kernel
  subst hsz
  have hD := hD0.self (sz := s.heap.size)
  generalize hAe : va_A (mW h ad cI cJ cZ (x)) s.heap.size = A at hD ⊢
  have hA : ∀ q : Nat, s.heap.size ≤ q → A q := fun q h => by rw [← hAe]; exact Or.inr h
  have hS : va_S A s.heap s.heap [] := va_S.rf
  have hl := lv_entry ([.ref h, .int (iI k), .int (iI i)]) (n := 3) (Nat.le_of_ble_eq_true rfl)
  rw [lg_entry_eq]
  generalize (lg_sl ([.ref h, .int (iI k), .int (iI i)]) ++ List.replicate (3 - (lg_sl ([.ref h, .int (iI k), .int (iI i)])).length) Slot.unset).toArray = ls at hl ⊢
  have hl : lv_has ls 3 [(0, .ref (h)), (1, .int (iI (k))), (2, .int (iI (i)))] := hl
  have key : ∀ (H : Heap) (locs : List Loc), va_P (dC, dI) vwCl (mW h ad cI cJ cZ (x)) H → va_S A s.heap H locs → W p l e (headSpec wsX12_at ({ frames := 2, cells := 0, slots := 0, locals := 45 })).room s m ([.ref h, .int (iI k), .int (iI i)] : List Value).toArray below meth c H locs 0 0 (MQ below (va_Qi (fun (r : Int32) (u : MS) => r = iI (F_m_at (x) (k) (i)).1 ∧ u = (F_m_at (x) (k) (i)).2) (mAt dC dI h ad cI cJ cZ A) A) ([.ref h, .int (iI k), .int (iI i)] : List Value).toArray s 0 0 A) (F0 m 0 ls []) := by
    intro H locs hP hS
    have hres : (if ((F_m_isSlot (x) (k)).1) = (0) then ((-1 : Int), x) else (if ((F_m_in (x) (i) ((0 : Int)) ((((x).2 1) (k).toNat) - ((1 : Int)))).1) = (0) then ((-9 : Int), x) else (((x).2 2) ((((128 : Int)) * (k)) + (i)).toNat, x))) = F_m_at (x) (k) (i) := rfl
    refine lv_iload_n hx hb dX12_at_0 rfl (lv_at hl 1 rfl) ?_
    have hFc : ∀ q, va_A (mW h ad cI cJ cZ (x)) H.size q → A q := fun q hq => Or.elim hq (fun ⟨k, e, hk⟩ => hD.2 k (q, e) hk) (fun hk => hA q (Nat.le_trans hS.1 hk))
    refine va_calli (va_runS (As := [.int (iI (k))]) (rest := []) ⟨hx, hb, hml, hown, hts⟩ (c_m_isSlot l dC dI h ad cI cJ cZ H.size (x) (k) (by first | assumption | exact iR_L (by assumption) | exact ⟨by decide, by decide⟩ | omega | (unfold iR; omega) | (unfold iRL; omega))) (va_cwS 1 hts gX12_at_X12_isSlot rfl rfl rfl (by decide +kernel) ⟨Nat.le_of_ble_eq_true rfl, Nat.le_of_ble_eq_true rfl⟩) ⟨fun a U g mk q => by obtain ⟨q0, q1, qP, qK, qD⟩ := q; exact ⟨q0, q1, qP, va_K.moved (u := U) (U := U.calling g mk a) (Vm.Alike.refl U.vm) qK, qD⟩, fun U hU hW => ⟨rfl, by rw [hU], by rw [hU]; exact hP, va_K.moved hW.alike hK, hD.weaken (fun _ _ _ _ => trivial)⟩⟩ rfl rfl hl.1 rfl (lv_room (Nat.le_of_ble_eq_true rfl)) dX12_at_1 ⟨Nat.le_of_ble_eq_true rfl, Nat.le_of_ble_eq_true rfl⟩) hS (fun q _ h => hFc q h) hFc (fun r9 u9 t H1 locs ht hvm hw hB hz1 hk1 hS => ?_)
    obtain ⟨hP1, hK1, hD1⟩ := hB
    rw [ht] at hP1
    obtain ⟨hw1, hw2⟩ := hw
    rw [hw2] at hP1 hD1
    rw [hw1]
    rw [F_m_isSlot_2] at hP1 hD1
    have hD2 := hD1.weaken (B := A) (fun _ q _ h => hFc q.1 h)
    have hP := hP1
    have hD := hD2
    generalize H1 = H at hP hS ⊢
    refine wi_if_ne (tgt := 9) hx hb (by rw [F_m_isSlot_1]; exact F_R01 (F_in_01 _ _ _)) dX12_at_4 (by decide) (fun c_4 => ?_) (fun c_4 => ?_)
    · skip
      rw [if_neg c_4] at hres
      obtain ⟨k0, k1⟩ := F_in_1 (by rw [← F_m_isSlot_1 x k]; exact c_4)
      obtain ⟨z0, z1⟩ := zs k.toNat (by omega)
      refine lv_iload_n hx hb dX12_at_9 rfl (lv_at hl 2 rfl) ?_
      refine wi_i2l hx hb (by first | assumption | (unfold iR; omega) | exact F_R01 (by assumption)) dX12_at_10 ?_
      refine lv_lconst (v := iL 0) hx hb dX12_at_11 (by decide) ?_
      refine lv_aload_n hx hb dX12_at_12 rfl (lv_at hl 0 rfl) ?_
      refine va_get (D := (dC, dI)) (ci := 12) (v := .ref (ad 1)) (C := RX12) (T := TX12) (N := 34) hx hb hts hin hown hK hP 0 rfl rfl 1 (by decide) (hts (.fieldLink RX12 13 "LikeWordsModel" "size" "[I") (by decide +kernel)) (fun _ h9 => h9) rfl dX12_at_13 ?_
      refine lv_iload_n hx hb dX12_at_16 rfl (lv_at hl 1 rfl) ?_
      refine wi_iald (f := (x).2 1) hx hb hK hP 1 0 rfl rfl (i := k) (by omega) (by omega) (by decide) dX12_at_17 ?_
      refine lv_iconst (v := iI (1 : Int)) hx hb dX12_at_18 (by decide) ?_
      refine wi_isub hx hb dX12_at_19 ?_
      refine wi_i2l hx hb (by unfold iR; omega) dX12_at_20 ?_
      have hFc : ∀ q, va_A (mW h ad cI cJ cZ (x)) H.size q → A q := fun q hq => Or.elim hq (fun ⟨k, e, hk⟩ => hD.2 k (q, e) hk) (fun hk => hA q (Nat.le_trans hS.1 hk))
      refine va_calli (va_runS (As := [.long (iL (i)), .long (iL ((0 : Int))), .long (iL ((((x).2 1) (k).toNat) - ((1 : Int))))]) (rest := []) ⟨hx, hb, hml, hown, hts⟩ (c_m_in l dC dI h ad cI cJ cZ H.size (x) (i) ((0 : Int)) ((((x).2 1) (k).toNat) - ((1 : Int))) (iR_L ri) ⟨by decide, by decide⟩ (by unfold iRL; omega)) (va_cwS 3 hts gX12_at_X12_in rfl rfl rfl (by decide +kernel) ⟨Nat.le_of_ble_eq_true rfl, Nat.le_of_ble_eq_true rfl⟩) ⟨fun a U g mk q => by obtain ⟨q0, q1, qP, qK, qD⟩ := q; exact ⟨q0, q1, qP, va_K.moved (u := U) (U := U.calling g mk a) (Vm.Alike.refl U.vm) qK, qD⟩, fun U hU hW => ⟨rfl, by rw [hU], by rw [hU]; exact hP, va_K.moved hW.alike hK, hD.weaken (fun _ _ _ _ => trivial)⟩⟩ rfl rfl hl.1 rfl (lv_room (Nat.le_of_ble_eq_true rfl)) dX12_at_21 ⟨Nat.le_of_ble_eq_true rfl, Nat.le_of_ble_eq_true rfl⟩) hS (fun q _ h => hFc q h) hFc (fun r9 u9 t H1 locs ht hvm hw hB hz1 hk1 hS => ?_)
      obtain ⟨hP1, hK1, hD1⟩ := hB
      rw [ht] at hP1
      obtain ⟨hw1, hw2⟩ := hw
      rw [hw2] at hP1 hD1
      rw [hw1]
      rw [F_m_in_2] at hP1 hD1
      have hD2 := hD1.weaken (B := A) (fun _ q _ h => hFc q.1 h)
      have hP := hP1
      have hD := hD2
      generalize H1 = H at hP hS ⊢
      refine wi_if_eq (tgt := 42) hx hb (by rw [F_m_in_1]; exact F_R01 (F_in_01 _ _ _)) dX12_at_24 (by decide) (fun c_24 => ?_) (fun c_24 => ?_)
      · skip
        rw [if_pos c_24] at hres
        refine lv_bipush (v := iI (-9 : Int)) hx hb dX12_at_42 (by decide) ?_
        exact W.iret (v := iI ((-9 : Int))) hx hb hr (fun t ht hW => ⟨⟨iI ((-9 : Int)), x, rfl, ⟨(by have h9 := congrArg (fun z : Int × MS => iI z.1) hres; exact h9), (by have h9 := congrArg (fun z : Int × MS => z.2) hres; exact h9)⟩, by rw [ht]; exact hP, va_K.moved hW.alike hK, hD⟩, hS.F ht⟩) hS.2.2 dX12_at_44
      · skip
        rw [if_neg c_24] at hres
        rw [F_m_in_1] at c_24
        obtain ⟨i0, i1⟩ := F_in_1 c_24
        refine lv_aload_n hx hb dX12_at_27 rfl (lv_at hl 0 rfl) ?_
        refine va_get (D := (dC, dI)) (ci := 12) (v := .ref (ad 2)) (C := RX12) (T := TX12) (N := 34) hx hb hts hin hown hK hP 0 rfl rfl 2 (by decide) (hts (.fieldLink RX12 17 "LikeWordsModel" "row" "[I") (by decide +kernel)) (fun _ h9 => h9) rfl dX12_at_28 ?_
        refine lv_sipush (v := iI (128 : Int)) hx hb dX12_at_31 (by decide) ?_
        refine lv_iload_n hx hb dX12_at_34 rfl (lv_at hl 1 rfl) ?_
        refine wi_imul hx hb dX12_at_35 ?_
        refine lv_iload_n hx hb dX12_at_36 rfl (lv_at hl 2 rfl) ?_
        refine wi_iadd hx hb dX12_at_37 ?_
        refine wi_iald (f := (x).2 2) hx hb hK hP 2 0 rfl rfl (i := (((128 : Int)) * (k)) + (i)) (by omega) (by omega) (by decide) dX12_at_38 ?_
        refine lv_goto (tgt := 44) hx hb dX12_at_39 (by decide) ?_
        exact W.iret (v := iI (((x).2 2) ((((128 : Int)) * (k)) + (i)).toNat)) hx hb hr (fun t ht hW => ⟨⟨iI (((x).2 2) ((((128 : Int)) * (k)) + (i)).toNat), x, rfl, ⟨(by have h9 := congrArg (fun z : Int × MS => iI z.1) hres; exact h9), (by have h9 := congrArg (fun z : Int × MS => z.2) hres; exact h9)⟩, by rw [ht]; exact hP, va_K.moved hW.alike hK, hD⟩, hS.F ht⟩) hS.2.2 dX12_at_44
    · skip
      rw [if_pos c_4] at hres
      refine lv_iconst (v := iI (-1 : Int)) hx hb dX12_at_7 (by decide) ?_
      exact W.iret (v := iI ((-1 : Int))) hx hb hr (fun t ht hW => ⟨⟨iI ((-1 : Int)), x, rfl, ⟨(by have h9 := congrArg (fun z : Int × MS => iI z.1) hres; exact h9), (by have h9 := congrArg (fun z : Int × MS => z.2) hres; exact h9)⟩, by rw [ht]; exact hP, va_K.moved hW.alike hK, hD⟩, hS.F ht⟩) hS.2.2 dX12_at_8
  exact key _ _ hP hS
theorem F_m_at_fr (x : MS) (k : Int) (i : Int) : same [] [] x (F_m_at (x) (k) (i)).2 := by
  unfold F_m_at
  by_cases hc : ((F_m_isSlot (x) (k)).1) = (0)
  · rw [if_pos hc]
    exact (sm_rf _ _ _)
  · rw [if_neg hc]
    by_cases hc : ((F_m_in (x) (i) ((0 : Int)) ((((x).2 1) (k).toNat) - ((1 : Int)))).1) = (0)
    · rw [if_pos hc]
      exact (sm_rf _ _ _)
    · rw [if_neg hc]
      exact (sm_rf _ _ _)
theorem F_m_at_2 (x : MS) (k : Int) (i : Int) : (F_m_at (x) (k) (i)).2 = x := sm_nil (F_m_at_fr x k i)
def F_m_letters_s : Nat → Nat → MS → Int → Int → Int → Int × MS
  | 0, _, x, _, _, _ => (0, x)
  | n + 1, t, x, p0, p1, p2 => match t with
    | 0 => (fun (n0 : Int) (w : Int) (i : Int) => (if ((13 : Int)) ≤ (i) then (w, sU (sU (x) 3 ((0 : Int))) 6 ((-9 : Int))) else F_m_letters_s n 0 (aU (x) 1 (i).toNat ((0 : Int))) (n0) (w) ((i) + (1 : Int)))) p0 p1 p2
    | _ => (0, x)
theorem F_m_letters_e0 (n : Nat) (x : MS) (n0 : Int) (w : Int) (i : Int) : F_m_letters_s (n + 1) 0 x n0 w i = (if ((13 : Int)) ≤ (i) then (w, sU (sU (x) 3 ((0 : Int))) 6 ((-9 : Int))) else F_m_letters_s n 0 (aU (x) 1 (i).toNat ((0 : Int))) (n0) (w) ((i) + (1 : Int))) := rfl
def F_m_letters (x : MS) (n0 : Int) : Int × MS := (if ((F_m_in (x) (n0) ((1 : Int)) ((4 : Int))).1) = (0) then ((-2 : Int), x) else F_m_letters_s 20 0 (sU (x) 0 (n0)) (n0) ((x).1 0) ((0 : Int)))
set_option maxHeartbeats 4000000 in
set_option maxRecDepth 100000 in
/-- letters -/
theorem c_m_letters (l : Launch) (dC : Nat → ClassId) (dI : Nat → Nat → Nat) (h : Nat) (ad : Nat → Nat) (cI cJ cZ : ClassId) (sz : Nat) (x : MS) (n0 : Int) (rn : iR n0) : Met l yX12_letters wsX12_letters ({ frames := 1, cells := 0, slots := 0, locals := 25 }) (mPc dC dI h ad cI cJ cZ sz x [.ref h, .int (iI n0)]) (va_Qi (fun (r : Int32) (u : MS) => r = iI (F_m_letters (x) (n0)).1 ∧ u = (F_m_letters (x) (n0)).2) (mAt dC dI h ad cI cJ cZ (va_A (mW h ad cI cJ cZ (x)) sz)) (va_A (mW h ad cI cJ cZ (x)) sz)) 0 0 (va_A (mW h ad cI cJ cZ (x)) sz) := by
  refine Met.ofW (cc := cX12_letters) (maxL := 4) (ret := (some .int)) (by decide) rfl ?_
  intro p e s m args below meth c s₁ B hml hv
  obtain ⟨rfl, hsz, hP, hK, hD0⟩ := hv
  have hx := B.exec
  have hb := B.bytes
  have hr := B.returns
  have hts := atoms_spec (ws := wsX12_letters) B.pre
  have hown : s.vm.findClass RX12 = some m.cls := findClass_of_methodNamed B.named
  have hlocks := B.notSynchronized
  have hin : ∀ w ∈ u_ws RX12 TX12 34, w ∈ wsX12_letters := by decide +kernel
  subst hsz
  have hD := hD0.self (sz := s.heap.size)
  generalize hAe : va_A (mW h ad cI cJ cZ (x)) s.heap.size = A at hD ⊢
  have hA : ∀ q : Nat, s.heap.size ≤ q → A q := fun q h => by rw [← hAe]; exact Or.inr h
  have hS : va_S A s.heap s.heap [] := va_S.rf
  have hl := lv_entry ([.ref h, .int (iI n0)]) (n := 4) (Nat.le_of_ble_eq_true rfl)
  rw [lg_entry_eq]
  generalize (lg_sl ([.ref h, .int (iI n0)]) ++ List.replicate (4 - (lg_sl ([.ref h, .int (iI n0)])).length) Slot.unset).toArray = ls at hl ⊢
  have hl : lv_has ls 4 [(0, .ref (h)), (1, .int (iI (n0)))] := hl
  have L : ∀ n : Nat, (∀ (y : MS) (w : Int) (i : Int), (0 ≤ i) → (i ≤ 13) → (13 - i < n) → F_m_letters_s n 0 y n0 w i = F_m_letters (x) (n0) → ∀ (H : Heap) (locs : List Loc) (ls : Array Slot), va_P (dC, dI) vwCl (mW h ad cI cJ cZ (y)) H → va_D A (mW h ad cI cJ cZ (y)) → va_S A s.heap H locs → lv_has ls 4 [(0, .ref (h)), (1, .int (iI (n0))), (2, .int (iI (w))), (3, .int (iI (i)))] → W p l e (headSpec wsX12_letters ({ frames := 1, cells := 0, slots := 0, locals := 25 })).room s m ([.ref h, .int (iI n0)] : List Value).toArray below meth c H locs 0 0 (MQ below (va_Qi (fun (r : Int32) (u : MS) => r = iI (F_m_letters (x) (n0)).1 ∧ u = (F_m_letters (x) (n0)).2) (mAt dC dI h ad cI cJ cZ A) A) ([.ref h, .int (iI n0)] : List Value).toArray s 0 0 A) (F0 m 27 ls [])) := by
    intro n
    induction n with
    | zero =>
      skip
      · intro y w i i0 i1 fu hres
        exact absurd fu (by omega)
    | succ n ih =>
      skip
      · intro y w i i0 i1 fu hres H locs ls hP hD hS hl
        rw [F_m_letters_e0] at hres
        refine lv_iload_n hx hb dX12_letters_27 rfl (lv_at hl 3 rfl) ?_
        refine lv_bipush (v := iI (13 : Int)) hx hb dX12_letters_28 (by decide) ?_
        refine wi_icmp_ge (tgt := 46) hx hb (by first | assumption | (unfold iR; omega) | exact F_R01 (by assumption)) ⟨by decide, by decide⟩ dX12_letters_30 (by decide) (fun c_30 => ?_) (fun c_30 => ?_)
        · skip
          rw [if_pos c_30] at hres
          refine lv_aload_n hx hb dX12_letters_46 rfl (lv_at hl 0 rfl) ?_
          refine lv_iconst (v := iI (0 : Int)) hx hb dX12_letters_47 (by decide) ?_
          refine va_put (D := (dC, dI)) (ci := 12) (v := .int (iI ((0 : Int)))) (ty := .int) (C := RX12) (T := TX12) (N := 34) hx hb hts hin tyX12 tyX12_ok nmX12 hown hK hP hD hS 0 rfl rfl 3 (by decide) (hts (.fieldLink RX12 99 "LikeWordsModel" "laws" "I") (by decide +kernel)) (fun _ h9 => h9) rfl (by decide +kernel) rfl rfl (Nat.le_of_ble_eq_true rfl) dX12_letters_48 (fun H locs hP hD hS => ?_)
          rw [mW_s3] at hP hD
          refine lv_aload_n hx hb dX12_letters_51 rfl (lv_at hl 0 rfl) ?_
          refine lv_bipush (v := iI (-9 : Int)) hx hb dX12_letters_52 (by decide) ?_
          refine va_put (D := (dC, dI)) (ci := 12) (v := .int (iI ((-9 : Int)))) (ty := .int) (C := RX12) (T := TX12) (N := 34) hx hb hts hin tyX12 tyX12_ok nmX12 hown hK hP hD hS 0 rfl rfl 6 (by decide) (hts (.fieldLink RX12 26 "LikeWordsModel" "seen" "I") (by decide +kernel)) (fun _ h9 => h9) rfl (by decide +kernel) rfl rfl (Nat.le_of_ble_eq_true rfl) dX12_letters_54 (fun H locs hP hD hS => ?_)
          rw [mW_s6] at hP hD
          refine lv_iload_n hx hb dX12_letters_57 rfl (lv_at hl 2 rfl) ?_
          exact W.iret (v := iI (w)) hx hb hr (fun t ht hW => ⟨⟨iI (w), sU (sU (y) 3 ((0 : Int))) 6 ((-9 : Int)), rfl, ⟨(by have h9 := congrArg (fun z : Int × MS => iI z.1) hres; exact h9), (by have h9 := congrArg (fun z : Int × MS => z.2) hres; exact h9)⟩, by rw [ht]; exact hP, va_K.moved hW.alike hK, hD⟩, hS.F ht⟩) hS.2.2 dX12_letters_58
        · skip
          rw [if_neg c_30] at hres
          refine lv_aload_n hx hb dX12_letters_33 rfl (lv_at hl 0 rfl) ?_
          refine va_get (D := (dC, dI)) (ci := 12) (v := .ref (ad 1)) (C := RX12) (T := TX12) (N := 34) hx hb hts hin hown hK hP 0 rfl rfl 1 (by decide) (hts (.fieldLink RX12 13 "LikeWordsModel" "size" "[I") (by decide +kernel)) (fun _ h9 => h9) rfl dX12_letters_34 ?_
          refine lv_iload_n hx hb dX12_letters_37 rfl (lv_at hl 3 rfl) ?_
          refine lv_iconst (v := iI (0 : Int)) hx hb dX12_letters_38 (by decide) ?_
          refine wi_iast (f := (y).2 1) hx hb hK hP hD hS 1 0 rfl rfl (i := i) (x := (0 : Int)) (by omega) (by omega) (by decide) dX12_letters_39 (fun H locs hP hD hS => ?_)
          rw [mW_a1] at hP hD
          refine lv_iinc (v := iI ((i) + (1 : Int))) (lv' := [(3, .int (iI ((i) + (1 : Int)))), (0, .ref (h)), (1, .int (iI (n0))), (2, .int (iI (w)))]) hx hb dX12_letters_40 hl (k := 3) rfl (iI_add _ _) (by decide) rfl (fun ls hl => ?_)
          refine lv_goto (tgt := 27) hx hb dX12_letters_43 (by decide) ?_
          exact ih (aU (y) 1 (i).toNat ((0 : Int))) (w) ((i) + (1 : Int)) (by omega) (by omega) (by omega) hres _ _ ls hP hD hS (lv_sub hl [1, 2, 3, 0] rfl)
  have key : ∀ (H : Heap) (locs : List Loc), va_P (dC, dI) vwCl (mW h ad cI cJ cZ (x)) H → va_S A s.heap H locs → W p l e (headSpec wsX12_letters ({ frames := 1, cells := 0, slots := 0, locals := 25 })).room s m ([.ref h, .int (iI n0)] : List Value).toArray below meth c H locs 0 0 (MQ below (va_Qi (fun (r : Int32) (u : MS) => r = iI (F_m_letters (x) (n0)).1 ∧ u = (F_m_letters (x) (n0)).2) (mAt dC dI h ad cI cJ cZ A) A) ([.ref h, .int (iI n0)] : List Value).toArray s 0 0 A) (F0 m 0 ls []) := by
    intro H locs hP hS
    have hres : (if ((F_m_in (x) (n0) ((1 : Int)) ((4 : Int))).1) = (0) then ((-2 : Int), x) else F_m_letters_s 20 0 (sU (x) 0 (n0)) (n0) ((x).1 0) ((0 : Int))) = F_m_letters (x) (n0) := rfl
    refine lv_iload_n hx hb dX12_letters_0 rfl (lv_at hl 1 rfl) ?_
    refine wi_i2l hx hb (by first | assumption | (unfold iR; omega) | exact F_R01 (by assumption)) dX12_letters_1 ?_
    refine lv_lconst (v := iL 1) hx hb dX12_letters_2 (by decide) ?_
    refine lv_ldc2 (v := iL (4 : Int)) hx hb hown (hts (.constantLong RX12 97 (4)) (by decide +kernel)) dX12_letters_3 ?_
    have hFc : ∀ q, va_A (mW h ad cI cJ cZ (x)) H.size q → A q := fun q hq => Or.elim hq (fun ⟨k, e, hk⟩ => hD.2 k (q, e) hk) (fun hk => hA q (Nat.le_trans hS.1 hk))
    refine va_calli (va_runS (As := [.long (iL (n0)), .long (iL ((1 : Int))), .long (iL ((4 : Int)))]) (rest := []) ⟨hx, hb, hml, hown, hts⟩ (c_m_in l dC dI h ad cI cJ cZ H.size (x) (n0) ((1 : Int)) ((4 : Int)) (by first | assumption | exact iR_L (by assumption) | exact ⟨by decide, by decide⟩ | omega | (unfold iR; omega) | (unfold iRL; omega)) (by first | assumption | exact iR_L (by assumption) | exact ⟨by decide, by decide⟩ | omega | (unfold iR; omega) | (unfold iRL; omega)) (by first | assumption | exact iR_L (by assumption) | exact ⟨by decide, by decide⟩ | omega | (unfold iR; omega) | (unfold iRL; omega))) (va_cwS 3 hts gX12_letters_X12_in rfl rfl rfl (by decide +kernel) ⟨Nat.le_of_ble_eq_true rfl, Nat.le_of_ble_eq_true rfl⟩) ⟨fun a U g mk q => by obtain ⟨q0, q1, qP, qK, qD⟩ := q; exact ⟨q0, q1, qP, va_K.moved (u := U) (U := U.calling g mk a) (Vm.Alike.refl U.vm) qK, qD⟩, fun U hU hW => ⟨rfl, by rw [hU], by rw [hU]; exact hP, va_K.moved hW.alike hK, hD.weaken (fun _ _ _ _ => trivial)⟩⟩ rfl rfl hl.1 rfl (lv_room (Nat.le_of_ble_eq_true rfl)) dX12_letters_6 ⟨Nat.le_of_ble_eq_true rfl, Nat.le_of_ble_eq_true rfl⟩) hS (fun q _ h => hFc q h) hFc (fun r9 u9 t H1 locs ht hvm hw hB hz1 hk1 hS => ?_)
    obtain ⟨hP1, hK1, hD1⟩ := hB
    rw [ht] at hP1
    obtain ⟨hw1, hw2⟩ := hw
    rw [hw2] at hP1 hD1
    rw [hw1]
    rw [F_m_in_2] at hP1 hD1
    have hD2 := hD1.weaken (B := A) (fun _ q _ h => hFc q.1 h)
    have hP := hP1
    have hD := hD2
    generalize H1 = H at hP hS ⊢
    refine wi_if_ne (tgt := 15) hx hb (by rw [F_m_in_1]; exact F_R01 (F_in_01 _ _ _)) dX12_letters_9 (by decide) (fun c_9 => ?_) (fun c_9 => ?_)
    · skip
      rw [if_neg c_9] at hres
      refine lv_aload_n hx hb dX12_letters_15 rfl (lv_at hl 0 rfl) ?_
      refine va_get (D := (dC, dI)) (ci := 12) (v := .int (iI ((x).1 0))) (C := RX12) (T := TX12) (N := 34) hx hb hts hin hown hK hP 0 rfl rfl 0 (by decide) (hts (.fieldLink RX12 7 "LikeWordsModel" "letters" "I") (by decide +kernel)) (fun _ h9 => h9) rfl dX12_letters_16 ?_
      refine lv_istore_n (lv' := [(2, .int (iI ((x).1 0))), (0, .ref (h)), (1, .int (iI (n0)))]) hx hb dX12_letters_19 rfl hl (by decide) rfl (fun ls hl => ?_)
      refine lv_aload_n hx hb dX12_letters_20 rfl (lv_at hl 1 rfl) ?_
      refine lv_iload_n hx hb dX12_letters_21 rfl (lv_at hl 2 rfl) ?_
      refine va_put (D := (dC, dI)) (ci := 12) (v := .int (iI (n0))) (ty := .int) (C := RX12) (T := TX12) (N := 34) hx hb hts hin tyX12 tyX12_ok nmX12 hown hK hP hD hS 0 rfl rfl 0 (by decide) (hts (.fieldLink RX12 7 "LikeWordsModel" "letters" "I") (by decide +kernel)) (fun _ h9 => h9) rfl (by decide +kernel) rfl rfl (Nat.le_of_ble_eq_true rfl) dX12_letters_22 (fun H locs hP hD hS => ?_)
      rw [mW_s0] at hP hD
      refine lv_iconst (v := iI (0 : Int)) hx hb dX12_letters_25 (by decide) ?_
      refine lv_istore_n (lv' := [(3, .int (iI ((0 : Int)))), (2, .int (iI ((x).1 0))), (0, .ref (h)), (1, .int (iI (n0)))]) hx hb dX12_letters_26 rfl hl (by decide) rfl (fun ls hl => ?_)
      exact (L (20)) (sU (x) 0 (n0)) ((x).1 0) ((0 : Int)) (by omega) (by omega) (by omega) hres _ _ ls hP hD hS (lv_sub hl [2, 3, 1, 0] rfl)
    · skip
      rw [if_pos c_9] at hres
      refine lv_bipush (v := iI (-2 : Int)) hx hb dX12_letters_12 (by decide) ?_
      exact W.iret (v := iI ((-2 : Int))) hx hb hr (fun t ht hW => ⟨⟨iI ((-2 : Int)), x, rfl, ⟨(by have h9 := congrArg (fun z : Int × MS => iI z.1) hres; exact h9), (by have h9 := congrArg (fun z : Int × MS => z.2) hres; exact h9)⟩, by rw [ht]; exact hP, va_K.moved hW.alike hK, hD⟩, hS.F ht⟩) hS.2.2 dX12_letters_14
  exact key _ _ hP hS
theorem F_m_letters_sfr : ∀ n : Nat, (∀ (y : MS) (v0 : Int) (v1 : Int) (v2 : Int), same [0, 3, 6] [1] y (F_m_letters_s n 0 y v0 v1 v2).2) := by
  intro n
  induction n with
  | zero => exact fun y _ _ _ => sm_rf _ _ _
  | succ n ih =>
    skip
    · intro y n0 w i
      rw [F_m_letters_e0]
      by_cases hc : ((13 : Int)) ≤ (i)
      · rw [if_pos hc]
        exact (sm_s (by decide) (sm_s (by decide) (sm_rf _ _ _)))
      · rw [if_neg hc]
        exact sm_tr ((sm_a (by decide) (sm_rf _ _ _))) (ih (aU (y) 1 (i).toNat ((0 : Int))) (n0) (w) ((i) + (1 : Int)))
theorem F_m_letters_fr (x : MS) (n0 : Int) : same [0, 3, 6] [1] x (F_m_letters (x) (n0)).2 := by
  unfold F_m_letters
  by_cases hc : ((F_m_in (x) (n0) ((1 : Int)) ((4 : Int))).1) = (0)
  · rw [if_pos hc]
    exact (sm_rf _ _ _)
  · rw [if_neg hc]
    exact sm_tr ((sm_s (by decide) (sm_rf _ _ _))) ((F_m_letters_sfr 20) (sU (x) 0 (n0)) (n0) ((x).1 0) ((0 : Int)))
