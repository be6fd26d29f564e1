-- deps: 99.m
def F_m_meets (x : MS) (a : Int) (b : Int) : Int × MS := ((F_m_isSame ((F_m_reduceAt ((F_m_reduceAt (x) (a)).2) (b)).2) (a) (b)).1, (F_m_reduceAt ((F_m_reduceAt (x) (a)).2) (b)).2)
set_option maxHeartbeats 4000000 in
set_option maxRecDepth 100000 in
/-- meets -/
theorem c_m_meets (l : Launch) (dC : Nat → ClassId) (dI : Nat → Nat → Nat) (h : Nat) (ad : Nat → Nat) (cI cJ cZ : ClassId) (sz : Nat) (x : MS) (a : Int) (b : Int) (a0 : 0 ≤ a) (b0 : 0 ≤ b) (ha : rdH x a.toNat) (hb2 : rdH x b.toNat) (ab : a ≠ b) (hw : rwR x) (hrt : rtR x) : Met l yX12_meets wsX12_meets ({ frames := 1, cells := 0, slots := 0, locals := 35 }) (mPc dC dI h ad cI cJ cZ sz x [.ref h, .int (iI a), .int (iI b)]) (va_Qi (fun (r : Int32) (u : MS) => r = iI (F_m_meets (x) (a) (b)).1 ∧ u = (F_m_meets (x) (a) (b)).2) (mAt dC dI h ad cI cJ cZ (va_A (mW h ad cI cJ cZ (x)) sz)) (va_A (mW h ad cI cJ cZ (x)) sz)) 0 0 (va_A (mW h ad cI cJ cZ (x)) sz) := by
  refine Met.ofW (cc := cX12_meets) (maxL := 3) (ret := (some .boolean)) (by decide) rfl ?_
  intro p e s m args below meth c s₁ B hml hv
  obtain ⟨rfl, hsz, hP, hK, hD0⟩ := hv
  have hx := B.exec
  have hb := B.bytes
  have hr := B.returns
  have hts := atoms_spec (ws := wsX12_meets) B.pre
  have hown : s.vm.findClass RX12 = some m.cls := findClass_of_methodNamed B.named
  have hlocks := B.notSynchronized
  subst hsz
  have hD := hD0.self (sz := s.heap.size)
  generalize hAe : va_A (mW h ad cI cJ cZ (x)) s.heap.size = A at hD ⊢
  have hA : ∀ q : Nat, s.heap.size ≤ q → A q := fun q h => by rw [← hAe]; exact Or.inr h
  have hS : va_S A s.heap s.heap [] := va_S.rf
  have hl := lv_entry ([.ref h, .int (iI a), .int (iI b)]) (n := 3) (Nat.le_of_ble_eq_true rfl)
  rw [lg_entry_eq]
  generalize (lg_sl ([.ref h, .int (iI a), .int (iI b)]) ++ List.replicate (3 - (lg_sl ([.ref h, .int (iI a), .int (iI b)])).length) Slot.unset).toArray = ls at hl ⊢
  have hl : lv_has ls 3 [(0, .ref (h)), (1, .int (iI (a))), (2, .int (iI (b)))] := hl
  have ea : (a.toNat : Int) = a := by omega
  have eb : (b.toNat : Int) = b := by omega
  have f1 := reduceAt_f ha hw hrt
  have o1 := rdH_o ha hw hrt hb2 (by omega)
  rw [ea] at f1 o1
  have f2 := reduceAt_f o1.1 f1.2.1 o1.2.1
  rw [eb] at f2
  obtain ⟨⟨a1, a2⟩, ⟨a3, a4⟩, a5, a6, a7⟩ := id ha
  obtain ⟨⟨b1, b2⟩, ⟨b3, b4⟩, b5, b6, b7⟩ := id o1.1
  have ha2 := f2.2.2.2.1 a.toNat (by omega)
  have hb3 := f2.2.2.1
  have ha3 := f1.2.2.1
  have s01 := isSame_x (x := (F_m_reduceAt (F_m_reduceAt x a).2 b).2) (a := a.toNat) (b := b.toNat) (by omega) (by omega) (by omega)
  rw [ea, eb] at s01
  have s02 : (F_m_isSame (F_m_reduceAt (F_m_reduceAt x a).2 b).2 a b).1 = 0 ∨ (F_m_isSame (F_m_reduceAt (F_m_reduceAt x a).2 b).2 a b).1 = 1 := by rcases s01 with h9 | h9; exact Or.inr h9.1; exact Or.inl h9.1
  have key : ∀ (H : Heap) (locs : List Loc), va_P (dC, dI) vwCl (mW h ad cI cJ cZ (x)) H → va_S A s.heap H locs → W p l e (headSpec wsX12_meets ({ frames := 1, cells := 0, slots := 0, locals := 35 })).room s m ([.ref h, .int (iI a), .int (iI b)] : List Value).toArray below meth c H locs 0 0 (MQ below (va_Qi (fun (r : Int32) (u : MS) => r = iI (F_m_meets (x) (a) (b)).1 ∧ u = (F_m_meets (x) (a) (b)).2) (mAt dC dI h ad cI cJ cZ A) A) ([.ref h, .int (iI a), .int (iI b)] : List Value).toArray s 0 0 A) (F0 m 0 ls []) := by
    intro H locs hP hS
    have hres : ((F_m_isSame ((F_m_reduceAt ((F_m_reduceAt (x) (a)).2) (b)).2) (a) (b)).1, (F_m_reduceAt ((F_m_reduceAt (x) (a)).2) (b)).2) = F_m_meets (x) (a) (b) := rfl
    refine lv_aload_n hx hb dX12_meets_0 rfl (lv_at hl 0 rfl) ?_
    refine lv_iload_n hx hb dX12_meets_1 rfl (lv_at hl 1 rfl) ?_
    have hFc : ∀ q, va_A (mW h ad cI cJ cZ (x)) H.size q → A q := fun q hq => Or.elim hq (fun ⟨k, e, hk⟩ => hD.2 k (q, e) hk) (fun hk => hA q (Nat.le_trans hS.1 hk))
    refine va_callv (va_runV (As := [.int (iI (a))]) (rest := []) ⟨hx, hb, hml, hown, hts⟩ (c_m_reduceAt l dC dI h ad cI cJ cZ H.size (x) (a) a0 (by omega) (by omega) a3 a4 a5 a6 a7) (cwV 1 hts gX12_meets_X12_reduceAt rfl rfl rfl (by decide +kernel) ⟨Nat.le_of_ble_eq_true rfl, Nat.le_of_ble_eq_true rfl⟩) ⟨fun a U g mk q => by obtain ⟨q0, q1, qP, qK, qD⟩ := q; exact ⟨q0, q1, qP, va_K.moved (u := U) (U := U.calling g mk a) (Vm.Alike.refl U.vm) qK, qD⟩, va_recv hK hP (ci := 12) (q0 := 0) rfl rfl, fun U hU hW => ⟨rfl, by rw [hU], by rw [hU]; exact hP, va_K.moved hW.alike hK, hD.weaken (fun _ _ _ _ => trivial)⟩⟩ rfl rfl hl.1 rfl (lv_room (Nat.le_of_ble_eq_true rfl)) dX12_meets_2 ⟨Nat.le_of_ble_eq_true rfl, Nat.le_of_ble_eq_true rfl⟩) hS (fun q _ h => hFc q h) hFc (fun u9 t H1 locs ht hvm hw hB hz1 hk1 hS => ?_)
    obtain ⟨hP1, hK1, hD1⟩ := hB
    rw [ht] at hP1
    rw [hw] at hP1 hD1
    have hD2 := hD1.weaken (B := A) (fun _ q _ h => hFc q.1 h)
    have hP := hP1
    have hD := hD2
    generalize H1 = H at hP hS ⊢
    refine lv_aload_n hx hb dX12_meets_5 rfl (lv_at hl 0 rfl) ?_
    refine lv_iload_n hx hb dX12_meets_6 rfl (lv_at hl 2 rfl) ?_
    have hFc : ∀ q, va_A (mW h ad cI cJ cZ ((F_m_reduceAt (x) (a)).2)) H.size q → A q := fun q hq => Or.elim hq (fun ⟨k, e, hk⟩ => hD.2 k (q, e) hk) (fun hk => hA q (Nat.le_trans hS.1 hk))
    refine va_callv (va_runV (As := [.int (iI (b))]) (rest := []) ⟨hx, hb, hml, hown, hts⟩ (c_m_reduceAt l dC dI h ad cI cJ cZ H.size ((F_m_reduceAt (x) (a)).2) (b) b0 (by omega) (by omega) b3 b4 b5 b6 b7) (cwV 1 hts gX12_meets_X12_reduceAt rfl rfl rfl (by decide +kernel) ⟨Nat.le_of_ble_eq_true rfl, Nat.le_of_ble_eq_true rfl⟩) ⟨fun a U g mk q => by obtain ⟨q0, q1, qP, qK, qD⟩ := q; exact ⟨q0, q1, qP, va_K.moved (u := U) (U := U.calling g mk a) (Vm.Alike.refl U.vm) qK, qD⟩, va_recv hK hP (ci := 12) (q0 := 0) rfl rfl, fun U hU hW => ⟨rfl, by rw [hU], by rw [hU]; exact hP, va_K.moved hW.alike hK, hD.weaken (fun _ _ _ _ => trivial)⟩⟩ rfl rfl hl.1 rfl (lv_room (Nat.le_of_ble_eq_true rfl)) dX12_meets_7 ⟨Nat.le_of_ble_eq_true rfl, Nat.le_of_ble_eq_true rfl⟩) hS (fun q _ h => hFc q h) hFc (fun u9 t H1 locs ht hvm hw hB hz1 hk1 hS => ?_)
    obtain ⟨hP1, hK1, hD1⟩ := hB
    rw [ht] at hP1
    rw [hw] at hP1 hD1
    have hD2 := hD1.weaken (B := A) (fun _ q _ h => hFc q.1 h)
    have hP := hP1
    have hD := hD2
    generalize H1 = H at hP hS ⊢
    refine lv_aload_n hx hb dX12_meets_10 rfl (lv_at hl 0 rfl) ?_
    refine lv_iload_n hx hb dX12_meets_11 rfl (lv_at hl 1 rfl) ?_
    refine lv_iload_n hx hb dX12_meets_12 rfl (lv_at hl 2 rfl) ?_
    have hFc : ∀ q, va_A (mW h ad cI cJ cZ ((F_m_reduceAt ((F_m_reduceAt (x) (a)).2) (b)).2)) H.size q → A q := fun q hq => Or.elim hq (fun ⟨k, e, hk⟩ => hD.2 k (q, e) hk) (fun hk => hA q (Nat.le_trans hS.1 hk))
    refine va_calli (va_runV (As := [.int (iI (a)), .int (iI (b))]) (rest := []) ⟨hx, hb, hml, hown, hts⟩ (c_m_isSame l dC dI h ad cI cJ cZ H.size ((F_m_reduceAt ((F_m_reduceAt (x) (a)).2) (b)).2) (a) (b) a0 (by omega) b0 (by omega) (by omega) (by omega) (by unfold iR; omega) f2.2.1) (cwV 2 hts gX12_meets_X12_isSame rfl rfl rfl (by decide +kernel) ⟨Nat.le_of_ble_eq_true rfl, Nat.le_of_ble_eq_true rfl⟩) ⟨fun a U g mk q => by obtain ⟨q0, q1, qP, qK, qD⟩ := q; exact ⟨q0, q1, qP, va_K.moved (u := U) (U := U.calling g mk a) (Vm.Alike.refl U.vm) qK, qD⟩, va_recv hK hP (ci := 12) (q0 := 0) rfl rfl, fun U hU hW => ⟨rfl, by rw [hU], by rw [hU]; exact hP, va_K.moved hW.alike hK, hD.weaken (fun _ _ _ _ => trivial)⟩⟩ rfl rfl hl.1 rfl (lv_room (Nat.le_of_ble_eq_true rfl)) dX12_meets_13 ⟨Nat.le_of_ble_eq_true rfl, Nat.le_of_ble_eq_true rfl⟩) hS (fun q _ h => hFc q h) hFc (fun r9 u9 t H1 locs ht hvm hw hB hz1 hk1 hS => ?_)
    obtain ⟨hP1, hK1, hD1⟩ := hB
    rw [ht] at hP1
    obtain ⟨hw1, hw2⟩ := hw
    rw [hw2] at hP1 hD1
    rw [hw1]
    rw [F_m_isSame_2] at hP1 hD1
    have hD2 := hD1.weaken (B := A) (fun _ q _ h => hFc q.1 h)
    have hP := hP1
    have hD := hD2
    generalize H1 = H at hP hS ⊢
    exact W.zret (v := iI ((F_m_isSame ((F_m_reduceAt ((F_m_reduceAt (x) (a)).2) (b)).2) (a) (b)).1)) hx hb hr (F_z _ (by first | assumption | omega)) (fun t ht hW => ⟨⟨iI ((F_m_isSame ((F_m_reduceAt ((F_m_reduceAt (x) (a)).2) (b)).2) (a) (b)).1), (F_m_reduceAt ((F_m_reduceAt (x) (a)).2) (b)).2, rfl, ⟨(by have h9 := congrArg (fun z : Int × MS => iI z.1) hres; exact h9), (by have h9 := congrArg (fun z : Int × MS => z.2) hres; exact h9)⟩, by rw [ht]; exact hP, va_K.moved hW.alike hK, hD⟩, hS.F ht⟩) hS.2.2 dX12_meets_16
  exact key _ _ hP hS
theorem F_m_meets_fr (x : MS) (a : Int) (b : Int) : same [] [1, 2, 26] x (F_m_meets (x) (a) (b)).2 := by
  unfold F_m_meets
  exact (sm_tr (sm_tr (sm_rf _ _ _) (sm_mono (by decide) (by decide) (F_m_reduceAt_fr (x) (a)))) (sm_mono (by decide) (by decide) (F_m_reduceAt_fr ((F_m_reduceAt (x) (a)).2) (b))))
/-- two STRINGS brought down, each on its own: the same, or not -/
def mtQ (x : MS) (u v : List Int) (w : Int) : Prop := ∃ p q, noL (lM x) (x.1 12).toNat p ∧ noL (lM x) (x.1 12).toNat q ∧ rch (lM x) (rM x) (x.1 12).toNat u p ∧ rch (lM x) (rM x) (x.1 12).toNat v q ∧ ((w = 1 ∧ p = q) ∨ (w = 0 ∧ p ≠ q))
theorem meets_x {x : MS} {a b : Nat} (ha : rdH x a) (hb : rdH x b) (ab : a ≠ b) (hw : rwR x) (hrt : rtR x) : same [] [1, 2, 26] x (F_m_meets x (a : Int) (b : Int)).2 ∧ rwR (F_m_meets x (a : Int) (b : Int)).2 ∧ (∀ j, j ≠ a → j ≠ b → (F_m_meets x (a : Int) (b : Int)).2.2 1 j = x.2 1 j) ∧ (∀ i, i < 128 * a ∨ 128 * a + 128 ≤ i → i < 128 * b ∨ 128 * b + 128 ≤ i → i < 1408 ∨ 1536 ≤ i → (F_m_meets x (a : Int) (b : Int)).2.2 2 i = x.2 2 i) ∧ mtQ x (slM x a) (slM x b) (F_m_meets x (a : Int) (b : Int)).1 := by
  have fr := F_m_meets_fr x (a : Int) (b : Int)
  have f1 := reduceAt_f ha hw hrt
  have o1 := rdH_o ha hw hrt hb (fun h => ab h.symm)
  have f2 := reduceAt_f o1.1 f1.2.1 o1.2.1
  obtain ⟨R, eL, eR, e0, e12, rt⟩ := rlR_eq f1.1 (Or.inr rfl) ha.2.2.2.1
  have ea := f2.2.2.2.1 a ab
  have z := ha.2.1
  have z1 := f1.2.2.1
  have z2 := f2.2.2.1
  have s01 := isSame_x (x := (F_m_reduceAt (F_m_reduceAt x (a : Int)).2 (b : Int)).2) (a := a) (b := b) (by omega) (by omega) (by omega)
  have k1 := ha.1
  have k2 := hb.1
  have es : slM (F_m_reduceAt (F_m_reduceAt x (a : Int)).2 (b : Int)).2 a = slM (F_m_reduceAt x (a : Int)).2 a := slM_o ea (fun i hi => f2.2.2.2.2.1 _ (by omega) (by omega))
  rw [es] at s01
  refine ⟨fr, f2.2.1, fun j h1 h2 => (f2.2.2.2.1 j h2).trans (f1.2.2.2.1 j h1), fun i h1 h2 h3 => (f2.2.2.2.2.1 i h2 h3).trans (f1.2.2.2.2.1 i h1 h3), ?_⟩
  refine ⟨_, _, f1.2.2.2.2.2.2.1, ?_, f1.2.2.2.2.2.2.2, ?_, s01⟩
  · have h9 := f2.2.2.2.2.2.2.1
    rw [eL, e12] at h9; exact h9
  · have h9 := f2.2.2.2.2.2.2.2
    rw [eL, eR, e12, o1.2.2] at h9; exact h9
