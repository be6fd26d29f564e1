theorem F_m_root_s_ok : ∀ (n : Nat) (y : MS) (w r : Int), jOK y → 0 ≤ r → r < 10001 → jOK (F_m_root_s n 0 y w r).2 ∧ 0 ≤ (F_m_root_s n 0 y w r).1 ∧ (F_m_root_s n 0 y w r).1 ≤ r := by
  intro n
  induction n with
  | zero => intro y w r hj h0 h1; exact ⟨hj, Int.le_refl 0, h0⟩
  | succ n ih =>
    intro y w r hj h0 h1
    rw [F_m_root_e0]
    obtain ⟨g0, g1⟩ := hj r.toNat (by omega)
    obtain ⟨g2, g3⟩ := hj ((y.2 9) r.toNat).toNat (by omega)
    split
    · exact ⟨hj, h0, Int.le_refl r⟩
    · obtain ⟨k1, k2, k3⟩ := ih (aU y 9 r.toNat (((y).2 9) ((((y).2 9) (r).toNat)).toNat)) w ((iU ((y).2 9) (r).toNat (((y).2 9) ((((y).2 9) (r).toNat)).toNat)) (r).toNat) (jOK_up hj g2 (by omega)) (by rw [iU_s]; exact g2) (by rw [iU_s]; omega)
      refine ⟨k1, k2, Int.le_trans k3 ?_⟩
      rw [iU_s]; omega
theorem F_m_root_ok {x : MS} {w : Int} (hj : jOK x) (h0 : 0 ≤ w) (h1 : w < 10001) : jOK (F_m_root x w).2 ∧ 0 ≤ (F_m_root x w).1 ∧ (F_m_root x w).1 ≤ w := F_m_root_s_ok 10002 x w w hj h0 h1
def F_m_join (x : MS) (a : Int) (b : Int) : Int × MS := (if ((F_m_root ((F_m_root (x) (a)).2) (b)).1) ≤ ((F_m_root (x) (a)).1) then (0, aU ((F_m_root ((F_m_root (x) (a)).2) (b)).2) 9 ((F_m_root (x) (a)).1).toNat ((F_m_root ((F_m_root (x) (a)).2) (b)).1)) else (0, aU ((F_m_root ((F_m_root (x) (a)).2) (b)).2) 9 ((F_m_root ((F_m_root (x) (a)).2) (b)).1).toNat ((F_m_root (x) (a)).1)))
set_option maxHeartbeats 4000000 in
set_option maxRecDepth 100000 in
/-- join -/
theorem c_m_join (l : Launch) (dC : Nat → ClassId) (dI : Nat → Nat → Nat) (h : Nat) (ad : Nat → Nat) (cI cJ cZ : ClassId) (sz : Nat) (x : MS) (a : Int) (b : Int) (a0 : 0 ≤ a) (a1 : a < 10001) (b0 : 0 ≤ b) (b1 : b < 10001) (hj : jOK x) : Met l yX12_join wsX12_join ({ frames := 1, cells := 0, slots := 0, locals := 22 }) (mPc dC dI h ad cI cJ cZ sz x [.ref h, .int (iI a), .int (iI b)]) (va_Qv (fun u : MS => u = (F_m_join (x) (a) (b)).2) (mAt dC dI h ad cI cJ cZ (va_A (mW h ad cI cJ cZ (x)) sz)) (va_A (mW h ad cI cJ cZ (x)) sz)) 0 0 (va_A (mW h ad cI cJ cZ (x)) sz) := by
  refine Met.ofW (cc := cX12_join) (maxL := 5) (ret := none) (by decide) rfl ?_
  intro p e s m args below meth c s₁ B hml hv
  obtain ⟨rfl, hsz, hP, hK, hD0⟩ := hv
  have hx := B.exec
  have hb := B.bytes
  have hr := B.returns
  have hts := atoms_spec (ws := wsX12_join) B.pre
  have hown : s.vm.findClass RX12 = some m.cls := findClass_of_methodNamed B.named
  have hlocks := B.notSynchronized
  have hin : ∀ w ∈ u_ws RX12 TX12 34, w ∈ wsX12_join := by decide +kernel
  subst hsz
  have hD := hD0.self (sz := s.heap.size)
  generalize hAe : va_A (mW h ad cI cJ cZ (x)) s.heap.size = A at hD ⊢
  have hA : ∀ q : Nat, s.heap.size ≤ q → A q := fun q h => by rw [← hAe]; exact Or.inr h
  have hS : va_S A s.heap s.heap [] := va_S.rf
  have hl := lv_entry ([.ref h, .int (iI a), .int (iI b)]) (n := 5) (Nat.le_of_ble_eq_true rfl)
  rw [lg_entry_eq]
  generalize (lg_sl ([.ref h, .int (iI a), .int (iI b)]) ++ List.replicate (5 - (lg_sl ([.ref h, .int (iI a), .int (iI b)])).length) Slot.unset).toArray = ls at hl ⊢
  have hl : lv_has ls 5 [(0, .ref (h)), (1, .int (iI (a))), (2, .int (iI (b)))] := hl
  have key : ∀ (H : Heap) (locs : List Loc), va_P (dC, dI) vwCl (mW h ad cI cJ cZ (x)) H → va_S A s.heap H locs → W p l e (headSpec wsX12_join ({ frames := 1, cells := 0, slots := 0, locals := 22 })).room s m ([.ref h, .int (iI a), .int (iI b)] : List Value).toArray below meth c H locs 0 0 (MQ below (va_Qv (fun u : MS => u = (F_m_join (x) (a) (b)).2) (mAt dC dI h ad cI cJ cZ A) A) ([.ref h, .int (iI a), .int (iI b)] : List Value).toArray s 0 0 A) (F0 m 0 ls []) := by
    intro H locs hP hS
    have hres : (if ((F_m_root ((F_m_root (x) (a)).2) (b)).1) ≤ ((F_m_root (x) (a)).1) then (0, aU ((F_m_root ((F_m_root (x) (a)).2) (b)).2) 9 ((F_m_root (x) (a)).1).toNat ((F_m_root ((F_m_root (x) (a)).2) (b)).1)) else (0, aU ((F_m_root ((F_m_root (x) (a)).2) (b)).2) 9 ((F_m_root ((F_m_root (x) (a)).2) (b)).1).toNat ((F_m_root (x) (a)).1))) = F_m_join (x) (a) (b) := rfl
    refine lv_aload_n hx hb dX12_join_0 rfl (lv_at hl 0 rfl) ?_
    refine lv_iload_n hx hb dX12_join_1 rfl (lv_at hl 1 rfl) ?_
    have hFc : ∀ q, va_A (mW h ad cI cJ cZ (x)) H.size q → A q := fun q hq => Or.elim hq (fun ⟨k, e, hk⟩ => hD.2 k (q, e) hk) (fun hk => hA q (Nat.le_trans hS.1 hk))
    refine va_calli (va_runV (As := [.int (iI (a))]) (rest := []) ⟨hx, hb, hml, hown, hts⟩ (c_m_root l dC dI h ad cI cJ cZ H.size (x) (a) a0 a1 hj) (cwV 1 hts gX12_join_X12_root rfl rfl rfl (by decide +kernel) ⟨Nat.le_of_ble_eq_true rfl, Nat.le_of_ble_eq_true rfl⟩) ⟨fun a U g mk q => by obtain ⟨q0, q1, qP, qK, qD⟩ := q; exact ⟨q0, q1, qP, va_K.moved (u := U) (U := U.calling g mk a) (Vm.Alike.refl U.vm) qK, qD⟩, va_recv hK hP (ci := 12) (q0 := 0) rfl rfl, fun U hU hW => ⟨rfl, by rw [hU], by rw [hU]; exact hP, va_K.moved hW.alike hK, hD.weaken (fun _ _ _ _ => trivial)⟩⟩ rfl rfl hl.1 rfl (lv_room (Nat.le_of_ble_eq_true rfl)) dX12_join_2 ⟨Nat.le_of_ble_eq_true rfl, Nat.le_of_ble_eq_true rfl⟩) hS (fun q _ h => hFc q h) hFc (fun r9 u9 t H1 locs ht hvm hw hB hz1 hk1 hS => ?_)
    obtain ⟨hP1, hK1, hD1⟩ := hB
    rw [ht] at hP1
    obtain ⟨hw1, hw2⟩ := hw
    rw [hw2] at hP1 hD1
    rw [hw1]
    have hD2 := hD1.weaken (B := A) (fun _ q _ h => hFc q.1 h)
    have hP := hP1
    have hD := hD2
    generalize H1 = H at hP hS ⊢
    refine lv_istore_n (lv' := [(3, .int (iI ((F_m_root (x) (a)).1))), (0, .ref (h)), (1, .int (iI (a))), (2, .int (iI (b)))]) hx hb dX12_join_5 rfl hl (by decide) rfl (fun ls hl => ?_)
    refine lv_aload_n hx hb dX12_join_6 rfl (lv_at hl 1 rfl) ?_
    refine lv_iload_n hx hb dX12_join_7 rfl (lv_at hl 3 rfl) ?_
    have hFc : ∀ q, va_A (mW h ad cI cJ cZ ((F_m_root (x) (a)).2)) H.size q → A q := fun q hq => Or.elim hq (fun ⟨k, e, hk⟩ => hD.2 k (q, e) hk) (fun hk => hA q (Nat.le_trans hS.1 hk))
    refine va_calli (va_runV (As := [.int (iI (b))]) (rest := []) ⟨hx, hb, hml, hown, hts⟩ (c_m_root l dC dI h ad cI cJ cZ H.size ((F_m_root (x) (a)).2) (b) b0 b1 (F_m_root_ok hj a0 a1).1) (cwV 1 hts gX12_join_X12_root rfl rfl rfl (by decide +kernel) ⟨Nat.le_of_ble_eq_true rfl, Nat.le_of_ble_eq_true rfl⟩) ⟨fun a U g mk q => by obtain ⟨q0, q1, qP, qK, qD⟩ := q; exact ⟨q0, q1, qP, va_K.moved (u := U) (U := U.calling g mk a) (Vm.Alike.refl U.vm) qK, qD⟩, va_recv hK hP (ci := 12) (q0 := 0) rfl rfl, fun U hU hW => ⟨rfl, by rw [hU], by rw [hU]; exact hP, va_K.moved hW.alike hK, hD.weaken (fun _ _ _ _ => trivial)⟩⟩ rfl rfl hl.1 rfl (lv_room (Nat.le_of_ble_eq_true rfl)) dX12_join_8 ⟨Nat.le_of_ble_eq_true rfl, Nat.le_of_ble_eq_true rfl⟩) hS (fun q _ h => hFc q h) hFc (fun r9 u9 t H1 locs ht hvm hw hB hz1 hk1 hS => ?_)
    obtain ⟨hP1, hK1, hD1⟩ := hB
    rw [ht] at hP1
    obtain ⟨hw1, hw2⟩ := hw
    rw [hw2] at hP1 hD1
    rw [hw1]
    have hD2 := hD1.weaken (B := A) (fun _ q _ h => hFc q.1 h)
    have hP := hP1
    have hD := hD2
    generalize H1 = H at hP hS ⊢
    refine lv_istore (lv' := [(4, .int (iI ((F_m_root ((F_m_root (x) (a)).2) (b)).1))), (3, .int (iI ((F_m_root (x) (a)).1))), (0, .ref (h)), (1, .int (iI (a))), (2, .int (iI (b)))]) hx hb dX12_join_11 hl (by decide) rfl (fun ls hl => ?_)
    obtain ⟨j1, p0, p1⟩ := F_m_root_ok hj a0 a1
    obtain ⟨j2, q0, q1⟩ := F_m_root_ok j1 b0 b1
    refine lv_iload_n hx hb dX12_join_13 rfl (lv_at hl 1 rfl) ?_
    refine lv_iload hx hb dX12_join_14 (lv_at hl 0 rfl) ?_
    refine wi_icmp_ge (tgt := 30) hx hb (by first | assumption | (unfold iR; omega) | exact F_R01 (by assumption)) (by first | assumption | (unfold iR; omega) | exact F_R01 (by assumption)) dX12_join_16 (by decide) (fun c_16 => ?_) (fun c_16 => ?_)
    · skip
      rw [if_pos c_16] at hres
      refine lv_aload_n hx hb dX12_join_30 rfl (lv_at hl 2 rfl) ?_
      refine va_get (D := (dC, dI)) (ci := 12) (v := .ref (ad 9)) (C := RX12) (T := TX12) (N := 34) hx hb hts hin hown hK hP 0 rfl rfl 9 (by decide) (hts (.fieldLink RX12 32 "LikeWordsModel" "joined" "[I") (by decide +kernel)) (fun _ h9 => h9) rfl dX12_join_31 ?_
      refine lv_iload_n hx hb dX12_join_34 rfl (lv_at hl 1 rfl) ?_
      refine lv_iload hx hb dX12_join_35 (lv_at hl 0 rfl) ?_
      refine wi_iast (f := ((F_m_root ((F_m_root (x) (a)).2) (b)).2).2 9) hx hb hK hP hD hS 6 0 rfl rfl (i := (F_m_root (x) (a)).1) (x := (F_m_root ((F_m_root (x) (a)).2) (b)).1) (by omega) (by omega) (by decide) dX12_join_37 (fun H locs hP hD hS => ?_)
      rw [mW_a9] at hP hD
      exact W.vret hx hb hr (fun t ht hW => ⟨⟨aU ((F_m_root ((F_m_root (x) (a)).2) (b)).2) 9 ((F_m_root (x) (a)).1).toNat ((F_m_root ((F_m_root (x) (a)).2) (b)).1), rfl, (by have h9 := congrArg (fun z : Int × MS => z.2) hres; exact h9), by rw [ht]; exact hP, va_K.moved hW.alike hK, hD⟩, hS.F ht⟩) hS.2.2 dX12_join_38
    · skip
      rw [if_neg c_16] at hres
      refine lv_aload_n hx hb dX12_join_19 rfl (lv_at hl 2 rfl) ?_
      refine va_get (D := (dC, dI)) (ci := 12) (v := .ref (ad 9)) (C := RX12) (T := TX12) (N := 34) hx hb hts hin hown hK hP 0 rfl rfl 9 (by decide) (hts (.fieldLink RX12 32 "LikeWordsModel" "joined" "[I") (by decide +kernel)) (fun _ h9 => h9) rfl dX12_join_20 ?_
      refine lv_iload hx hb dX12_join_23 (lv_at hl 0 rfl) ?_
      refine lv_iload_n hx hb dX12_join_25 rfl (lv_at hl 1 rfl) ?_
      refine wi_iast (f := ((F_m_root ((F_m_root (x) (a)).2) (b)).2).2 9) hx hb hK hP hD hS 6 0 rfl rfl (i := (F_m_root ((F_m_root (x) (a)).2) (b)).1) (x := (F_m_root (x) (a)).1) (by omega) (by omega) (by decide) dX12_join_26 (fun H locs hP hD hS => ?_)
      rw [mW_a9] at hP hD
      refine lv_goto (tgt := 38) hx hb dX12_join_27 (by decide) ?_
      exact W.vret hx hb hr (fun t ht hW => ⟨⟨aU ((F_m_root ((F_m_root (x) (a)).2) (b)).2) 9 ((F_m_root ((F_m_root (x) (a)).2) (b)).1).toNat ((F_m_root (x) (a)).1), rfl, (by have h9 := congrArg (fun z : Int × MS => z.2) hres; exact h9), by rw [ht]; exact hP, va_K.moved hW.alike hK, hD⟩, hS.F ht⟩) hS.2.2 dX12_join_38
  exact key _ _ hP hS
theorem F_m_join_fr (x : MS) (a : Int) (b : Int) : same [] [9] x (F_m_join (x) (a) (b)).2 := by
  unfold F_m_join
  by_cases hc : ((F_m_root ((F_m_root (x) (a)).2) (b)).1) ≤ ((F_m_root (x) (a)).1)
  · rw [if_pos hc]
    exact (sm_a (by decide) (sm_tr (sm_tr (sm_rf _ _ _) (sm_mono (by decide) (by decide) (F_m_root_fr (x) (a)))) (sm_mono (by decide) (by decide) (F_m_root_fr ((F_m_root (x) (a)).2) (b)))))
  · rw [if_neg hc]
    exact (sm_a (by decide) (sm_tr (sm_tr (sm_rf _ _ _) (sm_mono (by decide) (by decide) (F_m_root_fr (x) (a)))) (sm_mono (by decide) (by decide) (F_m_root_fr ((F_m_root (x) (a)).2) (b)))))
theorem F_m_join_ok {x : MS} {a b : Int} (hj : jOK x) (a0 : 0 ≤ a) (a1 : a < 10001) (b0 : 0 ≤ b) (b1 : b < 10001) : jOK (F_m_join x a b).2 := by
  obtain ⟨j1, p0, p1⟩ := F_m_root_ok hj a0 a1
  obtain ⟨j2, q0, q1⟩ := F_m_root_ok j1 b0 b1
  unfold F_m_join
  split
  · exact jOK_up j2 q0 (by omega)
  · exact jOK_up j2 p0 (by omega)
def F_m_joinOne_s : Nat → Nat → MS → Int → Int → Int → Int → Int × MS
  | 0, _, x, _, _, _, _ => (0, x)
  | n + 1, t, x, p0, p1, p2, p3 => match t with
    | 0 => (fun (m0 : Int) (f0 : Int) (t0 : Int) (w : Int) => (if (m0) < (w) then (m0, x) else (if (m0) < (((w) - (f0)) + (t0)) then F_m_joinOne_s n 0 (x) (m0) (f0) (t0) ((w) + (1 : Int)) else F_m_joinOne_s n 0 ((F_m_join (x) (w) (((w) - (f0)) + (t0))).2) (m0) (f0) (t0) ((w) + (1 : Int))))) p0 p1 p2 p3
    | _ => (0, x)
theorem F_m_joinOne_e0 (n : Nat) (x : MS) (m0 : Int) (f0 : Int) (t0 : Int) (w : Int) : F_m_joinOne_s (n + 1) 0 x m0 f0 t0 w = (if (m0) < (w) then (m0, x) else (if (m0) < (((w) - (f0)) + (t0)) then F_m_joinOne_s n 0 (x) (m0) (f0) (t0) ((w) + (1 : Int)) else F_m_joinOne_s n 0 ((F_m_join (x) (w) (((w) - (f0)) + (t0))).2) (m0) (f0) (t0) ((w) + (1 : Int)))) := rfl
def F_m_joinOne (x : MS) (m0 : Int) (f0 : Int) (t0 : Int) : Int × MS := F_m_joinOne_s 20010 0 (x) (m0) (f0) (t0) (f0)
set_option maxHeartbeats 4000000 in
set_option maxRecDepth 100000 in
/-- joinOne -/
theorem c_m_joinOne (l : Launch) (dC : Nat → ClassId) (dI : Nat → Nat → Nat) (h : Nat) (ad : Nat → Nat) (cI cJ cZ : ClassId) (sz : Nat) (x : MS) (m0 : Int) (f0 : Int) (t0 : Int) (m1 : 0 ≤ m0) (m2 : m0 < 10001) (f1 : 0 ≤ f0) (f2 : f0 < 10001) (t1 : 0 ≤ t0) (t2 : t0 < 10001) (hj : jOK x) : Met l yX12_joinOne wsX12_joinOne ({ frames := 2, cells := 0, slots := 0, locals := 46 }) (mPc dC dI h ad cI cJ cZ sz x [.ref h, .int (iI m0), .int (iI f0), .int (iI t0)]) (va_Qi (fun (r : Int32) (u : MS) => r = iI (F_m_joinOne (x) (m0) (f0) (t0)).1 ∧ u = (F_m_joinOne (x) (m0) (f0) (t0)).2) (mAt dC dI h ad cI cJ cZ (va_A (mW h ad cI cJ cZ (x)) sz)) (va_A (mW h ad cI cJ cZ (x)) sz)) 0 0 (va_A (mW h ad cI cJ cZ (x)) sz) := by
  refine Met.ofW (cc := cX12_joinOne) (maxL := 5) (ret := (some .int)) (by decide) rfl ?_
  intro p e s m args below meth c s₁ B hml hv
  obtain ⟨rfl, hsz, hP, hK, hD0⟩ := hv
  have hx := B.exec
  have hb := B.bytes
  have hr := B.returns
  have hts := atoms_spec (ws := wsX12_joinOne) B.pre
  have hown : s.vm.findClass RX12 = some m.cls := findClass_of_methodNamed B.named
  have hlocks := B.notSynchronized
  subst hsz
  have hD := hD0.self (sz := s.heap.size)
  generalize hAe : va_A (mW h ad cI cJ cZ (x)) s.heap.size = A at hD ⊢
  have hA : ∀ q : Nat, s.heap.size ≤ q → A q := fun q h => by rw [← hAe]; exact Or.inr h
  have hS : va_S A s.heap s.heap [] := va_S.rf
  have hl := lv_entry ([.ref h, .int (iI m0), .int (iI f0), .int (iI t0)]) (n := 5) (Nat.le_of_ble_eq_true rfl)
  rw [lg_entry_eq]
  generalize (lg_sl ([.ref h, .int (iI m0), .int (iI f0), .int (iI t0)]) ++ List.replicate (5 - (lg_sl ([.ref h, .int (iI m0), .int (iI f0), .int (iI t0)])).length) Slot.unset).toArray = ls at hl ⊢
  have hl : lv_has ls 5 [(0, .ref (h)), (1, .int (iI (m0))), (2, .int (iI (f0))), (3, .int (iI (t0)))] := hl
  have L : ∀ n : Nat, (∀ (y : MS) (w : Int), (f0 ≤ w) → (w ≤ 10001) → (jOK y) → (10001 - w < n) → F_m_joinOne_s n 0 y m0 f0 t0 w = F_m_joinOne (x) (m0) (f0) (t0) → ∀ (H : Heap) (locs : List Loc) (ls : Array Slot), va_P (dC, dI) vwCl (mW h ad cI cJ cZ (y)) H → va_D A (mW h ad cI cJ cZ (y)) → va_S A s.heap H locs → lv_has ls 5 [(0, .ref (h)), (1, .int (iI (m0))), (2, .int (iI (f0))), (3, .int (iI (t0))), (4, .int (iI (w)))] → W p l e (headSpec wsX12_joinOne ({ frames := 2, cells := 0, slots := 0, locals := 46 })).room s m ([.ref h, .int (iI m0), .int (iI f0), .int (iI t0)] : List Value).toArray below meth c H locs 0 0 (MQ below (va_Qi (fun (r : Int32) (u : MS) => r = iI (F_m_joinOne (x) (m0) (f0) (t0)).1 ∧ u = (F_m_joinOne (x) (m0) (f0) (t0)).2) (mAt dC dI h ad cI cJ cZ A) A) ([.ref h, .int (iI m0), .int (iI f0), .int (iI t0)] : List Value).toArray s 0 0 A) (F0 m 3 ls [])) := by
    intro n
    induction n with
    | zero =>
      skip
      · intro y w w0 w1 hjy fu hres
        exact absurd fu (by omega)
    | succ n ih =>
      skip
      · intro y w w0 w1 hjy fu hres H locs ls hP hD hS hl
        rw [F_m_joinOne_e0] at hres
        refine lv_iload hx hb dX12_joinOne_3 (lv_at hl 4 rfl) ?_
        refine lv_iload_n hx hb dX12_joinOne_5 rfl (lv_at hl 1 rfl) ?_
        refine wi_icmp_gt (tgt := 37) hx hb (by first | assumption | (unfold iR; omega) | exact F_R01 (by assumption)) (by first | assumption | (unfold iR; omega) | exact F_R01 (by assumption)) dX12_joinOne_6 (by decide) (fun c_6 => ?_) (fun c_6 => ?_)
        · skip
          rw [if_pos c_6] at hres
          refine lv_iload_n hx hb dX12_joinOne_37 rfl (lv_at hl 1 rfl) ?_
          exact W.iret (v := iI (m0)) hx hb hr (fun t ht hW => ⟨⟨iI (m0), y, rfl, ⟨(by have h9 := congrArg (fun z : Int × MS => iI z.1) hres; exact h9), (by have h9 := congrArg (fun z : Int × MS => z.2) hres; exact h9)⟩, by rw [ht]; exact hP, va_K.moved hW.alike hK, hD⟩, hS.F ht⟩) hS.2.2 dX12_joinOne_38
        · skip
          rw [if_neg c_6] at hres
          refine lv_iload hx hb dX12_joinOne_9 (lv_at hl 4 rfl) ?_
          refine lv_iload_n hx hb dX12_joinOne_11 rfl (lv_at hl 2 rfl) ?_
          refine wi_isub hx hb dX12_joinOne_12 ?_
          refine lv_iload_n hx hb dX12_joinOne_13 rfl (lv_at hl 3 rfl) ?_
          refine wi_iadd hx hb dX12_joinOne_14 ?_
          refine lv_iload_n hx hb dX12_joinOne_15 rfl (lv_at hl 1 rfl) ?_
          refine wi_icmp_gt (tgt := 31) hx hb (by first | assumption | (unfold iR; omega) | exact F_R01 (by assumption)) (by first | assumption | (unfold iR; omega) | exact F_R01 (by assumption)) dX12_joinOne_16 (by decide) (fun c_16 => ?_) (fun c_16 => ?_)
          · skip
            rw [if_pos c_16] at hres
            refine lv_iinc (v := iI ((w) + (1 : Int))) (lv' := [(4, .int (iI ((w) + (1 : Int)))), (0, .ref (h)), (1, .int (iI (m0))), (2, .int (iI (f0))), (3, .int (iI (t0)))]) hx hb dX12_joinOne_31 hl (k := 4) rfl (iI_add _ _) (by decide) rfl (fun ls hl => ?_)
            refine lv_goto (tgt := 3) hx hb dX12_joinOne_34 (by decide) ?_
            exact ih (y) ((w) + (1 : Int)) (by omega) (by omega) (hjy) (by omega) hres _ _ ls hP hD hS (lv_sub hl [1, 2, 3, 4, 0] rfl)
          · skip
            rw [if_neg c_16] at hres
            refine lv_aload_n hx hb dX12_joinOne_19 rfl (lv_at hl 0 rfl) ?_
            refine lv_iload hx hb dX12_joinOne_20 (lv_at hl 4 rfl) ?_
            refine lv_iload hx hb dX12_joinOne_22 (lv_at hl 4 rfl) ?_
            refine lv_iload_n hx hb dX12_joinOne_24 rfl (lv_at hl 2 rfl) ?_
            refine wi_isub hx hb dX12_joinOne_25 ?_
            refine lv_iload_n hx hb dX12_joinOne_26 rfl (lv_at hl 3 rfl) ?_
            refine wi_iadd hx hb dX12_joinOne_27 ?_
            have hFc : ∀ q, va_A (mW h ad cI cJ cZ (y)) H.size q → A q := fun q hq => Or.elim hq (fun ⟨k, e, hk⟩ => hD.2 k (q, e) hk) (fun hk => hA q (Nat.le_trans hS.1 hk))
            refine va_callv (va_runV (As := [.int (iI (w)), .int (iI (((w) - (f0)) + (t0)))]) (rest := []) ⟨hx, hb, hml, hown, hts⟩ (c_m_join l dC dI h ad cI cJ cZ H.size (y) (w) (((w) - (f0)) + (t0)) (by omega) (by omega) (by omega) (by omega) hjy) (cwV 2 hts gX12_joinOne_X12_join rfl rfl rfl (by decide +kernel) ⟨Nat.le_of_ble_eq_true rfl, Nat.le_of_ble_eq_true rfl⟩) ⟨fun a U g mk q => by obtain ⟨q0, q1, qP, qK, qD⟩ := q; exact ⟨q0, q1, qP, va_K.moved (u := U) (U := U.calling g mk a) (Vm.Alike.refl U.vm) qK, qD⟩, va_recv hK hP (ci := 12) (q0 := 0) rfl rfl, fun U hU hW => ⟨rfl, by rw [hU], by rw [hU]; exact hP, va_K.moved hW.alike hK, hD.weaken (fun _ _ _ _ => trivial)⟩⟩ rfl rfl hl.1 rfl (lv_room (Nat.le_of_ble_eq_true rfl)) dX12_joinOne_28 ⟨Nat.le_of_ble_eq_true rfl, Nat.le_of_ble_eq_true rfl⟩) hS (fun q _ h => hFc q h) hFc (fun u9 t H1 locs ht hvm hw hB hz1 hk1 hS => ?_)
            obtain ⟨hP1, hK1, hD1⟩ := hB
            rw [ht] at hP1
            rw [hw] at hP1 hD1
            have hD2 := hD1.weaken (B := A) (fun _ q _ h => hFc q.1 h)
            have hP := hP1
            have hD := hD2
            generalize H1 = H at hP hS ⊢
            refine lv_iinc (v := iI ((w) + (1 : Int))) (lv' := [(4, .int (iI ((w) + (1 : Int)))), (0, .ref (h)), (1, .int (iI (m0))), (2, .int (iI (f0))), (3, .int (iI (t0)))]) hx hb dX12_joinOne_31 hl (k := 4) rfl (iI_add _ _) (by decide) rfl (fun ls hl => ?_)
            refine lv_goto (tgt := 3) hx hb dX12_joinOne_34 (by decide) ?_
            exact ih ((F_m_join (y) (w) (((w) - (f0)) + (t0))).2) ((w) + (1 : Int)) (by omega) (by omega) (F_m_join_ok hjy (by omega) (by omega) (by omega) (by omega)) (by omega) hres _ _ ls hP hD hS (lv_sub hl [1, 2, 3, 4, 0] rfl)
  have key : ∀ (H : Heap) (locs : List Loc), va_P (dC, dI) vwCl (mW h ad cI cJ cZ (x)) H → va_S A s.heap H locs → W p l e (headSpec wsX12_joinOne ({ frames := 2, cells := 0, slots := 0, locals := 46 })).room s m ([.ref h, .int (iI m0), .int (iI f0), .int (iI t0)] : List Value).toArray below meth c H locs 0 0 (MQ below (va_Qi (fun (r : Int32) (u : MS) => r = iI (F_m_joinOne (x) (m0) (f0) (t0)).1 ∧ u = (F_m_joinOne (x) (m0) (f0) (t0)).2) (mAt dC dI h ad cI cJ cZ A) A) ([.ref h, .int (iI m0), .int (iI f0), .int (iI t0)] : List Value).toArray s 0 0 A) (F0 m 0 ls []) := by
    intro H locs hP hS
    have hres : F_m_joinOne_s 20010 0 (x) (m0) (f0) (t0) (f0) = F_m_joinOne (x) (m0) (f0) (t0) := rfl
    refine lv_iload_n hx hb dX12_joinOne_0 rfl (lv_at hl 2 rfl) ?_
    refine lv_istore (lv' := [(4, .int (iI (f0))), (0, .ref (h)), (1, .int (iI (m0))), (2, .int (iI (f0))), (3, .int (iI (t0)))]) hx hb dX12_joinOne_1 hl (by decide) rfl (fun ls hl => ?_)
    exact (L (20010)) (x) (f0) (by omega) (by omega) (hj) (by omega) hres _ _ ls hP hD hS (lv_sub hl [1, 2, 3, 4, 0] rfl)
  exact key _ _ hP hS
theorem F_m_joinOne_sfr : ∀ n : Nat, (∀ (y : MS) (v0 : Int) (v1 : Int) (v2 : Int) (v3 : Int), same [] [9] y (F_m_joinOne_s n 0 y v0 v1 v2 v3).2) := by
  intro n
  induction n with
  | zero => exact fun y _ _ _ _ => sm_rf _ _ _
  | succ n ih =>
    skip
    · intro y m0 f0 t0 w
      rw [F_m_joinOne_e0]
      by_cases hc : (m0) < (w)
      · rw [if_pos hc]
        exact (sm_rf _ _ _)
      · rw [if_neg hc]
        by_cases hc : (m0) < (((w) - (f0)) + (t0))
        · rw [if_pos hc]
          exact sm_tr ((sm_rf _ _ _)) (ih (y) (m0) (f0) (t0) ((w) + (1 : Int)))
        · rw [if_neg hc]
          exact sm_tr ((sm_tr (sm_rf _ _ _) (sm_mono (by decide) (by decide) (F_m_join_fr (y) (w) (((w) - (f0)) + (t0)))))) (ih ((F_m_join (y) (w) (((w) - (f0)) + (t0))).2) (m0) (f0) (t0) ((w) + (1 : Int)))
theorem F_m_joinOne_fr (x : MS) (m0 : Int) (f0 : Int) (t0 : Int) : same [] [9] x (F_m_joinOne (x) (m0) (f0) (t0)).2 := by
  unfold F_m_joinOne
  exact sm_tr ((sm_rf _ _ _)) ((F_m_joinOne_sfr 20010) (x) (m0) (f0) (t0) (f0))
def F_m_wordsTo_s : Nat → Nat → MS → Int → Int → Int → Int → Int × MS
  | 0, _, x, _, _, _, _ => (0, x)
  | n + 1, t, x, p0, p1, p2, p3 => match t with
    | 0 => (fun (m0 : Int) (w : Int) (q : Int) (k : Int) => (if (m0) < (k) then (if (iC (w) ((10000 : Int))) ≤ (0) then (w, x) else ((10001 : Int), x)) else (if (0) < (iC (w) ((10000 : Int))) then (if (iC (w) ((10000 : Int))) ≤ (0) then (w, x) else ((10001 : Int), x)) else F_m_wordsTo_s n 0 (x) (m0) ((w) + (q)) ((q) * ((x).1 0)) ((k) + (1 : Int))))) p0 p1 p2 p3
    | _ => (0, x)
theorem F_m_wordsTo_e0 (n : Nat) (x : MS) (m0 : Int) (w : Int) (q : Int) (k : Int) : F_m_wordsTo_s (n + 1) 0 x m0 w q k = (if (m0) < (k) then (if (iC (w) ((10000 : Int))) ≤ (0) then (w, x) else ((10001 : Int), x)) else (if (0) < (iC (w) ((10000 : Int))) then (if (iC (w) ((10000 : Int))) ≤ (0) then (w, x) else ((10001 : Int), x)) else F_m_wordsTo_s n 0 (x) (m0) ((w) + (q)) ((q) * ((x).1 0)) ((k) + (1 : Int)))) := rfl
def F_m_wordsTo (x : MS) (m0 : Int) : Int × MS := F_m_wordsTo_s 110 0 (x) (m0) ((0 : Int)) ((1 : Int)) ((0 : Int))
set_option maxHeartbeats 4000000 in
set_option maxRecDepth 100000 in
/-- wordsTo -/
theorem c_m_wordsTo (l : Launch) (dC : Nat → ClassId) (dI : Nat → Nat → Nat) (h : Nat) (ad : Nat → Nat) (cI cJ cZ : ClassId) (sz : Nat) (x : MS) (m0 : Int) (rm : iR m0) (m1 : m0 ≤ 100) (lt : 1 ≤ x.1 0 ∧ x.1 0 ≤ 4) : Met l yX12_wordsTo wsX12_wordsTo ({ frames := 0, cells := 0, slots := 0, locals := 0 }) (mPc dC dI h ad cI cJ cZ sz x [.ref h, .int (iI m0)]) (va_Qi (fun (r : Int32) (u : MS) => r = iI (F_m_wordsTo (x) (m0)).1 ∧ u = (F_m_wordsTo (x) (m0)).2) (mAt dC dI h ad cI cJ cZ (va_A (mW h ad cI cJ cZ (x)) sz)) (va_A (mW h ad cI cJ cZ (x)) sz)) 0 0 (va_A (mW h ad cI cJ cZ (x)) sz) := by
  refine Met.ofW (cc := cX12_wordsTo) (maxL := 7) (ret := (some .int)) (by decide) rfl ?_
  intro p e s m args below meth c s₁ B hml hv
  obtain ⟨rfl, hsz, hP, hK, hD0⟩ := hv
  have hx := B.exec
  have hb := B.bytes
  have hr := B.returns
  have hts := atoms_spec (ws := wsX12_wordsTo) B.pre
  have hown : s.vm.findClass RX12 = some m.cls := findClass_of_methodNamed B.named
  have hlocks := B.notSynchronized
  have hin : ∀ w ∈ u_ws RX12 TX12 34, w ∈ wsX12_wordsTo := by decide +kernel
  subst hsz
  have hD := hD0.self (sz := s.heap.size)
  generalize hAe : va_A (mW h ad cI cJ cZ (x)) s.heap.size = A at hD ⊢
  have hA : ∀ q : Nat, s.heap.size ≤ q → A q := fun q h => by rw [← hAe]; exact Or.inr h
  have hS : va_S A s.heap s.heap [] := va_S.rf
  have hl := lv_entry ([.ref h, .int (iI m0)]) (n := 7) (Nat.le_of_ble_eq_true rfl)
  rw [lg_entry_eq]
  generalize (lg_sl ([.ref h, .int (iI m0)]) ++ List.replicate (7 - (lg_sl ([.ref h, .int (iI m0)])).length) Slot.unset).toArray = ls at hl ⊢
  have hl : lv_has ls 7 [(0, .ref (h)), (1, .int (iI (m0)))] := hl
  have L : ∀ n : Nat, (∀ (w : Int) (q : Int) (k : Int), (0 ≤ k) → (k ≤ 101) → (0 ≤ w) → (w ≤ 100000) → (1 ≤ q) → (q ≤ 4 * w + 1) → (1 ≤ x.1 0 ∧ x.1 0 ≤ 4) → (101 - k < n) → F_m_wordsTo_s n 0 x m0 w q k = F_m_wordsTo (x) (m0) → ∀ (H : Heap) (locs : List Loc) (ls : Array Slot), va_P (dC, dI) vwCl (mW h ad cI cJ cZ (x)) H → va_D A (mW h ad cI cJ cZ (x)) → va_S A s.heap H locs → lv_has ls 7 [(0, .ref (h)), (1, .int (iI (m0))), (2, .long (iL (w))), (4, .long (iL (q))), (6, .int (iI (k)))] → W p l e (headSpec wsX12_wordsTo ({ frames := 0, cells := 0, slots := 0, locals := 0 })).room s m ([.ref h, .int (iI m0)] : List Value).toArray below meth c H locs 0 0 (MQ below (va_Qi (fun (r : Int32) (u : MS) => r = iI (F_m_wordsTo (x) (m0)).1 ∧ u = (F_m_wordsTo (x) (m0)).2) (mAt dC dI h ad cI cJ cZ A) A) ([.ref h, .int (iI m0)] : List Value).toArray s 0 0 A) (F0 m 8 ls [])) := by
    intro n
    induction n with
    | zero =>
      skip
      · intro w q k k0 k1 w0 w1 q0 q1 lty fu hres
        exact absurd fu (by omega)
    | succ n ih =>
      skip
      · intro w q k k0 k1 w0 w1 q0 q1 lty fu hres H locs ls hP hD hS hl
        rw [F_m_wordsTo_e0] at hres
        have l0 := lty.1
        have l1 := lty.2
        have n1 : q * 1 ≤ q * x.1 0 := Int.mul_le_mul_of_nonneg_left l0 (by omega)
        have n2 : q * x.1 0 ≤ q * 4 := Int.mul_le_mul_of_nonneg_left l1 (by omega)
        refine lv_iload hx hb dX12_wordsTo_8 (lv_at hl 4 rfl) ?_
        refine lv_iload_n hx hb dX12_wordsTo_10 rfl (lv_at hl 1 rfl) ?_
        refine wi_icmp_gt (tgt := 43) hx hb (by first | assumption | (unfold iR; omega) | exact F_R01 (by assumption)) (by first | assumption | (unfold iR; omega) | exact F_R01 (by assumption)) dX12_wordsTo_11 (by decide) (fun c_11 => ?_) (fun c_11 => ?_)
        · skip
          rw [if_pos c_11] at hres
          refine lv_lload_n hx hb dX12_wordsTo_43 rfl (lv_at hl 2 rfl) ?_
          refine lv_ldc2 (v := iL (10000 : Int)) hx hb hown (hts (.constantLong RX12 110 (10000)) (by decide +kernel)) dX12_wordsTo_44 ?_
          refine wi_lcmp hx hb (by first | assumption | exact iR_L (by assumption) | (unfold iRL; omega)) ⟨by decide, by decide⟩ dX12_wordsTo_47 ?_
          refine wi_if_le (tgt := 57) hx hb iC_R dX12_wordsTo_48 (by decide) (fun c_48 => ?_) (fun c_48 => ?_)
          · skip
            rw [if_pos c_48] at hres
            refine lv_lload_n hx hb dX12_wordsTo_57 rfl (lv_at hl 2 rfl) ?_
            refine wi_l2i hx hb (by unfold iR; omega) dX12_wordsTo_58 ?_
            exact W.iret (v := iI (w)) hx hb hr (fun t ht hW => ⟨⟨iI (w), x, rfl, ⟨(by have h9 := congrArg (fun z : Int × MS => iI z.1) hres; exact h9), (by have h9 := congrArg (fun z : Int × MS => z.2) hres; exact h9)⟩, by rw [ht]; exact hP, va_K.moved hW.alike hK, hD⟩, hS.F ht⟩) hS.2.2 dX12_wordsTo_59
          · skip
            rw [if_neg c_48] at hres
            refine lv_sipush (v := iI (10001 : Int)) hx hb dX12_wordsTo_51 (by decide) ?_
            refine lv_goto (tgt := 59) hx hb dX12_wordsTo_54 (by decide) ?_
            exact W.iret (v := iI ((10001 : Int))) hx hb hr (fun t ht hW => ⟨⟨iI ((10001 : Int)), x, rfl, ⟨(by have h9 := congrArg (fun z : Int × MS => iI z.1) hres; exact h9), (by have h9 := congrArg (fun z : Int × MS => z.2) hres; exact h9)⟩, by rw [ht]; exact hP, va_K.moved hW.alike hK, hD⟩, hS.F ht⟩) hS.2.2 dX12_wordsTo_59
        · skip
          rw [if_neg c_11] at hres
          refine lv_lload_n hx hb dX12_wordsTo_14 rfl (lv_at hl 2 rfl) ?_
          refine lv_ldc2 (v := iL (10000 : Int)) hx hb hown (hts (.constantLong RX12 110 (10000)) (by decide +kernel)) dX12_wordsTo_15 ?_
          refine wi_lcmp hx hb (by first | assumption | exact iR_L (by assumption) | (unfold iRL; omega)) ⟨by decide, by decide⟩ dX12_wordsTo_18 ?_
          refine wi_if_gt (tgt := 43) hx hb iC_R dX12_wordsTo_19 (by decide) (fun c_19 => ?_) (fun c_19 => ?_)
          · skip
            rw [if_pos c_19] at hres
            refine lv_lload_n hx hb dX12_wordsTo_43 rfl (lv_at hl 2 rfl) ?_
            refine lv_ldc2 (v := iL (10000 : Int)) hx hb hown (hts (.constantLong RX12 110 (10000)) (by decide +kernel)) dX12_wordsTo_44 ?_
            refine wi_lcmp hx hb (by first | assumption | exact iR_L (by assumption) | (unfold iRL; omega)) ⟨by decide, by decide⟩ dX12_wordsTo_47 ?_
            refine wi_if_le (tgt := 57) hx hb iC_R dX12_wordsTo_48 (by decide) (fun c_48 => ?_) (fun c_48 => ?_)
            · skip
              rw [if_pos c_48] at hres
              refine lv_lload_n hx hb dX12_wordsTo_57 rfl (lv_at hl 2 rfl) ?_
              refine wi_l2i hx hb (by unfold iR; omega) dX12_wordsTo_58 ?_
              exact W.iret (v := iI (w)) hx hb hr (fun t ht hW => ⟨⟨iI (w), x, rfl, ⟨(by have h9 := congrArg (fun z : Int × MS => iI z.1) hres; exact h9), (by have h9 := congrArg (fun z : Int × MS => z.2) hres; exact h9)⟩, by rw [ht]; exact hP, va_K.moved hW.alike hK, hD⟩, hS.F ht⟩) hS.2.2 dX12_wordsTo_59
            · skip
              rw [if_neg c_48] at hres
              refine lv_sipush (v := iI (10001 : Int)) hx hb dX12_wordsTo_51 (by decide) ?_
              refine lv_goto (tgt := 59) hx hb dX12_wordsTo_54 (by decide) ?_
              exact W.iret (v := iI ((10001 : Int))) hx hb hr (fun t ht hW => ⟨⟨iI ((10001 : Int)), x, rfl, ⟨(by have h9 := congrArg (fun z : Int × MS => iI z.1) hres; exact h9), (by have h9 := congrArg (fun z : Int × MS => z.2) hres; exact h9)⟩, by rw [ht]; exact hP, va_K.moved hW.alike hK, hD⟩, hS.F ht⟩) hS.2.2 dX12_wordsTo_59
          · skip
            rw [if_neg c_19] at hres
            refine lv_lload_n hx hb dX12_wordsTo_22 rfl (lv_at hl 2 rfl) ?_
            refine lv_lload hx hb dX12_wordsTo_23 (lv_at hl 3 rfl) ?_
            refine wi_ladd hx hb dX12_wordsTo_25 ?_
            refine lv_lstore_n (lv' := [(2, .long (iL ((w) + (q)))), (0, .ref (h)), (1, .int (iI (m0))), (4, .long (iL (q))), (6, .int (iI (k)))]) hx hb dX12_wordsTo_26 rfl hl (by decide) rfl (fun ls hl => ?_)
            refine lv_lload hx hb dX12_wordsTo_27 (lv_at hl 3 rfl) ?_
            refine lv_aload_n hx hb dX12_wordsTo_29 rfl (lv_at hl 1 rfl) ?_
            refine va_get (D := (dC, dI)) (ci := 12) (v := .int (iI ((x).1 0))) (C := RX12) (T := TX12) (N := 34) hx hb hts hin hown hK hP 0 rfl rfl 0 (by decide) (hts (.fieldLink RX12 7 "LikeWordsModel" "letters" "I") (by decide +kernel)) (fun _ h9 => h9) rfl dX12_wordsTo_30 ?_
            refine wi_i2l hx hb (by unfold iR; omega) dX12_wordsTo_33 ?_
            refine wi_lmul hx hb dX12_wordsTo_34 ?_
            refine lv_lstore (lv' := [(4, .long (iL ((q) * ((x).1 0)))), (2, .long (iL ((w) + (q)))), (0, .ref (h)), (1, .int (iI (m0))), (6, .int (iI (k)))]) hx hb dX12_wordsTo_35 hl (by decide) rfl (fun ls hl => ?_)
            refine lv_iinc (v := iI ((k) + (1 : Int))) (lv' := [(6, .int (iI ((k) + (1 : Int)))), (4, .long (iL ((q) * ((x).1 0)))), (2, .long (iL ((w) + (q)))), (0, .ref (h)), (1, .int (iI (m0)))]) hx hb dX12_wordsTo_37 hl (k := 4) rfl (iI_add _ _) (by decide) rfl (fun ls hl => ?_)
            refine lv_goto (tgt := 8) hx hb dX12_wordsTo_40 (by decide) ?_
            exact ih  ((w) + (q)) ((q) * ((x).1 0)) ((k) + (1 : Int)) (by omega) (by omega) (by omega) (by rw [iC_gt] at c_19; omega) (by omega) (by omega) (lty) (by omega) hres _ _ ls hP hD hS (lv_sub hl [3, 4, 2, 1, 0] rfl)
  have key : ∀ (H : Heap) (locs : List Loc), va_P (dC, dI) vwCl (mW h ad cI cJ cZ (x)) H → va_S A s.heap H locs → W p l e (headSpec wsX12_wordsTo ({ frames := 0, cells := 0, slots := 0, locals := 0 })).room s m ([.ref h, .int (iI m0)] : List Value).toArray below meth c H locs 0 0 (MQ below (va_Qi (fun (r : Int32) (u : MS) => r = iI (F_m_wordsTo (x) (m0)).1 ∧ u = (F_m_wordsTo (x) (m0)).2) (mAt dC dI h ad cI cJ cZ A) A) ([.ref h, .int (iI m0)] : List Value).toArray s 0 0 A) (F0 m 0 ls []) := by
    intro H locs hP hS
    have hres : F_m_wordsTo_s 110 0 (x) (m0) ((0 : Int)) ((1 : Int)) ((0 : Int)) = F_m_wordsTo (x) (m0) := rfl
    refine lv_lconst (v := iL 0) hx hb dX12_wordsTo_0 (by decide) ?_
    refine lv_lstore_n (lv' := [(2, .long (iL ((0 : Int)))), (0, .ref (h)), (1, .int (iI (m0)))]) hx hb dX12_wordsTo_1 rfl hl (by decide) rfl (fun ls hl => ?_)
    refine lv_lconst (v := iL 1) hx hb dX12_wordsTo_2 (by decide) ?_
    refine lv_lstore (lv' := [(4, .long (iL ((1 : Int)))), (2, .long (iL ((0 : Int)))), (0, .ref (h)), (1, .int (iI (m0)))]) hx hb dX12_wordsTo_3 hl (by decide) rfl (fun ls hl => ?_)
    refine lv_iconst (v := iI (0 : Int)) hx hb dX12_wordsTo_5 (by decide) ?_
    refine lv_istore (lv' := [(6, .int (iI ((0 : Int)))), (4, .long (iL ((1 : Int)))), (2, .long (iL ((0 : Int)))), (0, .ref (h)), (1, .int (iI (m0)))]) hx hb dX12_wordsTo_6 hl (by decide) rfl (fun ls hl => ?_)
    exact (L (110))  ((0 : Int)) ((1 : Int)) ((0 : Int)) (by omega) (by omega) (by omega) (by omega) (by omega) (by omega) (lt) (by omega) hres _ _ ls hP hD hS (lv_sub hl [3, 4, 2, 1, 0] rfl)
  exact key _ _ hP hS
theorem F_m_wordsTo_sfr : ∀ n : Nat, (∀ (y : MS) (v0 : Int) (v1 : Int) (v2 : Int) (v3 : Int), same [] [] y (F_m_wordsTo_s n 0 y v0 v1 v2 v3).2) := by
  intro n
  induction n with
  | zero => exact fun y _ _ _ _ => sm_rf _ _ _
  | succ n ih =>
    skip
    · intro y m0 w q k
      rw [F_m_wordsTo_e0]
      by_cases hc : (m0) < (k)
      · rw [if_pos hc]
        by_cases hc : (iC (w) ((10000 : Int))) ≤ (0)
        · rw [if_pos hc]
          exact (sm_rf _ _ _)
        · rw [if_neg hc]
          exact (sm_rf _ _ _)
      · rw [if_neg hc]
        by_cases hc : (0) < (iC (w) ((10000 : Int)))
        · rw [if_pos hc]
          by_cases hc : (iC (w) ((10000 : Int))) ≤ (0)
          · rw [if_pos hc]
            exact (sm_rf _ _ _)
          · rw [if_neg hc]
            exact (sm_rf _ _ _)
        · rw [if_neg hc]
          exact sm_tr ((sm_rf _ _ _)) (ih (y) (m0) ((w) + (q)) ((q) * ((y).1 0)) ((k) + (1 : Int)))
theorem F_m_wordsTo_fr (x : MS) (m0 : Int) : same [] [] x (F_m_wordsTo (x) (m0)).2 := by
  unfold F_m_wordsTo
  exact sm_tr ((sm_rf _ _ _)) ((F_m_wordsTo_sfr 110) (x) (m0) ((0 : Int)) ((1 : Int)) ((0 : Int)))
theorem F_m_wordsTo_2 (x : MS) (m0 : Int) : (F_m_wordsTo (x) (m0)).2 = x := sm_nil (F_m_wordsTo_fr x m0)
