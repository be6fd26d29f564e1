def lzR (x : MS) : Prop := ∀ k : Nat, k < 16 → 0 ≤ x.2 4 k ∧ x.2 4 k ≤ 12
def hdR (x : MS) : Prop := ∀ k : Nat, k < 64 → 0 ≤ x.2 11 k ∧ x.2 11 k ≤ 3
def lwR (x : MS) : Prop := ∀ k : Nat, k < 192 → 0 ≤ x.2 5 k ∧ x.2 5 k ≤ 3
def F_m_layAny_s : Nat → Nat → MS → Int → Int → Int × MS
  | 0, _, x, _, _ => (0, x)
  | n + 1, t, x, p0, p1 => match t with
    | 0 => (fun (w : Int) (i : Int) => (if (w) ≤ (i) then (0, x) else (if ((64 : Int)) ≤ (i) then (0, x) else F_m_layAny_s n 0 (aU (x) 11 (i).toNat ((0 : Int))) (w) ((i) + (1 : Int))))) p0 p1
    | _ => (0, x)
theorem F_m_layAny_e0 (n : Nat) (x : MS) (w : Int) (i : Int) : F_m_layAny_s (n + 1) 0 x w i = (if (w) ≤ (i) then (0, x) else (if ((64 : Int)) ≤ (i) then (0, x) else F_m_layAny_s n 0 (aU (x) 11 (i).toNat ((0 : Int))) (w) ((i) + (1 : Int)))) := rfl
def F_m_layAny (x : MS) (w : Int) : Int × MS := (if ((x).1 0) = ((1 : Int)) then F_m_layAny_s 100 0 (sU (x) 10 (w)) (w) ((0 : Int)) else (0, (F_m_lay (x) (w)).2))
set_option maxHeartbeats 4000000 in
set_option maxRecDepth 100000 in
/-- layAny -/
theorem c_m_layAny (l : Launch) (dC : Nat → ClassId) (dI : Nat → Nat → Nat) (h : Nat) (ad : Nat → Nat) (cI cJ cZ : ClassId) (sz : Nat) (x : MS) (w : Int) (w0 : 0 ≤ w) (w1 : w ≤ 20000) (hf : x.1 0 = 1 ∨ (fR x ∧ ∃ K : Nat, 1 ≤ K ∧ K < 64 ∧ w < x.2 8 K)) (lt : 1 ≤ x.1 0 ∧ x.1 0 ≤ 4) : Met l yX12_layAny wsX12_layAny ({ frames := 1, cells := 0, slots := 0, locals := 23 }) (mPc dC dI h ad cI cJ cZ sz x [.ref h, .int (iI w)]) (va_Qv (fun u : MS => u = (F_m_layAny (x) (w)).2) (mAt dC dI h ad cI cJ cZ (va_A (mW h ad cI cJ cZ (x)) sz)) (va_A (mW h ad cI cJ cZ (x)) sz)) 0 0 (va_A (mW h ad cI cJ cZ (x)) sz) := by
  refine Met.ofW (cc := cX12_layAny) (maxL := 3) (ret := none) (by decide) rfl ?_
  intro p e s m args below meth c s₁ B hml hv
  obtain ⟨rfl, hsz, hP, hK, hD0⟩ := hv
  have hx := B.exec
  have hb := B.bytes
  have hr := B.returns
  have hts := atoms_spec (ws := wsX12_layAny) B.pre
  have hown : s.vm.findClass RX12 = some m.cls := findClass_of_methodNamed B.named
  have hlocks := B.notSynchronized
  have hin : ∀ w ∈ u_ws RX12 TX12 34, w ∈ wsX12_layAny := by decide +kernel
  subst hsz
  have hD := hD0.self (sz := s.heap.size)
  generalize hAe : va_A (mW h ad cI cJ cZ (x)) s.heap.size = A at hD ⊢
  have hA : ∀ q : Nat, s.heap.size ≤ q → A q := fun q h => by rw [← hAe]; exact Or.inr h
  have hS : va_S A s.heap s.heap [] := va_S.rf
  have hl := lv_entry ([.ref h, .int (iI w)]) (n := 3) (Nat.le_of_ble_eq_true rfl)
  rw [lg_entry_eq]
  generalize (lg_sl ([.ref h, .int (iI w)]) ++ List.replicate (3 - (lg_sl ([.ref h, .int (iI w)])).length) Slot.unset).toArray = ls at hl ⊢
  have hl : lv_has ls 3 [(0, .ref (h)), (1, .int (iI (w)))] := hl
  have l0 := lt.1
  have l1 := lt.2
  have L : ∀ n : Nat, (∀ (y : MS) (i : Int), (0 ≤ i) → (i ≤ 64) → (64 - i < n) → F_m_layAny_s n 0 y w i = F_m_layAny (x) (w) → ∀ (H : Heap) (locs : List Loc) (ls : Array Slot), va_P (dC, dI) vwCl (mW h ad cI cJ cZ (y)) H → va_D A (mW h ad cI cJ cZ (y)) → va_S A s.heap H locs → lv_has ls 3 [(0, .ref (h)), (1, .int (iI (w))), (2, .int (iI (i)))] → W p l e (headSpec wsX12_layAny ({ frames := 1, cells := 0, slots := 0, locals := 23 })).room s m ([.ref h, .int (iI w)] : List Value).toArray below meth c H locs 0 0 (MQ below (va_Qv (fun u : MS => u = (F_m_layAny (x) (w)).2) (mAt dC dI h ad cI cJ cZ A) A) ([.ref h, .int (iI w)] : List Value).toArray s 0 0 A) (F0 m 15 ls [])) := by
    intro n
    induction n with
    | zero =>
      skip
      · intro y i i0 i1 fu hres
        exact absurd fu (by omega)
    | succ n ih =>
      skip
      · intro y i i0 i1 fu hres H locs ls hP hD hS hl
        rw [F_m_layAny_e0] at hres
        refine lv_iload_n hx hb dX12_layAny_15 rfl (lv_at hl 2 rfl) ?_
        refine lv_iload_n hx hb dX12_layAny_16 rfl (lv_at hl 1 rfl) ?_
        refine wi_icmp_ge (tgt := 39) hx hb (by first | assumption | (unfold iR; omega) | exact F_R01 (by assumption)) (by first | assumption | (unfold iR; omega) | exact F_R01 (by assumption)) dX12_layAny_17 (by decide) (fun c_17 => ?_) (fun c_17 => ?_)
        · skip
          rw [if_pos c_17] at hres
          refine lv_goto (tgt := 47) hx hb dX12_layAny_39 (by decide) ?_
          exact W.vret hx hb hr (fun t ht hW => ⟨⟨y, rfl, (by have h9 := congrArg (fun z : Int × MS => z.2) hres; exact h9), by rw [ht]; exact hP, va_K.moved hW.alike hK, hD⟩, hS.F ht⟩) hS.2.2 dX12_layAny_47
        · skip
          rw [if_neg c_17] at hres
          refine lv_iload_n hx hb dX12_layAny_20 rfl (lv_at hl 2 rfl) ?_
          refine lv_bipush (v := iI (64 : Int)) hx hb dX12_layAny_21 (by decide) ?_
          refine wi_icmp_ge (tgt := 39) hx hb (by first | assumption | (unfold iR; omega) | exact F_R01 (by assumption)) ⟨by decide, by decide⟩ dX12_layAny_23 (by decide) (fun c_23 => ?_) (fun c_23 => ?_)
          · skip
            rw [if_pos c_23] at hres
            refine lv_goto (tgt := 47) hx hb dX12_layAny_39 (by decide) ?_
            exact W.vret hx hb hr (fun t ht hW => ⟨⟨y, rfl, (by have h9 := congrArg (fun z : Int × MS => z.2) hres; exact h9), by rw [ht]; exact hP, va_K.moved hW.alike hK, hD⟩, hS.F ht⟩) hS.2.2 dX12_layAny_47
          · skip
            rw [if_neg c_23] at hres
            refine lv_aload_n hx hb dX12_layAny_26 rfl (lv_at hl 0 rfl) ?_
            refine va_get (D := (dC, dI)) (ci := 12) (v := .ref (ad 11)) (C := RX12) (T := TX12) (N := 34) hx hb hts hin hown hK hP 0 rfl rfl 11 (by decide) (hts (.fieldLink RX12 35 "LikeWordsModel" "hand" "[I") (by decide +kernel)) (fun _ h9 => h9) rfl dX12_layAny_27 ?_
            refine lv_iload_n hx hb dX12_layAny_30 rfl (lv_at hl 2 rfl) ?_
            refine lv_iconst (v := iI (0 : Int)) hx hb dX12_layAny_31 (by decide) ?_
            refine wi_iast (f := (y).2 11) hx hb hK hP hD hS 7 0 rfl rfl (i := i) (x := (0 : Int)) (by omega) (by omega) (by decide) dX12_layAny_32 (fun H locs hP hD hS => ?_)
            rw [mW_a11] at hP hD
            refine lv_iinc (v := iI ((i) + (1 : Int))) (lv' := [(2, .int (iI ((i) + (1 : Int)))), (0, .ref (h)), (1, .int (iI (w)))]) hx hb dX12_layAny_33 hl (k := 2) rfl (iI_add _ _) (by decide) rfl (fun ls hl => ?_)
            refine lv_goto (tgt := 15) hx hb dX12_layAny_36 (by decide) ?_
            exact ih (aU (y) 11 (i).toNat ((0 : Int))) ((i) + (1 : Int)) (by omega) (by omega) (by omega) hres _ _ ls hP hD hS (lv_sub hl [1, 2, 0] rfl)
  have key : ∀ (H : Heap) (locs : List Loc), va_P (dC, dI) vwCl (mW h ad cI cJ cZ (x)) H → va_S A s.heap H locs → W p l e (headSpec wsX12_layAny ({ frames := 1, cells := 0, slots := 0, locals := 23 })).room s m ([.ref h, .int (iI w)] : List Value).toArray below meth c H locs 0 0 (MQ below (va_Qv (fun u : MS => u = (F_m_layAny (x) (w)).2) (mAt dC dI h ad cI cJ cZ A) A) ([.ref h, .int (iI w)] : List Value).toArray s 0 0 A) (F0 m 0 ls []) := by
    intro H locs hP hS
    have hres : (if ((x).1 0) = ((1 : Int)) then F_m_layAny_s 100 0 (sU (x) 10 (w)) (w) ((0 : Int)) else (0, (F_m_lay (x) (w)).2)) = F_m_layAny (x) (w) := rfl
    refine lv_aload_n hx hb dX12_layAny_0 rfl (lv_at hl 0 rfl) ?_
    refine va_get (D := (dC, dI)) (ci := 12) (v := .int (iI ((x).1 0))) (C := RX12) (T := TX12) (N := 34) hx hb hts hin hown hK hP 0 rfl rfl 0 (by decide) (hts (.fieldLink RX12 7 "LikeWordsModel" "letters" "I") (by decide +kernel)) (fun _ h9 => h9) rfl dX12_layAny_1 ?_
    refine lv_iconst (v := iI (1 : Int)) hx hb dX12_layAny_4 (by decide) ?_
    refine wi_icmp_ne (tgt := 42) hx hb (by first | assumption | (unfold iR; omega) | exact F_R01 (by assumption)) ⟨by decide, by decide⟩ dX12_layAny_5 (by decide) (fun c_5 => ?_) (fun c_5 => ?_)
    · skip
      rw [if_neg c_5] at hres
      have hf2 := hf.resolve_left (by omega)
      refine lv_aload_n hx hb dX12_layAny_42 rfl (lv_at hl 0 rfl) ?_
      refine lv_iload_n hx hb dX12_layAny_43 rfl (lv_at hl 1 rfl) ?_
      have hFc : ∀ q, va_A (mW h ad cI cJ cZ (x)) H.size q → A q := fun q hq => Or.elim hq (fun ⟨k, e, hk⟩ => hD.2 k (q, e) hk) (fun hk => hA q (Nat.le_trans hS.1 hk))
      refine va_callv (va_runV (As := [.int (iI (w))]) (rest := []) ⟨hx, hb, hml, hown, hts⟩ (c_m_lay l dC dI h ad cI cJ cZ H.size (x) (w) w0 w1 hf2.1 hf2.2 lt) (cwV 1 hts gX12_layAny_X12_lay rfl rfl rfl (by decide +kernel) ⟨Nat.le_of_ble_eq_true rfl, Nat.le_of_ble_eq_true rfl⟩) ⟨fun a U g mk q => by obtain ⟨q0, q1, qP, qK, qD⟩ := q; exact ⟨q0, q1, qP, va_K.moved (u := U) (U := U.calling g mk a) (Vm.Alike.refl U.vm) qK, qD⟩, va_recv hK hP (ci := 12) (q0 := 0) rfl rfl, fun U hU hW => ⟨rfl, by rw [hU], by rw [hU]; exact hP, va_K.moved hW.alike hK, hD.weaken (fun _ _ _ _ => trivial)⟩⟩ rfl rfl hl.1 rfl (lv_room (Nat.le_of_ble_eq_true rfl)) dX12_layAny_44 ⟨Nat.le_of_ble_eq_true rfl, Nat.le_of_ble_eq_true rfl⟩) hS (fun q _ h => hFc q h) hFc (fun u9 t H1 locs ht hvm hw hB hz1 hk1 hS => ?_)
      obtain ⟨hP1, hK1, hD1⟩ := hB
      rw [ht] at hP1
      rw [hw] at hP1 hD1
      have hD2 := hD1.weaken (B := A) (fun _ q _ h => hFc q.1 h)
      have hP := hP1
      have hD := hD2
      generalize H1 = H at hP hS ⊢
      exact W.vret hx hb hr (fun t ht hW => ⟨⟨(F_m_lay (x) (w)).2, rfl, (by have h9 := congrArg (fun z : Int × MS => z.2) hres; exact h9), by rw [ht]; exact hP, va_K.moved hW.alike hK, hD⟩, hS.F ht⟩) hS.2.2 dX12_layAny_47
    · skip
      rw [if_pos c_5] at hres
      refine lv_aload_n hx hb dX12_layAny_8 rfl (lv_at hl 0 rfl) ?_
      refine lv_iload_n hx hb dX12_layAny_9 rfl (lv_at hl 1 rfl) ?_
      refine va_put (D := (dC, dI)) (ci := 12) (v := .int (iI (w))) (ty := .int) (C := RX12) (T := TX12) (N := 34) hx hb hts hin tyX12 tyX12_ok nmX12 hown hK hP hD hS 0 rfl rfl 10 (by decide) (hts (.fieldLink RX12 119 "LikeWordsModel" "handSize" "I") (by decide +kernel)) (fun _ h9 => h9) rfl (by decide +kernel) rfl rfl (Nat.le_of_ble_eq_true rfl) dX12_layAny_10 (fun H locs hP hD hS => ?_)
      rw [mW_s10] at hP hD
      refine lv_iconst (v := iI (0 : Int)) hx hb dX12_layAny_13 (by decide) ?_
      refine lv_istore_n (lv' := [(2, .int (iI ((0 : Int)))), (0, .ref (h)), (1, .int (iI (w)))]) hx hb dX12_layAny_14 rfl hl (by decide) rfl (fun ls hl => ?_)
      exact (L (100)) (sU (x) 10 (w)) ((0 : Int)) (by omega) (by omega) (by omega) hres _ _ ls hP hD hS (lv_sub hl [1, 2, 0] rfl)
  exact key _ _ hP hS
theorem F_m_layAny_sfr : ∀ n : Nat, (∀ (y : MS) (v0 : Int) (v1 : Int), same [10] [11] y (F_m_layAny_s n 0 y v0 v1).2) := by
  intro n
  induction n with
  | zero => exact fun y _ _ => sm_rf _ _ _
  | succ n ih =>
    skip
    · intro y w i
      rw [F_m_layAny_e0]
      by_cases hc : (w) ≤ (i)
      · rw [if_pos hc]
        exact (sm_rf _ _ _)
      · rw [if_neg hc]
        by_cases hc : ((64 : Int)) ≤ (i)
        · rw [if_pos hc]
          exact (sm_rf _ _ _)
        · rw [if_neg hc]
          exact sm_tr ((sm_a (by decide) (sm_rf _ _ _))) (ih (aU (y) 11 (i).toNat ((0 : Int))) (w) ((i) + (1 : Int)))
theorem F_m_layAny_fr (x : MS) (w : Int) : same [10] [11] x (F_m_layAny (x) (w)).2 := by
  unfold F_m_layAny
  by_cases hc : ((x).1 0) = ((1 : Int))
  · rw [if_pos hc]
    exact sm_tr ((sm_s (by decide) (sm_rf _ _ _))) ((F_m_layAny_sfr 100) (sU (x) 10 (w)) (w) ((0 : Int)))
  · rw [if_neg hc]
    exact (sm_tr (sm_rf _ _ _) (sm_mono (by decide) (by decide) (F_m_lay_fr (x) (w))))
def F_m_changed_s : Nat → Nat → MS → Int → Int → Int → Int → Int → Int → Int → Int × MS
  | 0, _, x, _, _, _, _, _, _, _ => (0, x)
  | n + 1, t, x, p0, p1, p2, p3, p4, p5, p6 => match t with
    | 0 => (fun (l0 : Int) (at0 : Int) (m0 : Int) (o : Int) (q : Int) (i : Int) => (if (o) ≤ (i) then F_m_changed_s n 1 (x) (l0) (at0) (m0) (o) (q) ((0 : Int)) ((0 : Int)) else (if (((x).2 11) ((at0) + (i)).toNat) = (((x).2 5) ((((24 : Int)) * (l0)) + (i)).toNat) then F_m_changed_s n 0 (x) (l0) (at0) (m0) (o) (q) ((i) + (1 : Int)) (0) else ((-9 : Int), x)))) p0 p1 p2 p3 p4 p5
    | 1 => (fun (l0 : Int) (at0 : Int) (m0 : Int) (o : Int) (q : Int) (v : Int) (i : Int) => (if (at0) ≤ (i) then F_m_changed_s n 2 (x) (l0) (at0) (m0) (o) (q) (v) ((0 : Int)) else F_m_changed_s n 1 (x) (l0) (at0) (m0) (o) (q) (((v) * ((x).1 0)) + (((x).2 11) (i).toNat)) ((i) + (1 : Int)))) p0 p1 p2 p3 p4 p5 p6
    | 2 => (fun (l0 : Int) (at0 : Int) (m0 : Int) (o : Int) (q : Int) (v : Int) (i : Int) => (if (q) ≤ (i) then F_m_changed_s n 3 (x) (l0) (at0) (m0) (o) (q) (v) ((at0) + (o)) else F_m_changed_s n 2 (x) (l0) (at0) (m0) (o) (q) (((v) * ((x).1 0)) + (((x).2 5) (((((24 : Int)) * (l0)) + ((12 : Int))) + (i)).toNat)) ((i) + (1 : Int)))) p0 p1 p2 p3 p4 p5 p6
    | 3 => (fun (l0 : Int) (at0 : Int) (m0 : Int) (o : Int) (q : Int) (v : Int) (i : Int) => (if ((x).1 10) ≤ (i) then ((((x).2 8) ((((x).1 10) - (o)) + (q)).toNat) + (v), x) else F_m_changed_s n 3 (x) (l0) (at0) (m0) (o) (q) (((v) * ((x).1 0)) + (((x).2 11) (i).toNat)) ((i) + (1 : Int)))) p0 p1 p2 p3 p4 p5 p6
    | _ => (0, x)
theorem F_m_changed_e0 (n : Nat) (x : MS) (l0 : Int) (at0 : Int) (m0 : Int) (o : Int) (q : Int) (i : Int) (q0 : Int) : F_m_changed_s (n + 1) 0 x l0 at0 m0 o q i q0 = (if (o) ≤ (i) then F_m_changed_s n 1 (x) (l0) (at0) (m0) (o) (q) ((0 : Int)) ((0 : Int)) else (if (((x).2 11) ((at0) + (i)).toNat) = (((x).2 5) ((((24 : Int)) * (l0)) + (i)).toNat) then F_m_changed_s n 0 (x) (l0) (at0) (m0) (o) (q) ((i) + (1 : Int)) (0) else ((-9 : Int), x))) := rfl
theorem F_m_changed_e1 (n : Nat) (x : MS) (l0 : Int) (at0 : Int) (m0 : Int) (o : Int) (q : Int) (v : Int) (i : Int) : F_m_changed_s (n + 1) 1 x l0 at0 m0 o q v i = (if (at0) ≤ (i) then F_m_changed_s n 2 (x) (l0) (at0) (m0) (o) (q) (v) ((0 : Int)) else F_m_changed_s n 1 (x) (l0) (at0) (m0) (o) (q) (((v) * ((x).1 0)) + (((x).2 11) (i).toNat)) ((i) + (1 : Int))) := rfl
theorem F_m_changed_e2 (n : Nat) (x : MS) (l0 : Int) (at0 : Int) (m0 : Int) (o : Int) (q : Int) (v : Int) (i : Int) : F_m_changed_s (n + 1) 2 x l0 at0 m0 o q v i = (if (q) ≤ (i) then F_m_changed_s n 3 (x) (l0) (at0) (m0) (o) (q) (v) ((at0) + (o)) else F_m_changed_s n 2 (x) (l0) (at0) (m0) (o) (q) (((v) * ((x).1 0)) + (((x).2 5) (((((24 : Int)) * (l0)) + ((12 : Int))) + (i)).toNat)) ((i) + (1 : Int))) := rfl
theorem F_m_changed_e3 (n : Nat) (x : MS) (l0 : Int) (at0 : Int) (m0 : Int) (o : Int) (q : Int) (v : Int) (i : Int) : F_m_changed_s (n + 1) 3 x l0 at0 m0 o q v i = (if ((x).1 10) ≤ (i) then ((((x).2 8) ((((x).1 10) - (o)) + (q)).toNat) + (v), x) else F_m_changed_s n 3 (x) (l0) (at0) (m0) (o) (q) (((v) * ((x).1 0)) + (((x).2 11) (i).toNat)) ((i) + (1 : Int))) := rfl
def F_m_changed (x : MS) (l0 : Int) (at0 : Int) (m0 : Int) : Int × MS := (if ((x).1 10) < ((at0) + (((x).2 4) (((2 : Int)) * (l0)).toNat)) then ((-9 : Int), x) else (if ((((x).1 10) - (((x).2 4) (((2 : Int)) * (l0)).toNat)) + (((x).2 4) ((((2 : Int)) * (l0)) + ((1 : Int))).toNat)) ≤ (m0) then F_m_changed_s 400 0 (x) (l0) (at0) (m0) (((x).2 4) (((2 : Int)) * (l0)).toNat) (((x).2 4) ((((2 : Int)) * (l0)) + ((1 : Int))).toNat) ((0 : Int)) (0) else ((-9 : Int), x)))
set_option maxHeartbeats 4000000 in
set_option maxRecDepth 100000 in
/-- changed -/
theorem c_m_changed (l : Launch) (dC : Nat → ClassId) (dI : Nat → Nat → Nat) (h : Nat) (ad : Nat → Nat) (cI cJ cZ : ClassId) (sz : Nat) (x : MS) (l0 : Int) (at0 : Int) (m0 : Int) (a0 : 0 ≤ l0) (a1 : l0 < 8) (b0 : 0 ≤ at0) (b1 : at0 ≤ 60) (m1 : 0 ≤ m0) (m2 : m0 ≤ 60) (h0 : 0 ≤ x.1 10) (h1 : x.1 10 ≤ 60) (hz : lzR x) (hd : hdR x) (hw : lwR x) : Met l yX12_changed wsX12_changed ({ frames := 0, cells := 0, slots := 0, locals := 0 }) (mPc dC dI h ad cI cJ cZ sz x [.ref h, .int (iI l0), .int (iI at0), .int (iI m0)]) (va_Qi (fun (r : Int32) (u : MS) => r = iI (F_m_changed (x) (l0) (at0) (m0)).1 ∧ u = (F_m_changed (x) (l0) (at0) (m0)).2) (mAt dC dI h ad cI cJ cZ (va_A (mW h ad cI cJ cZ (x)) sz)) (va_A (mW h ad cI cJ cZ (x)) sz)) 0 0 (va_A (mW h ad cI cJ cZ (x)) sz) := by
  refine Met.ofW (cc := cX12_changed) (maxL := 8) (ret := (some .int)) (by decide) rfl ?_
  intro p e s m args below meth c s₁ B hml hv
  obtain ⟨rfl, hsz, hP, hK, hD0⟩ := hv
  have hx := B.exec
  have hb := B.bytes
  have hr := B.returns
  have hts := atoms_spec (ws := wsX12_changed) B.pre
  have hown : s.vm.findClass RX12 = some m.cls := findClass_of_methodNamed B.named
  have hlocks := B.notSynchronized
  have hin : ∀ w ∈ u_ws RX12 TX12 34, w ∈ wsX12_changed := by decide +kernel
  subst hsz
  have hD := hD0.self (sz := s.heap.size)
  generalize hAe : va_A (mW h ad cI cJ cZ (x)) s.heap.size = A at hD ⊢
  have hA : ∀ q : Nat, s.heap.size ≤ q → A q := fun q h => by rw [← hAe]; exact Or.inr h
  have hS : va_S A s.heap s.heap [] := va_S.rf
  have hl := lv_entry ([.ref h, .int (iI l0), .int (iI at0), .int (iI m0)]) (n := 8) (Nat.le_of_ble_eq_true rfl)
  rw [lg_entry_eq]
  generalize (lg_sl ([.ref h, .int (iI l0), .int (iI at0), .int (iI m0)]) ++ List.replicate (8 - (lg_sl ([.ref h, .int (iI l0), .int (iI at0), .int (iI m0)])).length) Slot.unset).toArray = ls at hl ⊢
  have hl : lv_has ls 8 [(0, .ref (h)), (1, .int (iI (l0))), (2, .int (iI (at0))), (3, .int (iI (m0)))] := hl
  obtain ⟨z0, z1⟩ := hz (2 * l0).toNat (by omega)
  obtain ⟨z2, z3⟩ := hz (2 * l0 + 1).toNat (by omega)
  have L : ∀ n : Nat, (∀ (o : Int) (q : Int) (i : Int), (0 ≤ o) → (o ≤ 12) → (0 ≤ q) → (q ≤ 12) → (at0 + o ≤ x.1 10) → (x.1 10 - o + q ≤ m0) → (0 ≤ i) → (i ≤ o) → (12 - i + 300 < n) → F_m_changed_s n 0 x l0 at0 m0 o q i 0 = F_m_changed (x) (l0) (at0) (m0) → ∀ (H : Heap) (locs : List Loc) (ls : Array Slot), va_P (dC, dI) vwCl (mW h ad cI cJ cZ (x)) H → va_D A (mW h ad cI cJ cZ (x)) → va_S A s.heap H locs → lv_has ls 8 [(0, .ref (h)), (1, .int (iI (l0))), (2, .int (iI (at0))), (3, .int (iI (m0))), (4, .int (iI (o))), (5, .int (iI (q))), (6, .int (iI (i)))] → W p l e (headSpec wsX12_changed ({ frames := 0, cells := 0, slots := 0, locals := 0 })).room s m ([.ref h, .int (iI l0), .int (iI at0), .int (iI m0)] : List Value).toArray below meth c H locs 0 0 (MQ below (va_Qi (fun (r : Int32) (u : MS) => r = iI (F_m_changed (x) (l0) (at0) (m0)).1 ∧ u = (F_m_changed (x) (l0) (at0) (m0)).2) (mAt dC dI h ad cI cJ cZ A) A) ([.ref h, .int (iI l0), .int (iI at0), .int (iI m0)] : List Value).toArray s 0 0 A) (F0 m 53 ls [])) ∧ (∀ (o : Int) (q : Int) (v : Int) (i : Int), (0 ≤ o) → (o ≤ 12) → (0 ≤ q) → (q ≤ 12) → (at0 + o ≤ x.1 10) → (x.1 10 - o + q ≤ m0) → (0 ≤ i) → (i ≤ at0) → (60 - i + 200 < n) → F_m_changed_s n 1 x l0 at0 m0 o q v i = F_m_changed (x) (l0) (at0) (m0) → ∀ (H : Heap) (locs : List Loc) (ls : Array Slot), va_P (dC, dI) vwCl (mW h ad cI cJ cZ (x)) H → va_D A (mW h ad cI cJ cZ (x)) → va_S A s.heap H locs → lv_has ls 8 [(0, .ref (h)), (1, .int (iI (l0))), (2, .int (iI (at0))), (3, .int (iI (m0))), (4, .int (iI (o))), (5, .int (iI (q))), (6, .int (iI (v))), (7, .int (iI (i)))] → W p l e (headSpec wsX12_changed ({ frames := 0, cells := 0, slots := 0, locals := 0 })).room s m ([.ref h, .int (iI l0), .int (iI at0), .int (iI m0)] : List Value).toArray below meth c H locs 0 0 (MQ below (va_Qi (fun (r : Int32) (u : MS) => r = iI (F_m_changed (x) (l0) (at0) (m0)).1 ∧ u = (F_m_changed (x) (l0) (at0) (m0)).2) (mAt dC dI h ad cI cJ cZ A) A) ([.ref h, .int (iI l0), .int (iI at0), .int (iI m0)] : List Value).toArray s 0 0 A) (F0 m 99 ls [])) ∧ (∀ (o : Int) (q : Int) (v : Int) (i : Int), (0 ≤ o) → (o ≤ 12) → (0 ≤ q) → (q ≤ 12) → (at0 + o ≤ x.1 10) → (x.1 10 - o + q ≤ m0) → (0 ≤ i) → (i ≤ q) → (12 - i + 100 < n) → F_m_changed_s n 2 x l0 at0 m0 o q v i = F_m_changed (x) (l0) (at0) (m0) → ∀ (H : Heap) (locs : List Loc) (ls : Array Slot), va_P (dC, dI) vwCl (mW h ad cI cJ cZ (x)) H → va_D A (mW h ad cI cJ cZ (x)) → va_S A s.heap H locs → lv_has ls 8 [(0, .ref (h)), (1, .int (iI (l0))), (2, .int (iI (at0))), (3, .int (iI (m0))), (4, .int (iI (o))), (5, .int (iI (q))), (6, .int (iI (v))), (7, .int (iI (i)))] → W p l e (headSpec wsX12_changed ({ frames := 0, cells := 0, slots := 0, locals := 0 })).room s m ([.ref h, .int (iI l0), .int (iI at0), .int (iI m0)] : List Value).toArray below meth c H locs 0 0 (MQ below (va_Qi (fun (r : Int32) (u : MS) => r = iI (F_m_changed (x) (l0) (at0) (m0)).1 ∧ u = (F_m_changed (x) (l0) (at0) (m0)).2) (mAt dC dI h ad cI cJ cZ A) A) ([.ref h, .int (iI l0), .int (iI at0), .int (iI m0)] : List Value).toArray s 0 0 A) (F0 m 131 ls [])) ∧ (∀ (o : Int) (q : Int) (v : Int) (i : Int), (0 ≤ o) → (o ≤ 12) → (0 ≤ q) → (q ≤ 12) → (at0 + o ≤ x.1 10) → (x.1 10 - o + q ≤ m0) → (0 ≤ i) → (61 - i < n) → (i ≤ 61) → (61 - i < n) → F_m_changed_s n 3 x l0 at0 m0 o q v i = F_m_changed (x) (l0) (at0) (m0) → ∀ (H : Heap) (locs : List Loc) (ls : Array Slot), va_P (dC, dI) vwCl (mW h ad cI cJ cZ (x)) H → va_D A (mW h ad cI cJ cZ (x)) → va_S A s.heap H locs → lv_has ls 8 [(0, .ref (h)), (1, .int (iI (l0))), (2, .int (iI (at0))), (3, .int (iI (m0))), (4, .int (iI (o))), (5, .int (iI (q))), (6, .int (iI (v))), (7, .int (iI (i)))] → W p l e (headSpec wsX12_changed ({ frames := 0, cells := 0, slots := 0, locals := 0 })).room s m ([.ref h, .int (iI l0), .int (iI at0), .int (iI m0)] : List Value).toArray below meth c H locs 0 0 (MQ below (va_Qi (fun (r : Int32) (u : MS) => r = iI (F_m_changed (x) (l0) (at0) (m0)).1 ∧ u = (F_m_changed (x) (l0) (at0) (m0)).2) (mAt dC dI h ad cI cJ cZ A) A) ([.ref h, .int (iI l0), .int (iI at0), .int (iI m0)] : List Value).toArray s 0 0 A) (F0 m 175 ls [])) := by
    intro n
    induction n with
    | zero =>
      refine ⟨?_, ?_, ?_, ?_⟩
      · intro o q i o0 o1 q0 q1 ao aq i0 i1 fu hres
        exact absurd fu (by omega)
      · intro o q v i o0 o1 q0 q1 ao aq i0 i1 fu hres
        exact absurd fu (by omega)
      · intro o q v i o0 o1 q0 q1 ao aq i0 i1 fu hres
        exact absurd fu (by omega)
      · intro o q v i o0 o1 q0 q1 ao aq i0 fu i1 fv hres
        exact absurd fv (by omega)
    | succ n ih =>
      refine ⟨?_, ?_, ?_, ?_⟩
      · intro o q i o0 o1 q0 q1 ao aq i0 i1 fu hres H locs ls hP hD hS hl
        rw [F_m_changed_e0] at hres
        have g1 : i < o → iR ((x.2 11) (at0 + i).toNat) := fun hi => by have := hd (at0 + i).toNat (by omega); unfold iR; omega
        have g2 : i < o → iR ((x.2 5) (24 * l0 + i).toNat) := fun hi => by have := hw (24 * l0 + i).toNat (by omega); unfold iR; omega
        refine lv_iload hx hb dX12_changed_53 (lv_at hl 6 rfl) ?_
        refine lv_iload hx hb dX12_changed_55 (lv_at hl 4 rfl) ?_
        refine wi_icmp_ge (tgt := 93) hx hb (by first | assumption | (unfold iR; omega) | exact F_R01 (by assumption)) (by first | assumption | (unfold iR; omega) | exact F_R01 (by assumption)) dX12_changed_57 (by decide) (fun c_57 => ?_) (fun c_57 => ?_)
        · skip
          rw [if_pos c_57] at hres
          refine lv_iconst (v := iI (0 : Int)) hx hb dX12_changed_93 (by decide) ?_
          refine lv_istore (lv' := [(6, .int (iI ((0 : Int)))), (0, .ref (h)), (1, .int (iI (l0))), (2, .int (iI (at0))), (3, .int (iI (m0))), (4, .int (iI (o))), (5, .int (iI (q)))]) hx hb dX12_changed_94 hl (by decide) rfl (fun ls hl => ?_)
          refine lv_iconst (v := iI (0 : Int)) hx hb dX12_changed_96 (by decide) ?_
          refine lv_istore (lv' := [(7, .int (iI ((0 : Int)))), (6, .int (iI ((0 : Int)))), (0, .ref (h)), (1, .int (iI (l0))), (2, .int (iI (at0))), (3, .int (iI (m0))), (4, .int (iI (o))), (5, .int (iI (q)))]) hx hb dX12_changed_97 hl (by decide) rfl (fun ls hl => ?_)
          exact ih.2.1  (o) (q) ((0 : Int)) ((0 : Int)) (by omega) (by omega) (by omega) (by omega) (by omega) (by omega) (by omega) (by omega) (by omega) hres _ _ ls hP hD hS (lv_sub hl [2, 3, 4, 5, 6, 7, 1, 0] rfl)
        · skip
          rw [if_neg c_57] at hres
          refine lv_aload_n hx hb dX12_changed_60 rfl (lv_at hl 0 rfl) ?_
          refine va_get (D := (dC, dI)) (ci := 12) (v := .ref (ad 11)) (C := RX12) (T := TX12) (N := 34) hx hb hts hin hown hK hP 0 rfl rfl 11 (by decide) (hts (.fieldLink RX12 35 "LikeWordsModel" "hand" "[I") (by decide +kernel)) (fun _ h9 => h9) rfl dX12_changed_61 ?_
          refine lv_iload_n hx hb dX12_changed_64 rfl (lv_at hl 2 rfl) ?_
          refine lv_iload hx hb dX12_changed_65 (lv_at hl 6 rfl) ?_
          refine wi_iadd hx hb dX12_changed_67 ?_
          refine wi_iald (f := (x).2 11) hx hb hK hP 7 0 rfl rfl (i := (at0) + (i)) (by omega) (by omega) (by decide) dX12_changed_68 ?_
          refine lv_aload_n hx hb dX12_changed_69 rfl (lv_at hl 0 rfl) ?_
          refine va_get (D := (dC, dI)) (ci := 12) (v := .ref (ad 5)) (C := RX12) (T := TX12) (N := 34) hx hb hts hin hown hK hP 0 rfl rfl 5 (by decide) (hts (.fieldLink RX12 23 "LikeWordsModel" "law" "[I") (by decide +kernel)) (fun _ h9 => h9) rfl dX12_changed_70 ?_
          refine lv_bipush (v := iI (24 : Int)) hx hb dX12_changed_73 (by decide) ?_
          refine lv_iload_n hx hb dX12_changed_75 rfl (lv_at hl 1 rfl) ?_
          refine wi_imul hx hb dX12_changed_76 ?_
          refine lv_iload hx hb dX12_changed_77 (lv_at hl 6 rfl) ?_
          refine wi_iadd hx hb dX12_changed_79 ?_
          refine wi_iald (f := (x).2 5) hx hb hK hP 4 0 rfl rfl (i := (((24 : Int)) * (l0)) + (i)) (by omega) (by omega) (by decide) dX12_changed_80 ?_
          refine wi_icmp_eq (tgt := 87) hx hb (by first | exact g1 (by omega) | exact g2 (by omega)) (by first | exact g1 (by omega) | exact g2 (by omega)) dX12_changed_81 (by decide) (fun c_81 => ?_) (fun c_81 => ?_)
          · skip
            rw [if_pos c_81] at hres
            refine lv_iinc (v := iI ((i) + (1 : Int))) (lv' := [(6, .int (iI ((i) + (1 : Int)))), (0, .ref (h)), (1, .int (iI (l0))), (2, .int (iI (at0))), (3, .int (iI (m0))), (4, .int (iI (o))), (5, .int (iI (q)))]) hx hb dX12_changed_87 hl (k := 6) rfl (iI_add _ _) (by decide) rfl (fun ls hl => ?_)
            refine lv_goto (tgt := 53) hx hb dX12_changed_90 (by decide) ?_
            exact ih.1  (o) (q) ((i) + (1 : Int)) (by omega) (by omega) (by omega) (by omega) (by omega) (by omega) (by omega) (by omega) (by omega) hres _ _ ls hP hD hS (lv_sub hl [1, 2, 3, 4, 5, 6, 0] rfl)
          · skip
            rw [if_neg c_81] at hres
            refine lv_bipush (v := iI (-9 : Int)) hx hb dX12_changed_84 (by decide) ?_
            exact W.iret (v := iI ((-9 : Int))) hx hb hr (fun t ht hW => ⟨⟨iI ((-9 : Int)), x, rfl, ⟨(by have h9 := congrArg (fun z : Int × MS => iI z.1) hres; exact h9), (by have h9 := congrArg (fun z : Int × MS => z.2) hres; exact h9)⟩, by rw [ht]; exact hP, va_K.moved hW.alike hK, hD⟩, hS.F ht⟩) hS.2.2 dX12_changed_86
      · intro o q v i o0 o1 q0 q1 ao aq i0 i1 fu hres H locs ls hP hD hS hl
        rw [F_m_changed_e1] at hres
        refine lv_iload hx hb dX12_changed_99 (lv_at hl 7 rfl) ?_
        refine lv_iload_n hx hb dX12_changed_101 rfl (lv_at hl 2 rfl) ?_
        refine wi_icmp_ge (tgt := 128) hx hb (by first | assumption | (unfold iR; omega) | exact F_R01 (by assumption)) (by first | assumption | (unfold iR; omega) | exact F_R01 (by assumption)) dX12_changed_102 (by decide) (fun c_102 => ?_) (fun c_102 => ?_)
        · skip
          rw [if_pos c_102] at hres
          refine lv_iconst (v := iI (0 : Int)) hx hb dX12_changed_128 (by decide) ?_
          refine lv_istore (lv' := [(7, .int (iI ((0 : Int)))), (0, .ref (h)), (1, .int (iI (l0))), (2, .int (iI (at0))), (3, .int (iI (m0))), (4, .int (iI (o))), (5, .int (iI (q))), (6, .int (iI (v)))]) hx hb dX12_changed_129 hl (by decide) rfl (fun ls hl => ?_)
          exact ih.2.2.1  (o) (q) (v) ((0 : Int)) (by omega) (by omega) (by omega) (by omega) (by omega) (by omega) (by omega) (by omega) (by omega) hres _ _ ls hP hD hS (lv_sub hl [1, 2, 3, 4, 5, 6, 7, 0] rfl)
        · skip
          rw [if_neg c_102] at hres
          refine lv_iload hx hb dX12_changed_105 (lv_at hl 6 rfl) ?_
          refine lv_aload_n hx hb dX12_changed_107 rfl (lv_at hl 0 rfl) ?_
          refine va_get (D := (dC, dI)) (ci := 12) (v := .int (iI ((x).1 0))) (C := RX12) (T := TX12) (N := 34) hx hb hts hin hown hK hP 0 rfl rfl 0 (by decide) (hts (.fieldLink RX12 7 "LikeWordsModel" "letters" "I") (by decide +kernel)) (fun _ h9 => h9) rfl dX12_changed_108 ?_
          refine wi_imul hx hb dX12_changed_111 ?_
          refine lv_aload_n hx hb dX12_changed_112 rfl (lv_at hl 0 rfl) ?_
          refine va_get (D := (dC, dI)) (ci := 12) (v := .ref (ad 11)) (C := RX12) (T := TX12) (N := 34) hx hb hts hin hown hK hP 0 rfl rfl 11 (by decide) (hts (.fieldLink RX12 35 "LikeWordsModel" "hand" "[I") (by decide +kernel)) (fun _ h9 => h9) rfl dX12_changed_113 ?_
          refine lv_iload hx hb dX12_changed_116 (lv_at hl 7 rfl) ?_
          refine wi_iald (f := (x).2 11) hx hb hK hP 7 0 rfl rfl (i := i) (by omega) (by omega) (by decide) dX12_changed_118 ?_
          refine wi_iadd hx hb dX12_changed_119 ?_
          refine lv_istore (lv' := [(6, .int (iI (((v) * ((x).1 0)) + (((x).2 11) (i).toNat)))), (0, .ref (h)), (1, .int (iI (l0))), (2, .int (iI (at0))), (3, .int (iI (m0))), (4, .int (iI (o))), (5, .int (iI (q))), (7, .int (iI (i)))]) hx hb dX12_changed_120 hl (by decide) rfl (fun ls hl => ?_)
          refine lv_iinc (v := iI ((i) + (1 : Int))) (lv' := [(7, .int (iI ((i) + (1 : Int)))), (6, .int (iI (((v) * ((x).1 0)) + (((x).2 11) (i).toNat)))), (0, .ref (h)), (1, .int (iI (l0))), (2, .int (iI (at0))), (3, .int (iI (m0))), (4, .int (iI (o))), (5, .int (iI (q)))]) hx hb dX12_changed_122 hl (k := 7) rfl (iI_add _ _) (by decide) rfl (fun ls hl => ?_)
          refine lv_goto (tgt := 99) hx hb dX12_changed_125 (by decide) ?_
          exact ih.2.1  (o) (q) (((v) * ((x).1 0)) + (((x).2 11) (i).toNat)) ((i) + (1 : Int)) (by omega) (by omega) (by omega) (by omega) (by omega) (by omega) (by omega) (by omega) (by omega) hres _ _ ls hP hD hS (lv_sub hl [2, 3, 4, 5, 6, 7, 1, 0] rfl)
      · intro o q v i o0 o1 q0 q1 ao aq i0 i1 fu hres H locs ls hP hD hS hl
        rw [F_m_changed_e2] at hres
        refine lv_iload hx hb dX12_changed_131 (lv_at hl 7 rfl) ?_
        refine lv_iload hx hb dX12_changed_133 (lv_at hl 5 rfl) ?_
        refine wi_icmp_ge (tgt := 169) hx hb (by first | assumption | (unfold iR; omega) | exact F_R01 (by assumption)) (by first | assumption | (unfold iR; omega) | exact F_R01 (by assumption)) dX12_changed_135 (by decide) (fun c_135 => ?_) (fun c_135 => ?_)
        · skip
          rw [if_pos c_135] at hres
          refine lv_iload_n hx hb dX12_changed_169 rfl (lv_at hl 2 rfl) ?_
          refine lv_iload hx hb dX12_changed_170 (lv_at hl 4 rfl) ?_
          refine wi_iadd hx hb dX12_changed_172 ?_
          refine lv_istore (lv' := [(7, .int (iI ((at0) + (o)))), (0, .ref (h)), (1, .int (iI (l0))), (2, .int (iI (at0))), (3, .int (iI (m0))), (4, .int (iI (o))), (5, .int (iI (q))), (6, .int (iI (v)))]) hx hb dX12_changed_173 hl (by decide) rfl (fun ls hl => ?_)
          exact ih.2.2.2  (o) (q) (v) ((at0) + (o)) (by omega) (by omega) (by omega) (by omega) (by omega) (by omega) (by omega) (by omega) (by omega) (by omega) hres _ _ ls hP hD hS (lv_sub hl [1, 2, 3, 4, 5, 6, 7, 0] rfl)
        · skip
          rw [if_neg c_135] at hres
          refine lv_iload hx hb dX12_changed_138 (lv_at hl 6 rfl) ?_
          refine lv_aload_n hx hb dX12_changed_140 rfl (lv_at hl 0 rfl) ?_
          refine va_get (D := (dC, dI)) (ci := 12) (v := .int (iI ((x).1 0))) (C := RX12) (T := TX12) (N := 34) hx hb hts hin hown hK hP 0 rfl rfl 0 (by decide) (hts (.fieldLink RX12 7 "LikeWordsModel" "letters" "I") (by decide +kernel)) (fun _ h9 => h9) rfl dX12_changed_141 ?_
          refine wi_imul hx hb dX12_changed_144 ?_
          refine lv_aload_n hx hb dX12_changed_145 rfl (lv_at hl 0 rfl) ?_
          refine va_get (D := (dC, dI)) (ci := 12) (v := .ref (ad 5)) (C := RX12) (T := TX12) (N := 34) hx hb hts hin hown hK hP 0 rfl rfl 5 (by decide) (hts (.fieldLink RX12 23 "LikeWordsModel" "law" "[I") (by decide +kernel)) (fun _ h9 => h9) rfl dX12_changed_146 ?_
          refine lv_bipush (v := iI (24 : Int)) hx hb dX12_changed_149 (by decide) ?_
          refine lv_iload_n hx hb dX12_changed_151 rfl (lv_at hl 1 rfl) ?_
          refine wi_imul hx hb dX12_changed_152 ?_
          refine lv_bipush (v := iI (12 : Int)) hx hb dX12_changed_153 (by decide) ?_
          refine wi_iadd hx hb dX12_changed_155 ?_
          refine lv_iload hx hb dX12_changed_156 (lv_at hl 7 rfl) ?_
          refine wi_iadd hx hb dX12_changed_158 ?_
          refine wi_iald (f := (x).2 5) hx hb hK hP 4 0 rfl rfl (i := ((((24 : Int)) * (l0)) + ((12 : Int))) + (i)) (by omega) (by omega) (by decide) dX12_changed_159 ?_
          refine wi_iadd hx hb dX12_changed_160 ?_
          refine lv_istore (lv' := [(6, .int (iI (((v) * ((x).1 0)) + (((x).2 5) (((((24 : Int)) * (l0)) + ((12 : Int))) + (i)).toNat)))), (0, .ref (h)), (1, .int (iI (l0))), (2, .int (iI (at0))), (3, .int (iI (m0))), (4, .int (iI (o))), (5, .int (iI (q))), (7, .int (iI (i)))]) hx hb dX12_changed_161 hl (by decide) rfl (fun ls hl => ?_)
          refine lv_iinc (v := iI ((i) + (1 : Int))) (lv' := [(7, .int (iI ((i) + (1 : Int)))), (6, .int (iI (((v) * ((x).1 0)) + (((x).2 5) (((((24 : Int)) * (l0)) + ((12 : Int))) + (i)).toNat)))), (0, .ref (h)), (1, .int (iI (l0))), (2, .int (iI (at0))), (3, .int (iI (m0))), (4, .int (iI (o))), (5, .int (iI (q)))]) hx hb dX12_changed_163 hl (k := 7) rfl (iI_add _ _) (by decide) rfl (fun ls hl => ?_)
          refine lv_goto (tgt := 131) hx hb dX12_changed_166 (by decide) ?_
          exact ih.2.2.1  (o) (q) (((v) * ((x).1 0)) + (((x).2 5) (((((24 : Int)) * (l0)) + ((12 : Int))) + (i)).toNat)) ((i) + (1 : Int)) (by omega) (by omega) (by omega) (by omega) (by omega) (by omega) (by omega) (by omega) (by omega) hres _ _ ls hP hD hS (lv_sub hl [2, 3, 4, 5, 6, 7, 1, 0] rfl)
      · intro o q v i o0 o1 q0 q1 ao aq i0 fu i1 fv hres H locs ls hP hD hS hl
        rw [F_m_changed_e3] at hres
        refine lv_iload hx hb dX12_changed_175 (lv_at hl 7 rfl) ?_
        refine lv_aload_n hx hb dX12_changed_177 rfl (lv_at hl 0 rfl) ?_
        refine va_get (D := (dC, dI)) (ci := 12) (v := .int (iI ((x).1 10))) (C := RX12) (T := TX12) (N := 34) hx hb hts hin hown hK hP 0 rfl rfl 10 (by decide) (hts (.fieldLink RX12 119 "LikeWordsModel" "handSize" "I") (by decide +kernel)) (fun _ h9 => h9) rfl dX12_changed_178 ?_
        refine wi_icmp_ge (tgt := 207) hx hb (by first | assumption | (unfold iR; omega) | exact F_R01 (by assumption)) (by first | assumption | (unfold iR; omega) | exact F_R01 (by assumption)) dX12_changed_181 (by decide) (fun c_181 => ?_) (fun c_181 => ?_)
        · skip
          rw [if_pos c_181] at hres
          refine lv_aload_n hx hb dX12_changed_207 rfl (lv_at hl 0 rfl) ?_
          refine va_get (D := (dC, dI)) (ci := 12) (v := .ref (ad 8)) (C := RX12) (T := TX12) (N := 34) hx hb hts hin hown hK hP 0 rfl rfl 8 (by decide) (hts (.fieldLink RX12 29 "LikeWordsModel" "first" "[I") (by decide +kernel)) (fun _ h9 => h9) rfl dX12_changed_208 ?_
          refine lv_aload_n hx hb dX12_changed_211 rfl (lv_at hl 0 rfl) ?_
          refine va_get (D := (dC, dI)) (ci := 12) (v := .int (iI ((x).1 10))) (C := RX12) (T := TX12) (N := 34) hx hb hts hin hown hK hP 0 rfl rfl 10 (by decide) (hts (.fieldLink RX12 119 "LikeWordsModel" "handSize" "I") (by decide +kernel)) (fun _ h9 => h9) rfl dX12_changed_212 ?_
          refine lv_iload hx hb dX12_changed_215 (lv_at hl 4 rfl) ?_
          refine wi_isub hx hb dX12_changed_217 ?_
          refine lv_iload hx hb dX12_changed_218 (lv_at hl 5 rfl) ?_
          refine wi_iadd hx hb dX12_changed_220 ?_
          refine wi_iald (f := (x).2 8) hx hb hK hP 5 0 rfl rfl (i := (((x).1 10) - (o)) + (q)) (by omega) (by omega) (by decide) dX12_changed_221 ?_
          refine lv_iload hx hb dX12_changed_222 (lv_at hl 6 rfl) ?_
          refine wi_iadd hx hb dX12_changed_224 ?_
          exact W.iret (v := iI ((((x).2 8) ((((x).1 10) - (o)) + (q)).toNat) + (v))) hx hb hr (fun t ht hW => ⟨⟨iI ((((x).2 8) ((((x).1 10) - (o)) + (q)).toNat) + (v)), x, rfl, ⟨(by have h9 := congrArg (fun z : Int × MS => iI z.1) hres; exact h9), (by have h9 := congrArg (fun z : Int × MS => z.2) hres; exact h9)⟩, by rw [ht]; exact hP, va_K.moved hW.alike hK, hD⟩, hS.F ht⟩) hS.2.2 dX12_changed_225
        · skip
          rw [if_neg c_181] at hres
          refine lv_iload hx hb dX12_changed_184 (lv_at hl 6 rfl) ?_
          refine lv_aload_n hx hb dX12_changed_186 rfl (lv_at hl 0 rfl) ?_
          refine va_get (D := (dC, dI)) (ci := 12) (v := .int (iI ((x).1 0))) (C := RX12) (T := TX12) (N := 34) hx hb hts hin hown hK hP 0 rfl rfl 0 (by decide) (hts (.fieldLink RX12 7 "LikeWordsModel" "letters" "I") (by decide +kernel)) (fun _ h9 => h9) rfl dX12_changed_187 ?_
          refine wi_imul hx hb dX12_changed_190 ?_
          refine lv_aload_n hx hb dX12_changed_191 rfl (lv_at hl 0 rfl) ?_
          refine va_get (D := (dC, dI)) (ci := 12) (v := .ref (ad 11)) (C := RX12) (T := TX12) (N := 34) hx hb hts hin hown hK hP 0 rfl rfl 11 (by decide) (hts (.fieldLink RX12 35 "LikeWordsModel" "hand" "[I") (by decide +kernel)) (fun _ h9 => h9) rfl dX12_changed_192 ?_
          refine lv_iload hx hb dX12_changed_195 (lv_at hl 7 rfl) ?_
          refine wi_iald (f := (x).2 11) hx hb hK hP 7 0 rfl rfl (i := i) (by omega) (by omega) (by decide) dX12_changed_197 ?_
          refine wi_iadd hx hb dX12_changed_198 ?_
          refine lv_istore (lv' := [(6, .int (iI (((v) * ((x).1 0)) + (((x).2 11) (i).toNat)))), (0, .ref (h)), (1, .int (iI (l0))), (2, .int (iI (at0))), (3, .int (iI (m0))), (4, .int (iI (o))), (5, .int (iI (q))), (7, .int (iI (i)))]) hx hb dX12_changed_199 hl (by decide) rfl (fun ls hl => ?_)
          refine lv_iinc (v := iI ((i) + (1 : Int))) (lv' := [(7, .int (iI ((i) + (1 : Int)))), (6, .int (iI (((v) * ((x).1 0)) + (((x).2 11) (i).toNat)))), (0, .ref (h)), (1, .int (iI (l0))), (2, .int (iI (at0))), (3, .int (iI (m0))), (4, .int (iI (o))), (5, .int (iI (q)))]) hx hb dX12_changed_201 hl (k := 7) rfl (iI_add _ _) (by decide) rfl (fun ls hl => ?_)
          refine lv_goto (tgt := 175) hx hb dX12_changed_204 (by decide) ?_
          exact ih.2.2.2  (o) (q) (((v) * ((x).1 0)) + (((x).2 11) (i).toNat)) ((i) + (1 : Int)) (by omega) (by omega) (by omega) (by omega) (by omega) (by omega) (by omega) (by omega) (by omega) (by omega) hres _ _ ls hP hD hS (lv_sub hl [2, 3, 4, 5, 6, 7, 1, 0] rfl)
  have key : ∀ (H : Heap) (locs : List Loc), va_P (dC, dI) vwCl (mW h ad cI cJ cZ (x)) H → va_S A s.heap H locs → W p l e (headSpec wsX12_changed ({ frames := 0, cells := 0, slots := 0, locals := 0 })).room s m ([.ref h, .int (iI l0), .int (iI at0), .int (iI m0)] : List Value).toArray below meth c H locs 0 0 (MQ below (va_Qi (fun (r : Int32) (u : MS) => r = iI (F_m_changed (x) (l0) (at0) (m0)).1 ∧ u = (F_m_changed (x) (l0) (at0) (m0)).2) (mAt dC dI h ad cI cJ cZ A) A) ([.ref h, .int (iI l0), .int (iI at0), .int (iI m0)] : List Value).toArray s 0 0 A) (F0 m 0 ls []) := by
    intro H locs hP hS
    have hres : (if ((x).1 10) < ((at0) + (((x).2 4) (((2 : Int)) * (l0)).toNat)) then ((-9 : Int), x) else (if ((((x).1 10) - (((x).2 4) (((2 : Int)) * (l0)).toNat)) + (((x).2 4) ((((2 : Int)) * (l0)) + ((1 : Int))).toNat)) ≤ (m0) then F_m_changed_s 400 0 (x) (l0) (at0) (m0) (((x).2 4) (((2 : Int)) * (l0)).toNat) (((x).2 4) ((((2 : Int)) * (l0)) + ((1 : Int))).toNat) ((0 : Int)) (0) else ((-9 : Int), x))) = F_m_changed (x) (l0) (at0) (m0) := rfl
    refine lv_aload_n hx hb dX12_changed_0 rfl (lv_at hl 0 rfl) ?_
    refine va_get (D := (dC, dI)) (ci := 12) (v := .ref (ad 4)) (C := RX12) (T := TX12) (N := 34) hx hb hts hin hown hK hP 0 rfl rfl 4 (by decide) (hts (.fieldLink RX12 20 "LikeWordsModel" "lawSize" "[I") (by decide +kernel)) (fun _ h9 => h9) rfl dX12_changed_1 ?_
    refine lv_iconst (v := iI (2 : Int)) hx hb dX12_changed_4 (by decide) ?_
    refine lv_iload_n hx hb dX12_changed_5 rfl (lv_at hl 1 rfl) ?_
    refine wi_imul hx hb dX12_changed_6 ?_
    refine wi_iald (f := (x).2 4) hx hb hK hP 3 0 rfl rfl (i := ((2 : Int)) * (l0)) (by omega) (by omega) (by decide) dX12_changed_7 ?_
    refine lv_istore (lv' := [(4, .int (iI (((x).2 4) (((2 : Int)) * (l0)).toNat))), (0, .ref (h)), (1, .int (iI (l0))), (2, .int (iI (at0))), (3, .int (iI (m0)))]) hx hb dX12_changed_8 hl (by decide) rfl (fun ls hl => ?_)
    refine lv_aload_n hx hb dX12_changed_10 rfl (lv_at hl 1 rfl) ?_
    refine va_get (D := (dC, dI)) (ci := 12) (v := .ref (ad 4)) (C := RX12) (T := TX12) (N := 34) hx hb hts hin hown hK hP 0 rfl rfl 4 (by decide) (hts (.fieldLink RX12 20 "LikeWordsModel" "lawSize" "[I") (by decide +kernel)) (fun _ h9 => h9) rfl dX12_changed_11 ?_
    refine lv_iconst (v := iI (2 : Int)) hx hb dX12_changed_14 (by decide) ?_
    refine lv_iload_n hx hb dX12_changed_15 rfl (lv_at hl 2 rfl) ?_
    refine wi_imul hx hb dX12_changed_16 ?_
    refine lv_iconst (v := iI (1 : Int)) hx hb dX12_changed_17 (by decide) ?_
    refine wi_iadd hx hb dX12_changed_18 ?_
    refine wi_iald (f := (x).2 4) hx hb hK hP 3 0 rfl rfl (i := (((2 : Int)) * (l0)) + ((1 : Int))) (by omega) (by omega) (by decide) dX12_changed_19 ?_
    refine lv_istore (lv' := [(5, .int (iI (((x).2 4) ((((2 : Int)) * (l0)) + ((1 : Int))).toNat))), (4, .int (iI (((x).2 4) (((2 : Int)) * (l0)).toNat))), (0, .ref (h)), (1, .int (iI (l0))), (2, .int (iI (at0))), (3, .int (iI (m0)))]) hx hb dX12_changed_20 hl (by decide) rfl (fun ls hl => ?_)
    refine lv_iload_n hx hb dX12_changed_22 rfl (lv_at hl 4 rfl) ?_
    refine lv_iload hx hb dX12_changed_23 (lv_at hl 1 rfl) ?_
    refine wi_iadd hx hb dX12_changed_25 ?_
    refine lv_aload_n hx hb dX12_changed_26 rfl (lv_at hl 2 rfl) ?_
    refine va_get (D := (dC, dI)) (ci := 12) (v := .int (iI ((x).1 10))) (C := RX12) (T := TX12) (N := 34) hx hb hts hin hown hK hP 0 rfl rfl 10 (by decide) (hts (.fieldLink RX12 119 "LikeWordsModel" "handSize" "I") (by decide +kernel)) (fun _ h9 => h9) rfl dX12_changed_27 ?_
    refine wi_icmp_gt (tgt := 47) hx hb (by first | assumption | (unfold iR; omega) | exact F_R01 (by assumption)) (by first | assumption | (unfold iR; omega) | exact F_R01 (by assumption)) dX12_changed_30 (by decide) (fun c_30 => ?_) (fun c_30 => ?_)
    · skip
      rw [if_pos c_30] at hres
      refine lv_bipush (v := iI (-9 : Int)) hx hb dX12_changed_47 (by decide) ?_
      exact W.iret (v := iI ((-9 : Int))) hx hb hr (fun t ht hW => ⟨⟨iI ((-9 : Int)), x, rfl, ⟨(by have h9 := congrArg (fun z : Int × MS => iI z.1) hres; exact h9), (by have h9 := congrArg (fun z : Int × MS => z.2) hres; exact h9)⟩, by rw [ht]; exact hP, va_K.moved hW.alike hK, hD⟩, hS.F ht⟩) hS.2.2 dX12_changed_49
    · skip
      rw [if_neg c_30] at hres
      refine lv_aload_n hx hb dX12_changed_33 rfl (lv_at hl 2 rfl) ?_
      refine va_get (D := (dC, dI)) (ci := 12) (v := .int (iI ((x).1 10))) (C := RX12) (T := TX12) (N := 34) hx hb hts hin hown hK hP 0 rfl rfl 10 (by decide) (hts (.fieldLink RX12 119 "LikeWordsModel" "handSize" "I") (by decide +kernel)) (fun _ h9 => h9) rfl dX12_changed_34 ?_
      refine lv_iload hx hb dX12_changed_37 (lv_at hl 1 rfl) ?_
      refine wi_isub hx hb dX12_changed_39 ?_
      refine lv_iload hx hb dX12_changed_40 (lv_at hl 0 rfl) ?_
      refine wi_iadd hx hb dX12_changed_42 ?_
      refine lv_iload_n hx hb dX12_changed_43 rfl (lv_at hl 5 rfl) ?_
      refine wi_icmp_le (tgt := 50) hx hb (by first | assumption | (unfold iR; omega) | exact F_R01 (by assumption)) (by first | assumption | (unfold iR; omega) | exact F_R01 (by assumption)) dX12_changed_44 (by decide) (fun c_44 => ?_) (fun c_44 => ?_)
      · skip
        rw [if_pos c_44] at hres
        refine lv_iconst (v := iI (0 : Int)) hx hb dX12_changed_50 (by decide) ?_
        refine lv_istore (lv' := [(6, .int (iI ((0 : Int)))), (5, .int (iI (((x).2 4) ((((2 : Int)) * (l0)) + ((1 : Int))).toNat))), (4, .int (iI (((x).2 4) (((2 : Int)) * (l0)).toNat))), (0, .ref (h)), (1, .int (iI (l0))), (2, .int (iI (at0))), (3, .int (iI (m0)))]) hx hb dX12_changed_51 hl (by decide) rfl (fun ls hl => ?_)
        exact (L (400)).1  (((x).2 4) (((2 : Int)) * (l0)).toNat) (((x).2 4) ((((2 : Int)) * (l0)) + ((1 : Int))).toNat) ((0 : Int)) (by omega) (by omega) (by omega) (by omega) (by omega) (by omega) (by omega) (by omega) (by omega) hres _ _ ls hP hD hS (lv_sub hl [3, 4, 5, 6, 2, 1, 0] rfl)
      · skip
        rw [if_neg c_44] at hres
        refine lv_bipush (v := iI (-9 : Int)) hx hb dX12_changed_47 (by decide) ?_
        exact W.iret (v := iI ((-9 : Int))) hx hb hr (fun t ht hW => ⟨⟨iI ((-9 : Int)), x, rfl, ⟨(by have h9 := congrArg (fun z : Int × MS => iI z.1) hres; exact h9), (by have h9 := congrArg (fun z : Int × MS => z.2) hres; exact h9)⟩, by rw [ht]; exact hP, va_K.moved hW.alike hK, hD⟩, hS.F ht⟩) hS.2.2 dX12_changed_49
  exact key _ _ hP hS
theorem F_m_changed_sfr : ∀ n : Nat, (∀ (y : MS) (v0 : Int) (v1 : Int) (v2 : Int) (v3 : Int) (v4 : Int) (v5 : Int) (v6 : Int), same [] [] y (F_m_changed_s n 0 y v0 v1 v2 v3 v4 v5 v6).2) ∧ (∀ (y : MS) (v0 : Int) (v1 : Int) (v2 : Int) (v3 : Int) (v4 : Int) (v5 : Int) (v6 : Int), same [] [] y (F_m_changed_s n 1 y v0 v1 v2 v3 v4 v5 v6).2) ∧ (∀ (y : MS) (v0 : Int) (v1 : Int) (v2 : Int) (v3 : Int) (v4 : Int) (v5 : Int) (v6 : Int), same [] [] y (F_m_changed_s n 2 y v0 v1 v2 v3 v4 v5 v6).2) ∧ (∀ (y : MS) (v0 : Int) (v1 : Int) (v2 : Int) (v3 : Int) (v4 : Int) (v5 : Int) (v6 : Int), same [] [] y (F_m_changed_s n 3 y v0 v1 v2 v3 v4 v5 v6).2) := by
  intro n
  induction n with
  | zero => exact ⟨fun y _ _ _ _ _ _ _ => sm_rf _ _ _, fun y _ _ _ _ _ _ _ => sm_rf _ _ _, fun y _ _ _ _ _ _ _ => sm_rf _ _ _, fun y _ _ _ _ _ _ _ => sm_rf _ _ _⟩
  | succ n ih =>
    refine ⟨?_, ?_, ?_, ?_⟩
    · intro y l0 at0 m0 o q i q0
      rw [F_m_changed_e0]
      by_cases hc : (o) ≤ (i)
      · rw [if_pos hc]
        exact sm_tr ((sm_rf _ _ _)) (ih.2.1 (y) (l0) (at0) (m0) (o) (q) ((0 : Int)) ((0 : Int)))
      · rw [if_neg hc]
        by_cases hc : (((y).2 11) ((at0) + (i)).toNat) = (((y).2 5) ((((24 : Int)) * (l0)) + (i)).toNat)
        · rw [if_pos hc]
          exact sm_tr ((sm_rf _ _ _)) (ih.1 (y) (l0) (at0) (m0) (o) (q) ((i) + (1 : Int)) (0))
        · rw [if_neg hc]
          exact (sm_rf _ _ _)
    · intro y l0 at0 m0 o q v i
      rw [F_m_changed_e1]
      by_cases hc : (at0) ≤ (i)
      · rw [if_pos hc]
        exact sm_tr ((sm_rf _ _ _)) (ih.2.2.1 (y) (l0) (at0) (m0) (o) (q) (v) ((0 : Int)))
      · rw [if_neg hc]
        exact sm_tr ((sm_rf _ _ _)) (ih.2.1 (y) (l0) (at0) (m0) (o) (q) (((v) * ((y).1 0)) + (((y).2 11) (i).toNat)) ((i) + (1 : Int)))
    · intro y l0 at0 m0 o q v i
      rw [F_m_changed_e2]
      by_cases hc : (q) ≤ (i)
      · rw [if_pos hc]
        exact sm_tr ((sm_rf _ _ _)) (ih.2.2.2 (y) (l0) (at0) (m0) (o) (q) (v) ((at0) + (o)))
      · rw [if_neg hc]
        exact sm_tr ((sm_rf _ _ _)) (ih.2.2.1 (y) (l0) (at0) (m0) (o) (q) (((v) * ((y).1 0)) + (((y).2 5) (((((24 : Int)) * (l0)) + ((12 : Int))) + (i)).toNat)) ((i) + (1 : Int)))
    · intro y l0 at0 m0 o q v i
      rw [F_m_changed_e3]
      by_cases hc : ((y).1 10) ≤ (i)
      · rw [if_pos hc]
        exact (sm_rf _ _ _)
      · rw [if_neg hc]
        exact sm_tr ((sm_rf _ _ _)) (ih.2.2.2 (y) (l0) (at0) (m0) (o) (q) (((v) * ((y).1 0)) + (((y).2 11) (i).toNat)) ((i) + (1 : Int)))
theorem F_m_changed_fr (x : MS) (l0 : Int) (at0 : Int) (m0 : Int) : same [] [] x (F_m_changed (x) (l0) (at0) (m0)).2 := by
  unfold F_m_changed
  by_cases hc : ((x).1 10) < ((at0) + (((x).2 4) (((2 : Int)) * (l0)).toNat))
  · rw [if_pos hc]
    exact (sm_rf _ _ _)
  · rw [if_neg hc]
    by_cases hc : ((((x).1 10) - (((x).2 4) (((2 : Int)) * (l0)).toNat)) + (((x).2 4) ((((2 : Int)) * (l0)) + ((1 : Int))).toNat)) ≤ (m0)
    · rw [if_pos hc]
      exact sm_tr ((sm_rf _ _ _)) ((F_m_changed_sfr 400).1 (x) (l0) (at0) (m0) (((x).2 4) (((2 : Int)) * (l0)).toNat) (((x).2 4) ((((2 : Int)) * (l0)) + ((1 : Int))).toNat) ((0 : Int)) (0))
    · rw [if_neg hc]
      exact (sm_rf _ _ _)
theorem F_m_changed_2 (x : MS) (l0 : Int) (at0 : Int) (m0 : Int) : (F_m_changed (x) (l0) (at0) (m0)).2 = x := sm_nil (F_m_changed_fr x l0 at0 m0)
def F_m_withoutFirst (x : MS) (w : Int) : Int × MS := (if ((x).1 0) = ((1 : Int)) then ((w) - ((1 : Int)), x) else ((((x).2 8) (((x).1 10) - ((1 : Int))).toNat) + (((w) - (((x).2 8) ((x).1 10).toNat)) % ((F_m_powerOf (x) (((x).1 10) - ((1 : Int)))).1)), x))
set_option maxHeartbeats 4000000 in
set_option maxRecDepth 100000 in
/-- withoutFirst -/
theorem c_m_withoutFirst (l : Launch) (dC : Nat → ClassId) (dI : Nat → Nat → Nat) (h : Nat) (ad : Nat → Nat) (cI cJ cZ : ClassId) (sz : Nat) (x : MS) (w : Int) (h0 : x.1 0 = 1 ∨ (1 ≤ x.1 10 ∧ x.1 10 ≤ 60 ∧ x.2 8 (x.1 10).toNat ≤ w ∧ 0 < (F_m_powerOf x (x.1 10 - 1)).1 ∧ iR (F_m_powerOf x (x.1 10 - 1)).1)) (w1 : w ≤ 20000) (hf : fR x) (lt : 1 ≤ x.1 0 ∧ x.1 0 ≤ 4) : Met l yX12_withoutFirst wsX12_withoutFirst ({ frames := 1, cells := 0, slots := 0, locals := 23 }) (mPc dC dI h ad cI cJ cZ sz x [.ref h, .int (iI w)]) (va_Qi (fun (r : Int32) (u : MS) => r = iI (F_m_withoutFirst (x) (w)).1 ∧ u = (F_m_withoutFirst (x) (w)).2) (mAt dC dI h ad cI cJ cZ (va_A (mW h ad cI cJ cZ (x)) sz)) (va_A (mW h ad cI cJ cZ (x)) sz)) 0 0 (va_A (mW h ad cI cJ cZ (x)) sz) := by
  refine Met.ofW (cc := cX12_withoutFirst) (maxL := 2) (ret := (some .int)) (by decide) rfl ?_
  intro p e s m args below meth c s₁ B hml hv
  obtain ⟨rfl, hsz, hP, hK, hD0⟩ := hv
  have hx := B.exec
  have hb := B.bytes
  have hr := B.returns
  have hts := atoms_spec (ws := wsX12_withoutFirst) B.pre
  have hown : s.vm.findClass RX12 = some m.cls := findClass_of_methodNamed B.named
  have hlocks := B.notSynchronized
  have hin : ∀ w ∈ u_ws RX12 TX12 34, w ∈ wsX12_withoutFirst := by decide +kernel
  subst hsz
  have hD := hD0.self (sz := s.heap.size)
  generalize hAe : va_A (mW h ad cI cJ cZ (x)) s.heap.size = A at hD ⊢
  have hA : ∀ q : Nat, s.heap.size ≤ q → A q := fun q h => by rw [← hAe]; exact Or.inr h
  have hS : va_S A s.heap s.heap [] := va_S.rf
  have hl := lv_entry ([.ref h, .int (iI w)]) (n := 2) (Nat.le_of_ble_eq_true rfl)
  rw [lg_entry_eq]
  generalize (lg_sl ([.ref h, .int (iI w)]) ++ List.replicate (2 - (lg_sl ([.ref h, .int (iI w)])).length) Slot.unset).toArray = ls at hl ⊢
  have hl : lv_has ls 2 [(0, .ref (h)), (1, .int (iI (w)))] := hl
  have l0 := lt.1
  have l1 := lt.2
  have key : ∀ (H : Heap) (locs : List Loc), va_P (dC, dI) vwCl (mW h ad cI cJ cZ (x)) H → va_S A s.heap H locs → W p l e (headSpec wsX12_withoutFirst ({ frames := 1, cells := 0, slots := 0, locals := 23 })).room s m ([.ref h, .int (iI w)] : List Value).toArray below meth c H locs 0 0 (MQ below (va_Qi (fun (r : Int32) (u : MS) => r = iI (F_m_withoutFirst (x) (w)).1 ∧ u = (F_m_withoutFirst (x) (w)).2) (mAt dC dI h ad cI cJ cZ A) A) ([.ref h, .int (iI w)] : List Value).toArray s 0 0 A) (F0 m 0 ls []) := by
    intro H locs hP hS
    have hres : (if ((x).1 0) = ((1 : Int)) then ((w) - ((1 : Int)), x) else ((((x).2 8) (((x).1 10) - ((1 : Int))).toNat) + (((w) - (((x).2 8) ((x).1 10).toNat)) % ((F_m_powerOf (x) (((x).1 10) - ((1 : Int)))).1)), x)) = F_m_withoutFirst (x) (w) := rfl
    refine lv_aload_n hx hb dX12_withoutFirst_0 rfl (lv_at hl 0 rfl) ?_
    refine va_get (D := (dC, dI)) (ci := 12) (v := .int (iI ((x).1 0))) (C := RX12) (T := TX12) (N := 34) hx hb hts hin hown hK hP 0 rfl rfl 0 (by decide) (hts (.fieldLink RX12 7 "LikeWordsModel" "letters" "I") (by decide +kernel)) (fun _ h9 => h9) rfl dX12_withoutFirst_1 ?_
    refine lv_iconst (v := iI (1 : Int)) hx hb dX12_withoutFirst_4 (by decide) ?_
    refine wi_icmp_ne (tgt := 14) hx hb (by first | assumption | (unfold iR; omega) | exact F_R01 (by assumption)) ⟨by decide, by decide⟩ dX12_withoutFirst_5 (by decide) (fun c_5 => ?_) (fun c_5 => ?_)
    · skip
      rw [if_neg c_5] at hres
      obtain ⟨h1, h2, h3, h4, h5⟩ := h0.resolve_left (by omega)
      have f1 := hf.2 (x.1 10 - 1).toNat (by omega)
      have f2 := hf.2 (x.1 10).toNat (by omega)
      refine lv_aload_n hx hb dX12_withoutFirst_14 rfl (lv_at hl 0 rfl) ?_
      refine va_get (D := (dC, dI)) (ci := 12) (v := .ref (ad 8)) (C := RX12) (T := TX12) (N := 34) hx hb hts hin hown hK hP 0 rfl rfl 8 (by decide) (hts (.fieldLink RX12 29 "LikeWordsModel" "first" "[I") (by decide +kernel)) (fun _ h9 => h9) rfl dX12_withoutFirst_15 ?_
      refine lv_aload_n hx hb dX12_withoutFirst_18 rfl (lv_at hl 0 rfl) ?_
      refine va_get (D := (dC, dI)) (ci := 12) (v := .int (iI ((x).1 10))) (C := RX12) (T := TX12) (N := 34) hx hb hts hin hown hK hP 0 rfl rfl 10 (by decide) (hts (.fieldLink RX12 119 "LikeWordsModel" "handSize" "I") (by decide +kernel)) (fun _ h9 => h9) rfl dX12_withoutFirst_19 ?_
      refine lv_iconst (v := iI (1 : Int)) hx hb dX12_withoutFirst_22 (by decide) ?_
      refine wi_isub hx hb dX12_withoutFirst_23 ?_
      refine wi_iald (f := (x).2 8) hx hb hK hP 5 0 rfl rfl (i := ((x).1 10) - ((1 : Int))) (by omega) (by omega) (by decide) dX12_withoutFirst_24 ?_
      refine lv_iload_n hx hb dX12_withoutFirst_25 rfl (lv_at hl 1 rfl) ?_
      refine lv_aload_n hx hb dX12_withoutFirst_26 rfl (lv_at hl 0 rfl) ?_
      refine va_get (D := (dC, dI)) (ci := 12) (v := .ref (ad 8)) (C := RX12) (T := TX12) (N := 34) hx hb hts hin hown hK hP 0 rfl rfl 8 (by decide) (hts (.fieldLink RX12 29 "LikeWordsModel" "first" "[I") (by decide +kernel)) (fun _ h9 => h9) rfl dX12_withoutFirst_27 ?_
      refine lv_aload_n hx hb dX12_withoutFirst_30 rfl (lv_at hl 0 rfl) ?_
      refine va_get (D := (dC, dI)) (ci := 12) (v := .int (iI ((x).1 10))) (C := RX12) (T := TX12) (N := 34) hx hb hts hin hown hK hP 0 rfl rfl 10 (by decide) (hts (.fieldLink RX12 119 "LikeWordsModel" "handSize" "I") (by decide +kernel)) (fun _ h9 => h9) rfl dX12_withoutFirst_31 ?_
      refine wi_iald (f := (x).2 8) hx hb hK hP 5 0 rfl rfl (i := (x).1 10) (by omega) (by omega) (by decide) dX12_withoutFirst_34 ?_
      refine wi_isub hx hb dX12_withoutFirst_35 ?_
      refine lv_aload_n hx hb dX12_withoutFirst_36 rfl (lv_at hl 0 rfl) ?_
      refine lv_aload_n hx hb dX12_withoutFirst_37 rfl (lv_at hl 0 rfl) ?_
      refine va_get (D := (dC, dI)) (ci := 12) (v := .int (iI ((x).1 10))) (C := RX12) (T := TX12) (N := 34) hx hb hts hin hown hK hP 0 rfl rfl 10 (by decide) (hts (.fieldLink RX12 119 "LikeWordsModel" "handSize" "I") (by decide +kernel)) (fun _ h9 => h9) rfl dX12_withoutFirst_38 ?_
      refine lv_iconst (v := iI (1 : Int)) hx hb dX12_withoutFirst_41 (by decide) ?_
      refine wi_isub hx hb dX12_withoutFirst_42 ?_
      have hFc : ∀ q, va_A (mW h ad cI cJ cZ (x)) H.size q → A q := fun q hq => Or.elim hq (fun ⟨k, e, hk⟩ => hD.2 k (q, e) hk) (fun hk => hA q (Nat.le_trans hS.1 hk))
      refine va_calli (va_runV (As := [.int (iI (((x).1 10) - ((1 : Int))))]) (rest := [.int (iI ((w) - (((x).2 8) ((x).1 10).toNat))), .int (iI (((x).2 8) (((x).1 10) - ((1 : Int))).toNat))]) ⟨hx, hb, hml, hown, hts⟩ (c_m_powerOf l dC dI h ad cI cJ cZ H.size (x) (((x).1 10) - ((1 : Int))) (by first | assumption | exact iR_L (by assumption) | exact ⟨by decide, by decide⟩ | omega | (unfold iR; omega) | (unfold iRL; omega)) (by first | assumption | exact iR_L (by assumption) | exact ⟨by decide, by decide⟩ | omega | (unfold iR; omega) | (unfold iRL; omega))) (cwV 1 hts gX12_withoutFirst_X12_powerOf rfl rfl rfl (by decide +kernel) ⟨Nat.le_of_ble_eq_true rfl, Nat.le_of_ble_eq_true rfl⟩) ⟨fun a U g mk q => by obtain ⟨q0, q1, qP, qK, qD⟩ := q; exact ⟨q0, q1, qP, va_K.moved (u := U) (U := U.calling g mk a) (Vm.Alike.refl U.vm) qK, qD⟩, va_recv hK hP (ci := 12) (q0 := 0) rfl rfl, fun U hU hW => ⟨rfl, by rw [hU], by rw [hU]; exact hP, va_K.moved hW.alike hK, hD.weaken (fun _ _ _ _ => trivial)⟩⟩ rfl rfl hl.1 rfl (lv_room (Nat.le_of_ble_eq_true rfl)) dX12_withoutFirst_43 ⟨Nat.le_of_ble_eq_true rfl, Nat.le_of_ble_eq_true rfl⟩) hS (fun q _ h => hFc q h) hFc (fun r9 u9 t H1 locs ht hvm hw hB hz1 hk1 hS => ?_)
      obtain ⟨hP1, hK1, hD1⟩ := hB
      rw [ht] at hP1
      obtain ⟨hw1, hw2⟩ := hw
      rw [hw2] at hP1 hD1
      rw [hw1]
      rw [F_m_powerOf_2] at hP1 hD1
      have hD2 := hD1.weaken (B := A) (fun _ q _ h => hFc q.1 h)
      have hP := hP1
      have hD := hD2
      generalize H1 = H at hP hS ⊢
      have h4 : 0 < (F_m_powerOf (x) (((x).1 10) - ((1 : Int)))).1 := h4
      have h5 : iR (F_m_powerOf (x) (((x).1 10) - ((1 : Int)))).1 := h5
      refine wi_irem hx hb (by first | assumption | (unfold iR; omega) | exact F_R01 (by assumption)) (by first | assumption | (unfold iR; omega) | exact F_R01 (by assumption)) (by omega) (by omega) dX12_withoutFirst_46 ?_
      refine wi_iadd hx hb dX12_withoutFirst_47 ?_
      exact W.iret (v := iI ((((x).2 8) (((x).1 10) - ((1 : Int))).toNat) + (((w) - (((x).2 8) ((x).1 10).toNat)) % ((F_m_powerOf (x) (((x).1 10) - ((1 : Int)))).1)))) hx hb hr (fun t ht hW => ⟨⟨iI ((((x).2 8) (((x).1 10) - ((1 : Int))).toNat) + (((w) - (((x).2 8) ((x).1 10).toNat)) % ((F_m_powerOf (x) (((x).1 10) - ((1 : Int)))).1))), x, rfl, ⟨(by have h9 := congrArg (fun z : Int × MS => iI z.1) hres; exact h9), (by have h9 := congrArg (fun z : Int × MS => z.2) hres; exact h9)⟩, by rw [ht]; exact hP, va_K.moved hW.alike hK, hD⟩, hS.F ht⟩) hS.2.2 dX12_withoutFirst_48
    · skip
      rw [if_pos c_5] at hres
      refine lv_iload_n hx hb dX12_withoutFirst_8 rfl (lv_at hl 1 rfl) ?_
      refine lv_iconst (v := iI (1 : Int)) hx hb dX12_withoutFirst_9 (by decide) ?_
      refine wi_isub hx hb dX12_withoutFirst_10 ?_
      refine lv_goto (tgt := 48) hx hb dX12_withoutFirst_11 (by decide) ?_
      exact W.iret (v := iI ((w) - ((1 : Int)))) hx hb hr (fun t ht hW => ⟨⟨iI ((w) - ((1 : Int))), x, rfl, ⟨(by have h9 := congrArg (fun z : Int × MS => iI z.1) hres; exact h9), (by have h9 := congrArg (fun z : Int × MS => z.2) hres; exact h9)⟩, by rw [ht]; exact hP, va_K.moved hW.alike hK, hD⟩, hS.F ht⟩) hS.2.2 dX12_withoutFirst_48
  exact key _ _ hP hS
theorem F_m_withoutFirst_fr (x : MS) (w : Int) : same [] [] x (F_m_withoutFirst (x) (w)).2 := by
  unfold F_m_withoutFirst
  by_cases hc : ((x).1 0) = ((1 : Int))
  · rw [if_pos hc]
    exact (sm_rf _ _ _)
  · rw [if_neg hc]
    exact (sm_rf _ _ _)
theorem F_m_withoutFirst_2 (x : MS) (w : Int) : (F_m_withoutFirst (x) (w)).2 = x := sm_nil (F_m_withoutFirst_fr x w)
def F_m_withoutLast (x : MS) (w : Int) : Int × MS := (if ((x).1 0) = ((1 : Int)) then ((w) - ((1 : Int)), x) else ((((x).2 8) (((x).1 10) - ((1 : Int))).toNat) + (((w) - (((x).2 8) ((x).1 10).toNat)) / ((x).1 0)), x))
set_option maxHeartbeats 4000000 in
set_option maxRecDepth 100000 in
/-- withoutLast -/
theorem c_m_withoutLast (l : Launch) (dC : Nat → ClassId) (dI : Nat → Nat → Nat) (h : Nat) (ad : Nat → Nat) (cI cJ cZ : ClassId) (sz : Nat) (x : MS) (w : Int) (h0 : x.1 0 = 1 ∨ (1 ≤ x.1 10 ∧ x.1 10 ≤ 60 ∧ x.2 8 (x.1 10).toNat ≤ w)) (w1 : w ≤ 20000) (hf : fR x) (lt : 1 ≤ x.1 0 ∧ x.1 0 ≤ 4) : Met l yX12_withoutLast wsX12_withoutLast ({ frames := 0, cells := 0, slots := 0, locals := 0 }) (mPc dC dI h ad cI cJ cZ sz x [.ref h, .int (iI w)]) (va_Qi (fun (r : Int32) (u : MS) => r = iI (F_m_withoutLast (x) (w)).1 ∧ u = (F_m_withoutLast (x) (w)).2) (mAt dC dI h ad cI cJ cZ (va_A (mW h ad cI cJ cZ (x)) sz)) (va_A (mW h ad cI cJ cZ (x)) sz)) 0 0 (va_A (mW h ad cI cJ cZ (x)) sz) := by
  refine Met.ofW (cc := cX12_withoutLast) (maxL := 2) (ret := (some .int)) (by decide) rfl ?_
  intro p e s m args below meth c s₁ B hml hv
  obtain ⟨rfl, hsz, hP, hK, hD0⟩ := hv
  have hx := B.exec
  have hb := B.bytes
  have hr := B.returns
  have hts := atoms_spec (ws := wsX12_withoutLast) B.pre
  have hown : s.vm.findClass RX12 = some m.cls := findClass_of_methodNamed B.named
  have hlocks := B.notSynchronized
  have hin : ∀ w ∈ u_ws RX12 TX12 34, w ∈ wsX12_withoutLast := by decide +kernel
  subst hsz
  have hD := hD0.self (sz := s.heap.size)
  generalize hAe : va_A (mW h ad cI cJ cZ (x)) s.heap.size = A at hD ⊢
  have hA : ∀ q : Nat, s.heap.size ≤ q → A q := fun q h => by rw [← hAe]; exact Or.inr h
  have hS : va_S A s.heap s.heap [] := va_S.rf
  have hl := lv_entry ([.ref h, .int (iI w)]) (n := 2) (Nat.le_of_ble_eq_true rfl)
  rw [lg_entry_eq]
  generalize (lg_sl ([.ref h, .int (iI w)]) ++ List.replicate (2 - (lg_sl ([.ref h, .int (iI w)])).length) Slot.unset).toArray = ls at hl ⊢
  have hl : lv_has ls 2 [(0, .ref (h)), (1, .int (iI (w)))] := hl
  have l0 := lt.1
  have l1 := lt.2
  have key : ∀ (H : Heap) (locs : List Loc), va_P (dC, dI) vwCl (mW h ad cI cJ cZ (x)) H → va_S A s.heap H locs → W p l e (headSpec wsX12_withoutLast ({ frames := 0, cells := 0, slots := 0, locals := 0 })).room s m ([.ref h, .int (iI w)] : List Value).toArray below meth c H locs 0 0 (MQ below (va_Qi (fun (r : Int32) (u : MS) => r = iI (F_m_withoutLast (x) (w)).1 ∧ u = (F_m_withoutLast (x) (w)).2) (mAt dC dI h ad cI cJ cZ A) A) ([.ref h, .int (iI w)] : List Value).toArray s 0 0 A) (F0 m 0 ls []) := by
    intro H locs hP hS
    have hres : (if ((x).1 0) = ((1 : Int)) then ((w) - ((1 : Int)), x) else ((((x).2 8) (((x).1 10) - ((1 : Int))).toNat) + (((w) - (((x).2 8) ((x).1 10).toNat)) / ((x).1 0)), x)) = F_m_withoutLast (x) (w) := rfl
    refine lv_aload_n hx hb dX12_withoutLast_0 rfl (lv_at hl 0 rfl) ?_
    refine va_get (D := (dC, dI)) (ci := 12) (v := .int (iI ((x).1 0))) (C := RX12) (T := TX12) (N := 34) hx hb hts hin hown hK hP 0 rfl rfl 0 (by decide) (hts (.fieldLink RX12 7 "LikeWordsModel" "letters" "I") (by decide +kernel)) (fun _ h9 => h9) rfl dX12_withoutLast_1 ?_
    refine lv_iconst (v := iI (1 : Int)) hx hb dX12_withoutLast_4 (by decide) ?_
    refine wi_icmp_ne (tgt := 14) hx hb (by first | assumption | (unfold iR; omega) | exact F_R01 (by assumption)) ⟨by decide, by decide⟩ dX12_withoutLast_5 (by decide) (fun c_5 => ?_) (fun c_5 => ?_)
    · skip
      rw [if_neg c_5] at hres
      obtain ⟨h1, h2, h3⟩ := h0.resolve_left (by omega)
      have f1 := hf.2 (x.1 10 - 1).toNat (by omega)
      have f2 := hf.2 (x.1 10).toNat (by omega)
      refine lv_aload_n hx hb dX12_withoutLast_14 rfl (lv_at hl 0 rfl) ?_
      refine va_get (D := (dC, dI)) (ci := 12) (v := .ref (ad 8)) (C := RX12) (T := TX12) (N := 34) hx hb hts hin hown hK hP 0 rfl rfl 8 (by decide) (hts (.fieldLink RX12 29 "LikeWordsModel" "first" "[I") (by decide +kernel)) (fun _ h9 => h9) rfl dX12_withoutLast_15 ?_
      refine lv_aload_n hx hb dX12_withoutLast_18 rfl (lv_at hl 0 rfl) ?_
      refine va_get (D := (dC, dI)) (ci := 12) (v := .int (iI ((x).1 10))) (C := RX12) (T := TX12) (N := 34) hx hb hts hin hown hK hP 0 rfl rfl 10 (by decide) (hts (.fieldLink RX12 119 "LikeWordsModel" "handSize" "I") (by decide +kernel)) (fun _ h9 => h9) rfl dX12_withoutLast_19 ?_
      refine lv_iconst (v := iI (1 : Int)) hx hb dX12_withoutLast_22 (by decide) ?_
      refine wi_isub hx hb dX12_withoutLast_23 ?_
      refine wi_iald (f := (x).2 8) hx hb hK hP 5 0 rfl rfl (i := ((x).1 10) - ((1 : Int))) (by omega) (by omega) (by decide) dX12_withoutLast_24 ?_
      refine lv_iload_n hx hb dX12_withoutLast_25 rfl (lv_at hl 1 rfl) ?_
      refine lv_aload_n hx hb dX12_withoutLast_26 rfl (lv_at hl 0 rfl) ?_
      refine va_get (D := (dC, dI)) (ci := 12) (v := .ref (ad 8)) (C := RX12) (T := TX12) (N := 34) hx hb hts hin hown hK hP 0 rfl rfl 8 (by decide) (hts (.fieldLink RX12 29 "LikeWordsModel" "first" "[I") (by decide +kernel)) (fun _ h9 => h9) rfl dX12_withoutLast_27 ?_
      refine lv_aload_n hx hb dX12_withoutLast_30 rfl (lv_at hl 0 rfl) ?_
      refine va_get (D := (dC, dI)) (ci := 12) (v := .int (iI ((x).1 10))) (C := RX12) (T := TX12) (N := 34) hx hb hts hin hown hK hP 0 rfl rfl 10 (by decide) (hts (.fieldLink RX12 119 "LikeWordsModel" "handSize" "I") (by decide +kernel)) (fun _ h9 => h9) rfl dX12_withoutLast_31 ?_
      refine wi_iald (f := (x).2 8) hx hb hK hP 5 0 rfl rfl (i := (x).1 10) (by omega) (by omega) (by decide) dX12_withoutLast_34 ?_
      refine wi_isub hx hb dX12_withoutLast_35 ?_
      refine lv_aload_n hx hb dX12_withoutLast_36 rfl (lv_at hl 0 rfl) ?_
      refine va_get (D := (dC, dI)) (ci := 12) (v := .int (iI ((x).1 0))) (C := RX12) (T := TX12) (N := 34) hx hb hts hin hown hK hP 0 rfl rfl 0 (by decide) (hts (.fieldLink RX12 7 "LikeWordsModel" "letters" "I") (by decide +kernel)) (fun _ h9 => h9) rfl dX12_withoutLast_37 ?_
      refine wi_idiv hx hb (by first | assumption | (unfold iR; omega) | exact F_R01 (by assumption)) (by first | assumption | (unfold iR; omega) | exact F_R01 (by assumption)) (by omega) (by omega) dX12_withoutLast_40 ?_
      refine wi_iadd hx hb dX12_withoutLast_41 ?_
      exact W.iret (v := iI ((((x).2 8) (((x).1 10) - ((1 : Int))).toNat) + (((w) - (((x).2 8) ((x).1 10).toNat)) / ((x).1 0)))) hx hb hr (fun t ht hW => ⟨⟨iI ((((x).2 8) (((x).1 10) - ((1 : Int))).toNat) + (((w) - (((x).2 8) ((x).1 10).toNat)) / ((x).1 0))), x, rfl, ⟨(by have h9 := congrArg (fun z : Int × MS => iI z.1) hres; exact h9), (by have h9 := congrArg (fun z : Int × MS => z.2) hres; exact h9)⟩, by rw [ht]; exact hP, va_K.moved hW.alike hK, hD⟩, hS.F ht⟩) hS.2.2 dX12_withoutLast_42
    · skip
      rw [if_pos c_5] at hres
      refine lv_iload_n hx hb dX12_withoutLast_8 rfl (lv_at hl 1 rfl) ?_
      refine lv_iconst (v := iI (1 : Int)) hx hb dX12_withoutLast_9 (by decide) ?_
      refine wi_isub hx hb dX12_withoutLast_10 ?_
      refine lv_goto (tgt := 42) hx hb dX12_withoutLast_11 (by decide) ?_
      exact W.iret (v := iI ((w) - ((1 : Int)))) hx hb hr (fun t ht hW => ⟨⟨iI ((w) - ((1 : Int))), x, rfl, ⟨(by have h9 := congrArg (fun z : Int × MS => iI z.1) hres; exact h9), (by have h9 := congrArg (fun z : Int × MS => z.2) hres; exact h9)⟩, by rw [ht]; exact hP, va_K.moved hW.alike hK, hD⟩, hS.F ht⟩) hS.2.2 dX12_withoutLast_42
  exact key _ _ hP hS
theorem F_m_withoutLast_fr (x : MS) (w : Int) : same [] [] x (F_m_withoutLast (x) (w)).2 := by
  unfold F_m_withoutLast
  by_cases hc : ((x).1 0) = ((1 : Int))
  · rw [if_pos hc]
    exact (sm_rf _ _ _)
  · rw [if_neg hc]
    exact (sm_rf _ _ _)
theorem F_m_withoutLast_2 (x : MS) (w : Int) : (F_m_withoutLast (x) (w)).2 = x := sm_nil (F_m_withoutLast_fr x w)
