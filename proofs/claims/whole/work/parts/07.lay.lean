/-- the row of firsts: small numbers, the first of them 0 -/
def fR (x : MS) : Prop := x.2 8 0 = 0 ∧ ∀ k : Nat, k < 64 → 0 ≤ x.2 8 k ∧ x.2 8 k ≤ 20000
def F_m_lay_s : Nat → Nat → MS → Int → Int → Int → Int × MS
  | 0, _, x, _, _, _ => (0, x)
  | n + 1, t, x, p0, p1, p2 => match t with
    | 0 => (fun (w : Int) => (if (w) < (((x).2 8) (((x).1 10) + ((1 : Int))).toNat) then F_m_lay_s n 1 (x) (w) ((w) - (((x).2 8) ((x).1 10).toNat)) (((x).1 10) - ((1 : Int))) else F_m_lay_s n 0 (sU (x) 10 (((x).1 10) + ((1 : Int)))) (w) (0) (0))) p0
    | 1 => (fun (w : Int) (v : Int) (i : Int) => (if (i) < (0) then (0, x) else F_m_lay_s n 1 (aU (x) 11 (i).toNat ((v) % ((x).1 0))) (w) ((v) / ((x).1 0)) ((i) + (-1 : Int)))) p0 p1 p2
    | _ => (0, x)
theorem F_m_lay_e0 (n : Nat) (x : MS) (w : Int) (q0 : Int) (q1 : Int) : F_m_lay_s (n + 1) 0 x w q0 q1 = (if (w) < (((x).2 8) (((x).1 10) + ((1 : Int))).toNat) then F_m_lay_s n 1 (x) (w) ((w) - (((x).2 8) ((x).1 10).toNat)) (((x).1 10) - ((1 : Int))) else F_m_lay_s n 0 (sU (x) 10 (((x).1 10) + ((1 : Int)))) (w) (0) (0)) := rfl
theorem F_m_lay_e1 (n : Nat) (x : MS) (w : Int) (v : Int) (i : Int) : F_m_lay_s (n + 1) 1 x w v i = (if (i) < (0) then (0, x) else F_m_lay_s n 1 (aU (x) 11 (i).toNat ((v) % ((x).1 0))) (w) ((v) / ((x).1 0)) ((i) + (-1 : Int))) := rfl
def F_m_lay (x : MS) (w : Int) : Int × MS := F_m_lay_s 200 0 (sU (x) 10 ((0 : Int))) (w) (0) (0)
set_option maxHeartbeats 4000000 in
set_option maxRecDepth 100000 in
/-- lay -/
theorem c_m_lay (l : Launch) (dC : Nat → ClassId) (dI : Nat → Nat → Nat) (h : Nat) (ad : Nat → Nat) (cI cJ cZ : ClassId) (sz : Nat) (x : MS) (w : Int) (w0 : 0 ≤ w) (w1 : w ≤ 20000) (hf : fR x) (hK8 : ∃ K : Nat, 1 ≤ K ∧ K < 64 ∧ w < x.2 8 K) (lt : 1 ≤ x.1 0 ∧ x.1 0 ≤ 4) : Met l yX12_lay wsX12_lay ({ frames := 0, cells := 0, slots := 0, locals := 0 }) (mPc dC dI h ad cI cJ cZ sz x [.ref h, .int (iI w)]) (va_Qv (fun u : MS => u = (F_m_lay (x) (w)).2) (mAt dC dI h ad cI cJ cZ (va_A (mW h ad cI cJ cZ (x)) sz)) (va_A (mW h ad cI cJ cZ (x)) sz)) 0 0 (va_A (mW h ad cI cJ cZ (x)) sz) := by
  refine Met.ofW (cc := cX12_lay) (maxL := 4) (ret := none) (by decide) rfl ?_
  intro p e s m args below meth c s₁ B hml hv
  obtain ⟨rfl, hsz, hP, hK, hD0⟩ := hv
  have hx := B.exec
  have hb := B.bytes
  have hr := B.returns
  have hts := atoms_spec (ws := wsX12_lay) B.pre
  have hown : s.vm.findClass RX12 = some m.cls := findClass_of_methodNamed B.named
  have hlocks := B.notSynchronized
  have hin : ∀ w ∈ u_ws RX12 TX12 34, w ∈ wsX12_lay := by decide +kernel
  subst hsz
  have hD := hD0.self (sz := s.heap.size)
  generalize hAe : va_A (mW h ad cI cJ cZ (x)) s.heap.size = A at hD ⊢
  have hA : ∀ q : Nat, s.heap.size ≤ q → A q := fun q h => by rw [← hAe]; exact Or.inr h
  have hS : va_S A s.heap s.heap [] := va_S.rf
  have hl := lv_entry ([.ref h, .int (iI w)]) (n := 4) (Nat.le_of_ble_eq_true rfl)
  rw [lg_entry_eq]
  generalize (lg_sl ([.ref h, .int (iI w)]) ++ List.replicate (4 - (lg_sl ([.ref h, .int (iI w)])).length) Slot.unset).toArray = ls at hl ⊢
  have hl : lv_has ls 4 [(0, .ref (h)), (1, .int (iI (w)))] := hl
  obtain ⟨K, K1, K2, K3⟩ := hK8
  have l0 := lt.1
  have l1 := lt.2
  have hf0 := hf.1
  have hfk := hf.2
  have L : ∀ n : Nat, (∀ (y : MS) , (y.2 8 = x.2 8) → (y.1 0 = x.1 0) → (0 ≤ y.1 10) → (y.1 10 + 1 ≤ K) → (x.2 8 (y.1 10).toNat ≤ w) → (K - y.1 10 + 70 < n) → F_m_lay_s n 0 y w 0 0 = F_m_lay (x) (w) → ∀ (H : Heap) (locs : List Loc) (ls : Array Slot), va_P (dC, dI) vwCl (mW h ad cI cJ cZ (y)) H → va_D A (mW h ad cI cJ cZ (y)) → va_S A s.heap H locs → lv_has ls 4 [(0, .ref (h)), (1, .int (iI (w)))] → W p l e (headSpec wsX12_lay ({ frames := 0, cells := 0, slots := 0, locals := 0 })).room s m ([.ref h, .int (iI w)] : List Value).toArray below meth c H locs 0 0 (MQ below (va_Qv (fun u : MS => u = (F_m_lay (x) (w)).2) (mAt dC dI h ad cI cJ cZ A) A) ([.ref h, .int (iI w)] : List Value).toArray s 0 0 A) (F0 m 5 ls [])) ∧ (∀ (y : MS) (v : Int) (i : Int), (0 ≤ v) → (v ≤ 20000) → (-1 ≤ i) → (i < 64) → (1 ≤ y.1 0) → (y.1 0 ≤ 4) → (i + 2 < n) → F_m_lay_s n 1 y w v i = F_m_lay (x) (w) → ∀ (H : Heap) (locs : List Loc) (ls : Array Slot), va_P (dC, dI) vwCl (mW h ad cI cJ cZ (y)) H → va_D A (mW h ad cI cJ cZ (y)) → va_S A s.heap H locs → lv_has ls 4 [(0, .ref (h)), (1, .int (iI (w))), (2, .int (iI (v))), (3, .int (iI (i)))] → W p l e (headSpec wsX12_lay ({ frames := 0, cells := 0, slots := 0, locals := 0 })).room s m ([.ref h, .int (iI w)] : List Value).toArray below meth c H locs 0 0 (MQ below (va_Qv (fun u : MS => u = (F_m_lay (x) (w)).2) (mAt dC dI h ad cI cJ cZ A) A) ([.ref h, .int (iI w)] : List Value).toArray s 0 0 A) (F0 m 52 ls [])) := by
    intro n
    induction n with
    | zero =>
      refine ⟨?_, ?_⟩
      · intro y  e8 e0 s0 s1 s2 fu hres
        exact absurd fu (by omega)
      · intro y v i v0 v1 i0 i1 le0 le1 fu hres
        exact absurd fu (by omega)
    | succ n ih =>
      refine ⟨?_, ?_⟩
      · intro y  e8 e0 s0 s1 s2 fu hres H locs ls hP hD hS hl
        rw [F_m_lay_e0] at hres
        have q1 := hfk (y.1 10 + 1).toNat (by omega)
        have q2 := hfk (y.1 10).toNat (by omega)
        rw [← e8] at q1 q2
        refine lv_aload_n hx hb dX12_lay_5 rfl (lv_at hl 0 rfl) ?_
        refine va_get (D := (dC, dI)) (ci := 12) (v := .ref (ad 8)) (C := RX12) (T := TX12) (N := 34) hx hb hts hin hown hK hP 0 rfl rfl 8 (by decide) (hts (.fieldLink RX12 29 "LikeWordsModel" "first" "[I") (by decide +kernel)) (fun _ h9 => h9) rfl dX12_lay_6 ?_
        refine lv_aload_n hx hb dX12_lay_9 rfl (lv_at hl 0 rfl) ?_
        refine va_get (D := (dC, dI)) (ci := 12) (v := .int (iI ((y).1 10))) (C := RX12) (T := TX12) (N := 34) hx hb hts hin hown hK hP 0 rfl rfl 10 (by decide) (hts (.fieldLink RX12 119 "LikeWordsModel" "handSize" "I") (by decide +kernel)) (fun _ h9 => h9) rfl dX12_lay_10 ?_
        refine lv_iconst (v := iI (1 : Int)) hx hb dX12_lay_13 (by decide) ?_
        refine wi_iadd hx hb dX12_lay_14 ?_
        refine wi_iald (f := (y).2 8) hx hb hK hP 5 0 rfl rfl (i := ((y).1 10) + ((1 : Int))) (by omega) (by omega) (by decide) dX12_lay_15 ?_
        refine lv_iload_n hx hb dX12_lay_16 rfl (lv_at hl 1 rfl) ?_
        refine wi_icmp_gt (tgt := 33) hx hb (by first | assumption | (unfold iR; omega) | exact F_R01 (by assumption)) (by first | assumption | (unfold iR; omega) | exact F_R01 (by assumption)) dX12_lay_17 (by decide) (fun c_17 => ?_) (fun c_17 => ?_)
        · skip
          rw [if_pos c_17] at hres
          refine lv_iload_n hx hb dX12_lay_33 rfl (lv_at hl 1 rfl) ?_
          refine lv_aload_n hx hb dX12_lay_34 rfl (lv_at hl 0 rfl) ?_
          refine va_get (D := (dC, dI)) (ci := 12) (v := .ref (ad 8)) (C := RX12) (T := TX12) (N := 34) hx hb hts hin hown hK hP 0 rfl rfl 8 (by decide) (hts (.fieldLink RX12 29 "LikeWordsModel" "first" "[I") (by decide +kernel)) (fun _ h9 => h9) rfl dX12_lay_35 ?_
          refine lv_aload_n hx hb dX12_lay_38 rfl (lv_at hl 0 rfl) ?_
          refine va_get (D := (dC, dI)) (ci := 12) (v := .int (iI ((y).1 10))) (C := RX12) (T := TX12) (N := 34) hx hb hts hin hown hK hP 0 rfl rfl 10 (by decide) (hts (.fieldLink RX12 119 "LikeWordsModel" "handSize" "I") (by decide +kernel)) (fun _ h9 => h9) rfl dX12_lay_39 ?_
          refine wi_iald (f := (y).2 8) hx hb hK hP 5 0 rfl rfl (i := (y).1 10) (by omega) (by omega) (by decide) dX12_lay_42 ?_
          refine wi_isub hx hb dX12_lay_43 ?_
          refine lv_istore_n (lv' := [(2, .int (iI ((w) - (((y).2 8) ((y).1 10).toNat)))), (0, .ref (h)), (1, .int (iI (w)))]) hx hb dX12_lay_44 rfl hl (by decide) rfl (fun ls hl => ?_)
          refine lv_aload_n hx hb dX12_lay_45 rfl (lv_at hl 1 rfl) ?_
          refine va_get (D := (dC, dI)) (ci := 12) (v := .int (iI ((y).1 10))) (C := RX12) (T := TX12) (N := 34) hx hb hts hin hown hK hP 0 rfl rfl 10 (by decide) (hts (.fieldLink RX12 119 "LikeWordsModel" "handSize" "I") (by decide +kernel)) (fun _ h9 => h9) rfl dX12_lay_46 ?_
          refine lv_iconst (v := iI (1 : Int)) hx hb dX12_lay_49 (by decide) ?_
          refine wi_isub hx hb dX12_lay_50 ?_
          refine lv_istore_n (lv' := [(3, .int (iI (((y).1 10) - ((1 : Int))))), (2, .int (iI ((w) - (((y).2 8) ((y).1 10).toNat)))), (0, .ref (h)), (1, .int (iI (w)))]) hx hb dX12_lay_51 rfl hl (by decide) rfl (fun ls hl => ?_)
          exact ih.2 (y) ((w) - (((y).2 8) ((y).1 10).toNat)) (((y).1 10) - ((1 : Int))) (by rw [e8]; omega) (by rw [e8] at *; omega) (by omega) (by omega) (by rw [e0]; exact l0) (by rw [e0]; exact l1) (by omega) hres _ _ ls hP hD hS (lv_sub hl [2, 3, 1, 0] rfl)
        · skip
          rw [if_neg c_17] at hres
          refine lv_aload_n hx hb dX12_lay_20 rfl (lv_at hl 0 rfl) ?_
          refine lv_dup hx hb dX12_lay_21 rfl ?_
          refine va_get (D := (dC, dI)) (ci := 12) (v := .int (iI ((y).1 10))) (C := RX12) (T := TX12) (N := 34) hx hb hts hin hown hK hP 0 rfl rfl 10 (by decide) (hts (.fieldLink RX12 119 "LikeWordsModel" "handSize" "I") (by decide +kernel)) (fun _ h9 => h9) rfl dX12_lay_22 ?_
          refine lv_iconst (v := iI (1 : Int)) hx hb dX12_lay_25 (by decide) ?_
          refine wi_iadd hx hb dX12_lay_26 ?_
          refine va_put (D := (dC, dI)) (ci := 12) (v := .int (iI (((y).1 10) + ((1 : Int))))) (ty := .int) (C := RX12) (T := TX12) (N := 34) hx hb hts hin tyX12 tyX12_ok nmX12 hown hK hP hD hS 0 rfl rfl 10 (by decide) (hts (.fieldLink RX12 119 "LikeWordsModel" "handSize" "I") (by decide +kernel)) (fun _ h9 => h9) rfl (by decide +kernel) rfl rfl (Nat.le_of_ble_eq_true rfl) dX12_lay_27 (fun H locs hP hD hS => ?_)
          rw [mW_s10] at hP hD
          refine lv_goto (tgt := 5) hx hb dX12_lay_30 (by decide) ?_
          exact ih.1 (sU (y) 10 (((y).1 10) + ((1 : Int))))  (e8) (e0) (by show (0 : Int) ≤ y.1 10 + 1; omega) (by show (y.1 10 + 1) + 1 ≤ (K : Int); rcases Int.lt_or_eq_of_le s1 with g | g; omega; exfalso; rw [e8, g] at c_17; exact c_17 K3) (by show x.2 8 (y.1 10 + 1).toNat ≤ w; rw [e8] at c_17; omega) (by show (K : Int) - (y.1 10 + 1) + 70 < n; omega) hres _ _ ls hP hD hS (lv_sub hl [0, 1] rfl)
      · intro y v i v0 v1 i0 i1 le0 le1 fu hres H locs ls hP hD hS hl
        rw [F_m_lay_e1] at hres
        refine lv_iload_n hx hb dX12_lay_52 rfl (lv_at hl 3 rfl) ?_
        refine wi_if_lt (tgt := 81) hx hb (by first | assumption | (unfold iR; omega) | exact F_R01 (by assumption)) dX12_lay_53 (by decide) (fun c_53 => ?_) (fun c_53 => ?_)
        · skip
          rw [if_pos c_53] at hres
          exact W.vret hx hb hr (fun t ht hW => ⟨⟨y, rfl, (by have h9 := congrArg (fun z : Int × MS => z.2) hres; exact h9), by rw [ht]; exact hP, va_K.moved hW.alike hK, hD⟩, hS.F ht⟩) hS.2.2 dX12_lay_81
        · skip
          rw [if_neg c_53] at hres
          refine lv_aload_n hx hb dX12_lay_56 rfl (lv_at hl 0 rfl) ?_
          refine va_get (D := (dC, dI)) (ci := 12) (v := .ref (ad 11)) (C := RX12) (T := TX12) (N := 34) hx hb hts hin hown hK hP 0 rfl rfl 11 (by decide) (hts (.fieldLink RX12 35 "LikeWordsModel" "hand" "[I") (by decide +kernel)) (fun _ h9 => h9) rfl dX12_lay_57 ?_
          refine lv_iload_n hx hb dX12_lay_60 rfl (lv_at hl 3 rfl) ?_
          refine lv_iload_n hx hb dX12_lay_61 rfl (lv_at hl 2 rfl) ?_
          refine lv_aload_n hx hb dX12_lay_62 rfl (lv_at hl 0 rfl) ?_
          refine va_get (D := (dC, dI)) (ci := 12) (v := .int (iI ((y).1 0))) (C := RX12) (T := TX12) (N := 34) hx hb hts hin hown hK hP 0 rfl rfl 0 (by decide) (hts (.fieldLink RX12 7 "LikeWordsModel" "letters" "I") (by decide +kernel)) (fun _ h9 => h9) rfl dX12_lay_63 ?_
          refine wi_irem hx hb (by first | assumption | (unfold iR; omega) | exact F_R01 (by assumption)) (by first | assumption | (unfold iR; omega) | exact F_R01 (by assumption)) (by omega) (by omega) dX12_lay_66 ?_
          refine wi_iast (f := (y).2 11) hx hb hK hP hD hS 7 0 rfl rfl (i := i) (x := (v) % ((y).1 0)) (by omega) (by omega) (by decide) dX12_lay_67 (fun H locs hP hD hS => ?_)
          rw [mW_a11] at hP hD
          refine lv_iload_n hx hb dX12_lay_68 rfl (lv_at hl 2 rfl) ?_
          refine lv_aload_n hx hb dX12_lay_69 rfl (lv_at hl 0 rfl) ?_
          refine va_get (D := (dC, dI)) (ci := 12) (v := .int (iI ((y).1 0))) (C := RX12) (T := TX12) (N := 34) hx hb hts hin hown hK hP 0 rfl rfl 0 (by decide) (hts (.fieldLink RX12 7 "LikeWordsModel" "letters" "I") (by decide +kernel)) (fun _ h9 => h9) rfl dX12_lay_70 ?_
          refine wi_idiv hx hb (by first | assumption | (unfold iR; omega) | exact F_R01 (by assumption)) (by first | assumption | (unfold iR; omega) | exact F_R01 (by assumption)) (by omega) (by omega) dX12_lay_73 ?_
          refine lv_istore_n (lv' := [(2, .int (iI ((v) / ((y).1 0)))), (0, .ref (h)), (1, .int (iI (w))), (3, .int (iI (i)))]) hx hb dX12_lay_74 rfl hl (by decide) rfl (fun ls hl => ?_)
          refine lv_iinc (v := iI ((i) + (-1 : Int))) (lv' := [(3, .int (iI ((i) + (-1 : Int)))), (2, .int (iI ((v) / ((y).1 0)))), (0, .ref (h)), (1, .int (iI (w)))]) hx hb dX12_lay_75 hl (k := 3) rfl (iI_add _ _) (by decide) rfl (fun ls hl => ?_)
          refine lv_goto (tgt := 52) hx hb dX12_lay_78 (by decide) ?_
          exact ih.2 (aU (y) 11 (i).toNat ((v) % ((y).1 0))) ((v) / ((y).1 0)) ((i) + (-1 : Int)) (Int.ediv_nonneg v0 (by omega)) (Int.le_trans (Int.ediv_le_self _ v0) v1) (by omega) (by omega) (le0) (le1) (by omega) hres _ _ ls hP hD hS (lv_sub hl [2, 3, 1, 0] rfl)
  have key : ∀ (H : Heap) (locs : List Loc), va_P (dC, dI) vwCl (mW h ad cI cJ cZ (x)) H → va_S A s.heap H locs → W p l e (headSpec wsX12_lay ({ frames := 0, cells := 0, slots := 0, locals := 0 })).room s m ([.ref h, .int (iI w)] : List Value).toArray below meth c H locs 0 0 (MQ below (va_Qv (fun u : MS => u = (F_m_lay (x) (w)).2) (mAt dC dI h ad cI cJ cZ A) A) ([.ref h, .int (iI w)] : List Value).toArray s 0 0 A) (F0 m 0 ls []) := by
    intro H locs hP hS
    have hres : F_m_lay_s 200 0 (sU (x) 10 ((0 : Int))) (w) (0) (0) = F_m_lay (x) (w) := rfl
    refine lv_aload_n hx hb dX12_lay_0 rfl (lv_at hl 0 rfl) ?_
    refine lv_iconst (v := iI (0 : Int)) hx hb dX12_lay_1 (by decide) ?_
    refine va_put (D := (dC, dI)) (ci := 12) (v := .int (iI ((0 : Int)))) (ty := .int) (C := RX12) (T := TX12) (N := 34) hx hb hts hin tyX12 tyX12_ok nmX12 hown hK hP hD hS 0 rfl rfl 10 (by decide) (hts (.fieldLink RX12 119 "LikeWordsModel" "handSize" "I") (by decide +kernel)) (fun _ h9 => h9) rfl (by decide +kernel) rfl rfl (Nat.le_of_ble_eq_true rfl) dX12_lay_2 (fun H locs hP hD hS => ?_)
    rw [mW_s10] at hP hD
    exact (L (200)).1 (sU (x) 10 ((0 : Int)))  (rfl) (rfl) (by show (0 : Int) ≤ 0; omega) (by show (0 : Int) + 1 ≤ K; omega) (by show x.2 8 0 ≤ w; omega) (by show (K : Int) - 0 + 70 < 200; omega) hres _ _ ls hP hD hS (lv_sub hl [0, 1] rfl)
  exact key _ _ hP hS
theorem F_m_lay_sfr : ∀ n : Nat, (∀ (y : MS) (v0 : Int) (v1 : Int) (v2 : Int), same [10] [11] y (F_m_lay_s n 0 y v0 v1 v2).2) ∧ (∀ (y : MS) (v0 : Int) (v1 : Int) (v2 : Int), same [10] [11] y (F_m_lay_s n 1 y v0 v1 v2).2) := by
  intro n
  induction n with
  | zero => exact ⟨fun y _ _ _ => sm_rf _ _ _, fun y _ _ _ => sm_rf _ _ _⟩
  | succ n ih =>
    refine ⟨?_, ?_⟩
    · intro y w q0 q1
      rw [F_m_lay_e0]
      by_cases hc : (w) < (((y).2 8) (((y).1 10) + ((1 : Int))).toNat)
      · rw [if_pos hc]
        exact sm_tr ((sm_rf _ _ _)) (ih.2 (y) (w) ((w) - (((y).2 8) ((y).1 10).toNat)) (((y).1 10) - ((1 : Int))))
      · rw [if_neg hc]
        exact sm_tr ((sm_s (by decide) (sm_rf _ _ _))) (ih.1 (sU (y) 10 (((y).1 10) + ((1 : Int)))) (w) (0) (0))
    · intro y w v i
      rw [F_m_lay_e1]
      by_cases hc : (i) < (0)
      · rw [if_pos hc]
        exact (sm_rf _ _ _)
      · rw [if_neg hc]
        exact sm_tr ((sm_a (by decide) (sm_rf _ _ _))) (ih.2 (aU (y) 11 (i).toNat ((v) % ((y).1 0))) (w) ((v) / ((y).1 0)) ((i) + (-1 : Int)))
theorem F_m_lay_fr (x : MS) (w : Int) : same [10] [11] x (F_m_lay (x) (w)).2 := by
  unfold F_m_lay
  exact sm_tr ((sm_s (by decide) (sm_rf _ _ _))) ((F_m_lay_sfr 200).1 (sU (x) 10 ((0 : Int))) (w) (0) (0))
