def rwR (x : MS) : Prop := ∀ k : Nat, k < 1664 → 0 ≤ x.2 2 k ∧ x.2 2 k ≤ 3
def lfR (x : MS) : Prop := ∀ k : Nat, k < 960 → 0 ≤ x.2 14 k ∧ x.2 14 k ≤ 3
def rtR (x : MS) : Prop := ∀ k : Nat, k < 960 → 0 ≤ x.2 16 k ∧ x.2 16 k ≤ 3
def F_m_isSame_s : Nat → Nat → MS → Int → Int → Int → Int → Int × MS
  | 0, _, x, _, _, _, _ => (0, x)
  | n + 1, t, x, p0, p1, p2, p3 => match t with
    | 0 => (fun (a : Int) (b : Int) (g : Int) (i : Int) => (if (((x).2 1) (a).toNat) ≤ (i) then (g, x) else (if (g) = (0) then (g, x) else (if (((x).2 2) ((((128 : Int)) * (a)) + (i)).toNat) = (((x).2 2) ((((128 : Int)) * (b)) + (i)).toNat) then F_m_isSame_s n 0 (x) (a) (b) ((1 : Int)) ((i) + (1 : Int)) else F_m_isSame_s n 0 (x) (a) (b) ((0 : Int)) ((i) + (1 : Int)))))) p0 p1 p2 p3
    | _ => (0, x)
theorem F_m_isSame_e0 (n : Nat) (x : MS) (a : Int) (b : Int) (g : Int) (i : Int) : F_m_isSame_s (n + 1) 0 x a b g i = (if (((x).2 1) (a).toNat) ≤ (i) then (g, x) else (if (g) = (0) then (g, x) else (if (((x).2 2) ((((128 : Int)) * (a)) + (i)).toNat) = (((x).2 2) ((((128 : Int)) * (b)) + (i)).toNat) then F_m_isSame_s n 0 (x) (a) (b) ((1 : Int)) ((i) + (1 : Int)) else F_m_isSame_s n 0 (x) (a) (b) ((0 : Int)) ((i) + (1 : Int))))) := rfl
def F_m_isSame (x : MS) (a : Int) (b : Int) : Int × MS := (if (((x).2 1) (a).toNat) = (((x).2 1) (b).toNat) then F_m_isSame_s 200 0 (x) (a) (b) ((1 : Int)) ((0 : Int)) else F_m_isSame_s 200 0 (x) (a) (b) ((0 : Int)) ((0 : Int)))
set_option maxHeartbeats 4000000 in
set_option maxRecDepth 100000 in
/-- isSame -/
theorem c_m_isSame (l : Launch) (dC : Nat → ClassId) (dI : Nat → Nat → Nat) (h : Nat) (ad : Nat → Nat) (cI cJ cZ : ClassId) (sz : Nat) (x : MS) (a : Int) (b : Int) (a0 : 0 ≤ a) (a1 : a < 13) (b0 : 0 ≤ b) (b1 : b < 13) (s0 : 0 ≤ x.2 1 a.toNat) (s1 : x.2 1 a.toNat ≤ 128) (s2 : iR (x.2 1 b.toNat)) (hw : rwR x) : Met l yX12_isSame wsX12_isSame ({ frames := 0, cells := 0, slots := 0, locals := 0 }) (mPc dC dI h ad cI cJ cZ sz x [.ref h, .int (iI a), .int (iI b)]) (va_Qi (fun (r : Int32) (u : MS) => r = iI (F_m_isSame (x) (a) (b)).1 ∧ u = (F_m_isSame (x) (a) (b)).2) (mAt dC dI h ad cI cJ cZ (va_A (mW h ad cI cJ cZ (x)) sz)) (va_A (mW h ad cI cJ cZ (x)) sz)) 0 0 (va_A (mW h ad cI cJ cZ (x)) sz) := by
  refine Met.ofW (cc := cX12_isSame) (maxL := 5) (ret := (some .boolean)) (by decide) rfl ?_
  intro p e s m args below meth c s₁ B hml hv
  obtain ⟨rfl, hsz, hP, hK, hD0⟩ := hv
  have hx := B.exec
  have hb := B.bytes
  have hr := B.returns
  have hts := atoms_spec (ws := wsX12_isSame) B.pre
  have hown : s.vm.findClass RX12 = some m.cls := findClass_of_methodNamed B.named
  have hlocks := B.notSynchronized
  have hin : ∀ w ∈ u_ws RX12 TX12 34, w ∈ wsX12_isSame := by decide +kernel
  subst hsz
  have hD := hD0.self (sz := s.heap.size)
  generalize hAe : va_A (mW h ad cI cJ cZ (x)) s.heap.size = A at hD ⊢
  have hA : ∀ q : Nat, s.heap.size ≤ q → A q := fun q h => by rw [← hAe]; exact Or.inr h
  have hS : va_S A s.heap s.heap [] := va_S.rf
  have hl := lv_entry ([.ref h, .int (iI a), .int (iI b)]) (n := 5) (Nat.le_of_ble_eq_true rfl)
  rw [lg_entry_eq]
  generalize (lg_sl ([.ref h, .int (iI a), .int (iI b)]) ++ List.replicate (5 - (lg_sl ([.ref h, .int (iI a), .int (iI b)])).length) Slot.unset).toArray = ls at hl ⊢
  have hl : lv_has ls 5 [(0, .ref (h)), (1, .int (iI (a))), (2, .int (iI (b)))] := hl
  have L : ∀ n : Nat, (∀ (g : Int) (i : Int), (g = 0 ∨ g = 1) → (0 ≤ i) → (i ≤ 128) → (128 - i < n) → F_m_isSame_s n 0 x a b g i = F_m_isSame (x) (a) (b) → ∀ (H : Heap) (locs : List Loc) (ls : Array Slot), va_P (dC, dI) vwCl (mW h ad cI cJ cZ (x)) H → va_D A (mW h ad cI cJ cZ (x)) → va_S A s.heap H locs → lv_has ls 5 [(0, .ref (h)), (1, .int (iI (a))), (2, .int (iI (b))), (3, .int (iI (g))), (4, .int (iI (i)))] → W p l e (headSpec wsX12_isSame ({ frames := 0, cells := 0, slots := 0, locals := 0 })).room s m ([.ref h, .int (iI a), .int (iI b)] : List Value).toArray below meth c H locs 0 0 (MQ below (va_Qi (fun (r : Int32) (u : MS) => r = iI (F_m_isSame (x) (a) (b)).1 ∧ u = (F_m_isSame (x) (a) (b)).2) (mAt dC dI h ad cI cJ cZ A) A) ([.ref h, .int (iI a), .int (iI b)] : List Value).toArray s 0 0 A) (F0 m 24 ls [])) := by
    intro n
    induction n with
    | zero =>
      skip
      · intro g i g01 i0 i1 fu hres
        exact absurd fu (by omega)
    | succ n ih =>
      skip
      · intro g i g01 i0 i1 fu hres H locs ls hP hD hS hl
        rw [F_m_isSame_e0] at hres
        have k1 : i < 128 → iR ((x.2 2) ((128 * a) + i).toNat) := fun hi => by have := hw ((128 * a) + i).toNat (by omega); unfold iR; omega
        have k2 : i < 128 → iR ((x.2 2) ((128 * b) + i).toNat) := fun hi => by have := hw ((128 * b) + i).toNat (by omega); unfold iR; omega
        refine lv_iload hx hb dX12_isSame_24 (lv_at hl 4 rfl) ?_
        refine lv_aload_n hx hb dX12_isSame_26 rfl (lv_at hl 0 rfl) ?_
        refine va_get (D := (dC, dI)) (ci := 12) (v := .ref (ad 1)) (C := RX12) (T := TX12) (N := 34) hx hb hts hin hown hK hP 0 rfl rfl 1 (by decide) (hts (.fieldLink RX12 13 "LikeWordsModel" "size" "[I") (by decide +kernel)) (fun _ h9 => h9) rfl dX12_isSame_27 ?_
        refine lv_iload_n hx hb dX12_isSame_30 rfl (lv_at hl 1 rfl) ?_
        refine wi_iald (f := (x).2 1) hx hb hK hP 1 0 rfl rfl (i := a) (by omega) (by omega) (by decide) dX12_isSame_31 ?_
        refine wi_icmp_ge (tgt := 80) hx hb (by first | assumption | (unfold iR; omega) | exact F_R01 (by assumption)) (by first | assumption | (unfold iR; omega) | exact F_R01 (by assumption)) dX12_isSame_32 (by decide) (fun c_32 => ?_) (fun c_32 => ?_)
        · skip
          rw [if_pos c_32] at hres
          refine lv_iload_n hx hb dX12_isSame_80 rfl (lv_at hl 3 rfl) ?_
          exact W.zret (v := iI (g)) hx hb hr (F_z _ (by first | assumption | omega)) (fun t ht hW => ⟨⟨iI (g), x, rfl, ⟨(by have h9 := congrArg (fun z : Int × MS => iI z.1) hres; exact h9), (by have h9 := congrArg (fun z : Int × MS => z.2) hres; exact h9)⟩, by rw [ht]; exact hP, va_K.moved hW.alike hK, hD⟩, hS.F ht⟩) hS.2.2 dX12_isSame_81
        · skip
          rw [if_neg c_32] at hres
          refine lv_iload_n hx hb dX12_isSame_35 rfl (lv_at hl 3 rfl) ?_
          refine wi_if_eq (tgt := 80) hx hb (by first | assumption | (unfold iR; omega) | exact F_R01 (by assumption)) dX12_isSame_36 (by decide) (fun c_36 => ?_) (fun c_36 => ?_)
          · skip
            rw [if_pos c_36] at hres
            refine lv_iload_n hx hb dX12_isSame_80 rfl (lv_at hl 3 rfl) ?_
            exact W.zret (v := iI (g)) hx hb hr (F_z _ (by first | assumption | omega)) (fun t ht hW => ⟨⟨iI (g), x, rfl, ⟨(by have h9 := congrArg (fun z : Int × MS => iI z.1) hres; exact h9), (by have h9 := congrArg (fun z : Int × MS => z.2) hres; exact h9)⟩, by rw [ht]; exact hP, va_K.moved hW.alike hK, hD⟩, hS.F ht⟩) hS.2.2 dX12_isSame_81
          · skip
            rw [if_neg c_36] at hres
            refine lv_aload_n hx hb dX12_isSame_39 rfl (lv_at hl 0 rfl) ?_
            refine va_get (D := (dC, dI)) (ci := 12) (v := .ref (ad 2)) (C := RX12) (T := TX12) (N := 34) hx hb hts hin hown hK hP 0 rfl rfl 2 (by decide) (hts (.fieldLink RX12 17 "LikeWordsModel" "row" "[I") (by decide +kernel)) (fun _ h9 => h9) rfl dX12_isSame_40 ?_
            refine lv_sipush (v := iI (128 : Int)) hx hb dX12_isSame_43 (by decide) ?_
            refine lv_iload_n hx hb dX12_isSame_46 rfl (lv_at hl 1 rfl) ?_
            refine wi_imul hx hb dX12_isSame_47 ?_
            refine lv_iload hx hb dX12_isSame_48 (lv_at hl 4 rfl) ?_
            refine wi_iadd hx hb dX12_isSame_50 ?_
            refine wi_iald (f := (x).2 2) hx hb hK hP 2 0 rfl rfl (i := (((128 : Int)) * (a)) + (i)) (by omega) (by omega) (by decide) dX12_isSame_51 ?_
            refine lv_aload_n hx hb dX12_isSame_52 rfl (lv_at hl 0 rfl) ?_
            refine va_get (D := (dC, dI)) (ci := 12) (v := .ref (ad 2)) (C := RX12) (T := TX12) (N := 34) hx hb hts hin hown hK hP 0 rfl rfl 2 (by decide) (hts (.fieldLink RX12 17 "LikeWordsModel" "row" "[I") (by decide +kernel)) (fun _ h9 => h9) rfl dX12_isSame_53 ?_
            refine lv_sipush (v := iI (128 : Int)) hx hb dX12_isSame_56 (by decide) ?_
            refine lv_iload_n hx hb dX12_isSame_59 rfl (lv_at hl 2 rfl) ?_
            refine wi_imul hx hb dX12_isSame_60 ?_
            refine lv_iload hx hb dX12_isSame_61 (lv_at hl 4 rfl) ?_
            refine wi_iadd hx hb dX12_isSame_63 ?_
            refine wi_iald (f := (x).2 2) hx hb hK hP 2 0 rfl rfl (i := (((128 : Int)) * (b)) + (i)) (by omega) (by omega) (by decide) dX12_isSame_64 ?_
            refine wi_icmp_ne (tgt := 72) hx hb (by first | exact k1 (by omega) | exact k2 (by omega)) (by first | exact k1 (by omega) | exact k2 (by omega)) dX12_isSame_65 (by decide) (fun c_65 => ?_) (fun c_65 => ?_)
            · skip
              rw [if_neg c_65] at hres
              refine lv_iconst (v := iI (0 : Int)) hx hb dX12_isSame_72 (by decide) ?_
              refine lv_istore_n (lv' := [(3, .int (iI ((0 : Int)))), (0, .ref (h)), (1, .int (iI (a))), (2, .int (iI (b))), (4, .int (iI (i)))]) hx hb dX12_isSame_73 rfl hl (by decide) rfl (fun ls hl => ?_)
              refine lv_iinc (v := iI ((i) + (1 : Int))) (lv' := [(4, .int (iI ((i) + (1 : Int)))), (3, .int (iI ((0 : Int)))), (0, .ref (h)), (1, .int (iI (a))), (2, .int (iI (b)))]) hx hb dX12_isSame_74 hl (k := 4) rfl (iI_add _ _) (by decide) rfl (fun ls hl => ?_)
              refine lv_goto (tgt := 24) hx hb dX12_isSame_77 (by decide) ?_
              exact ih  ((0 : Int)) ((i) + (1 : Int)) (by omega) (by omega) (by omega) (by omega) hres _ _ ls hP hD hS (lv_sub hl [2, 3, 4, 1, 0] rfl)
            · skip
              rw [if_pos c_65] at hres
              refine lv_iconst (v := iI (1 : Int)) hx hb dX12_isSame_68 (by decide) ?_
              refine lv_goto (tgt := 73) hx hb dX12_isSame_69 (by decide) ?_
              refine lv_istore_n (lv' := [(3, .int (iI ((1 : Int)))), (0, .ref (h)), (1, .int (iI (a))), (2, .int (iI (b))), (4, .int (iI (i)))]) hx hb dX12_isSame_73 rfl hl (by decide) rfl (fun ls hl => ?_)
              refine lv_iinc (v := iI ((i) + (1 : Int))) (lv' := [(4, .int (iI ((i) + (1 : Int)))), (3, .int (iI ((1 : Int)))), (0, .ref (h)), (1, .int (iI (a))), (2, .int (iI (b)))]) hx hb dX12_isSame_74 hl (k := 4) rfl (iI_add _ _) (by decide) rfl (fun ls hl => ?_)
              refine lv_goto (tgt := 24) hx hb dX12_isSame_77 (by decide) ?_
              exact ih  ((1 : Int)) ((i) + (1 : Int)) (by omega) (by omega) (by omega) (by omega) hres _ _ ls hP hD hS (lv_sub hl [2, 3, 4, 1, 0] rfl)
  have key : ∀ (H : Heap) (locs : List Loc), va_P (dC, dI) vwCl (mW h ad cI cJ cZ (x)) H → va_S A s.heap H locs → W p l e (headSpec wsX12_isSame ({ frames := 0, cells := 0, slots := 0, locals := 0 })).room s m ([.ref h, .int (iI a), .int (iI b)] : List Value).toArray below meth c H locs 0 0 (MQ below (va_Qi (fun (r : Int32) (u : MS) => r = iI (F_m_isSame (x) (a) (b)).1 ∧ u = (F_m_isSame (x) (a) (b)).2) (mAt dC dI h ad cI cJ cZ A) A) ([.ref h, .int (iI a), .int (iI b)] : List Value).toArray s 0 0 A) (F0 m 0 ls []) := by
    intro H locs hP hS
    have hres : (if (((x).2 1) (a).toNat) = (((x).2 1) (b).toNat) then F_m_isSame_s 200 0 (x) (a) (b) ((1 : Int)) ((0 : Int)) else F_m_isSame_s 200 0 (x) (a) (b) ((0 : Int)) ((0 : Int))) = F_m_isSame (x) (a) (b) := rfl
    refine lv_aload_n hx hb dX12_isSame_0 rfl (lv_at hl 0 rfl) ?_
    refine va_get (D := (dC, dI)) (ci := 12) (v := .ref (ad 1)) (C := RX12) (T := TX12) (N := 34) hx hb hts hin hown hK hP 0 rfl rfl 1 (by decide) (hts (.fieldLink RX12 13 "LikeWordsModel" "size" "[I") (by decide +kernel)) (fun _ h9 => h9) rfl dX12_isSame_1 ?_
    refine lv_iload_n hx hb dX12_isSame_4 rfl (lv_at hl 1 rfl) ?_
    refine wi_iald (f := (x).2 1) hx hb hK hP 1 0 rfl rfl (i := a) (by omega) (by omega) (by decide) dX12_isSame_5 ?_
    refine lv_aload_n hx hb dX12_isSame_6 rfl (lv_at hl 0 rfl) ?_
    refine va_get (D := (dC, dI)) (ci := 12) (v := .ref (ad 1)) (C := RX12) (T := TX12) (N := 34) hx hb hts hin hown hK hP 0 rfl rfl 1 (by decide) (hts (.fieldLink RX12 13 "LikeWordsModel" "size" "[I") (by decide +kernel)) (fun _ h9 => h9) rfl dX12_isSame_7 ?_
    refine lv_iload_n hx hb dX12_isSame_10 rfl (lv_at hl 2 rfl) ?_
    refine wi_iald (f := (x).2 1) hx hb hK hP 1 0 rfl rfl (i := b) (by omega) (by omega) (by decide) dX12_isSame_11 ?_
    refine wi_icmp_ne (tgt := 19) hx hb (by first | assumption | (unfold iR; omega) | exact F_R01 (by assumption)) (by first | assumption | (unfold iR; omega) | exact F_R01 (by assumption)) dX12_isSame_12 (by decide) (fun c_12 => ?_) (fun c_12 => ?_)
    · skip
      rw [if_neg c_12] at hres
      refine lv_iconst (v := iI (0 : Int)) hx hb dX12_isSame_19 (by decide) ?_
      refine lv_istore_n (lv' := [(3, .int (iI ((0 : Int)))), (0, .ref (h)), (1, .int (iI (a))), (2, .int (iI (b)))]) hx hb dX12_isSame_20 rfl hl (by decide) rfl (fun ls hl => ?_)
      refine lv_iconst (v := iI (0 : Int)) hx hb dX12_isSame_21 (by decide) ?_
      refine lv_istore (lv' := [(4, .int (iI ((0 : Int)))), (3, .int (iI ((0 : Int)))), (0, .ref (h)), (1, .int (iI (a))), (2, .int (iI (b)))]) hx hb dX12_isSame_22 hl (by decide) rfl (fun ls hl => ?_)
      exact (L (200))  ((0 : Int)) ((0 : Int)) (by omega) (by omega) (by omega) (by omega) hres _ _ ls hP hD hS (lv_sub hl [2, 3, 4, 1, 0] rfl)
    · skip
      rw [if_pos c_12] at hres
      refine lv_iconst (v := iI (1 : Int)) hx hb dX12_isSame_15 (by decide) ?_
      refine lv_goto (tgt := 20) hx hb dX12_isSame_16 (by decide) ?_
      refine lv_istore_n (lv' := [(3, .int (iI ((1 : Int)))), (0, .ref (h)), (1, .int (iI (a))), (2, .int (iI (b)))]) hx hb dX12_isSame_20 rfl hl (by decide) rfl (fun ls hl => ?_)
      refine lv_iconst (v := iI (0 : Int)) hx hb dX12_isSame_21 (by decide) ?_
      refine lv_istore (lv' := [(4, .int (iI ((0 : Int)))), (3, .int (iI ((1 : Int)))), (0, .ref (h)), (1, .int (iI (a))), (2, .int (iI (b)))]) hx hb dX12_isSame_22 hl (by decide) rfl (fun ls hl => ?_)
      exact (L (200))  ((1 : Int)) ((0 : Int)) (by omega) (by omega) (by omega) (by omega) hres _ _ ls hP hD hS (lv_sub hl [2, 3, 4, 1, 0] rfl)
  exact key _ _ hP hS
theorem F_m_isSame_sfr : ∀ n : Nat, (∀ (y : MS) (v0 : Int) (v1 : Int) (v2 : Int) (v3 : Int), same [] [] y (F_m_isSame_s n 0 y v0 v1 v2 v3).2) := by
  intro n
  induction n with
  | zero => exact fun y _ _ _ _ => sm_rf _ _ _
  | succ n ih =>
    skip
    · intro y a b g i
      rw [F_m_isSame_e0]
      by_cases hc : (((y).2 1) (a).toNat) ≤ (i)
      · rw [if_pos hc]
        exact (sm_rf _ _ _)
      · rw [if_neg hc]
        by_cases hc : (g) = (0)
        · rw [if_pos hc]
          exact (sm_rf _ _ _)
        · rw [if_neg hc]
          by_cases hc : (((y).2 2) ((((128 : Int)) * (a)) + (i)).toNat) = (((y).2 2) ((((128 : Int)) * (b)) + (i)).toNat)
          · rw [if_pos hc]
            exact sm_tr ((sm_rf _ _ _)) (ih (y) (a) (b) ((1 : Int)) ((i) + (1 : Int)))
          · rw [if_neg hc]
            exact sm_tr ((sm_rf _ _ _)) (ih (y) (a) (b) ((0 : Int)) ((i) + (1 : Int)))
theorem F_m_isSame_fr (x : MS) (a : Int) (b : Int) : same [] [] x (F_m_isSame (x) (a) (b)).2 := by
  unfold F_m_isSame
  by_cases hc : (((x).2 1) (a).toNat) = (((x).2 1) (b).toNat)
  · rw [if_pos hc]
    exact sm_tr ((sm_rf _ _ _)) ((F_m_isSame_sfr 200) (x) (a) (b) ((1 : Int)) ((0 : Int)))
  · rw [if_neg hc]
    exact sm_tr ((sm_rf _ _ _)) ((F_m_isSame_sfr 200) (x) (a) (b) ((0 : Int)) ((0 : Int)))
theorem F_m_isSame_2 (x : MS) (a : Int) (b : Int) : (F_m_isSame (x) (a) (b)).2 = x := sm_nil (F_m_isSame_fr x a b)
def F_m_put5_s : Nat → Nat → MS → Int → Int → Int → Int → Int × MS
  | 0, _, x, _, _, _, _ => (0, x)
  | n + 1, t, x, p0, p1, p2, p3 => match t with
    | 0 => (fun (o9 : Int) (b : Int) (g : Int) (i : Int) => (if (g) ≤ (i) then (0, aU (x) 1 (o9).toNat ((((x).2 1) (o9).toNat) + (g))) else F_m_put5_s n 0 (aU (x) 2 (((((128 : Int)) * (o9)) + (((x).2 1) (o9).toNat)) + (i)).toNat (((x).2 5) ((b) + (i)).toNat)) (o9) (b) (g) ((i) + (1 : Int)))) p0 p1 p2 p3
    | _ => (0, x)
theorem F_m_put5_e0 (n : Nat) (x : MS) (o9 : Int) (b : Int) (g : Int) (i : Int) : F_m_put5_s (n + 1) 0 x o9 b g i = (if (g) ≤ (i) then (0, aU (x) 1 (o9).toNat ((((x).2 1) (o9).toNat) + (g))) else F_m_put5_s n 0 (aU (x) 2 (((((128 : Int)) * (o9)) + (((x).2 1) (o9).toNat)) + (i)).toNat (((x).2 5) ((b) + (i)).toNat)) (o9) (b) (g) ((i) + (1 : Int))) := rfl
def F_m_put5 (x : MS) (o9 : Int) (b : Int) (g : Int) : Int × MS := F_m_put5_s 200 0 (x) (o9) (b) (g) ((0 : Int))
set_option maxHeartbeats 4000000 in
set_option maxRecDepth 100000 in
/-- put -/
theorem c_m_put5 (l : Launch) (dC : Nat → ClassId) (dI : Nat → Nat → Nat) (h : Nat) (ad : Nat → Nat) (cI cJ cZ : ClassId) (sz : Nat) (x : MS) (o9 : Int) (b : Int) (g : Int) (o90 : 0 ≤ o9) (o91 : o9 < 13) (s0 : 0 ≤ x.2 1 o9.toNat) (g0 : 0 ≤ g) (sg : x.2 1 o9.toNat + g ≤ 128) (b0 : 0 ≤ b) (bg : b + g ≤ 192) : Met l yX12_put wsX12_put ({ frames := 0, cells := 0, slots := 0, locals := 0 }) (mPc dC dI h ad cI cJ cZ sz x [.ref h, .int (iI o9), .ref (ad 5), .int (iI b), .int (iI g)]) (va_Qv (fun u : MS => u = (F_m_put5 (x) (o9) (b) (g)).2) (mAt dC dI h ad cI cJ cZ (va_A (mW h ad cI cJ cZ (x)) sz)) (va_A (mW h ad cI cJ cZ (x)) sz)) 0 0 (va_A (mW h ad cI cJ cZ (x)) sz) := by
  refine Met.ofW (cc := cX12_put) (maxL := 6) (ret := none) (by decide) rfl ?_
  intro p e s m args below meth c s₁ B hml hv
  obtain ⟨rfl, hsz, hP, hK, hD0⟩ := hv
  have hx := B.exec
  have hb := B.bytes
  have hr := B.returns
  have hts := atoms_spec (ws := wsX12_put) B.pre
  have hown : s.vm.findClass RX12 = some m.cls := findClass_of_methodNamed B.named
  have hlocks := B.notSynchronized
  have hin : ∀ w ∈ u_ws RX12 TX12 34, w ∈ wsX12_put := by decide +kernel
  subst hsz
  have hD := hD0.self (sz := s.heap.size)
  generalize hAe : va_A (mW h ad cI cJ cZ (x)) s.heap.size = A at hD ⊢
  have hA : ∀ q : Nat, s.heap.size ≤ q → A q := fun q h => by rw [← hAe]; exact Or.inr h
  have hS : va_S A s.heap s.heap [] := va_S.rf
  have hl := lv_entry ([.ref h, .int (iI o9), .ref (ad 5), .int (iI b), .int (iI g)]) (n := 6) (Nat.le_of_ble_eq_true rfl)
  rw [lg_entry_eq]
  generalize (lg_sl ([.ref h, .int (iI o9), .ref (ad 5), .int (iI b), .int (iI g)]) ++ List.replicate (6 - (lg_sl ([.ref h, .int (iI o9), .ref (ad 5), .int (iI b), .int (iI g)])).length) Slot.unset).toArray = ls at hl ⊢
  have hl : lv_has ls 6 [(0, .ref (h)), (1, .int (iI (o9))), (2, .ref (ad 5)), (3, .int (iI (b))), (4, .int (iI (g)))] := hl
  have L : ∀ n : Nat, (∀ (y : MS) (i : Int), (0 ≤ i) → (i ≤ g) → (0 ≤ y.2 1 o9.toNat) → (y.2 1 o9.toNat + g ≤ 128) → (g - i < n) → F_m_put5_s n 0 y o9 b g i = F_m_put5 (x) (o9) (b) (g) → ∀ (H : Heap) (locs : List Loc) (ls : Array Slot), va_P (dC, dI) vwCl (mW h ad cI cJ cZ (y)) H → va_D A (mW h ad cI cJ cZ (y)) → va_S A s.heap H locs → lv_has ls 6 [(0, .ref (h)), (1, .int (iI (o9))), (2, .ref (ad 5)), (3, .int (iI (b))), (4, .int (iI (g))), (5, .int (iI (i)))] → W p l e (headSpec wsX12_put ({ frames := 0, cells := 0, slots := 0, locals := 0 })).room s m ([.ref h, .int (iI o9), .ref (ad 5), .int (iI b), .int (iI g)] : List Value).toArray below meth c H locs 0 0 (MQ below (va_Qv (fun u : MS => u = (F_m_put5 (x) (o9) (b) (g)).2) (mAt dC dI h ad cI cJ cZ A) A) ([.ref h, .int (iI o9), .ref (ad 5), .int (iI b), .int (iI g)] : List Value).toArray s 0 0 A) (F0 m 3 ls [])) := by
    intro n
    induction n with
    | zero =>
      skip
      · intro y i i0 i1 sy sz fu hres
        exact absurd fu (by omega)
    | succ n ih =>
      skip
      · intro y i i0 i1 sy sz fu hres H locs ls hP hD hS hl
        rw [F_m_put5_e0] at hres
        refine lv_iload hx hb dX12_put_3 (lv_at hl 5 rfl) ?_
        refine lv_iload hx hb dX12_put_5 (lv_at hl 4 rfl) ?_
        refine wi_icmp_ge (tgt := 42) hx hb (by first | assumption | (unfold iR; omega) | exact F_R01 (by assumption)) (by first | assumption | (unfold iR; omega) | exact F_R01 (by assumption)) dX12_put_7 (by decide) (fun c_7 => ?_) (fun c_7 => ?_)
        · skip
          rw [if_pos c_7] at hres
          refine lv_aload_n hx hb dX12_put_42 rfl (lv_at hl 0 rfl) ?_
          refine va_get (D := (dC, dI)) (ci := 12) (v := .ref (ad 1)) (C := RX12) (T := TX12) (N := 34) hx hb hts hin hown hK hP 0 rfl rfl 1 (by decide) (hts (.fieldLink RX12 13 "LikeWordsModel" "size" "[I") (by decide +kernel)) (fun _ h9 => h9) rfl dX12_put_43 ?_
          refine lv_iload_n hx hb dX12_put_46 rfl (lv_at hl 1 rfl) ?_
          refine lv_dup2_11 hx hb dX12_put_47 rfl rfl ?_
          refine wi_iald (f := (y).2 1) hx hb hK hP 1 0 rfl rfl (i := o9) (by omega) (by omega) (by decide) dX12_put_48 ?_
          refine lv_iload hx hb dX12_put_49 (lv_at hl 4 rfl) ?_
          refine wi_iadd hx hb dX12_put_51 ?_
          refine wi_iast (f := (y).2 1) hx hb hK hP hD hS 1 0 rfl rfl (i := o9) (x := (((y).2 1) (o9).toNat) + (g)) (by omega) (by omega) (by decide) dX12_put_52 (fun H locs hP hD hS => ?_)
          rw [mW_a1] at hP hD
          exact W.vret hx hb hr (fun t ht hW => ⟨⟨aU (y) 1 (o9).toNat ((((y).2 1) (o9).toNat) + (g)), rfl, (by have h9 := congrArg (fun z : Int × MS => z.2) hres; exact h9), by rw [ht]; exact hP, va_K.moved hW.alike hK, hD⟩, hS.F ht⟩) hS.2.2 dX12_put_53
        · skip
          rw [if_neg c_7] at hres
          refine lv_aload_n hx hb dX12_put_10 rfl (lv_at hl 0 rfl) ?_
          refine va_get (D := (dC, dI)) (ci := 12) (v := .ref (ad 2)) (C := RX12) (T := TX12) (N := 34) hx hb hts hin hown hK hP 0 rfl rfl 2 (by decide) (hts (.fieldLink RX12 17 "LikeWordsModel" "row" "[I") (by decide +kernel)) (fun _ h9 => h9) rfl dX12_put_11 ?_
          refine lv_sipush (v := iI (128 : Int)) hx hb dX12_put_14 (by decide) ?_
          refine lv_iload_n hx hb dX12_put_17 rfl (lv_at hl 1 rfl) ?_
          refine wi_imul hx hb dX12_put_18 ?_
          refine lv_aload_n hx hb dX12_put_19 rfl (lv_at hl 0 rfl) ?_
          refine va_get (D := (dC, dI)) (ci := 12) (v := .ref (ad 1)) (C := RX12) (T := TX12) (N := 34) hx hb hts hin hown hK hP 0 rfl rfl 1 (by decide) (hts (.fieldLink RX12 13 "LikeWordsModel" "size" "[I") (by decide +kernel)) (fun _ h9 => h9) rfl dX12_put_20 ?_
          refine lv_iload_n hx hb dX12_put_23 rfl (lv_at hl 1 rfl) ?_
          refine wi_iald (f := (y).2 1) hx hb hK hP 1 0 rfl rfl (i := o9) (by omega) (by omega) (by decide) dX12_put_24 ?_
          refine wi_iadd hx hb dX12_put_25 ?_
          refine lv_iload hx hb dX12_put_26 (lv_at hl 5 rfl) ?_
          refine wi_iadd hx hb dX12_put_28 ?_
          refine lv_aload_n hx hb dX12_put_29 rfl (lv_at hl 2 rfl) ?_
          refine lv_iload_n hx hb dX12_put_30 rfl (lv_at hl 3 rfl) ?_
          refine lv_iload hx hb dX12_put_31 (lv_at hl 5 rfl) ?_
          refine wi_iadd hx hb dX12_put_33 ?_
          refine wi_iald (f := (y).2 5) hx hb hK hP 4 0 rfl rfl (i := (b) + (i)) (by omega) (by omega) (by decide) dX12_put_34 ?_
          refine wi_iast (f := (y).2 2) hx hb hK hP hD hS 2 0 rfl rfl (i := ((((128 : Int)) * (o9)) + (((y).2 1) (o9).toNat)) + (i)) (x := ((y).2 5) ((b) + (i)).toNat) (by omega) (by omega) (by decide) dX12_put_35 (fun H locs hP hD hS => ?_)
          rw [mW_a2] at hP hD
          refine lv_iinc (v := iI ((i) + (1 : Int))) (lv' := [(5, .int (iI ((i) + (1 : Int)))), (0, .ref (h)), (1, .int (iI (o9))), (2, .ref (ad 5)), (3, .int (iI (b))), (4, .int (iI (g)))]) hx hb dX12_put_36 hl (k := 5) rfl (iI_add _ _) (by decide) rfl (fun ls hl => ?_)
          refine lv_goto (tgt := 3) hx hb dX12_put_39 (by decide) ?_
          exact ih (aU (y) 2 (((((128 : Int)) * (o9)) + (((y).2 1) (o9).toNat)) + (i)).toNat (((y).2 5) ((b) + (i)).toNat)) ((i) + (1 : Int)) (by omega) (by omega) (sy) (sz) (by omega) hres _ _ ls hP hD hS (lv_sub hl [1, 2, 3, 4, 5, 0] rfl)
  have key : ∀ (H : Heap) (locs : List Loc), va_P (dC, dI) vwCl (mW h ad cI cJ cZ (x)) H → va_S A s.heap H locs → W p l e (headSpec wsX12_put ({ frames := 0, cells := 0, slots := 0, locals := 0 })).room s m ([.ref h, .int (iI o9), .ref (ad 5), .int (iI b), .int (iI g)] : List Value).toArray below meth c H locs 0 0 (MQ below (va_Qv (fun u : MS => u = (F_m_put5 (x) (o9) (b) (g)).2) (mAt dC dI h ad cI cJ cZ A) A) ([.ref h, .int (iI o9), .ref (ad 5), .int (iI b), .int (iI g)] : List Value).toArray s 0 0 A) (F0 m 0 ls []) := by
    intro H locs hP hS
    have hres : F_m_put5_s 200 0 (x) (o9) (b) (g) ((0 : Int)) = F_m_put5 (x) (o9) (b) (g) := rfl
    refine lv_iconst (v := iI (0 : Int)) hx hb dX12_put_0 (by decide) ?_
    refine lv_istore (lv' := [(5, .int (iI ((0 : Int)))), (0, .ref (h)), (1, .int (iI (o9))), (2, .ref (ad 5)), (3, .int (iI (b))), (4, .int (iI (g)))]) hx hb dX12_put_1 hl (by decide) rfl (fun ls hl => ?_)
    exact (L (200)) (x) ((0 : Int)) (by omega) (by omega) (s0) (sg) (by omega) hres _ _ ls hP hD hS (lv_sub hl [1, 2, 3, 4, 5, 0] rfl)
  exact key _ _ hP hS
theorem F_m_put5_sfr : ∀ n : Nat, (∀ (y : MS) (v0 : Int) (v1 : Int) (v2 : Int) (v3 : Int), same [] [1, 2] y (F_m_put5_s n 0 y v0 v1 v2 v3).2) := by
  intro n
  induction n with
  | zero => exact fun y _ _ _ _ => sm_rf _ _ _
  | succ n ih =>
    skip
    · intro y o9 b g i
      rw [F_m_put5_e0]
      by_cases hc : (g) ≤ (i)
      · rw [if_pos hc]
        exact (sm_a (by decide) (sm_rf _ _ _))
      · rw [if_neg hc]
        exact sm_tr ((sm_a (by decide) (sm_rf _ _ _))) (ih (aU (y) 2 (((((128 : Int)) * (o9)) + (((y).2 1) (o9).toNat)) + (i)).toNat (((y).2 5) ((b) + (i)).toNat)) (o9) (b) (g) ((i) + (1 : Int)))
theorem F_m_put5_fr (x : MS) (o9 : Int) (b : Int) (g : Int) : same [] [1, 2] x (F_m_put5 (x) (o9) (b) (g)).2 := by
  unfold F_m_put5
  exact sm_tr ((sm_rf _ _ _)) ((F_m_put5_sfr 200) (x) (o9) (b) (g) ((0 : Int)))
def F_m_put14_s : Nat → Nat → MS → Int → Int → Int → Int → Int × MS
  | 0, _, x, _, _, _, _ => (0, x)
  | n + 1, t, x, p0, p1, p2, p3 => match t with
    | 0 => (fun (o9 : Int) (b : Int) (g : Int) (i : Int) => (if (g) ≤ (i) then (0, aU (x) 1 (o9).toNat ((((x).2 1) (o9).toNat) + (g))) else F_m_put14_s n 0 (aU (x) 2 (((((128 : Int)) * (o9)) + (((x).2 1) (o9).toNat)) + (i)).toNat (((x).2 14) ((b) + (i)).toNat)) (o9) (b) (g) ((i) + (1 : Int)))) p0 p1 p2 p3
    | _ => (0, x)
theorem F_m_put14_e0 (n : Nat) (x : MS) (o9 : Int) (b : Int) (g : Int) (i : Int) : F_m_put14_s (n + 1) 0 x o9 b g i = (if (g) ≤ (i) then (0, aU (x) 1 (o9).toNat ((((x).2 1) (o9).toNat) + (g))) else F_m_put14_s n 0 (aU (x) 2 (((((128 : Int)) * (o9)) + (((x).2 1) (o9).toNat)) + (i)).toNat (((x).2 14) ((b) + (i)).toNat)) (o9) (b) (g) ((i) + (1 : Int))) := rfl
def F_m_put14 (x : MS) (o9 : Int) (b : Int) (g : Int) : Int × MS := F_m_put14_s 200 0 (x) (o9) (b) (g) ((0 : Int))
set_option maxHeartbeats 4000000 in
set_option maxRecDepth 100000 in
/-- put -/
theorem c_m_put14 (l : Launch) (dC : Nat → ClassId) (dI : Nat → Nat → Nat) (h : Nat) (ad : Nat → Nat) (cI cJ cZ : ClassId) (sz : Nat) (x : MS) (o9 : Int) (b : Int) (g : Int) (o90 : 0 ≤ o9) (o91 : o9 < 13) (s0 : 0 ≤ x.2 1 o9.toNat) (g0 : 0 ≤ g) (sg : x.2 1 o9.toNat + g ≤ 128) (b0 : 0 ≤ b) (bg : b + g ≤ 960) : Met l yX12_put wsX12_put ({ frames := 0, cells := 0, slots := 0, locals := 0 }) (mPc dC dI h ad cI cJ cZ sz x [.ref h, .int (iI o9), .ref (ad 14), .int (iI b), .int (iI g)]) (va_Qv (fun u : MS => u = (F_m_put14 (x) (o9) (b) (g)).2) (mAt dC dI h ad cI cJ cZ (va_A (mW h ad cI cJ cZ (x)) sz)) (va_A (mW h ad cI cJ cZ (x)) sz)) 0 0 (va_A (mW h ad cI cJ cZ (x)) sz) := by
  refine Met.ofW (cc := cX12_put) (maxL := 6) (ret := none) (by decide) rfl ?_
  intro p e s m args below meth c s₁ B hml hv
  obtain ⟨rfl, hsz, hP, hK, hD0⟩ := hv
  have hx := B.exec
  have hb := B.bytes
  have hr := B.returns
  have hts := atoms_spec (ws := wsX12_put) B.pre
  have hown : s.vm.findClass RX12 = some m.cls := findClass_of_methodNamed B.named
  have hlocks := B.notSynchronized
  have hin : ∀ w ∈ u_ws RX12 TX12 34, w ∈ wsX12_put := by decide +kernel
  subst hsz
  have hD := hD0.self (sz := s.heap.size)
  generalize hAe : va_A (mW h ad cI cJ cZ (x)) s.heap.size = A at hD ⊢
  have hA : ∀ q : Nat, s.heap.size ≤ q → A q := fun q h => by rw [← hAe]; exact Or.inr h
  have hS : va_S A s.heap s.heap [] := va_S.rf
  have hl := lv_entry ([.ref h, .int (iI o9), .ref (ad 14), .int (iI b), .int (iI g)]) (n := 6) (Nat.le_of_ble_eq_true rfl)
  rw [lg_entry_eq]
  generalize (lg_sl ([.ref h, .int (iI o9), .ref (ad 14), .int (iI b), .int (iI g)]) ++ List.replicate (6 - (lg_sl ([.ref h, .int (iI o9), .ref (ad 14), .int (iI b), .int (iI g)])).length) Slot.unset).toArray = ls at hl ⊢
  have hl : lv_has ls 6 [(0, .ref (h)), (1, .int (iI (o9))), (2, .ref (ad 14)), (3, .int (iI (b))), (4, .int (iI (g)))] := hl
  have L : ∀ n : Nat, (∀ (y : MS) (i : Int), (0 ≤ i) → (i ≤ g) → (0 ≤ y.2 1 o9.toNat) → (y.2 1 o9.toNat + g ≤ 128) → (g - i < n) → F_m_put14_s n 0 y o9 b g i = F_m_put14 (x) (o9) (b) (g) → ∀ (H : Heap) (locs : List Loc) (ls : Array Slot), va_P (dC, dI) vwCl (mW h ad cI cJ cZ (y)) H → va_D A (mW h ad cI cJ cZ (y)) → va_S A s.heap H locs → lv_has ls 6 [(0, .ref (h)), (1, .int (iI (o9))), (2, .ref (ad 14)), (3, .int (iI (b))), (4, .int (iI (g))), (5, .int (iI (i)))] → W p l e (headSpec wsX12_put ({ frames := 0, cells := 0, slots := 0, locals := 0 })).room s m ([.ref h, .int (iI o9), .ref (ad 14), .int (iI b), .int (iI g)] : List Value).toArray below meth c H locs 0 0 (MQ below (va_Qv (fun u : MS => u = (F_m_put14 (x) (o9) (b) (g)).2) (mAt dC dI h ad cI cJ cZ A) A) ([.ref h, .int (iI o9), .ref (ad 14), .int (iI b), .int (iI g)] : List Value).toArray s 0 0 A) (F0 m 3 ls [])) := by
    intro n
    induction n with
    | zero =>
      skip
      · intro y i i0 i1 sy sz fu hres
        exact absurd fu (by omega)
    | succ n ih =>
      skip
      · intro y i i0 i1 sy sz fu hres H locs ls hP hD hS hl
        rw [F_m_put14_e0] at hres
        refine lv_iload hx hb dX12_put_3 (lv_at hl 5 rfl) ?_
        refine lv_iload hx hb dX12_put_5 (lv_at hl 4 rfl) ?_
        refine wi_icmp_ge (tgt := 42) hx hb (by first | assumption | (unfold iR; omega) | exact F_R01 (by assumption)) (by first | assumption | (unfold iR; omega) | exact F_R01 (by assumption)) dX12_put_7 (by decide) (fun c_7 => ?_) (fun c_7 => ?_)
        · skip
          rw [if_pos c_7] at hres
          refine lv_aload_n hx hb dX12_put_42 rfl (lv_at hl 0 rfl) ?_
          refine va_get (D := (dC, dI)) (ci := 12) (v := .ref (ad 1)) (C := RX12) (T := TX12) (N := 34) hx hb hts hin hown hK hP 0 rfl rfl 1 (by decide) (hts (.fieldLink RX12 13 "LikeWordsModel" "size" "[I") (by decide +kernel)) (fun _ h9 => h9) rfl dX12_put_43 ?_
          refine lv_iload_n hx hb dX12_put_46 rfl (lv_at hl 1 rfl) ?_
          refine lv_dup2_11 hx hb dX12_put_47 rfl rfl ?_
          refine wi_iald (f := (y).2 1) hx hb hK hP 1 0 rfl rfl (i := o9) (by omega) (by omega) (by decide) dX12_put_48 ?_
          refine lv_iload hx hb dX12_put_49 (lv_at hl 4 rfl) ?_
          refine wi_iadd hx hb dX12_put_51 ?_
          refine wi_iast (f := (y).2 1) hx hb hK hP hD hS 1 0 rfl rfl (i := o9) (x := (((y).2 1) (o9).toNat) + (g)) (by omega) (by omega) (by decide) dX12_put_52 (fun H locs hP hD hS => ?_)
          rw [mW_a1] at hP hD
          exact W.vret hx hb hr (fun t ht hW => ⟨⟨aU (y) 1 (o9).toNat ((((y).2 1) (o9).toNat) + (g)), rfl, (by have h9 := congrArg (fun z : Int × MS => z.2) hres; exact h9), by rw [ht]; exact hP, va_K.moved hW.alike hK, hD⟩, hS.F ht⟩) hS.2.2 dX12_put_53
        · skip
          rw [if_neg c_7] at hres
          refine lv_aload_n hx hb dX12_put_10 rfl (lv_at hl 0 rfl) ?_
          refine va_get (D := (dC, dI)) (ci := 12) (v := .ref (ad 2)) (C := RX12) (T := TX12) (N := 34) hx hb hts hin hown hK hP 0 rfl rfl 2 (by decide) (hts (.fieldLink RX12 17 "LikeWordsModel" "row" "[I") (by decide +kernel)) (fun _ h9 => h9) rfl dX12_put_11 ?_
          refine lv_sipush (v := iI (128 : Int)) hx hb dX12_put_14 (by decide) ?_
          refine lv_iload_n hx hb dX12_put_17 rfl (lv_at hl 1 rfl) ?_
          refine wi_imul hx hb dX12_put_18 ?_
          refine lv_aload_n hx hb dX12_put_19 rfl (lv_at hl 0 rfl) ?_
          refine va_get (D := (dC, dI)) (ci := 12) (v := .ref (ad 1)) (C := RX12) (T := TX12) (N := 34) hx hb hts hin hown hK hP 0 rfl rfl 1 (by decide) (hts (.fieldLink RX12 13 "LikeWordsModel" "size" "[I") (by decide +kernel)) (fun _ h9 => h9) rfl dX12_put_20 ?_
          refine lv_iload_n hx hb dX12_put_23 rfl (lv_at hl 1 rfl) ?_
          refine wi_iald (f := (y).2 1) hx hb hK hP 1 0 rfl rfl (i := o9) (by omega) (by omega) (by decide) dX12_put_24 ?_
          refine wi_iadd hx hb dX12_put_25 ?_
          refine lv_iload hx hb dX12_put_26 (lv_at hl 5 rfl) ?_
          refine wi_iadd hx hb dX12_put_28 ?_
          refine lv_aload_n hx hb dX12_put_29 rfl (lv_at hl 2 rfl) ?_
          refine lv_iload_n hx hb dX12_put_30 rfl (lv_at hl 3 rfl) ?_
          refine lv_iload hx hb dX12_put_31 (lv_at hl 5 rfl) ?_
          refine wi_iadd hx hb dX12_put_33 ?_
          refine wi_iald (f := (y).2 14) hx hb hK hP 9 0 rfl rfl (i := (b) + (i)) (by omega) (by omega) (by decide) dX12_put_34 ?_
          refine wi_iast (f := (y).2 2) hx hb hK hP hD hS 2 0 rfl rfl (i := ((((128 : Int)) * (o9)) + (((y).2 1) (o9).toNat)) + (i)) (x := ((y).2 14) ((b) + (i)).toNat) (by omega) (by omega) (by decide) dX12_put_35 (fun H locs hP hD hS => ?_)
          rw [mW_a2] at hP hD
          refine lv_iinc (v := iI ((i) + (1 : Int))) (lv' := [(5, .int (iI ((i) + (1 : Int)))), (0, .ref (h)), (1, .int (iI (o9))), (2, .ref (ad 14)), (3, .int (iI (b))), (4, .int (iI (g)))]) hx hb dX12_put_36 hl (k := 5) rfl (iI_add _ _) (by decide) rfl (fun ls hl => ?_)
          refine lv_goto (tgt := 3) hx hb dX12_put_39 (by decide) ?_
          exact ih (aU (y) 2 (((((128 : Int)) * (o9)) + (((y).2 1) (o9).toNat)) + (i)).toNat (((y).2 14) ((b) + (i)).toNat)) ((i) + (1 : Int)) (by omega) (by omega) (sy) (sz) (by omega) hres _ _ ls hP hD hS (lv_sub hl [1, 2, 3, 4, 5, 0] rfl)
  have key : ∀ (H : Heap) (locs : List Loc), va_P (dC, dI) vwCl (mW h ad cI cJ cZ (x)) H → va_S A s.heap H locs → W p l e (headSpec wsX12_put ({ frames := 0, cells := 0, slots := 0, locals := 0 })).room s m ([.ref h, .int (iI o9), .ref (ad 14), .int (iI b), .int (iI g)] : List Value).toArray below meth c H locs 0 0 (MQ below (va_Qv (fun u : MS => u = (F_m_put14 (x) (o9) (b) (g)).2) (mAt dC dI h ad cI cJ cZ A) A) ([.ref h, .int (iI o9), .ref (ad 14), .int (iI b), .int (iI g)] : List Value).toArray s 0 0 A) (F0 m 0 ls []) := by
    intro H locs hP hS
    have hres : F_m_put14_s 200 0 (x) (o9) (b) (g) ((0 : Int)) = F_m_put14 (x) (o9) (b) (g) := rfl
    refine lv_iconst (v := iI (0 : Int)) hx hb dX12_put_0 (by decide) ?_
    refine lv_istore (lv' := [(5, .int (iI ((0 : Int)))), (0, .ref (h)), (1, .int (iI (o9))), (2, .ref (ad 14)), (3, .int (iI (b))), (4, .int (iI (g)))]) hx hb dX12_put_1 hl (by decide) rfl (fun ls hl => ?_)
    exact (L (200)) (x) ((0 : Int)) (by omega) (by omega) (s0) (sg) (by omega) hres _ _ ls hP hD hS (lv_sub hl [1, 2, 3, 4, 5, 0] rfl)
  exact key _ _ hP hS
theorem F_m_put14_sfr : ∀ n : Nat, (∀ (y : MS) (v0 : Int) (v1 : Int) (v2 : Int) (v3 : Int), same [] [1, 2] y (F_m_put14_s n 0 y v0 v1 v2 v3).2) := by
  intro n
  induction n with
  | zero => exact fun y _ _ _ _ => sm_rf _ _ _
  | succ n ih =>
    skip
    · intro y o9 b g i
      rw [F_m_put14_e0]
      by_cases hc : (g) ≤ (i)
      · rw [if_pos hc]
        exact (sm_a (by decide) (sm_rf _ _ _))
      · rw [if_neg hc]
        exact sm_tr ((sm_a (by decide) (sm_rf _ _ _))) (ih (aU (y) 2 (((((128 : Int)) * (o9)) + (((y).2 1) (o9).toNat)) + (i)).toNat (((y).2 14) ((b) + (i)).toNat)) (o9) (b) (g) ((i) + (1 : Int)))
theorem F_m_put14_fr (x : MS) (o9 : Int) (b : Int) (g : Int) : same [] [1, 2] x (F_m_put14 (x) (o9) (b) (g)).2 := by
  unfold F_m_put14
  exact sm_tr ((sm_rf _ _ _)) ((F_m_put14_sfr 200) (x) (o9) (b) (g) ((0 : Int)))
def F_m_put16_s : Nat → Nat → MS → Int → Int → Int → Int → Int × MS
  | 0, _, x, _, _, _, _ => (0, x)
  | n + 1, t, x, p0, p1, p2, p3 => match t with
    | 0 => (fun (o9 : Int) (b : Int) (g : Int) (i : Int) => (if (g) ≤ (i) then (0, aU (x) 1 (o9).toNat ((((x).2 1) (o9).toNat) + (g))) else F_m_put16_s n 0 (aU (x) 2 (((((128 : Int)) * (o9)) + (((x).2 1) (o9).toNat)) + (i)).toNat (((x).2 16) ((b) + (i)).toNat)) (o9) (b) (g) ((i) + (1 : Int)))) p0 p1 p2 p3
    | _ => (0, x)
theorem F_m_put16_e0 (n : Nat) (x : MS) (o9 : Int) (b : Int) (g : Int) (i : Int) : F_m_put16_s (n + 1) 0 x o9 b g i = (if (g) ≤ (i) then (0, aU (x) 1 (o9).toNat ((((x).2 1) (o9).toNat) + (g))) else F_m_put16_s n 0 (aU (x) 2 (((((128 : Int)) * (o9)) + (((x).2 1) (o9).toNat)) + (i)).toNat (((x).2 16) ((b) + (i)).toNat)) (o9) (b) (g) ((i) + (1 : Int))) := rfl
def F_m_put16 (x : MS) (o9 : Int) (b : Int) (g : Int) : Int × MS := F_m_put16_s 200 0 (x) (o9) (b) (g) ((0 : Int))
set_option maxHeartbeats 4000000 in
set_option maxRecDepth 100000 in
/-- put -/
theorem c_m_put16 (l : Launch) (dC : Nat → ClassId) (dI : Nat → Nat → Nat) (h : Nat) (ad : Nat → Nat) (cI cJ cZ : ClassId) (sz : Nat) (x : MS) (o9 : Int) (b : Int) (g : Int) (o90 : 0 ≤ o9) (o91 : o9 < 13) (s0 : 0 ≤ x.2 1 o9.toNat) (g0 : 0 ≤ g) (sg : x.2 1 o9.toNat + g ≤ 128) (b0 : 0 ≤ b) (bg : b + g ≤ 960) : Met l yX12_put wsX12_put ({ frames := 0, cells := 0, slots := 0, locals := 0 }) (mPc dC dI h ad cI cJ cZ sz x [.ref h, .int (iI o9), .ref (ad 16), .int (iI b), .int (iI g)]) (va_Qv (fun u : MS => u = (F_m_put16 (x) (o9) (b) (g)).2) (mAt dC dI h ad cI cJ cZ (va_A (mW h ad cI cJ cZ (x)) sz)) (va_A (mW h ad cI cJ cZ (x)) sz)) 0 0 (va_A (mW h ad cI cJ cZ (x)) sz) := by
  refine Met.ofW (cc := cX12_put) (maxL := 6) (ret := none) (by decide) rfl ?_
  intro p e s m args below meth c s₁ B hml hv
  obtain ⟨rfl, hsz, hP, hK, hD0⟩ := hv
  have hx := B.exec
  have hb := B.bytes
  have hr := B.returns
  have hts := atoms_spec (ws := wsX12_put) B.pre
  have hown : s.vm.findClass RX12 = some m.cls := findClass_of_methodNamed B.named
  have hlocks := B.notSynchronized
  have hin : ∀ w ∈ u_ws RX12 TX12 34, w ∈ wsX12_put := by decide +kernel
  subst hsz
  have hD := hD0.self (sz := s.heap.size)
  generalize hAe : va_A (mW h ad cI cJ cZ (x)) s.heap.size = A at hD ⊢
  have hA : ∀ q : Nat, s.heap.size ≤ q → A q := fun q h => by rw [← hAe]; exact Or.inr h
  have hS : va_S A s.heap s.heap [] := va_S.rf
  have hl := lv_entry ([.ref h, .int (iI o9), .ref (ad 16), .int (iI b), .int (iI g)]) (n := 6) (Nat.le_of_ble_eq_true rfl)
  rw [lg_entry_eq]
  generalize (lg_sl ([.ref h, .int (iI o9), .ref (ad 16), .int (iI b), .int (iI g)]) ++ List.replicate (6 - (lg_sl ([.ref h, .int (iI o9), .ref (ad 16), .int (iI b), .int (iI g)])).length) Slot.unset).toArray = ls at hl ⊢
  have hl : lv_has ls 6 [(0, .ref (h)), (1, .int (iI (o9))), (2, .ref (ad 16)), (3, .int (iI (b))), (4, .int (iI (g)))] := hl
  have L : ∀ n : Nat, (∀ (y : MS) (i : Int), (0 ≤ i) → (i ≤ g) → (0 ≤ y.2 1 o9.toNat) → (y.2 1 o9.toNat + g ≤ 128) → (g - i < n) → F_m_put16_s n 0 y o9 b g i = F_m_put16 (x) (o9) (b) (g) → ∀ (H : Heap) (locs : List Loc) (ls : Array Slot), va_P (dC, dI) vwCl (mW h ad cI cJ cZ (y)) H → va_D A (mW h ad cI cJ cZ (y)) → va_S A s.heap H locs → lv_has ls 6 [(0, .ref (h)), (1, .int (iI (o9))), (2, .ref (ad 16)), (3, .int (iI (b))), (4, .int (iI (g))), (5, .int (iI (i)))] → W p l e (headSpec wsX12_put ({ frames := 0, cells := 0, slots := 0, locals := 0 })).room s m ([.ref h, .int (iI o9), .ref (ad 16), .int (iI b), .int (iI g)] : List Value).toArray below meth c H locs 0 0 (MQ below (va_Qv (fun u : MS => u = (F_m_put16 (x) (o9) (b) (g)).2) (mAt dC dI h ad cI cJ cZ A) A) ([.ref h, .int (iI o9), .ref (ad 16), .int (iI b), .int (iI g)] : List Value).toArray s 0 0 A) (F0 m 3 ls [])) := by
    intro n
    induction n with
    | zero =>
      skip
      · intro y i i0 i1 sy sz fu hres
        exact absurd fu (by omega)
    | succ n ih =>
      skip
      · intro y i i0 i1 sy sz fu hres H locs ls hP hD hS hl
        rw [F_m_put16_e0] at hres
        refine lv_iload hx hb dX12_put_3 (lv_at hl 5 rfl) ?_
        refine lv_iload hx hb dX12_put_5 (lv_at hl 4 rfl) ?_
        refine wi_icmp_ge (tgt := 42) hx hb (by first | assumption | (unfold iR; omega) | exact F_R01 (by assumption)) (by first | assumption | (unfold iR; omega) | exact F_R01 (by assumption)) dX12_put_7 (by decide) (fun c_7 => ?_) (fun c_7 => ?_)
        · skip
          rw [if_pos c_7] at hres
          refine lv_aload_n hx hb dX12_put_42 rfl (lv_at hl 0 rfl) ?_
          refine va_get (D := (dC, dI)) (ci := 12) (v := .ref (ad 1)) (C := RX12) (T := TX12) (N := 34) hx hb hts hin hown hK hP 0 rfl rfl 1 (by decide) (hts (.fieldLink RX12 13 "LikeWordsModel" "size" "[I") (by decide +kernel)) (fun _ h9 => h9) rfl dX12_put_43 ?_
          refine lv_iload_n hx hb dX12_put_46 rfl (lv_at hl 1 rfl) ?_
          refine lv_dup2_11 hx hb dX12_put_47 rfl rfl ?_
          refine wi_iald (f := (y).2 1) hx hb hK hP 1 0 rfl rfl (i := o9) (by omega) (by omega) (by decide) dX12_put_48 ?_
          refine lv_iload hx hb dX12_put_49 (lv_at hl 4 rfl) ?_
          refine wi_iadd hx hb dX12_put_51 ?_
          refine wi_iast (f := (y).2 1) hx hb hK hP hD hS 1 0 rfl rfl (i := o9) (x := (((y).2 1) (o9).toNat) + (g)) (by omega) (by omega) (by decide) dX12_put_52 (fun H locs hP hD hS => ?_)
          rw [mW_a1] at hP hD
          exact W.vret hx hb hr (fun t ht hW => ⟨⟨aU (y) 1 (o9).toNat ((((y).2 1) (o9).toNat) + (g)), rfl, (by have h9 := congrArg (fun z : Int × MS => z.2) hres; exact h9), by rw [ht]; exact hP, va_K.moved hW.alike hK, hD⟩, hS.F ht⟩) hS.2.2 dX12_put_53
        · skip
          rw [if_neg c_7] at hres
          refine lv_aload_n hx hb dX12_put_10 rfl (lv_at hl 0 rfl) ?_
          refine va_get (D := (dC, dI)) (ci := 12) (v := .ref (ad 2)) (C := RX12) (T := TX12) (N := 34) hx hb hts hin hown hK hP 0 rfl rfl 2 (by decide) (hts (.fieldLink RX12 17 "LikeWordsModel" "row" "[I") (by decide +kernel)) (fun _ h9 => h9) rfl dX12_put_11 ?_
          refine lv_sipush (v := iI (128 : Int)) hx hb dX12_put_14 (by decide) ?_
          refine lv_iload_n hx hb dX12_put_17 rfl (lv_at hl 1 rfl) ?_
          refine wi_imul hx hb dX12_put_18 ?_
          refine lv_aload_n hx hb dX12_put_19 rfl (lv_at hl 0 rfl) ?_
          refine va_get (D := (dC, dI)) (ci := 12) (v := .ref (ad 1)) (C := RX12) (T := TX12) (N := 34) hx hb hts hin hown hK hP 0 rfl rfl 1 (by decide) (hts (.fieldLink RX12 13 "LikeWordsModel" "size" "[I") (by decide +kernel)) (fun _ h9 => h9) rfl dX12_put_20 ?_
          refine lv_iload_n hx hb dX12_put_23 rfl (lv_at hl 1 rfl) ?_
          refine wi_iald (f := (y).2 1) hx hb hK hP 1 0 rfl rfl (i := o9) (by omega) (by omega) (by decide) dX12_put_24 ?_
          refine wi_iadd hx hb dX12_put_25 ?_
          refine lv_iload hx hb dX12_put_26 (lv_at hl 5 rfl) ?_
          refine wi_iadd hx hb dX12_put_28 ?_
          refine lv_aload_n hx hb dX12_put_29 rfl (lv_at hl 2 rfl) ?_
          refine lv_iload_n hx hb dX12_put_30 rfl (lv_at hl 3 rfl) ?_
          refine lv_iload hx hb dX12_put_31 (lv_at hl 5 rfl) ?_
          refine wi_iadd hx hb dX12_put_33 ?_
          refine wi_iald (f := (y).2 16) hx hb hK hP 11 0 rfl rfl (i := (b) + (i)) (by omega) (by omega) (by decide) dX12_put_34 ?_
          refine wi_iast (f := (y).2 2) hx hb hK hP hD hS 2 0 rfl rfl (i := ((((128 : Int)) * (o9)) + (((y).2 1) (o9).toNat)) + (i)) (x := ((y).2 16) ((b) + (i)).toNat) (by omega) (by omega) (by decide) dX12_put_35 (fun H locs hP hD hS => ?_)
          rw [mW_a2] at hP hD
          refine lv_iinc (v := iI ((i) + (1 : Int))) (lv' := [(5, .int (iI ((i) + (1 : Int)))), (0, .ref (h)), (1, .int (iI (o9))), (2, .ref (ad 16)), (3, .int (iI (b))), (4, .int (iI (g)))]) hx hb dX12_put_36 hl (k := 5) rfl (iI_add _ _) (by decide) rfl (fun ls hl => ?_)
          refine lv_goto (tgt := 3) hx hb dX12_put_39 (by decide) ?_
          exact ih (aU (y) 2 (((((128 : Int)) * (o9)) + (((y).2 1) (o9).toNat)) + (i)).toNat (((y).2 16) ((b) + (i)).toNat)) ((i) + (1 : Int)) (by omega) (by omega) (sy) (sz) (by omega) hres _ _ ls hP hD hS (lv_sub hl [1, 2, 3, 4, 5, 0] rfl)
  have key : ∀ (H : Heap) (locs : List Loc), va_P (dC, dI) vwCl (mW h ad cI cJ cZ (x)) H → va_S A s.heap H locs → W p l e (headSpec wsX12_put ({ frames := 0, cells := 0, slots := 0, locals := 0 })).room s m ([.ref h, .int (iI o9), .ref (ad 16), .int (iI b), .int (iI g)] : List Value).toArray below meth c H locs 0 0 (MQ below (va_Qv (fun u : MS => u = (F_m_put16 (x) (o9) (b) (g)).2) (mAt dC dI h ad cI cJ cZ A) A) ([.ref h, .int (iI o9), .ref (ad 16), .int (iI b), .int (iI g)] : List Value).toArray s 0 0 A) (F0 m 0 ls []) := by
    intro H locs hP hS
    have hres : F_m_put16_s 200 0 (x) (o9) (b) (g) ((0 : Int)) = F_m_put16 (x) (o9) (b) (g) := rfl
    refine lv_iconst (v := iI (0 : Int)) hx hb dX12_put_0 (by decide) ?_
    refine lv_istore (lv' := [(5, .int (iI ((0 : Int)))), (0, .ref (h)), (1, .int (iI (o9))), (2, .ref (ad 16)), (3, .int (iI (b))), (4, .int (iI (g)))]) hx hb dX12_put_1 hl (by decide) rfl (fun ls hl => ?_)
    exact (L (200)) (x) ((0 : Int)) (by omega) (by omega) (s0) (sg) (by omega) hres _ _ ls hP hD hS (lv_sub hl [1, 2, 3, 4, 5, 0] rfl)
  exact key _ _ hP hS
theorem F_m_put16_sfr : ∀ n : Nat, (∀ (y : MS) (v0 : Int) (v1 : Int) (v2 : Int) (v3 : Int), same [] [1, 2] y (F_m_put16_s n 0 y v0 v1 v2 v3).2) := by
  intro n
  induction n with
  | zero => exact fun y _ _ _ _ => sm_rf _ _ _
  | succ n ih =>
    skip
    · intro y o9 b g i
      rw [F_m_put16_e0]
      by_cases hc : (g) ≤ (i)
      · rw [if_pos hc]
        exact (sm_a (by decide) (sm_rf _ _ _))
      · rw [if_neg hc]
        exact sm_tr ((sm_a (by decide) (sm_rf _ _ _))) (ih (aU (y) 2 (((((128 : Int)) * (o9)) + (((y).2 1) (o9).toNat)) + (i)).toNat (((y).2 16) ((b) + (i)).toNat)) (o9) (b) (g) ((i) + (1 : Int)))
theorem F_m_put16_fr (x : MS) (o9 : Int) (b : Int) (g : Int) : same [] [1, 2] x (F_m_put16 (x) (o9) (b) (g)).2 := by
  unfold F_m_put16
  exact sm_tr ((sm_rf _ _ _)) ((F_m_put16_sfr 200) (x) (o9) (b) (g) ((0 : Int)))
def F_m_put33_s : Nat → Nat → MS → Int → Int → Int → Int → Int × MS
  | 0, _, x, _, _, _, _ => (0, x)
  | n + 1, t, x, p0, p1, p2, p3 => match t with
    | 0 => (fun (o9 : Int) (b : Int) (g : Int) (i : Int) => (if (g) ≤ (i) then (0, aU (x) 1 (o9).toNat ((((x).2 1) (o9).toNat) + (g))) else F_m_put33_s n 0 (aU (x) 2 (((((128 : Int)) * (o9)) + (((x).2 1) (o9).toNat)) + (i)).toNat (((x).2 33) ((b) + (i)).toNat)) (o9) (b) (g) ((i) + (1 : Int)))) p0 p1 p2 p3
    | _ => (0, x)
theorem F_m_put33_e0 (n : Nat) (x : MS) (o9 : Int) (b : Int) (g : Int) (i : Int) : F_m_put33_s (n + 1) 0 x o9 b g i = (if (g) ≤ (i) then (0, aU (x) 1 (o9).toNat ((((x).2 1) (o9).toNat) + (g))) else F_m_put33_s n 0 (aU (x) 2 (((((128 : Int)) * (o9)) + (((x).2 1) (o9).toNat)) + (i)).toNat (((x).2 33) ((b) + (i)).toNat)) (o9) (b) (g) ((i) + (1 : Int))) := rfl
def F_m_put33 (x : MS) (o9 : Int) (b : Int) (g : Int) : Int × MS := F_m_put33_s 200 0 (x) (o9) (b) (g) ((0 : Int))
set_option maxHeartbeats 4000000 in
set_option maxRecDepth 100000 in
/-- put -/
theorem c_m_put33 (l : Launch) (dC : Nat → ClassId) (dI : Nat → Nat → Nat) (h : Nat) (ad : Nat → Nat) (cI cJ cZ : ClassId) (sz : Nat) (x : MS) (o9 : Int) (b : Int) (g : Int) (o90 : 0 ≤ o9) (o91 : o9 < 13) (s0 : 0 ≤ x.2 1 o9.toNat) (g0 : 0 ≤ g) (sg : x.2 1 o9.toNat + g ≤ 128) (b0 : 0 ≤ b) (bg : b + g ≤ 18060) : Met l yX12_put wsX12_put ({ frames := 0, cells := 0, slots := 0, locals := 0 }) (mPc dC dI h ad cI cJ cZ sz x [.ref h, .int (iI o9), .ref (ad 33), .int (iI b), .int (iI g)]) (va_Qv (fun u : MS => u = (F_m_put33 (x) (o9) (b) (g)).2) (mAt dC dI h ad cI cJ cZ (va_A (mW h ad cI cJ cZ (x)) sz)) (va_A (mW h ad cI cJ cZ (x)) sz)) 0 0 (va_A (mW h ad cI cJ cZ (x)) sz) := by
  refine Met.ofW (cc := cX12_put) (maxL := 6) (ret := none) (by decide) rfl ?_
  intro p e s m args below meth c s₁ B hml hv
  obtain ⟨rfl, hsz, hP, hK, hD0⟩ := hv
  have hx := B.exec
  have hb := B.bytes
  have hr := B.returns
  have hts := atoms_spec (ws := wsX12_put) B.pre
  have hown : s.vm.findClass RX12 = some m.cls := findClass_of_methodNamed B.named
  have hlocks := B.notSynchronized
  have hin : ∀ w ∈ u_ws RX12 TX12 34, w ∈ wsX12_put := by decide +kernel
  subst hsz
  have hD := hD0.self (sz := s.heap.size)
  generalize hAe : va_A (mW h ad cI cJ cZ (x)) s.heap.size = A at hD ⊢
  have hA : ∀ q : Nat, s.heap.size ≤ q → A q := fun q h => by rw [← hAe]; exact Or.inr h
  have hS : va_S A s.heap s.heap [] := va_S.rf
  have hl := lv_entry ([.ref h, .int (iI o9), .ref (ad 33), .int (iI b), .int (iI g)]) (n := 6) (Nat.le_of_ble_eq_true rfl)
  rw [lg_entry_eq]
  generalize (lg_sl ([.ref h, .int (iI o9), .ref (ad 33), .int (iI b), .int (iI g)]) ++ List.replicate (6 - (lg_sl ([.ref h, .int (iI o9), .ref (ad 33), .int (iI b), .int (iI g)])).length) Slot.unset).toArray = ls at hl ⊢
  have hl : lv_has ls 6 [(0, .ref (h)), (1, .int (iI (o9))), (2, .ref (ad 33)), (3, .int (iI (b))), (4, .int (iI (g)))] := hl
  have L : ∀ n : Nat, (∀ (y : MS) (i : Int), (0 ≤ i) → (i ≤ g) → (0 ≤ y.2 1 o9.toNat) → (y.2 1 o9.toNat + g ≤ 128) → (g - i < n) → F_m_put33_s n 0 y o9 b g i = F_m_put33 (x) (o9) (b) (g) → ∀ (H : Heap) (locs : List Loc) (ls : Array Slot), va_P (dC, dI) vwCl (mW h ad cI cJ cZ (y)) H → va_D A (mW h ad cI cJ cZ (y)) → va_S A s.heap H locs → lv_has ls 6 [(0, .ref (h)), (1, .int (iI (o9))), (2, .ref (ad 33)), (3, .int (iI (b))), (4, .int (iI (g))), (5, .int (iI (i)))] → W p l e (headSpec wsX12_put ({ frames := 0, cells := 0, slots := 0, locals := 0 })).room s m ([.ref h, .int (iI o9), .ref (ad 33), .int (iI b), .int (iI g)] : List Value).toArray below meth c H locs 0 0 (MQ below (va_Qv (fun u : MS => u = (F_m_put33 (x) (o9) (b) (g)).2) (mAt dC dI h ad cI cJ cZ A) A) ([.ref h, .int (iI o9), .ref (ad 33), .int (iI b), .int (iI g)] : List Value).toArray s 0 0 A) (F0 m 3 ls [])) := by
    intro n
    induction n with
    | zero =>
      skip
      · intro y i i0 i1 sy sz fu hres
        exact absurd fu (by omega)
    | succ n ih =>
      skip
      · intro y i i0 i1 sy sz fu hres H locs ls hP hD hS hl
        rw [F_m_put33_e0] at hres
        refine lv_iload hx hb dX12_put_3 (lv_at hl 5 rfl) ?_
        refine lv_iload hx hb dX12_put_5 (lv_at hl 4 rfl) ?_
        refine wi_icmp_ge (tgt := 42) hx hb (by first | assumption | (unfold iR; omega) | exact F_R01 (by assumption)) (by first | assumption | (unfold iR; omega) | exact F_R01 (by assumption)) dX12_put_7 (by decide) (fun c_7 => ?_) (fun c_7 => ?_)
        · skip
          rw [if_pos c_7] at hres
          refine lv_aload_n hx hb dX12_put_42 rfl (lv_at hl 0 rfl) ?_
          refine va_get (D := (dC, dI)) (ci := 12) (v := .ref (ad 1)) (C := RX12) (T := TX12) (N := 34) hx hb hts hin hown hK hP 0 rfl rfl 1 (by decide) (hts (.fieldLink RX12 13 "LikeWordsModel" "size" "[I") (by decide +kernel)) (fun _ h9 => h9) rfl dX12_put_43 ?_
          refine lv_iload_n hx hb dX12_put_46 rfl (lv_at hl 1 rfl) ?_
          refine lv_dup2_11 hx hb dX12_put_47 rfl rfl ?_
          refine wi_iald (f := (y).2 1) hx hb hK hP 1 0 rfl rfl (i := o9) (by omega) (by omega) (by decide) dX12_put_48 ?_
          refine lv_iload hx hb dX12_put_49 (lv_at hl 4 rfl) ?_
          refine wi_iadd hx hb dX12_put_51 ?_
          refine wi_iast (f := (y).2 1) hx hb hK hP hD hS 1 0 rfl rfl (i := o9) (x := (((y).2 1) (o9).toNat) + (g)) (by omega) (by omega) (by decide) dX12_put_52 (fun H locs hP hD hS => ?_)
          rw [mW_a1] at hP hD
          exact W.vret hx hb hr (fun t ht hW => ⟨⟨aU (y) 1 (o9).toNat ((((y).2 1) (o9).toNat) + (g)), rfl, (by have h9 := congrArg (fun z : Int × MS => z.2) hres; exact h9), by rw [ht]; exact hP, va_K.moved hW.alike hK, hD⟩, hS.F ht⟩) hS.2.2 dX12_put_53
        · skip
          rw [if_neg c_7] at hres
          refine lv_aload_n hx hb dX12_put_10 rfl (lv_at hl 0 rfl) ?_
          refine va_get (D := (dC, dI)) (ci := 12) (v := .ref (ad 2)) (C := RX12) (T := TX12) (N := 34) hx hb hts hin hown hK hP 0 rfl rfl 2 (by decide) (hts (.fieldLink RX12 17 "LikeWordsModel" "row" "[I") (by decide +kernel)) (fun _ h9 => h9) rfl dX12_put_11 ?_
          refine lv_sipush (v := iI (128 : Int)) hx hb dX12_put_14 (by decide) ?_
          refine lv_iload_n hx hb dX12_put_17 rfl (lv_at hl 1 rfl) ?_
          refine wi_imul hx hb dX12_put_18 ?_
          refine lv_aload_n hx hb dX12_put_19 rfl (lv_at hl 0 rfl) ?_
          refine va_get (D := (dC, dI)) (ci := 12) (v := .ref (ad 1)) (C := RX12) (T := TX12) (N := 34) hx hb hts hin hown hK hP 0 rfl rfl 1 (by decide) (hts (.fieldLink RX12 13 "LikeWordsModel" "size" "[I") (by decide +kernel)) (fun _ h9 => h9) rfl dX12_put_20 ?_
          refine lv_iload_n hx hb dX12_put_23 rfl (lv_at hl 1 rfl) ?_
          refine wi_iald (f := (y).2 1) hx hb hK hP 1 0 rfl rfl (i := o9) (by omega) (by omega) (by decide) dX12_put_24 ?_
          refine wi_iadd hx hb dX12_put_25 ?_
          refine lv_iload hx hb dX12_put_26 (lv_at hl 5 rfl) ?_
          refine wi_iadd hx hb dX12_put_28 ?_
          refine lv_aload_n hx hb dX12_put_29 rfl (lv_at hl 2 rfl) ?_
          refine lv_iload_n hx hb dX12_put_30 rfl (lv_at hl 3 rfl) ?_
          refine lv_iload hx hb dX12_put_31 (lv_at hl 5 rfl) ?_
          refine wi_iadd hx hb dX12_put_33 ?_
          refine wi_iald (f := (y).2 33) hx hb hK hP 24 0 rfl rfl (i := (b) + (i)) (by omega) (by omega) (by decide) dX12_put_34 ?_
          refine wi_iast (f := (y).2 2) hx hb hK hP hD hS 2 0 rfl rfl (i := ((((128 : Int)) * (o9)) + (((y).2 1) (o9).toNat)) + (i)) (x := ((y).2 33) ((b) + (i)).toNat) (by omega) (by omega) (by decide) dX12_put_35 (fun H locs hP hD hS => ?_)
          rw [mW_a2] at hP hD
          refine lv_iinc (v := iI ((i) + (1 : Int))) (lv' := [(5, .int (iI ((i) + (1 : Int)))), (0, .ref (h)), (1, .int (iI (o9))), (2, .ref (ad 33)), (3, .int (iI (b))), (4, .int (iI (g)))]) hx hb dX12_put_36 hl (k := 5) rfl (iI_add _ _) (by decide) rfl (fun ls hl => ?_)
          refine lv_goto (tgt := 3) hx hb dX12_put_39 (by decide) ?_
          exact ih (aU (y) 2 (((((128 : Int)) * (o9)) + (((y).2 1) (o9).toNat)) + (i)).toNat (((y).2 33) ((b) + (i)).toNat)) ((i) + (1 : Int)) (by omega) (by omega) (sy) (sz) (by omega) hres _ _ ls hP hD hS (lv_sub hl [1, 2, 3, 4, 5, 0] rfl)
  have key : ∀ (H : Heap) (locs : List Loc), va_P (dC, dI) vwCl (mW h ad cI cJ cZ (x)) H → va_S A s.heap H locs → W p l e (headSpec wsX12_put ({ frames := 0, cells := 0, slots := 0, locals := 0 })).room s m ([.ref h, .int (iI o9), .ref (ad 33), .int (iI b), .int (iI g)] : List Value).toArray below meth c H locs 0 0 (MQ below (va_Qv (fun u : MS => u = (F_m_put33 (x) (o9) (b) (g)).2) (mAt dC dI h ad cI cJ cZ A) A) ([.ref h, .int (iI o9), .ref (ad 33), .int (iI b), .int (iI g)] : List Value).toArray s 0 0 A) (F0 m 0 ls []) := by
    intro H locs hP hS
    have hres : F_m_put33_s 200 0 (x) (o9) (b) (g) ((0 : Int)) = F_m_put33 (x) (o9) (b) (g) := rfl
    refine lv_iconst (v := iI (0 : Int)) hx hb dX12_put_0 (by decide) ?_
    refine lv_istore (lv' := [(5, .int (iI ((0 : Int)))), (0, .ref (h)), (1, .int (iI (o9))), (2, .ref (ad 33)), (3, .int (iI (b))), (4, .int (iI (g)))]) hx hb dX12_put_1 hl (by decide) rfl (fun ls hl => ?_)
    exact (L (200)) (x) ((0 : Int)) (by omega) (by omega) (s0) (sg) (by omega) hres _ _ ls hP hD hS (lv_sub hl [1, 2, 3, 4, 5, 0] rfl)
  exact key _ _ hP hS
theorem F_m_put33_sfr : ∀ n : Nat, (∀ (y : MS) (v0 : Int) (v1 : Int) (v2 : Int) (v3 : Int), same [] [1, 2] y (F_m_put33_s n 0 y v0 v1 v2 v3).2) := by
  intro n
  induction n with
  | zero => exact fun y _ _ _ _ => sm_rf _ _ _
  | succ n ih =>
    skip
    · intro y o9 b g i
      rw [F_m_put33_e0]
      by_cases hc : (g) ≤ (i)
      · rw [if_pos hc]
        exact (sm_a (by decide) (sm_rf _ _ _))
      · rw [if_neg hc]
        exact sm_tr ((sm_a (by decide) (sm_rf _ _ _))) (ih (aU (y) 2 (((((128 : Int)) * (o9)) + (((y).2 1) (o9).toNat)) + (i)).toNat (((y).2 33) ((b) + (i)).toNat)) (o9) (b) (g) ((i) + (1 : Int)))
theorem F_m_put33_fr (x : MS) (o9 : Int) (b : Int) (g : Int) : same [] [1, 2] x (F_m_put33 (x) (o9) (b) (g)).2 := by
  unfold F_m_put33
  exact sm_tr ((sm_rf _ _ _)) ((F_m_put33_sfr 200) (x) (o9) (b) (g) ((0 : Int)))
def F_m_laps_s : Nat → Nat → MS → Int → Int → Int → Int → Int → Int × MS
  | 0, _, x, _, _, _, _, _ => (0, x)
  | n + 1, t, x, p0, p1, p2, p3, p4 => match t with
    | 0 => (fun (a : Int) (b : Int) (g : Int) (q : Int) (i : Int) => (if (g) ≤ (i) then (q, x) else (if (q) = (0) then (q, x) else (if (((x).2 14) ((((((24 : Int)) * (a)) + (((x).2 13) (a).toNat)) - (g)) + (i)).toNat) = (((x).2 14) ((((24 : Int)) * (b)) + (i)).toNat) then F_m_laps_s n 0 (x) (a) (b) (g) ((1 : Int)) ((i) + (1 : Int)) else F_m_laps_s n 0 (x) (a) (b) (g) ((0 : Int)) ((i) + (1 : Int)))))) p0 p1 p2 p3 p4
    | _ => (0, x)
theorem F_m_laps_e0 (n : Nat) (x : MS) (a : Int) (b : Int) (g : Int) (q : Int) (i : Int) : F_m_laps_s (n + 1) 0 x a b g q i = (if (g) ≤ (i) then (q, x) else (if (q) = (0) then (q, x) else (if (((x).2 14) ((((((24 : Int)) * (a)) + (((x).2 13) (a).toNat)) - (g)) + (i)).toNat) = (((x).2 14) ((((24 : Int)) * (b)) + (i)).toNat) then F_m_laps_s n 0 (x) (a) (b) (g) ((1 : Int)) ((i) + (1 : Int)) else F_m_laps_s n 0 (x) (a) (b) (g) ((0 : Int)) ((i) + (1 : Int))))) := rfl
def F_m_laps (x : MS) (a : Int) (b : Int) (g : Int) : Int × MS := F_m_laps_s 200 0 (x) (a) (b) (g) ((1 : Int)) ((0 : Int))
set_option maxHeartbeats 4000000 in
set_option maxRecDepth 100000 in
/-- laps -/
theorem c_m_laps (l : Launch) (dC : Nat → ClassId) (dI : Nat → Nat → Nat) (h : Nat) (ad : Nat → Nat) (cI cJ cZ : ClassId) (sz : Nat) (x : MS) (a : Int) (b : Int) (g : Int) (a0 : 0 ≤ a) (a1 : a < 40) (b0 : 0 ≤ b) (b1 : b < 40) (z1 : x.2 13 a.toNat ≤ 24) (g0 : 0 ≤ g) (g1 : g ≤ x.2 13 a.toNat) (hl0 : lfR x) : Met l yX12_laps wsX12_laps ({ frames := 0, cells := 0, slots := 0, locals := 0 }) (mPc dC dI h ad cI cJ cZ sz x [.ref h, .int (iI a), .int (iI b), .int (iI g)]) (va_Qi (fun (r : Int32) (u : MS) => r = iI (F_m_laps (x) (a) (b) (g)).1 ∧ u = (F_m_laps (x) (a) (b) (g)).2) (mAt dC dI h ad cI cJ cZ (va_A (mW h ad cI cJ cZ (x)) sz)) (va_A (mW h ad cI cJ cZ (x)) sz)) 0 0 (va_A (mW h ad cI cJ cZ (x)) sz) := by
  refine Met.ofW (cc := cX12_laps) (maxL := 6) (ret := (some .boolean)) (by decide) rfl ?_
  intro p e s m args below meth c s₁ B hml hv
  obtain ⟨rfl, hsz, hP, hK, hD0⟩ := hv
  have hx := B.exec
  have hb := B.bytes
  have hr := B.returns
  have hts := atoms_spec (ws := wsX12_laps) B.pre
  have hown : s.vm.findClass RX12 = some m.cls := findClass_of_methodNamed B.named
  have hlocks := B.notSynchronized
  have hin : ∀ w ∈ u_ws RX12 TX12 34, w ∈ wsX12_laps := by decide +kernel
  subst hsz
  have hD := hD0.self (sz := s.heap.size)
  generalize hAe : va_A (mW h ad cI cJ cZ (x)) s.heap.size = A at hD ⊢
  have hA : ∀ q : Nat, s.heap.size ≤ q → A q := fun q h => by rw [← hAe]; exact Or.inr h
  have hS : va_S A s.heap s.heap [] := va_S.rf
  have hl := lv_entry ([.ref h, .int (iI a), .int (iI b), .int (iI g)]) (n := 6) (Nat.le_of_ble_eq_true rfl)
  rw [lg_entry_eq]
  generalize (lg_sl ([.ref h, .int (iI a), .int (iI b), .int (iI g)]) ++ List.replicate (6 - (lg_sl ([.ref h, .int (iI a), .int (iI b), .int (iI g)])).length) Slot.unset).toArray = ls at hl ⊢
  have hl : lv_has ls 6 [(0, .ref (h)), (1, .int (iI (a))), (2, .int (iI (b))), (3, .int (iI (g)))] := hl
  have L : ∀ n : Nat, (∀ (q : Int) (i : Int), (q = 0 ∨ q = 1) → (0 ≤ i) → (i ≤ g) → (g - i < n) → F_m_laps_s n 0 x a b g q i = F_m_laps (x) (a) (b) (g) → ∀ (H : Heap) (locs : List Loc) (ls : Array Slot), va_P (dC, dI) vwCl (mW h ad cI cJ cZ (x)) H → va_D A (mW h ad cI cJ cZ (x)) → va_S A s.heap H locs → lv_has ls 6 [(0, .ref (h)), (1, .int (iI (a))), (2, .int (iI (b))), (3, .int (iI (g))), (4, .int (iI (q))), (5, .int (iI (i)))] → W p l e (headSpec wsX12_laps ({ frames := 0, cells := 0, slots := 0, locals := 0 })).room s m ([.ref h, .int (iI a), .int (iI b), .int (iI g)] : List Value).toArray below meth c H locs 0 0 (MQ below (va_Qi (fun (r : Int32) (u : MS) => r = iI (F_m_laps (x) (a) (b) (g)).1 ∧ u = (F_m_laps (x) (a) (b) (g)).2) (mAt dC dI h ad cI cJ cZ A) A) ([.ref h, .int (iI a), .int (iI b), .int (iI g)] : List Value).toArray s 0 0 A) (F0 m 6 ls [])) := by
    intro n
    induction n with
    | zero =>
      skip
      · intro q i q01 i0 i1 fu hres
        exact absurd fu (by omega)
    | succ n ih =>
      skip
      · intro q i q01 i0 i1 fu hres H locs ls hP hD hS hl
        rw [F_m_laps_e0] at hres
        have k1 : i < g → iR ((x.2 14) ((((24 * a) + ((x.2 13) a.toNat)) - g) + i).toNat) := fun hi => by have := hl0 ((((24 * a) + ((x.2 13) a.toNat)) - g) + i).toNat (by omega); unfold iR; omega
        have k2 : i < g → iR ((x.2 14) ((24 * b) + i).toNat) := fun hi => by have := hl0 ((24 * b) + i).toNat (by omega); unfold iR; omega
        refine lv_iload hx hb dX12_laps_6 (lv_at hl 5 rfl) ?_
        refine lv_iload_n hx hb dX12_laps_8 rfl (lv_at hl 3 rfl) ?_
        refine wi_icmp_ge (tgt := 66) hx hb (by first | assumption | (unfold iR; omega) | exact F_R01 (by assumption)) (by first | assumption | (unfold iR; omega) | exact F_R01 (by assumption)) dX12_laps_9 (by decide) (fun c_9 => ?_) (fun c_9 => ?_)
        · skip
          rw [if_pos c_9] at hres
          refine lv_iload hx hb dX12_laps_66 (lv_at hl 4 rfl) ?_
          exact W.zret (v := iI (q)) hx hb hr (F_z _ (by first | assumption | omega)) (fun t ht hW => ⟨⟨iI (q), x, rfl, ⟨(by have h9 := congrArg (fun z : Int × MS => iI z.1) hres; exact h9), (by have h9 := congrArg (fun z : Int × MS => z.2) hres; exact h9)⟩, by rw [ht]; exact hP, va_K.moved hW.alike hK, hD⟩, hS.F ht⟩) hS.2.2 dX12_laps_68
        · skip
          rw [if_neg c_9] at hres
          refine lv_iload hx hb dX12_laps_12 (lv_at hl 4 rfl) ?_
          refine wi_if_eq (tgt := 66) hx hb (by first | assumption | (unfold iR; omega) | exact F_R01 (by assumption)) dX12_laps_14 (by decide) (fun c_14 => ?_) (fun c_14 => ?_)
          · skip
            rw [if_pos c_14] at hres
            refine lv_iload hx hb dX12_laps_66 (lv_at hl 4 rfl) ?_
            exact W.zret (v := iI (q)) hx hb hr (F_z _ (by first | assumption | omega)) (fun t ht hW => ⟨⟨iI (q), x, rfl, ⟨(by have h9 := congrArg (fun z : Int × MS => iI z.1) hres; exact h9), (by have h9 := congrArg (fun z : Int × MS => z.2) hres; exact h9)⟩, by rw [ht]; exact hP, va_K.moved hW.alike hK, hD⟩, hS.F ht⟩) hS.2.2 dX12_laps_68
          · skip
            rw [if_neg c_14] at hres
            refine lv_aload_n hx hb dX12_laps_17 rfl (lv_at hl 0 rfl) ?_
            refine va_get (D := (dC, dI)) (ci := 12) (v := .ref (ad 14)) (C := RX12) (T := TX12) (N := 34) hx hb hts hin hown hK hP 0 rfl rfl 14 (by decide) (hts (.fieldLink RX12 41 "LikeWordsModel" "left" "[I") (by decide +kernel)) (fun _ h9 => h9) rfl dX12_laps_18 ?_
            refine lv_bipush (v := iI (24 : Int)) hx hb dX12_laps_21 (by decide) ?_
            refine lv_iload_n hx hb dX12_laps_23 rfl (lv_at hl 1 rfl) ?_
            refine wi_imul hx hb dX12_laps_24 ?_
            refine lv_aload_n hx hb dX12_laps_25 rfl (lv_at hl 0 rfl) ?_
            refine va_get (D := (dC, dI)) (ci := 12) (v := .ref (ad 13)) (C := RX12) (T := TX12) (N := 34) hx hb hts hin hown hK hP 0 rfl rfl 13 (by decide) (hts (.fieldLink RX12 38 "LikeWordsModel" "leftSize" "[I") (by decide +kernel)) (fun _ h9 => h9) rfl dX12_laps_26 ?_
            refine lv_iload_n hx hb dX12_laps_29 rfl (lv_at hl 1 rfl) ?_
            refine wi_iald (f := (x).2 13) hx hb hK hP 8 0 rfl rfl (i := a) (by omega) (by omega) (by decide) dX12_laps_30 ?_
            refine wi_iadd hx hb dX12_laps_31 ?_
            refine lv_iload_n hx hb dX12_laps_32 rfl (lv_at hl 3 rfl) ?_
            refine wi_isub hx hb dX12_laps_33 ?_
            refine lv_iload hx hb dX12_laps_34 (lv_at hl 5 rfl) ?_
            refine wi_iadd hx hb dX12_laps_36 ?_
            refine wi_iald (f := (x).2 14) hx hb hK hP 9 0 rfl rfl (i := (((((24 : Int)) * (a)) + (((x).2 13) (a).toNat)) - (g)) + (i)) (by omega) (by omega) (by decide) dX12_laps_37 ?_
            refine lv_aload_n hx hb dX12_laps_38 rfl (lv_at hl 0 rfl) ?_
            refine va_get (D := (dC, dI)) (ci := 12) (v := .ref (ad 14)) (C := RX12) (T := TX12) (N := 34) hx hb hts hin hown hK hP 0 rfl rfl 14 (by decide) (hts (.fieldLink RX12 41 "LikeWordsModel" "left" "[I") (by decide +kernel)) (fun _ h9 => h9) rfl dX12_laps_39 ?_
            refine lv_bipush (v := iI (24 : Int)) hx hb dX12_laps_42 (by decide) ?_
            refine lv_iload_n hx hb dX12_laps_44 rfl (lv_at hl 2 rfl) ?_
            refine wi_imul hx hb dX12_laps_45 ?_
            refine lv_iload hx hb dX12_laps_46 (lv_at hl 5 rfl) ?_
            refine wi_iadd hx hb dX12_laps_48 ?_
            refine wi_iald (f := (x).2 14) hx hb hK hP 9 0 rfl rfl (i := (((24 : Int)) * (b)) + (i)) (by omega) (by omega) (by decide) dX12_laps_49 ?_
            refine wi_icmp_ne (tgt := 57) hx hb (by first | exact k1 (by omega) | exact k2 (by omega)) (by first | exact k1 (by omega) | exact k2 (by omega)) dX12_laps_50 (by decide) (fun c_50 => ?_) (fun c_50 => ?_)
            · skip
              rw [if_neg c_50] at hres
              refine lv_iconst (v := iI (0 : Int)) hx hb dX12_laps_57 (by decide) ?_
              refine lv_istore (lv' := [(4, .int (iI ((0 : Int)))), (0, .ref (h)), (1, .int (iI (a))), (2, .int (iI (b))), (3, .int (iI (g))), (5, .int (iI (i)))]) hx hb dX12_laps_58 hl (by decide) rfl (fun ls hl => ?_)
              refine lv_iinc (v := iI ((i) + (1 : Int))) (lv' := [(5, .int (iI ((i) + (1 : Int)))), (4, .int (iI ((0 : Int)))), (0, .ref (h)), (1, .int (iI (a))), (2, .int (iI (b))), (3, .int (iI (g)))]) hx hb dX12_laps_60 hl (k := 5) rfl (iI_add _ _) (by decide) rfl (fun ls hl => ?_)
              refine lv_goto (tgt := 6) hx hb dX12_laps_63 (by decide) ?_
              exact ih  ((0 : Int)) ((i) + (1 : Int)) (by omega) (by omega) (by omega) (by omega) hres _ _ ls hP hD hS (lv_sub hl [2, 3, 4, 5, 1, 0] rfl)
            · skip
              rw [if_pos c_50] at hres
              refine lv_iconst (v := iI (1 : Int)) hx hb dX12_laps_53 (by decide) ?_
              refine lv_goto (tgt := 58) hx hb dX12_laps_54 (by decide) ?_
              refine lv_istore (lv' := [(4, .int (iI ((1 : Int)))), (0, .ref (h)), (1, .int (iI (a))), (2, .int (iI (b))), (3, .int (iI (g))), (5, .int (iI (i)))]) hx hb dX12_laps_58 hl (by decide) rfl (fun ls hl => ?_)
              refine lv_iinc (v := iI ((i) + (1 : Int))) (lv' := [(5, .int (iI ((i) + (1 : Int)))), (4, .int (iI ((1 : Int)))), (0, .ref (h)), (1, .int (iI (a))), (2, .int (iI (b))), (3, .int (iI (g)))]) hx hb dX12_laps_60 hl (k := 5) rfl (iI_add _ _) (by decide) rfl (fun ls hl => ?_)
              refine lv_goto (tgt := 6) hx hb dX12_laps_63 (by decide) ?_
              exact ih  ((1 : Int)) ((i) + (1 : Int)) (by omega) (by omega) (by omega) (by omega) hres _ _ ls hP hD hS (lv_sub hl [2, 3, 4, 5, 1, 0] rfl)
  have key : ∀ (H : Heap) (locs : List Loc), va_P (dC, dI) vwCl (mW h ad cI cJ cZ (x)) H → va_S A s.heap H locs → W p l e (headSpec wsX12_laps ({ frames := 0, cells := 0, slots := 0, locals := 0 })).room s m ([.ref h, .int (iI a), .int (iI b), .int (iI g)] : List Value).toArray below meth c H locs 0 0 (MQ below (va_Qi (fun (r : Int32) (u : MS) => r = iI (F_m_laps (x) (a) (b) (g)).1 ∧ u = (F_m_laps (x) (a) (b) (g)).2) (mAt dC dI h ad cI cJ cZ A) A) ([.ref h, .int (iI a), .int (iI b), .int (iI g)] : List Value).toArray s 0 0 A) (F0 m 0 ls []) := by
    intro H locs hP hS
    have hres : F_m_laps_s 200 0 (x) (a) (b) (g) ((1 : Int)) ((0 : Int)) = F_m_laps (x) (a) (b) (g) := rfl
    refine lv_iconst (v := iI (1 : Int)) hx hb dX12_laps_0 (by decide) ?_
    refine lv_istore (lv' := [(4, .int (iI ((1 : Int)))), (0, .ref (h)), (1, .int (iI (a))), (2, .int (iI (b))), (3, .int (iI (g)))]) hx hb dX12_laps_1 hl (by decide) rfl (fun ls hl => ?_)
    refine lv_iconst (v := iI (0 : Int)) hx hb dX12_laps_3 (by decide) ?_
    refine lv_istore (lv' := [(5, .int (iI ((0 : Int)))), (4, .int (iI ((1 : Int)))), (0, .ref (h)), (1, .int (iI (a))), (2, .int (iI (b))), (3, .int (iI (g)))]) hx hb dX12_laps_4 hl (by decide) rfl (fun ls hl => ?_)
    exact (L (200))  ((1 : Int)) ((0 : Int)) (by omega) (by omega) (by omega) (by omega) hres _ _ ls hP hD hS (lv_sub hl [2, 3, 4, 5, 1, 0] rfl)
  exact key _ _ hP hS
theorem F_m_laps_sfr : ∀ n : Nat, (∀ (y : MS) (v0 : Int) (v1 : Int) (v2 : Int) (v3 : Int) (v4 : Int), same [] [] y (F_m_laps_s n 0 y v0 v1 v2 v3 v4).2) := by
  intro n
  induction n with
  | zero => exact fun y _ _ _ _ _ => sm_rf _ _ _
  | succ n ih =>
    skip
    · intro y a b g q i
      rw [F_m_laps_e0]
      by_cases hc : (g) ≤ (i)
      · rw [if_pos hc]
        exact (sm_rf _ _ _)
      · rw [if_neg hc]
        by_cases hc : (q) = (0)
        · rw [if_pos hc]
          exact (sm_rf _ _ _)
        · rw [if_neg hc]
          by_cases hc : (((y).2 14) ((((((24 : Int)) * (a)) + (((y).2 13) (a).toNat)) - (g)) + (i)).toNat) = (((y).2 14) ((((24 : Int)) * (b)) + (i)).toNat)
          · rw [if_pos hc]
            exact sm_tr ((sm_rf _ _ _)) (ih (y) (a) (b) (g) ((1 : Int)) ((i) + (1 : Int)))
          · rw [if_neg hc]
            exact sm_tr ((sm_rf _ _ _)) (ih (y) (a) (b) (g) ((0 : Int)) ((i) + (1 : Int)))
theorem F_m_laps_fr (x : MS) (a : Int) (b : Int) (g : Int) : same [] [] x (F_m_laps (x) (a) (b) (g)).2 := by
  unfold F_m_laps
  exact sm_tr ((sm_rf _ _ _)) ((F_m_laps_sfr 200) (x) (a) (b) (g) ((1 : Int)) ((0 : Int)))
theorem F_m_laps_2 (x : MS) (a : Int) (b : Int) (g : Int) : (F_m_laps (x) (a) (b) (g)).2 = x := sm_nil (F_m_laps_fr x a b g)
def F_m_stands_s : Nat → Nat → MS → Int → Int → Int → Int → Int → Int × MS
  | 0, _, x, _, _, _, _, _ => (0, x)
  | n + 1, t, x, p0, p1, p2, p3, p4 => match t with
    | 0 => (fun (a : Int) (b : Int) (g : Int) (q : Int) (i : Int) => (if (((x).2 13) (b).toNat) ≤ (i) then (q, x) else (if (q) = (0) then (q, x) else (if (((x).2 14) (((((24 : Int)) * (a)) + (g)) + (i)).toNat) = (((x).2 14) ((((24 : Int)) * (b)) + (i)).toNat) then F_m_stands_s n 0 (x) (a) (b) (g) ((1 : Int)) ((i) + (1 : Int)) else F_m_stands_s n 0 (x) (a) (b) (g) ((0 : Int)) ((i) + (1 : Int)))))) p0 p1 p2 p3 p4
    | _ => (0, x)
theorem F_m_stands_e0 (n : Nat) (x : MS) (a : Int) (b : Int) (g : Int) (q : Int) (i : Int) : F_m_stands_s (n + 1) 0 x a b g q i = (if (((x).2 13) (b).toNat) ≤ (i) then (q, x) else (if (q) = (0) then (q, x) else (if (((x).2 14) (((((24 : Int)) * (a)) + (g)) + (i)).toNat) = (((x).2 14) ((((24 : Int)) * (b)) + (i)).toNat) then F_m_stands_s n 0 (x) (a) (b) (g) ((1 : Int)) ((i) + (1 : Int)) else F_m_stands_s n 0 (x) (a) (b) (g) ((0 : Int)) ((i) + (1 : Int))))) := rfl
def F_m_stands (x : MS) (a : Int) (b : Int) (g : Int) : Int × MS := F_m_stands_s 200 0 (x) (a) (b) (g) ((1 : Int)) ((0 : Int))
set_option maxHeartbeats 4000000 in
set_option maxRecDepth 100000 in
/-- stands -/
theorem c_m_stands (l : Launch) (dC : Nat → ClassId) (dI : Nat → Nat → Nat) (h : Nat) (ad : Nat → Nat) (cI cJ cZ : ClassId) (sz : Nat) (x : MS) (a : Int) (b : Int) (g : Int) (a0 : 0 ≤ a) (a1 : a < 40) (b0 : 0 ≤ b) (b1 : b < 40) (z1 : x.2 13 a.toNat ≤ 24) (z2 : 0 ≤ x.2 13 b.toNat) (g0 : 0 ≤ g) (g1 : g + x.2 13 b.toNat ≤ x.2 13 a.toNat) (hl0 : lfR x) : Met l yX12_stands wsX12_stands ({ frames := 0, cells := 0, slots := 0, locals := 0 }) (mPc dC dI h ad cI cJ cZ sz x [.ref h, .int (iI a), .int (iI b), .int (iI g)]) (va_Qi (fun (r : Int32) (u : MS) => r = iI (F_m_stands (x) (a) (b) (g)).1 ∧ u = (F_m_stands (x) (a) (b) (g)).2) (mAt dC dI h ad cI cJ cZ (va_A (mW h ad cI cJ cZ (x)) sz)) (va_A (mW h ad cI cJ cZ (x)) sz)) 0 0 (va_A (mW h ad cI cJ cZ (x)) sz) := by
  refine Met.ofW (cc := cX12_stands) (maxL := 6) (ret := (some .boolean)) (by decide) rfl ?_
  intro p e s m args below meth c s₁ B hml hv
  obtain ⟨rfl, hsz, hP, hK, hD0⟩ := hv
  have hx := B.exec
  have hb := B.bytes
  have hr := B.returns
  have hts := atoms_spec (ws := wsX12_stands) B.pre
  have hown : s.vm.findClass RX12 = some m.cls := findClass_of_methodNamed B.named
  have hlocks := B.notSynchronized
  have hin : ∀ w ∈ u_ws RX12 TX12 34, w ∈ wsX12_stands := by decide +kernel
  subst hsz
  have hD := hD0.self (sz := s.heap.size)
  generalize hAe : va_A (mW h ad cI cJ cZ (x)) s.heap.size = A at hD ⊢
  have hA : ∀ q : Nat, s.heap.size ≤ q → A q := fun q h => by rw [← hAe]; exact Or.inr h
  have hS : va_S A s.heap s.heap [] := va_S.rf
  have hl := lv_entry ([.ref h, .int (iI a), .int (iI b), .int (iI g)]) (n := 6) (Nat.le_of_ble_eq_true rfl)
  rw [lg_entry_eq]
  generalize (lg_sl ([.ref h, .int (iI a), .int (iI b), .int (iI g)]) ++ List.replicate (6 - (lg_sl ([.ref h, .int (iI a), .int (iI b), .int (iI g)])).length) Slot.unset).toArray = ls at hl ⊢
  have hl : lv_has ls 6 [(0, .ref (h)), (1, .int (iI (a))), (2, .int (iI (b))), (3, .int (iI (g)))] := hl
  have L : ∀ n : Nat, (∀ (q : Int) (i : Int), (q = 0 ∨ q = 1) → (0 ≤ i) → (i ≤ 24) → (24 - i < n) → F_m_stands_s n 0 x a b g q i = F_m_stands (x) (a) (b) (g) → ∀ (H : Heap) (locs : List Loc) (ls : Array Slot), va_P (dC, dI) vwCl (mW h ad cI cJ cZ (x)) H → va_D A (mW h ad cI cJ cZ (x)) → va_S A s.heap H locs → lv_has ls 6 [(0, .ref (h)), (1, .int (iI (a))), (2, .int (iI (b))), (3, .int (iI (g))), (4, .int (iI (q))), (5, .int (iI (i)))] → W p l e (headSpec wsX12_stands ({ frames := 0, cells := 0, slots := 0, locals := 0 })).room s m ([.ref h, .int (iI a), .int (iI b), .int (iI g)] : List Value).toArray below meth c H locs 0 0 (MQ below (va_Qi (fun (r : Int32) (u : MS) => r = iI (F_m_stands (x) (a) (b) (g)).1 ∧ u = (F_m_stands (x) (a) (b) (g)).2) (mAt dC dI h ad cI cJ cZ A) A) ([.ref h, .int (iI a), .int (iI b), .int (iI g)] : List Value).toArray s 0 0 A) (F0 m 6 ls [])) := by
    intro n
    induction n with
    | zero =>
      skip
      · intro q i q01 i0 i1 fu hres
        exact absurd fu (by omega)
    | succ n ih =>
      skip
      · intro q i q01 i0 i1 fu hres H locs ls hP hD hS hl
        rw [F_m_stands_e0] at hres
        have k1 : i < x.2 13 b.toNat → iR ((x.2 14) (((24 * a) + g) + i).toNat) := fun hi => by have := hl0 (((24 * a) + g) + i).toNat (by omega); unfold iR; omega
        have k2 : i < x.2 13 b.toNat → iR ((x.2 14) ((24 * b) + i).toNat) := fun hi => by have := hl0 ((24 * b) + i).toNat (by omega); unfold iR; omega
        refine lv_iload hx hb dX12_stands_6 (lv_at hl 5 rfl) ?_
        refine lv_aload_n hx hb dX12_stands_8 rfl (lv_at hl 0 rfl) ?_
        refine va_get (D := (dC, dI)) (ci := 12) (v := .ref (ad 13)) (C := RX12) (T := TX12) (N := 34) hx hb hts hin hown hK hP 0 rfl rfl 13 (by decide) (hts (.fieldLink RX12 38 "LikeWordsModel" "leftSize" "[I") (by decide +kernel)) (fun _ h9 => h9) rfl dX12_stands_9 ?_
        refine lv_iload_n hx hb dX12_stands_12 rfl (lv_at hl 2 rfl) ?_
        refine wi_iald (f := (x).2 13) hx hb hK hP 8 0 rfl rfl (i := b) (by omega) (by omega) (by decide) dX12_stands_13 ?_
        refine wi_icmp_ge (tgt := 64) hx hb (by first | assumption | (unfold iR; omega) | exact F_R01 (by assumption)) (by first | assumption | (unfold iR; omega) | exact F_R01 (by assumption)) dX12_stands_14 (by decide) (fun c_14 => ?_) (fun c_14 => ?_)
        · skip
          rw [if_pos c_14] at hres
          refine lv_iload hx hb dX12_stands_64 (lv_at hl 4 rfl) ?_
          exact W.zret (v := iI (q)) hx hb hr (F_z _ (by first | assumption | omega)) (fun t ht hW => ⟨⟨iI (q), x, rfl, ⟨(by have h9 := congrArg (fun z : Int × MS => iI z.1) hres; exact h9), (by have h9 := congrArg (fun z : Int × MS => z.2) hres; exact h9)⟩, by rw [ht]; exact hP, va_K.moved hW.alike hK, hD⟩, hS.F ht⟩) hS.2.2 dX12_stands_66
        · skip
          rw [if_neg c_14] at hres
          refine lv_iload hx hb dX12_stands_17 (lv_at hl 4 rfl) ?_
          refine wi_if_eq (tgt := 64) hx hb (by first | assumption | (unfold iR; omega) | exact F_R01 (by assumption)) dX12_stands_19 (by decide) (fun c_19 => ?_) (fun c_19 => ?_)
          · skip
            rw [if_pos c_19] at hres
            refine lv_iload hx hb dX12_stands_64 (lv_at hl 4 rfl) ?_
            exact W.zret (v := iI (q)) hx hb hr (F_z _ (by first | assumption | omega)) (fun t ht hW => ⟨⟨iI (q), x, rfl, ⟨(by have h9 := congrArg (fun z : Int × MS => iI z.1) hres; exact h9), (by have h9 := congrArg (fun z : Int × MS => z.2) hres; exact h9)⟩, by rw [ht]; exact hP, va_K.moved hW.alike hK, hD⟩, hS.F ht⟩) hS.2.2 dX12_stands_66
          · skip
            rw [if_neg c_19] at hres
            refine lv_aload_n hx hb dX12_stands_22 rfl (lv_at hl 0 rfl) ?_
            refine va_get (D := (dC, dI)) (ci := 12) (v := .ref (ad 14)) (C := RX12) (T := TX12) (N := 34) hx hb hts hin hown hK hP 0 rfl rfl 14 (by decide) (hts (.fieldLink RX12 41 "LikeWordsModel" "left" "[I") (by decide +kernel)) (fun _ h9 => h9) rfl dX12_stands_23 ?_
            refine lv_bipush (v := iI (24 : Int)) hx hb dX12_stands_26 (by decide) ?_
            refine lv_iload_n hx hb dX12_stands_28 rfl (lv_at hl 1 rfl) ?_
            refine wi_imul hx hb dX12_stands_29 ?_
            refine lv_iload_n hx hb dX12_stands_30 rfl (lv_at hl 3 rfl) ?_
            refine wi_iadd hx hb dX12_stands_31 ?_
            refine lv_iload hx hb dX12_stands_32 (lv_at hl 5 rfl) ?_
            refine wi_iadd hx hb dX12_stands_34 ?_
            refine wi_iald (f := (x).2 14) hx hb hK hP 9 0 rfl rfl (i := ((((24 : Int)) * (a)) + (g)) + (i)) (by omega) (by omega) (by decide) dX12_stands_35 ?_
            refine lv_aload_n hx hb dX12_stands_36 rfl (lv_at hl 0 rfl) ?_
            refine va_get (D := (dC, dI)) (ci := 12) (v := .ref (ad 14)) (C := RX12) (T := TX12) (N := 34) hx hb hts hin hown hK hP 0 rfl rfl 14 (by decide) (hts (.fieldLink RX12 41 "LikeWordsModel" "left" "[I") (by decide +kernel)) (fun _ h9 => h9) rfl dX12_stands_37 ?_
            refine lv_bipush (v := iI (24 : Int)) hx hb dX12_stands_40 (by decide) ?_
            refine lv_iload_n hx hb dX12_stands_42 rfl (lv_at hl 2 rfl) ?_
            refine wi_imul hx hb dX12_stands_43 ?_
            refine lv_iload hx hb dX12_stands_44 (lv_at hl 5 rfl) ?_
            refine wi_iadd hx hb dX12_stands_46 ?_
            refine wi_iald (f := (x).2 14) hx hb hK hP 9 0 rfl rfl (i := (((24 : Int)) * (b)) + (i)) (by omega) (by omega) (by decide) dX12_stands_47 ?_
            refine wi_icmp_ne (tgt := 55) hx hb (by first | exact k1 (by omega) | exact k2 (by omega)) (by first | exact k1 (by omega) | exact k2 (by omega)) dX12_stands_48 (by decide) (fun c_48 => ?_) (fun c_48 => ?_)
            · skip
              rw [if_neg c_48] at hres
              refine lv_iconst (v := iI (0 : Int)) hx hb dX12_stands_55 (by decide) ?_
              refine lv_istore (lv' := [(4, .int (iI ((0 : Int)))), (0, .ref (h)), (1, .int (iI (a))), (2, .int (iI (b))), (3, .int (iI (g))), (5, .int (iI (i)))]) hx hb dX12_stands_56 hl (by decide) rfl (fun ls hl => ?_)
              refine lv_iinc (v := iI ((i) + (1 : Int))) (lv' := [(5, .int (iI ((i) + (1 : Int)))), (4, .int (iI ((0 : Int)))), (0, .ref (h)), (1, .int (iI (a))), (2, .int (iI (b))), (3, .int (iI (g)))]) hx hb dX12_stands_58 hl (k := 5) rfl (iI_add _ _) (by decide) rfl (fun ls hl => ?_)
              refine lv_goto (tgt := 6) hx hb dX12_stands_61 (by decide) ?_
              exact ih  ((0 : Int)) ((i) + (1 : Int)) (by omega) (by omega) (by omega) (by omega) hres _ _ ls hP hD hS (lv_sub hl [2, 3, 4, 5, 1, 0] rfl)
            · skip
              rw [if_pos c_48] at hres
              refine lv_iconst (v := iI (1 : Int)) hx hb dX12_stands_51 (by decide) ?_
              refine lv_goto (tgt := 56) hx hb dX12_stands_52 (by decide) ?_
              refine lv_istore (lv' := [(4, .int (iI ((1 : Int)))), (0, .ref (h)), (1, .int (iI (a))), (2, .int (iI (b))), (3, .int (iI (g))), (5, .int (iI (i)))]) hx hb dX12_stands_56 hl (by decide) rfl (fun ls hl => ?_)
              refine lv_iinc (v := iI ((i) + (1 : Int))) (lv' := [(5, .int (iI ((i) + (1 : Int)))), (4, .int (iI ((1 : Int)))), (0, .ref (h)), (1, .int (iI (a))), (2, .int (iI (b))), (3, .int (iI (g)))]) hx hb dX12_stands_58 hl (k := 5) rfl (iI_add _ _) (by decide) rfl (fun ls hl => ?_)
              refine lv_goto (tgt := 6) hx hb dX12_stands_61 (by decide) ?_
              exact ih  ((1 : Int)) ((i) + (1 : Int)) (by omega) (by omega) (by omega) (by omega) hres _ _ ls hP hD hS (lv_sub hl [2, 3, 4, 5, 1, 0] rfl)
  have key : ∀ (H : Heap) (locs : List Loc), va_P (dC, dI) vwCl (mW h ad cI cJ cZ (x)) H → va_S A s.heap H locs → W p l e (headSpec wsX12_stands ({ frames := 0, cells := 0, slots := 0, locals := 0 })).room s m ([.ref h, .int (iI a), .int (iI b), .int (iI g)] : List Value).toArray below meth c H locs 0 0 (MQ below (va_Qi (fun (r : Int32) (u : MS) => r = iI (F_m_stands (x) (a) (b) (g)).1 ∧ u = (F_m_stands (x) (a) (b) (g)).2) (mAt dC dI h ad cI cJ cZ A) A) ([.ref h, .int (iI a), .int (iI b), .int (iI g)] : List Value).toArray s 0 0 A) (F0 m 0 ls []) := by
    intro H locs hP hS
    have hres : F_m_stands_s 200 0 (x) (a) (b) (g) ((1 : Int)) ((0 : Int)) = F_m_stands (x) (a) (b) (g) := rfl
    refine lv_iconst (v := iI (1 : Int)) hx hb dX12_stands_0 (by decide) ?_
    refine lv_istore (lv' := [(4, .int (iI ((1 : Int)))), (0, .ref (h)), (1, .int (iI (a))), (2, .int (iI (b))), (3, .int (iI (g)))]) hx hb dX12_stands_1 hl (by decide) rfl (fun ls hl => ?_)
    refine lv_iconst (v := iI (0 : Int)) hx hb dX12_stands_3 (by decide) ?_
    refine lv_istore (lv' := [(5, .int (iI ((0 : Int)))), (4, .int (iI ((1 : Int)))), (0, .ref (h)), (1, .int (iI (a))), (2, .int (iI (b))), (3, .int (iI (g)))]) hx hb dX12_stands_4 hl (by decide) rfl (fun ls hl => ?_)
    exact (L (200))  ((1 : Int)) ((0 : Int)) (by omega) (by omega) (by omega) (by omega) hres _ _ ls hP hD hS (lv_sub hl [2, 3, 4, 5, 1, 0] rfl)
  exact key _ _ hP hS
theorem F_m_stands_sfr : ∀ n : Nat, (∀ (y : MS) (v0 : Int) (v1 : Int) (v2 : Int) (v3 : Int) (v4 : Int), same [] [] y (F_m_stands_s n 0 y v0 v1 v2 v3 v4).2) := by
  intro n
  induction n with
  | zero => exact fun y _ _ _ _ _ => sm_rf _ _ _
  | succ n ih =>
    skip
    · intro y a b g q i
      rw [F_m_stands_e0]
      by_cases hc : (((y).2 13) (b).toNat) ≤ (i)
      · rw [if_pos hc]
        exact (sm_rf _ _ _)
      · rw [if_neg hc]
        by_cases hc : (q) = (0)
        · rw [if_pos hc]
          exact (sm_rf _ _ _)
        · rw [if_neg hc]
          by_cases hc : (((y).2 14) (((((24 : Int)) * (a)) + (g)) + (i)).toNat) = (((y).2 14) ((((24 : Int)) * (b)) + (i)).toNat)
          · rw [if_pos hc]
            exact sm_tr ((sm_rf _ _ _)) (ih (y) (a) (b) (g) ((1 : Int)) ((i) + (1 : Int)))
          · rw [if_neg hc]
            exact sm_tr ((sm_rf _ _ _)) (ih (y) (a) (b) (g) ((0 : Int)) ((i) + (1 : Int)))
theorem F_m_stands_fr (x : MS) (a : Int) (b : Int) (g : Int) : same [] [] x (F_m_stands (x) (a) (b) (g)).2 := by
  unfold F_m_stands
  exact sm_tr ((sm_rf _ _ _)) ((F_m_stands_sfr 200) (x) (a) (b) (g) ((1 : Int)) ((0 : Int)))
theorem F_m_stands_2 (x : MS) (a : Int) (b : Int) (g : Int) : (F_m_stands (x) (a) (b) (g)).2 = x := sm_nil (F_m_stands_fr x a b g)
def F_m_newNode_s : Nat → Nat → MS → Int → Int → Int × MS
  | 0, _, x, _, _ => (0, x)
  | n + 1, t, x, p0, p1 => match t with
    | 0 => (fun (w : Int) (i : Int) => (if ((4 : Int)) ≤ (i) then (w, aU (x) 21 (w).toNat ((-9 : Int))) else F_m_newNode_s n 0 (aU (x) 18 ((((4 : Int)) * (w)) + (i)).toNat ((-9 : Int))) (w) ((i) + (1 : Int)))) p0 p1
    | _ => (0, x)
theorem F_m_newNode_e0 (n : Nat) (x : MS) (w : Int) (i : Int) : F_m_newNode_s (n + 1) 0 x w i = (if ((4 : Int)) ≤ (i) then (w, aU (x) 21 (w).toNat ((-9 : Int))) else F_m_newNode_s n 0 (aU (x) 18 ((((4 : Int)) * (w)) + (i)).toNat ((-9 : Int))) (w) ((i) + (1 : Int))) := rfl
def F_m_newNode (x : MS)  : Int × MS := F_m_newNode_s 10 0 (sU (x) 17 (((x).1 17) + ((1 : Int)))) ((x).1 17) ((0 : Int))
set_option maxHeartbeats 4000000 in
set_option maxRecDepth 100000 in
/-- newNode -/
theorem c_m_newNode (l : Launch) (dC : Nat → ClassId) (dI : Nat → Nat → Nat) (h : Nat) (ad : Nat → Nat) (cI cJ cZ : ClassId) (sz : Nat) (x : MS)  (n0 : 0 ≤ x.1 17) (n1 : x.1 17 < 850) : Met l yX12_newNode wsX12_newNode ({ frames := 0, cells := 0, slots := 0, locals := 0 }) (mPc dC dI h ad cI cJ cZ sz x [.ref h]) (va_Qi (fun (r : Int32) (u : MS) => r = iI (F_m_newNode (x)).1 ∧ u = (F_m_newNode (x)).2) (mAt dC dI h ad cI cJ cZ (va_A (mW h ad cI cJ cZ (x)) sz)) (va_A (mW h ad cI cJ cZ (x)) sz)) 0 0 (va_A (mW h ad cI cJ cZ (x)) sz) := by
  refine Met.ofW (cc := cX12_newNode) (maxL := 3) (ret := (some .int)) (by decide) rfl ?_
  intro p e s m args below meth c s₁ B hml hv
  obtain ⟨rfl, hsz, hP, hK, hD0⟩ := hv
  have hx := B.exec
  have hb := B.bytes
  have hr := B.returns
  have hts := atoms_spec (ws := wsX12_newNode) B.pre
  have hown : s.vm.findClass RX12 = some m.cls := findClass_of_methodNamed B.named
  have hlocks := B.notSynchronized
  have hin : ∀ w ∈ u_ws RX12 TX12 34, w ∈ wsX12_newNode := by decide +kernel
  subst hsz
  have hD := hD0.self (sz := s.heap.size)
  generalize hAe : va_A (mW h ad cI cJ cZ (x)) s.heap.size = A at hD ⊢
  have hA : ∀ q : Nat, s.heap.size ≤ q → A q := fun q h => by rw [← hAe]; exact Or.inr h
  have hS : va_S A s.heap s.heap [] := va_S.rf
  have hl := lv_entry ([.ref h]) (n := 3) (Nat.le_of_ble_eq_true rfl)
  rw [lg_entry_eq]
  generalize (lg_sl ([.ref h]) ++ List.replicate (3 - (lg_sl ([.ref h])).length) Slot.unset).toArray = ls at hl ⊢
  have hl : lv_has ls 3 [(0, .ref (h))] := hl
  have L : ∀ n : Nat, (∀ (y : MS) (w : Int) (i : Int), (0 ≤ w) → (w < 850) → (0 ≤ i) → (i ≤ 4) → (4 - i < n) → F_m_newNode_s n 0 y w i = F_m_newNode (x) → ∀ (H : Heap) (locs : List Loc) (ls : Array Slot), va_P (dC, dI) vwCl (mW h ad cI cJ cZ (y)) H → va_D A (mW h ad cI cJ cZ (y)) → va_S A s.heap H locs → lv_has ls 3 [(0, .ref (h)), (1, .int (iI (w))), (2, .int (iI (i)))] → W p l e (headSpec wsX12_newNode ({ frames := 0, cells := 0, slots := 0, locals := 0 })).room s m ([.ref h] : List Value).toArray below meth c H locs 0 0 (MQ below (va_Qi (fun (r : Int32) (u : MS) => r = iI (F_m_newNode (x)).1 ∧ u = (F_m_newNode (x)).2) (mAt dC dI h ad cI cJ cZ A) A) ([.ref h] : List Value).toArray s 0 0 A) (F0 m 17 ls [])) := by
    intro n
    induction n with
    | zero =>
      skip
      · intro y w i w0 w1 i0 i1 fu hres
        exact absurd fu (by omega)
    | succ n ih =>
      skip
      · intro y w i w0 w1 i0 i1 fu hres H locs ls hP hD hS hl
        rw [F_m_newNode_e0] at hres
        refine lv_iload_n hx hb dX12_newNode_17 rfl (lv_at hl 2 rfl) ?_
        refine lv_iconst (v := iI (4 : Int)) hx hb dX12_newNode_18 (by decide) ?_
        refine wi_icmp_ge (tgt := 40) hx hb (by first | assumption | (unfold iR; omega) | exact F_R01 (by assumption)) ⟨by decide, by decide⟩ dX12_newNode_19 (by decide) (fun c_19 => ?_) (fun c_19 => ?_)
        · skip
          rw [if_pos c_19] at hres
          refine lv_aload_n hx hb dX12_newNode_40 rfl (lv_at hl 0 rfl) ?_
          refine va_get (D := (dC, dI)) (ci := 12) (v := .ref (ad 21)) (C := RX12) (T := TX12) (N := 34) hx hb hts hin hown hK hP 0 rfl rfl 21 (by decide) (hts (.fieldLink RX12 59 "LikeWordsModel" "ends" "[I") (by decide +kernel)) (fun _ h9 => h9) rfl dX12_newNode_41 ?_
          refine lv_iload_n hx hb dX12_newNode_44 rfl (lv_at hl 1 rfl) ?_
          refine lv_bipush (v := iI (-9 : Int)) hx hb dX12_newNode_45 (by decide) ?_
          refine wi_iast (f := (y).2 21) hx hb hK hP hD hS 15 0 rfl rfl (i := w) (x := (-9 : Int)) (by omega) (by omega) (by decide) dX12_newNode_47 (fun H locs hP hD hS => ?_)
          rw [mW_a21] at hP hD
          refine lv_iload_n hx hb dX12_newNode_48 rfl (lv_at hl 1 rfl) ?_
          exact W.iret (v := iI (w)) hx hb hr (fun t ht hW => ⟨⟨iI (w), aU (y) 21 (w).toNat ((-9 : Int)), rfl, ⟨(by have h9 := congrArg (fun z : Int × MS => iI z.1) hres; exact h9), (by have h9 := congrArg (fun z : Int × MS => z.2) hres; exact h9)⟩, by rw [ht]; exact hP, va_K.moved hW.alike hK, hD⟩, hS.F ht⟩) hS.2.2 dX12_newNode_49
        · skip
          rw [if_neg c_19] at hres
          refine lv_aload_n hx hb dX12_newNode_22 rfl (lv_at hl 0 rfl) ?_
          refine va_get (D := (dC, dI)) (ci := 12) (v := .ref (ad 18)) (C := RX12) (T := TX12) (N := 34) hx hb hts hin hown hK hP 0 rfl rfl 18 (by decide) (hts (.fieldLink RX12 50 "LikeWordsModel" "child" "[I") (by decide +kernel)) (fun _ h9 => h9) rfl dX12_newNode_23 ?_
          refine lv_iconst (v := iI (4 : Int)) hx hb dX12_newNode_26 (by decide) ?_
          refine lv_iload_n hx hb dX12_newNode_27 rfl (lv_at hl 1 rfl) ?_
          refine wi_imul hx hb dX12_newNode_28 ?_
          refine lv_iload_n hx hb dX12_newNode_29 rfl (lv_at hl 2 rfl) ?_
          refine wi_iadd hx hb dX12_newNode_30 ?_
          refine lv_bipush (v := iI (-9 : Int)) hx hb dX12_newNode_31 (by decide) ?_
          refine wi_iast (f := (y).2 18) hx hb hK hP hD hS 12 0 rfl rfl (i := (((4 : Int)) * (w)) + (i)) (x := (-9 : Int)) (by omega) (by omega) (by decide) dX12_newNode_33 (fun H locs hP hD hS => ?_)
          rw [mW_a18] at hP hD
          refine lv_iinc (v := iI ((i) + (1 : Int))) (lv' := [(2, .int (iI ((i) + (1 : Int)))), (0, .ref (h)), (1, .int (iI (w)))]) hx hb dX12_newNode_34 hl (k := 2) rfl (iI_add _ _) (by decide) rfl (fun ls hl => ?_)
          refine lv_goto (tgt := 17) hx hb dX12_newNode_37 (by decide) ?_
          exact ih (aU (y) 18 ((((4 : Int)) * (w)) + (i)).toNat ((-9 : Int))) (w) ((i) + (1 : Int)) (by omega) (by omega) (by omega) (by omega) (by omega) hres _ _ ls hP hD hS (lv_sub hl [1, 2, 0] rfl)
  have key : ∀ (H : Heap) (locs : List Loc), va_P (dC, dI) vwCl (mW h ad cI cJ cZ (x)) H → va_S A s.heap H locs → W p l e (headSpec wsX12_newNode ({ frames := 0, cells := 0, slots := 0, locals := 0 })).room s m ([.ref h] : List Value).toArray below meth c H locs 0 0 (MQ below (va_Qi (fun (r : Int32) (u : MS) => r = iI (F_m_newNode (x)).1 ∧ u = (F_m_newNode (x)).2) (mAt dC dI h ad cI cJ cZ A) A) ([.ref h] : List Value).toArray s 0 0 A) (F0 m 0 ls []) := by
    intro H locs hP hS
    have hres : F_m_newNode_s 10 0 (sU (x) 17 (((x).1 17) + ((1 : Int)))) ((x).1 17) ((0 : Int)) = F_m_newNode (x) := rfl
    refine lv_aload_n hx hb dX12_newNode_0 rfl (lv_at hl 0 rfl) ?_
    refine va_get (D := (dC, dI)) (ci := 12) (v := .int (iI ((x).1 17))) (C := RX12) (T := TX12) (N := 34) hx hb hts hin hown hK hP 0 rfl rfl 17 (by decide) (hts (.fieldLink RX12 157 "LikeWordsModel" "nodes" "I") (by decide +kernel)) (fun _ h9 => h9) rfl dX12_newNode_1 ?_
    refine lv_istore_n (lv' := [(1, .int (iI ((x).1 17))), (0, .ref (h))]) hx hb dX12_newNode_4 rfl hl (by decide) rfl (fun ls hl => ?_)
    refine lv_aload_n hx hb dX12_newNode_5 rfl (lv_at hl 1 rfl) ?_
    refine lv_dup hx hb dX12_newNode_6 rfl ?_
    refine va_get (D := (dC, dI)) (ci := 12) (v := .int (iI ((x).1 17))) (C := RX12) (T := TX12) (N := 34) hx hb hts hin hown hK hP 0 rfl rfl 17 (by decide) (hts (.fieldLink RX12 157 "LikeWordsModel" "nodes" "I") (by decide +kernel)) (fun _ h9 => h9) rfl dX12_newNode_7 ?_
    refine lv_iconst (v := iI (1 : Int)) hx hb dX12_newNode_10 (by decide) ?_
    refine wi_iadd hx hb dX12_newNode_11 ?_
    refine va_put (D := (dC, dI)) (ci := 12) (v := .int (iI (((x).1 17) + ((1 : Int))))) (ty := .int) (C := RX12) (T := TX12) (N := 34) hx hb hts hin tyX12 tyX12_ok nmX12 hown hK hP hD hS 0 rfl rfl 17 (by decide) (hts (.fieldLink RX12 157 "LikeWordsModel" "nodes" "I") (by decide +kernel)) (fun _ h9 => h9) rfl (by decide +kernel) rfl rfl (Nat.le_of_ble_eq_true rfl) dX12_newNode_12 (fun H locs hP hD hS => ?_)
    rw [mW_s17] at hP hD
    refine lv_iconst (v := iI (0 : Int)) hx hb dX12_newNode_15 (by decide) ?_
    refine lv_istore_n (lv' := [(2, .int (iI ((0 : Int)))), (1, .int (iI ((x).1 17))), (0, .ref (h))]) hx hb dX12_newNode_16 rfl hl (by decide) rfl (fun ls hl => ?_)
    exact (L (10)) (sU (x) 17 (((x).1 17) + ((1 : Int)))) ((x).1 17) ((0 : Int)) (by omega) (by omega) (by omega) (by omega) (by omega) hres _ _ ls hP hD hS (lv_sub hl [2, 1, 0] rfl)
  exact key _ _ hP hS
theorem F_m_newNode_sfr : ∀ n : Nat, (∀ (y : MS) (v0 : Int) (v1 : Int), same [17] [18, 21] y (F_m_newNode_s n 0 y v0 v1).2) := by
  intro n
  induction n with
  | zero => exact fun y _ _ => sm_rf _ _ _
  | succ n ih =>
    skip
    · intro y w i
      rw [F_m_newNode_e0]
      by_cases hc : ((4 : Int)) ≤ (i)
      · rw [if_pos hc]
        exact (sm_a (by decide) (sm_rf _ _ _))
      · rw [if_neg hc]
        exact sm_tr ((sm_a (by decide) (sm_rf _ _ _))) (ih (aU (y) 18 ((((4 : Int)) * (w)) + (i)).toNat ((-9 : Int))) (w) ((i) + (1 : Int)))
theorem F_m_newNode_fr (x : MS)  : same [17] [18, 21] x (F_m_newNode (x)).2 := by
  unfold F_m_newNode
  exact sm_tr ((sm_s (by decide) (sm_rf _ _ _))) ((F_m_newNode_sfr 10) (sU (x) 17 (((x).1 17) + ((1 : Int)))) ((x).1 17) ((0 : Int)))
def F_m_next (x : MS) (g : Int) (c0 : Int) : Int × MS := (if (((x).2 21) (((x).2 19) ((((4 : Int)) * (((x).2 25) (g).toNat)) + (c0)).toNat).toNat) = ((-9 : Int)) then (((x).2 23) (((x).2 19) ((((4 : Int)) * (((x).2 25) (g).toNat)) + (c0)).toNat).toNat, x) else ((-9 : Int), x))
set_option maxHeartbeats 4000000 in
set_option maxRecDepth 100000 in
/-- next -/
theorem c_m_next (l : Launch) (dC : Nat → ClassId) (dI : Nat → Nat → Nat) (h : Nat) (ad : Nat → Nat) (cI cJ cZ : ClassId) (sz : Nat) (x : MS) (g : Int) (c0 : Int) (g0 : 0 ≤ g) (g1 : g < 850) (c1 : 0 ≤ c0) (c2 : c0 < 4) (d0 : 0 ≤ x.2 25 g.toNat) (d1 : x.2 25 g.toNat < 850) (e0 : 0 ≤ (x.2 19) ((4 * (x.2 25 g.toNat)) + c0).toNat) (e1 : (x.2 19) ((4 * (x.2 25 g.toNat)) + c0).toNat < 850) (e2 : iR ((x.2 21) ((x.2 19) ((4 * (x.2 25 g.toNat)) + c0).toNat).toNat)) : Met l yX12_next wsX12_next ({ frames := 0, cells := 0, slots := 0, locals := 0 }) (mPc dC dI h ad cI cJ cZ sz x [.ref h, .int (iI g), .int (iI c0)]) (va_Qi (fun (r : Int32) (u : MS) => r = iI (F_m_next (x) (g) (c0)).1 ∧ u = (F_m_next (x) (g) (c0)).2) (mAt dC dI h ad cI cJ cZ (va_A (mW h ad cI cJ cZ (x)) sz)) (va_A (mW h ad cI cJ cZ (x)) sz)) 0 0 (va_A (mW h ad cI cJ cZ (x)) sz) := by
  refine Met.ofW (cc := cX12_next) (maxL := 4) (ret := (some .int)) (by decide) rfl ?_
  intro p e s m args below meth c s₁ B hml hv
  obtain ⟨rfl, hsz, hP, hK, hD0⟩ := hv
  have hx := B.exec
  have hb := B.bytes
  have hr := B.returns
  have hts := atoms_spec (ws := wsX12_next) B.pre
  have hown : s.vm.findClass RX12 = some m.cls := findClass_of_methodNamed B.named
  have hlocks := B.notSynchronized
  have hin : ∀ w ∈ u_ws RX12 TX12 34, w ∈ wsX12_next := by decide +kernel
  subst hsz
  have hD := hD0.self (sz := s.heap.size)
  generalize hAe : va_A (mW h ad cI cJ cZ (x)) s.heap.size = A at hD ⊢
  have hA : ∀ q : Nat, s.heap.size ≤ q → A q := fun q h => by rw [← hAe]; exact Or.inr h
  have hS : va_S A s.heap s.heap [] := va_S.rf
  have hl := lv_entry ([.ref h, .int (iI g), .int (iI c0)]) (n := 4) (Nat.le_of_ble_eq_true rfl)
  rw [lg_entry_eq]
  generalize (lg_sl ([.ref h, .int (iI g), .int (iI c0)]) ++ List.replicate (4 - (lg_sl ([.ref h, .int (iI g), .int (iI c0)])).length) Slot.unset).toArray = ls at hl ⊢
  have hl : lv_has ls 4 [(0, .ref (h)), (1, .int (iI (g))), (2, .int (iI (c0)))] := hl
  have key : ∀ (H : Heap) (locs : List Loc), va_P (dC, dI) vwCl (mW h ad cI cJ cZ (x)) H → va_S A s.heap H locs → W p l e (headSpec wsX12_next ({ frames := 0, cells := 0, slots := 0, locals := 0 })).room s m ([.ref h, .int (iI g), .int (iI c0)] : List Value).toArray below meth c H locs 0 0 (MQ below (va_Qi (fun (r : Int32) (u : MS) => r = iI (F_m_next (x) (g) (c0)).1 ∧ u = (F_m_next (x) (g) (c0)).2) (mAt dC dI h ad cI cJ cZ A) A) ([.ref h, .int (iI g), .int (iI c0)] : List Value).toArray s 0 0 A) (F0 m 0 ls []) := by
    intro H locs hP hS
    have hres : (if (((x).2 21) (((x).2 19) ((((4 : Int)) * (((x).2 25) (g).toNat)) + (c0)).toNat).toNat) = ((-9 : Int)) then (((x).2 23) (((x).2 19) ((((4 : Int)) * (((x).2 25) (g).toNat)) + (c0)).toNat).toNat, x) else ((-9 : Int), x)) = F_m_next (x) (g) (c0) := rfl
    refine lv_aload_n hx hb dX12_next_0 rfl (lv_at hl 0 rfl) ?_
    refine va_get (D := (dC, dI)) (ci := 12) (v := .ref (ad 19)) (C := RX12) (T := TX12) (N := 34) hx hb hts hin hown hK hP 0 rfl rfl 19 (by decide) (hts (.fieldLink RX12 53 "LikeWordsModel" "go" "[I") (by decide +kernel)) (fun _ h9 => h9) rfl dX12_next_1 ?_
    refine lv_iconst (v := iI (4 : Int)) hx hb dX12_next_4 (by decide) ?_
    refine lv_aload_n hx hb dX12_next_5 rfl (lv_at hl 0 rfl) ?_
    refine va_get (D := (dC, dI)) (ci := 12) (v := .ref (ad 25)) (C := RX12) (T := TX12) (N := 34) hx hb hts hin hown hK hP 0 rfl rfl 25 (by decide) (hts (.fieldLink RX12 68 "LikeWordsModel" "nodeOf" "[I") (by decide +kernel)) (fun _ h9 => h9) rfl dX12_next_6 ?_
    refine lv_iload_n hx hb dX12_next_9 rfl (lv_at hl 1 rfl) ?_
    refine wi_iald (f := (x).2 25) hx hb hK hP 18 0 rfl rfl (i := g) (by omega) (by omega) (by decide) dX12_next_10 ?_
    refine wi_imul hx hb dX12_next_11 ?_
    refine lv_iload_n hx hb dX12_next_12 rfl (lv_at hl 2 rfl) ?_
    refine wi_iadd hx hb dX12_next_13 ?_
    refine wi_iald (f := (x).2 19) hx hb hK hP 13 0 rfl rfl (i := (((4 : Int)) * (((x).2 25) (g).toNat)) + (c0)) (by omega) (by omega) (by decide) dX12_next_14 ?_
    refine lv_istore_n (lv' := [(3, .int (iI (((x).2 19) ((((4 : Int)) * (((x).2 25) (g).toNat)) + (c0)).toNat))), (0, .ref (h)), (1, .int (iI (g))), (2, .int (iI (c0)))]) hx hb dX12_next_15 rfl hl (by decide) rfl (fun ls hl => ?_)
    refine lv_aload_n hx hb dX12_next_16 rfl (lv_at hl 1 rfl) ?_
    refine va_get (D := (dC, dI)) (ci := 12) (v := .ref (ad 21)) (C := RX12) (T := TX12) (N := 34) hx hb hts hin hown hK hP 0 rfl rfl 21 (by decide) (hts (.fieldLink RX12 59 "LikeWordsModel" "ends" "[I") (by decide +kernel)) (fun _ h9 => h9) rfl dX12_next_17 ?_
    refine lv_iload_n hx hb dX12_next_20 rfl (lv_at hl 0 rfl) ?_
    refine wi_iald (f := (x).2 21) hx hb hK hP 15 0 rfl rfl (i := ((x).2 19) ((((4 : Int)) * (((x).2 25) (g).toNat)) + (c0)).toNat) (by omega) (by omega) (by decide) dX12_next_21 ?_
    refine lv_bipush (v := iI (-9 : Int)) hx hb dX12_next_22 (by decide) ?_
    refine wi_icmp_ne (tgt := 36) hx hb (by first | assumption | (unfold iR; omega) | exact F_R01 (by assumption)) ⟨by decide, by decide⟩ dX12_next_24 (by decide) (fun c_24 => ?_) (fun c_24 => ?_)
    · skip
      rw [if_neg c_24] at hres
      refine lv_bipush (v := iI (-9 : Int)) hx hb dX12_next_36 (by decide) ?_
      exact W.iret (v := iI ((-9 : Int))) hx hb hr (fun t ht hW => ⟨⟨iI ((-9 : Int)), x, rfl, ⟨(by have h9 := congrArg (fun z : Int × MS => iI z.1) hres; exact h9), (by have h9 := congrArg (fun z : Int × MS => z.2) hres; exact h9)⟩, by rw [ht]; exact hP, va_K.moved hW.alike hK, hD⟩, hS.F ht⟩) hS.2.2 dX12_next_38
    · skip
      rw [if_pos c_24] at hres
      refine lv_aload_n hx hb dX12_next_27 rfl (lv_at hl 1 rfl) ?_
      refine va_get (D := (dC, dI)) (ci := 12) (v := .ref (ad 23)) (C := RX12) (T := TX12) (N := 34) hx hb hts hin hown hK hP 0 rfl rfl 23 (by decide) (hts (.fieldLink RX12 65 "LikeWordsModel" "stateOf" "[I") (by decide +kernel)) (fun _ h9 => h9) rfl dX12_next_28 ?_
      refine lv_iload_n hx hb dX12_next_31 rfl (lv_at hl 0 rfl) ?_
      refine wi_iald (f := (x).2 23) hx hb hK hP 17 0 rfl rfl (i := ((x).2 19) ((((4 : Int)) * (((x).2 25) (g).toNat)) + (c0)).toNat) (by omega) (by omega) (by decide) dX12_next_32 ?_
      refine lv_goto (tgt := 38) hx hb dX12_next_33 (by decide) ?_
      exact W.iret (v := iI (((x).2 23) (((x).2 19) ((((4 : Int)) * (((x).2 25) (g).toNat)) + (c0)).toNat).toNat)) hx hb hr (fun t ht hW => ⟨⟨iI (((x).2 23) (((x).2 19) ((((4 : Int)) * (((x).2 25) (g).toNat)) + (c0)).toNat).toNat), x, rfl, ⟨(by have h9 := congrArg (fun z : Int × MS => iI z.1) hres; exact h9), (by have h9 := congrArg (fun z : Int × MS => z.2) hres; exact h9)⟩, by rw [ht]; exact hP, va_K.moved hW.alike hK, hD⟩, hS.F ht⟩) hS.2.2 dX12_next_38
  exact key _ _ hP hS
theorem F_m_next_fr (x : MS) (g : Int) (c0 : Int) : same [] [] x (F_m_next (x) (g) (c0)).2 := by
  unfold F_m_next
  by_cases hc : (((x).2 21) (((x).2 19) ((((4 : Int)) * (((x).2 25) (g).toNat)) + (c0)).toNat).toNat) = ((-9 : Int))
  · rw [if_pos hc]
    exact (sm_rf _ _ _)
  · rw [if_neg hc]
    exact (sm_rf _ _ _)
theorem F_m_next_2 (x : MS) (g : Int) (c0 : Int) : (F_m_next (x) (g) (c0)).2 = x := sm_nil (F_m_next_fr x g c0)
def F_m_onward (x : MS) (g : Int) (c0 : Int) (m0 : Int) : Int × MS := (if ((F_m_next (x) (g) (c0)).1) = ((-9 : Int)) then ((0 : Int), x) else (((x).2 28) ((((31 : Int)) * ((F_m_next (x) (g) (c0)).1)) + (m0)).toNat, x))
set_option maxHeartbeats 4000000 in
set_option maxRecDepth 100000 in
/-- onward -/
theorem c_m_onward (l : Launch) (dC : Nat → ClassId) (dI : Nat → Nat → Nat) (h : Nat) (ad : Nat → Nat) (cI cJ cZ : ClassId) (sz : Nat) (x : MS) (g : Int) (c0 : Int) (m0 : Int) (g0 : 0 ≤ g) (g1 : g < 850) (c1 : 0 ≤ c0) (c2 : c0 < 4) (d0 : 0 ≤ x.2 25 g.toNat) (d1 : x.2 25 g.toNat < 850) (e0 : 0 ≤ (x.2 19) ((4 * (x.2 25 g.toNat)) + c0).toNat) (e1 : (x.2 19) ((4 * (x.2 25 g.toNat)) + c0).toNat < 850) (e2 : iR ((x.2 21) ((x.2 19) ((4 * (x.2 25 g.toNat)) + c0).toNat).toNat)) (f0 : (F_m_next x g c0).1 = -9 ∨ (0 ≤ (F_m_next x g c0).1 ∧ (F_m_next x g c0).1 < 850)) (m1 : 0 ≤ m0) (m2 : m0 ≤ 30) : Met l yX12_onward wsX12_onward ({ frames := 1, cells := 0, slots := 0, locals := 23 }) (mPc dC dI h ad cI cJ cZ sz x [.ref h, .int (iI g), .int (iI c0), .int (iI m0)]) (va_Ql (fun (r : Int64) (u : MS) => r = iL (F_m_onward (x) (g) (c0) (m0)).1 ∧ u = (F_m_onward (x) (g) (c0) (m0)).2) (mAt dC dI h ad cI cJ cZ (va_A (mW h ad cI cJ cZ (x)) sz)) (va_A (mW h ad cI cJ cZ (x)) sz)) 0 0 (va_A (mW h ad cI cJ cZ (x)) sz) := by
  refine Met.ofW (cc := cX12_onward) (maxL := 5) (ret := (some .long)) (by decide) rfl ?_
  intro p e s m args below meth c s₁ B hml hv
  obtain ⟨rfl, hsz, hP, hK, hD0⟩ := hv
  have hx := B.exec
  have hb := B.bytes
  have hr := B.returns
  have hts := atoms_spec (ws := wsX12_onward) B.pre
  have hown : s.vm.findClass RX12 = some m.cls := findClass_of_methodNamed B.named
  have hlocks := B.notSynchronized
  have hin : ∀ w ∈ u_ws RX12 TX12 34, w ∈ wsX12_onward := by decide +kernel
  subst hsz
  have hD := hD0.self (sz := s.heap.size)
  generalize hAe : va_A (mW h ad cI cJ cZ (x)) s.heap.size = A at hD ⊢
  have hA : ∀ q : Nat, s.heap.size ≤ q → A q := fun q h => by rw [← hAe]; exact Or.inr h
  have hS : va_S A s.heap s.heap [] := va_S.rf
  have hl := lv_entry ([.ref h, .int (iI g), .int (iI c0), .int (iI m0)]) (n := 5) (Nat.le_of_ble_eq_true rfl)
  rw [lg_entry_eq]
  generalize (lg_sl ([.ref h, .int (iI g), .int (iI c0), .int (iI m0)]) ++ List.replicate (5 - (lg_sl ([.ref h, .int (iI g), .int (iI c0), .int (iI m0)])).length) Slot.unset).toArray = ls at hl ⊢
  have hl : lv_has ls 5 [(0, .ref (h)), (1, .int (iI (g))), (2, .int (iI (c0))), (3, .int (iI (m0)))] := hl
  have key : ∀ (H : Heap) (locs : List Loc), va_P (dC, dI) vwCl (mW h ad cI cJ cZ (x)) H → va_S A s.heap H locs → W p l e (headSpec wsX12_onward ({ frames := 1, cells := 0, slots := 0, locals := 23 })).room s m ([.ref h, .int (iI g), .int (iI c0), .int (iI m0)] : List Value).toArray below meth c H locs 0 0 (MQ below (va_Ql (fun (r : Int64) (u : MS) => r = iL (F_m_onward (x) (g) (c0) (m0)).1 ∧ u = (F_m_onward (x) (g) (c0) (m0)).2) (mAt dC dI h ad cI cJ cZ A) A) ([.ref h, .int (iI g), .int (iI c0), .int (iI m0)] : List Value).toArray s 0 0 A) (F0 m 0 ls []) := by
    intro H locs hP hS
    have hres : (if ((F_m_next (x) (g) (c0)).1) = ((-9 : Int)) then ((0 : Int), x) else (((x).2 28) ((((31 : Int)) * ((F_m_next (x) (g) (c0)).1)) + (m0)).toNat, x)) = F_m_onward (x) (g) (c0) (m0) := rfl
    refine lv_aload_n hx hb dX12_onward_0 rfl (lv_at hl 0 rfl) ?_
    refine lv_iload_n hx hb dX12_onward_1 rfl (lv_at hl 1 rfl) ?_
    refine lv_iload_n hx hb dX12_onward_2 rfl (lv_at hl 2 rfl) ?_
    have hFc : ∀ q, va_A (mW h ad cI cJ cZ (x)) H.size q → A q := fun q hq => Or.elim hq (fun ⟨k, e, hk⟩ => hD.2 k (q, e) hk) (fun hk => hA q (Nat.le_trans hS.1 hk))
    refine va_calli (va_runV (As := [.int (iI (g)), .int (iI (c0))]) (rest := []) ⟨hx, hb, hml, hown, hts⟩ (c_m_next l dC dI h ad cI cJ cZ H.size (x) (g) (c0) (by first | assumption | exact iR_L (by assumption) | exact ⟨by decide, by decide⟩ | omega | (unfold iR; omega) | (unfold iRL; omega)) (by first | assumption | exact iR_L (by assumption) | exact ⟨by decide, by decide⟩ | omega | (unfold iR; omega) | (unfold iRL; omega)) (by first | assumption | exact iR_L (by assumption) | exact ⟨by decide, by decide⟩ | omega | (unfold iR; omega) | (unfold iRL; omega)) (by first | assumption | exact iR_L (by assumption) | exact ⟨by decide, by decide⟩ | omega | (unfold iR; omega) | (unfold iRL; omega)) (by first | assumption | exact iR_L (by assumption) | exact ⟨by decide, by decide⟩ | omega | (unfold iR; omega) | (unfold iRL; omega)) (by first | assumption | exact iR_L (by assumption) | exact ⟨by decide, by decide⟩ | omega | (unfold iR; omega) | (unfold iRL; omega)) (by first | assumption | exact iR_L (by assumption) | exact ⟨by decide, by decide⟩ | omega | (unfold iR; omega) | (unfold iRL; omega)) (by first | assumption | exact iR_L (by assumption) | exact ⟨by decide, by decide⟩ | omega | (unfold iR; omega) | (unfold iRL; omega)) (by first | assumption | exact iR_L (by assumption) | exact ⟨by decide, by decide⟩ | omega | (unfold iR; omega) | (unfold iRL; omega))) (cwV 2 hts gX12_onward_X12_next rfl rfl rfl (by decide +kernel) ⟨Nat.le_of_ble_eq_true rfl, Nat.le_of_ble_eq_true rfl⟩) ⟨fun a U g mk q => by obtain ⟨q0, q1, qP, qK, qD⟩ := q; exact ⟨q0, q1, qP, va_K.moved (u := U) (U := U.calling g mk a) (Vm.Alike.refl U.vm) qK, qD⟩, va_recv hK hP (ci := 12) (q0 := 0) rfl rfl, fun U hU hW => ⟨rfl, by rw [hU], by rw [hU]; exact hP, va_K.moved hW.alike hK, hD.weaken (fun _ _ _ _ => trivial)⟩⟩ rfl rfl hl.1 rfl (lv_room (Nat.le_of_ble_eq_true rfl)) dX12_onward_3 ⟨Nat.le_of_ble_eq_true rfl, Nat.le_of_ble_eq_true rfl⟩) hS (fun q _ h => hFc q h) hFc (fun r9 u9 t H1 locs ht hvm hw hB hz1 hk1 hS => ?_)
    obtain ⟨hP1, hK1, hD1⟩ := hB
    rw [ht] at hP1
    obtain ⟨hw1, hw2⟩ := hw
    rw [hw2] at hP1 hD1
    rw [hw1]
    rw [F_m_next_2] at hP1 hD1
    have hD2 := hD1.weaken (B := A) (fun _ q _ h => hFc q.1 h)
    have hP := hP1
    have hD := hD2
    generalize H1 = H at hP hS ⊢
    refine lv_istore (lv' := [(4, .int (iI ((F_m_next (x) (g) (c0)).1))), (0, .ref (h)), (1, .int (iI (g))), (2, .int (iI (c0))), (3, .int (iI (m0)))]) hx hb dX12_onward_6 hl (by decide) rfl (fun ls hl => ?_)
    refine lv_iload hx hb dX12_onward_8 (lv_at hl 0 rfl) ?_
    refine lv_bipush (v := iI (-9 : Int)) hx hb dX12_onward_10 (by decide) ?_
    refine wi_icmp_ne (tgt := 19) hx hb (by first | assumption | (unfold iR; omega) | exact F_R01 (by assumption)) ⟨by decide, by decide⟩ dX12_onward_12 (by decide) (fun c_12 => ?_) (fun c_12 => ?_)
    · skip
      rw [if_neg c_12] at hres
      refine lv_aload_n hx hb dX12_onward_19 rfl (lv_at hl 1 rfl) ?_
      refine va_get (D := (dC, dI)) (ci := 12) (v := .ref (ad 28)) (C := RX12) (T := TX12) (N := 34) hx hb hts hin hown hK hP 0 rfl rfl 28 (by decide) (hts (.fieldLink RX12 74 "LikeWordsModel" "way" "[J") (by decide +kernel)) (fun _ h9 => h9) rfl dX12_onward_20 ?_
      refine lv_bipush (v := iI (31 : Int)) hx hb dX12_onward_23 (by decide) ?_
      refine lv_iload hx hb dX12_onward_25 (lv_at hl 0 rfl) ?_
      refine wi_imul hx hb dX12_onward_27 ?_
      refine lv_iload_n hx hb dX12_onward_28 rfl (lv_at hl 4 rfl) ?_
      refine wi_iadd hx hb dX12_onward_29 ?_
      refine wi_lald (f := (x).2 28) hx hb hK hP 20 1 rfl rfl (i := (((31 : Int)) * ((F_m_next (x) (g) (c0)).1)) + (m0)) (by omega) (by omega) (by decide) dX12_onward_30 ?_
      exact W.lret (v := iL (((x).2 28) ((((31 : Int)) * ((F_m_next (x) (g) (c0)).1)) + (m0)).toNat)) hx hb hr (fun t ht hW => ⟨⟨iL (((x).2 28) ((((31 : Int)) * ((F_m_next (x) (g) (c0)).1)) + (m0)).toNat), x, rfl, ⟨(by have h9 := congrArg (fun z : Int × MS => iL z.1) hres; exact h9), (by have h9 := congrArg (fun z : Int × MS => z.2) hres; exact h9)⟩, by rw [ht]; exact hP, va_K.moved hW.alike hK, hD⟩, hS.F ht⟩) hS.2.2 dX12_onward_31
    · skip
      rw [if_pos c_12] at hres
      refine lv_lconst (v := iL 0) hx hb dX12_onward_15 (by decide) ?_
      refine lv_goto (tgt := 31) hx hb dX12_onward_16 (by decide) ?_
      exact W.lret (v := iL ((0 : Int))) hx hb hr (fun t ht hW => ⟨⟨iL ((0 : Int)), x, rfl, ⟨(by have h9 := congrArg (fun z : Int × MS => iL z.1) hres; exact h9), (by have h9 := congrArg (fun z : Int × MS => z.2) hres; exact h9)⟩, by rw [ht]; exact hP, va_K.moved hW.alike hK, hD⟩, hS.F ht⟩) hS.2.2 dX12_onward_31
  exact key _ _ hP hS
theorem F_m_onward_fr (x : MS) (g : Int) (c0 : Int) (m0 : Int) : same [] [] x (F_m_onward (x) (g) (c0) (m0)).2 := by
  unfold F_m_onward
  by_cases hc : ((F_m_next (x) (g) (c0)).1) = ((-9 : Int))
  · rw [if_pos hc]
    exact (sm_rf _ _ _)
  · rw [if_neg hc]
    exact (sm_rf _ _ _)
theorem F_m_onward_2 (x : MS) (g : Int) (c0 : Int) (m0 : Int) : (F_m_onward (x) (g) (c0) (m0)).2 = x := sm_nil (F_m_onward_fr x g c0 m0)
def F_m_isMachine (x : MS)  : Int × MS := (if ((x).1 6) = ((-9 : Int)) then ((0 : Int), x) else (if ((x).1 27) = (0) then ((0 : Int), x) else ((1 : Int), x)))
set_option maxHeartbeats 4000000 in
set_option maxRecDepth 100000 in
/-- isMachine -/
theorem c_m_isMachine (l : Launch) (dC : Nat → ClassId) (dI : Nat → Nat → Nat) (h : Nat) (ad : Nat → Nat) (cI cJ cZ : ClassId) (sz : Nat) (x : MS)  (sn : iR (x.1 6)) (ic : x.1 27 = 0 ∨ x.1 27 = 1) : Met l yX12_isMachine wsX12_isMachine ({ frames := 0, cells := 0, slots := 0, locals := 0 }) (mPc dC dI h ad cI cJ cZ sz x [.ref h]) (va_Qi (fun (r : Int32) (u : MS) => r = iI (F_m_isMachine (x)).1 ∧ u = (F_m_isMachine (x)).2) (mAt dC dI h ad cI cJ cZ (va_A (mW h ad cI cJ cZ (x)) sz)) (va_A (mW h ad cI cJ cZ (x)) sz)) 0 0 (va_A (mW h ad cI cJ cZ (x)) sz) := by
  refine Met.ofW (cc := cX12_isMachine) (maxL := 1) (ret := (some .boolean)) (by decide) rfl ?_
  intro p e s m args below meth c s₁ B hml hv
  obtain ⟨rfl, hsz, hP, hK, hD0⟩ := hv
  have hx := B.exec
  have hb := B.bytes
  have hr := B.returns
  have hts := atoms_spec (ws := wsX12_isMachine) B.pre
  have hown : s.vm.findClass RX12 = some m.cls := findClass_of_methodNamed B.named
  have hlocks := B.notSynchronized
  have hin : ∀ w ∈ u_ws RX12 TX12 34, w ∈ wsX12_isMachine := by decide +kernel
  subst hsz
  have hD := hD0.self (sz := s.heap.size)
  generalize hAe : va_A (mW h ad cI cJ cZ (x)) s.heap.size = A at hD ⊢
  have hA : ∀ q : Nat, s.heap.size ≤ q → A q := fun q h => by rw [← hAe]; exact Or.inr h
  have hS : va_S A s.heap s.heap [] := va_S.rf
  have hl := lv_entry ([.ref h]) (n := 1) (Nat.le_of_ble_eq_true rfl)
  rw [lg_entry_eq]
  generalize (lg_sl ([.ref h]) ++ List.replicate (1 - (lg_sl ([.ref h])).length) Slot.unset).toArray = ls at hl ⊢
  have hl : lv_has ls 1 [(0, .ref (h))] := hl
  have key : ∀ (H : Heap) (locs : List Loc), va_P (dC, dI) vwCl (mW h ad cI cJ cZ (x)) H → va_S A s.heap H locs → W p l e (headSpec wsX12_isMachine ({ frames := 0, cells := 0, slots := 0, locals := 0 })).room s m ([.ref h] : List Value).toArray below meth c H locs 0 0 (MQ below (va_Qi (fun (r : Int32) (u : MS) => r = iI (F_m_isMachine (x)).1 ∧ u = (F_m_isMachine (x)).2) (mAt dC dI h ad cI cJ cZ A) A) ([.ref h] : List Value).toArray s 0 0 A) (F0 m 0 ls []) := by
    intro H locs hP hS
    have hres : (if ((x).1 6) = ((-9 : Int)) then ((0 : Int), x) else (if ((x).1 27) = (0) then ((0 : Int), x) else ((1 : Int), x))) = F_m_isMachine (x) := rfl
    refine lv_aload_n hx hb dX12_isMachine_0 rfl (lv_at hl 0 rfl) ?_
    refine va_get (D := (dC, dI)) (ci := 12) (v := .int (iI ((x).1 6))) (C := RX12) (T := TX12) (N := 34) hx hb hts hin hown hK hP 0 rfl rfl 6 (by decide) (hts (.fieldLink RX12 26 "LikeWordsModel" "seen" "I") (by decide +kernel)) (fun _ h9 => h9) rfl dX12_isMachine_1 ?_
    refine lv_bipush (v := iI (-9 : Int)) hx hb dX12_isMachine_4 (by decide) ?_
    refine wi_icmp_eq (tgt := 20) hx hb (by first | assumption | (unfold iR; omega) | exact F_R01 (by assumption)) ⟨by decide, by decide⟩ dX12_isMachine_6 (by decide) (fun c_6 => ?_) (fun c_6 => ?_)
    · skip
      rw [if_pos c_6] at hres
      refine lv_iconst (v := iI (0 : Int)) hx hb dX12_isMachine_20 (by decide) ?_
      exact W.zret (v := iI ((0 : Int))) hx hb hr (by rfl) (fun t ht hW => ⟨⟨iI ((0 : Int)), x, rfl, ⟨(by have h9 := congrArg (fun z : Int × MS => iI z.1) hres; exact h9), (by have h9 := congrArg (fun z : Int × MS => z.2) hres; exact h9)⟩, by rw [ht]; exact hP, va_K.moved hW.alike hK, hD⟩, hS.F ht⟩) hS.2.2 dX12_isMachine_21
    · skip
      rw [if_neg c_6] at hres
      refine lv_aload_n hx hb dX12_isMachine_9 rfl (lv_at hl 0 rfl) ?_
      refine va_get (D := (dC, dI)) (ci := 12) (v := .int (iI ((x).1 27))) (C := RX12) (T := TX12) (N := 34) hx hb hts hin hown hK hP 0 rfl rfl 27 (by decide) (hts (.fieldLink RX12 215 "LikeWordsModel" "isClosed" "Z") (by decide +kernel)) (fun _ h9 => h9) rfl dX12_isMachine_10 ?_
      refine wi_if_eq (tgt := 20) hx hb (by first | assumption | (unfold iR; omega) | exact F_R01 (by assumption)) dX12_isMachine_13 (by decide) (fun c_13 => ?_) (fun c_13 => ?_)
      · skip
        rw [if_pos c_13] at hres
        refine lv_iconst (v := iI (0 : Int)) hx hb dX12_isMachine_20 (by decide) ?_
        exact W.zret (v := iI ((0 : Int))) hx hb hr (by rfl) (fun t ht hW => ⟨⟨iI ((0 : Int)), x, rfl, ⟨(by have h9 := congrArg (fun z : Int × MS => iI z.1) hres; exact h9), (by have h9 := congrArg (fun z : Int × MS => z.2) hres; exact h9)⟩, by rw [ht]; exact hP, va_K.moved hW.alike hK, hD⟩, hS.F ht⟩) hS.2.2 dX12_isMachine_21
      · skip
        rw [if_neg c_13] at hres
        refine lv_iconst (v := iI (1 : Int)) hx hb dX12_isMachine_16 (by decide) ?_
        refine lv_goto (tgt := 21) hx hb dX12_isMachine_17 (by decide) ?_
        exact W.zret (v := iI ((1 : Int))) hx hb hr (by rfl) (fun t ht hW => ⟨⟨iI ((1 : Int)), x, rfl, ⟨(by have h9 := congrArg (fun z : Int × MS => iI z.1) hres; exact h9), (by have h9 := congrArg (fun z : Int × MS => z.2) hres; exact h9)⟩, by rw [ht]; exact hP, va_K.moved hW.alike hK, hD⟩, hS.F ht⟩) hS.2.2 dX12_isMachine_21
  exact key _ _ hP hS
theorem F_m_isMachine_fr (x : MS)  : same [] [] x (F_m_isMachine (x)).2 := by
  unfold F_m_isMachine
  by_cases hc : ((x).1 6) = ((-9 : Int))
  · rw [if_pos hc]
    exact (sm_rf _ _ _)
  · rw [if_neg hc]
    by_cases hc : ((x).1 27) = (0)
    · rw [if_pos hc]
      exact (sm_rf _ _ _)
    · rw [if_neg hc]
      exact (sm_rf _ _ _)
theorem F_m_isMachine_2 (x : MS)  : (F_m_isMachine (x)).2 = x := sm_nil (F_m_isMachine_fr x)
theorem F_m_isLeast_01 (x : MS) (w : Int) : (F_m_isLeast x w).1 = 0 ∨ (F_m_isLeast x w).1 = 1 := by unfold F_m_isLeast; split <;> simp
theorem F_m_isMachine_01 (x : MS) : (F_m_isMachine x).1 = 0 ∨ (F_m_isMachine x).1 = 1 := by unfold F_m_isMachine; split <;> (try split) <;> simp
def F_m_states (x : MS)  : Int × MS := (if ((F_m_isMachine (x)).1) = (0) then ((-3 : Int), x) else ((x).1 24, x))
set_option maxHeartbeats 4000000 in
set_option maxRecDepth 100000 in
/-- states -/
theorem c_m_states (l : Launch) (dC : Nat → ClassId) (dI : Nat → Nat → Nat) (h : Nat) (ad : Nat → Nat) (cI cJ cZ : ClassId) (sz : Nat) (x : MS)  (sn : iR (x.1 6)) (ic : x.1 27 = 0 ∨ x.1 27 = 1) : Met l yX12_states wsX12_states ({ frames := 1, cells := 0, slots := 0, locals := 20 }) (mPc dC dI h ad cI cJ cZ sz x [.ref h]) (va_Qi (fun (r : Int32) (u : MS) => r = iI (F_m_states (x)).1 ∧ u = (F_m_states (x)).2) (mAt dC dI h ad cI cJ cZ (va_A (mW h ad cI cJ cZ (x)) sz)) (va_A (mW h ad cI cJ cZ (x)) sz)) 0 0 (va_A (mW h ad cI cJ cZ (x)) sz) := by
  refine Met.ofW (cc := cX12_states) (maxL := 1) (ret := (some .int)) (by decide) rfl ?_
  intro p e s m args below meth c s₁ B hml hv
  obtain ⟨rfl, hsz, hP, hK, hD0⟩ := hv
  have hx := B.exec
  have hb := B.bytes
  have hr := B.returns
  have hts := atoms_spec (ws := wsX12_states) B.pre
  have hown : s.vm.findClass RX12 = some m.cls := findClass_of_methodNamed B.named
  have hlocks := B.notSynchronized
  have hin : ∀ w ∈ u_ws RX12 TX12 34, w ∈ wsX12_states := by decide +kernel
  subst hsz
  have hD := hD0.self (sz := s.heap.size)
  generalize hAe : va_A (mW h ad cI cJ cZ (x)) s.heap.size = A at hD ⊢
  have hA : ∀ q : Nat, s.heap.size ≤ q → A q := fun q h => by rw [← hAe]; exact Or.inr h
  have hS : va_S A s.heap s.heap [] := va_S.rf
  have hl := lv_entry ([.ref h]) (n := 1) (Nat.le_of_ble_eq_true rfl)
  rw [lg_entry_eq]
  generalize (lg_sl ([.ref h]) ++ List.replicate (1 - (lg_sl ([.ref h])).length) Slot.unset).toArray = ls at hl ⊢
  have hl : lv_has ls 1 [(0, .ref (h))] := hl
  have key : ∀ (H : Heap) (locs : List Loc), va_P (dC, dI) vwCl (mW h ad cI cJ cZ (x)) H → va_S A s.heap H locs → W p l e (headSpec wsX12_states ({ frames := 1, cells := 0, slots := 0, locals := 20 })).room s m ([.ref h] : List Value).toArray below meth c H locs 0 0 (MQ below (va_Qi (fun (r : Int32) (u : MS) => r = iI (F_m_states (x)).1 ∧ u = (F_m_states (x)).2) (mAt dC dI h ad cI cJ cZ A) A) ([.ref h] : List Value).toArray s 0 0 A) (F0 m 0 ls []) := by
    intro H locs hP hS
    have hres : (if ((F_m_isMachine (x)).1) = (0) then ((-3 : Int), x) else ((x).1 24, x)) = F_m_states (x) := rfl
    refine lv_aload_n hx hb dX12_states_0 rfl (lv_at hl 0 rfl) ?_
    have hFc : ∀ q, va_A (mW h ad cI cJ cZ (x)) H.size q → A q := fun q hq => Or.elim hq (fun ⟨k, e, hk⟩ => hD.2 k (q, e) hk) (fun hk => hA q (Nat.le_trans hS.1 hk))
    refine va_calli (va_runV (As := []) (rest := []) ⟨hx, hb, hml, hown, hts⟩ (c_m_isMachine l dC dI h ad cI cJ cZ H.size (x)  (by first | assumption | exact iR_L (by assumption) | exact ⟨by decide, by decide⟩ | omega | (unfold iR; omega) | (unfold iRL; omega)) (by first | assumption | exact iR_L (by assumption) | exact ⟨by decide, by decide⟩ | omega | (unfold iR; omega) | (unfold iRL; omega))) (cwV 0 hts gX12_states_X12_isMachine rfl rfl rfl (by decide +kernel) ⟨Nat.le_of_ble_eq_true rfl, Nat.le_of_ble_eq_true rfl⟩) ⟨fun a U g mk q => by obtain ⟨q0, q1, qP, qK, qD⟩ := q; exact ⟨q0, q1, qP, va_K.moved (u := U) (U := U.calling g mk a) (Vm.Alike.refl U.vm) qK, qD⟩, va_recv hK hP (ci := 12) (q0 := 0) rfl rfl, fun U hU hW => ⟨rfl, by rw [hU], by rw [hU]; exact hP, va_K.moved hW.alike hK, hD.weaken (fun _ _ _ _ => trivial)⟩⟩ rfl rfl hl.1 rfl (lv_room (Nat.le_of_ble_eq_true rfl)) dX12_states_1 ⟨Nat.le_of_ble_eq_true rfl, Nat.le_of_ble_eq_true rfl⟩) hS (fun q _ h => hFc q h) hFc (fun r9 u9 t H1 locs ht hvm hw hB hz1 hk1 hS => ?_)
    obtain ⟨hP1, hK1, hD1⟩ := hB
    rw [ht] at hP1
    obtain ⟨hw1, hw2⟩ := hw
    rw [hw2] at hP1 hD1
    rw [hw1]
    rw [F_m_isMachine_2] at hP1 hD1
    have hD2 := hD1.weaken (B := A) (fun _ q _ h => hFc q.1 h)
    have hP := hP1
    have hD := hD2
    generalize H1 = H at hP hS ⊢
    refine wi_if_eq (tgt := 14) hx hb (F_R01 (F_m_isMachine_01 x)) dX12_states_4 (by decide) (fun c_4 => ?_) (fun c_4 => ?_)
    · skip
      rw [if_pos c_4] at hres
      refine lv_bipush (v := iI (-3 : Int)) hx hb dX12_states_14 (by decide) ?_
      exact W.iret (v := iI ((-3 : Int))) hx hb hr (fun t ht hW => ⟨⟨iI ((-3 : Int)), x, rfl, ⟨(by have h9 := congrArg (fun z : Int × MS => iI z.1) hres; exact h9), (by have h9 := congrArg (fun z : Int × MS => z.2) hres; exact h9)⟩, by rw [ht]; exact hP, va_K.moved hW.alike hK, hD⟩, hS.F ht⟩) hS.2.2 dX12_states_16
    · skip
      rw [if_neg c_4] at hres
      refine lv_aload_n hx hb dX12_states_7 rfl (lv_at hl 0 rfl) ?_
      refine va_get (D := (dC, dI)) (ci := 12) (v := .int (iI ((x).1 24))) (C := RX12) (T := TX12) (N := 34) hx hb hts hin hown hK hP 0 rfl rfl 24 (by decide) (hts (.fieldLink RX12 164 "LikeWordsModel" "states" "I") (by decide +kernel)) (fun _ h9 => h9) rfl dX12_states_8 ?_
      refine lv_goto (tgt := 16) hx hb dX12_states_11 (by decide) ?_
      exact W.iret (v := iI ((x).1 24)) hx hb hr (fun t ht hW => ⟨⟨iI ((x).1 24), x, rfl, ⟨(by have h9 := congrArg (fun z : Int × MS => iI z.1) hres; exact h9), (by have h9 := congrArg (fun z : Int × MS => z.2) hres; exact h9)⟩, by rw [ht]; exact hP, va_K.moved hW.alike hK, hD⟩, hS.F ht⟩) hS.2.2 dX12_states_16
  exact key _ _ hP hS
theorem F_m_states_fr (x : MS)  : same [] [] x (F_m_states (x)).2 := by
  unfold F_m_states
  by_cases hc : ((F_m_isMachine (x)).1) = (0)
  · rw [if_pos hc]
    exact (sm_rf _ _ _)
  · rw [if_neg hc]
    exact (sm_rf _ _ _)
theorem F_m_states_2 (x : MS)  : (F_m_states (x)).2 = x := sm_nil (F_m_states_fr x)
def F_m_closed (x : MS)  : Int × MS := (if ((x).1 6) = ((-9 : Int)) then ((-3 : Int), x) else (if ((x).1 27) = (0) then ((0 : Int), x) else ((1 : Int), x)))
set_option maxHeartbeats 4000000 in
set_option maxRecDepth 100000 in
/-- closed -/
theorem c_m_closed (l : Launch) (dC : Nat → ClassId) (dI : Nat → Nat → Nat) (h : Nat) (ad : Nat → Nat) (cI cJ cZ : ClassId) (sz : Nat) (x : MS)  (sn : iR (x.1 6)) (ic : x.1 27 = 0 ∨ x.1 27 = 1) : Met l yX12_closed wsX12_closed ({ frames := 0, cells := 0, slots := 0, locals := 0 }) (mPc dC dI h ad cI cJ cZ sz x [.ref h]) (va_Qi (fun (r : Int32) (u : MS) => r = iI (F_m_closed (x)).1 ∧ u = (F_m_closed (x)).2) (mAt dC dI h ad cI cJ cZ (va_A (mW h ad cI cJ cZ (x)) sz)) (va_A (mW h ad cI cJ cZ (x)) sz)) 0 0 (va_A (mW h ad cI cJ cZ (x)) sz) := by
  refine Met.ofW (cc := cX12_closed) (maxL := 1) (ret := (some .int)) (by decide) rfl ?_
  intro p e s m args below meth c s₁ B hml hv
  obtain ⟨rfl, hsz, hP, hK, hD0⟩ := hv
  have hx := B.exec
  have hb := B.bytes
  have hr := B.returns
  have hts := atoms_spec (ws := wsX12_closed) B.pre
  have hown : s.vm.findClass RX12 = some m.cls := findClass_of_methodNamed B.named
  have hlocks := B.notSynchronized
  have hin : ∀ w ∈ u_ws RX12 TX12 34, w ∈ wsX12_closed := by decide +kernel
  subst hsz
  have hD := hD0.self (sz := s.heap.size)
  generalize hAe : va_A (mW h ad cI cJ cZ (x)) s.heap.size = A at hD ⊢
  have hA : ∀ q : Nat, s.heap.size ≤ q → A q := fun q h => by rw [← hAe]; exact Or.inr h
  have hS : va_S A s.heap s.heap [] := va_S.rf
  have hl := lv_entry ([.ref h]) (n := 1) (Nat.le_of_ble_eq_true rfl)
  rw [lg_entry_eq]
  generalize (lg_sl ([.ref h]) ++ List.replicate (1 - (lg_sl ([.ref h])).length) Slot.unset).toArray = ls at hl ⊢
  have hl : lv_has ls 1 [(0, .ref (h))] := hl
  have key : ∀ (H : Heap) (locs : List Loc), va_P (dC, dI) vwCl (mW h ad cI cJ cZ (x)) H → va_S A s.heap H locs → W p l e (headSpec wsX12_closed ({ frames := 0, cells := 0, slots := 0, locals := 0 })).room s m ([.ref h] : List Value).toArray below meth c H locs 0 0 (MQ below (va_Qi (fun (r : Int32) (u : MS) => r = iI (F_m_closed (x)).1 ∧ u = (F_m_closed (x)).2) (mAt dC dI h ad cI cJ cZ A) A) ([.ref h] : List Value).toArray s 0 0 A) (F0 m 0 ls []) := by
    intro H locs hP hS
    have hres : (if ((x).1 6) = ((-9 : Int)) then ((-3 : Int), x) else (if ((x).1 27) = (0) then ((0 : Int), x) else ((1 : Int), x))) = F_m_closed (x) := rfl
    refine lv_aload_n hx hb dX12_closed_0 rfl (lv_at hl 0 rfl) ?_
    refine va_get (D := (dC, dI)) (ci := 12) (v := .int (iI ((x).1 6))) (C := RX12) (T := TX12) (N := 34) hx hb hts hin hown hK hP 0 rfl rfl 6 (by decide) (hts (.fieldLink RX12 26 "LikeWordsModel" "seen" "I") (by decide +kernel)) (fun _ h9 => h9) rfl dX12_closed_1 ?_
    refine lv_bipush (v := iI (-9 : Int)) hx hb dX12_closed_4 (by decide) ?_
    refine wi_icmp_ne (tgt := 14) hx hb (by first | assumption | (unfold iR; omega) | exact F_R01 (by assumption)) ⟨by decide, by decide⟩ dX12_closed_6 (by decide) (fun c_6 => ?_) (fun c_6 => ?_)
    · skip
      rw [if_neg c_6] at hres
      refine lv_aload_n hx hb dX12_closed_14 rfl (lv_at hl 0 rfl) ?_
      refine va_get (D := (dC, dI)) (ci := 12) (v := .int (iI ((x).1 27))) (C := RX12) (T := TX12) (N := 34) hx hb hts hin hown hK hP 0 rfl rfl 27 (by decide) (hts (.fieldLink RX12 215 "LikeWordsModel" "isClosed" "Z") (by decide +kernel)) (fun _ h9 => h9) rfl dX12_closed_15 ?_
      refine wi_if_eq (tgt := 25) hx hb (by first | assumption | (unfold iR; omega) | exact F_R01 (by assumption)) dX12_closed_18 (by decide) (fun c_18 => ?_) (fun c_18 => ?_)
      · skip
        rw [if_pos c_18] at hres
        refine lv_iconst (v := iI (0 : Int)) hx hb dX12_closed_25 (by decide) ?_
        exact W.iret (v := iI ((0 : Int))) hx hb hr (fun t ht hW => ⟨⟨iI ((0 : Int)), x, rfl, ⟨(by have h9 := congrArg (fun z : Int × MS => iI z.1) hres; exact h9), (by have h9 := congrArg (fun z : Int × MS => z.2) hres; exact h9)⟩, by rw [ht]; exact hP, va_K.moved hW.alike hK, hD⟩, hS.F ht⟩) hS.2.2 dX12_closed_26
      · skip
        rw [if_neg c_18] at hres
        refine lv_iconst (v := iI (1 : Int)) hx hb dX12_closed_21 (by decide) ?_
        refine lv_goto (tgt := 26) hx hb dX12_closed_22 (by decide) ?_
        exact W.iret (v := iI ((1 : Int))) hx hb hr (fun t ht hW => ⟨⟨iI ((1 : Int)), x, rfl, ⟨(by have h9 := congrArg (fun z : Int × MS => iI z.1) hres; exact h9), (by have h9 := congrArg (fun z : Int × MS => z.2) hres; exact h9)⟩, by rw [ht]; exact hP, va_K.moved hW.alike hK, hD⟩, hS.F ht⟩) hS.2.2 dX12_closed_26
    · skip
      rw [if_pos c_6] at hres
      refine lv_bipush (v := iI (-3 : Int)) hx hb dX12_closed_9 (by decide) ?_
      refine lv_goto (tgt := 26) hx hb dX12_closed_11 (by decide) ?_
      exact W.iret (v := iI ((-3 : Int))) hx hb hr (fun t ht hW => ⟨⟨iI ((-3 : Int)), x, rfl, ⟨(by have h9 := congrArg (fun z : Int × MS => iI z.1) hres; exact h9), (by have h9 := congrArg (fun z : Int × MS => z.2) hres; exact h9)⟩, by rw [ht]; exact hP, va_K.moved hW.alike hK, hD⟩, hS.F ht⟩) hS.2.2 dX12_closed_26
  exact key _ _ hP hS
theorem F_m_closed_fr (x : MS)  : same [] [] x (F_m_closed (x)).2 := by
  unfold F_m_closed
  by_cases hc : ((x).1 6) = ((-9 : Int))
  · rw [if_pos hc]
    exact (sm_rf _ _ _)
  · rw [if_neg hc]
    by_cases hc : ((x).1 27) = (0)
    · rw [if_pos hc]
      exact (sm_rf _ _ _)
    · rw [if_neg hc]
      exact (sm_rf _ _ _)
theorem F_m_closed_2 (x : MS)  : (F_m_closed (x)).2 = x := sm_nil (F_m_closed_fr x)
def F_m_count (x : MS) (g : Int) : Int × MS := (if ((F_m_in (x) (g) ((0 : Int)) ((30 : Int))).1) = (0) then ((-2 : Int), x) else (if ((F_m_isMachine (x)).1) = (0) then ((-3 : Int), x) else (((x).2 28) (g).toNat, x)))
set_option maxHeartbeats 4000000 in
set_option maxRecDepth 100000 in
/-- count -/
theorem c_m_count (l : Launch) (dC : Nat → ClassId) (dI : Nat → Nat → Nat) (h : Nat) (ad : Nat → Nat) (cI cJ cZ : ClassId) (sz : Nat) (x : MS) (g : Int) (sn : iR (x.1 6)) (ic : x.1 27 = 0 ∨ x.1 27 = 1) (rg : iR g) : Met l yX12_count wsX12_count ({ frames := 1, cells := 0, slots := 0, locals := 25 }) (mPc dC dI h ad cI cJ cZ sz x [.ref h, .int (iI g)]) (va_Ql (fun (r : Int64) (u : MS) => r = iL (F_m_count (x) (g)).1 ∧ u = (F_m_count (x) (g)).2) (mAt dC dI h ad cI cJ cZ (va_A (mW h ad cI cJ cZ (x)) sz)) (va_A (mW h ad cI cJ cZ (x)) sz)) 0 0 (va_A (mW h ad cI cJ cZ (x)) sz) := by
  refine Met.ofW (cc := cX12_count) (maxL := 2) (ret := (some .long)) (by decide) rfl ?_
  intro p e s m args below meth c s₁ B hml hv
  obtain ⟨rfl, hsz, hP, hK, hD0⟩ := hv
  have hx := B.exec
  have hb := B.bytes
  have hr := B.returns
  have hts := atoms_spec (ws := wsX12_count) B.pre
  have hown : s.vm.findClass RX12 = some m.cls := findClass_of_methodNamed B.named
  have hlocks := B.notSynchronized
  have hin : ∀ w ∈ u_ws RX12 TX12 34, w ∈ wsX12_count := by decide +kernel
  subst hsz
  have hD := hD0.self (sz := s.heap.size)
  generalize hAe : va_A (mW h ad cI cJ cZ (x)) s.heap.size = A at hD ⊢
  have hA : ∀ q : Nat, s.heap.size ≤ q → A q := fun q h => by rw [← hAe]; exact Or.inr h
  have hS : va_S A s.heap s.heap [] := va_S.rf
  have hl := lv_entry ([.ref h, .int (iI g)]) (n := 2) (Nat.le_of_ble_eq_true rfl)
  rw [lg_entry_eq]
  generalize (lg_sl ([.ref h, .int (iI g)]) ++ List.replicate (2 - (lg_sl ([.ref h, .int (iI g)])).length) Slot.unset).toArray = ls at hl ⊢
  have hl : lv_has ls 2 [(0, .ref (h)), (1, .int (iI (g)))] := hl
  have key : ∀ (H : Heap) (locs : List Loc), va_P (dC, dI) vwCl (mW h ad cI cJ cZ (x)) H → va_S A s.heap H locs → W p l e (headSpec wsX12_count ({ frames := 1, cells := 0, slots := 0, locals := 25 })).room s m ([.ref h, .int (iI g)] : List Value).toArray below meth c H locs 0 0 (MQ below (va_Ql (fun (r : Int64) (u : MS) => r = iL (F_m_count (x) (g)).1 ∧ u = (F_m_count (x) (g)).2) (mAt dC dI h ad cI cJ cZ A) A) ([.ref h, .int (iI g)] : List Value).toArray s 0 0 A) (F0 m 0 ls []) := by
    intro H locs hP hS
    have hres : (if ((F_m_in (x) (g) ((0 : Int)) ((30 : Int))).1) = (0) then ((-2 : Int), x) else (if ((F_m_isMachine (x)).1) = (0) then ((-3 : Int), x) else (((x).2 28) (g).toNat, x))) = F_m_count (x) (g) := rfl
    refine lv_iload_n hx hb dX12_count_0 rfl (lv_at hl 1 rfl) ?_
    refine wi_i2l hx hb rg dX12_count_1 ?_
    refine lv_lconst (v := iL 0) hx hb dX12_count_2 (by decide) ?_
    refine lv_ldc2 (v := iL (30 : Int)) hx hb hown (hts (.constantLong RX12 232 (30)) (by decide +kernel)) dX12_count_3 ?_
    have hFc : ∀ q, va_A (mW h ad cI cJ cZ (x)) H.size q → A q := fun q hq => Or.elim hq (fun ⟨k, e, hk⟩ => hD.2 k (q, e) hk) (fun hk => hA q (Nat.le_trans hS.1 hk))
    refine va_calli (va_runS (As := [.long (iL (g)), .long (iL ((0 : Int))), .long (iL ((30 : Int)))]) (rest := []) ⟨hx, hb, hml, hown, hts⟩ (c_m_in l dC dI h ad cI cJ cZ H.size (x) (g) ((0 : Int)) ((30 : Int)) (iR_L rg) ⟨by decide, by decide⟩ ⟨by decide, by decide⟩) (va_cwS 3 hts gX12_count_X12_in rfl rfl rfl (by decide +kernel) ⟨Nat.le_of_ble_eq_true rfl, Nat.le_of_ble_eq_true rfl⟩) ⟨fun a U g mk q => by obtain ⟨q0, q1, qP, qK, qD⟩ := q; exact ⟨q0, q1, qP, va_K.moved (u := U) (U := U.calling g mk a) (Vm.Alike.refl U.vm) qK, qD⟩, fun U hU hW => ⟨rfl, by rw [hU], by rw [hU]; exact hP, va_K.moved hW.alike hK, hD.weaken (fun _ _ _ _ => trivial)⟩⟩ rfl rfl hl.1 rfl (lv_room (Nat.le_of_ble_eq_true rfl)) dX12_count_6 ⟨Nat.le_of_ble_eq_true rfl, Nat.le_of_ble_eq_true rfl⟩) hS (fun q _ h => hFc q h) hFc (fun r9 u9 t H1 locs ht hvm hw hB hz1 hk1 hS => ?_)
    obtain ⟨hP1, hK1, hD1⟩ := hB
    rw [ht] at hP1
    obtain ⟨hw1, hw2⟩ := hw
    rw [hw2] at hP1 hD1
    rw [hw1]
    rw [F_m_in_2] at hP1 hD1
    have hD2 := hD1.weaken (B := A) (fun _ q _ h => hFc q.1 h)
    have hP := hP1
    have hD := hD2
    generalize H1 = H at hP hS ⊢
    refine wi_if_ne (tgt := 16) hx hb (by rw [F_m_in_1]; exact F_R01 (F_in_01 _ _ _)) dX12_count_9 (by decide) (fun c_9 => ?_) (fun c_9 => ?_)
    · skip
      rw [if_neg c_9] at hres
      rw [F_m_in_1] at c_9
      obtain ⟨g0, g1⟩ := F_in_1 c_9
      refine lv_aload_n hx hb dX12_count_16 rfl (lv_at hl 0 rfl) ?_
      have hFc : ∀ q, va_A (mW h ad cI cJ cZ (x)) H.size q → A q := fun q hq => Or.elim hq (fun ⟨k, e, hk⟩ => hD.2 k (q, e) hk) (fun hk => hA q (Nat.le_trans hS.1 hk))
      refine va_calli (va_runV (As := []) (rest := []) ⟨hx, hb, hml, hown, hts⟩ (c_m_isMachine l dC dI h ad cI cJ cZ H.size (x)  sn ic) (cwV 0 hts gX12_count_X12_isMachine rfl rfl rfl (by decide +kernel) ⟨Nat.le_of_ble_eq_true rfl, Nat.le_of_ble_eq_true rfl⟩) ⟨fun a U g mk q => by obtain ⟨q0, q1, qP, qK, qD⟩ := q; exact ⟨q0, q1, qP, va_K.moved (u := U) (U := U.calling g mk a) (Vm.Alike.refl U.vm) qK, qD⟩, va_recv hK hP (ci := 12) (q0 := 0) rfl rfl, fun U hU hW => ⟨rfl, by rw [hU], by rw [hU]; exact hP, va_K.moved hW.alike hK, hD.weaken (fun _ _ _ _ => trivial)⟩⟩ rfl rfl hl.1 rfl (lv_room (Nat.le_of_ble_eq_true rfl)) dX12_count_17 ⟨Nat.le_of_ble_eq_true rfl, Nat.le_of_ble_eq_true rfl⟩) hS (fun q _ h => hFc q h) hFc (fun r9 u9 t H1 locs ht hvm hw hB hz1 hk1 hS => ?_)
      obtain ⟨hP1, hK1, hD1⟩ := hB
      rw [ht] at hP1
      obtain ⟨hw1, hw2⟩ := hw
      rw [hw2] at hP1 hD1
      rw [hw1]
      rw [F_m_isMachine_2] at hP1 hD1
      have hD2 := hD1.weaken (B := A) (fun _ q _ h => hFc q.1 h)
      have hP := hP1
      have hD := hD2
      generalize H1 = H at hP hS ⊢
      refine wi_if_eq (tgt := 32) hx hb (F_R01 (F_m_isMachine_01 x)) dX12_count_20 (by decide) (fun c_20 => ?_) (fun c_20 => ?_)
      · skip
        rw [if_pos c_20] at hres
        refine lv_ldc2 (v := iL (-3 : Int)) hx hb hown (hts (.constantLong RX12 236 (-3)) (by decide +kernel)) dX12_count_32 ?_
        exact W.lret (v := iL ((-3 : Int))) hx hb hr (fun t ht hW => ⟨⟨iL ((-3 : Int)), x, rfl, ⟨(by have h9 := congrArg (fun z : Int × MS => iL z.1) hres; exact h9), (by have h9 := congrArg (fun z : Int × MS => z.2) hres; exact h9)⟩, by rw [ht]; exact hP, va_K.moved hW.alike hK, hD⟩, hS.F ht⟩) hS.2.2 dX12_count_35
      · skip
        rw [if_neg c_20] at hres
        refine lv_aload_n hx hb dX12_count_23 rfl (lv_at hl 0 rfl) ?_
        refine va_get (D := (dC, dI)) (ci := 12) (v := .ref (ad 28)) (C := RX12) (T := TX12) (N := 34) hx hb hts hin hown hK hP 0 rfl rfl 28 (by decide) (hts (.fieldLink RX12 74 "LikeWordsModel" "way" "[J") (by decide +kernel)) (fun _ h9 => h9) rfl dX12_count_24 ?_
        refine lv_iload_n hx hb dX12_count_27 rfl (lv_at hl 1 rfl) ?_
        refine wi_lald (f := (x).2 28) hx hb hK hP 20 1 rfl rfl (i := g) (by omega) (by omega) (by decide) dX12_count_28 ?_
        refine lv_goto (tgt := 35) hx hb dX12_count_29 (by decide) ?_
        exact W.lret (v := iL (((x).2 28) (g).toNat)) hx hb hr (fun t ht hW => ⟨⟨iL (((x).2 28) (g).toNat), x, rfl, ⟨(by have h9 := congrArg (fun z : Int × MS => iL z.1) hres; exact h9), (by have h9 := congrArg (fun z : Int × MS => z.2) hres; exact h9)⟩, by rw [ht]; exact hP, va_K.moved hW.alike hK, hD⟩, hS.F ht⟩) hS.2.2 dX12_count_35
    · skip
      rw [if_pos c_9] at hres
      refine lv_ldc2 (v := iL (-2 : Int)) hx hb hown (hts (.constantLong RX12 234 (-2)) (by decide +kernel)) dX12_count_12 ?_
      exact W.lret (v := iL ((-2 : Int))) hx hb hr (fun t ht hW => ⟨⟨iL ((-2 : Int)), x, rfl, ⟨(by have h9 := congrArg (fun z : Int × MS => iL z.1) hres; exact h9), (by have h9 := congrArg (fun z : Int × MS => z.2) hres; exact h9)⟩, by rw [ht]; exact hP, va_K.moved hW.alike hK, hD⟩, hS.F ht⟩) hS.2.2 dX12_count_15
  exact key _ _ hP hS
theorem F_m_count_fr (x : MS) (g : Int) : same [] [] x (F_m_count (x) (g)).2 := by
  unfold F_m_count
  by_cases hc : ((F_m_in (x) (g) ((0 : Int)) ((30 : Int))).1) = (0)
  · rw [if_pos hc]
    exact (sm_rf _ _ _)
  · rw [if_neg hc]
    by_cases hc : ((F_m_isMachine (x)).1) = (0)
    · rw [if_pos hc]
      exact (sm_rf _ _ _)
    · rw [if_neg hc]
      exact (sm_rf _ _ _)
theorem F_m_count_2 (x : MS) (g : Int) : (F_m_count (x) (g)).2 = x := sm_nil (F_m_count_fr x g)
def F_m_least_s : Nat → Nat → MS → Int → Int → Int × MS
  | 0, _, x, _, _ => (0, x)
  | n + 1, t, x, p0, p1 => match t with
    | 0 => (fun (q : Int) (w : Int) => (if ((x).1 7) ≤ (w) then (q, x) else (if ((F_m_isLeast (x) (w)).1) = (0) then F_m_least_s n 0 (x) ((q) + ((0 : Int))) ((w) + (1 : Int)) else F_m_least_s n 0 (x) ((q) + ((1 : Int))) ((w) + (1 : Int))))) p0 p1
    | _ => (0, x)
theorem F_m_least_e0 (n : Nat) (x : MS) (q : Int) (w : Int) : F_m_least_s (n + 1) 0 x q w = (if ((x).1 7) ≤ (w) then (q, x) else (if ((F_m_isLeast (x) (w)).1) = (0) then F_m_least_s n 0 (x) ((q) + ((0 : Int))) ((w) + (1 : Int)) else F_m_least_s n 0 (x) ((q) + ((1 : Int))) ((w) + (1 : Int)))) := rfl
def F_m_least (x : MS)  : Int × MS := (if ((x).1 6) = ((-9 : Int)) then ((-3 : Int), x) else F_m_least_s 10010 0 (x) ((0 : Int)) ((0 : Int)))
set_option maxHeartbeats 4000000 in
set_option maxRecDepth 100000 in
/-- least -/
theorem c_m_least (l : Launch) (dC : Nat → ClassId) (dI : Nat → Nat → Nat) (h : Nat) (ad : Nat → Nat) (cI cJ cZ : ClassId) (sz : Nat) (x : MS)  (sn : iR (x.1 6)) (a0 : 0 ≤ x.1 7) (a1 : x.1 7 ≤ 10001) (hj : jOK x) : Met l yX12_least wsX12_least ({ frames := 1, cells := 0, slots := 0, locals := 21 }) (mPc dC dI h ad cI cJ cZ sz x [.ref h]) (va_Qi (fun (r : Int32) (u : MS) => r = iI (F_m_least (x)).1 ∧ u = (F_m_least (x)).2) (mAt dC dI h ad cI cJ cZ (va_A (mW h ad cI cJ cZ (x)) sz)) (va_A (mW h ad cI cJ cZ (x)) sz)) 0 0 (va_A (mW h ad cI cJ cZ (x)) sz) := by
  refine Met.ofW (cc := cX12_least) (maxL := 3) (ret := (some .int)) (by decide) rfl ?_
  intro p e s m args below meth c s₁ B hml hv
  obtain ⟨rfl, hsz, hP, hK, hD0⟩ := hv
  have hx := B.exec
  have hb := B.bytes
  have hr := B.returns
  have hts := atoms_spec (ws := wsX12_least) B.pre
  have hown : s.vm.findClass RX12 = some m.cls := findClass_of_methodNamed B.named
  have hlocks := B.notSynchronized
  have hin : ∀ w ∈ u_ws RX12 TX12 34, w ∈ wsX12_least := by decide +kernel
  subst hsz
  have hD := hD0.self (sz := s.heap.size)
  generalize hAe : va_A (mW h ad cI cJ cZ (x)) s.heap.size = A at hD ⊢
  have hA : ∀ q : Nat, s.heap.size ≤ q → A q := fun q h => by rw [← hAe]; exact Or.inr h
  have hS : va_S A s.heap s.heap [] := va_S.rf
  have hl := lv_entry ([.ref h]) (n := 3) (Nat.le_of_ble_eq_true rfl)
  rw [lg_entry_eq]
  generalize (lg_sl ([.ref h]) ++ List.replicate (3 - (lg_sl ([.ref h])).length) Slot.unset).toArray = ls at hl ⊢
  have hl : lv_has ls 3 [(0, .ref (h))] := hl
  have L : ∀ n : Nat, (∀ (q : Int) (w : Int), (0 ≤ w) → (w ≤ 10001) → (10001 - w < n) → F_m_least_s n 0 x q w = F_m_least (x) → ∀ (H : Heap) (locs : List Loc) (ls : Array Slot), va_P (dC, dI) vwCl (mW h ad cI cJ cZ (x)) H → va_D A (mW h ad cI cJ cZ (x)) → va_S A s.heap H locs → lv_has ls 3 [(0, .ref (h)), (1, .int (iI (q))), (2, .int (iI (w)))] → W p l e (headSpec wsX12_least ({ frames := 1, cells := 0, slots := 0, locals := 21 })).room s m ([.ref h] : List Value).toArray below meth c H locs 0 0 (MQ below (va_Qi (fun (r : Int32) (u : MS) => r = iI (F_m_least (x)).1 ∧ u = (F_m_least (x)).2) (mAt dC dI h ad cI cJ cZ A) A) ([.ref h] : List Value).toArray s 0 0 A) (F0 m 16 ls [])) := by
    intro n
    induction n with
    | zero =>
      skip
      · intro q w w0 w1 fu hres
        exact absurd fu (by omega)
    | succ n ih =>
      skip
      · intro q w w0 w1 fu hres H locs ls hP hD hS hl
        rw [F_m_least_e0] at hres
        refine lv_iload_n hx hb dX12_least_16 rfl (lv_at hl 2 rfl) ?_
        refine lv_aload_n hx hb dX12_least_17 rfl (lv_at hl 0 rfl) ?_
        refine va_get (D := (dC, dI)) (ci := 12) (v := .int (iI ((x).1 7))) (C := RX12) (T := TX12) (N := 34) hx hb hts hin hown hK hP 0 rfl rfl 7 (by decide) (hts (.fieldLink RX12 122 "LikeWordsModel" "all" "I") (by decide +kernel)) (fun _ h9 => h9) rfl dX12_least_18 ?_
        refine wi_icmp_ge (tgt := 46) hx hb (by first | assumption | (unfold iR; omega) | exact F_R01 (by assumption)) (by first | assumption | (unfold iR; omega) | exact F_R01 (by assumption)) dX12_least_21 (by decide) (fun c_21 => ?_) (fun c_21 => ?_)
        · skip
          rw [if_pos c_21] at hres
          refine lv_iload_n hx hb dX12_least_46 rfl (lv_at hl 1 rfl) ?_
          exact W.iret (v := iI (q)) hx hb hr (fun t ht hW => ⟨⟨iI (q), x, rfl, ⟨(by have h9 := congrArg (fun z : Int × MS => iI z.1) hres; exact h9), (by have h9 := congrArg (fun z : Int × MS => z.2) hres; exact h9)⟩, by rw [ht]; exact hP, va_K.moved hW.alike hK, hD⟩, hS.F ht⟩) hS.2.2 dX12_least_47
        · skip
          rw [if_neg c_21] at hres
          refine lv_iload_n hx hb dX12_least_24 rfl (lv_at hl 1 rfl) ?_
          refine lv_aload_n hx hb dX12_least_25 rfl (lv_at hl 0 rfl) ?_
          refine lv_iload_n hx hb dX12_least_26 rfl (lv_at hl 2 rfl) ?_
          have hFc : ∀ q, va_A (mW h ad cI cJ cZ (x)) H.size q → A q := fun q hq => Or.elim hq (fun ⟨k, e, hk⟩ => hD.2 k (q, e) hk) (fun hk => hA q (Nat.le_trans hS.1 hk))
          refine va_calli (va_runV (As := [.int (iI (w))]) (rest := [.int (iI (q))]) ⟨hx, hb, hml, hown, hts⟩ (c_m_isLeast l dC dI h ad cI cJ cZ H.size (x) (w) (by omega) (by omega) (by have := hj w.toNat (by omega); unfold iR; omega)) (cwV 1 hts gX12_least_X12_isLeast rfl rfl rfl (by decide +kernel) ⟨Nat.le_of_ble_eq_true rfl, Nat.le_of_ble_eq_true rfl⟩) ⟨fun a U g mk q => by obtain ⟨q0, q1, qP, qK, qD⟩ := q; exact ⟨q0, q1, qP, va_K.moved (u := U) (U := U.calling g mk a) (Vm.Alike.refl U.vm) qK, qD⟩, va_recv hK hP (ci := 12) (q0 := 0) rfl rfl, fun U hU hW => ⟨rfl, by rw [hU], by rw [hU]; exact hP, va_K.moved hW.alike hK, hD.weaken (fun _ _ _ _ => trivial)⟩⟩ rfl rfl hl.1 rfl (lv_room (Nat.le_of_ble_eq_true rfl)) dX12_least_27 ⟨Nat.le_of_ble_eq_true rfl, Nat.le_of_ble_eq_true rfl⟩) hS (fun q _ h => hFc q h) hFc (fun r9 u9 t H1 locs ht hvm hw hB hz1 hk1 hS => ?_)
          obtain ⟨hP1, hK1, hD1⟩ := hB
          rw [ht] at hP1
          obtain ⟨hw1, hw2⟩ := hw
          rw [hw2] at hP1 hD1
          rw [hw1]
          rw [F_m_isLeast_2] at hP1 hD1
          have hD2 := hD1.weaken (B := A) (fun _ q _ h => hFc q.1 h)
          have hP := hP1
          have hD := hD2
          generalize H1 = H at hP hS ⊢
          refine wi_if_eq (tgt := 37) hx hb (F_R01 (F_m_isLeast_01 _ _)) dX12_least_30 (by decide) (fun c_30 => ?_) (fun c_30 => ?_)
          · skip
            rw [if_pos c_30] at hres
            refine lv_iconst (v := iI (0 : Int)) hx hb dX12_least_37 (by decide) ?_
            refine wi_iadd hx hb dX12_least_38 ?_
            refine lv_istore_n (lv' := [(1, .int (iI ((q) + ((0 : Int))))), (0, .ref (h)), (2, .int (iI (w)))]) hx hb dX12_least_39 rfl hl (by decide) rfl (fun ls hl => ?_)
            refine lv_iinc (v := iI ((w) + (1 : Int))) (lv' := [(2, .int (iI ((w) + (1 : Int)))), (1, .int (iI ((q) + ((0 : Int))))), (0, .ref (h))]) hx hb dX12_least_40 hl (k := 2) rfl (iI_add _ _) (by decide) rfl (fun ls hl => ?_)
            refine lv_goto (tgt := 16) hx hb dX12_least_43 (by decide) ?_
            exact ih  ((q) + ((0 : Int))) ((w) + (1 : Int)) (by omega) (by omega) (by omega) hres _ _ ls hP hD hS (lv_sub hl [2, 1, 0] rfl)
          · skip
            rw [if_neg c_30] at hres
            refine lv_iconst (v := iI (1 : Int)) hx hb dX12_least_33 (by decide) ?_
            refine lv_goto (tgt := 38) hx hb dX12_least_34 (by decide) ?_
            refine wi_iadd hx hb dX12_least_38 ?_
            refine lv_istore_n (lv' := [(1, .int (iI ((q) + ((1 : Int))))), (0, .ref (h)), (2, .int (iI (w)))]) hx hb dX12_least_39 rfl hl (by decide) rfl (fun ls hl => ?_)
            refine lv_iinc (v := iI ((w) + (1 : Int))) (lv' := [(2, .int (iI ((w) + (1 : Int)))), (1, .int (iI ((q) + ((1 : Int))))), (0, .ref (h))]) hx hb dX12_least_40 hl (k := 2) rfl (iI_add _ _) (by decide) rfl (fun ls hl => ?_)
            refine lv_goto (tgt := 16) hx hb dX12_least_43 (by decide) ?_
            exact ih  ((q) + ((1 : Int))) ((w) + (1 : Int)) (by omega) (by omega) (by omega) hres _ _ ls hP hD hS (lv_sub hl [2, 1, 0] rfl)
  have key : ∀ (H : Heap) (locs : List Loc), va_P (dC, dI) vwCl (mW h ad cI cJ cZ (x)) H → va_S A s.heap H locs → W p l e (headSpec wsX12_least ({ frames := 1, cells := 0, slots := 0, locals := 21 })).room s m ([.ref h] : List Value).toArray below meth c H locs 0 0 (MQ below (va_Qi (fun (r : Int32) (u : MS) => r = iI (F_m_least (x)).1 ∧ u = (F_m_least (x)).2) (mAt dC dI h ad cI cJ cZ A) A) ([.ref h] : List Value).toArray s 0 0 A) (F0 m 0 ls []) := by
    intro H locs hP hS
    have hres : (if ((x).1 6) = ((-9 : Int)) then ((-3 : Int), x) else F_m_least_s 10010 0 (x) ((0 : Int)) ((0 : Int))) = F_m_least (x) := rfl
    refine lv_aload_n hx hb dX12_least_0 rfl (lv_at hl 0 rfl) ?_
    refine va_get (D := (dC, dI)) (ci := 12) (v := .int (iI ((x).1 6))) (C := RX12) (T := TX12) (N := 34) hx hb hts hin hown hK hP 0 rfl rfl 6 (by decide) (hts (.fieldLink RX12 26 "LikeWordsModel" "seen" "I") (by decide +kernel)) (fun _ h9 => h9) rfl dX12_least_1 ?_
    refine lv_bipush (v := iI (-9 : Int)) hx hb dX12_least_4 (by decide) ?_
    refine wi_icmp_ne (tgt := 12) hx hb (by first | assumption | (unfold iR; omega) | exact F_R01 (by assumption)) ⟨by decide, by decide⟩ dX12_least_6 (by decide) (fun c_6 => ?_) (fun c_6 => ?_)
    · skip
      rw [if_neg c_6] at hres
      refine lv_iconst (v := iI (0 : Int)) hx hb dX12_least_12 (by decide) ?_
      refine lv_istore_n (lv' := [(1, .int (iI ((0 : Int)))), (0, .ref (h))]) hx hb dX12_least_13 rfl hl (by decide) rfl (fun ls hl => ?_)
      refine lv_iconst (v := iI (0 : Int)) hx hb dX12_least_14 (by decide) ?_
      refine lv_istore_n (lv' := [(2, .int (iI ((0 : Int)))), (1, .int (iI ((0 : Int)))), (0, .ref (h))]) hx hb dX12_least_15 rfl hl (by decide) rfl (fun ls hl => ?_)
      exact (L (10010))  ((0 : Int)) ((0 : Int)) (by omega) (by omega) (by omega) hres _ _ ls hP hD hS (lv_sub hl [2, 1, 0] rfl)
    · skip
      rw [if_pos c_6] at hres
      refine lv_bipush (v := iI (-3 : Int)) hx hb dX12_least_9 (by decide) ?_
      exact W.iret (v := iI ((-3 : Int))) hx hb hr (fun t ht hW => ⟨⟨iI ((-3 : Int)), x, rfl, ⟨(by have h9 := congrArg (fun z : Int × MS => iI z.1) hres; exact h9), (by have h9 := congrArg (fun z : Int × MS => z.2) hres; exact h9)⟩, by rw [ht]; exact hP, va_K.moved hW.alike hK, hD⟩, hS.F ht⟩) hS.2.2 dX12_least_11
  exact key _ _ hP hS
theorem F_m_least_sfr : ∀ n : Nat, (∀ (y : MS) (v0 : Int) (v1 : Int), same [] [] y (F_m_least_s n 0 y v0 v1).2) := by
  intro n
  induction n with
  | zero => exact fun y _ _ => sm_rf _ _ _
  | succ n ih =>
    skip
    · intro y q w
      rw [F_m_least_e0]
      by_cases hc : ((y).1 7) ≤ (w)
      · rw [if_pos hc]
        exact (sm_rf _ _ _)
      · rw [if_neg hc]
        by_cases hc : ((F_m_isLeast (y) (w)).1) = (0)
        · rw [if_pos hc]
          exact sm_tr ((sm_rf _ _ _)) (ih (y) ((q) + ((0 : Int))) ((w) + (1 : Int)))
        · rw [if_neg hc]
          exact sm_tr ((sm_rf _ _ _)) (ih (y) ((q) + ((1 : Int))) ((w) + (1 : Int)))
theorem F_m_least_fr (x : MS)  : same [] [] x (F_m_least (x)).2 := by
  unfold F_m_least
  by_cases hc : ((x).1 6) = ((-9 : Int))
  · rw [if_pos hc]
    exact (sm_rf _ _ _)
  · rw [if_neg hc]
    exact sm_tr ((sm_rf _ _ _)) ((F_m_least_sfr 10010) (x) ((0 : Int)) ((0 : Int)))
theorem F_m_least_2 (x : MS)  : (F_m_least (x)).2 = x := sm_nil (F_m_least_fr x)
def F_m_keepMade_s : Nat → Nat → MS → Int → Int × MS
  | 0, _, x, _ => (0, x)
  | n + 1, t, x, p0 => match t with
    | 0 => (fun (i : Int) => (if (((x).2 1) ((9 : Int)).toNat) ≤ (i) then (0, sU (x) 31 (((x).1 31) + ((1 : Int)))) else F_m_keepMade_s n 0 (aU (x) 33 ((((60 : Int)) * ((x).1 31)) + (i)).toNat (((x).2 2) (((1152 : Int)) + (i)).toNat)) ((i) + (1 : Int)))) p0
    | _ => (0, x)
theorem F_m_keepMade_e0 (n : Nat) (x : MS) (i : Int) : F_m_keepMade_s (n + 1) 0 x i = (if (((x).2 1) ((9 : Int)).toNat) ≤ (i) then (0, sU (x) 31 (((x).1 31) + ((1 : Int)))) else F_m_keepMade_s n 0 (aU (x) 33 ((((60 : Int)) * ((x).1 31)) + (i)).toNat (((x).2 2) (((1152 : Int)) + (i)).toNat)) ((i) + (1 : Int))) := rfl
def F_m_keepMade (x : MS)  : Int × MS := F_m_keepMade_s 100 0 (aU (x) 32 ((x).1 31).toNat (((x).2 1) ((9 : Int)).toNat)) ((0 : Int))
set_option maxHeartbeats 4000000 in
set_option maxRecDepth 100000 in
/-- keepMade -/
theorem c_m_keepMade (l : Launch) (dC : Nat → ClassId) (dI : Nat → Nat → Nat) (h : Nat) (ad : Nat → Nat) (cI cJ cZ : ClassId) (sz : Nat) (x : MS)  (n0 : 0 ≤ x.1 31) (n1 : x.1 31 ≤ 300) (s0 : 0 ≤ x.2 1 9) (s1 : x.2 1 9 ≤ 60) : Met l yX12_keepMade wsX12_keepMade ({ frames := 0, cells := 0, slots := 0, locals := 0 }) (mPc dC dI h ad cI cJ cZ sz x [.ref h]) (va_Qv (fun u : MS => u = (F_m_keepMade (x)).2) (mAt dC dI h ad cI cJ cZ (va_A (mW h ad cI cJ cZ (x)) sz)) (va_A (mW h ad cI cJ cZ (x)) sz)) 0 0 (va_A (mW h ad cI cJ cZ (x)) sz) := by
  refine Met.ofW (cc := cX12_keepMade) (maxL := 2) (ret := none) (by decide) rfl ?_
  intro p e s m args below meth c s₁ B hml hv
  obtain ⟨rfl, hsz, hP, hK, hD0⟩ := hv
  have hx := B.exec
  have hb := B.bytes
  have hr := B.returns
  have hts := atoms_spec (ws := wsX12_keepMade) B.pre
  have hown : s.vm.findClass RX12 = some m.cls := findClass_of_methodNamed B.named
  have hlocks := B.notSynchronized
  have hin : ∀ w ∈ u_ws RX12 TX12 34, w ∈ wsX12_keepMade := by decide +kernel
  subst hsz
  have hD := hD0.self (sz := s.heap.size)
  generalize hAe : va_A (mW h ad cI cJ cZ (x)) s.heap.size = A at hD ⊢
  have hA : ∀ q : Nat, s.heap.size ≤ q → A q := fun q h => by rw [← hAe]; exact Or.inr h
  have hS : va_S A s.heap s.heap [] := va_S.rf
  have hl := lv_entry ([.ref h]) (n := 2) (Nat.le_of_ble_eq_true rfl)
  rw [lg_entry_eq]
  generalize (lg_sl ([.ref h]) ++ List.replicate (2 - (lg_sl ([.ref h])).length) Slot.unset).toArray = ls at hl ⊢
  have hl : lv_has ls 2 [(0, .ref (h))] := hl
  have L : ∀ n : Nat, (∀ (y : MS) (i : Int), (0 ≤ i) → (i ≤ 60) → (0 ≤ y.2 1 9) → (y.2 1 9 ≤ 60) → (0 ≤ y.1 31) → (y.1 31 ≤ 300) → (60 - i < n) → F_m_keepMade_s n 0 y i = F_m_keepMade (x) → ∀ (H : Heap) (locs : List Loc) (ls : Array Slot), va_P (dC, dI) vwCl (mW h ad cI cJ cZ (y)) H → va_D A (mW h ad cI cJ cZ (y)) → va_S A s.heap H locs → lv_has ls 2 [(0, .ref (h)), (1, .int (iI (i)))] → W p l e (headSpec wsX12_keepMade ({ frames := 0, cells := 0, slots := 0, locals := 0 })).room s m ([.ref h] : List Value).toArray below meth c H locs 0 0 (MQ below (va_Qv (fun u : MS => u = (F_m_keepMade (x)).2) (mAt dC dI h ad cI cJ cZ A) A) ([.ref h] : List Value).toArray s 0 0 A) (F0 m 18 ls [])) := by
    intro n
    induction n with
    | zero =>
      skip
      · intro y i i0 i1 t0 t1 m0 m1 fu hres
        exact absurd fu (by omega)
    | succ n ih =>
      skip
      · intro y i i0 i1 t0 t1 m0 m1 fu hres H locs ls hP hD hS hl
        rw [F_m_keepMade_e0] at hres
        have e9 : ((y).2 1) ((9 : Int)).toNat = y.2 1 9 := rfl
        refine lv_iload_n hx hb dX12_keepMade_18 rfl (lv_at hl 1 rfl) ?_
        refine lv_aload_n hx hb dX12_keepMade_19 rfl (lv_at hl 0 rfl) ?_
        refine va_get (D := (dC, dI)) (ci := 12) (v := .ref (ad 1)) (C := RX12) (T := TX12) (N := 34) hx hb hts hin hown hK hP 0 rfl rfl 1 (by decide) (hts (.fieldLink RX12 13 "LikeWordsModel" "size" "[I") (by decide +kernel)) (fun _ h9 => h9) rfl dX12_keepMade_20 ?_
        refine lv_bipush (v := iI (9 : Int)) hx hb dX12_keepMade_23 (by decide) ?_
        refine wi_iald (f := (y).2 1) hx hb hK hP 1 0 rfl rfl (i := (9 : Int)) (by omega) (by omega) (by decide) dX12_keepMade_25 ?_
        refine wi_icmp_ge (tgt := 59) hx hb (by first | assumption | (unfold iR; omega) | exact F_R01 (by assumption)) (by first | assumption | (unfold iR; omega) | exact F_R01 (by assumption)) dX12_keepMade_26 (by decide) (fun c_26 => ?_) (fun c_26 => ?_)
        · skip
          rw [if_pos c_26] at hres
          refine lv_aload_n hx hb dX12_keepMade_59 rfl (lv_at hl 0 rfl) ?_
          refine lv_dup hx hb dX12_keepMade_60 rfl ?_
          refine va_get (D := (dC, dI)) (ci := 12) (v := .int (iI ((y).1 31))) (C := RX12) (T := TX12) (N := 34) hx hb hts hin hown hK hP 0 rfl rfl 31 (by decide) (hts (.fieldLink RX12 263 "LikeWordsModel" "made" "I") (by decide +kernel)) (fun _ h9 => h9) rfl dX12_keepMade_61 ?_
          refine lv_iconst (v := iI (1 : Int)) hx hb dX12_keepMade_64 (by decide) ?_
          refine wi_iadd hx hb dX12_keepMade_65 ?_
          refine va_put (D := (dC, dI)) (ci := 12) (v := .int (iI (((y).1 31) + ((1 : Int))))) (ty := .int) (C := RX12) (T := TX12) (N := 34) hx hb hts hin tyX12 tyX12_ok nmX12 hown hK hP hD hS 0 rfl rfl 31 (by decide) (hts (.fieldLink RX12 263 "LikeWordsModel" "made" "I") (by decide +kernel)) (fun _ h9 => h9) rfl (by decide +kernel) rfl rfl (Nat.le_of_ble_eq_true rfl) dX12_keepMade_66 (fun H locs hP hD hS => ?_)
          rw [mW_s31] at hP hD
          exact W.vret hx hb hr (fun t ht hW => ⟨⟨sU (y) 31 (((y).1 31) + ((1 : Int))), rfl, (by have h9 := congrArg (fun z : Int × MS => z.2) hres; exact h9), by rw [ht]; exact hP, va_K.moved hW.alike hK, hD⟩, hS.F ht⟩) hS.2.2 dX12_keepMade_69
        · skip
          rw [if_neg c_26] at hres
          refine lv_aload_n hx hb dX12_keepMade_29 rfl (lv_at hl 0 rfl) ?_
          refine va_get (D := (dC, dI)) (ci := 12) (v := .ref (ad 33)) (C := RX12) (T := TX12) (N := 34) hx hb hts hin hown hK hP 0 rfl rfl 33 (by decide) (hts (.fieldLink RX12 88 "LikeWordsModel" "madeRow" "[I") (by decide +kernel)) (fun _ h9 => h9) rfl dX12_keepMade_30 ?_
          refine lv_bipush (v := iI (60 : Int)) hx hb dX12_keepMade_33 (by decide) ?_
          refine lv_aload_n hx hb dX12_keepMade_35 rfl (lv_at hl 0 rfl) ?_
          refine va_get (D := (dC, dI)) (ci := 12) (v := .int (iI ((y).1 31))) (C := RX12) (T := TX12) (N := 34) hx hb hts hin hown hK hP 0 rfl rfl 31 (by decide) (hts (.fieldLink RX12 263 "LikeWordsModel" "made" "I") (by decide +kernel)) (fun _ h9 => h9) rfl dX12_keepMade_36 ?_
          refine wi_imul hx hb dX12_keepMade_39 ?_
          refine lv_iload_n hx hb dX12_keepMade_40 rfl (lv_at hl 1 rfl) ?_
          refine wi_iadd hx hb dX12_keepMade_41 ?_
          refine lv_aload_n hx hb dX12_keepMade_42 rfl (lv_at hl 0 rfl) ?_
          refine va_get (D := (dC, dI)) (ci := 12) (v := .ref (ad 2)) (C := RX12) (T := TX12) (N := 34) hx hb hts hin hown hK hP 0 rfl rfl 2 (by decide) (hts (.fieldLink RX12 17 "LikeWordsModel" "row" "[I") (by decide +kernel)) (fun _ h9 => h9) rfl dX12_keepMade_43 ?_
          refine lv_sipush (v := iI (1152 : Int)) hx hb dX12_keepMade_46 (by decide) ?_
          refine lv_iload_n hx hb dX12_keepMade_49 rfl (lv_at hl 1 rfl) ?_
          refine wi_iadd hx hb dX12_keepMade_50 ?_
          refine wi_iald (f := (y).2 2) hx hb hK hP 2 0 rfl rfl (i := ((1152 : Int)) + (i)) (by omega) (by omega) (by decide) dX12_keepMade_51 ?_
          refine wi_iast (f := (y).2 33) hx hb hK hP hD hS 24 0 rfl rfl (i := (((60 : Int)) * ((y).1 31)) + (i)) (x := ((y).2 2) (((1152 : Int)) + (i)).toNat) (by omega) (by omega) (by decide) dX12_keepMade_52 (fun H locs hP hD hS => ?_)
          rw [mW_a33] at hP hD
          refine lv_iinc (v := iI ((i) + (1 : Int))) (lv' := [(1, .int (iI ((i) + (1 : Int)))), (0, .ref (h))]) hx hb dX12_keepMade_53 hl (k := 1) rfl (iI_add _ _) (by decide) rfl (fun ls hl => ?_)
          refine lv_goto (tgt := 18) hx hb dX12_keepMade_56 (by decide) ?_
          exact ih (aU (y) 33 ((((60 : Int)) * ((y).1 31)) + (i)).toNat (((y).2 2) (((1152 : Int)) + (i)).toNat)) ((i) + (1 : Int)) (by omega) (by omega) (t0) (t1) (m0) (m1) (by omega) hres _ _ ls hP hD hS (lv_sub hl [1, 0] rfl)
  have key : ∀ (H : Heap) (locs : List Loc), va_P (dC, dI) vwCl (mW h ad cI cJ cZ (x)) H → va_S A s.heap H locs → W p l e (headSpec wsX12_keepMade ({ frames := 0, cells := 0, slots := 0, locals := 0 })).room s m ([.ref h] : List Value).toArray below meth c H locs 0 0 (MQ below (va_Qv (fun u : MS => u = (F_m_keepMade (x)).2) (mAt dC dI h ad cI cJ cZ A) A) ([.ref h] : List Value).toArray s 0 0 A) (F0 m 0 ls []) := by
    intro H locs hP hS
    have hres : F_m_keepMade_s 100 0 (aU (x) 32 ((x).1 31).toNat (((x).2 1) ((9 : Int)).toNat)) ((0 : Int)) = F_m_keepMade (x) := rfl
    refine lv_aload_n hx hb dX12_keepMade_0 rfl (lv_at hl 0 rfl) ?_
    refine va_get (D := (dC, dI)) (ci := 12) (v := .ref (ad 32)) (C := RX12) (T := TX12) (N := 34) hx hb hts hin hown hK hP 0 rfl rfl 32 (by decide) (hts (.fieldLink RX12 85 "LikeWordsModel" "madeSize" "[I") (by decide +kernel)) (fun _ h9 => h9) rfl dX12_keepMade_1 ?_
    have e9 : ((x).2 1) ((9 : Int)).toNat = x.2 1 9 := rfl
    refine lv_aload_n hx hb dX12_keepMade_4 rfl (lv_at hl 0 rfl) ?_
    refine va_get (D := (dC, dI)) (ci := 12) (v := .int (iI ((x).1 31))) (C := RX12) (T := TX12) (N := 34) hx hb hts hin hown hK hP 0 rfl rfl 31 (by decide) (hts (.fieldLink RX12 263 "LikeWordsModel" "made" "I") (by decide +kernel)) (fun _ h9 => h9) rfl dX12_keepMade_5 ?_
    refine lv_aload_n hx hb dX12_keepMade_8 rfl (lv_at hl 0 rfl) ?_
    refine va_get (D := (dC, dI)) (ci := 12) (v := .ref (ad 1)) (C := RX12) (T := TX12) (N := 34) hx hb hts hin hown hK hP 0 rfl rfl 1 (by decide) (hts (.fieldLink RX12 13 "LikeWordsModel" "size" "[I") (by decide +kernel)) (fun _ h9 => h9) rfl dX12_keepMade_9 ?_
    refine lv_bipush (v := iI (9 : Int)) hx hb dX12_keepMade_12 (by decide) ?_
    refine wi_iald (f := (x).2 1) hx hb hK hP 1 0 rfl rfl (i := (9 : Int)) (by omega) (by omega) (by decide) dX12_keepMade_14 ?_
    refine wi_iast (f := (x).2 32) hx hb hK hP hD hS 23 0 rfl rfl (i := (x).1 31) (x := ((x).2 1) ((9 : Int)).toNat) (by omega) (by omega) (by decide) dX12_keepMade_15 (fun H locs hP hD hS => ?_)
    rw [mW_a32] at hP hD
    refine lv_iconst (v := iI (0 : Int)) hx hb dX12_keepMade_16 (by decide) ?_
    refine lv_istore_n (lv' := [(1, .int (iI ((0 : Int)))), (0, .ref (h))]) hx hb dX12_keepMade_17 rfl hl (by decide) rfl (fun ls hl => ?_)
    exact (L (100)) (aU (x) 32 ((x).1 31).toNat (((x).2 1) ((9 : Int)).toNat)) ((0 : Int)) (by omega) (by omega) (s0) (s1) (n0) (n1) (by omega) hres _ _ ls hP hD hS (lv_sub hl [1, 0] rfl)
  exact key _ _ hP hS
theorem F_m_keepMade_sfr : ∀ n : Nat, (∀ (y : MS) (v0 : Int), same [31] [32, 33] y (F_m_keepMade_s n 0 y v0).2) := by
  intro n
  induction n with
  | zero => exact fun y _ => sm_rf _ _ _
  | succ n ih =>
    skip
    · intro y i
      rw [F_m_keepMade_e0]
      by_cases hc : (((y).2 1) ((9 : Int)).toNat) ≤ (i)
      · rw [if_pos hc]
        exact (sm_s (by decide) (sm_rf _ _ _))
      · rw [if_neg hc]
        exact sm_tr ((sm_a (by decide) (sm_rf _ _ _))) (ih (aU (y) 33 ((((60 : Int)) * ((y).1 31)) + (i)).toNat (((y).2 2) (((1152 : Int)) + (i)).toNat)) ((i) + (1 : Int)))
theorem F_m_keepMade_fr (x : MS)  : same [31] [32, 33] x (F_m_keepMade (x)).2 := by
  unfold F_m_keepMade
  exact sm_tr ((sm_a (by decide) (sm_rf _ _ _))) ((F_m_keepMade_sfr 100) (aU (x) 32 ((x).1 31).toNat (((x).2 1) ((9 : Int)).toNat)) ((0 : Int)))
