def lgP (r : Int) : Prop := -9 ≤ r ∧ r ≤ 851
theorem lg_b : ∀ n : Nat, (∀ (y : MS) (a b c d : Int), y.1 24 ≤ 850 → lgP (F_m_longest_s n 0 y a b c d).1) ∧ (∀ (y : MS) (a b c d : Int), y.1 24 ≤ 850 → 0 ≤ a → lgP (F_m_longest_s n 1 y a b c d).1) ∧ (∀ (y : MS) (a b c d : Int), y.1 24 ≤ 850 → 0 ≤ a → a ≤ 850 → lgP (F_m_longest_s n 2 y a b c d).1) ∧ (∀ (y : MS) (a b c d : Int), y.1 24 ≤ 850 → 0 ≤ a → a ≤ 850 → lgP (F_m_longest_s n 3 y a b c d).1) ∧ (∀ (y : MS) (a b c d : Int), y.1 24 ≤ 850 → 0 ≤ a → a ≤ 850 → lgP (F_m_longest_s n 4 y a b c d).1) ∧ (∀ (y : MS) (a b c d : Int), y.1 24 ≤ 850 → 0 ≤ a → a ≤ 850 → lgP (F_m_longest_s n 5 y a b c d).1) := by
  intro n
  induction n with
  | zero =>
    have z : lgP 0 := ⟨by decide, by decide⟩
    exact ⟨fun _ _ _ _ _ _ => z, fun _ _ _ _ _ _ _ => z, fun _ _ _ _ _ _ _ _ => z, fun _ _ _ _ _ _ _ _ => z, fun _ _ _ _ _ _ _ _ => z, fun _ _ _ _ _ _ _ _ => z⟩
  | succ n ih =>
    obtain ⟨i0, i1, i2, i3, i4, i5⟩ := ih
    refine ⟨?_, ?_, ?_, ?_, ?_, ?_⟩
    · intro y a b c d h
      rw [F_m_longest_e0]
      repeat' split
      all_goals first | exact i1 _ _ _ _ _ h (by decide) | exact i0 _ _ _ _ _ h
    · intro y a b c d h h0
      rw [F_m_longest_e1]
      split
      · exact ⟨by show (-9 : Int) ≤ -9; decide, by show (-9 : Int) ≤ 851; decide⟩
      · exact i2 _ _ _ _ _ h h0 (by omega)
    · intro y a b c d h h0 h1
      rw [F_m_longest_e2]
      split
      · exact i3 _ _ _ _ _ h h0 h1
      · exact i2 _ _ _ _ _ h h0 h1
    · intro y a b c d h h0 h1
      rw [F_m_longest_e3]
      repeat' split
      all_goals first | exact i4 _ _ _ _ _ h h0 h1 | exact i5 _ _ _ _ _ h h0 h1 | exact ⟨by show -9 ≤ a; omega, by show a ≤ 851; omega⟩
    · intro y a b c d h h0 h1
      rw [F_m_longest_e4]
      repeat' split
      all_goals first | exact i3 _ _ _ _ _ h h0 h1 | exact i4 _ _ _ _ _ h h0 h1
    · intro y a b c d h h0 h1
      rw [F_m_longest_e5]
      split
      · exact i1 _ _ _ _ _ h (by omega)
      · exact i5 _ _ _ _ _ h h0 h1
theorem F_m_longest_b (x : MS) (h : x.1 24 ≤ 850) : -9 ≤ (F_m_longest x).1 ∧ (F_m_longest x).1 ≤ 851 := (lg_b 6810000).1 x 0 0 0 0 h
def F_m_size_s : Nat → Nat → MS → Int → Int → Int → Int × MS
  | 0, _, x, _, _, _ => (0, x)
  | n + 1, t, x, p0, p1, p2 => match t with
    | 0 => (fun (g : Int) (q : Int) (k : Int) => (if (g) < (k) then (q, x) else F_m_size_s n 0 (x) (g) ((q) + (((x).2 28) (k).toNat)) ((k) + (1 : Int)))) p0 p1 p2
    | _ => (0, x)
theorem F_m_size_e0 (n : Nat) (x : MS) (g : Int) (q : Int) (k : Int) : F_m_size_s (n + 1) 0 x g q k = (if (g) < (k) then (q, x) else F_m_size_s n 0 (x) (g) ((q) + (((x).2 28) (k).toNat)) ((k) + (1 : Int))) := rfl
def F_m_size (x : MS)  : Int × MS := (if ((F_m_isMachine (x)).1) = (0) then ((-3 : Int), x) else (if ((F_m_longest (x)).1) = ((-9 : Int)) then (if ((F_m_longest (x)).1) = ((-9 : Int)) then ((-9 : Int), (F_m_longest (x)).2) else ((-4 : Int), (F_m_longest (x)).2)) else (if ((F_m_longest (x)).1) ≤ ((30 : Int)) then F_m_size_s 100 0 ((F_m_longest (x)).2) ((F_m_longest (x)).1) ((0 : Int)) ((0 : Int)) else (if ((F_m_longest (x)).1) = ((-9 : Int)) then ((-9 : Int), (F_m_longest (x)).2) else ((-4 : Int), (F_m_longest (x)).2)))))
set_option maxHeartbeats 4000000 in
set_option maxRecDepth 100000 in
/-- size -/
theorem c_m_size (l : Launch) (dC : Nat → ClassId) (dI : Nat → Nat → Nat) (h : Nat) (ad : Nat → Nat) (cI cJ cZ : ClassId) (sz : Nat) (x : MS)  (sn : iR (x.1 6)) (ic : x.1 27 = 0 ∨ x.1 27 = 1) (au : auOK x) (h29 : ∀ j : Nat, j < 850 → x.2 29 j = 0 ∨ x.2 29 j = 1) (h30 : ∀ j : Nat, j < 850 → x.2 30 j = 0 ∨ x.2 30 j = 1) : Met l yX12_size wsX12_size ({ frames := 2, cells := 0, slots := 0, locals := 48 }) (mPc dC dI h ad cI cJ cZ sz x [.ref h]) (va_Ql (fun (r : Int64) (u : MS) => r = iL (F_m_size (x)).1 ∧ u = (F_m_size (x)).2) (mAt dC dI h ad cI cJ cZ (va_A (mW h ad cI cJ cZ (x)) sz)) (va_A (mW h ad cI cJ cZ (x)) sz)) 0 0 (va_A (mW h ad cI cJ cZ (x)) sz) := by
  refine Met.ofW (cc := cX12_size) (maxL := 5) (ret := (some .long)) (by decide) rfl ?_
  intro p e s m args below meth c s₁ B hml hv
  obtain ⟨rfl, hsz, hP, hK, hD0⟩ := hv
  have hx := B.exec
  have hb := B.bytes
  have hr := B.returns
  have hts := atoms_spec (ws := wsX12_size) B.pre
  have hown : s.vm.findClass RX12 = some m.cls := findClass_of_methodNamed B.named
  have hlocks := B.notSynchronized
  have hin : ∀ w ∈ u_ws RX12 TX12 34, w ∈ wsX12_size := by decide +kernel
  subst hsz
  have hD := hD0.self (sz := s.heap.size)
  generalize hAe : va_A (mW h ad cI cJ cZ (x)) s.heap.size = A at hD ⊢
  have hA : ∀ q : Nat, s.heap.size ≤ q → A q := fun q h => by rw [← hAe]; exact Or.inr h
  have hS : va_S A s.heap s.heap [] := va_S.rf
  have hl := lv_entry ([.ref h]) (n := 5) (Nat.le_of_ble_eq_true rfl)
  rw [lg_entry_eq]
  generalize (lg_sl ([.ref h]) ++ List.replicate (5 - (lg_sl ([.ref h])).length) Slot.unset).toArray = ls at hl ⊢
  have hl : lv_has ls 5 [(0, .ref (h))] := hl
  have L : ∀ n : Nat, (∀ (y : MS) (g : Int) (q : Int) (k : Int), (-9 ≤ g) → (g ≤ 30) → (0 ≤ k) → (k ≤ 31) → (31 - k < n) → F_m_size_s n 0 y g q k = F_m_size (x) → ∀ (H : Heap) (locs : List Loc) (ls : Array Slot), va_P (dC, dI) vwCl (mW h ad cI cJ cZ (y)) H → va_D A (mW h ad cI cJ cZ (y)) → va_S A s.heap H locs → lv_has ls 5 [(0, .ref (h)), (1, .int (iI (g))), (2, .long (iL (q))), (4, .int (iI (k)))] → W p l e (headSpec wsX12_size ({ frames := 2, cells := 0, slots := 0, locals := 48 })).room s m ([.ref h] : List Value).toArray below meth c H locs 0 0 (MQ below (va_Ql (fun (r : Int64) (u : MS) => r = iL (F_m_size (x)).1 ∧ u = (F_m_size (x)).2) (mAt dC dI h ad cI cJ cZ A) A) ([.ref h] : List Value).toArray s 0 0 A) (F0 m 49 ls [])) := by
    intro n
    induction n with
    | zero =>
      skip
      · intro y g q k g0 g1 k0 k1 fu hres
        exact absurd fu (by omega)
    | succ n ih =>
      skip
      · intro y g q k g0 g1 k0 k1 fu hres H locs ls hP hD hS hl
        rw [F_m_size_e0] at hres
        refine lv_iload hx hb dX12_size_49 (lv_at hl 3 rfl) ?_
        refine lv_iload_n hx hb dX12_size_51 rfl (lv_at hl 1 rfl) ?_
        refine wi_icmp_gt (tgt := 71) hx hb (by first | assumption | (unfold iR; omega) | exact F_R01 (by assumption)) (by first | assumption | (unfold iR; omega) | exact F_R01 (by assumption)) dX12_size_52 (by decide) (fun c_52 => ?_) (fun c_52 => ?_)
        · skip
          rw [if_pos c_52] at hres
          refine lv_lload_n hx hb dX12_size_71 rfl (lv_at hl 2 rfl) ?_
          exact W.lret (v := iL (q)) hx hb hr (fun t ht hW => ⟨⟨iL (q), y, rfl, ⟨(by have h9 := congrArg (fun z : Int × MS => iL z.1) hres; exact h9), (by have h9 := congrArg (fun z : Int × MS => z.2) hres; exact h9)⟩, by rw [ht]; exact hP, va_K.moved hW.alike hK, hD⟩, hS.F ht⟩) hS.2.2 dX12_size_72
        · skip
          rw [if_neg c_52] at hres
          refine lv_lload_n hx hb dX12_size_55 rfl (lv_at hl 2 rfl) ?_
          refine lv_aload_n hx hb dX12_size_56 rfl (lv_at hl 0 rfl) ?_
          refine va_get (D := (dC, dI)) (ci := 12) (v := .ref (ad 28)) (C := RX12) (T := TX12) (N := 34) hx hb hts hin hown hK hP 0 rfl rfl 28 (by decide) (hts (.fieldLink RX12 74 "LikeWordsModel" "way" "[J") (by decide +kernel)) (fun _ h9 => h9) rfl dX12_size_57 ?_
          refine lv_iload hx hb dX12_size_60 (lv_at hl 3 rfl) ?_
          refine wi_lald (f := (y).2 28) hx hb hK hP 20 1 rfl rfl (i := k) (by omega) (by omega) (by decide) dX12_size_62 ?_
          refine wi_ladd hx hb dX12_size_63 ?_
          refine lv_lstore_n (lv' := [(2, .long (iL ((q) + (((y).2 28) (k).toNat)))), (0, .ref (h)), (1, .int (iI (g))), (4, .int (iI (k)))]) hx hb dX12_size_64 rfl hl (by decide) rfl (fun ls hl => ?_)
          refine lv_iinc (v := iI ((k) + (1 : Int))) (lv' := [(4, .int (iI ((k) + (1 : Int)))), (2, .long (iL ((q) + (((y).2 28) (k).toNat)))), (0, .ref (h)), (1, .int (iI (g)))]) hx hb dX12_size_65 hl (k := 3) rfl (iI_add _ _) (by decide) rfl (fun ls hl => ?_)
          refine lv_goto (tgt := 49) hx hb dX12_size_68 (by decide) ?_
          exact ih (y) (g) ((q) + (((y).2 28) (k).toNat)) ((k) + (1 : Int)) (by omega) (by omega) (by omega) (by omega) (by omega) hres _ _ ls hP hD hS (lv_sub hl [2, 3, 1, 0] rfl)
  have key : ∀ (H : Heap) (locs : List Loc), va_P (dC, dI) vwCl (mW h ad cI cJ cZ (x)) H → va_S A s.heap H locs → W p l e (headSpec wsX12_size ({ frames := 2, cells := 0, slots := 0, locals := 48 })).room s m ([.ref h] : List Value).toArray below meth c H locs 0 0 (MQ below (va_Ql (fun (r : Int64) (u : MS) => r = iL (F_m_size (x)).1 ∧ u = (F_m_size (x)).2) (mAt dC dI h ad cI cJ cZ A) A) ([.ref h] : List Value).toArray s 0 0 A) (F0 m 0 ls []) := by
    intro H locs hP hS
    have hres : (if ((F_m_isMachine (x)).1) = (0) then ((-3 : Int), x) else (if ((F_m_longest (x)).1) = ((-9 : Int)) then (if ((F_m_longest (x)).1) = ((-9 : Int)) then ((-9 : Int), (F_m_longest (x)).2) else ((-4 : Int), (F_m_longest (x)).2)) else (if ((F_m_longest (x)).1) ≤ ((30 : Int)) then F_m_size_s 100 0 ((F_m_longest (x)).2) ((F_m_longest (x)).1) ((0 : Int)) ((0 : Int)) else (if ((F_m_longest (x)).1) = ((-9 : Int)) then ((-9 : Int), (F_m_longest (x)).2) else ((-4 : Int), (F_m_longest (x)).2))))) = F_m_size (x) := rfl
    refine lv_aload_n hx hb dX12_size_0 rfl (lv_at hl 0 rfl) ?_
    have hFc : ∀ q, va_A (mW h ad cI cJ cZ (x)) H.size q → A q := fun q hq => Or.elim hq (fun ⟨k, e, hk⟩ => hD.2 k (q, e) hk) (fun hk => hA q (Nat.le_trans hS.1 hk))
    refine va_calli (va_runV (As := []) (rest := []) ⟨hx, hb, hml, hown, hts⟩ (c_m_isMachine l dC dI h ad cI cJ cZ H.size (x)  sn ic) (cwV 0 hts gX12_size_X12_isMachine rfl rfl rfl (by decide +kernel) ⟨Nat.le_of_ble_eq_true rfl, Nat.le_of_ble_eq_true rfl⟩) ⟨fun a U g mk q => by obtain ⟨q0, q1, qP, qK, qD⟩ := q; exact ⟨q0, q1, qP, va_K.moved (u := U) (U := U.calling g mk a) (Vm.Alike.refl U.vm) qK, qD⟩, va_recv hK hP (ci := 12) (q0 := 0) rfl rfl, fun U hU hW => ⟨rfl, by rw [hU], by rw [hU]; exact hP, va_K.moved hW.alike hK, hD.weaken (fun _ _ _ _ => trivial)⟩⟩ rfl rfl hl.1 rfl (lv_room (Nat.le_of_ble_eq_true rfl)) dX12_size_1 ⟨Nat.le_of_ble_eq_true rfl, Nat.le_of_ble_eq_true rfl⟩) hS (fun q _ h => hFc q h) hFc (fun r9 u9 t H1 locs ht hvm hw hB hz1 hk1 hS => ?_)
    obtain ⟨hP1, hK1, hD1⟩ := hB
    rw [ht] at hP1
    obtain ⟨hw1, hw2⟩ := hw
    rw [hw2] at hP1 hD1
    rw [hw1]
    rw [F_m_isMachine_2] at hP1 hD1
    have hD2 := hD1.weaken (B := A) (fun _ q _ h => hFc q.1 h)
    have hP := hP1
    have hD := hD2
    generalize H1 = H at hP hS ⊢
    refine wi_if_ne (tgt := 11) hx hb (F_R01 (F_m_isMachine_01 x)) dX12_size_4 (by decide) (fun c_4 => ?_) (fun c_4 => ?_)
    · skip
      rw [if_neg c_4] at hres
      refine lv_aload_n hx hb dX12_size_11 rfl (lv_at hl 0 rfl) ?_
      have hFc : ∀ q, va_A (mW h ad cI cJ cZ (x)) H.size q → A q := fun q hq => Or.elim hq (fun ⟨k, e, hk⟩ => hD.2 k (q, e) hk) (fun hk => hA q (Nat.le_trans hS.1 hk))
      refine va_calli (va_runV (As := []) (rest := []) ⟨hx, hb, hml, hown, hts⟩ (c_m_longest l dC dI h ad cI cJ cZ H.size (x)  au h29 h30) (cwV 0 hts gX12_size_X12_longest rfl rfl rfl (by decide +kernel) ⟨Nat.le_of_ble_eq_true rfl, Nat.le_of_ble_eq_true rfl⟩) ⟨fun a U g mk q => by obtain ⟨q0, q1, qP, qK, qD⟩ := q; exact ⟨q0, q1, qP, va_K.moved (u := U) (U := U.calling g mk a) (Vm.Alike.refl U.vm) qK, qD⟩, va_recv hK hP (ci := 12) (q0 := 0) rfl rfl, fun U hU hW => ⟨rfl, by rw [hU], by rw [hU]; exact hP, va_K.moved hW.alike hK, hD.weaken (fun _ _ _ _ => trivial)⟩⟩ rfl rfl hl.1 rfl (lv_room (Nat.le_of_ble_eq_true rfl)) dX12_size_12 ⟨Nat.le_of_ble_eq_true rfl, Nat.le_of_ble_eq_true rfl⟩) hS (fun q _ h => hFc q h) hFc (fun r9 u9 t H1 locs ht hvm hw hB hz1 hk1 hS => ?_)
      obtain ⟨hP1, hK1, hD1⟩ := hB
      rw [ht] at hP1
      obtain ⟨hw1, hw2⟩ := hw
      rw [hw2] at hP1 hD1
      rw [hw1]
      have hD2 := hD1.weaken (B := A) (fun _ q _ h => hFc q.1 h)
      have hP := hP1
      have hD := hD2
      generalize H1 = H at hP hS ⊢
      have lb := F_m_longest_b x au.1.2.1
      refine lv_istore_n (lv' := [(1, .int (iI ((F_m_longest (x)).1))), (0, .ref (h))]) hx hb dX12_size_15 rfl hl (by decide) rfl (fun ls hl => ?_)
      refine lv_iload_n hx hb dX12_size_16 rfl (lv_at hl 0 rfl) ?_
      refine lv_bipush (v := iI (-9 : Int)) hx hb dX12_size_17 (by decide) ?_
      refine wi_icmp_eq (tgt := 28) hx hb (by first | assumption | (unfold iR; omega) | exact F_R01 (by assumption)) ⟨by decide, by decide⟩ dX12_size_19 (by decide) (fun c_19 => ?_) (fun c_19 => ?_)
      · skip
        rw [if_pos c_19] at hres
        refine lv_iload_n hx hb dX12_size_28 rfl (lv_at hl 0 rfl) ?_
        refine lv_bipush (v := iI (-9 : Int)) hx hb dX12_size_29 (by decide) ?_
        refine wi_icmp_ne (tgt := 40) hx hb (by first | assumption | (unfold iR; omega) | exact F_R01 (by assumption)) ⟨by decide, by decide⟩ dX12_size_31 (by decide) (fun c_31 => ?_) (fun c_31 => ?_)
        · skip
          rw [if_neg c_31] at hres
          refine lv_ldc2 (v := iL (-4 : Int)) hx hb hown (hts (.constantLong RX12 243 (-4)) (by decide +kernel)) dX12_size_40 ?_
          exact W.lret (v := iL ((-4 : Int))) hx hb hr (fun t ht hW => ⟨⟨iL ((-4 : Int)), (F_m_longest (x)).2, rfl, ⟨(by have h9 := congrArg (fun z : Int × MS => iL z.1) hres; exact h9), (by have h9 := congrArg (fun z : Int × MS => z.2) hres; exact h9)⟩, by rw [ht]; exact hP, va_K.moved hW.alike hK, hD⟩, hS.F ht⟩) hS.2.2 dX12_size_43
        · skip
          rw [if_pos c_31] at hres
          refine lv_ldc2 (v := iL (-9 : Int)) hx hb hown (hts (.constantLong RX12 241 (-9)) (by decide +kernel)) dX12_size_34 ?_
          refine lv_goto (tgt := 43) hx hb dX12_size_37 (by decide) ?_
          exact W.lret (v := iL ((-9 : Int))) hx hb hr (fun t ht hW => ⟨⟨iL ((-9 : Int)), (F_m_longest (x)).2, rfl, ⟨(by have h9 := congrArg (fun z : Int × MS => iL z.1) hres; exact h9), (by have h9 := congrArg (fun z : Int × MS => z.2) hres; exact h9)⟩, by rw [ht]; exact hP, va_K.moved hW.alike hK, hD⟩, hS.F ht⟩) hS.2.2 dX12_size_43
      · skip
        rw [if_neg c_19] at hres
        refine lv_iload_n hx hb dX12_size_22 rfl (lv_at hl 0 rfl) ?_
        refine lv_bipush (v := iI (30 : Int)) hx hb dX12_size_23 (by decide) ?_
        refine wi_icmp_le (tgt := 44) hx hb (by first | assumption | (unfold iR; omega) | exact F_R01 (by assumption)) ⟨by decide, by decide⟩ dX12_size_25 (by decide) (fun c_25 => ?_) (fun c_25 => ?_)
        · skip
          rw [if_pos c_25] at hres
          refine lv_lconst (v := iL 0) hx hb dX12_size_44 (by decide) ?_
          refine lv_lstore_n (lv' := [(2, .long (iL ((0 : Int)))), (1, .int (iI ((F_m_longest (x)).1))), (0, .ref (h))]) hx hb dX12_size_45 rfl hl (by decide) rfl (fun ls hl => ?_)
          refine lv_iconst (v := iI (0 : Int)) hx hb dX12_size_46 (by decide) ?_
          refine lv_istore (lv' := [(4, .int (iI ((0 : Int)))), (2, .long (iL ((0 : Int)))), (1, .int (iI ((F_m_longest (x)).1))), (0, .ref (h))]) hx hb dX12_size_47 hl (by decide) rfl (fun ls hl => ?_)
          exact (L (100)) ((F_m_longest (x)).2) ((F_m_longest (x)).1) ((0 : Int)) ((0 : Int)) (by omega) (by omega) (by omega) (by omega) (by omega) hres _ _ ls hP hD hS (lv_sub hl [3, 2, 1, 0] rfl)
        · skip
          rw [if_neg c_25] at hres
          refine lv_iload_n hx hb dX12_size_28 rfl (lv_at hl 0 rfl) ?_
          refine lv_bipush (v := iI (-9 : Int)) hx hb dX12_size_29 (by decide) ?_
          refine wi_icmp_ne (tgt := 40) hx hb (by first | assumption | (unfold iR; omega) | exact F_R01 (by assumption)) ⟨by decide, by decide⟩ dX12_size_31 (by decide) (fun c_31 => ?_) (fun c_31 => ?_)
          · skip
            rw [if_neg c_31] at hres
            refine lv_ldc2 (v := iL (-4 : Int)) hx hb hown (hts (.constantLong RX12 243 (-4)) (by decide +kernel)) dX12_size_40 ?_
            exact W.lret (v := iL ((-4 : Int))) hx hb hr (fun t ht hW => ⟨⟨iL ((-4 : Int)), (F_m_longest (x)).2, rfl, ⟨(by have h9 := congrArg (fun z : Int × MS => iL z.1) hres; exact h9), (by have h9 := congrArg (fun z : Int × MS => z.2) hres; exact h9)⟩, by rw [ht]; exact hP, va_K.moved hW.alike hK, hD⟩, hS.F ht⟩) hS.2.2 dX12_size_43
          · skip
            rw [if_pos c_31] at hres
            refine lv_ldc2 (v := iL (-9 : Int)) hx hb hown (hts (.constantLong RX12 241 (-9)) (by decide +kernel)) dX12_size_34 ?_
            refine lv_goto (tgt := 43) hx hb dX12_size_37 (by decide) ?_
            exact W.lret (v := iL ((-9 : Int))) hx hb hr (fun t ht hW => ⟨⟨iL ((-9 : Int)), (F_m_longest (x)).2, rfl, ⟨(by have h9 := congrArg (fun z : Int × MS => iL z.1) hres; exact h9), (by have h9 := congrArg (fun z : Int × MS => z.2) hres; exact h9)⟩, by rw [ht]; exact hP, va_K.moved hW.alike hK, hD⟩, hS.F ht⟩) hS.2.2 dX12_size_43
    · skip
      rw [if_pos c_4] at hres
      refine lv_ldc2 (v := iL (-3 : Int)) hx hb hown (hts (.constantLong RX12 236 (-3)) (by decide +kernel)) dX12_size_7 ?_
      exact W.lret (v := iL ((-3 : Int))) hx hb hr (fun t ht hW => ⟨⟨iL ((-3 : Int)), x, rfl, ⟨(by have h9 := congrArg (fun z : Int × MS => iL z.1) hres; exact h9), (by have h9 := congrArg (fun z : Int × MS => z.2) hres; exact h9)⟩, by rw [ht]; exact hP, va_K.moved hW.alike hK, hD⟩, hS.F ht⟩) hS.2.2 dX12_size_10
  exact key _ _ hP hS
theorem F_m_size_sfr : ∀ n : Nat, (∀ (y : MS) (v0 : Int) (v1 : Int) (v2 : Int), same [] [29, 30] y (F_m_size_s n 0 y v0 v1 v2).2) := by
  intro n
  induction n with
  | zero => exact fun y _ _ _ => sm_rf _ _ _
  | succ n ih =>
    skip
    · intro y g q k
      rw [F_m_size_e0]
      by_cases hc : (g) < (k)
      · rw [if_pos hc]
        exact (sm_rf _ _ _)
      · rw [if_neg hc]
        exact sm_tr ((sm_rf _ _ _)) (ih (y) (g) ((q) + (((y).2 28) (k).toNat)) ((k) + (1 : Int)))
theorem F_m_size_fr (x : MS)  : same [] [29, 30] x (F_m_size (x)).2 := by
  unfold F_m_size
  by_cases hc : ((F_m_isMachine (x)).1) = (0)
  · rw [if_pos hc]
    exact (sm_rf _ _ _)
  · rw [if_neg hc]
    by_cases hc : ((F_m_longest (x)).1) = ((-9 : Int))
    · rw [if_pos hc]
      by_cases hc : ((F_m_longest (x)).1) = ((-9 : Int))
      · rw [if_pos hc]
        exact (sm_tr (sm_rf _ _ _) (sm_mono (by decide) (by decide) (F_m_longest_fr (x))))
      · rw [if_neg hc]
        exact (sm_tr (sm_rf _ _ _) (sm_mono (by decide) (by decide) (F_m_longest_fr (x))))
    · rw [if_neg hc]
      by_cases hc : ((F_m_longest (x)).1) ≤ ((30 : Int))
      · rw [if_pos hc]
        exact sm_tr ((sm_tr (sm_rf _ _ _) (sm_mono (by decide) (by decide) (F_m_longest_fr (x))))) ((F_m_size_sfr 100) ((F_m_longest (x)).2) ((F_m_longest (x)).1) ((0 : Int)) ((0 : Int)))
      · rw [if_neg hc]
        by_cases hc : ((F_m_longest (x)).1) = ((-9 : Int))
        · rw [if_pos hc]
          exact (sm_tr (sm_rf _ _ _) (sm_mono (by decide) (by decide) (F_m_longest_fr (x))))
        · rw [if_neg hc]
          exact (sm_tr (sm_rf _ _ _) (sm_mono (by decide) (by decide) (F_m_longest_fr (x))))
