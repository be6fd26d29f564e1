-- deps: 99.w
def odC (x : MS) (v : List Int) : Nat → List Int → Prop
  | 0, u => u = []
  | i + 1, u => ∃ w, odC x v i w ∧ (i = 0 ∨ w ≠ []) ∧ w.length + v.length ≤ 60 ∧ nfP x (w ++ v) u
def odE (x y : MS) (a i : Nat) : Prop := ∃ u v, slK x y 9 u ∧ slK x y 10 v ∧ nfP x (slM x a) v ∧ odC x v i u ∧ (i = 0 ∨ u ≠ [])
theorem odE_0 {x y : MS} {a : Nat} {v : List Int} (k9 : slK x y 9 []) (kv : slK x y 10 v) (nv : nfP x (slM x a) v) : odE x y a ((1 : Int) - 1).toNat := ⟨[], v, k9, kv, nv, rfl, Or.inl rfl⟩
theorem od_s {x y : MS} {i9 : Int} {u v : List Int} (i0 : 1 ≤ i9) (f : slF x y) (mz : mzH x) (ku : slK x y 9 u) (kv : slK x y 10 v) (pc : odC x v (i9 - 1).toNat u) (hz : (i9 - 1).toNat = 0 ∨ u ≠ []) (h : ¬ (F_m_times y ((9 : Int)) ((10 : Int))).1 = 0) : slF x (F_m_times y ((9 : Int)) ((10 : Int))).2 ∧ ∃ w, slK x (F_m_times y ((9 : Int)) ((10 : Int))).2 9 w ∧ slK x (F_m_times y ((9 : Int)) ((10 : Int))).2 10 v ∧ odC x v i9.toNat w := by
  rcases times_D f mz ku kv (Or.inl rfl) with ⟨_, e⟩ | ⟨c, e, d, w, kw, nw⟩
  · exact absurd (congrArg Prod.fst e) h
  · refine ⟨slD_F f d (Or.inl rfl), w, kw, slD_K d (by decide) (by decide) kv, ?_⟩
    rw [show i9.toNat = (i9 - 1).toNat + 1 by omega]
    exact ⟨u, pc, hz, c, nw⟩
theorem odE_s {x y : MS} {a : Nat} {i9 : Int} {w v : List Int} (k9 : slK x y 9 w) (kv : slK x y 10 v) (nv : nfP x (slM x a) v) (pc : odC x v i9.toNat w) (h : ¬ y.2 1 ((9 : Int)).toNat = 0) : odE x y a (i9 + (1 : Int) - 1).toNat := by
  refine ⟨w, v, k9, kv, nv, by rw [show (i9 + (1 : Int) - 1).toNat = i9.toNat by omega]; exact pc, Or.inr (fun e => h ?_)⟩
  have h1 : y.2 1 ((9 : Int)).toNat = (w.length : Int) := k9.1
  rw [h1, e]; rfl
def odQ (x : MS) (a : Int) (q : Int × MS) : Prop := (¬ (0 ≤ a ∧ a ≤ 7) ∧ q = (-1, x)) ∨ ((0 ≤ a ∧ a ≤ 7) ∧ (((F_m_isMachine x).1 = 0 ∧ q = (-3, x)) ∨ (¬ (F_m_isMachine x).1 = 0 ∧ ∃ v, nfP x (slM x a.toNat) v ∧ slF x q.2 ∧ ((q.1 = -4 ∧ ∃ (i : Nat) (u : List Int), i < 100 ∧ odC x v i u ∧ (i = 0 ∨ u ≠ []) ∧ 60 < u.length + v.length) ∨ (∃ i : Nat, 1 ≤ i ∧ i ≤ 100 ∧ q.1 = (i : Int) ∧ odC x v i []) ∨ (q.1 = -9 ∧ ∃ u, odC x v 100 u ∧ u ≠ [])))))
theorem od_4 {x y : MS} {a i9 : Int} {u v : List Int} (ha : 0 ≤ a ∧ a ≤ 7) (hm : ¬ (F_m_isMachine x).1 = 0) (f : slF x y) (mz : mzH x) (ku : slK x y 9 u) (kv : slK x y 10 v) (nv : nfP x (slM x a.toNat) v) (pc : odC x v (i9 - 1).toNat u) (hz : (i9 - 1).toNat = 0 ∨ u ≠ []) (i0 : 1 ≤ i9) (i1 : i9 ≤ 100) (h : (F_m_times y ((9 : Int)) ((10 : Int))).1 = 0) : odQ x a (-4, (F_m_times y ((9 : Int)) ((10 : Int))).2) := by
  obtain ⟨h1, h2⟩ := times_f f mz ku kv h
  exact Or.inr ⟨ha, Or.inr ⟨hm, v, nv, by rw [h2]; exact f, Or.inl ⟨rfl, (i9 - 1).toNat, u, by omega, pc, hz, h1⟩⟩⟩
theorem od_5 {x y : MS} {a i9 : Int} {w v : List Int} (ha : 0 ≤ a ∧ a ≤ 7) (hm : ¬ (F_m_isMachine x).1 = 0) (f : slF x y) (k9 : slK x y 9 w) (nv : nfP x (slM x a.toNat) v) (pc : odC x v i9.toNat w) (i0 : 1 ≤ i9) (i1 : i9 ≤ 100) (h : y.2 1 ((9 : Int)).toNat = 0) : odQ x a (i9, y) := by
  have h1 : y.2 1 ((9 : Int)).toNat = (w.length : Int) := k9.1
  have e : w = [] := List.eq_nil_of_length_eq_zero (by omega)
  rw [e] at pc
  exact Or.inr ⟨ha, Or.inr ⟨hm, v, nv, f, Or.inr (Or.inl ⟨i9.toNat, by omega, by omega, by show i9 = _; omega, pc⟩)⟩⟩
theorem od_9 {x y : MS} {a i9 : Int} (ha : 0 ≤ a ∧ a ≤ 7) (hm : ¬ (F_m_isMachine x).1 = 0) (f : slF x y) (ex : odE x y a.toNat (i9 - 1).toNat) (i0 : 100 < i9) (i1 : i9 ≤ 101) : odQ x a (-9, y) := by
  obtain ⟨u, v, ku, kv, nv, pc, hz⟩ := ex
  rw [show (i9 - 1).toNat = 100 by omega] at pc hz
  exact Or.inr ⟨ha, Or.inr ⟨hm, v, nv, f, Or.inr (Or.inr ⟨rfl, u, pc, hz.resolve_left (by decide)⟩)⟩⟩
def F_m_order_s : Nat → Nat → MS → Int → Int → Int × MS
  | 0, _, x, _, _ => (0, x)
  | n + 1, t, x, p0, p1 => match t with
    | 0 => (fun (a : Int) (i9 : Int) => (if ((100 : Int)) < (i9) then ((-9 : Int), x) else (if ((F_m_times (x) ((9 : Int)) ((10 : Int))).1) = (0) then ((-4 : Int), (F_m_times (x) ((9 : Int)) ((10 : Int))).2) else (if ((((F_m_times (x) ((9 : Int)) ((10 : Int))).2).2 1) ((9 : Int)).toNat) = (0) then (i9, (F_m_times (x) ((9 : Int)) ((10 : Int))).2) else F_m_order_s n 0 ((F_m_times (x) ((9 : Int)) ((10 : Int))).2) (a) ((i9) + (1 : Int)))))) p0 p1
    | _ => (0, x)
theorem F_m_order_e0 (n : Nat) (x : MS) (a : Int) (i9 : Int) : F_m_order_s (n + 1) 0 x a i9 = (if ((100 : Int)) < (i9) then ((-9 : Int), x) else (if ((F_m_times (x) ((9 : Int)) ((10 : Int))).1) = (0) then ((-4 : Int), (F_m_times (x) ((9 : Int)) ((10 : Int))).2) else (if ((((F_m_times (x) ((9 : Int)) ((10 : Int))).2).2 1) ((9 : Int)).toNat) = (0) then (i9, (F_m_times (x) ((9 : Int)) ((10 : Int))).2) else F_m_order_s n 0 ((F_m_times (x) ((9 : Int)) ((10 : Int))).2) (a) ((i9) + (1 : Int))))) := rfl
def F_m_order (x : MS) (a : Int) : Int × MS := (if ((F_m_isSlot (x) (a)).1) = (0) then ((-1 : Int), x) else (if ((F_m_isMachine (x)).1) = (0) then ((-3 : Int), x) else F_m_order_s 200 0 (aU ((F_m_reduceAt ((F_m_copy (x) (a) ((10 : Int))).2) ((10 : Int))).2) 1 ((9 : Int)).toNat ((0 : Int))) (a) ((1 : Int))))
set_option maxHeartbeats 4000000 in
set_option maxRecDepth 100000 in
/-- order -/
theorem c_m_order (l : Launch) (dC : Nat → ClassId) (dI : Nat → Nat → Nat) (h : Nat) (ad : Nat → Nat) (cI cJ cZ : ClassId) (sz : Nat) (x : MS) (a : Int) (ra : iR a) (sn : iR (x.1 6)) (ic : x.1 27 = 0 ∨ x.1 27 = 1) (mz : ¬ (F_m_isMachine x).1 = 0 → mzH x) (hrw : rwR x) (hs : ∀ k : Nat, k < 9 → slH x k) : Met l yX12_order wsX12_order ({ frames := 2, cells := 0, slots := 0, locals := 57 }) (mPc dC dI h ad cI cJ cZ sz x [.ref h, .int (iI a)]) (va_Qi (fun (r : Int32) (u : MS) => r = iI (F_m_order (x) (a)).1 ∧ u = (F_m_order (x) (a)).2) (mAt dC dI h ad cI cJ cZ (va_A (mW h ad cI cJ cZ (x)) sz)) (va_A (mW h ad cI cJ cZ (x)) sz)) 0 0 (va_A (mW h ad cI cJ cZ (x)) sz) := by
  refine Met.ofW (cc := cX12_order) (maxL := 3) (ret := (some .int)) (by decide) rfl ?_
  intro p e s m args below meth c s₁ B hml hv
  obtain ⟨rfl, hsz, hP, hK, hD0⟩ := hv
  have hx := B.exec
  have hb := B.bytes
  have hr := B.returns
  have hts := atoms_spec (ws := wsX12_order) B.pre
  have hown : s.vm.findClass RX12 = some m.cls := findClass_of_methodNamed B.named
  have hlocks := B.notSynchronized
  have hin : ∀ w ∈ u_ws RX12 TX12 34, w ∈ wsX12_order := by decide +kernel
  subst hsz
  have hD := hD0.self (sz := s.heap.size)
  generalize hAe : va_A (mW h ad cI cJ cZ (x)) s.heap.size = A at hD ⊢
  have hA : ∀ q : Nat, s.heap.size ≤ q → A q := fun q h => by rw [← hAe]; exact Or.inr h
  have hS : va_S A s.heap s.heap [] := va_S.rf
  have hl := lv_entry ([.ref h, .int (iI a)]) (n := 3) (Nat.le_of_ble_eq_true rfl)
  rw [lg_entry_eq]
  generalize (lg_sl ([.ref h, .int (iI a)]) ++ List.replicate (3 - (lg_sl ([.ref h, .int (iI a)])).length) Slot.unset).toArray = ls at hl ⊢
  have hl : lv_has ls 3 [(0, .ref (h)), (1, .int (iI (a)))] := hl
  have L : ∀ n : Nat, (∀ (y : MS) (i9 : Int), (slF x y) → (odE x y a.toNat (i9 - 1).toNat) → (mzH x) → (¬ (F_m_isMachine x).1 = 0) → (0 ≤ a ∧ a ≤ 7) → (1 ≤ i9) → (i9 ≤ 101) → (150 - i9 < n) → F_m_order_s n 0 y a i9 = F_m_order (x) (a) → ∀ (H : Heap) (locs : List Loc) (ls : Array Slot), va_P (dC, dI) vwCl (mW h ad cI cJ cZ (y)) H → va_D A (mW h ad cI cJ cZ (y)) → va_S A s.heap H locs → lv_has ls 3 [(0, .ref (h)), (1, .int (iI (a))), (2, .int (iI (i9)))] → W p l e (headSpec wsX12_order ({ frames := 2, cells := 0, slots := 0, locals := 57 })).room s m ([.ref h, .int (iI a)] : List Value).toArray below meth c H locs 0 0 (MQ below (va_Qi (fun (r : Int32) (u : MS) => r = iI (F_m_order (x) (a)).1 ∧ u = (F_m_order (x) (a)).2) (mAt dC dI h ad cI cJ cZ A) A) ([.ref h, .int (iI a)] : List Value).toArray s 0 0 A) (F0 m 42 ls [])) := by
    intro n
    induction n with
    | zero =>
      skip
      · intro y i9 fy ex mz0 hm ha i0 i2 fu hres
        exact absurd fu (by omega)
    | succ n ih =>
      skip
      · intro y i9 fy ex mz0 hm ha i0 i2 fu hres H locs ls hP hD hS hl
        rw [F_m_order_e0] at hres
        refine lv_iload_n hx hb dX12_order_42 rfl (lv_at hl 2 rfl) ?_
        refine lv_bipush (v := iI (100 : Int)) hx hb dX12_order_43 (by decide) ?_
        refine wi_icmp_gt (tgt := 80) hx hb (by first | assumption | (unfold iR; omega) | exact F_R01 (by assumption)) ⟨by decide, by decide⟩ dX12_order_45 (by decide) (fun c_45 => ?_) (fun c_45 => ?_)
        · skip
          rw [if_pos c_45] at hres
          refine lv_bipush (v := iI (-9 : Int)) hx hb dX12_order_80 (by decide) ?_
          exact W.iret (v := iI ((-9 : Int))) hx hb hr (fun t ht hW => ⟨⟨iI ((-9 : Int)), y, rfl, ⟨(by have h9 := congrArg (fun z : Int × MS => iI z.1) hres; exact h9), (by have h9 := congrArg (fun z : Int × MS => z.2) hres; exact h9)⟩, by rw [ht]; exact hP, va_K.moved hW.alike hK, hD⟩, hS.F ht⟩) hS.2.2 dX12_order_82
        · skip
          rw [if_neg c_45] at hres
          obtain ⟨u0, v0, ku, kv, nv, pc9, hz⟩ := id ex
          have t01 := times_01 fy mz0 ku kv
          refine lv_aload_n hx hb dX12_order_48 rfl (lv_at hl 0 rfl) ?_
          refine lv_bipush (v := iI (9 : Int)) hx hb dX12_order_49 (by decide) ?_
          refine lv_bipush (v := iI (10 : Int)) hx hb dX12_order_51 (by decide) ?_
          have hFc : ∀ q, va_A (mW h ad cI cJ cZ (y)) H.size q → A q := fun q hq => Or.elim hq (fun ⟨k, e, hk⟩ => hD.2 k (q, e) hk) (fun hk => hA q (Nat.le_trans hS.1 hk))
          refine va_calli (va_runV (As := [.int (iI ((9 : Int))), .int (iI ((10 : Int)))]) (rest := []) ⟨hx, hb, hml, hown, hts⟩ (c_m_times l dC dI h ad cI cJ cZ H.size (y) ((9 : Int)) ((10 : Int)) rfl (Or.inl rfl) (mz_e fy mz0).1 fy.2.1 (slK_H (slF_0e fy) ku) (slK_H (slF_0e fy) kv)) (cwV 2 hts gX12_order_X12_times rfl rfl rfl (by decide +kernel) ⟨Nat.le_of_ble_eq_true rfl, Nat.le_of_ble_eq_true rfl⟩) ⟨fun a U g mk q => by obtain ⟨q0, q1, qP, qK, qD⟩ := q; exact ⟨q0, q1, qP, va_K.moved (u := U) (U := U.calling g mk a) (Vm.Alike.refl U.vm) qK, qD⟩, va_recv hK hP (ci := 12) (q0 := 0) rfl rfl, fun U hU hW => ⟨rfl, by rw [hU], by rw [hU]; exact hP, va_K.moved hW.alike hK, hD.weaken (fun _ _ _ _ => trivial)⟩⟩ rfl rfl hl.1 rfl (lv_room (Nat.le_of_ble_eq_true rfl)) dX12_order_53 ⟨Nat.le_of_ble_eq_true rfl, Nat.le_of_ble_eq_true rfl⟩) hS (fun q _ h => hFc q h) hFc (fun r9 u9 t H1 locs ht hvm hw hB hz1 hk1 hS => ?_)
          obtain ⟨hP1, hK1, hD1⟩ := hB
          rw [ht] at hP1
          obtain ⟨hw1, hw2⟩ := hw
          rw [hw2] at hP1 hD1
          rw [hw1]
          have hD2 := hD1.weaken (B := A) (fun _ q _ h => hFc q.1 h)
          have hP := hP1
          have hD := hD2
          generalize H1 = H at hP hS ⊢
          refine wi_if_ne (tgt := 62) hx hb (by first | assumption | (unfold iR; omega) | exact F_R01 (by assumption)) dX12_order_56 (by decide) (fun c_56 => ?_) (fun c_56 => ?_)
          · skip
            rw [if_neg c_56] at hres
            obtain ⟨f5, w0, k5, kv5, pc5⟩ := od_s i0 fy mz0 ku kv pc9 hz c_56
            have s5 : (F_m_times y ((9 : Int)) ((10 : Int))).2.2 1 ((9 : Int)).toNat = (w0.length : Int) := k5.1
            have s6 := k5.2.2.2
            refine lv_aload_n hx hb dX12_order_62 rfl (lv_at hl 0 rfl) ?_
            refine va_get (D := (dC, dI)) (ci := 12) (v := .ref (ad 1)) (C := RX12) (T := TX12) (N := 34) hx hb hts hin hown hK hP 0 rfl rfl 1 (by decide) (hts (.fieldLink RX12 13 "LikeWordsModel" "size" "[I") (by decide +kernel)) (fun _ h9 => h9) rfl dX12_order_63 ?_
            refine lv_bipush (v := iI (9 : Int)) hx hb dX12_order_66 (by decide) ?_
            refine wi_iald (f := ((F_m_times (y) ((9 : Int)) ((10 : Int))).2).2 1) hx hb hK hP 1 0 rfl rfl (i := (9 : Int)) (by omega) (by omega) (by decide) dX12_order_68 ?_
            refine wi_if_ne (tgt := 74) hx hb (by first | assumption | (unfold iR; omega) | exact F_R01 (by assumption)) dX12_order_69 (by decide) (fun c_69 => ?_) (fun c_69 => ?_)
            · skip
              rw [if_neg c_69] at hres
              refine lv_iinc (v := iI ((i9) + (1 : Int))) (lv' := [(2, .int (iI ((i9) + (1 : Int)))), (0, .ref (h)), (1, .int (iI (a)))]) hx hb dX12_order_74 hl (k := 2) rfl (iI_add _ _) (by decide) rfl (fun ls hl => ?_)
              refine lv_goto (tgt := 42) hx hb dX12_order_77 (by decide) ?_
              exact ih ((F_m_times (y) ((9 : Int)) ((10 : Int))).2) ((i9) + (1 : Int)) (f5) (odE_s k5 kv5 nv pc5 c_69) (mz0) (hm) (ha) (by omega) (by omega) (by omega) hres _ _ ls hP hD hS (lv_sub hl [1, 2, 0] rfl)
            · skip
              rw [if_pos c_69] at hres
              refine lv_iload_n hx hb dX12_order_72 rfl (lv_at hl 2 rfl) ?_
              exact W.iret (v := iI (i9)) hx hb hr (fun t ht hW => ⟨⟨iI (i9), (F_m_times (y) ((9 : Int)) ((10 : Int))).2, rfl, ⟨(by have h9 := congrArg (fun z : Int × MS => iI z.1) hres; exact h9), (by have h9 := congrArg (fun z : Int × MS => z.2) hres; exact h9)⟩, by rw [ht]; exact hP, va_K.moved hW.alike hK, hD⟩, hS.F ht⟩) hS.2.2 dX12_order_73
          · skip
            rw [if_pos c_56] at hres
            refine lv_bipush (v := iI (-4 : Int)) hx hb dX12_order_59 (by decide) ?_
            exact W.iret (v := iI ((-4 : Int))) hx hb hr (fun t ht hW => ⟨⟨iI ((-4 : Int)), (F_m_times (y) ((9 : Int)) ((10 : Int))).2, rfl, ⟨(by have h9 := congrArg (fun z : Int × MS => iI z.1) hres; exact h9), (by have h9 := congrArg (fun z : Int × MS => z.2) hres; exact h9)⟩, by rw [ht]; exact hP, va_K.moved hW.alike hK, hD⟩, hS.F ht⟩) hS.2.2 dX12_order_61
  have key : ∀ (H : Heap) (locs : List Loc), va_P (dC, dI) vwCl (mW h ad cI cJ cZ (x)) H → va_S A s.heap H locs → W p l e (headSpec wsX12_order ({ frames := 2, cells := 0, slots := 0, locals := 57 })).room s m ([.ref h, .int (iI a)] : List Value).toArray below meth c H locs 0 0 (MQ below (va_Qi (fun (r : Int32) (u : MS) => r = iI (F_m_order (x) (a)).1 ∧ u = (F_m_order (x) (a)).2) (mAt dC dI h ad cI cJ cZ A) A) ([.ref h, .int (iI a)] : List Value).toArray s 0 0 A) (F0 m 0 ls []) := by
    intro H locs hP hS
    have hres : (if ((F_m_isSlot (x) (a)).1) = (0) then ((-1 : Int), x) else (if ((F_m_isMachine (x)).1) = (0) then ((-3 : Int), x) else F_m_order_s 200 0 (aU ((F_m_reduceAt ((F_m_copy (x) (a) ((10 : Int))).2) ((10 : Int))).2) 1 ((9 : Int)).toNat ((0 : Int))) (a) ((1 : Int)))) = F_m_order (x) (a) := rfl
    refine lv_iload_n hx hb dX12_order_0 rfl (lv_at hl 1 rfl) ?_
    have hFc : ∀ q, va_A (mW h ad cI cJ cZ (x)) H.size q → A q := fun q hq => Or.elim hq (fun ⟨k, e, hk⟩ => hD.2 k (q, e) hk) (fun hk => hA q (Nat.le_trans hS.1 hk))
    refine va_calli (va_runS (As := [.int (iI (a))]) (rest := []) ⟨hx, hb, hml, hown, hts⟩ (c_m_isSlot l dC dI h ad cI cJ cZ H.size (x) (a) (by first | assumption | exact iR_L (by assumption) | exact ⟨by decide, by decide⟩ | omega | (unfold iR; omega) | (unfold iRL; omega))) (va_cwS 1 hts gX12_order_X12_isSlot rfl rfl rfl (by decide +kernel) ⟨Nat.le_of_ble_eq_true rfl, Nat.le_of_ble_eq_true rfl⟩) ⟨fun a U g mk q => by obtain ⟨q0, q1, qP, qK, qD⟩ := q; exact ⟨q0, q1, qP, va_K.moved (u := U) (U := U.calling g mk a) (Vm.Alike.refl U.vm) qK, qD⟩, fun U hU hW => ⟨rfl, by rw [hU], by rw [hU]; exact hP, va_K.moved hW.alike hK, hD.weaken (fun _ _ _ _ => trivial)⟩⟩ rfl rfl hl.1 rfl (lv_room (Nat.le_of_ble_eq_true rfl)) dX12_order_1 ⟨Nat.le_of_ble_eq_true rfl, Nat.le_of_ble_eq_true rfl⟩) hS (fun q _ h => hFc q h) hFc (fun r9 u9 t H1 locs ht hvm hw hB hz1 hk1 hS => ?_)
    obtain ⟨hP1, hK1, hD1⟩ := hB
    rw [ht] at hP1
    obtain ⟨hw1, hw2⟩ := hw
    rw [hw2] at hP1 hD1
    rw [hw1]
    rw [F_m_isSlot_2] at hP1 hD1
    have hD2 := hD1.weaken (B := A) (fun _ q _ h => hFc q.1 h)
    have hP := hP1
    have hD := hD2
    generalize H1 = H at hP hS ⊢
    refine wi_if_ne (tgt := 9) hx hb (by rw [F_m_isSlot_1]; exact F_R01 (F_in_01 _ _ _)) dX12_order_4 (by decide) (fun c_4 => ?_) (fun c_4 => ?_)
    · skip
      rw [if_neg c_4] at hres
      obtain ⟨a0, a1⟩ := F_in_1 (by rw [← F_m_isSlot_1 x a]; exact c_4)
      refine lv_aload_n hx hb dX12_order_9 rfl (lv_at hl 0 rfl) ?_
      have hFc : ∀ q, va_A (mW h ad cI cJ cZ (x)) H.size q → A q := fun q hq => Or.elim hq (fun ⟨k, e, hk⟩ => hD.2 k (q, e) hk) (fun hk => hA q (Nat.le_trans hS.1 hk))
      refine va_calli (va_runV (As := []) (rest := []) ⟨hx, hb, hml, hown, hts⟩ (c_m_isMachine l dC dI h ad cI cJ cZ H.size (x)  sn ic) (cwV 0 hts gX12_order_X12_isMachine rfl rfl rfl (by decide +kernel) ⟨Nat.le_of_ble_eq_true rfl, Nat.le_of_ble_eq_true rfl⟩) ⟨fun a U g mk q => by obtain ⟨q0, q1, qP, qK, qD⟩ := q; exact ⟨q0, q1, qP, va_K.moved (u := U) (U := U.calling g mk a) (Vm.Alike.refl U.vm) qK, qD⟩, va_recv hK hP (ci := 12) (q0 := 0) rfl rfl, fun U hU hW => ⟨rfl, by rw [hU], by rw [hU]; exact hP, va_K.moved hW.alike hK, hD.weaken (fun _ _ _ _ => trivial)⟩⟩ rfl rfl hl.1 rfl (lv_room (Nat.le_of_ble_eq_true rfl)) dX12_order_10 ⟨Nat.le_of_ble_eq_true rfl, Nat.le_of_ble_eq_true rfl⟩) hS (fun q _ h => hFc q h) hFc (fun r9 u9 t H1 locs ht hvm hw hB hz1 hk1 hS => ?_)
      obtain ⟨hP1, hK1, hD1⟩ := hB
      rw [ht] at hP1
      obtain ⟨hw1, hw2⟩ := hw
      rw [hw2] at hP1 hD1
      rw [hw1]
      rw [F_m_isMachine_2] at hP1 hD1
      have hD2 := hD1.weaken (B := A) (fun _ q _ h => hFc q.1 h)
      have hP := hP1
      have hD := hD2
      generalize H1 = H at hP hS ⊢
      refine wi_if_ne (tgt := 19) hx hb (F_R01 (F_m_isMachine_01 x)) dX12_order_13 (by decide) (fun c_13 => ?_) (fun c_13 => ?_)
      · skip
        rw [if_neg c_13] at hres
        have mz0 := mz c_13
        have zb := (hs a.toNat (by omega)).1
        refine lv_aload_n hx hb dX12_order_19 rfl (lv_at hl 0 rfl) ?_
        refine lv_iload_n hx hb dX12_order_20 rfl (lv_at hl 1 rfl) ?_
        refine lv_bipush (v := iI (10 : Int)) hx hb dX12_order_21 (by decide) ?_
        have hFc : ∀ q, va_A (mW h ad cI cJ cZ (x)) H.size q → A q := fun q hq => Or.elim hq (fun ⟨k, e, hk⟩ => hD.2 k (q, e) hk) (fun hk => hA q (Nat.le_trans hS.1 hk))
        refine va_callv (va_runV (As := [.int (iI (a)), .int (iI ((10 : Int)))]) (rest := []) ⟨hx, hb, hml, hown, hts⟩ (c_m_copy l dC dI h ad cI cJ cZ H.size (x) (a) ((10 : Int)) (by omega) (by omega) (by omega) (by omega) (by omega) (by omega)) (cwV 2 hts gX12_order_X12_copy rfl rfl rfl (by decide +kernel) ⟨Nat.le_of_ble_eq_true rfl, Nat.le_of_ble_eq_true rfl⟩) ⟨fun a U g mk q => by obtain ⟨q0, q1, qP, qK, qD⟩ := q; exact ⟨q0, q1, qP, va_K.moved (u := U) (U := U.calling g mk a) (Vm.Alike.refl U.vm) qK, qD⟩, va_recv hK hP (ci := 12) (q0 := 0) rfl rfl, fun U hU hW => ⟨rfl, by rw [hU], by rw [hU]; exact hP, va_K.moved hW.alike hK, hD.weaken (fun _ _ _ _ => trivial)⟩⟩ rfl rfl hl.1 rfl (lv_room (Nat.le_of_ble_eq_true rfl)) dX12_order_23 ⟨Nat.le_of_ble_eq_true rfl, Nat.le_of_ble_eq_true rfl⟩) hS (fun q _ h => hFc q h) hFc (fun u9 t H1 locs ht hvm hw hB hz1 hk1 hS => ?_)
        obtain ⟨hP1, hK1, hD1⟩ := hB
        rw [ht] at hP1
        rw [hw] at hP1 hD1
        have hD2 := hD1.weaken (B := A) (fun _ q _ h => hFc q.1 h)
        have hP := hP1
        have hD := hD2
        generalize H1 = H at hP hS ⊢
        have d1 : slD x ((F_m_copy (x) (a) ((10 : Int))).2) 10 ∧ slK x ((F_m_copy (x) (a) ((10 : Int))).2) 10 (slM x a.toNat) := by
          have h9 := copy_D (x := x) (b := 10) hrw (slH_K (hs a.toNat (by omega))) (by omega) (by omega)
          rw [show (a.toNat : Int) = a by omega] at h9
          exact h9
        have f1 := slD_F (slF_0 hrw) d1.1 (by decide)
        have r1 := slH_r f1 mz0 d1.2 (by omega) (by omega)
        refine lv_aload_n hx hb dX12_order_26 rfl (lv_at hl 0 rfl) ?_
        refine lv_bipush (v := iI (10 : Int)) hx hb dX12_order_27 (by decide) ?_
        have hFc : ∀ q, va_A (mW h ad cI cJ cZ ((F_m_copy (x) (a) ((10 : Int))).2)) H.size q → A q := fun q hq => Or.elim hq (fun ⟨k, e, hk⟩ => hD.2 k (q, e) hk) (fun hk => hA q (Nat.le_trans hS.1 hk))
        refine va_callv (va_runV (As := [.int (iI ((10 : Int)))]) (rest := []) ⟨hx, hb, hml, hown, hts⟩ (c_m_reduceAt l dC dI h ad cI cJ cZ H.size ((F_m_copy (x) (a) ((10 : Int))).2) ((10 : Int)) (by omega) (by omega) (by omega) r1.1.2.1.1 r1.1.2.1.2 r1.1.2.2.1 r1.1.2.2.2.1 r1.1.2.2.2.2) (cwV 1 hts gX12_order_X12_reduceAt rfl rfl rfl (by decide +kernel) ⟨Nat.le_of_ble_eq_true rfl, Nat.le_of_ble_eq_true rfl⟩) ⟨fun a U g mk q => by obtain ⟨q0, q1, qP, qK, qD⟩ := q; exact ⟨q0, q1, qP, va_K.moved (u := U) (U := U.calling g mk a) (Vm.Alike.refl U.vm) qK, qD⟩, va_recv hK hP (ci := 12) (q0 := 0) rfl rfl, fun U hU hW => ⟨rfl, by rw [hU], by rw [hU]; exact hP, va_K.moved hW.alike hK, hD.weaken (fun _ _ _ _ => trivial)⟩⟩ rfl rfl hl.1 rfl (lv_room (Nat.le_of_ble_eq_true rfl)) dX12_order_29 ⟨Nat.le_of_ble_eq_true rfl, Nat.le_of_ble_eq_true rfl⟩) hS (fun q _ h => hFc q h) hFc (fun u9 t H1 locs ht hvm hw hB hz1 hk1 hS => ?_)
        obtain ⟨hP1, hK1, hD1⟩ := hB
        rw [ht] at hP1
        rw [hw] at hP1 hD1
        have hD2 := hD1.weaken (B := A) (fun _ q _ h => hFc q.1 h)
        have hP := hP1
        have hD := hD2
        generalize H1 = H at hP hS ⊢
        obtain ⟨d2, v0, kv, nv⟩ := red_D f1 mz0 d1.2 (by omega) (by omega)
        have f2 : slF x ((F_m_reduceAt ((F_m_copy (x) (a) ((10 : Int))).2) ((10 : Int))).2) := slD_F f1 d2 (by decide)
        refine lv_aload_n hx hb dX12_order_32 rfl (lv_at hl 0 rfl) ?_
        refine va_get (D := (dC, dI)) (ci := 12) (v := .ref (ad 1)) (C := RX12) (T := TX12) (N := 34) hx hb hts hin hown hK hP 0 rfl rfl 1 (by decide) (hts (.fieldLink RX12 13 "LikeWordsModel" "size" "[I") (by decide +kernel)) (fun _ h9 => h9) rfl dX12_order_33 ?_
        refine lv_bipush (v := iI (9 : Int)) hx hb dX12_order_36 (by decide) ?_
        refine lv_iconst (v := iI (0 : Int)) hx hb dX12_order_38 (by decide) ?_
        refine wi_iast (f := ((F_m_reduceAt ((F_m_copy (x) (a) ((10 : Int))).2) ((10 : Int))).2).2 1) hx hb hK hP hD hS 1 0 rfl rfl (i := (9 : Int)) (x := (0 : Int)) (by omega) (by omega) (by decide) dX12_order_39 (fun H locs hP hD hS => ?_)
        rw [mW_a1] at hP hD
        have d3 : slD _ (aU ((F_m_reduceAt ((F_m_copy (x) (a) ((10 : Int))).2) ((10 : Int))).2) 1 ((9 : Int)).toNat ((0 : Int))) 9 ∧ slK x (aU ((F_m_reduceAt ((F_m_copy (x) (a) ((10 : Int))).2) ((10 : Int))).2) 1 ((9 : Int)).toNat ((0 : Int))) 9 [] := zero_D f2.2.1
        have f3 := slD_F f2 d3.1 (by decide)
        have kv3 := slD_K d3.1 (by decide) (by decide) kv
        refine lv_iconst (v := iI (1 : Int)) hx hb dX12_order_40 (by decide) ?_
        refine lv_istore_n (lv' := [(2, .int (iI ((1 : Int)))), (0, .ref (h)), (1, .int (iI (a)))]) hx hb dX12_order_41 rfl hl (by decide) rfl (fun ls hl => ?_)
        exact (L (200)) (aU ((F_m_reduceAt ((F_m_copy (x) (a) ((10 : Int))).2) ((10 : Int))).2) 1 ((9 : Int)).toNat ((0 : Int))) ((1 : Int)) (f3) (odE_0 d3.2 kv3 nv) (mz0) (c_13) (by omega) (by omega) (by omega) (by omega) hres _ _ ls hP hD hS (lv_sub hl [1, 2, 0] rfl)
      · skip
        rw [if_pos c_13] at hres
        refine lv_bipush (v := iI (-3 : Int)) hx hb dX12_order_16 (by decide) ?_
        exact W.iret (v := iI ((-3 : Int))) hx hb hr (fun t ht hW => ⟨⟨iI ((-3 : Int)), x, rfl, ⟨(by have h9 := congrArg (fun z : Int × MS => iI z.1) hres; exact h9), (by have h9 := congrArg (fun z : Int × MS => z.2) hres; exact h9)⟩, by rw [ht]; exact hP, va_K.moved hW.alike hK, hD⟩, hS.F ht⟩) hS.2.2 dX12_order_18
    · skip
      rw [if_pos c_4] at hres
      refine lv_iconst (v := iI (-1 : Int)) hx hb dX12_order_7 (by decide) ?_
      exact W.iret (v := iI ((-1 : Int))) hx hb hr (fun t ht hW => ⟨⟨iI ((-1 : Int)), x, rfl, ⟨(by have h9 := congrArg (fun z : Int × MS => iI z.1) hres; exact h9), (by have h9 := congrArg (fun z : Int × MS => z.2) hres; exact h9)⟩, by rw [ht]; exact hP, va_K.moved hW.alike hK, hD⟩, hS.F ht⟩) hS.2.2 dX12_order_8
  exact key _ _ hP hS
theorem F_m_order_sfr : ∀ n : Nat, (∀ (y : MS) (v0 : Int) (v1 : Int), same [] [1, 2, 26] y (F_m_order_s n 0 y v0 v1).2) := by
  intro n
  induction n with
  | zero => exact fun y _ _ => sm_rf _ _ _
  | succ n ih =>
    skip
    · intro y a i9
      rw [F_m_order_e0]
      by_cases hc : ((100 : Int)) < (i9)
      · rw [if_pos hc]
        exact (sm_rf _ _ _)
      · rw [if_neg hc]
        by_cases hc : ((F_m_times (y) ((9 : Int)) ((10 : Int))).1) = (0)
        · rw [if_pos hc]
          exact (sm_tr (sm_rf _ _ _) (sm_mono (by decide) (by decide) (F_m_times_fr (y) ((9 : Int)) ((10 : Int)))))
        · rw [if_neg hc]
          by_cases hc : ((((F_m_times (y) ((9 : Int)) ((10 : Int))).2).2 1) ((9 : Int)).toNat) = (0)
          · rw [if_pos hc]
            exact (sm_tr (sm_rf _ _ _) (sm_mono (by decide) (by decide) (F_m_times_fr (y) ((9 : Int)) ((10 : Int)))))
          · rw [if_neg hc]
            exact sm_tr ((sm_tr (sm_rf _ _ _) (sm_mono (by decide) (by decide) (F_m_times_fr (y) ((9 : Int)) ((10 : Int)))))) (ih ((F_m_times (y) ((9 : Int)) ((10 : Int))).2) (a) ((i9) + (1 : Int)))
theorem F_m_order_fr (x : MS) (a : Int) : same [] [1, 2, 26] x (F_m_order (x) (a)).2 := by
  unfold F_m_order
  by_cases hc : ((F_m_isSlot (x) (a)).1) = (0)
  · rw [if_pos hc]
    exact (sm_rf _ _ _)
  · rw [if_neg hc]
    by_cases hc : ((F_m_isMachine (x)).1) = (0)
    · rw [if_pos hc]
      exact (sm_rf _ _ _)
    · rw [if_neg hc]
      exact sm_tr ((sm_a (by decide) (sm_tr (sm_tr (sm_rf _ _ _) (sm_mono (by decide) (by decide) (F_m_copy_fr (x) (a) ((10 : Int))))) (sm_mono (by decide) (by decide) (F_m_reduceAt_fr ((F_m_copy (x) (a) ((10 : Int))).2) ((10 : Int))))))) ((F_m_order_sfr 200) (aU ((F_m_reduceAt ((F_m_copy (x) (a) ((10 : Int))).2) ((10 : Int))).2) 1 ((9 : Int)).toNat ((0 : Int))) (a) ((1 : Int)))
set_option maxHeartbeats 4000000 in
theorem F_m_order_p (x : MS) (a : Int) (ra : iR a) (sn : iR (x.1 6)) (ic : x.1 27 = 0 ∨ x.1 27 = 1) (mz : ¬ (F_m_isMachine x).1 = 0 → mzH x) (hrw : rwR x) (hs : ∀ k : Nat, k < 9 → slH x k) : odQ x a (F_m_order (x) (a)) := by
  have L : ∀ n : Nat, (∀ (y : MS) (i9 : Int), (slF x y) → (odE x y a.toNat (i9 - 1).toNat) → (mzH x) → (¬ (F_m_isMachine x).1 = 0) → (0 ≤ a ∧ a ≤ 7) → (1 ≤ i9) → (i9 ≤ 101) → (150 - i9 < n) → odQ x a (F_m_order_s n 0 y a i9)) := by
    intro n
    induction n with
    | zero =>
      skip
      · intro y i9 fy ex mz0 hm ha i0 i2 fu
        exact absurd fu (by omega)
    | succ n ih =>
      skip
      · intro y i9 fy ex mz0 hm ha i0 i2 fu
        rw [F_m_order_e0]
        by_cases c_45 : ((100 : Int)) < (i9)
        · rw [if_pos c_45]
          exact od_9 ha hm fy ex (by omega) i2
        · rw [if_neg c_45]
          obtain ⟨u0, v0, ku, kv, nv, pc9, hz⟩ := id ex
          have t01 := times_01 fy mz0 ku kv
          by_cases c_56 : ((F_m_times (y) ((9 : Int)) ((10 : Int))).1) = (0)
          · rw [if_pos c_56]
            exact od_4 ha hm fy mz0 ku kv nv pc9 hz i0 (by omega) c_56
          · rw [if_neg c_56]
            obtain ⟨f5, w0, k5, kv5, pc5⟩ := od_s i0 fy mz0 ku kv pc9 hz c_56
            have s5 : (F_m_times y ((9 : Int)) ((10 : Int))).2.2 1 ((9 : Int)).toNat = (w0.length : Int) := k5.1
            have s6 := k5.2.2.2
            by_cases c_69 : ((((F_m_times (y) ((9 : Int)) ((10 : Int))).2).2 1) ((9 : Int)).toNat) = (0)
            · rw [if_pos c_69]
              exact od_5 ha hm f5 k5 nv pc5 i0 (by omega) c_69
            · rw [if_neg c_69]
              exact ih ((F_m_times (y) ((9 : Int)) ((10 : Int))).2) ((i9) + (1 : Int)) (f5) (odE_s k5 kv5 nv pc5 c_69) (mz0) (hm) (ha) (by omega) (by omega) (by omega)
  unfold F_m_order
  by_cases c_4 : ((F_m_isSlot (x) (a)).1) = (0)
  · rw [if_pos c_4]
    exact Or.inl ⟨F_in_00 (by rw [← F_m_isSlot_1 x a]; exact c_4), rfl⟩
  · rw [if_neg c_4]
    obtain ⟨a0, a1⟩ := F_in_1 (by rw [← F_m_isSlot_1 x a]; exact c_4)
    by_cases c_13 : ((F_m_isMachine (x)).1) = (0)
    · rw [if_pos c_13]
      exact Or.inr ⟨by omega, Or.inl ⟨c_13, rfl⟩⟩
    · rw [if_neg c_13]
      have mz0 := mz c_13
      have zb := (hs a.toNat (by omega)).1
      have d1 : slD x ((F_m_copy (x) (a) ((10 : Int))).2) 10 ∧ slK x ((F_m_copy (x) (a) ((10 : Int))).2) 10 (slM x a.toNat) := by
        have h9 := copy_D (x := x) (b := 10) hrw (slH_K (hs a.toNat (by omega))) (by omega) (by omega)
        rw [show (a.toNat : Int) = a by omega] at h9
        exact h9
      have f1 := slD_F (slF_0 hrw) d1.1 (by decide)
      have r1 := slH_r f1 mz0 d1.2 (by omega) (by omega)
      obtain ⟨d2, v0, kv, nv⟩ := red_D f1 mz0 d1.2 (by omega) (by omega)
      have f2 : slF x ((F_m_reduceAt ((F_m_copy (x) (a) ((10 : Int))).2) ((10 : Int))).2) := slD_F f1 d2 (by decide)
      have d3 : slD _ (aU ((F_m_reduceAt ((F_m_copy (x) (a) ((10 : Int))).2) ((10 : Int))).2) 1 ((9 : Int)).toNat ((0 : Int))) 9 ∧ slK x (aU ((F_m_reduceAt ((F_m_copy (x) (a) ((10 : Int))).2) ((10 : Int))).2) 1 ((9 : Int)).toNat ((0 : Int))) 9 [] := zero_D f2.2.1
      have f3 := slD_F f2 d3.1 (by decide)
      have kv3 := slD_K d3.1 (by decide) (by decide) kv
      exact (L (200)) (aU ((F_m_reduceAt ((F_m_copy (x) (a) ((10 : Int))).2) ((10 : Int))).2) 1 ((9 : Int)).toNat ((0 : Int))) ((1 : Int)) (f3) (odE_0 d3.2 kv3 nv) (mz0) (c_13) (by omega) (by omega) (by omega) (by omega)
