-- deps: 99.v
def pwQ (x : MS) (a k c0 : Int) (q : Int × MS) : Prop := (¬ ((0 ≤ a ∧ a ≤ 7) ∧ (0 ≤ c0 ∧ c0 ≤ 7)) ∧ q = (-1, x)) ∨ (((0 ≤ a ∧ a ≤ 7) ∧ (0 ≤ c0 ∧ c0 ≤ 7)) ∧ ((¬ (0 ≤ k ∧ k ≤ 100) ∧ q = (-2, x)) ∨ ((0 ≤ k ∧ k ≤ 100) ∧ (((F_m_isMachine x).1 = 0 ∧ q = (-3, x)) ∨ (¬ (F_m_isMachine x).1 = 0 ∧ ∃ v, nfP x (slM x a.toNat) v ∧ ((q.1 = -4 ∧ slF x q.2 ∧ ∃ (i : Nat) (u : List Int), (i : Int) < k ∧ pwC x v i u ∧ 60 < u.length + v.length) ∨ ∃ u, pwC x v k.toNat u ∧ q.1 = (u.length : Int) ∧ slC x q.2 c0.toNat u))))))
theorem F_in_00 {v a b : Int} (h : F_in v a b = 0) : ¬ (a ≤ v ∧ v ≤ b) := by unfold F_in at h; split at h <;> simp_all
theorem pw_4 {x y : MS} {a k c0 i9 : Int} {u v : List Int} (ha : 0 ≤ a ∧ a ≤ 7) (hc : 0 ≤ c0 ∧ c0 ≤ 7) (hk : 0 ≤ k ∧ k ≤ 100) (hm : ¬ (F_m_isMachine x).1 = 0) (f : slF x y) (mz : mzH x) (ku : slK x y 9 u) (kv : slK x y 10 v) (nv : nfP x (slM x a.toNat) v) (pc : pwC x v i9.toNat u) (i0 : 0 ≤ i9) (i1 : i9 < k) (h : (F_m_times y ((9 : Int)) ((10 : Int))).1 = 0) : pwQ x a k c0 (-4, (F_m_times y ((9 : Int)) ((10 : Int))).2) := by
  obtain ⟨h1, h2⟩ := times_f f mz ku kv h
  exact Or.inr ⟨⟨ha, hc⟩, Or.inr ⟨hk, Or.inr ⟨hm, v, nv, Or.inl ⟨rfl, by rw [h2]; exact f, i9.toNat, u, by omega, pc, h1⟩⟩⟩⟩
theorem pw_5 {x y : MS} {a k c0 i9 : Int} (ha : 0 ≤ a ∧ a ≤ 7) (hc : 0 ≤ c0 ∧ c0 ≤ 7) (hk : 0 ≤ k ∧ k ≤ 100) (hm : ¬ (F_m_isMachine x).1 = 0) (f : slF x y) (ex : pwE x y a.toNat i9.toNat) (e : i9 = k) : pwQ x a k c0 ((F_m_copy y ((9 : Int)) c0).2.2 1 c0.toNat, (F_m_copy y ((9 : Int)) c0).2) := by
  obtain ⟨u, v, ku, kv, nv, pc⟩ := ex
  have C := slC_c (c := c0.toNat) f ku (by omega)
  rw [show (c0.toNat : Int) = c0 by omega] at C
  exact Or.inr ⟨⟨ha, hc⟩, Or.inr ⟨hk, Or.inr ⟨hm, v, nv, Or.inr ⟨u, by rw [← e]; exact pc, C.2.2.2.2.1, C⟩⟩⟩⟩
theorem pwE_0 {x y : MS} {a : Nat} {v : List Int} (k9 : slK x y 9 []) (kv : slK x y 10 v) (nv : nfP x (slM x a) v) : pwE x y a ((0 : Int)).toNat := ⟨[], v, k9, kv, nv, rfl⟩
def F_m_power_s : Nat → Nat → MS → Int → Int → Int → Int → Int × MS
  | 0, _, x, _, _, _, _ => (0, x)
  | n + 1, t, x, p0, p1, p2, p3 => match t with
    | 0 => (fun (a : Int) (k : Int) (c0 : Int) (i9 : Int) => (if (k) ≤ (i9) then ((((F_m_copy (x) ((9 : Int)) (c0)).2).2 1) (c0).toNat, (F_m_copy (x) ((9 : Int)) (c0)).2) else (if ((F_m_times (x) ((9 : Int)) ((10 : Int))).1) = (0) then ((-4 : Int), (F_m_times (x) ((9 : Int)) ((10 : Int))).2) else F_m_power_s n 0 ((F_m_times (x) ((9 : Int)) ((10 : Int))).2) (a) (k) (c0) ((i9) + (1 : Int))))) p0 p1 p2 p3
    | _ => (0, x)
theorem F_m_power_e0 (n : Nat) (x : MS) (a : Int) (k : Int) (c0 : Int) (i9 : Int) : F_m_power_s (n + 1) 0 x a k c0 i9 = (if (k) ≤ (i9) then ((((F_m_copy (x) ((9 : Int)) (c0)).2).2 1) (c0).toNat, (F_m_copy (x) ((9 : Int)) (c0)).2) else (if ((F_m_times (x) ((9 : Int)) ((10 : Int))).1) = (0) then ((-4 : Int), (F_m_times (x) ((9 : Int)) ((10 : Int))).2) else F_m_power_s n 0 ((F_m_times (x) ((9 : Int)) ((10 : Int))).2) (a) (k) (c0) ((i9) + (1 : Int)))) := rfl
def F_m_power (x : MS) (a : Int) (k : Int) (c0 : Int) : Int × MS := (if ((F_m_isSlot (x) (a)).1) = (0) then ((-1 : Int), x) else (if ((F_m_isSlot (x) (c0)).1) = (0) then ((-1 : Int), x) else (if ((F_m_in (x) (k) ((0 : Int)) ((100 : Int))).1) = (0) then ((-2 : Int), x) else (if ((F_m_isMachine (x)).1) = (0) then ((-3 : Int), x) else F_m_power_s 200 0 (aU ((F_m_reduceAt ((F_m_copy (x) (a) ((10 : Int))).2) ((10 : Int))).2) 1 ((9 : Int)).toNat ((0 : Int))) (a) (k) (c0) ((0 : Int))))))
set_option maxHeartbeats 4000000 in
set_option maxRecDepth 100000 in
/-- power -/
theorem c_m_power (l : Launch) (dC : Nat → ClassId) (dI : Nat → Nat → Nat) (h : Nat) (ad : Nat → Nat) (cI cJ cZ : ClassId) (sz : Nat) (x : MS) (a : Int) (k : Int) (c0 : Int) (ra : iR a) (rk : iR k) (rc : iR c0) (sn : iR (x.1 6)) (ic : x.1 27 = 0 ∨ x.1 27 = 1) (mz : ¬ (F_m_isMachine x).1 = 0 → mzH x) (hrw : rwR x) (hs : ∀ k : Nat, k < 9 → slH x k) : Met l yX12_power wsX12_power ({ frames := 2, cells := 0, slots := 0, locals := 57 }) (mPc dC dI h ad cI cJ cZ sz x [.ref h, .int (iI a), .int (iI k), .int (iI c0)]) (va_Qi (fun (r : Int32) (u : MS) => r = iI (F_m_power (x) (a) (k) (c0)).1 ∧ u = (F_m_power (x) (a) (k) (c0)).2) (mAt dC dI h ad cI cJ cZ (va_A (mW h ad cI cJ cZ (x)) sz)) (va_A (mW h ad cI cJ cZ (x)) sz)) 0 0 (va_A (mW h ad cI cJ cZ (x)) sz) := by
  refine Met.ofW (cc := cX12_power) (maxL := 5) (ret := (some .int)) (by decide) rfl ?_
  intro p e s m args below meth c s₁ B hml hv
  obtain ⟨rfl, hsz, hP, hK, hD0⟩ := hv
  have hx := B.exec
  have hb := B.bytes
  have hr := B.returns
  have hts := atoms_spec (ws := wsX12_power) B.pre
  have hown : s.vm.findClass RX12 = some m.cls := findClass_of_methodNamed B.named
  have hlocks := B.notSynchronized
  have hin : ∀ w ∈ u_ws RX12 TX12 34, w ∈ wsX12_power := by decide +kernel
  subst hsz
  have hD := hD0.self (sz := s.heap.size)
  generalize hAe : va_A (mW h ad cI cJ cZ (x)) s.heap.size = A at hD ⊢
  have hA : ∀ q : Nat, s.heap.size ≤ q → A q := fun q h => by rw [← hAe]; exact Or.inr h
  have hS : va_S A s.heap s.heap [] := va_S.rf
  have hl := lv_entry ([.ref h, .int (iI a), .int (iI k), .int (iI c0)]) (n := 5) (Nat.le_of_ble_eq_true rfl)
  rw [lg_entry_eq]
  generalize (lg_sl ([.ref h, .int (iI a), .int (iI k), .int (iI c0)]) ++ List.replicate (5 - (lg_sl ([.ref h, .int (iI a), .int (iI k), .int (iI c0)])).length) Slot.unset).toArray = ls at hl ⊢
  have hl : lv_has ls 5 [(0, .ref (h)), (1, .int (iI (a))), (2, .int (iI (k))), (3, .int (iI (c0)))] := hl
  have L : ∀ n : Nat, (∀ (y : MS) (i9 : Int), (slF x y) → (pwE x y a.toNat i9.toNat) → (mzH x) → (¬ (F_m_isMachine x).1 = 0) → (0 ≤ a ∧ a ≤ 7) → (0 ≤ c0 ∧ c0 ≤ 7) → (0 ≤ k ∧ k ≤ 100) → (0 ≤ i9) → (i9 ≤ k) → (i9 ≤ 100) → (150 - i9 < n) → F_m_power_s n 0 y a k c0 i9 = F_m_power (x) (a) (k) (c0) → ∀ (H : Heap) (locs : List Loc) (ls : Array Slot), va_P (dC, dI) vwCl (mW h ad cI cJ cZ (y)) H → va_D A (mW h ad cI cJ cZ (y)) → va_S A s.heap H locs → lv_has ls 5 [(0, .ref (h)), (1, .int (iI (a))), (2, .int (iI (k))), (3, .int (iI (c0))), (4, .int (iI (i9)))] → W p l e (headSpec wsX12_power ({ frames := 2, cells := 0, slots := 0, locals := 57 })).room s m ([.ref h, .int (iI a), .int (iI k), .int (iI c0)] : List Value).toArray below meth c H locs 0 0 (MQ below (va_Qi (fun (r : Int32) (u : MS) => r = iI (F_m_power (x) (a) (k) (c0)).1 ∧ u = (F_m_power (x) (a) (k) (c0)).2) (mAt dC dI h ad cI cJ cZ A) A) ([.ref h, .int (iI a), .int (iI k), .int (iI c0)] : List Value).toArray s 0 0 A) (F0 m 65 ls [])) := by
    intro n
    induction n with
    | zero =>
      skip
      · intro y i9 fy ex mz0 hm ha hc hk i0 i1 i2 fu hres
        exact absurd fu (by omega)
    | succ n ih =>
      skip
      · intro y i9 fy ex mz0 hm ha hc hk i0 i1 i2 fu hres H locs ls hP hD hS hl
        rw [F_m_power_e0] at hres
        refine lv_iload hx hb dX12_power_65 (lv_at hl 4 rfl) ?_
        refine lv_iload_n hx hb dX12_power_67 rfl (lv_at hl 2 rfl) ?_
        refine wi_icmp_ge (tgt := 91) hx hb (by first | assumption | (unfold iR; omega) | exact F_R01 (by assumption)) (by first | assumption | (unfold iR; omega) | exact F_R01 (by assumption)) dX12_power_68 (by decide) (fun c_68 => ?_) (fun c_68 => ?_)
        · skip
          rw [if_pos c_68] at hres
          have s9 : 0 ≤ y.2 1 ((9 : Int)).toNat ∧ y.2 1 ((9 : Int)).toNat ≤ 60 := by
            obtain ⟨u0, v0, ku, kv, nv, pc9⟩ := id ex
            exact (slK_H (slF_0e fy) ku).1
          refine lv_aload_n hx hb dX12_power_91 rfl (lv_at hl 0 rfl) ?_
          refine lv_bipush (v := iI (9 : Int)) hx hb dX12_power_92 (by decide) ?_
          refine lv_iload_n hx hb dX12_power_94 rfl (lv_at hl 3 rfl) ?_
          have hFc : ∀ q, va_A (mW h ad cI cJ cZ (y)) H.size q → A q := fun q hq => Or.elim hq (fun ⟨k, e, hk⟩ => hD.2 k (q, e) hk) (fun hk => hA q (Nat.le_trans hS.1 hk))
          refine va_callv (va_runV (As := [.int (iI ((9 : Int))), .int (iI (c0))]) (rest := []) ⟨hx, hb, hml, hown, hts⟩ (c_m_copy l dC dI h ad cI cJ cZ H.size (y) ((9 : Int)) (c0) (by decide) (by decide) (by omega) (by omega) s9.1 (by omega)) (cwV 2 hts gX12_power_X12_copy rfl rfl rfl (by decide +kernel) ⟨Nat.le_of_ble_eq_true rfl, Nat.le_of_ble_eq_true rfl⟩) ⟨fun a U g mk q => by obtain ⟨q0, q1, qP, qK, qD⟩ := q; exact ⟨q0, q1, qP, va_K.moved (u := U) (U := U.calling g mk a) (Vm.Alike.refl U.vm) qK, qD⟩, va_recv hK hP (ci := 12) (q0 := 0) rfl rfl, fun U hU hW => ⟨rfl, by rw [hU], by rw [hU]; exact hP, va_K.moved hW.alike hK, hD.weaken (fun _ _ _ _ => trivial)⟩⟩ rfl rfl hl.1 rfl (lv_room (Nat.le_of_ble_eq_true rfl)) dX12_power_95 ⟨Nat.le_of_ble_eq_true rfl, Nat.le_of_ble_eq_true rfl⟩) hS (fun q _ h => hFc q h) hFc (fun u9 t H1 locs ht hvm hw hB hz1 hk1 hS => ?_)
          obtain ⟨hP1, hK1, hD1⟩ := hB
          rw [ht] at hP1
          rw [hw] at hP1 hD1
          have hD2 := hD1.weaken (B := A) (fun _ q _ h => hFc q.1 h)
          have hP := hP1
          have hD := hD2
          generalize H1 = H at hP hS ⊢
          refine lv_aload_n hx hb dX12_power_98 rfl (lv_at hl 0 rfl) ?_
          refine va_get (D := (dC, dI)) (ci := 12) (v := .ref (ad 1)) (C := RX12) (T := TX12) (N := 34) hx hb hts hin hown hK hP 0 rfl rfl 1 (by decide) (hts (.fieldLink RX12 13 "LikeWordsModel" "size" "[I") (by decide +kernel)) (fun _ h9 => h9) rfl dX12_power_99 ?_
          refine lv_iload_n hx hb dX12_power_102 rfl (lv_at hl 3 rfl) ?_
          refine wi_iald (f := ((F_m_copy (y) ((9 : Int)) (c0)).2).2 1) hx hb hK hP 1 0 rfl rfl (i := c0) (by omega) (by omega) (by decide) dX12_power_103 ?_
          exact W.iret (v := iI ((((F_m_copy (y) ((9 : Int)) (c0)).2).2 1) (c0).toNat)) hx hb hr (fun t ht hW => ⟨⟨iI ((((F_m_copy (y) ((9 : Int)) (c0)).2).2 1) (c0).toNat), (F_m_copy (y) ((9 : Int)) (c0)).2, rfl, ⟨(by have h9 := congrArg (fun z : Int × MS => iI z.1) hres; exact h9), (by have h9 := congrArg (fun z : Int × MS => z.2) hres; exact h9)⟩, by rw [ht]; exact hP, va_K.moved hW.alike hK, hD⟩, hS.F ht⟩) hS.2.2 dX12_power_104
        · skip
          rw [if_neg c_68] at hres
          obtain ⟨u0, v0, ku, kv, nv, pc9⟩ := id ex
          have t01 := times_01 fy mz0 ku kv
          refine lv_aload_n hx hb dX12_power_71 rfl (lv_at hl 0 rfl) ?_
          refine lv_bipush (v := iI (9 : Int)) hx hb dX12_power_72 (by decide) ?_
          refine lv_bipush (v := iI (10 : Int)) hx hb dX12_power_74 (by decide) ?_
          have hFc : ∀ q, va_A (mW h ad cI cJ cZ (y)) H.size q → A q := fun q hq => Or.elim hq (fun ⟨k, e, hk⟩ => hD.2 k (q, e) hk) (fun hk => hA q (Nat.le_trans hS.1 hk))
          refine va_calli (va_runV (As := [.int (iI ((9 : Int))), .int (iI ((10 : Int)))]) (rest := []) ⟨hx, hb, hml, hown, hts⟩ (c_m_times l dC dI h ad cI cJ cZ H.size (y) ((9 : Int)) ((10 : Int)) rfl (Or.inl rfl) (mz_e fy mz0).1 fy.2.1 (slK_H (slF_0e fy) ku) (slK_H (slF_0e fy) kv)) (cwV 2 hts gX12_power_X12_times rfl rfl rfl (by decide +kernel) ⟨Nat.le_of_ble_eq_true rfl, Nat.le_of_ble_eq_true rfl⟩) ⟨fun a U g mk q => by obtain ⟨q0, q1, qP, qK, qD⟩ := q; exact ⟨q0, q1, qP, va_K.moved (u := U) (U := U.calling g mk a) (Vm.Alike.refl U.vm) qK, qD⟩, va_recv hK hP (ci := 12) (q0 := 0) rfl rfl, fun U hU hW => ⟨rfl, by rw [hU], by rw [hU]; exact hP, va_K.moved hW.alike hK, hD.weaken (fun _ _ _ _ => trivial)⟩⟩ rfl rfl hl.1 rfl (lv_room (Nat.le_of_ble_eq_true rfl)) dX12_power_76 ⟨Nat.le_of_ble_eq_true rfl, Nat.le_of_ble_eq_true rfl⟩) hS (fun q _ h => hFc q h) hFc (fun r9 u9 t H1 locs ht hvm hw hB hz1 hk1 hS => ?_)
          obtain ⟨hP1, hK1, hD1⟩ := hB
          rw [ht] at hP1
          obtain ⟨hw1, hw2⟩ := hw
          rw [hw2] at hP1 hD1
          rw [hw1]
          have hD2 := hD1.weaken (B := A) (fun _ q _ h => hFc q.1 h)
          have hP := hP1
          have hD := hD2
          generalize H1 = H at hP hS ⊢
          refine wi_if_ne (tgt := 85) hx hb (by first | assumption | (unfold iR; omega) | exact F_R01 (by assumption)) dX12_power_79 (by decide) (fun c_79 => ?_) (fun c_79 => ?_)
          · skip
            rw [if_neg c_79] at hres
            refine lv_iinc (v := iI ((i9) + (1 : Int))) (lv' := [(4, .int (iI ((i9) + (1 : Int)))), (0, .ref (h)), (1, .int (iI (a))), (2, .int (iI (k))), (3, .int (iI (c0)))]) hx hb dX12_power_85 hl (k := 4) rfl (iI_add _ _) (by decide) rfl (fun ls hl => ?_)
            refine lv_goto (tgt := 65) hx hb dX12_power_88 (by decide) ?_
            exact ih ((F_m_times (y) ((9 : Int)) ((10 : Int))).2) ((i9) + (1 : Int)) ((pwE_s i0 fy mz0 ku kv nv pc9 c_79).1) ((pwE_s i0 fy mz0 ku kv nv pc9 c_79).2) (mz0) (hm) (ha) (hc) (hk) (by omega) (by omega) (by omega) (by omega) hres _ _ ls hP hD hS (lv_sub hl [1, 2, 3, 4, 0] rfl)
          · skip
            rw [if_pos c_79] at hres
            refine lv_bipush (v := iI (-4 : Int)) hx hb dX12_power_82 (by decide) ?_
            exact W.iret (v := iI ((-4 : Int))) hx hb hr (fun t ht hW => ⟨⟨iI ((-4 : Int)), (F_m_times (y) ((9 : Int)) ((10 : Int))).2, rfl, ⟨(by have h9 := congrArg (fun z : Int × MS => iI z.1) hres; exact h9), (by have h9 := congrArg (fun z : Int × MS => z.2) hres; exact h9)⟩, by rw [ht]; exact hP, va_K.moved hW.alike hK, hD⟩, hS.F ht⟩) hS.2.2 dX12_power_84
  have key : ∀ (H : Heap) (locs : List Loc), va_P (dC, dI) vwCl (mW h ad cI cJ cZ (x)) H → va_S A s.heap H locs → W p l e (headSpec wsX12_power ({ frames := 2, cells := 0, slots := 0, locals := 57 })).room s m ([.ref h, .int (iI a), .int (iI k), .int (iI c0)] : List Value).toArray below meth c H locs 0 0 (MQ below (va_Qi (fun (r : Int32) (u : MS) => r = iI (F_m_power (x) (a) (k) (c0)).1 ∧ u = (F_m_power (x) (a) (k) (c0)).2) (mAt dC dI h ad cI cJ cZ A) A) ([.ref h, .int (iI a), .int (iI k), .int (iI c0)] : List Value).toArray s 0 0 A) (F0 m 0 ls []) := by
    intro H locs hP hS
    have hres : (if ((F_m_isSlot (x) (a)).1) = (0) then ((-1 : Int), x) else (if ((F_m_isSlot (x) (c0)).1) = (0) then ((-1 : Int), x) else (if ((F_m_in (x) (k) ((0 : Int)) ((100 : Int))).1) = (0) then ((-2 : Int), x) else (if ((F_m_isMachine (x)).1) = (0) then ((-3 : Int), x) else F_m_power_s 200 0 (aU ((F_m_reduceAt ((F_m_copy (x) (a) ((10 : Int))).2) ((10 : Int))).2) 1 ((9 : Int)).toNat ((0 : Int))) (a) (k) (c0) ((0 : Int)))))) = F_m_power (x) (a) (k) (c0) := rfl
    refine lv_iload_n hx hb dX12_power_0 rfl (lv_at hl 1 rfl) ?_
    have hFc : ∀ q, va_A (mW h ad cI cJ cZ (x)) H.size q → A q := fun q hq => Or.elim hq (fun ⟨k, e, hk⟩ => hD.2 k (q, e) hk) (fun hk => hA q (Nat.le_trans hS.1 hk))
    refine va_calli (va_runS (As := [.int (iI (a))]) (rest := []) ⟨hx, hb, hml, hown, hts⟩ (c_m_isSlot l dC dI h ad cI cJ cZ H.size (x) (a) (by first | assumption | exact iR_L (by assumption) | exact ⟨by decide, by decide⟩ | omega | (unfold iR; omega) | (unfold iRL; omega))) (va_cwS 1 hts gX12_power_X12_isSlot rfl rfl rfl (by decide +kernel) ⟨Nat.le_of_ble_eq_true rfl, Nat.le_of_ble_eq_true rfl⟩) ⟨fun a U g mk q => by obtain ⟨q0, q1, qP, qK, qD⟩ := q; exact ⟨q0, q1, qP, va_K.moved (u := U) (U := U.calling g mk a) (Vm.Alike.refl U.vm) qK, qD⟩, fun U hU hW => ⟨rfl, by rw [hU], by rw [hU]; exact hP, va_K.moved hW.alike hK, hD.weaken (fun _ _ _ _ => trivial)⟩⟩ rfl rfl hl.1 rfl (lv_room (Nat.le_of_ble_eq_true rfl)) dX12_power_1 ⟨Nat.le_of_ble_eq_true rfl, Nat.le_of_ble_eq_true rfl⟩) hS (fun q _ h => hFc q h) hFc (fun r9 u9 t H1 locs ht hvm hw hB hz1 hk1 hS => ?_)
    obtain ⟨hP1, hK1, hD1⟩ := hB
    rw [ht] at hP1
    obtain ⟨hw1, hw2⟩ := hw
    rw [hw2] at hP1 hD1
    rw [hw1]
    rw [F_m_isSlot_2] at hP1 hD1
    have hD2 := hD1.weaken (B := A) (fun _ q _ h => hFc q.1 h)
    have hP := hP1
    have hD := hD2
    generalize H1 = H at hP hS ⊢
    refine wi_if_eq (tgt := 14) hx hb (by rw [F_m_isSlot_1]; exact F_R01 (F_in_01 _ _ _)) dX12_power_4 (by decide) (fun c_4 => ?_) (fun c_4 => ?_)
    · skip
      rw [if_pos c_4] at hres
      refine lv_iconst (v := iI (-1 : Int)) hx hb dX12_power_14 (by decide) ?_
      exact W.iret (v := iI ((-1 : Int))) hx hb hr (fun t ht hW => ⟨⟨iI ((-1 : Int)), x, rfl, ⟨(by have h9 := congrArg (fun z : Int × MS => iI z.1) hres; exact h9), (by have h9 := congrArg (fun z : Int × MS => z.2) hres; exact h9)⟩, by rw [ht]; exact hP, va_K.moved hW.alike hK, hD⟩, hS.F ht⟩) hS.2.2 dX12_power_15
    · skip
      rw [if_neg c_4] at hres
      refine lv_iload_n hx hb dX12_power_7 rfl (lv_at hl 3 rfl) ?_
      have hFc : ∀ q, va_A (mW h ad cI cJ cZ (x)) H.size q → A q := fun q hq => Or.elim hq (fun ⟨k, e, hk⟩ => hD.2 k (q, e) hk) (fun hk => hA q (Nat.le_trans hS.1 hk))
      refine va_calli (va_runS (As := [.int (iI (c0))]) (rest := []) ⟨hx, hb, hml, hown, hts⟩ (c_m_isSlot l dC dI h ad cI cJ cZ H.size (x) (c0) (by first | assumption | exact iR_L (by assumption) | exact ⟨by decide, by decide⟩ | omega | (unfold iR; omega) | (unfold iRL; omega))) (va_cwS 1 hts gX12_power_X12_isSlot rfl rfl rfl (by decide +kernel) ⟨Nat.le_of_ble_eq_true rfl, Nat.le_of_ble_eq_true rfl⟩) ⟨fun a U g mk q => by obtain ⟨q0, q1, qP, qK, qD⟩ := q; exact ⟨q0, q1, qP, va_K.moved (u := U) (U := U.calling g mk a) (Vm.Alike.refl U.vm) qK, qD⟩, fun U hU hW => ⟨rfl, by rw [hU], by rw [hU]; exact hP, va_K.moved hW.alike hK, hD.weaken (fun _ _ _ _ => trivial)⟩⟩ rfl rfl hl.1 rfl (lv_room (Nat.le_of_ble_eq_true rfl)) dX12_power_8 ⟨Nat.le_of_ble_eq_true rfl, Nat.le_of_ble_eq_true rfl⟩) hS (fun q _ h => hFc q h) hFc (fun r9 u9 t H1 locs ht hvm hw hB hz1 hk1 hS => ?_)
      obtain ⟨hP1, hK1, hD1⟩ := hB
      rw [ht] at hP1
      obtain ⟨hw1, hw2⟩ := hw
      rw [hw2] at hP1 hD1
      rw [hw1]
      rw [F_m_isSlot_2] at hP1 hD1
      have hD2 := hD1.weaken (B := A) (fun _ q _ h => hFc q.1 h)
      have hP := hP1
      have hD := hD2
      generalize H1 = H at hP hS ⊢
      refine wi_if_ne (tgt := 16) hx hb (by rw [F_m_isSlot_1]; exact F_R01 (F_in_01 _ _ _)) dX12_power_11 (by decide) (fun c_11 => ?_) (fun c_11 => ?_)
      · skip
        rw [if_neg c_11] at hres
        obtain ⟨a0, a1⟩ := F_in_1 (by rw [← F_m_isSlot_1 x a]; exact c_4)
        obtain ⟨c00, c01⟩ := F_in_1 (by rw [← F_m_isSlot_1 x c0]; exact c_11)
        refine lv_iload_n hx hb dX12_power_16 rfl (lv_at hl 2 rfl) ?_
        refine wi_i2l hx hb (by first | assumption | (unfold iR; omega) | exact F_R01 (by assumption)) dX12_power_17 ?_
        refine lv_lconst (v := iL 0) hx hb dX12_power_18 (by decide) ?_
        refine lv_ldc2 (v := iL (100 : Int)) hx hb hown (hts (.constantLong RX12 258 (100)) (by decide +kernel)) dX12_power_19 ?_
        have hFc : ∀ q, va_A (mW h ad cI cJ cZ (x)) H.size q → A q := fun q hq => Or.elim hq (fun ⟨k, e, hk⟩ => hD.2 k (q, e) hk) (fun hk => hA q (Nat.le_trans hS.1 hk))
        refine va_calli (va_runS (As := [.long (iL (k)), .long (iL ((0 : Int))), .long (iL ((100 : Int)))]) (rest := []) ⟨hx, hb, hml, hown, hts⟩ (c_m_in l dC dI h ad cI cJ cZ H.size (x) (k) ((0 : Int)) ((100 : Int)) (iR_L rk) ⟨by decide, by decide⟩ ⟨by decide, by decide⟩) (va_cwS 3 hts gX12_power_X12_in rfl rfl rfl (by decide +kernel) ⟨Nat.le_of_ble_eq_true rfl, Nat.le_of_ble_eq_true rfl⟩) ⟨fun a U g mk q => by obtain ⟨q0, q1, qP, qK, qD⟩ := q; exact ⟨q0, q1, qP, va_K.moved (u := U) (U := U.calling g mk a) (Vm.Alike.refl U.vm) qK, qD⟩, fun U hU hW => ⟨rfl, by rw [hU], by rw [hU]; exact hP, va_K.moved hW.alike hK, hD.weaken (fun _ _ _ _ => trivial)⟩⟩ rfl rfl hl.1 rfl (lv_room (Nat.le_of_ble_eq_true rfl)) dX12_power_22 ⟨Nat.le_of_ble_eq_true rfl, Nat.le_of_ble_eq_true rfl⟩) hS (fun q _ h => hFc q h) hFc (fun r9 u9 t H1 locs ht hvm hw hB hz1 hk1 hS => ?_)
        obtain ⟨hP1, hK1, hD1⟩ := hB
        rw [ht] at hP1
        obtain ⟨hw1, hw2⟩ := hw
        rw [hw2] at hP1 hD1
        rw [hw1]
        rw [F_m_in_2] at hP1 hD1
        have hD2 := hD1.weaken (B := A) (fun _ q _ h => hFc q.1 h)
        have hP := hP1
        have hD := hD2
        generalize H1 = H at hP hS ⊢
        refine wi_if_ne (tgt := 31) hx hb (by rw [F_m_in_1]; exact F_R01 (F_in_01 _ _ _)) dX12_power_25 (by decide) (fun c_25 => ?_) (fun c_25 => ?_)
        · skip
          rw [if_neg c_25] at hres
          rw [F_m_in_1] at c_25
          obtain ⟨k0, k1⟩ := F_in_1 c_25
          refine lv_aload_n hx hb dX12_power_31 rfl (lv_at hl 0 rfl) ?_
          have hFc : ∀ q, va_A (mW h ad cI cJ cZ (x)) H.size q → A q := fun q hq => Or.elim hq (fun ⟨k, e, hk⟩ => hD.2 k (q, e) hk) (fun hk => hA q (Nat.le_trans hS.1 hk))
          refine va_calli (va_runV (As := []) (rest := []) ⟨hx, hb, hml, hown, hts⟩ (c_m_isMachine l dC dI h ad cI cJ cZ H.size (x)  sn ic) (cwV 0 hts gX12_power_X12_isMachine rfl rfl rfl (by decide +kernel) ⟨Nat.le_of_ble_eq_true rfl, Nat.le_of_ble_eq_true rfl⟩) ⟨fun a U g mk q => by obtain ⟨q0, q1, qP, qK, qD⟩ := q; exact ⟨q0, q1, qP, va_K.moved (u := U) (U := U.calling g mk a) (Vm.Alike.refl U.vm) qK, qD⟩, va_recv hK hP (ci := 12) (q0 := 0) rfl rfl, fun U hU hW => ⟨rfl, by rw [hU], by rw [hU]; exact hP, va_K.moved hW.alike hK, hD.weaken (fun _ _ _ _ => trivial)⟩⟩ rfl rfl hl.1 rfl (lv_room (Nat.le_of_ble_eq_true rfl)) dX12_power_32 ⟨Nat.le_of_ble_eq_true rfl, Nat.le_of_ble_eq_true rfl⟩) hS (fun q _ h => hFc q h) hFc (fun r9 u9 t H1 locs ht hvm hw hB hz1 hk1 hS => ?_)
          obtain ⟨hP1, hK1, hD1⟩ := hB
          rw [ht] at hP1
          obtain ⟨hw1, hw2⟩ := hw
          rw [hw2] at hP1 hD1
          rw [hw1]
          rw [F_m_isMachine_2] at hP1 hD1
          have hD2 := hD1.weaken (B := A) (fun _ q _ h => hFc q.1 h)
          have hP := hP1
          have hD := hD2
          generalize H1 = H at hP hS ⊢
          refine wi_if_ne (tgt := 41) hx hb (F_R01 (F_m_isMachine_01 x)) dX12_power_35 (by decide) (fun c_35 => ?_) (fun c_35 => ?_)
          · skip
            rw [if_neg c_35] at hres
            have mz0 := mz c_35
            have zb := (hs a.toNat (by omega)).1
            refine lv_aload_n hx hb dX12_power_41 rfl (lv_at hl 0 rfl) ?_
            refine lv_iload_n hx hb dX12_power_42 rfl (lv_at hl 1 rfl) ?_
            refine lv_bipush (v := iI (10 : Int)) hx hb dX12_power_43 (by decide) ?_
            have hFc : ∀ q, va_A (mW h ad cI cJ cZ (x)) H.size q → A q := fun q hq => Or.elim hq (fun ⟨k, e, hk⟩ => hD.2 k (q, e) hk) (fun hk => hA q (Nat.le_trans hS.1 hk))
            refine va_callv (va_runV (As := [.int (iI (a)), .int (iI ((10 : Int)))]) (rest := []) ⟨hx, hb, hml, hown, hts⟩ (c_m_copy l dC dI h ad cI cJ cZ H.size (x) (a) ((10 : Int)) (by omega) (by omega) (by omega) (by omega) (by omega) (by omega)) (cwV 2 hts gX12_power_X12_copy rfl rfl rfl (by decide +kernel) ⟨Nat.le_of_ble_eq_true rfl, Nat.le_of_ble_eq_true rfl⟩) ⟨fun a U g mk q => by obtain ⟨q0, q1, qP, qK, qD⟩ := q; exact ⟨q0, q1, qP, va_K.moved (u := U) (U := U.calling g mk a) (Vm.Alike.refl U.vm) qK, qD⟩, va_recv hK hP (ci := 12) (q0 := 0) rfl rfl, fun U hU hW => ⟨rfl, by rw [hU], by rw [hU]; exact hP, va_K.moved hW.alike hK, hD.weaken (fun _ _ _ _ => trivial)⟩⟩ rfl rfl hl.1 rfl (lv_room (Nat.le_of_ble_eq_true rfl)) dX12_power_45 ⟨Nat.le_of_ble_eq_true rfl, Nat.le_of_ble_eq_true rfl⟩) hS (fun q _ h => hFc q h) hFc (fun u9 t H1 locs ht hvm hw hB hz1 hk1 hS => ?_)
            obtain ⟨hP1, hK1, hD1⟩ := hB
            rw [ht] at hP1
            rw [hw] at hP1 hD1
            have hD2 := hD1.weaken (B := A) (fun _ q _ h => hFc q.1 h)
            have hP := hP1
            have hD := hD2
            generalize H1 = H at hP hS ⊢
            have d1 : slD x ((F_m_copy (x) (a) ((10 : Int))).2) 10 ∧ slK x ((F_m_copy (x) (a) ((10 : Int))).2) 10 (slM x a.toNat) := by
              have h9 := copy_D (x := x) (b := 10) hrw (slH_K (hs a.toNat (by omega))) (by omega) (by omega)
              rw [show (a.toNat : Int) = a by omega] at h9
              exact h9
            have f1 := slD_F (slF_0 hrw) d1.1 (by decide)
            have r1 := slH_r f1 mz0 d1.2 (by omega) (by omega)
            refine lv_aload_n hx hb dX12_power_48 rfl (lv_at hl 0 rfl) ?_
            refine lv_bipush (v := iI (10 : Int)) hx hb dX12_power_49 (by decide) ?_
            have hFc : ∀ q, va_A (mW h ad cI cJ cZ ((F_m_copy (x) (a) ((10 : Int))).2)) H.size q → A q := fun q hq => Or.elim hq (fun ⟨k, e, hk⟩ => hD.2 k (q, e) hk) (fun hk => hA q (Nat.le_trans hS.1 hk))
            refine va_callv (va_runV (As := [.int (iI ((10 : Int)))]) (rest := []) ⟨hx, hb, hml, hown, hts⟩ (c_m_reduceAt l dC dI h ad cI cJ cZ H.size ((F_m_copy (x) (a) ((10 : Int))).2) ((10 : Int)) (by omega) (by omega) (by omega) r1.1.2.1.1 r1.1.2.1.2 r1.1.2.2.1 r1.1.2.2.2.1 r1.1.2.2.2.2) (cwV 1 hts gX12_power_X12_reduceAt rfl rfl rfl (by decide +kernel) ⟨Nat.le_of_ble_eq_true rfl, Nat.le_of_ble_eq_true rfl⟩) ⟨fun a U g mk q => by obtain ⟨q0, q1, qP, qK, qD⟩ := q; exact ⟨q0, q1, qP, va_K.moved (u := U) (U := U.calling g mk a) (Vm.Alike.refl U.vm) qK, qD⟩, va_recv hK hP (ci := 12) (q0 := 0) rfl rfl, fun U hU hW => ⟨rfl, by rw [hU], by rw [hU]; exact hP, va_K.moved hW.alike hK, hD.weaken (fun _ _ _ _ => trivial)⟩⟩ rfl rfl hl.1 rfl (lv_room (Nat.le_of_ble_eq_true rfl)) dX12_power_51 ⟨Nat.le_of_ble_eq_true rfl, Nat.le_of_ble_eq_true rfl⟩) hS (fun q _ h => hFc q h) hFc (fun u9 t H1 locs ht hvm hw hB hz1 hk1 hS => ?_)
            obtain ⟨hP1, hK1, hD1⟩ := hB
            rw [ht] at hP1
            rw [hw] at hP1 hD1
            have hD2 := hD1.weaken (B := A) (fun _ q _ h => hFc q.1 h)
            have hP := hP1
            have hD := hD2
            generalize H1 = H at hP hS ⊢
            obtain ⟨d2, v0, kv, nv⟩ := red_D f1 mz0 d1.2 (by omega) (by omega)
            have f2 : slF x ((F_m_reduceAt ((F_m_copy (x) (a) ((10 : Int))).2) ((10 : Int))).2) := slD_F f1 d2 (by decide)
            refine lv_aload_n hx hb dX12_power_54 rfl (lv_at hl 0 rfl) ?_
            refine va_get (D := (dC, dI)) (ci := 12) (v := .ref (ad 1)) (C := RX12) (T := TX12) (N := 34) hx hb hts hin hown hK hP 0 rfl rfl 1 (by decide) (hts (.fieldLink RX12 13 "LikeWordsModel" "size" "[I") (by decide +kernel)) (fun _ h9 => h9) rfl dX12_power_55 ?_
            refine lv_bipush (v := iI (9 : Int)) hx hb dX12_power_58 (by decide) ?_
            refine lv_iconst (v := iI (0 : Int)) hx hb dX12_power_60 (by decide) ?_
            refine wi_iast (f := ((F_m_reduceAt ((F_m_copy (x) (a) ((10 : Int))).2) ((10 : Int))).2).2 1) hx hb hK hP hD hS 1 0 rfl rfl (i := (9 : Int)) (x := (0 : Int)) (by omega) (by omega) (by decide) dX12_power_61 (fun H locs hP hD hS => ?_)
            rw [mW_a1] at hP hD
            have d3 : slD _ (aU ((F_m_reduceAt ((F_m_copy (x) (a) ((10 : Int))).2) ((10 : Int))).2) 1 ((9 : Int)).toNat ((0 : Int))) 9 ∧ slK x (aU ((F_m_reduceAt ((F_m_copy (x) (a) ((10 : Int))).2) ((10 : Int))).2) 1 ((9 : Int)).toNat ((0 : Int))) 9 [] := zero_D f2.2.1
            have f3 := slD_F f2 d3.1 (by decide)
            have kv3 := slD_K d3.1 (by decide) (by decide) kv
            refine lv_iconst (v := iI (0 : Int)) hx hb dX12_power_62 (by decide) ?_
            refine lv_istore (lv' := [(4, .int (iI ((0 : Int)))), (0, .ref (h)), (1, .int (iI (a))), (2, .int (iI (k))), (3, .int (iI (c0)))]) hx hb dX12_power_63 hl (by decide) rfl (fun ls hl => ?_)
            exact (L (200)) (aU ((F_m_reduceAt ((F_m_copy (x) (a) ((10 : Int))).2) ((10 : Int))).2) 1 ((9 : Int)).toNat ((0 : Int))) ((0 : Int)) (f3) (pwE_0 d3.2 kv3 nv) (mz0) (c_35) (by omega) (by omega) (by omega) (by omega) (by omega) (by omega) (by omega) hres _ _ ls hP hD hS (lv_sub hl [1, 2, 3, 4, 0] rfl)
          · skip
            rw [if_pos c_35] at hres
            refine lv_bipush (v := iI (-3 : Int)) hx hb dX12_power_38 (by decide) ?_
            exact W.iret (v := iI ((-3 : Int))) hx hb hr (fun t ht hW => ⟨⟨iI ((-3 : Int)), x, rfl, ⟨(by have h9 := congrArg (fun z : Int × MS => iI z.1) hres; exact h9), (by have h9 := congrArg (fun z : Int × MS => z.2) hres; exact h9)⟩, by rw [ht]; exact hP, va_K.moved hW.alike hK, hD⟩, hS.F ht⟩) hS.2.2 dX12_power_40
        · skip
          rw [if_pos c_25] at hres
          refine lv_bipush (v := iI (-2 : Int)) hx hb dX12_power_28 (by decide) ?_
          exact W.iret (v := iI ((-2 : Int))) hx hb hr (fun t ht hW => ⟨⟨iI ((-2 : Int)), x, rfl, ⟨(by have h9 := congrArg (fun z : Int × MS => iI z.1) hres; exact h9), (by have h9 := congrArg (fun z : Int × MS => z.2) hres; exact h9)⟩, by rw [ht]; exact hP, va_K.moved hW.alike hK, hD⟩, hS.F ht⟩) hS.2.2 dX12_power_30
      · skip
        rw [if_pos c_11] at hres
        refine lv_iconst (v := iI (-1 : Int)) hx hb dX12_power_14 (by decide) ?_
        exact W.iret (v := iI ((-1 : Int))) hx hb hr (fun t ht hW => ⟨⟨iI ((-1 : Int)), x, rfl, ⟨(by have h9 := congrArg (fun z : Int × MS => iI z.1) hres; exact h9), (by have h9 := congrArg (fun z : Int × MS => z.2) hres; exact h9)⟩, by rw [ht]; exact hP, va_K.moved hW.alike hK, hD⟩, hS.F ht⟩) hS.2.2 dX12_power_15
  exact key _ _ hP hS
theorem F_m_power_sfr : ∀ n : Nat, (∀ (y : MS) (v0 : Int) (v1 : Int) (v2 : Int) (v3 : Int), same [] [1, 2, 26] y (F_m_power_s n 0 y v0 v1 v2 v3).2) := by
  intro n
  induction n with
  | zero => exact fun y _ _ _ _ => sm_rf _ _ _
  | succ n ih =>
    skip
    · intro y a k c0 i9
      rw [F_m_power_e0]
      by_cases hc : (k) ≤ (i9)
      · rw [if_pos hc]
        exact (sm_tr (sm_rf _ _ _) (sm_mono (by decide) (by decide) (F_m_copy_fr (y) ((9 : Int)) (c0))))
      · rw [if_neg hc]
        by_cases hc : ((F_m_times (y) ((9 : Int)) ((10 : Int))).1) = (0)
        · rw [if_pos hc]
          exact (sm_tr (sm_rf _ _ _) (sm_mono (by decide) (by decide) (F_m_times_fr (y) ((9 : Int)) ((10 : Int)))))
        · rw [if_neg hc]
          exact sm_tr ((sm_tr (sm_rf _ _ _) (sm_mono (by decide) (by decide) (F_m_times_fr (y) ((9 : Int)) ((10 : Int)))))) (ih ((F_m_times (y) ((9 : Int)) ((10 : Int))).2) (a) (k) (c0) ((i9) + (1 : Int)))
theorem F_m_power_fr (x : MS) (a : Int) (k : Int) (c0 : Int) : same [] [1, 2, 26] x (F_m_power (x) (a) (k) (c0)).2 := by
  unfold F_m_power
  by_cases hc : ((F_m_isSlot (x) (a)).1) = (0)
  · rw [if_pos hc]
    exact (sm_rf _ _ _)
  · rw [if_neg hc]
    by_cases hc : ((F_m_isSlot (x) (c0)).1) = (0)
    · rw [if_pos hc]
      exact (sm_rf _ _ _)
    · rw [if_neg hc]
      by_cases hc : ((F_m_in (x) (k) ((0 : Int)) ((100 : Int))).1) = (0)
      · rw [if_pos hc]
        exact (sm_rf _ _ _)
      · rw [if_neg hc]
        by_cases hc : ((F_m_isMachine (x)).1) = (0)
        · rw [if_pos hc]
          exact (sm_rf _ _ _)
        · rw [if_neg hc]
          exact sm_tr ((sm_a (by decide) (sm_tr (sm_tr (sm_rf _ _ _) (sm_mono (by decide) (by decide) (F_m_copy_fr (x) (a) ((10 : Int))))) (sm_mono (by decide) (by decide) (F_m_reduceAt_fr ((F_m_copy (x) (a) ((10 : Int))).2) ((10 : Int))))))) ((F_m_power_sfr 200) (aU ((F_m_reduceAt ((F_m_copy (x) (a) ((10 : Int))).2) ((10 : Int))).2) 1 ((9 : Int)).toNat ((0 : Int))) (a) (k) (c0) ((0 : Int)))
set_option maxHeartbeats 4000000 in
theorem F_m_power_p (x : MS) (a : Int) (k : Int) (c0 : Int) (ra : iR a) (rk : iR k) (rc : iR c0) (sn : iR (x.1 6)) (ic : x.1 27 = 0 ∨ x.1 27 = 1) (mz : ¬ (F_m_isMachine x).1 = 0 → mzH x) (hrw : rwR x) (hs : ∀ k : Nat, k < 9 → slH x k) : pwQ x a k c0 (F_m_power (x) (a) (k) (c0)) := by
  have L : ∀ n : Nat, (∀ (y : MS) (i9 : Int), (slF x y) → (pwE x y a.toNat i9.toNat) → (mzH x) → (¬ (F_m_isMachine x).1 = 0) → (0 ≤ a ∧ a ≤ 7) → (0 ≤ c0 ∧ c0 ≤ 7) → (0 ≤ k ∧ k ≤ 100) → (0 ≤ i9) → (i9 ≤ k) → (i9 ≤ 100) → (150 - i9 < n) → pwQ x a k c0 (F_m_power_s n 0 y a k c0 i9)) := by
    intro n
    induction n with
    | zero =>
      skip
      · intro y i9 fy ex mz0 hm ha hc hk i0 i1 i2 fu
        exact absurd fu (by omega)
    | succ n ih =>
      skip
      · intro y i9 fy ex mz0 hm ha hc hk i0 i1 i2 fu
        rw [F_m_power_e0]
        by_cases c_68 : (k) ≤ (i9)
        · rw [if_pos c_68]
          have s9 : 0 ≤ y.2 1 ((9 : Int)).toNat ∧ y.2 1 ((9 : Int)).toNat ≤ 60 := by
            obtain ⟨u0, v0, ku, kv, nv, pc9⟩ := id ex
            exact (slK_H (slF_0e fy) ku).1
          exact pw_5 ha hc hk hm fy ex (by omega)
        · rw [if_neg c_68]
          obtain ⟨u0, v0, ku, kv, nv, pc9⟩ := id ex
          have t01 := times_01 fy mz0 ku kv
          by_cases c_79 : ((F_m_times (y) ((9 : Int)) ((10 : Int))).1) = (0)
          · rw [if_pos c_79]
            exact pw_4 ha hc hk hm fy mz0 ku kv nv pc9 i0 (by omega) c_79
          · rw [if_neg c_79]
            exact ih ((F_m_times (y) ((9 : Int)) ((10 : Int))).2) ((i9) + (1 : Int)) ((pwE_s i0 fy mz0 ku kv nv pc9 c_79).1) ((pwE_s i0 fy mz0 ku kv nv pc9 c_79).2) (mz0) (hm) (ha) (hc) (hk) (by omega) (by omega) (by omega) (by omega)
  unfold F_m_power
  by_cases c_4 : ((F_m_isSlot (x) (a)).1) = (0)
  · rw [if_pos c_4]
    exact Or.inl ⟨by first | (have h9 := F_in_00 (by rw [← F_m_isSlot_1 x c0]; exact c_11); omega) | (have h9 := F_in_00 (by rw [← F_m_isSlot_1 x a]; exact c_4); omega), rfl⟩
  · rw [if_neg c_4]
    by_cases c_11 : ((F_m_isSlot (x) (c0)).1) = (0)
    · rw [if_pos c_11]
      exact Or.inl ⟨by first | (have h9 := F_in_00 (by rw [← F_m_isSlot_1 x c0]; exact c_11); omega) | (have h9 := F_in_00 (by rw [← F_m_isSlot_1 x a]; exact c_4); omega), rfl⟩
    · rw [if_neg c_11]
      obtain ⟨a0, a1⟩ := F_in_1 (by rw [← F_m_isSlot_1 x a]; exact c_4)
      obtain ⟨c00, c01⟩ := F_in_1 (by rw [← F_m_isSlot_1 x c0]; exact c_11)
      by_cases c_25 : ((F_m_in (x) (k) ((0 : Int)) ((100 : Int))).1) = (0)
      · rw [if_pos c_25]
        exact Or.inr ⟨by omega, Or.inl ⟨by rw [F_m_in_1] at c_25; exact F_in_00 c_25, rfl⟩⟩
      · rw [if_neg c_25]
        rw [F_m_in_1] at c_25
        obtain ⟨k0, k1⟩ := F_in_1 c_25
        by_cases c_35 : ((F_m_isMachine (x)).1) = (0)
        · rw [if_pos c_35]
          exact Or.inr ⟨by omega, Or.inr ⟨by omega, Or.inl ⟨c_35, rfl⟩⟩⟩
        · rw [if_neg c_35]
          have mz0 := mz c_35
          have zb := (hs a.toNat (by omega)).1
          have d1 : slD x ((F_m_copy (x) (a) ((10 : Int))).2) 10 ∧ slK x ((F_m_copy (x) (a) ((10 : Int))).2) 10 (slM x a.toNat) := by
            have h9 := copy_D (x := x) (b := 10) hrw (slH_K (hs a.toNat (by omega))) (by omega) (by omega)
            rw [show (a.toNat : Int) = a by omega] at h9
            exact h9
          have f1 := slD_F (slF_0 hrw) d1.1 (by decide)
          have r1 := slH_r f1 mz0 d1.2 (by omega) (by omega)
          obtain ⟨d2, v0, kv, nv⟩ := red_D f1 mz0 d1.2 (by omega) (by omega)
          have f2 : slF x ((F_m_reduceAt ((F_m_copy (x) (a) ((10 : Int))).2) ((10 : Int))).2) := slD_F f1 d2 (by decide)
          have d3 : slD _ (aU ((F_m_reduceAt ((F_m_copy (x) (a) ((10 : Int))).2) ((10 : Int))).2) 1 ((9 : Int)).toNat ((0 : Int))) 9 ∧ slK x (aU ((F_m_reduceAt ((F_m_copy (x) (a) ((10 : Int))).2) ((10 : Int))).2) 1 ((9 : Int)).toNat ((0 : Int))) 9 [] := zero_D f2.2.1
          have f3 := slD_F f2 d3.1 (by decide)
          have kv3 := slD_K d3.1 (by decide) (by decide) kv
          exact (L (200)) (aU ((F_m_reduceAt ((F_m_copy (x) (a) ((10 : Int))).2) ((10 : Int))).2) 1 ((9 : Int)).toNat ((0 : Int))) ((0 : Int)) (f3) (pwE_0 d3.2 kv3 nv) (mz0) (c_35) (by omega) (by omega) (by omega) (by omega) (by omega) (by omega) (by omega)
