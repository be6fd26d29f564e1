-- deps: 99.r
def lwH (x : MS) : Prop := (0 ≤ x.1 3 ∧ x.1 3 ≤ 8) ∧ ∀ l : Nat, (l : Int) < x.1 3 → (0 ≤ x.2 4 (2 * l) ∧ x.2 4 (2 * l) ≤ 12) ∧ (0 ≤ x.2 4 (2 * l + 1) ∧ x.2 4 (2 * l + 1) ≤ 12) ∧ okL (x.1 0).toNat (sgM x 5 (24 * l) (x.2 4 (2 * l)).toNat) ∧ okL (x.1 0).toNat (sgM x 5 (24 * l + 12) (x.2 4 (2 * l + 1)).toNat)
def lwA (x : MS) (n9 : Int) : Prop := ∀ l : Nat, (l : Int) < n9 → jnb (lM x) (rM x) (x.1 12).toNat (sgM x 5 (24 * l) (x.2 4 (2 * l)).toNat) (sgM x 5 (24 * l + 12) (x.2 4 (2 * l + 1)).toNat)
theorem lw_i {n9 : Int} (n0 : 0 ≤ n9) : ((2 : Int) * n9).toNat = 2 * n9.toNat ∧ ((2 : Int) * n9 + 1).toNat = 2 * n9.toNat + 1 ∧ ((24 : Int) * n9).toNat = 24 * n9.toNat ∧ ((24 : Int) * n9 + 12).toNat = 24 * n9.toNat + 12 := by omega
theorem lwA_yes {x : MS} {n9 : Int} (h : lwA x n9) (n0 : 0 ≤ n9) (hj : jnb (lM x) (rM x) (x.1 12).toNat (sgM x 5 (24 * n9.toNat) (x.2 4 (2 * n9.toNat)).toNat) (sgM x 5 (24 * n9.toNat + 12) (x.2 4 (2 * n9.toNat + 1)).toNat)) : lwA x (n9 + (1 : Int)) := by
  intro m m1
  by_cases e : (m : Int) = n9
  · rw [show n9.toNat = m by omega] at hj; exact hj
  · exact h m (by omega)
def lwQ (x : MS) (q : Int × MS) : Prop := clI x q.2 ∧ ((q.1 = 1 ∧ lwA x (x.1 3)) ∨ (q.1 = 0 ∧ ¬ cfl x))
theorem lwQ_1 {x y : MS} {n9 : Int} (ci : clI x y) (h : lwA x n9) (hn : x.1 3 ≤ n9) : lwQ x (1, y) := ⟨ci, Or.inl ⟨rfl, fun m m1 => h m (by omega)⟩⟩
theorem lw_b {x : MS} (h : lwH x) {n9 : Int} (n0 : 0 ≤ n9) (n1 : n9 < x.1 3) : (0 ≤ x.2 4 ((2 : Int) * n9).toNat ∧ x.2 4 ((2 : Int) * n9).toNat ≤ 12) ∧ (0 ≤ x.2 4 ((2 : Int) * n9 + 1).toNat ∧ x.2 4 ((2 : Int) * n9 + 1).toNat ≤ 12) ∧ okL (x.1 0).toNat (sgM x 5 ((24 : Int) * n9).toNat (x.2 4 ((2 : Int) * n9).toNat).toNat) ∧ okL (x.1 0).toNat (sgM x 5 ((24 : Int) * n9 + 12).toNat (x.2 4 ((2 : Int) * n9 + 1).toNat).toNat) := by
  obtain ⟨e1, e2, e3, e4⟩ := lw_i n0
  rw [e1, e2, e3, e4]; exact h.2 n9.toNat (by omega)

theorem lw_j {x : MS} {n9 g1 g2 : Int} (n0 : 0 ≤ n9) (h1 : g1 = x.2 4 ((2 : Int) * n9).toNat) (h2 : g2 = x.2 4 ((2 : Int) * n9 + (1 : Int)).toNat) (h : jnb (lM x) (rM x) (x.1 12).toNat ([] ++ sgM x 5 ((24 : Int) * n9).toNat g1.toNat) ([] ++ sgM x 5 ((24 : Int) * n9 + (12 : Int)).toNat g2.toNat)) : jnb (lM x) (rM x) (x.1 12).toNat (sgM x 5 (24 * n9.toNat) (x.2 4 (2 * n9.toNat)).toNat) (sgM x 5 (24 * n9.toNat + 12) (x.2 4 (2 * n9.toNat + 1)).toNat) := by
  obtain ⟨e1, e2, e3, e4⟩ := lw_i n0
  rw [List.nil_append, List.nil_append, h1, h2, e1, e2, e3, e4] at h; exact h
theorem lw_j2 {x : MS} {n9 g1 g2 : Int} (n0 : 0 ≤ n9) (h1 : g1 = x.2 4 ((2 : Int) * n9).toNat) (h2 : g2 = x.2 4 ((2 : Int) * n9 + (1 : Int)).toNat) (h : jnb (lM x) (rM x) (x.1 12).toNat (sgM x 5 (24 * n9.toNat) (x.2 4 (2 * n9.toNat)).toNat) (sgM x 5 (24 * n9.toNat + 12) (x.2 4 (2 * n9.toNat + 1)).toNat)) : jnb (lM x) (rM x) (x.1 12).toNat ([] ++ sgM x 5 ((24 : Int) * n9).toNat g1.toNat) ([] ++ sgM x 5 ((24 : Int) * n9 + (12 : Int)).toNat g2.toNat) := by
  obtain ⟨e1, e2, e3, e4⟩ := lw_i n0
  rw [List.nil_append, List.nil_append, h1, h2, e1, e2, e3, e4]; exact h
theorem lw_ok {x : MS} {n9 g2 : Int} (h2 : g2 = x.2 4 ((2 : Int) * n9 + (1 : Int)).toNat) (h : okL (x.1 0).toNat (sgM x 5 ((24 : Int) * n9 + 12).toNat (x.2 4 ((2 : Int) * n9 + 1).toNat).toNat)) : okL (x.1 0).toNat (sgM x 5 ((24 : Int) * n9 + (12 : Int)).toNat g2.toNat) := by rw [h2]; exact h
def F_m_lawsHold_s : Nat → Nat → MS → Int → Int × MS
  | 0, _, x, _ => (0, x)
  | n + 1, t, x, p0 => match t with
    | 0 => (fun (n9 : Int) => (if ((x).1 3) ≤ (n9) then ((1 : Int), x) else (if ((F_m_meets ((F_m_put5 (aU ((F_m_put5 (aU (x) 1 ((9 : Int)).toNat ((0 : Int))) ((9 : Int)) (((24 : Int)) * (n9)) (((x).2 4) (((2 : Int)) * (n9)).toNat)).2) 1 ((10 : Int)).toNat ((0 : Int))) ((10 : Int)) ((((24 : Int)) * (n9)) + ((12 : Int))) ((((F_m_put5 (aU (x) 1 ((9 : Int)).toNat ((0 : Int))) ((9 : Int)) (((24 : Int)) * (n9)) (((x).2 4) (((2 : Int)) * (n9)).toNat)).2).2 4) ((((2 : Int)) * (n9)) + ((1 : Int))).toNat)).2) ((9 : Int)) ((10 : Int))).1) = (0) then ((0 : Int), (F_m_meets ((F_m_put5 (aU ((F_m_put5 (aU (x) 1 ((9 : Int)).toNat ((0 : Int))) ((9 : Int)) (((24 : Int)) * (n9)) (((x).2 4) (((2 : Int)) * (n9)).toNat)).2) 1 ((10 : Int)).toNat ((0 : Int))) ((10 : Int)) ((((24 : Int)) * (n9)) + ((12 : Int))) ((((F_m_put5 (aU (x) 1 ((9 : Int)).toNat ((0 : Int))) ((9 : Int)) (((24 : Int)) * (n9)) (((x).2 4) (((2 : Int)) * (n9)).toNat)).2).2 4) ((((2 : Int)) * (n9)) + ((1 : Int))).toNat)).2) ((9 : Int)) ((10 : Int))).2) else F_m_lawsHold_s n 0 ((F_m_meets ((F_m_put5 (aU ((F_m_put5 (aU (x) 1 ((9 : Int)).toNat ((0 : Int))) ((9 : Int)) (((24 : Int)) * (n9)) (((x).2 4) (((2 : Int)) * (n9)).toNat)).2) 1 ((10 : Int)).toNat ((0 : Int))) ((10 : Int)) ((((24 : Int)) * (n9)) + ((12 : Int))) ((((F_m_put5 (aU (x) 1 ((9 : Int)).toNat ((0 : Int))) ((9 : Int)) (((24 : Int)) * (n9)) (((x).2 4) (((2 : Int)) * (n9)).toNat)).2).2 4) ((((2 : Int)) * (n9)) + ((1 : Int))).toNat)).2) ((9 : Int)) ((10 : Int))).2) ((n9) + (1 : Int))))) p0
    | _ => (0, x)
theorem F_m_lawsHold_e0 (n : Nat) (x : MS) (n9 : Int) : F_m_lawsHold_s (n + 1) 0 x n9 = (if ((x).1 3) ≤ (n9) then ((1 : Int), x) else (if ((F_m_meets ((F_m_put5 (aU ((F_m_put5 (aU (x) 1 ((9 : Int)).toNat ((0 : Int))) ((9 : Int)) (((24 : Int)) * (n9)) (((x).2 4) (((2 : Int)) * (n9)).toNat)).2) 1 ((10 : Int)).toNat ((0 : Int))) ((10 : Int)) ((((24 : Int)) * (n9)) + ((12 : Int))) ((((F_m_put5 (aU (x) 1 ((9 : Int)).toNat ((0 : Int))) ((9 : Int)) (((24 : Int)) * (n9)) (((x).2 4) (((2 : Int)) * (n9)).toNat)).2).2 4) ((((2 : Int)) * (n9)) + ((1 : Int))).toNat)).2) ((9 : Int)) ((10 : Int))).1) = (0) then ((0 : Int), (F_m_meets ((F_m_put5 (aU ((F_m_put5 (aU (x) 1 ((9 : Int)).toNat ((0 : Int))) ((9 : Int)) (((24 : Int)) * (n9)) (((x).2 4) (((2 : Int)) * (n9)).toNat)).2) 1 ((10 : Int)).toNat ((0 : Int))) ((10 : Int)) ((((24 : Int)) * (n9)) + ((12 : Int))) ((((F_m_put5 (aU (x) 1 ((9 : Int)).toNat ((0 : Int))) ((9 : Int)) (((24 : Int)) * (n9)) (((x).2 4) (((2 : Int)) * (n9)).toNat)).2).2 4) ((((2 : Int)) * (n9)) + ((1 : Int))).toNat)).2) ((9 : Int)) ((10 : Int))).2) else F_m_lawsHold_s n 0 ((F_m_meets ((F_m_put5 (aU ((F_m_put5 (aU (x) 1 ((9 : Int)).toNat ((0 : Int))) ((9 : Int)) (((24 : Int)) * (n9)) (((x).2 4) (((2 : Int)) * (n9)).toNat)).2) 1 ((10 : Int)).toNat ((0 : Int))) ((10 : Int)) ((((24 : Int)) * (n9)) + ((12 : Int))) ((((F_m_put5 (aU (x) 1 ((9 : Int)).toNat ((0 : Int))) ((9 : Int)) (((24 : Int)) * (n9)) (((x).2 4) (((2 : Int)) * (n9)).toNat)).2).2 4) ((((2 : Int)) * (n9)) + ((1 : Int))).toNat)).2) ((9 : Int)) ((10 : Int))).2) ((n9) + (1 : Int)))) := rfl
def F_m_lawsHold (x : MS)  : Int × MS := F_m_lawsHold_s 100 0 (x) ((0 : Int))
set_option maxHeartbeats 4000000 in
set_option maxRecDepth 100000 in
/-- lawsHold -/
theorem c_m_lawsHold (l : Launch) (dC : Nat → ClassId) (dI : Nat → Nat → Nat) (h : Nat) (ad : Nat → Nat) (cI cJ cZ : ClassId) (sz : Nat) (x : MS)  (hH : clH x) (hw : rwR x) (lh : lwH x) : Met l yX12_lawsHold wsX12_lawsHold ({ frames := 2, cells := 0, slots := 0, locals := 57 }) (mPc dC dI h ad cI cJ cZ sz x [.ref h]) (va_Qi (fun (r : Int32) (u : MS) => r = iI (F_m_lawsHold (x)).1 ∧ u = (F_m_lawsHold (x)).2) (mAt dC dI h ad cI cJ cZ (va_A (mW h ad cI cJ cZ (x)) sz)) (va_A (mW h ad cI cJ cZ (x)) sz)) 0 0 (va_A (mW h ad cI cJ cZ (x)) sz) := by
  refine Met.ofW (cc := cX12_lawsHold) (maxL := 2) (ret := (some .boolean)) (by decide) rfl ?_
  intro p e s m args below meth c s₁ B hml hv
  obtain ⟨rfl, hsz, hP, hK, hD0⟩ := hv
  have hx := B.exec
  have hb := B.bytes
  have hr := B.returns
  have hts := atoms_spec (ws := wsX12_lawsHold) B.pre
  have hown : s.vm.findClass RX12 = some m.cls := findClass_of_methodNamed B.named
  have hlocks := B.notSynchronized
  have hin : ∀ w ∈ u_ws RX12 TX12 34, w ∈ wsX12_lawsHold := by decide +kernel
  subst hsz
  have hD := hD0.self (sz := s.heap.size)
  generalize hAe : va_A (mW h ad cI cJ cZ (x)) s.heap.size = A at hD ⊢
  have hA : ∀ q : Nat, s.heap.size ≤ q → A q := fun q h => by rw [← hAe]; exact Or.inr h
  have hS : va_S A s.heap s.heap [] := va_S.rf
  have hl := lv_entry ([.ref h]) (n := 2) (Nat.le_of_ble_eq_true rfl)
  rw [lg_entry_eq]
  generalize (lg_sl ([.ref h]) ++ List.replicate (2 - (lg_sl ([.ref h])).length) Slot.unset).toArray = ls at hl ⊢
  have hl : lv_has ls 2 [(0, .ref (h))] := hl
  have l4 := hH.1.1.2.1.2
  have l8 := lh.1
  have L : ∀ n : Nat, (∀ (y : MS) (n9 : Int), (clI x y) → (lwA x n9) → (0 ≤ n9) → (n9 ≤ x.1 3) → (n9 ≤ 8) → (30 - n9 < n) → F_m_lawsHold_s n 0 y n9 = F_m_lawsHold (x) → ∀ (H : Heap) (locs : List Loc) (ls : Array Slot), va_P (dC, dI) vwCl (mW h ad cI cJ cZ (y)) H → va_D A (mW h ad cI cJ cZ (y)) → va_S A s.heap H locs → lv_has ls 2 [(0, .ref (h)), (1, .int (iI (n9)))] → W p l e (headSpec wsX12_lawsHold ({ frames := 2, cells := 0, slots := 0, locals := 57 })).room s m ([.ref h] : List Value).toArray below meth c H locs 0 0 (MQ below (va_Qi (fun (r : Int32) (u : MS) => r = iI (F_m_lawsHold (x)).1 ∧ u = (F_m_lawsHold (x)).2) (mAt dC dI h ad cI cJ cZ A) A) ([.ref h] : List Value).toArray s 0 0 A) (F0 m 2 ls [])) := by
    intro n
    induction n with
    | zero =>
      skip
      · intro y n9 ci ac n1 n2 n3 fu hres
        exact absurd fu (by omega)
    | succ n ih =>
      skip
      · intro y n9 ci ac n1 n2 n3 fu hres H locs ls hP hD hS hl
        rw [F_m_lawsHold_e0] at hres
        have v1 := clI_v ci
        have v1l := v1.2.2.2.2.2.2.1
        refine lv_iload_n hx hb dX12_lawsHold_2 rfl (lv_at hl 1 rfl) ?_
        refine lv_aload_n hx hb dX12_lawsHold_3 rfl (lv_at hl 0 rfl) ?_
        refine va_get (D := (dC, dI)) (ci := 12) (v := .int (iI ((y).1 3))) (C := RX12) (T := TX12) (N := 34) hx hb hts hin hown hK hP 0 rfl rfl 3 (by decide) (hts (.fieldLink RX12 99 "LikeWordsModel" "laws" "I") (by decide +kernel)) (fun _ h9 => h9) rfl dX12_lawsHold_4 ?_
        refine wi_icmp_ge (tgt := 94) hx hb (by first | assumption | (unfold iR; omega) | exact F_R01 (by assumption)) (by first | assumption | (unfold iR; omega) | exact F_R01 (by assumption)) dX12_lawsHold_7 (by decide) (fun c_7 => ?_) (fun c_7 => ?_)
        · skip
          rw [if_pos c_7] at hres
          refine lv_iconst (v := iI (1 : Int)) hx hb dX12_lawsHold_94 (by decide) ?_
          exact W.zret (v := iI ((1 : Int))) hx hb hr (F_z _ (by first | assumption | omega)) (fun t ht hW => ⟨⟨iI ((1 : Int)), y, rfl, ⟨(by have h9 := congrArg (fun z : Int × MS => iI z.1) hres; exact h9), (by have h9 := congrArg (fun z : Int × MS => z.2) hres; exact h9)⟩, by rw [ht]; exact hP, va_K.moved hW.alike hK, hD⟩, hS.F ht⟩) hS.2.2 dX12_lawsHold_95
        · skip
          rw [if_neg c_7] at hres
          have lb := lw_b lh n1 (by omega)
          have vz := clI_v ci
          have vz_0 : (y).2 4 ((2 : Int) * n9).toNat = x.2 4 ((2 : Int) * n9).toNat := congrFun vz.1 _
          refine lv_aload_n hx hb dX12_lawsHold_10 rfl (lv_at hl 0 rfl) ?_
          refine va_get (D := (dC, dI)) (ci := 12) (v := .ref (ad 1)) (C := RX12) (T := TX12) (N := 34) hx hb hts hin hown hK hP 0 rfl rfl 1 (by decide) (hts (.fieldLink RX12 13 "LikeWordsModel" "size" "[I") (by decide +kernel)) (fun _ h9 => h9) rfl dX12_lawsHold_11 ?_
          refine lv_bipush (v := iI (9 : Int)) hx hb dX12_lawsHold_14 (by decide) ?_
          refine lv_iconst (v := iI (0 : Int)) hx hb dX12_lawsHold_16 (by decide) ?_
          refine wi_iast (f := (y).2 1) hx hb hK hP hD hS 1 0 rfl rfl (i := (9 : Int)) (x := (0 : Int)) (by omega) (by omega) (by decide) dX12_lawsHold_17 (fun H locs hP hD hS => ?_)
          rw [mW_a1] at hP hD
          have p1 : pz9 x (aU (y) 1 ((9 : Int)).toNat ((0 : Int))) _ _ := pz9_0 ci
          refine lv_aload_n hx hb dX12_lawsHold_18 rfl (lv_at hl 0 rfl) ?_
          refine lv_bipush (v := iI (9 : Int)) hx hb dX12_lawsHold_19 (by decide) ?_
          refine lv_aload_n hx hb dX12_lawsHold_21 rfl (lv_at hl 0 rfl) ?_
          refine va_get (D := (dC, dI)) (ci := 12) (v := .ref (ad 5)) (C := RX12) (T := TX12) (N := 34) hx hb hts hin hown hK hP 0 rfl rfl 5 (by decide) (hts (.fieldLink RX12 23 "LikeWordsModel" "law" "[I") (by decide +kernel)) (fun _ h9 => h9) rfl dX12_lawsHold_22 ?_
          refine lv_bipush (v := iI (24 : Int)) hx hb dX12_lawsHold_25 (by decide) ?_
          refine lv_iload_n hx hb dX12_lawsHold_27 rfl (lv_at hl 1 rfl) ?_
          refine wi_imul hx hb dX12_lawsHold_28 ?_
          refine lv_aload_n hx hb dX12_lawsHold_29 rfl (lv_at hl 0 rfl) ?_
          refine va_get (D := (dC, dI)) (ci := 12) (v := .ref (ad 4)) (C := RX12) (T := TX12) (N := 34) hx hb hts hin hown hK hP 0 rfl rfl 4 (by decide) (hts (.fieldLink RX12 20 "LikeWordsModel" "lawSize" "[I") (by decide +kernel)) (fun _ h9 => h9) rfl dX12_lawsHold_30 ?_
          refine lv_iconst (v := iI (2 : Int)) hx hb dX12_lawsHold_33 (by decide) ?_
          refine lv_iload_n hx hb dX12_lawsHold_34 rfl (lv_at hl 1 rfl) ?_
          refine wi_imul hx hb dX12_lawsHold_35 ?_
          refine wi_iald (f := (y).2 4) hx hb hK hP 3 0 rfl rfl (i := ((2 : Int)) * (n9)) (by omega) (by omega) (by decide) dX12_lawsHold_36 ?_
          have hFc : ∀ q, va_A (mW h ad cI cJ cZ (aU (y) 1 ((9 : Int)).toNat ((0 : Int)))) H.size q → A q := fun q hq => Or.elim hq (fun ⟨k, e, hk⟩ => hD.2 k (q, e) hk) (fun hk => hA q (Nat.le_trans hS.1 hk))
          refine va_callv (va_runV (As := [.int (iI ((9 : Int))), .ref (ad 5), .int (iI (((24 : Int)) * (n9))), .int (iI (((y).2 4) (((2 : Int)) * (n9)).toNat))]) (rest := []) ⟨hx, hb, hml, hown, hts⟩ (c_m_put5 l dC dI h ad cI cJ cZ H.size (aU (y) 1 ((9 : Int)).toNat ((0 : Int))) ((9 : Int)) (((24 : Int)) * (n9)) (((y).2 4) (((2 : Int)) * (n9)).toNat) (by decide) (by decide) (pz9_s p1).1 (by omega) (by have h9 := pz9_s p1; omega) (by omega) (by omega)) (cwV 4 hts gX12_lawsHold_X12_put rfl rfl rfl (by decide +kernel) ⟨Nat.le_of_ble_eq_true rfl, Nat.le_of_ble_eq_true rfl⟩) ⟨fun a U g mk q => by obtain ⟨q0, q1, qP, qK, qD⟩ := q; exact ⟨q0, q1, qP, va_K.moved (u := U) (U := U.calling g mk a) (Vm.Alike.refl U.vm) qK, qD⟩, va_recv hK hP (ci := 12) (q0 := 0) rfl rfl, fun U hU hW => ⟨rfl, by rw [hU], by rw [hU]; exact hP, va_K.moved hW.alike hK, hD.weaken (fun _ _ _ _ => trivial)⟩⟩ rfl rfl hl.1 rfl (lv_room (Nat.le_of_ble_eq_true rfl)) dX12_lawsHold_37 ⟨Nat.le_of_ble_eq_true rfl, Nat.le_of_ble_eq_true rfl⟩) hS (fun q _ h => hFc q h) hFc (fun u9 t H1 locs ht hvm hw hB hz1 hk1 hS => ?_)
          obtain ⟨hP1, hK1, hD1⟩ := hB
          rw [ht] at hP1
          rw [hw] at hP1 hD1
          have hD2 := hD1.weaken (B := A) (fun _ q _ h => hFc q.1 h)
          have hP := hP1
          have hD := hD2
          generalize H1 = H at hP hS ⊢
          have p2 : pz9 x ((F_m_put5 (aU (y) 1 ((9 : Int)).toNat ((0 : Int))) ((9 : Int)) (((24 : Int)) * (n9)) (((y).2 4) (((2 : Int)) * (n9)).toNat)).2) _ _ := pz9_5 l4 p1 (by omega) (by omega) (by omega) (by rw [vz_0]; exact lb.2.2.1)
          have v3 := clI_v p2.1
          have v3_0 : ((F_m_put5 (aU (y) 1 ((9 : Int)).toNat ((0 : Int))) ((9 : Int)) (((24 : Int)) * (n9)) (((y).2 4) (((2 : Int)) * (n9)).toNat)).2).2 4 ((2 : Int) * n9 + (1 : Int)).toNat = x.2 4 ((2 : Int) * n9 + (1 : Int)).toNat := congrFun v3.1 _
          refine lv_aload_n hx hb dX12_lawsHold_40 rfl (lv_at hl 0 rfl) ?_
          refine va_get (D := (dC, dI)) (ci := 12) (v := .ref (ad 1)) (C := RX12) (T := TX12) (N := 34) hx hb hts hin hown hK hP 0 rfl rfl 1 (by decide) (hts (.fieldLink RX12 13 "LikeWordsModel" "size" "[I") (by decide +kernel)) (fun _ h9 => h9) rfl dX12_lawsHold_41 ?_
          refine lv_bipush (v := iI (10 : Int)) hx hb dX12_lawsHold_44 (by decide) ?_
          refine lv_iconst (v := iI (0 : Int)) hx hb dX12_lawsHold_46 (by decide) ?_
          refine wi_iast (f := ((F_m_put5 (aU (y) 1 ((9 : Int)).toNat ((0 : Int))) ((9 : Int)) (((24 : Int)) * (n9)) (((y).2 4) (((2 : Int)) * (n9)).toNat)).2).2 1) hx hb hK hP hD hS 1 0 rfl rfl (i := (10 : Int)) (x := (0 : Int)) (by omega) (by omega) (by decide) dX12_lawsHold_47 (fun H locs hP hD hS => ?_)
          rw [mW_a1] at hP hD
          have p3 : pz x (aU ((F_m_put5 (aU (y) 1 ((9 : Int)).toNat ((0 : Int))) ((9 : Int)) (((24 : Int)) * (n9)) (((y).2 4) (((2 : Int)) * (n9)).toNat)).2) 1 ((10 : Int)).toNat ((0 : Int))) _ _ _ _ := pz_0 p2
          refine lv_aload_n hx hb dX12_lawsHold_48 rfl (lv_at hl 0 rfl) ?_
          refine lv_bipush (v := iI (10 : Int)) hx hb dX12_lawsHold_49 (by decide) ?_
          refine lv_aload_n hx hb dX12_lawsHold_51 rfl (lv_at hl 0 rfl) ?_
          refine va_get (D := (dC, dI)) (ci := 12) (v := .ref (ad 5)) (C := RX12) (T := TX12) (N := 34) hx hb hts hin hown hK hP 0 rfl rfl 5 (by decide) (hts (.fieldLink RX12 23 "LikeWordsModel" "law" "[I") (by decide +kernel)) (fun _ h9 => h9) rfl dX12_lawsHold_52 ?_
          refine lv_bipush (v := iI (24 : Int)) hx hb dX12_lawsHold_55 (by decide) ?_
          refine lv_iload_n hx hb dX12_lawsHold_57 rfl (lv_at hl 1 rfl) ?_
          refine wi_imul hx hb dX12_lawsHold_58 ?_
          refine lv_bipush (v := iI (12 : Int)) hx hb dX12_lawsHold_59 (by decide) ?_
          refine wi_iadd hx hb dX12_lawsHold_61 ?_
          refine lv_aload_n hx hb dX12_lawsHold_62 rfl (lv_at hl 0 rfl) ?_
          refine va_get (D := (dC, dI)) (ci := 12) (v := .ref (ad 4)) (C := RX12) (T := TX12) (N := 34) hx hb hts hin hown hK hP 0 rfl rfl 4 (by decide) (hts (.fieldLink RX12 20 "LikeWordsModel" "lawSize" "[I") (by decide +kernel)) (fun _ h9 => h9) rfl dX12_lawsHold_63 ?_
          refine lv_iconst (v := iI (2 : Int)) hx hb dX12_lawsHold_66 (by decide) ?_
          refine lv_iload_n hx hb dX12_lawsHold_67 rfl (lv_at hl 1 rfl) ?_
          refine wi_imul hx hb dX12_lawsHold_68 ?_
          refine lv_iconst (v := iI (1 : Int)) hx hb dX12_lawsHold_69 (by decide) ?_
          refine wi_iadd hx hb dX12_lawsHold_70 ?_
          refine wi_iald (f := ((F_m_put5 (aU (y) 1 ((9 : Int)).toNat ((0 : Int))) ((9 : Int)) (((24 : Int)) * (n9)) (((y).2 4) (((2 : Int)) * (n9)).toNat)).2).2 4) hx hb hK hP 3 0 rfl rfl (i := (((2 : Int)) * (n9)) + ((1 : Int))) (by omega) (by omega) (by decide) dX12_lawsHold_71 ?_
          have hFc : ∀ q, va_A (mW h ad cI cJ cZ (aU ((F_m_put5 (aU (y) 1 ((9 : Int)).toNat ((0 : Int))) ((9 : Int)) (((24 : Int)) * (n9)) (((y).2 4) (((2 : Int)) * (n9)).toNat)).2) 1 ((10 : Int)).toNat ((0 : Int)))) H.size q → A q := fun q hq => Or.elim hq (fun ⟨k, e, hk⟩ => hD.2 k (q, e) hk) (fun hk => hA q (Nat.le_trans hS.1 hk))
          refine va_callv (va_runV (As := [.int (iI ((10 : Int))), .ref (ad 5), .int (iI ((((24 : Int)) * (n9)) + ((12 : Int)))), .int (iI ((((F_m_put5 (aU (y) 1 ((9 : Int)).toNat ((0 : Int))) ((9 : Int)) (((24 : Int)) * (n9)) (((y).2 4) (((2 : Int)) * (n9)).toNat)).2).2 4) ((((2 : Int)) * (n9)) + ((1 : Int))).toNat))]) (rest := []) ⟨hx, hb, hml, hown, hts⟩ (c_m_put5 l dC dI h ad cI cJ cZ H.size (aU ((F_m_put5 (aU (y) 1 ((9 : Int)).toNat ((0 : Int))) ((9 : Int)) (((24 : Int)) * (n9)) (((y).2 4) (((2 : Int)) * (n9)).toNat)).2) 1 ((10 : Int)).toNat ((0 : Int))) ((10 : Int)) ((((24 : Int)) * (n9)) + ((12 : Int))) ((((F_m_put5 (aU (y) 1 ((9 : Int)).toNat ((0 : Int))) ((9 : Int)) (((24 : Int)) * (n9)) (((y).2 4) (((2 : Int)) * (n9)).toNat)).2).2 4) ((((2 : Int)) * (n9)) + ((1 : Int))).toNat) (by decide) (by decide) (pz_s p3).1 (by omega) (by have h9 := pz_s p3; omega) (by omega) (by omega)) (cwV 4 hts gX12_lawsHold_X12_put rfl rfl rfl (by decide +kernel) ⟨Nat.le_of_ble_eq_true rfl, Nat.le_of_ble_eq_true rfl⟩) ⟨fun a U g mk q => by obtain ⟨q0, q1, qP, qK, qD⟩ := q; exact ⟨q0, q1, qP, va_K.moved (u := U) (U := U.calling g mk a) (Vm.Alike.refl U.vm) qK, qD⟩, va_recv hK hP (ci := 12) (q0 := 0) rfl rfl, fun U hU hW => ⟨rfl, by rw [hU], by rw [hU]; exact hP, va_K.moved hW.alike hK, hD.weaken (fun _ _ _ _ => trivial)⟩⟩ rfl rfl hl.1 rfl (lv_room (Nat.le_of_ble_eq_true rfl)) dX12_lawsHold_72 ⟨Nat.le_of_ble_eq_true rfl, Nat.le_of_ble_eq_true rfl⟩) hS (fun q _ h => hFc q h) hFc (fun u9 t H1 locs ht hvm hw hB hz1 hk1 hS => ?_)
          obtain ⟨hP1, hK1, hD1⟩ := hB
          rw [ht] at hP1
          rw [hw] at hP1 hD1
          have hD2 := hD1.weaken (B := A) (fun _ q _ h => hFc q.1 h)
          have hP := hP1
          have hD := hD2
          generalize H1 = H at hP hS ⊢
          have p4 : pz x ((F_m_put5 (aU ((F_m_put5 (aU (y) 1 ((9 : Int)).toNat ((0 : Int))) ((9 : Int)) (((24 : Int)) * (n9)) (((y).2 4) (((2 : Int)) * (n9)).toNat)).2) 1 ((10 : Int)).toNat ((0 : Int))) ((10 : Int)) ((((24 : Int)) * (n9)) + ((12 : Int))) ((((F_m_put5 (aU (y) 1 ((9 : Int)).toNat ((0 : Int))) ((9 : Int)) (((24 : Int)) * (n9)) (((y).2 4) (((2 : Int)) * (n9)).toNat)).2).2 4) ((((2 : Int)) * (n9)) + ((1 : Int))).toNat)).2) _ _ _ _ := pz_5 l4 p3 (by omega) (by omega) (by omega) (by omega) (lw_ok v3_0 lb.2.2.2)
          have mh := pz_h hH p4 (by omega) (by omega)
          have mm := pz_m hH p4 (by omega) (by omega)
          have m01 := mtQ_01 mm.2
          have mq := mm.2
          refine lv_aload_n hx hb dX12_lawsHold_75 rfl (lv_at hl 0 rfl) ?_
          refine lv_bipush (v := iI (9 : Int)) hx hb dX12_lawsHold_76 (by decide) ?_
          refine lv_bipush (v := iI (10 : Int)) hx hb dX12_lawsHold_78 (by decide) ?_
          have hFc : ∀ q, va_A (mW h ad cI cJ cZ ((F_m_put5 (aU ((F_m_put5 (aU (y) 1 ((9 : Int)).toNat ((0 : Int))) ((9 : Int)) (((24 : Int)) * (n9)) (((y).2 4) (((2 : Int)) * (n9)).toNat)).2) 1 ((10 : Int)).toNat ((0 : Int))) ((10 : Int)) ((((24 : Int)) * (n9)) + ((12 : Int))) ((((F_m_put5 (aU (y) 1 ((9 : Int)).toNat ((0 : Int))) ((9 : Int)) (((24 : Int)) * (n9)) (((y).2 4) (((2 : Int)) * (n9)).toNat)).2).2 4) ((((2 : Int)) * (n9)) + ((1 : Int))).toNat)).2)) H.size q → A q := fun q hq => Or.elim hq (fun ⟨k, e, hk⟩ => hD.2 k (q, e) hk) (fun hk => hA q (Nat.le_trans hS.1 hk))
          refine va_calli (va_runV (As := [.int (iI ((9 : Int))), .int (iI ((10 : Int)))]) (rest := []) ⟨hx, hb, hml, hown, hts⟩ (c_m_meets l dC dI h ad cI cJ cZ H.size ((F_m_put5 (aU ((F_m_put5 (aU (y) 1 ((9 : Int)).toNat ((0 : Int))) ((9 : Int)) (((24 : Int)) * (n9)) (((y).2 4) (((2 : Int)) * (n9)).toNat)).2) 1 ((10 : Int)).toNat ((0 : Int))) ((10 : Int)) ((((24 : Int)) * (n9)) + ((12 : Int))) ((((F_m_put5 (aU (y) 1 ((9 : Int)).toNat ((0 : Int))) ((9 : Int)) (((24 : Int)) * (n9)) (((y).2 4) (((2 : Int)) * (n9)).toNat)).2).2 4) ((((2 : Int)) * (n9)) + ((1 : Int))).toNat)).2) ((9 : Int)) ((10 : Int)) (by decide) (by decide) mh.1 mh.2.1 (by decide) mh.2.2.1 mh.2.2.2) (cwV 2 hts gX12_lawsHold_X12_meets rfl rfl rfl (by decide +kernel) ⟨Nat.le_of_ble_eq_true rfl, Nat.le_of_ble_eq_true rfl⟩) ⟨fun a U g mk q => by obtain ⟨q0, q1, qP, qK, qD⟩ := q; exact ⟨q0, q1, qP, va_K.moved (u := U) (U := U.calling g mk a) (Vm.Alike.refl U.vm) qK, qD⟩, va_recv hK hP (ci := 12) (q0 := 0) rfl rfl, fun U hU hW => ⟨rfl, by rw [hU], by rw [hU]; exact hP, va_K.moved hW.alike hK, hD.weaken (fun _ _ _ _ => trivial)⟩⟩ rfl rfl hl.1 rfl (lv_room (Nat.le_of_ble_eq_true rfl)) dX12_lawsHold_80 ⟨Nat.le_of_ble_eq_true rfl, Nat.le_of_ble_eq_true rfl⟩) hS (fun q _ h => hFc q h) hFc (fun r9 u9 t H1 locs ht hvm hw hB hz1 hk1 hS => ?_)
          obtain ⟨hP1, hK1, hD1⟩ := hB
          rw [ht] at hP1
          obtain ⟨hw1, hw2⟩ := hw
          rw [hw2] at hP1 hD1
          rw [hw1]
          have hD2 := hD1.weaken (B := A) (fun _ q _ h => hFc q.1 h)
          have hP := hP1
          have hD := hD2
          generalize H1 = H at hP hS ⊢
          refine wi_if_ne (tgt := 88) hx hb (by first | assumption | (unfold iR; omega) | exact F_R01 (by assumption)) dX12_lawsHold_83 (by decide) (fun c_83 => ?_) (fun c_83 => ?_)
          · skip
            rw [if_neg c_83] at hres
            refine lv_iinc (v := iI ((n9) + (1 : Int))) (lv' := [(1, .int (iI ((n9) + (1 : Int)))), (0, .ref (h))]) hx hb dX12_lawsHold_88 hl (k := 1) rfl (iI_add _ _) (by decide) rfl (fun ls hl => ?_)
            refine lv_goto (tgt := 2) hx hb dX12_lawsHold_91 (by decide) ?_
            exact ih ((F_m_meets ((F_m_put5 (aU ((F_m_put5 (aU (y) 1 ((9 : Int)).toNat ((0 : Int))) ((9 : Int)) (((24 : Int)) * (n9)) (((y).2 4) (((2 : Int)) * (n9)).toNat)).2) 1 ((10 : Int)).toNat ((0 : Int))) ((10 : Int)) ((((24 : Int)) * (n9)) + ((12 : Int))) ((((F_m_put5 (aU (y) 1 ((9 : Int)).toNat ((0 : Int))) ((9 : Int)) (((24 : Int)) * (n9)) (((y).2 4) (((2 : Int)) * (n9)).toNat)).2).2 4) ((((2 : Int)) * (n9)) + ((1 : Int))).toNat)).2) ((9 : Int)) ((10 : Int))).2) ((n9) + (1 : Int)) (mm.1) (lwA_yes ac (by omega) (lw_j n1 vz_0 v3_0 (mtQ_1 mq c_83))) (by omega) (by omega) (by omega) (by omega) hres _ _ ls hP hD hS (lv_sub hl [1, 0] rfl)
          · skip
            rw [if_pos c_83] at hres
            refine lv_iconst (v := iI (0 : Int)) hx hb dX12_lawsHold_86 (by decide) ?_
            exact W.zret (v := iI ((0 : Int))) hx hb hr (F_z _ (by first | assumption | omega)) (fun t ht hW => ⟨⟨iI ((0 : Int)), (F_m_meets ((F_m_put5 (aU ((F_m_put5 (aU (y) 1 ((9 : Int)).toNat ((0 : Int))) ((9 : Int)) (((24 : Int)) * (n9)) (((y).2 4) (((2 : Int)) * (n9)).toNat)).2) 1 ((10 : Int)).toNat ((0 : Int))) ((10 : Int)) ((((24 : Int)) * (n9)) + ((12 : Int))) ((((F_m_put5 (aU (y) 1 ((9 : Int)).toNat ((0 : Int))) ((9 : Int)) (((24 : Int)) * (n9)) (((y).2 4) (((2 : Int)) * (n9)).toNat)).2).2 4) ((((2 : Int)) * (n9)) + ((1 : Int))).toNat)).2) ((9 : Int)) ((10 : Int))).2, rfl, ⟨(by have h9 := congrArg (fun z : Int × MS => iI z.1) hres; exact h9), (by have h9 := congrArg (fun z : Int × MS => z.2) hres; exact h9)⟩, by rw [ht]; exact hP, va_K.moved hW.alike hK, hD⟩, hS.F ht⟩) hS.2.2 dX12_lawsHold_87
  have key : ∀ (H : Heap) (locs : List Loc), va_P (dC, dI) vwCl (mW h ad cI cJ cZ (x)) H → va_S A s.heap H locs → W p l e (headSpec wsX12_lawsHold ({ frames := 2, cells := 0, slots := 0, locals := 57 })).room s m ([.ref h] : List Value).toArray below meth c H locs 0 0 (MQ below (va_Qi (fun (r : Int32) (u : MS) => r = iI (F_m_lawsHold (x)).1 ∧ u = (F_m_lawsHold (x)).2) (mAt dC dI h ad cI cJ cZ A) A) ([.ref h] : List Value).toArray s 0 0 A) (F0 m 0 ls []) := by
    intro H locs hP hS
    have hres : F_m_lawsHold_s 100 0 (x) ((0 : Int)) = F_m_lawsHold (x) := rfl
    refine lv_iconst (v := iI (0 : Int)) hx hb dX12_lawsHold_0 (by decide) ?_
    refine lv_istore_n (lv' := [(1, .int (iI ((0 : Int)))), (0, .ref (h))]) hx hb dX12_lawsHold_1 rfl hl (by decide) rfl (fun ls hl => ?_)
    exact (L (100)) (x) ((0 : Int)) (clI_0 hw) (fun m m1 => by omega) (by omega) (by omega) (by omega) (by omega) hres _ _ ls hP hD hS (lv_sub hl [1, 0] rfl)
  exact key _ _ hP hS
theorem F_m_lawsHold_sfr : ∀ n : Nat, (∀ (y : MS) (v0 : Int), same [] [1, 2, 26] y (F_m_lawsHold_s n 0 y v0).2) := by
  intro n
  induction n with
  | zero => exact fun y _ => sm_rf _ _ _
  | succ n ih =>
    skip
    · intro y n9
      rw [F_m_lawsHold_e0]
      by_cases hc : ((y).1 3) ≤ (n9)
      · rw [if_pos hc]
        exact (sm_rf _ _ _)
      · rw [if_neg hc]
        by_cases hc : ((F_m_meets ((F_m_put5 (aU ((F_m_put5 (aU (y) 1 ((9 : Int)).toNat ((0 : Int))) ((9 : Int)) (((24 : Int)) * (n9)) (((y).2 4) (((2 : Int)) * (n9)).toNat)).2) 1 ((10 : Int)).toNat ((0 : Int))) ((10 : Int)) ((((24 : Int)) * (n9)) + ((12 : Int))) ((((F_m_put5 (aU (y) 1 ((9 : Int)).toNat ((0 : Int))) ((9 : Int)) (((24 : Int)) * (n9)) (((y).2 4) (((2 : Int)) * (n9)).toNat)).2).2 4) ((((2 : Int)) * (n9)) + ((1 : Int))).toNat)).2) ((9 : Int)) ((10 : Int))).1) = (0)
        · rw [if_pos hc]
          exact (sm_tr (sm_tr (sm_a (by decide) (sm_tr (sm_a (by decide) (sm_rf _ _ _)) (sm_mono (by decide) (by decide) (F_m_put5_fr (aU (y) 1 ((9 : Int)).toNat ((0 : Int))) ((9 : Int)) (((24 : Int)) * (n9)) (((y).2 4) (((2 : Int)) * (n9)).toNat))))) (sm_mono (by decide) (by decide) (F_m_put5_fr (aU ((F_m_put5 (aU (y) 1 ((9 : Int)).toNat ((0 : Int))) ((9 : Int)) (((24 : Int)) * (n9)) (((y).2 4) (((2 : Int)) * (n9)).toNat)).2) 1 ((10 : Int)).toNat ((0 : Int))) ((10 : Int)) ((((24 : Int)) * (n9)) + ((12 : Int))) ((((F_m_put5 (aU (y) 1 ((9 : Int)).toNat ((0 : Int))) ((9 : Int)) (((24 : Int)) * (n9)) (((y).2 4) (((2 : Int)) * (n9)).toNat)).2).2 4) ((((2 : Int)) * (n9)) + ((1 : Int))).toNat)))) (sm_mono (by decide) (by decide) (F_m_meets_fr ((F_m_put5 (aU ((F_m_put5 (aU (y) 1 ((9 : Int)).toNat ((0 : Int))) ((9 : Int)) (((24 : Int)) * (n9)) (((y).2 4) (((2 : Int)) * (n9)).toNat)).2) 1 ((10 : Int)).toNat ((0 : Int))) ((10 : Int)) ((((24 : Int)) * (n9)) + ((12 : Int))) ((((F_m_put5 (aU (y) 1 ((9 : Int)).toNat ((0 : Int))) ((9 : Int)) (((24 : Int)) * (n9)) (((y).2 4) (((2 : Int)) * (n9)).toNat)).2).2 4) ((((2 : Int)) * (n9)) + ((1 : Int))).toNat)).2) ((9 : Int)) ((10 : Int)))))
        · rw [if_neg hc]
          exact sm_tr ((sm_tr (sm_tr (sm_a (by decide) (sm_tr (sm_a (by decide) (sm_rf _ _ _)) (sm_mono (by decide) (by decide) (F_m_put5_fr (aU (y) 1 ((9 : Int)).toNat ((0 : Int))) ((9 : Int)) (((24 : Int)) * (n9)) (((y).2 4) (((2 : Int)) * (n9)).toNat))))) (sm_mono (by decide) (by decide) (F_m_put5_fr (aU ((F_m_put5 (aU (y) 1 ((9 : Int)).toNat ((0 : Int))) ((9 : Int)) (((24 : Int)) * (n9)) (((y).2 4) (((2 : Int)) * (n9)).toNat)).2) 1 ((10 : Int)).toNat ((0 : Int))) ((10 : Int)) ((((24 : Int)) * (n9)) + ((12 : Int))) ((((F_m_put5 (aU (y) 1 ((9 : Int)).toNat ((0 : Int))) ((9 : Int)) (((24 : Int)) * (n9)) (((y).2 4) (((2 : Int)) * (n9)).toNat)).2).2 4) ((((2 : Int)) * (n9)) + ((1 : Int))).toNat)))) (sm_mono (by decide) (by decide) (F_m_meets_fr ((F_m_put5 (aU ((F_m_put5 (aU (y) 1 ((9 : Int)).toNat ((0 : Int))) ((9 : Int)) (((24 : Int)) * (n9)) (((y).2 4) (((2 : Int)) * (n9)).toNat)).2) 1 ((10 : Int)).toNat ((0 : Int))) ((10 : Int)) ((((24 : Int)) * (n9)) + ((12 : Int))) ((((F_m_put5 (aU (y) 1 ((9 : Int)).toNat ((0 : Int))) ((9 : Int)) (((24 : Int)) * (n9)) (((y).2 4) (((2 : Int)) * (n9)).toNat)).2).2 4) ((((2 : Int)) * (n9)) + ((1 : Int))).toNat)).2) ((9 : Int)) ((10 : Int)))))) (ih ((F_m_meets ((F_m_put5 (aU ((F_m_put5 (aU (y) 1 ((9 : Int)).toNat ((0 : Int))) ((9 : Int)) (((24 : Int)) * (n9)) (((y).2 4) (((2 : Int)) * (n9)).toNat)).2) 1 ((10 : Int)).toNat ((0 : Int))) ((10 : Int)) ((((24 : Int)) * (n9)) + ((12 : Int))) ((((F_m_put5 (aU (y) 1 ((9 : Int)).toNat ((0 : Int))) ((9 : Int)) (((24 : Int)) * (n9)) (((y).2 4) (((2 : Int)) * (n9)).toNat)).2).2 4) ((((2 : Int)) * (n9)) + ((1 : Int))).toNat)).2) ((9 : Int)) ((10 : Int))).2) ((n9) + (1 : Int)))
theorem F_m_lawsHold_fr (x : MS)  : same [] [1, 2, 26] x (F_m_lawsHold (x)).2 := by
  unfold F_m_lawsHold
  exact sm_tr ((sm_rf _ _ _)) ((F_m_lawsHold_sfr 100) (x) ((0 : Int)))
set_option maxHeartbeats 4000000 in
theorem F_m_lawsHold_p (x : MS)  (hH : clH x) (hw : rwR x) (lh : lwH x) : lwQ x (F_m_lawsHold (x)) := by
  have l4 := hH.1.1.2.1.2
  have l8 := lh.1
  have L : ∀ n : Nat, (∀ (y : MS) (n9 : Int), (clI x y) → (lwA x n9) → (0 ≤ n9) → (n9 ≤ x.1 3) → (n9 ≤ 8) → (30 - n9 < n) → lwQ x (F_m_lawsHold_s n 0 y n9)) := by
    intro n
    induction n with
    | zero =>
      skip
      · intro y n9 ci ac n1 n2 n3 fu
        exact absurd fu (by omega)
    | succ n ih =>
      skip
      · intro y n9 ci ac n1 n2 n3 fu
        rw [F_m_lawsHold_e0]
        have v1 := clI_v ci
        have v1l := v1.2.2.2.2.2.2.1
        by_cases c_7 : ((y).1 3) ≤ (n9)
        · rw [if_pos c_7]
          exact lwQ_1 ci ac (by omega)
        · rw [if_neg c_7]
          have lb := lw_b lh n1 (by omega)
          have vz := clI_v ci
          have vz_0 : (y).2 4 ((2 : Int) * n9).toNat = x.2 4 ((2 : Int) * n9).toNat := congrFun vz.1 _
          have p1 : pz9 x (aU (y) 1 ((9 : Int)).toNat ((0 : Int))) _ _ := pz9_0 ci
          have p2 : pz9 x ((F_m_put5 (aU (y) 1 ((9 : Int)).toNat ((0 : Int))) ((9 : Int)) (((24 : Int)) * (n9)) (((y).2 4) (((2 : Int)) * (n9)).toNat)).2) _ _ := pz9_5 l4 p1 (by omega) (by omega) (by omega) (by rw [vz_0]; exact lb.2.2.1)
          have v3 := clI_v p2.1
          have v3_0 : ((F_m_put5 (aU (y) 1 ((9 : Int)).toNat ((0 : Int))) ((9 : Int)) (((24 : Int)) * (n9)) (((y).2 4) (((2 : Int)) * (n9)).toNat)).2).2 4 ((2 : Int) * n9 + (1 : Int)).toNat = x.2 4 ((2 : Int) * n9 + (1 : Int)).toNat := congrFun v3.1 _
          have p3 : pz x (aU ((F_m_put5 (aU (y) 1 ((9 : Int)).toNat ((0 : Int))) ((9 : Int)) (((24 : Int)) * (n9)) (((y).2 4) (((2 : Int)) * (n9)).toNat)).2) 1 ((10 : Int)).toNat ((0 : Int))) _ _ _ _ := pz_0 p2
          have p4 : pz x ((F_m_put5 (aU ((F_m_put5 (aU (y) 1 ((9 : Int)).toNat ((0 : Int))) ((9 : Int)) (((24 : Int)) * (n9)) (((y).2 4) (((2 : Int)) * (n9)).toNat)).2) 1 ((10 : Int)).toNat ((0 : Int))) ((10 : Int)) ((((24 : Int)) * (n9)) + ((12 : Int))) ((((F_m_put5 (aU (y) 1 ((9 : Int)).toNat ((0 : Int))) ((9 : Int)) (((24 : Int)) * (n9)) (((y).2 4) (((2 : Int)) * (n9)).toNat)).2).2 4) ((((2 : Int)) * (n9)) + ((1 : Int))).toNat)).2) _ _ _ _ := pz_5 l4 p3 (by omega) (by omega) (by omega) (by omega) (lw_ok v3_0 lb.2.2.2)
          have mh := pz_h hH p4 (by omega) (by omega)
          have mm := pz_m hH p4 (by omega) (by omega)
          have m01 := mtQ_01 mm.2
          have mq := mm.2
          by_cases c_83 : ((F_m_meets ((F_m_put5 (aU ((F_m_put5 (aU (y) 1 ((9 : Int)).toNat ((0 : Int))) ((9 : Int)) (((24 : Int)) * (n9)) (((y).2 4) (((2 : Int)) * (n9)).toNat)).2) 1 ((10 : Int)).toNat ((0 : Int))) ((10 : Int)) ((((24 : Int)) * (n9)) + ((12 : Int))) ((((F_m_put5 (aU (y) 1 ((9 : Int)).toNat ((0 : Int))) ((9 : Int)) (((24 : Int)) * (n9)) (((y).2 4) (((2 : Int)) * (n9)).toNat)).2).2 4) ((((2 : Int)) * (n9)) + ((1 : Int))).toNat)).2) ((9 : Int)) ((10 : Int))).1) = (0)
          · rw [if_pos c_83]
            exact ⟨mm.1, Or.inr ⟨rfl, mtQ_0 mq (by omega) (fun hc => lw_j2 n1 vz_0 v3_0 (hc.2 n9.toNat (by omega)))⟩⟩
          · rw [if_neg c_83]
            exact ih ((F_m_meets ((F_m_put5 (aU ((F_m_put5 (aU (y) 1 ((9 : Int)).toNat ((0 : Int))) ((9 : Int)) (((24 : Int)) * (n9)) (((y).2 4) (((2 : Int)) * (n9)).toNat)).2) 1 ((10 : Int)).toNat ((0 : Int))) ((10 : Int)) ((((24 : Int)) * (n9)) + ((12 : Int))) ((((F_m_put5 (aU (y) 1 ((9 : Int)).toNat ((0 : Int))) ((9 : Int)) (((24 : Int)) * (n9)) (((y).2 4) (((2 : Int)) * (n9)).toNat)).2).2 4) ((((2 : Int)) * (n9)) + ((1 : Int))).toNat)).2) ((9 : Int)) ((10 : Int))).2) ((n9) + (1 : Int)) (mm.1) (lwA_yes ac (by omega) (lw_j n1 vz_0 v3_0 (mtQ_1 mq c_83))) (by omega) (by omega) (by omega) (by omega)
  unfold F_m_lawsHold
  exact (L (100)) (x) ((0 : Int)) (clI_0 hw) (fun m m1 => by omega) (by omega) (by omega) (by omega) (by omega)
