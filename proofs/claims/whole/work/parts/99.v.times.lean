-- deps: 99.u
def F_m_times (x : MS) (a : Int) (b : Int) : Int × MS := (if ((((x).2 1) (a).toNat) + (((x).2 1) (b).toNat)) ≤ ((60 : Int)) then ((1 : Int), (F_m_reduceAt ((F_m_append (x) (a) (b)).2) (a)).2) else ((0 : Int), x))
set_option maxHeartbeats 4000000 in
set_option maxRecDepth 100000 in
/-- times -/
theorem c_m_times (l : Launch) (dC : Nat → ClassId) (dI : Nat → Nat → Nat) (h : Nat) (ad : Nat → Nat) (cI cJ cZ : ClassId) (sz : Nat) (x : MS) (a : Int) (b : Int) (ha9 : a = 9) (hb9 : b = 10 ∨ b = 12) (mz : mzH x) (hrw : rwR x) (ha : slH x 9) (hb2 : slH x b.toNat) : Met l yX12_times wsX12_times ({ frames := 1, cells := 0, slots := 0, locals := 35 }) (mPc dC dI h ad cI cJ cZ sz x [.ref h, .int (iI a), .int (iI b)]) (va_Qi (fun (r : Int32) (u : MS) => r = iI (F_m_times (x) (a) (b)).1 ∧ u = (F_m_times (x) (a) (b)).2) (mAt dC dI h ad cI cJ cZ (va_A (mW h ad cI cJ cZ (x)) sz)) (va_A (mW h ad cI cJ cZ (x)) sz)) 0 0 (va_A (mW h ad cI cJ cZ (x)) sz) := by
  refine Met.ofW (cc := cX12_times) (maxL := 3) (ret := (some .boolean)) (by decide) rfl ?_
  intro p e s m args below meth c s₁ B hml hv
  obtain ⟨rfl, hsz, hP, hK, hD0⟩ := hv
  have hx := B.exec
  have hb := B.bytes
  have hr := B.returns
  have hts := atoms_spec (ws := wsX12_times) B.pre
  have hown : s.vm.findClass RX12 = some m.cls := findClass_of_methodNamed B.named
  have hlocks := B.notSynchronized
  have hin : ∀ w ∈ u_ws RX12 TX12 34, w ∈ wsX12_times := by decide +kernel
  subst hsz
  have hD := hD0.self (sz := s.heap.size)
  generalize hAe : va_A (mW h ad cI cJ cZ (x)) s.heap.size = A at hD ⊢
  have hA : ∀ q : Nat, s.heap.size ≤ q → A q := fun q h => by rw [← hAe]; exact Or.inr h
  have hS : va_S A s.heap s.heap [] := va_S.rf
  have hl := lv_entry ([.ref h, .int (iI a), .int (iI b)]) (n := 3) (Nat.le_of_ble_eq_true rfl)
  rw [lg_entry_eq]
  generalize (lg_sl ([.ref h, .int (iI a), .int (iI b)]) ++ List.replicate (3 - (lg_sl ([.ref h, .int (iI a), .int (iI b)])).length) Slot.unset).toArray = ls at hl ⊢
  have hl : lv_has ls 3 [(0, .ref (h)), (1, .int (iI (a))), (2, .int (iI (b)))] := hl
  have ea : a.toNat = 9 := by omega
  have eb : (b.toNat : Int) = b := by omega
  have za := ha.1
  have zb := hb2.1
  have e1 : x.2 1 a.toNat = x.2 1 9 := by rw [ea]
  have ka := slH_K ha
  have kb := slH_K hb2
  have la := ka.1
  have lb := kb.1
  have key : ∀ (H : Heap) (locs : List Loc), va_P (dC, dI) vwCl (mW h ad cI cJ cZ (x)) H → va_S A s.heap H locs → W p l e (headSpec wsX12_times ({ frames := 1, cells := 0, slots := 0, locals := 35 })).room s m ([.ref h, .int (iI a), .int (iI b)] : List Value).toArray below meth c H locs 0 0 (MQ below (va_Qi (fun (r : Int32) (u : MS) => r = iI (F_m_times (x) (a) (b)).1 ∧ u = (F_m_times (x) (a) (b)).2) (mAt dC dI h ad cI cJ cZ A) A) ([.ref h, .int (iI a), .int (iI b)] : List Value).toArray s 0 0 A) (F0 m 0 ls []) := by
    intro H locs hP hS
    have hres : (if ((((x).2 1) (a).toNat) + (((x).2 1) (b).toNat)) ≤ ((60 : Int)) then ((1 : Int), (F_m_reduceAt ((F_m_append (x) (a) (b)).2) (a)).2) else ((0 : Int), x)) = F_m_times (x) (a) (b) := rfl
    refine lv_aload_n hx hb dX12_times_0 rfl (lv_at hl 0 rfl) ?_
    refine va_get (D := (dC, dI)) (ci := 12) (v := .ref (ad 1)) (C := RX12) (T := TX12) (N := 34) hx hb hts hin hown hK hP 0 rfl rfl 1 (by decide) (hts (.fieldLink RX12 13 "LikeWordsModel" "size" "[I") (by decide +kernel)) (fun _ h9 => h9) rfl dX12_times_1 ?_
    refine lv_iload_n hx hb dX12_times_4 rfl (lv_at hl 1 rfl) ?_
    refine wi_iald (f := (x).2 1) hx hb hK hP 1 0 rfl rfl (i := a) (by omega) (by omega) (by decide) dX12_times_5 ?_
    refine lv_aload_n hx hb dX12_times_6 rfl (lv_at hl 0 rfl) ?_
    refine va_get (D := (dC, dI)) (ci := 12) (v := .ref (ad 1)) (C := RX12) (T := TX12) (N := 34) hx hb hts hin hown hK hP 0 rfl rfl 1 (by decide) (hts (.fieldLink RX12 13 "LikeWordsModel" "size" "[I") (by decide +kernel)) (fun _ h9 => h9) rfl dX12_times_7 ?_
    refine lv_iload_n hx hb dX12_times_10 rfl (lv_at hl 2 rfl) ?_
    refine wi_iald (f := (x).2 1) hx hb hK hP 1 0 rfl rfl (i := b) (by omega) (by omega) (by decide) dX12_times_11 ?_
    refine wi_iadd hx hb dX12_times_12 ?_
    refine lv_bipush (v := iI (60 : Int)) hx hb dX12_times_13 (by decide) ?_
    refine wi_icmp_le (tgt := 20) hx hb (by first | assumption | (unfold iR; omega) | exact F_R01 (by assumption)) ⟨by decide, by decide⟩ dX12_times_15 (by decide) (fun c_15 => ?_) (fun c_15 => ?_)
    · skip
      rw [if_pos c_15] at hres
      refine lv_aload_n hx hb dX12_times_20 rfl (lv_at hl 0 rfl) ?_
      refine lv_iload_n hx hb dX12_times_21 rfl (lv_at hl 1 rfl) ?_
      refine lv_iload_n hx hb dX12_times_22 rfl (lv_at hl 2 rfl) ?_
      have hFc : ∀ q, va_A (mW h ad cI cJ cZ (x)) H.size q → A q := fun q hq => Or.elim hq (fun ⟨k, e, hk⟩ => hD.2 k (q, e) hk) (fun hk => hA q (Nat.le_trans hS.1 hk))
      refine va_callv (va_runV (As := [.int (iI (a)), .int (iI (b))]) (rest := []) ⟨hx, hb, hml, hown, hts⟩ (c_m_append l dC dI h ad cI cJ cZ H.size (x) (a) (b) (by omega) (by omega) (by omega) (by omega) (by omega) (by omega) (by omega)) (cwV 2 hts gX12_times_X12_append rfl rfl rfl (by decide +kernel) ⟨Nat.le_of_ble_eq_true rfl, Nat.le_of_ble_eq_true rfl⟩) ⟨fun a U g mk q => by obtain ⟨q0, q1, qP, qK, qD⟩ := q; exact ⟨q0, q1, qP, va_K.moved (u := U) (U := U.calling g mk a) (Vm.Alike.refl U.vm) qK, qD⟩, va_recv hK hP (ci := 12) (q0 := 0) rfl rfl, fun U hU hW => ⟨rfl, by rw [hU], by rw [hU]; exact hP, va_K.moved hW.alike hK, hD.weaken (fun _ _ _ _ => trivial)⟩⟩ rfl rfl hl.1 rfl (lv_room (Nat.le_of_ble_eq_true rfl)) dX12_times_23 ⟨Nat.le_of_ble_eq_true rfl, Nat.le_of_ble_eq_true rfl⟩) hS (fun q _ h => hFc q h) hFc (fun u9 t H1 locs ht hvm hw hB hz1 hk1 hS => ?_)
      obtain ⟨hP1, hK1, hD1⟩ := hB
      rw [ht] at hP1
      rw [hw] at hP1 hD1
      have hD2 := hD1.weaken (B := A) (fun _ q _ h => hFc q.1 h)
      have hP := hP1
      have hD := hD2
      generalize H1 = H at hP hS ⊢
      have d1 : slD x ((F_m_append (x) (a) (b)).2) 9 ∧ slK x ((F_m_append (x) (a) (b)).2) 9 (slM x 9 ++ slM x b.toNat) := by
        have h9 := app_D (x := x) hrw ka kb (by omega) (by omega) (by omega) (by omega)
        rw [eb, show ((9 : Nat) : Int) = a by omega] at h9
        exact h9
      have f1 := slD_F (slF_0 hrw) d1.1 (Or.inl rfl)
      have r1 := slH_r f1 mz d1.2 (by omega) (by omega)
      rw [← ea] at r1
      refine lv_aload_n hx hb dX12_times_26 rfl (lv_at hl 0 rfl) ?_
      refine lv_iload_n hx hb dX12_times_27 rfl (lv_at hl 1 rfl) ?_
      have hFc : ∀ q, va_A (mW h ad cI cJ cZ ((F_m_append (x) (a) (b)).2)) H.size q → A q := fun q hq => Or.elim hq (fun ⟨k, e, hk⟩ => hD.2 k (q, e) hk) (fun hk => hA q (Nat.le_trans hS.1 hk))
      refine va_callv (va_runV (As := [.int (iI (a))]) (rest := []) ⟨hx, hb, hml, hown, hts⟩ (c_m_reduceAt l dC dI h ad cI cJ cZ H.size ((F_m_append (x) (a) (b)).2) (a) (by omega) (by omega) (by omega) r1.1.2.1.1 r1.1.2.1.2 r1.1.2.2.1 r1.1.2.2.2.1 r1.1.2.2.2.2) (cwV 1 hts gX12_times_X12_reduceAt rfl rfl rfl (by decide +kernel) ⟨Nat.le_of_ble_eq_true rfl, Nat.le_of_ble_eq_true rfl⟩) ⟨fun a U g mk q => by obtain ⟨q0, q1, qP, qK, qD⟩ := q; exact ⟨q0, q1, qP, va_K.moved (u := U) (U := U.calling g mk a) (Vm.Alike.refl U.vm) qK, qD⟩, va_recv hK hP (ci := 12) (q0 := 0) rfl rfl, fun U hU hW => ⟨rfl, by rw [hU], by rw [hU]; exact hP, va_K.moved hW.alike hK, hD.weaken (fun _ _ _ _ => trivial)⟩⟩ rfl rfl hl.1 rfl (lv_room (Nat.le_of_ble_eq_true rfl)) dX12_times_28 ⟨Nat.le_of_ble_eq_true rfl, Nat.le_of_ble_eq_true rfl⟩) hS (fun q _ h => hFc q h) hFc (fun u9 t H1 locs ht hvm hw hB hz1 hk1 hS => ?_)
      obtain ⟨hP1, hK1, hD1⟩ := hB
      rw [ht] at hP1
      rw [hw] at hP1 hD1
      have hD2 := hD1.weaken (B := A) (fun _ q _ h => hFc q.1 h)
      have hP := hP1
      have hD := hD2
      generalize H1 = H at hP hS ⊢
      refine lv_iconst (v := iI (1 : Int)) hx hb dX12_times_31 (by decide) ?_
      exact W.zret (v := iI ((1 : Int))) hx hb hr (F_z _ (by first | assumption | omega)) (fun t ht hW => ⟨⟨iI ((1 : Int)), (F_m_reduceAt ((F_m_append (x) (a) (b)).2) (a)).2, rfl, ⟨(by have h9 := congrArg (fun z : Int × MS => iI z.1) hres; exact h9), (by have h9 := congrArg (fun z : Int × MS => z.2) hres; exact h9)⟩, by rw [ht]; exact hP, va_K.moved hW.alike hK, hD⟩, hS.F ht⟩) hS.2.2 dX12_times_32
    · skip
      rw [if_neg c_15] at hres
      refine lv_iconst (v := iI (0 : Int)) hx hb dX12_times_18 (by decide) ?_
      exact W.zret (v := iI ((0 : Int))) hx hb hr (F_z _ (by first | assumption | omega)) (fun t ht hW => ⟨⟨iI ((0 : Int)), x, rfl, ⟨(by have h9 := congrArg (fun z : Int × MS => iI z.1) hres; exact h9), (by have h9 := congrArg (fun z : Int × MS => z.2) hres; exact h9)⟩, by rw [ht]; exact hP, va_K.moved hW.alike hK, hD⟩, hS.F ht⟩) hS.2.2 dX12_times_19
  exact key _ _ hP hS
theorem F_m_times_fr (x : MS) (a : Int) (b : Int) : same [] [1, 2, 26] x (F_m_times (x) (a) (b)).2 := by
  unfold F_m_times
  by_cases hc : ((((x).2 1) (a).toNat) + (((x).2 1) (b).toNat)) ≤ ((60 : Int))
  · rw [if_pos hc]
    exact (sm_tr (sm_tr (sm_rf _ _ _) (sm_mono (by decide) (by decide) (F_m_append_fr (x) (a) (b)))) (sm_mono (by decide) (by decide) (F_m_reduceAt_fr ((F_m_append (x) (a) (b)).2) (a))))
  · rw [if_neg hc]
    exact (sm_rf _ _ _)
theorem slD_t {y z w : MS} {k : Nat} (h : slD y z k) (g : slD z w k) : slD y w k := ⟨sm_tr h.1 g.1, g.2.1, fun j hj => (g.2.2.1 j hj).trans (h.2.2.1 j hj), fun i h1 h2 => (g.2.2.2 i h1 h2).trans (h.2.2.2 i h1 h2)⟩
theorem times_D {x y : MS} {b : Nat} {u v : List Int} (f : slF x y) (mz : mzH x) (g : slK x y 9 u) (gb : slK x y b v) (hb : b = 10 ∨ b = 12) : (60 < u.length + v.length ∧ F_m_times y ((9 : Int)) (b : Int) = (0, y)) ∨ (u.length + v.length ≤ 60 ∧ (F_m_times y ((9 : Int)) (b : Int)).1 = 1 ∧ slD y (F_m_times y ((9 : Int)) (b : Int)).2 9 ∧ ∃ w, slK x (F_m_times y ((9 : Int)) (b : Int)).2 9 w ∧ nfP x (u ++ v) w) := by
  have e9 : y.2 1 ((9 : Int)).toNat = (u.length : Int) := g.1
  have eb : y.2 1 ((b : Int)).toNat = (v.length : Int) := by rw [Int.toNat_natCast]; exact gb.1
  by_cases c : u.length + v.length ≤ 60
  · have a1 := app_D (x := x) f.2.1 g gb (by omega) (by omega) (by omega) c
    have f1 := slD_F f a1.1 (Or.inl rfl)
    obtain ⟨d2, w, kw, nw⟩ := red_D f1 mz a1.2 (by omega) (by omega)
    have eq : F_m_times y ((9 : Int)) (b : Int) = (1, (F_m_reduceAt (F_m_append y ((9 : Nat) : Int) (b : Int)).2 ((9 : Nat) : Int)).2) := by
      unfold F_m_times
      rw [if_pos (by omega)]; rfl
    rw [eq]
    exact Or.inr ⟨c, rfl, slD_t a1.1 d2, w, kw, nw⟩
  · refine Or.inl ⟨by omega, ?_⟩
    unfold F_m_times
    rw [if_neg (by omega)]
/-- u is what i times v comes down to, step by step, none too long on the way -/
def pwC (x : MS) (v : List Int) : Nat → List Int → Prop
  | 0, u => u = []
  | i + 1, u => ∃ w, pwC x v i w ∧ w.length + v.length ≤ 60 ∧ nfP x (w ++ v) u
def pwE (x y : MS) (a i : Nat) : Prop := ∃ u v, slK x y 9 u ∧ slK x y 10 v ∧ nfP x (slM x a) v ∧ pwC x v i u
theorem pwE_s {x y : MS} {a : Nat} {i9 : Int} {u v : List Int} (i0 : 0 ≤ i9) (f : slF x y) (mz : mzH x) (ku : slK x y 9 u) (kv : slK x y 10 v) (nv : nfP x (slM x a) v) (pc : pwC x v i9.toNat u) (h : ¬ (F_m_times y ((9 : Int)) ((10 : Int))).1 = 0) : slF x (F_m_times y ((9 : Int)) ((10 : Int))).2 ∧ pwE x (F_m_times y ((9 : Int)) ((10 : Int))).2 a (i9 + (1 : Int)).toNat := by
  rcases times_D f mz ku kv (Or.inl rfl) with ⟨_, e⟩ | ⟨c, e, d, w, kw, nw⟩
  · exact absurd (congrArg Prod.fst e) h
  · refine ⟨slD_F f d (Or.inl rfl), w, v, kw, slD_K d (by decide) (by decide) kv, nv, ?_⟩
    rw [show (i9 + (1 : Int)).toNat = i9.toNat + 1 by omega]
    exact ⟨u, pc, c, nw⟩
theorem times_01 {x y : MS} {u v : List Int} (f : slF x y) (mz : mzH x) (g : slK x y 9 u) (gb : slK x y 10 v) : (F_m_times y ((9 : Int)) ((10 : Int))).1 = 0 ∨ (F_m_times y ((9 : Int)) ((10 : Int))).1 = 1 := by
  rcases times_D f mz g gb (Or.inl rfl) with ⟨_, e⟩ | ⟨_, e, _⟩
  · exact Or.inl (congrArg Prod.fst e)
  · exact Or.inr e
theorem times_f {x y : MS} {u v : List Int} (f : slF x y) (mz : mzH x) (g : slK x y 9 u) (gb : slK x y 10 v) (h : (F_m_times y ((9 : Int)) ((10 : Int))).1 = 0) : 60 < u.length + v.length ∧ (F_m_times y ((9 : Int)) ((10 : Int))).2 = y := by
  rcases times_D f mz g gb (Or.inl rfl) with ⟨h1, e⟩ | ⟨_, e, _⟩
  · exact ⟨h1, congrArg Prod.snd e⟩
  · exact absurd (h.symm.trans e) (by decide)
/-- slot c holds u, and the other slots 0 .. 8 are as they were -/
def slC (x z : MS) (c : Nat) (u : List Int) : Prop := same [] [1, 2, 26] x z ∧ rwR z ∧ (∀ j, j < 9 → j ≠ c → z.2 1 j = x.2 1 j) ∧ (∀ i, i < 1152 → i < 128 * c ∨ 128 * c + 128 ≤ i → z.2 2 i = x.2 2 i) ∧ slK x z c u
theorem slC_c {x y : MS} {c : Nat} {u : List Int} (f : slF x y) (g : slK x y 9 u) (hc : c < 8) : slC x (F_m_copy y ((9 : Int)) (c : Int)).2 c u := by
  obtain ⟨d, k⟩ := copy_D (a := 9) (b := c) f.2.1 g (by decide) (by omega)
  exact ⟨sm_tr f.1 d.1, d.2.1, fun j h1 h2 => (d.2.2.1 j h2).trans (f.2.2.1 j h1), fun i h1 h2 => (d.2.2.2 i h2 (by omega)).trans (f.2.2.2 i h1), k⟩
