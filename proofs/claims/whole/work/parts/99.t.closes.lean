-- deps: 99.s
theorem clI_t {x y z : MS} (h : clI x y) (g : clI y z) : clI x z := ⟨sm_tr h.1 g.1, g.2.1, fun j h1 h2 => (g.2.2.1 j h1 h2).trans (h.2.2.1 j h1 h2), fun i hi => (g.2.2.2 i hi).trans (h.2.2.2 i hi)⟩
theorem clH_e {x y : MS} (c : clI x y) (h : clH x) : clH y := by
  obtain ⟨pw, rl, rt, lf⟩ := h
  obtain ⟨R, eL, eR, e0, e12, rt2⟩ := rlR_eq c.1 (Or.inr rfl) rl
  exact ⟨plX_eq c.1 (Or.inr rfl) pw, R, rt2 rt, by unfold lfR at lf ⊢; rw [(clI_v c).2.2.2.1]; exact lf⟩
theorem clE {x y : MS} (c : clI x y) : lM y = lM x ∧ rM y = rM x ∧ y.1 12 = x.1 12 ∧ y.1 3 = x.1 3 ∧ y.2 4 = x.2 4 ∧ y.2 13 = x.2 13 ∧ sgM y 5 = sgM x 5 ∧ sgM y 14 = sgM x 14 := by
  obtain ⟨v4, v5, v13, v14, v15, v16, v3, v12, v0⟩ := clI_v c
  exact ⟨lM_eq v13 v14, rM_eq v15 v16, v12, v3, v4, v13, funext fun b => funext fun g => sgM_A v5 b g, funext fun b => funext fun g => sgM_A v14 b g⟩
theorem cfl_e {x y : MS} (c : clI x y) : cfl y ↔ cfl x := by
  obtain ⟨h1, h2, h3, h4, h5, h6, h7, h8⟩ := clE c
  unfold cfl; rw [h1, h2, h3, h4, h5, h7]
theorem laA_e {x y : MS} (c : clI x y) {a b : Nat} {n : Int} : laA y a b n ↔ laA x a b n := by
  obtain ⟨h1, h2, h3, h4, h5, h6, h7, h8⟩ := clE c
  unfold laA laW laU laV; rw [h1, h2, h3, h6, h8]
theorem wiA_e {x y : MS} (c : clI x y) {a b : Nat} {n : Int} : wiA y a b n ↔ wiA x a b n := by
  obtain ⟨h1, h2, h3, h4, h5, h6, h7, h8⟩ := clE c
  unfold wiA wiW wiV; rw [h1, h2, h3, h6, h8]
theorem laQ_e {x y : MS} (c : clI x y) {a b : Nat} {q : Int × MS} (h : laQ y a b q) : laQ x a b q := by
  obtain ⟨h1, ⟨h2, h3⟩ | ⟨h2, h3⟩⟩ := h
  · exact ⟨clI_t c h1, Or.inl ⟨h2, (laA_e c).mp h3⟩⟩
  · exact ⟨clI_t c h1, Or.inr ⟨h2, fun h => h3 ((cfl_e c).mpr h)⟩⟩
theorem wiQ_e {x y : MS} (c : clI x y) {a b : Nat} {q : Int × MS} (h : wiQ y a b q) : wiQ x a b q := by
  obtain ⟨h1, ⟨h2, h3⟩ | ⟨h2, h3⟩⟩ := h
  · exact ⟨clI_t c h1, Or.inl ⟨h2, (wiA_e c).mp h3⟩⟩
  · exact ⟨clI_t c h1, Or.inr ⟨h2, fun h => h3 ((cfl_e c).mpr h)⟩⟩
theorem laQ_01 {x : MS} {a b : Nat} {q : Int × MS} (h : laQ x a b q) : q.1 = 0 ∨ q.1 = 1 := by
  obtain ⟨h1, ⟨h2, h3⟩ | ⟨h2, h3⟩⟩ := h
  · exact Or.inr h2
  · exact Or.inl h2
theorem wiQ_01 {x : MS} {a b : Nat} {q : Int × MS} (h : wiQ x a b q) : q.1 = 0 ∨ q.1 = 1 := by
  obtain ⟨h1, ⟨h2, h3⟩ | ⟨h2, h3⟩⟩ := h
  · exact Or.inr h2
  · exact Or.inl h2
theorem lwQ_01 {x : MS} {q : Int × MS} (h : lwQ x q) : q.1 = 0 ∨ q.1 = 1 := by
  obtain ⟨h1, ⟨h2, h3⟩ | ⟨h2, h3⟩⟩ := h
  · exact Or.inr h2
  · exact Or.inl h2
theorem laQ_y {x : MS} {a b : Nat} {q : Int × MS} (h : laQ x a b q) (h0 : ¬ q.1 = 0) : laA x a b 100 := by
  obtain ⟨h1, ⟨h2, h3⟩ | ⟨h2, h3⟩⟩ := h
  · exact h3
  · exact absurd h2 h0
theorem wiQ_y {x : MS} {a b : Nat} {q : Int × MS} (h : wiQ x a b q) (h0 : ¬ q.1 = 0) : wiA x a b 100 := by
  obtain ⟨h1, ⟨h2, h3⟩ | ⟨h2, h3⟩⟩ := h
  · exact h3
  · exact absurd h2 h0
theorem lwQ_y {x : MS} {q : Int × MS} (h : lwQ x q) (h0 : ¬ q.1 = 0) : lwA x (x.1 3) := by
  obtain ⟨h1, ⟨h2, h3⟩ | ⟨h2, h3⟩⟩ := h
  · exact h3
  · exact absurd h2 h0
def clA (x : MS) (a9 : Int) : Prop := ∀ p q : Nat, (p : Int) < a9 → (q : Int) < x.1 12 → laA x p q 100 ∧ wiA x p q 100
def clB2 (x : MS) (a : Nat) (b9 : Int) : Prop := ∀ q : Nat, (q : Int) < b9 → laA x a q 100 ∧ wiA x a q 100
theorem clA_s {x : MS} {a9 b9 : Int} (h : clA x a9) (a0 : 0 ≤ a9) (g : clB2 x a9.toNat b9) (hb : x.1 12 ≤ b9) : clA x (a9 + (1 : Int)) := by
  intro p q h1 h2
  by_cases e : (p : Int) = a9
  · rw [show a9.toNat = p by omega] at g; exact g q (by omega)
  · exact h p q (by omega) h2
theorem clB_s {x : MS} {a : Nat} {b9 : Int} (h : clB2 x a b9) (b0 : 0 ≤ b9) (g : laA x a b9.toNat 100) (g2 : wiA x a b9.toNat 100) : clB2 x a (b9 + (1 : Int)) := by
  intro q h1
  by_cases e : (q : Int) = b9
  · rw [show b9.toNat = q by omega] at g g2; exact ⟨g, g2⟩
  · exact h q (by omega)
def clQ (x : MS) (q : Int × MS) : Prop := clI x q.2 ∧ ((q.1 = 1 ∧ lwA x (x.1 3) ∧ clA x (x.1 12)) ∨ (q.1 = 0 ∧ ¬ cfl x))
theorem clQ_1 {x y : MS} {a9 : Int} (ci : clI x y) (lw : lwA x (x.1 3)) (h : clA x a9) (hn : x.1 12 ≤ a9) : clQ x (1, y) := ⟨ci, Or.inl ⟨rfl, lw, fun p q h1 h2 => h p q (by omega) h2⟩⟩
theorem clQ_la {x : MS} {a b : Nat} {q : Int × MS} (h : laQ x a b q) (h0 : q.1 = 0) : clQ x (0, q.2) := by
  obtain ⟨h1, ⟨h2, h3⟩ | ⟨h2, h3⟩⟩ := h
  · exact absurd (h2.symm.trans h0) (by decide)
  · exact ⟨h1, Or.inr ⟨rfl, h3⟩⟩
theorem clQ_wi {x : MS} {a b : Nat} {q : Int × MS} (h : wiQ x a b q) (h0 : q.1 = 0) : clQ x (0, q.2) := by
  obtain ⟨h1, ⟨h2, h3⟩ | ⟨h2, h3⟩⟩ := h
  · exact absurd (h2.symm.trans h0) (by decide)
  · exact ⟨h1, Or.inr ⟨rfl, h3⟩⟩
theorem clQ_lw {x : MS} {q : Int × MS} (h : lwQ x q) (h0 : q.1 = 0) : clQ x (0, q.2) := by
  obtain ⟨h1, ⟨h2, h3⟩ | ⟨h2, h3⟩⟩ := h
  · exact absurd (h2.symm.trans h0) (by decide)
  · exact ⟨h1, Or.inr ⟨rfl, h3⟩⟩
/-- what is tried is enough: all ways of all STRINGS end alike -/
theorem clA_cfl {x : MS} (H : clH x) (lw : lwA x (x.1 3)) (h : clA x (x.1 12)) : cfl x := by
  refine ⟨?_, fun l hl => lw l hl⟩
  have r0 := H.1.1.1
  have hd : ∀ u v, st1 (lM x) (rM x) (x.1 12).toNat u v → knm v < knm u := st1_dec (fun r hr => (H.2.1 r (by omega)).2.2)
  have loc := lcl2 (L := lM x) (R := rM x) (n := (x.1 12).toNat) ?_ ?_
  · exact fun u a b ha hb => newman knm hd loc (knm u + 1) u a b (Nat.lt_succ_self _) ha hb
  · intro r q hr hq c d e hc hdd he k1 k2
    have lr := (H.1.1.2.2.1 r (by omega)).1
    have lq := (H.1.1.2.2.1 q (by omega)).1
    have n1 := congrArg List.length k1
    have n2 := congrArg List.length k2
    rw [List.length_append, lM_len] at n1 n2
    have z : ∀ {u : List Int}, u ≠ [] → 1 ≤ u.length := fun {u} hu => by
      rcases Nat.eq_zero_or_pos u.length with h0 | h0
      · exact absurd (List.eq_nil_of_length_eq_zero h0) hu
      · exact h0
    have zc := z hc
    have zd := z hdd
    have ze := z he
    have m1 : lM x r = sgM x 14 (24 * r) ((x.2 13 r).toNat - d.length) ++ sgM x 14 (24 * r + ((x.2 13 r).toNat - d.length)) d.length := by
      rw [lM_sg, ← sgM_add, show (x.2 13 r).toNat - d.length + d.length = (x.2 13 r).toNat by omega]
    have m2 : lM x q = sgM x 14 (24 * q) d.length ++ sgM x 14 (24 * q + d.length) ((x.2 13 q).toNat - d.length) := by
      rw [lM_sg, ← sgM_add, show d.length + ((x.2 13 q).toNat - d.length) = (x.2 13 q).toNat by omega]
    obtain ⟨i1, i2⟩ := List.append_inj (k1.symm.trans m1) (by rw [sgM_len]; omega)
    obtain ⟨i3, i4⟩ := List.append_inj (k2.symm.trans m2) (by rw [sgM_len])
    have g := (h r q (by omega) (by omega)).1 d.length zd (by omega) (by omega) (by omega) (by unfold laW; rw [← i2, ← i3])
    unfold laU laV at g
    rw [← i1, ← i4] at g; exact g
  · intro r q hr hq hne c e k1
    have lr := (H.1.1.2.2.1 r (by omega)).1
    have lq := (H.1.1.2.2.1 q (by omega)).1
    have n1 := congrArg List.length k1
    rw [List.length_append, List.length_append, lM_len, lM_len] at n1
    have m1 : lM x r = sgM x 14 (24 * r) c.length ++ (sgM x 14 (24 * r + c.length) (x.2 13 q).toNat ++ sgM x 14 (24 * r + c.length + (x.2 13 q).toNat) ((x.2 13 r).toNat - c.length - (x.2 13 q).toNat)) := by
      rw [lM_sg, ← sgM_add, ← sgM_add, show c.length + ((x.2 13 q).toNat + ((x.2 13 r).toNat - c.length - (x.2 13 q).toNat)) = (x.2 13 r).toNat by omega]
    obtain ⟨i1, i2⟩ := List.append_inj (k1.symm.trans m1) (by rw [sgM_len])
    obtain ⟨i3, i4⟩ := List.append_inj i2 (by rw [sgM_len, lM_len])
    have g := (h r q (by omega) (by omega)).2 hne c.length (by omega) (by omega) (by unfold wiW; rw [← i3, lM_sg])
    unfold wiV at g
    rw [← i1, ← i4, List.append_assoc] at g; exact g
def F_m_closes_s : Nat → Nat → MS → Int → Int → Int × MS
  | 0, _, x, _, _ => (0, x)
  | n + 1, t, x, p0, p1 => match t with
    | 0 => (fun (a9 : Int) => (if ((x).1 12) ≤ (a9) then ((1 : Int), x) else F_m_closes_s n 1 (x) (a9) ((0 : Int)))) p0
    | 1 => (fun (a9 : Int) (b9 : Int) => (if ((x).1 12) ≤ (b9) then F_m_closes_s n 0 (x) ((a9) + (1 : Int)) (0) else (if ((F_m_lapsHold (x) (a9) (b9)).1) = (0) then ((0 : Int), (F_m_lapsHold (x) (a9) (b9)).2) else (if ((F_m_withinHold ((F_m_lapsHold (x) (a9) (b9)).2) (a9) (b9)).1) = (0) then ((0 : Int), (F_m_withinHold ((F_m_lapsHold (x) (a9) (b9)).2) (a9) (b9)).2) else F_m_closes_s n 1 ((F_m_withinHold ((F_m_lapsHold (x) (a9) (b9)).2) (a9) (b9)).2) (a9) ((b9) + (1 : Int)))))) p0 p1
    | _ => (0, x)
theorem F_m_closes_e0 (n : Nat) (x : MS) (a9 : Int) (q0 : Int) : F_m_closes_s (n + 1) 0 x a9 q0 = (if ((x).1 12) ≤ (a9) then ((1 : Int), x) else F_m_closes_s n 1 (x) (a9) ((0 : Int))) := rfl
theorem F_m_closes_e1 (n : Nat) (x : MS) (a9 : Int) (b9 : Int) : F_m_closes_s (n + 1) 1 x a9 b9 = (if ((x).1 12) ≤ (b9) then F_m_closes_s n 0 (x) ((a9) + (1 : Int)) (0) else (if ((F_m_lapsHold (x) (a9) (b9)).1) = (0) then ((0 : Int), (F_m_lapsHold (x) (a9) (b9)).2) else (if ((F_m_withinHold ((F_m_lapsHold (x) (a9) (b9)).2) (a9) (b9)).1) = (0) then ((0 : Int), (F_m_withinHold ((F_m_lapsHold (x) (a9) (b9)).2) (a9) (b9)).2) else F_m_closes_s n 1 ((F_m_withinHold ((F_m_lapsHold (x) (a9) (b9)).2) (a9) (b9)).2) (a9) ((b9) + (1 : Int))))) := rfl
def F_m_closes (x : MS)  : Int × MS := (if ((F_m_lawsHold (x)).1) = (0) then ((0 : Int), (F_m_lawsHold (x)).2) else F_m_closes_s 3000 0 ((F_m_lawsHold (x)).2) ((0 : Int)) (0))
set_option maxHeartbeats 4000000 in
set_option maxRecDepth 100000 in
/-- closes -/
theorem c_m_closes (l : Launch) (dC : Nat → ClassId) (dI : Nat → Nat → Nat) (h : Nat) (ad : Nat → Nat) (cI cJ cZ : ClassId) (sz : Nat) (x : MS)  (hH : clH x) (hw : rwR x) (lh : lwH x) : Met l yX12_closes wsX12_closes ({ frames := 3, cells := 0, slots := 0, locals := 80 }) (mPc dC dI h ad cI cJ cZ sz x [.ref h]) (va_Qi (fun (r : Int32) (u : MS) => r = iI (F_m_closes (x)).1 ∧ u = (F_m_closes (x)).2) (mAt dC dI h ad cI cJ cZ (va_A (mW h ad cI cJ cZ (x)) sz)) (va_A (mW h ad cI cJ cZ (x)) sz)) 0 0 (va_A (mW h ad cI cJ cZ (x)) sz) := by
  refine Met.ofW (cc := cX12_closes) (maxL := 3) (ret := (some .boolean)) (by decide) rfl ?_
  intro p e s m args below meth c s₁ B hml hv
  obtain ⟨rfl, hsz, hP, hK, hD0⟩ := hv
  have hx := B.exec
  have hb := B.bytes
  have hr := B.returns
  have hts := atoms_spec (ws := wsX12_closes) B.pre
  have hown : s.vm.findClass RX12 = some m.cls := findClass_of_methodNamed B.named
  have hlocks := B.notSynchronized
  have hin : ∀ w ∈ u_ws RX12 TX12 34, w ∈ wsX12_closes := by decide +kernel
  subst hsz
  have hD := hD0.self (sz := s.heap.size)
  generalize hAe : va_A (mW h ad cI cJ cZ (x)) s.heap.size = A at hD ⊢
  have hA : ∀ q : Nat, s.heap.size ≤ q → A q := fun q h => by rw [← hAe]; exact Or.inr h
  have hS : va_S A s.heap s.heap [] := va_S.rf
  have hl := lv_entry ([.ref h]) (n := 3) (Nat.le_of_ble_eq_true rfl)
  rw [lg_entry_eq]
  generalize (lg_sl ([.ref h]) ++ List.replicate (3 - (lg_sl ([.ref h])).length) Slot.unset).toArray = ls at hl ⊢
  have hl : lv_has ls 3 [(0, .ref (h))] := hl
  have r40 := hH.1.1.1
  have q0 := F_m_lawsHold_p x hH hw lh
  have q01 := lwQ_01 q0
  have L : ∀ n : Nat, (∀ (y : MS) (a9 : Int), (clI x y) → (lwA x (x.1 3)) → (clA x a9) → (0 ≤ a9) → (a9 ≤ x.1 12) → (a9 ≤ 40) → ((41 - a9) * 50 + 50 < n) → F_m_closes_s n 0 y a9 0 = F_m_closes (x) → ∀ (H : Heap) (locs : List Loc) (ls : Array Slot), va_P (dC, dI) vwCl (mW h ad cI cJ cZ (y)) H → va_D A (mW h ad cI cJ cZ (y)) → va_S A s.heap H locs → lv_has ls 3 [(0, .ref (h)), (1, .int (iI (a9)))] → W p l e (headSpec wsX12_closes ({ frames := 3, cells := 0, slots := 0, locals := 80 })).room s m ([.ref h] : List Value).toArray below meth c H locs 0 0 (MQ below (va_Qi (fun (r : Int32) (u : MS) => r = iI (F_m_closes (x)).1 ∧ u = (F_m_closes (x)).2) (mAt dC dI h ad cI cJ cZ A) A) ([.ref h] : List Value).toArray s 0 0 A) (F0 m 11 ls [])) ∧ (∀ (y : MS) (a9 : Int) (b9 : Int), (clI x y) → (lwA x (x.1 3)) → (clA x a9) → (clB2 x a9.toNat b9) → (0 ≤ a9) → (a9 < x.1 12) → (0 ≤ b9) → (b9 ≤ x.1 12) → (a9 ≤ 40) → (b9 ≤ 40) → ((41 - a9) * 50 + 45 - b9 < n) → F_m_closes_s n 1 y a9 b9 = F_m_closes (x) → ∀ (H : Heap) (locs : List Loc) (ls : Array Slot), va_P (dC, dI) vwCl (mW h ad cI cJ cZ (y)) H → va_D A (mW h ad cI cJ cZ (y)) → va_S A s.heap H locs → lv_has ls 3 [(0, .ref (h)), (1, .int (iI (a9))), (2, .int (iI (b9)))] → W p l e (headSpec wsX12_closes ({ frames := 3, cells := 0, slots := 0, locals := 80 })).room s m ([.ref h] : List Value).toArray below meth c H locs 0 0 (MQ below (va_Qi (fun (r : Int32) (u : MS) => r = iI (F_m_closes (x)).1 ∧ u = (F_m_closes (x)).2) (mAt dC dI h ad cI cJ cZ A) A) ([.ref h] : List Value).toArray s 0 0 A) (F0 m 21 ls [])) := by
    intro n
    induction n with
    | zero =>
      refine ⟨?_, ?_⟩
      · intro y a9 ci lw ac a0 a1 a2 fu hres
        exact absurd fu (by omega)
      · intro y a9 b9 ci lw ac bc a0 a1 b0 b1 a2 b2 fu hres
        exact absurd fu (by omega)
    | succ n ih =>
      refine ⟨?_, ?_⟩
      · intro y a9 ci lw ac a0 a1 a2 fu hres H locs ls hP hD hS hl
        rw [F_m_closes_e0] at hres
        have v12 : y.1 12 = x.1 12 := (clI_v ci).2.2.2.2.2.2.2.1
        refine lv_iload_n hx hb dX12_closes_11 rfl (lv_at hl 1 rfl) ?_
        refine lv_aload_n hx hb dX12_closes_12 rfl (lv_at hl 0 rfl) ?_
        refine va_get (D := (dC, dI)) (ci := 12) (v := .int (iI ((y).1 12))) (C := RX12) (T := TX12) (N := 34) hx hb hts hin hown hK hP 0 rfl rfl 12 (by decide) (hts (.fieldLink RX12 139 "LikeWordsModel" "rules" "I") (by decide +kernel)) (fun _ h9 => h9) rfl dX12_closes_13 ?_
        refine wi_icmp_ge (tgt := 61) hx hb (by first | assumption | (unfold iR; omega) | exact F_R01 (by assumption)) (by first | assumption | (unfold iR; omega) | exact F_R01 (by assumption)) dX12_closes_16 (by decide) (fun c_16 => ?_) (fun c_16 => ?_)
        · skip
          rw [if_pos c_16] at hres
          refine lv_iconst (v := iI (1 : Int)) hx hb dX12_closes_61 (by decide) ?_
          exact W.zret (v := iI ((1 : Int))) hx hb hr (F_z _ (by first | assumption | omega)) (fun t ht hW => ⟨⟨iI ((1 : Int)), y, rfl, ⟨(by have h9 := congrArg (fun z : Int × MS => iI z.1) hres; exact h9), (by have h9 := congrArg (fun z : Int × MS => z.2) hres; exact h9)⟩, by rw [ht]; exact hP, va_K.moved hW.alike hK, hD⟩, hS.F ht⟩) hS.2.2 dX12_closes_62
        · skip
          rw [if_neg c_16] at hres
          refine lv_iconst (v := iI (0 : Int)) hx hb dX12_closes_19 (by decide) ?_
          refine lv_istore_n (lv' := [(2, .int (iI ((0 : Int)))), (0, .ref (h)), (1, .int (iI (a9)))]) hx hb dX12_closes_20 rfl hl (by decide) rfl (fun ls hl => ?_)
          exact ih.2 (y) (a9) ((0 : Int)) (ci) (lw) (ac) (fun q h1 => by omega) (by omega) (by omega) (by omega) (by omega) (by omega) (by omega) (by omega) hres _ _ ls hP hD hS (lv_sub hl [1, 2, 0] rfl)
      · intro y a9 b9 ci lw ac bc a0 a1 b0 b1 a2 b2 fu hres H locs ls hP hD hS hl
        rw [F_m_closes_e1] at hres
        have v12 : y.1 12 = x.1 12 := (clI_v ci).2.2.2.2.2.2.2.1
        refine lv_iload_n hx hb dX12_closes_21 rfl (lv_at hl 2 rfl) ?_
        refine lv_aload_n hx hb dX12_closes_22 rfl (lv_at hl 0 rfl) ?_
        refine va_get (D := (dC, dI)) (ci := 12) (v := .int (iI ((y).1 12))) (C := RX12) (T := TX12) (N := 34) hx hb hts hin hown hK hP 0 rfl rfl 12 (by decide) (hts (.fieldLink RX12 139 "LikeWordsModel" "rules" "I") (by decide +kernel)) (fun _ h9 => h9) rfl dX12_closes_23 ?_
        refine wi_icmp_ge (tgt := 55) hx hb (by first | assumption | (unfold iR; omega) | exact F_R01 (by assumption)) (by first | assumption | (unfold iR; omega) | exact F_R01 (by assumption)) dX12_closes_26 (by decide) (fun c_26 => ?_) (fun c_26 => ?_)
        · skip
          rw [if_pos c_26] at hres
          refine lv_iinc (v := iI ((a9) + (1 : Int))) (lv' := [(1, .int (iI ((a9) + (1 : Int)))), (0, .ref (h)), (2, .int (iI (b9)))]) hx hb dX12_closes_55 hl (k := 1) rfl (iI_add _ _) (by decide) rfl (fun ls hl => ?_)
          refine lv_goto (tgt := 11) hx hb dX12_closes_58 (by decide) ?_
          exact ih.1 (y) ((a9) + (1 : Int)) (ci) (lw) (clA_s ac a0 bc (by omega)) (by omega) (by omega) (by omega) (by omega) hres _ _ ls hP hD hS (lv_sub hl [1, 0] rfl)
        · skip
          rw [if_neg c_26] at hres
          have k1 := F_m_lapsHold_p y a9 b9 a0 (by omega) b0 (by omega) (clH_e ci hH) ci.2.1
          have j1 := laQ_e ci k1
          have c01 := laQ_01 j1
          have w12 : (F_m_lapsHold (y) (a9) (b9)).2.1 12 = x.1 12 := (clI_v j1.1).2.2.2.2.2.2.2.1
          refine lv_aload_n hx hb dX12_closes_29 rfl (lv_at hl 0 rfl) ?_
          refine lv_iload_n hx hb dX12_closes_30 rfl (lv_at hl 1 rfl) ?_
          refine lv_iload_n hx hb dX12_closes_31 rfl (lv_at hl 2 rfl) ?_
          have hFc : ∀ q, va_A (mW h ad cI cJ cZ (y)) H.size q → A q := fun q hq => Or.elim hq (fun ⟨k, e, hk⟩ => hD.2 k (q, e) hk) (fun hk => hA q (Nat.le_trans hS.1 hk))
          refine va_calli (va_runV (As := [.int (iI (a9)), .int (iI (b9))]) (rest := []) ⟨hx, hb, hml, hown, hts⟩ (c_m_lapsHold l dC dI h ad cI cJ cZ H.size (y) (a9) (b9) a0 (by omega) b0 (by omega) (clH_e ci hH) ci.2.1) (cwV 2 hts gX12_closes_X12_lapsHold rfl rfl rfl (by decide +kernel) ⟨Nat.le_of_ble_eq_true rfl, Nat.le_of_ble_eq_true rfl⟩) ⟨fun a U g mk q => by obtain ⟨q0, q1, qP, qK, qD⟩ := q; exact ⟨q0, q1, qP, va_K.moved (u := U) (U := U.calling g mk a) (Vm.Alike.refl U.vm) qK, qD⟩, va_recv hK hP (ci := 12) (q0 := 0) rfl rfl, fun U hU hW => ⟨rfl, by rw [hU], by rw [hU]; exact hP, va_K.moved hW.alike hK, hD.weaken (fun _ _ _ _ => trivial)⟩⟩ rfl rfl hl.1 rfl (lv_room (Nat.le_of_ble_eq_true rfl)) dX12_closes_32 ⟨Nat.le_of_ble_eq_true rfl, Nat.le_of_ble_eq_true rfl⟩) hS (fun q _ h => hFc q h) hFc (fun r9 u9 t H1 locs ht hvm hw hB hz1 hk1 hS => ?_)
          obtain ⟨hP1, hK1, hD1⟩ := hB
          rw [ht] at hP1
          obtain ⟨hw1, hw2⟩ := hw
          rw [hw2] at hP1 hD1
          rw [hw1]
          have hD2 := hD1.weaken (B := A) (fun _ q _ h => hFc q.1 h)
          have hP := hP1
          have hD := hD2
          generalize H1 = H at hP hS ⊢
          refine wi_if_eq (tgt := 47) hx hb (by first | assumption | (unfold iR; omega) | exact F_R01 (by assumption)) dX12_closes_35 (by decide) (fun c_35 => ?_) (fun c_35 => ?_)
          · skip
            rw [if_pos c_35] at hres
            refine lv_iconst (v := iI (0 : Int)) hx hb dX12_closes_47 (by decide) ?_
            exact W.zret (v := iI ((0 : Int))) hx hb hr (F_z _ (by first | assumption | omega)) (fun t ht hW => ⟨⟨iI ((0 : Int)), (F_m_lapsHold (y) (a9) (b9)).2, rfl, ⟨(by have h9 := congrArg (fun z : Int × MS => iI z.1) hres; exact h9), (by have h9 := congrArg (fun z : Int × MS => z.2) hres; exact h9)⟩, by rw [ht]; exact hP, va_K.moved hW.alike hK, hD⟩, hS.F ht⟩) hS.2.2 dX12_closes_48
          · skip
            rw [if_neg c_35] at hres
            have k2 := F_m_withinHold_p (F_m_lapsHold (y) (a9) (b9)).2 a9 b9 a0 (by omega) b0 (by omega) (clH_e j1.1 hH) j1.1.2.1
            have j2 := wiQ_e j1.1 k2
            have c02 := wiQ_01 j2
            refine lv_aload_n hx hb dX12_closes_38 rfl (lv_at hl 0 rfl) ?_
            refine lv_iload_n hx hb dX12_closes_39 rfl (lv_at hl 1 rfl) ?_
            refine lv_iload_n hx hb dX12_closes_40 rfl (lv_at hl 2 rfl) ?_
            have hFc : ∀ q, va_A (mW h ad cI cJ cZ ((F_m_lapsHold (y) (a9) (b9)).2)) H.size q → A q := fun q hq => Or.elim hq (fun ⟨k, e, hk⟩ => hD.2 k (q, e) hk) (fun hk => hA q (Nat.le_trans hS.1 hk))
            refine va_calli (va_runV (As := [.int (iI (a9)), .int (iI (b9))]) (rest := []) ⟨hx, hb, hml, hown, hts⟩ (c_m_withinHold l dC dI h ad cI cJ cZ H.size ((F_m_lapsHold (y) (a9) (b9)).2) (a9) (b9) a0 (by omega) b0 (by omega) (clH_e j1.1 hH) j1.1.2.1) (cwV 2 hts gX12_closes_X12_withinHold rfl rfl rfl (by decide +kernel) ⟨Nat.le_of_ble_eq_true rfl, Nat.le_of_ble_eq_true rfl⟩) ⟨fun a U g mk q => by obtain ⟨q0, q1, qP, qK, qD⟩ := q; exact ⟨q0, q1, qP, va_K.moved (u := U) (U := U.calling g mk a) (Vm.Alike.refl U.vm) qK, qD⟩, va_recv hK hP (ci := 12) (q0 := 0) rfl rfl, fun U hU hW => ⟨rfl, by rw [hU], by rw [hU]; exact hP, va_K.moved hW.alike hK, hD.weaken (fun _ _ _ _ => trivial)⟩⟩ rfl rfl hl.1 rfl (lv_room (Nat.le_of_ble_eq_true rfl)) dX12_closes_41 ⟨Nat.le_of_ble_eq_true rfl, Nat.le_of_ble_eq_true rfl⟩) hS (fun q _ h => hFc q h) hFc (fun r9 u9 t H1 locs ht hvm hw hB hz1 hk1 hS => ?_)
            obtain ⟨hP1, hK1, hD1⟩ := hB
            rw [ht] at hP1
            obtain ⟨hw1, hw2⟩ := hw
            rw [hw2] at hP1 hD1
            rw [hw1]
            have hD2 := hD1.weaken (B := A) (fun _ q _ h => hFc q.1 h)
            have hP := hP1
            have hD := hD2
            generalize H1 = H at hP hS ⊢
            refine wi_if_ne (tgt := 49) hx hb (by first | assumption | (unfold iR; omega) | exact F_R01 (by assumption)) dX12_closes_44 (by decide) (fun c_44 => ?_) (fun c_44 => ?_)
            · skip
              rw [if_neg c_44] at hres
              refine lv_iinc (v := iI ((b9) + (1 : Int))) (lv' := [(2, .int (iI ((b9) + (1 : Int)))), (0, .ref (h)), (1, .int (iI (a9)))]) hx hb dX12_closes_49 hl (k := 2) rfl (iI_add _ _) (by decide) rfl (fun ls hl => ?_)
              refine lv_goto (tgt := 21) hx hb dX12_closes_52 (by decide) ?_
              exact ih.2 ((F_m_withinHold ((F_m_lapsHold (y) (a9) (b9)).2) (a9) (b9)).2) (a9) ((b9) + (1 : Int)) (j2.1) (lw) (ac) (clB_s bc b0 (laQ_y j1 c_35) (wiQ_y j2 c_44)) (by omega) (by omega) (by omega) (by omega) (by omega) (by omega) (by omega) hres _ _ ls hP hD hS (lv_sub hl [1, 2, 0] rfl)
            · skip
              rw [if_pos c_44] at hres
              refine lv_iconst (v := iI (0 : Int)) hx hb dX12_closes_47 (by decide) ?_
              exact W.zret (v := iI ((0 : Int))) hx hb hr (F_z _ (by first | assumption | omega)) (fun t ht hW => ⟨⟨iI ((0 : Int)), (F_m_withinHold ((F_m_lapsHold (y) (a9) (b9)).2) (a9) (b9)).2, rfl, ⟨(by have h9 := congrArg (fun z : Int × MS => iI z.1) hres; exact h9), (by have h9 := congrArg (fun z : Int × MS => z.2) hres; exact h9)⟩, by rw [ht]; exact hP, va_K.moved hW.alike hK, hD⟩, hS.F ht⟩) hS.2.2 dX12_closes_48
  have key : ∀ (H : Heap) (locs : List Loc), va_P (dC, dI) vwCl (mW h ad cI cJ cZ (x)) H → va_S A s.heap H locs → W p l e (headSpec wsX12_closes ({ frames := 3, cells := 0, slots := 0, locals := 80 })).room s m ([.ref h] : List Value).toArray below meth c H locs 0 0 (MQ below (va_Qi (fun (r : Int32) (u : MS) => r = iI (F_m_closes (x)).1 ∧ u = (F_m_closes (x)).2) (mAt dC dI h ad cI cJ cZ A) A) ([.ref h] : List Value).toArray s 0 0 A) (F0 m 0 ls []) := by
    intro H locs hP hS
    have hres : (if ((F_m_lawsHold (x)).1) = (0) then ((0 : Int), (F_m_lawsHold (x)).2) else F_m_closes_s 3000 0 ((F_m_lawsHold (x)).2) ((0 : Int)) (0)) = F_m_closes (x) := rfl
    refine lv_aload_n hx hb dX12_closes_0 rfl (lv_at hl 0 rfl) ?_
    have hFc : ∀ q, va_A (mW h ad cI cJ cZ (x)) H.size q → A q := fun q hq => Or.elim hq (fun ⟨k, e, hk⟩ => hD.2 k (q, e) hk) (fun hk => hA q (Nat.le_trans hS.1 hk))
    refine va_calli (va_runV (As := []) (rest := []) ⟨hx, hb, hml, hown, hts⟩ (c_m_lawsHold l dC dI h ad cI cJ cZ H.size (x)  hH hw lh) (cwV 0 hts gX12_closes_X12_lawsHold rfl rfl rfl (by decide +kernel) ⟨Nat.le_of_ble_eq_true rfl, Nat.le_of_ble_eq_true rfl⟩) ⟨fun a U g mk q => by obtain ⟨q0, q1, qP, qK, qD⟩ := q; exact ⟨q0, q1, qP, va_K.moved (u := U) (U := U.calling g mk a) (Vm.Alike.refl U.vm) qK, qD⟩, va_recv hK hP (ci := 12) (q0 := 0) rfl rfl, fun U hU hW => ⟨rfl, by rw [hU], by rw [hU]; exact hP, va_K.moved hW.alike hK, hD.weaken (fun _ _ _ _ => trivial)⟩⟩ rfl rfl hl.1 rfl (lv_room (Nat.le_of_ble_eq_true rfl)) dX12_closes_1 ⟨Nat.le_of_ble_eq_true rfl, Nat.le_of_ble_eq_true rfl⟩) hS (fun q _ h => hFc q h) hFc (fun r9 u9 t H1 locs ht hvm hw hB hz1 hk1 hS => ?_)
    obtain ⟨hP1, hK1, hD1⟩ := hB
    rw [ht] at hP1
    obtain ⟨hw1, hw2⟩ := hw
    rw [hw2] at hP1 hD1
    rw [hw1]
    have hD2 := hD1.weaken (B := A) (fun _ q _ h => hFc q.1 h)
    have hP := hP1
    have hD := hD2
    generalize H1 = H at hP hS ⊢
    refine wi_if_ne (tgt := 9) hx hb (by first | assumption | (unfold iR; omega) | exact F_R01 (by assumption)) dX12_closes_4 (by decide) (fun c_4 => ?_) (fun c_4 => ?_)
    · skip
      rw [if_neg c_4] at hres
      refine lv_iconst (v := iI (0 : Int)) hx hb dX12_closes_9 (by decide) ?_
      refine lv_istore_n (lv' := [(1, .int (iI ((0 : Int)))), (0, .ref (h))]) hx hb dX12_closes_10 rfl hl (by decide) rfl (fun ls hl => ?_)
      exact (L (3000)).1 ((F_m_lawsHold (x)).2) ((0 : Int)) (q0.1) (lwQ_y q0 c_4) (fun p q h1 _ => by omega) (by omega) (by omega) (by omega) (by omega) hres _ _ ls hP hD hS (lv_sub hl [1, 0] rfl)
    · skip
      rw [if_pos c_4] at hres
      refine lv_iconst (v := iI (0 : Int)) hx hb dX12_closes_7 (by decide) ?_
      exact W.zret (v := iI ((0 : Int))) hx hb hr (F_z _ (by first | assumption | omega)) (fun t ht hW => ⟨⟨iI ((0 : Int)), (F_m_lawsHold (x)).2, rfl, ⟨(by have h9 := congrArg (fun z : Int × MS => iI z.1) hres; exact h9), (by have h9 := congrArg (fun z : Int × MS => z.2) hres; exact h9)⟩, by rw [ht]; exact hP, va_K.moved hW.alike hK, hD⟩, hS.F ht⟩) hS.2.2 dX12_closes_8
  exact key _ _ hP hS
theorem F_m_closes_sfr : ∀ n : Nat, (∀ (y : MS) (v0 : Int) (v1 : Int), same [] [1, 2, 26] y (F_m_closes_s n 0 y v0 v1).2) ∧ (∀ (y : MS) (v0 : Int) (v1 : Int), same [] [1, 2, 26] y (F_m_closes_s n 1 y v0 v1).2) := by
  intro n
  induction n with
  | zero => exact ⟨fun y _ _ => sm_rf _ _ _, fun y _ _ => sm_rf _ _ _⟩
  | succ n ih =>
    refine ⟨?_, ?_⟩
    · intro y a9 q0
      rw [F_m_closes_e0]
      by_cases hc : ((y).1 12) ≤ (a9)
      · rw [if_pos hc]
        exact (sm_rf _ _ _)
      · rw [if_neg hc]
        exact sm_tr ((sm_rf _ _ _)) (ih.2 (y) (a9) ((0 : Int)))
    · intro y a9 b9
      rw [F_m_closes_e1]
      by_cases hc : ((y).1 12) ≤ (b9)
      · rw [if_pos hc]
        exact sm_tr ((sm_rf _ _ _)) (ih.1 (y) ((a9) + (1 : Int)) (0))
      · rw [if_neg hc]
        by_cases hc : ((F_m_lapsHold (y) (a9) (b9)).1) = (0)
        · rw [if_pos hc]
          exact (sm_tr (sm_rf _ _ _) (sm_mono (by decide) (by decide) (F_m_lapsHold_fr (y) (a9) (b9))))
        · rw [if_neg hc]
          by_cases hc : ((F_m_withinHold ((F_m_lapsHold (y) (a9) (b9)).2) (a9) (b9)).1) = (0)
          · rw [if_pos hc]
            exact (sm_tr (sm_tr (sm_rf _ _ _) (sm_mono (by decide) (by decide) (F_m_lapsHold_fr (y) (a9) (b9)))) (sm_mono (by decide) (by decide) (F_m_withinHold_fr ((F_m_lapsHold (y) (a9) (b9)).2) (a9) (b9))))
          · rw [if_neg hc]
            exact sm_tr ((sm_tr (sm_tr (sm_rf _ _ _) (sm_mono (by decide) (by decide) (F_m_lapsHold_fr (y) (a9) (b9)))) (sm_mono (by decide) (by decide) (F_m_withinHold_fr ((F_m_lapsHold (y) (a9) (b9)).2) (a9) (b9))))) (ih.2 ((F_m_withinHold ((F_m_lapsHold (y) (a9) (b9)).2) (a9) (b9)).2) (a9) ((b9) + (1 : Int)))
theorem F_m_closes_fr (x : MS)  : same [] [1, 2, 26] x (F_m_closes (x)).2 := by
  unfold F_m_closes
  by_cases hc : ((F_m_lawsHold (x)).1) = (0)
  · rw [if_pos hc]
    exact (sm_tr (sm_rf _ _ _) (sm_mono (by decide) (by decide) (F_m_lawsHold_fr (x))))
  · rw [if_neg hc]
    exact sm_tr ((sm_tr (sm_rf _ _ _) (sm_mono (by decide) (by decide) (F_m_lawsHold_fr (x))))) ((F_m_closes_sfr 3000).1 ((F_m_lawsHold (x)).2) ((0 : Int)) (0))
set_option maxHeartbeats 4000000 in
theorem F_m_closes_p (x : MS)  (hH : clH x) (hw : rwR x) (lh : lwH x) : clQ x (F_m_closes (x)) := by
  have r40 := hH.1.1.1
  have q0 := F_m_lawsHold_p x hH hw lh
  have q01 := lwQ_01 q0
  have L : ∀ n : Nat, (∀ (y : MS) (a9 : Int), (clI x y) → (lwA x (x.1 3)) → (clA x a9) → (0 ≤ a9) → (a9 ≤ x.1 12) → (a9 ≤ 40) → ((41 - a9) * 50 + 50 < n) → clQ x (F_m_closes_s n 0 y a9 0)) ∧ (∀ (y : MS) (a9 : Int) (b9 : Int), (clI x y) → (lwA x (x.1 3)) → (clA x a9) → (clB2 x a9.toNat b9) → (0 ≤ a9) → (a9 < x.1 12) → (0 ≤ b9) → (b9 ≤ x.1 12) → (a9 ≤ 40) → (b9 ≤ 40) → ((41 - a9) * 50 + 45 - b9 < n) → clQ x (F_m_closes_s n 1 y a9 b9)) := by
    intro n
    induction n with
    | zero =>
      refine ⟨?_, ?_⟩
      · intro y a9 ci lw ac a0 a1 a2 fu
        exact absurd fu (by omega)
      · intro y a9 b9 ci lw ac bc a0 a1 b0 b1 a2 b2 fu
        exact absurd fu (by omega)
    | succ n ih =>
      refine ⟨?_, ?_⟩
      · intro y a9 ci lw ac a0 a1 a2 fu
        rw [F_m_closes_e0]
        have v12 : y.1 12 = x.1 12 := (clI_v ci).2.2.2.2.2.2.2.1
        by_cases c_16 : ((y).1 12) ≤ (a9)
        · rw [if_pos c_16]
          exact clQ_1 ci lw ac (by omega)
        · rw [if_neg c_16]
          exact ih.2 (y) (a9) ((0 : Int)) (ci) (lw) (ac) (fun q h1 => by omega) (by omega) (by omega) (by omega) (by omega) (by omega) (by omega) (by omega)
      · intro y a9 b9 ci lw ac bc a0 a1 b0 b1 a2 b2 fu
        rw [F_m_closes_e1]
        have v12 : y.1 12 = x.1 12 := (clI_v ci).2.2.2.2.2.2.2.1
        by_cases c_26 : ((y).1 12) ≤ (b9)
        · rw [if_pos c_26]
          exact ih.1 (y) ((a9) + (1 : Int)) (ci) (lw) (clA_s ac a0 bc (by omega)) (by omega) (by omega) (by omega) (by omega)
        · rw [if_neg c_26]
          have k1 := F_m_lapsHold_p y a9 b9 a0 (by omega) b0 (by omega) (clH_e ci hH) ci.2.1
          have j1 := laQ_e ci k1
          have c01 := laQ_01 j1
          have w12 : (F_m_lapsHold (y) (a9) (b9)).2.1 12 = x.1 12 := (clI_v j1.1).2.2.2.2.2.2.2.1
          by_cases c_35 : ((F_m_lapsHold (y) (a9) (b9)).1) = (0)
          · rw [if_pos c_35]
            exact clQ_la j1 (by omega)
          · rw [if_neg c_35]
            have k2 := F_m_withinHold_p (F_m_lapsHold (y) (a9) (b9)).2 a9 b9 a0 (by omega) b0 (by omega) (clH_e j1.1 hH) j1.1.2.1
            have j2 := wiQ_e j1.1 k2
            have c02 := wiQ_01 j2
            by_cases c_44 : ((F_m_withinHold ((F_m_lapsHold (y) (a9) (b9)).2) (a9) (b9)).1) = (0)
            · rw [if_pos c_44]
              exact clQ_wi j2 (by omega)
            · rw [if_neg c_44]
              exact ih.2 ((F_m_withinHold ((F_m_lapsHold (y) (a9) (b9)).2) (a9) (b9)).2) (a9) ((b9) + (1 : Int)) (j2.1) (lw) (ac) (clB_s bc b0 (laQ_y j1 c_35) (wiQ_y j2 c_44)) (by omega) (by omega) (by omega) (by omega) (by omega) (by omega) (by omega)
  unfold F_m_closes
  by_cases c_4 : ((F_m_lawsHold (x)).1) = (0)
  · rw [if_pos c_4]
    exact clQ_lw q0 (by omega)
  · rw [if_neg c_4]
    exact (L (3000)).1 ((F_m_lawsHold (x)).2) ((0 : Int)) (q0.1) (lwQ_y q0 c_4) (fun p q h1 _ => by omega) (by omega) (by omega) (by omega) (by omega)
theorem closes_x {x : MS} (hH : clH x) (hw : rwR x) (lh : lwH x) : clI x (F_m_closes x).2 ∧ (((F_m_closes x).1 = 1 ∧ cfl x) ∨ ((F_m_closes x).1 = 0 ∧ ¬ cfl x)) := by
  obtain ⟨h1, ⟨h2, h3, h4⟩ | h2⟩ := F_m_closes_p x hH hw lh
  · exact ⟨h1, Or.inl ⟨h2, clA_cfl hH h3 h4⟩⟩
  · exact ⟨h1, Or.inr h2⟩
