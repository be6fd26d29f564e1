/-- the firsts are the sums of powers, up to M + 1 -/
def feOK (x : MS) : Prop := (x.1 0 = 1 ∧ x.1 7 ≤ 24) ∨ (x.1 0 ≠ 1 ∧ fR x ∧ ∃ M : Nat, M ≤ 20 ∧ (∀ k : Nat, k ≤ M + 1 → x.2 8 k = gS (x.1 0) k) ∧ x.1 7 = gS (x.1 0) (M + 1))
theorem feOK_same {S A : List Nat} {x y : MS} (h : feOK x) (g : same S A x y) (h0 : 0 ∉ S) (h7 : 7 ∉ S) (h8 : 8 ∉ A) : feOK y := by
  have e0 := g.1 0 h0
  have e7 := g.1 7 h7
  have e8 := g.2 8 h8
  unfold feOK fR at *
  rw [e0, e7, e8]
  exact h
theorem feOK_ly {x : MS} {w : Int} (h : feOK x) (hw : w < x.1 7) : lyOK x w := by
  rcases h with ⟨h1, h2⟩ | ⟨h1, h2, M, m1, m2, m3⟩
  · exact Or.inl ⟨h1, by omega⟩
  · exact Or.inr ⟨h1, h2, M + 1, by omega, by omega, by rw [m2 (M + 1) (Nat.le_refl _), ← m3]; exact hw⟩
/-- the word w is laid: its length is h + 1 -/
def wdOK (x : MS) (w : Int) : Prop := x.1 0 = 1 ∨ (x.1 0 ≠ 1 ∧ ∃ h : Nat, x.1 10 = h + 1 ∧ h ≤ 20 ∧ x.2 8 h = gS (x.1 0) h ∧ x.2 8 (h + 1) = gS (x.1 0) (h + 1) ∧ gS (x.1 0) (h + 1) ≤ w ∧ w < gS (x.1 0) (h + 2))
theorem wd_of {x : MS} {w : Int} (h : feOK x) (w1 : 1 ≤ w) (hw : w < x.1 7) : wdOK (F_m_layAny x w).2 w := by
  have fr := F_m_layAny_fr x w
  have e0 := fr.1 0 (by decide)
  have e8 := fr.2 8 (by decide)
  rcases h with ⟨h1, h2⟩ | ⟨h1, h2, M, m1, m2, m3⟩
  · exact Or.inl (by rw [e0]; exact h1)
  · refine Or.inr ⟨by rw [e0]; exact h1, ?_⟩
    have e : (F_m_layAny x w).2 = (F_m_lay x w).2 := by unfold F_m_layAny; rw [if_neg h1]
    have hK : w < x.2 8 (M + 1) := by rw [m2 (M + 1) (Nat.le_refl _), ← m3]; exact hw
    obtain ⟨v0, v1, v2, v3⟩ := F_m_lay_v (K := M + 1) (by omega) (by omega) hK (by rw [h2.1]; omega)
    rw [← e] at v0 v1 v2 v3
    have hne : (F_m_layAny x w).2.1 10 ≠ 0 := by
      intro hz
      rw [hz] at v3
      have : x.2 8 ((0 : Int) + 1).toNat = 1 := by rw [m2 _ (by show 1 ≤ M + 1; omega)]; rfl
      omega
    refine ⟨((F_m_layAny x w).2.1 10 - 1).toNat, by omega, by omega, ?_, ?_, ?_, ?_⟩
    · rw [e8, e0]; exact m2 _ (by omega)
    · rw [e8, e0]; exact m2 _ (by omega)
    · rw [e0, ← m2 _ (by omega)]
      have q : ((F_m_layAny x w).2.1 10 - 1).toNat + 1 = ((F_m_layAny x w).2.1 10).toNat := by omega
      rw [q]; exact v2
    · rw [e0, ← m2 _ (by omega)]
      have q : ((F_m_layAny x w).2.1 10 - 1).toNat + 2 = ((F_m_layAny x w).2.1 10 + 1).toNat := by omega
      rw [q]; exact v3
theorem gP_le_gS {L : Int} (h : 1 ≤ L) (k : Nat) : gP L k ≤ gS L (k + 1) := by
  show gP L k ≤ gS L k + gP L k
  have := gS_nn h k
  omega
theorem wd_first {x : MS} {w : Int} (hl : 1 ≤ x.1 0) (h : wdOK x w) (w2 : w ≤ 10000) : x.1 0 = 1 ∨ (1 ≤ x.1 10 ∧ x.1 10 ≤ 60 ∧ x.2 8 (x.1 10).toNat ≤ w ∧ 0 < (F_m_powerOf x (x.1 10 - 1)).1 ∧ iR (F_m_powerOf x (x.1 10 - 1)).1) := by
  rcases h with h | ⟨h1, k, k1, k2, k3, k4, k5, k6⟩
  · exact Or.inl h
  · have e1 : (x.1 10).toNat = k + 1 := by omega
    have e2 : (x.1 10 - 1).toNat = k := by omega
    have p := gP_pos hl k
    have q := gP_le_gS hl k
    refine Or.inr ⟨by omega, by omega, by rw [e1, k4]; exact k5, ?_, ?_⟩
    · rw [F_m_powerOf_v x (by omega) (by omega), e2]; omega
    · rw [F_m_powerOf_v x (by omega) (by omega), e2]; unfold iR; omega
theorem wd_first_v {x : MS} {w : Int} (hl : 1 ≤ x.1 0) (h : wdOK x w) (w1 : 1 ≤ w) (w2 : w ≤ 10000) : 0 ≤ (F_m_withoutFirst x w).1 ∧ (F_m_withoutFirst x w).1 < 10001 := by
  unfold F_m_withoutFirst
  rcases h with h | ⟨h1, k, k1, k2, k3, k4, k5, k6⟩
  · rw [if_pos h]; exact ⟨by show 0 ≤ w - 1; omega, by show w - 1 < 10001; omega⟩
  · rw [if_neg h1]
    have e1 : (x.1 10).toNat = k + 1 := by omega
    have e2 : (x.1 10 - 1).toNat = k := by omega
    have p := gP_pos hl k
    have a := gS_nn hl k
    have b : gS (x.1 0) (k + 1) = gS (x.1 0) k + gP (x.1 0) k := rfl
    show 0 ≤ (x.2 8) (x.1 10 - 1).toNat + (w - (x.2 8) (x.1 10).toNat) % (F_m_powerOf x (x.1 10 - 1)).1 ∧ (x.2 8) (x.1 10 - 1).toNat + (w - (x.2 8) (x.1 10).toNat) % (F_m_powerOf x (x.1 10 - 1)).1 < 10001
    rw [F_m_powerOf_v x (by omega) (by omega), e1, e2, k3, k4]
    have r1 := Int.emod_nonneg (w - gS (x.1 0) (k + 1)) (show gP (x.1 0) k ≠ 0 by omega)
    have r2 := Int.emod_lt_of_pos (w - gS (x.1 0) (k + 1)) (show 0 < gP (x.1 0) k by omega)
    omega
theorem wd_last {x : MS} {w : Int} (h : wdOK x w) : x.1 0 = 1 ∨ (1 ≤ x.1 10 ∧ x.1 10 ≤ 60 ∧ x.2 8 (x.1 10).toNat ≤ w) := by
  rcases h with h | ⟨h1, k, k1, k2, k3, k4, k5, k6⟩
  · exact Or.inl h
  · have e1 : (x.1 10).toNat = k + 1 := by omega
    exact Or.inr ⟨by omega, by omega, by rw [e1, k4]; exact k5⟩
theorem wd_last_v {x : MS} {w : Int} (hl : 1 ≤ x.1 0) (h : wdOK x w) (w1 : 1 ≤ w) (w2 : w ≤ 10000) : 0 ≤ (F_m_withoutLast x w).1 ∧ (F_m_withoutLast x w).1 < 10001 := by
  unfold F_m_withoutLast
  rcases h with h | ⟨h1, k, k1, k2, k3, k4, k5, k6⟩
  · rw [if_pos h]; exact ⟨by show 0 ≤ w - 1; omega, by show w - 1 < 10001; omega⟩
  · rw [if_neg h1]
    have e1 : (x.1 10).toNat = k + 1 := by omega
    have e2 : (x.1 10 - 1).toNat = k := by omega
    have a := gS_nn hl k
    have b : gS (x.1 0) (k + 1) = gS (x.1 0) k + gP (x.1 0) k := rfl
    have b2 : gS (x.1 0) (k + 2) = gS (x.1 0) (k + 1) + gP (x.1 0) k * x.1 0 := rfl
    show 0 ≤ (x.2 8) (x.1 10 - 1).toNat + (w - (x.2 8) (x.1 10).toNat) / x.1 0 ∧ (x.2 8) (x.1 10 - 1).toNat + (w - (x.2 8) (x.1 10).toNat) / x.1 0 < 10001
    rw [e1, e2, k3, k4]
    have r1 := Int.ediv_nonneg (show 0 ≤ w - gS (x.1 0) (k + 1) by omega) (show 0 ≤ x.1 0 by omega)
    have r2 : (w - gS (x.1 0) (k + 1)) / x.1 0 < gP (x.1 0) k := Int.ediv_lt_of_lt_mul (by omega) (by omega)
    omega
theorem F_m_keepRule_s1_v : ∀ (n : Nat) (y : MS) (w i : Int), same [12] [15, 16] y (F_m_keepRule_s n 1 y w i).2 ∧ ((F_m_keepRule_s n 1 y w i).2.1 12 = y.1 12 ∨ (F_m_keepRule_s n 1 y w i).2.1 12 = y.1 12 + 1) := by
  intro n
  induction n with
  | zero => intro y w i; exact ⟨sm_rf _ _ _, Or.inl rfl⟩
  | succ n ih =>
    intro y w i
    rw [F_m_keepRule_e1]
    by_cases hc : y.1 10 ≤ i
    · rw [if_pos hc]; exact ⟨sm_s (by decide) (sm_rf _ _ _), Or.inr rfl⟩
    · rw [if_neg hc]
      obtain ⟨g1, g2⟩ := ih (aU y 16 ((24 * y.1 12) + i).toNat ((y.2 11) i.toNat)) w (i + 1)
      exact ⟨sm_tr (sm_a (by decide) (sm_rf _ _ _)) g1, g2⟩
theorem F_m_keepRule_s0_v : ∀ (n : Nat) (y : MS) (w i : Int), jOK y → 0 ≤ w → w < 10001 → jOK (F_m_keepRule_s n 0 y w i).2 ∧ ((F_m_keepRule_s n 0 y w i).2.1 12 = y.1 12 ∨ (F_m_keepRule_s n 0 y w i).2.1 12 = y.1 12 + 1) := by
  intro n
  induction n with
  | zero => intro y w i hj h0 h1; exact ⟨hj, Or.inl rfl⟩
  | succ n ih =>
    intro y w i hj h0 h1
    rw [F_m_keepRule_e0]
    by_cases hc : y.1 10 ≤ i
    · rw [if_pos hc]
      obtain ⟨j1, -, -⟩ := F_m_root_ok hj h0 h1
      have f1 := F_m_root_fr y w
      have f2 := F_m_layAny_fr (F_m_root y w).2 (F_m_root y w).1
      obtain ⟨g1, g2⟩ := F_m_keepRule_s1_v n (aU ((F_m_layAny ((F_m_root (y) (w)).2) ((F_m_root (y) (w)).1)).2) 15 (((F_m_layAny ((F_m_root (y) (w)).2) ((F_m_root (y) (w)).1)).2).1 12).toNat (((F_m_layAny ((F_m_root (y) (w)).2) ((F_m_root (y) (w)).1)).2).1 10)) w 0
      have e12 : (F_m_layAny (F_m_root y w).2 (F_m_root y w).1).2.1 12 = y.1 12 := by rw [f2.1 12 (by decide), f1.1 12 (by decide)]
      have e9 : (F_m_layAny (F_m_root y w).2 (F_m_root y w).1).2.2 9 = (F_m_root y w).2.2 9 := f2.2 9 (by decide)
      refine ⟨fun j hj9 => ?_, ?_⟩
      · rw [g1.2 9 (by decide)]
        show 0 ≤ (F_m_layAny (F_m_root y w).2 (F_m_root y w).1).2.2 9 j ∧ (F_m_layAny (F_m_root y w).2 (F_m_root y w).1).2.2 9 j ≤ j
        rw [e9]; exact j1 j hj9
      · rw [← e12]; exact g2
    · rw [if_neg hc]
      exact ih (aU y 14 ((24 * y.1 12) + i).toNat ((y.2 11) i.toNat)) w (i + 1) hj h0 h1
theorem F_m_keepRule_v {x : MS} {w : Int} (hj : jOK x) (h0 : 0 ≤ w) (h1 : w < 10001) : jOK (F_m_keepRule x w).2 ∧ ((F_m_keepRule x w).2.1 12 = x.1 12 ∨ (F_m_keepRule x w).2.1 12 = x.1 12 + 1) := F_m_keepRule_s0_v 300 (aU x 13 (x.1 12).toNat (x.1 10)) w 0 hj h0 h1
theorem F_m_keepRule_j {x : MS} {w : Int} (hj : jOK x) (h0 : 0 ≤ w) (h1 : w < 10001) : jOK (F_m_keepRule x w).2 := (F_m_keepRule_v hj h0 h1).1
def F_m_findRules_s : Nat → Nat → MS → Int → Int × MS
  | 0, _, x, _ => (0, x)
  | n + 1, t, x, p0 => match t with
    | 0 => (fun (w : Int) => (if ((x).1 7) ≤ (w) then ((1 : Int), x) else (if ((F_m_isLeast (x) (w)).1) = (0) then (if ((F_m_isLeast ((F_m_layAny (x) (w)).2) ((F_m_withoutFirst ((F_m_layAny (x) (w)).2) (w)).1)).1) = (0) then F_m_findRules_s n 0 ((F_m_layAny (x) (w)).2) ((w) + (1 : Int)) else (if ((F_m_isLeast ((F_m_layAny (x) (w)).2) ((F_m_withoutLast ((F_m_layAny (x) (w)).2) (w)).1)).1) = (0) then F_m_findRules_s n 0 ((F_m_layAny (x) (w)).2) ((w) + (1 : Int)) else (if (((F_m_layAny (x) (w)).2).1 12) = ((40 : Int)) then ((0 : Int), (F_m_layAny (x) (w)).2) else F_m_findRules_s n 0 ((F_m_keepRule ((F_m_layAny (x) (w)).2) (w)).2) ((w) + (1 : Int))))) else F_m_findRules_s n 0 (x) ((w) + (1 : Int))))) p0
    | _ => (0, x)
theorem F_m_findRules_e0 (n : Nat) (x : MS) (w : Int) : F_m_findRules_s (n + 1) 0 x w = (if ((x).1 7) ≤ (w) then ((1 : Int), x) else (if ((F_m_isLeast (x) (w)).1) = (0) then (if ((F_m_isLeast ((F_m_layAny (x) (w)).2) ((F_m_withoutFirst ((F_m_layAny (x) (w)).2) (w)).1)).1) = (0) then F_m_findRules_s n 0 ((F_m_layAny (x) (w)).2) ((w) + (1 : Int)) else (if ((F_m_isLeast ((F_m_layAny (x) (w)).2) ((F_m_withoutLast ((F_m_layAny (x) (w)).2) (w)).1)).1) = (0) then F_m_findRules_s n 0 ((F_m_layAny (x) (w)).2) ((w) + (1 : Int)) else (if (((F_m_layAny (x) (w)).2).1 12) = ((40 : Int)) then ((0 : Int), (F_m_layAny (x) (w)).2) else F_m_findRules_s n 0 ((F_m_keepRule ((F_m_layAny (x) (w)).2) (w)).2) ((w) + (1 : Int))))) else F_m_findRules_s n 0 (x) ((w) + (1 : Int)))) := rfl
def F_m_findRules (x : MS)  : Int × MS := F_m_findRules_s 10010 0 (sU (x) 12 ((0 : Int))) ((1 : Int))
set_option maxHeartbeats 4000000 in
set_option maxRecDepth 100000 in
/-- findRules -/
theorem c_m_findRules (l : Launch) (dC : Nat → ClassId) (dI : Nat → Nat → Nat) (h : Nat) (ad : Nat → Nat) (cI cJ cZ : ClassId) (sz : Nat) (x : MS)  (a1 : 1 ≤ x.1 7) (a2 : x.1 7 ≤ 10001) (fe : feOK x) (hf : fR x) (hj : jOK x) (lt : 1 ≤ x.1 0 ∧ x.1 0 ≤ 4) : Met l yX12_findRules wsX12_findRules ({ frames := 3, cells := 0, slots := 0, locals := 67 }) (mPc dC dI h ad cI cJ cZ sz x [.ref h]) (va_Qi (fun (r : Int32) (u : MS) => r = iI (F_m_findRules (x)).1 ∧ u = (F_m_findRules (x)).2) (mAt dC dI h ad cI cJ cZ (va_A (mW h ad cI cJ cZ (x)) sz)) (va_A (mW h ad cI cJ cZ (x)) sz)) 0 0 (va_A (mW h ad cI cJ cZ (x)) sz) := by
  refine Met.ofW (cc := cX12_findRules) (maxL := 2) (ret := (some .boolean)) (by decide) rfl ?_
  intro p e s m args below meth c s₁ B hml hv
  obtain ⟨rfl, hsz, hP, hK, hD0⟩ := hv
  have hx := B.exec
  have hb := B.bytes
  have hr := B.returns
  have hts := atoms_spec (ws := wsX12_findRules) B.pre
  have hown : s.vm.findClass RX12 = some m.cls := findClass_of_methodNamed B.named
  have hlocks := B.notSynchronized
  have hin : ∀ w ∈ u_ws RX12 TX12 34, w ∈ wsX12_findRules := by decide +kernel
  subst hsz
  have hD := hD0.self (sz := s.heap.size)
  generalize hAe : va_A (mW h ad cI cJ cZ (x)) s.heap.size = A at hD ⊢
  have hA : ∀ q : Nat, s.heap.size ≤ q → A q := fun q h => by rw [← hAe]; exact Or.inr h
  have hS : va_S A s.heap s.heap [] := va_S.rf
  have hl := lv_entry ([.ref h]) (n := 2) (Nat.le_of_ble_eq_true rfl)
  rw [lg_entry_eq]
  generalize (lg_sl ([.ref h]) ++ List.replicate (2 - (lg_sl ([.ref h])).length) Slot.unset).toArray = ls at hl ⊢
  have hl : lv_has ls 2 [(0, .ref (h))] := hl
  have L : ∀ n : Nat, (∀ (y : MS) (w : Int), (same [10, 12] [9, 11, 13, 14, 15, 16] x y) → (jOK y) → (1 ≤ w) → (w ≤ 10001) → (0 ≤ y.1 12) → (y.1 12 ≤ 40) → (10001 - w < n) → F_m_findRules_s n 0 y w = F_m_findRules (x) → ∀ (H : Heap) (locs : List Loc) (ls : Array Slot), va_P (dC, dI) vwCl (mW h ad cI cJ cZ (y)) H → va_D A (mW h ad cI cJ cZ (y)) → va_S A s.heap H locs → lv_has ls 2 [(0, .ref (h)), (1, .int (iI (w)))] → W p l e (headSpec wsX12_findRules ({ frames := 3, cells := 0, slots := 0, locals := 67 })).room s m ([.ref h] : List Value).toArray below meth c H locs 0 0 (MQ below (va_Qi (fun (r : Int32) (u : MS) => r = iI (F_m_findRules (x)).1 ∧ u = (F_m_findRules (x)).2) (mAt dC dI h ad cI cJ cZ A) A) ([.ref h] : List Value).toArray s 0 0 A) (F0 m 7 ls [])) := by
    intro n
    induction n with
    | zero =>
      skip
      · intro y w sm hjy w1 w2 rr0 rr1 fu hres
        exact absurd fu (by omega)
    | succ n ih =>
      skip
      · intro y w sm hjy w1 w2 rr0 rr1 fu hres H locs ls hP hD hS hl
        rw [F_m_findRules_e0] at hres
        have s7 := sm.1 7 (by decide)
        have s0 := sm.1 0 (by decide)
        have t8 := sm.2 8 (by decide)
        have fey := feOK_same fe sm (by decide) (by decide) (by decide)
        have lty : 1 ≤ y.1 0 ∧ y.1 0 ≤ 4 := by rw [s0]; exact lt
        have hfy : fR y := by unfold fR; rw [t8]; exact hf
        refine lv_iload_n hx hb dX12_findRules_7 rfl (lv_at hl 1 rfl) ?_
        refine lv_aload_n hx hb dX12_findRules_8 rfl (lv_at hl 0 rfl) ?_
        refine va_get (D := (dC, dI)) (ci := 12) (v := .int (iI ((y).1 7))) (C := RX12) (T := TX12) (N := 34) hx hb hts hin hown hK hP 0 rfl rfl 7 (by decide) (hts (.fieldLink RX12 122 "LikeWordsModel" "all" "I") (by decide +kernel)) (fun _ h9 => h9) rfl dX12_findRules_9 ?_
        refine wi_icmp_ge (tgt := 74) hx hb (by first | assumption | (unfold iR; omega) | exact F_R01 (by assumption)) (by first | assumption | (unfold iR; omega) | exact F_R01 (by assumption)) dX12_findRules_12 (by decide) (fun c_12 => ?_) (fun c_12 => ?_)
        · skip
          rw [if_pos c_12] at hres
          refine lv_iconst (v := iI (1 : Int)) hx hb dX12_findRules_74 (by decide) ?_
          exact W.zret (v := iI ((1 : Int))) hx hb hr (by rfl) (fun t ht hW => ⟨⟨iI ((1 : Int)), y, rfl, ⟨(by have h9 := congrArg (fun z : Int × MS => iI z.1) hres; exact h9), (by have h9 := congrArg (fun z : Int × MS => z.2) hres; exact h9)⟩, by rw [ht]; exact hP, va_K.moved hW.alike hK, hD⟩, hS.F ht⟩) hS.2.2 dX12_findRules_75
        · skip
          rw [if_neg c_12] at hres
          refine lv_aload_n hx hb dX12_findRules_15 rfl (lv_at hl 0 rfl) ?_
          refine lv_iload_n hx hb dX12_findRules_16 rfl (lv_at hl 1 rfl) ?_
          have hFc : ∀ q, va_A (mW h ad cI cJ cZ (y)) H.size q → A q := fun q hq => Or.elim hq (fun ⟨k, e, hk⟩ => hD.2 k (q, e) hk) (fun hk => hA q (Nat.le_trans hS.1 hk))
          refine va_calli (va_runV (As := [.int (iI (w))]) (rest := []) ⟨hx, hb, hml, hown, hts⟩ (c_m_isLeast l dC dI h ad cI cJ cZ H.size (y) (w) (by omega) (by omega) (by have := hjy w.toNat (by omega); unfold iR; omega)) (cwV 1 hts gX12_findRules_X12_isLeast rfl rfl rfl (by decide +kernel) ⟨Nat.le_of_ble_eq_true rfl, Nat.le_of_ble_eq_true rfl⟩) ⟨fun a U g mk q => by obtain ⟨q0, q1, qP, qK, qD⟩ := q; exact ⟨q0, q1, qP, va_K.moved (u := U) (U := U.calling g mk a) (Vm.Alike.refl U.vm) qK, qD⟩, va_recv hK hP (ci := 12) (q0 := 0) rfl rfl, fun U hU hW => ⟨rfl, by rw [hU], by rw [hU]; exact hP, va_K.moved hW.alike hK, hD.weaken (fun _ _ _ _ => trivial)⟩⟩ rfl rfl hl.1 rfl (lv_room (Nat.le_of_ble_eq_true rfl)) dX12_findRules_17 ⟨Nat.le_of_ble_eq_true rfl, Nat.le_of_ble_eq_true rfl⟩) hS (fun q _ h => hFc q h) hFc (fun r9 u9 t H1 locs ht hvm hw hB hz1 hk1 hS => ?_)
          obtain ⟨hP1, hK1, hD1⟩ := hB
          rw [ht] at hP1
          obtain ⟨hw1, hw2⟩ := hw
          rw [hw2] at hP1 hD1
          rw [hw1]
          rw [F_m_isLeast_2] at hP1 hD1
          have hD2 := hD1.weaken (B := A) (fun _ q _ h => hFc q.1 h)
          have hP := hP1
          have hD := hD2
          generalize H1 = H at hP hS ⊢
          refine wi_if_ne (tgt := 68) hx hb (F_R01 (F_m_isLeast_01 _ _)) dX12_findRules_20 (by decide) (fun c_20 => ?_) (fun c_20 => ?_)
          · skip
            rw [if_neg c_20] at hres
            refine lv_iinc (v := iI ((w) + (1 : Int))) (lv' := [(1, .int (iI ((w) + (1 : Int)))), (0, .ref (h))]) hx hb dX12_findRules_68 hl (k := 1) rfl (iI_add _ _) (by decide) rfl (fun ls hl => ?_)
            refine lv_goto (tgt := 7) hx hb dX12_findRules_71 (by decide) ?_
            exact ih (y) ((w) + (1 : Int)) (sm) (hjy) (by omega) (by omega) (rr0) (rr1) (by omega) hres _ _ ls hP hD hS (lv_sub hl [1, 0] rfl)
          · skip
            rw [if_pos c_20] at hres
            have ly1 := feOK_ly fey (show w < y.1 7 by omega)
            have f1 := F_m_layAny_fr y w
            have j1 : jOK (F_m_layAny (y) (w)).2 := fun j hj9 => by rw [f1.2 9 (by decide)]; exact hjy j hj9
            have e0 := f1.1 0 (by decide)
            have f12 := f1.1 12 (by decide)
            have t81 := f1.2 8 (by decide)
            have wd := wd_of fey w1 (show w < y.1 7 by omega)
            have lt1 : 1 ≤ ((F_m_layAny (y) (w)).2).1 0 ∧ ((F_m_layAny (y) (w)).2).1 0 ≤ 4 := by rw [e0]; exact lty
            have hf1 : fR (F_m_layAny (y) (w)).2 := by unfold fR; rw [t81]; exact hfy
            have wf := wd_first_v lt1.1 wd w1 (by omega)
            have wl := wd_last_v lt1.1 wd w1 (by omega)
            have hh := F_m_layAny_v (by omega) ly1
            have ly2 : lyOK (F_m_layAny (y) (w)).2 w := lyOK_same ly1 f1 (by decide) (by decide)
            refine lv_aload_n hx hb dX12_findRules_23 rfl (lv_at hl 0 rfl) ?_
            refine lv_iload_n hx hb dX12_findRules_24 rfl (lv_at hl 1 rfl) ?_
            have hFc : ∀ q, va_A (mW h ad cI cJ cZ (y)) H.size q → A q := fun q hq => Or.elim hq (fun ⟨k, e, hk⟩ => hD.2 k (q, e) hk) (fun hk => hA q (Nat.le_trans hS.1 hk))
            refine va_callv (va_runV (As := [.int (iI (w))]) (rest := []) ⟨hx, hb, hml, hown, hts⟩ (c_m_layAny l dC dI h ad cI cJ cZ H.size (y) (w) (by omega) (by omega) (lyOK_lay ly1) lty) (cwV 1 hts gX12_findRules_X12_layAny rfl rfl rfl (by decide +kernel) ⟨Nat.le_of_ble_eq_true rfl, Nat.le_of_ble_eq_true rfl⟩) ⟨fun a U g mk q => by obtain ⟨q0, q1, qP, qK, qD⟩ := q; exact ⟨q0, q1, qP, va_K.moved (u := U) (U := U.calling g mk a) (Vm.Alike.refl U.vm) qK, qD⟩, va_recv hK hP (ci := 12) (q0 := 0) rfl rfl, fun U hU hW => ⟨rfl, by rw [hU], by rw [hU]; exact hP, va_K.moved hW.alike hK, hD.weaken (fun _ _ _ _ => trivial)⟩⟩ rfl rfl hl.1 rfl (lv_room (Nat.le_of_ble_eq_true rfl)) dX12_findRules_25 ⟨Nat.le_of_ble_eq_true rfl, Nat.le_of_ble_eq_true rfl⟩) hS (fun q _ h => hFc q h) hFc (fun u9 t H1 locs ht hvm hw hB hz1 hk1 hS => ?_)
            obtain ⟨hP1, hK1, hD1⟩ := hB
            rw [ht] at hP1
            rw [hw] at hP1 hD1
            have hD2 := hD1.weaken (B := A) (fun _ q _ h => hFc q.1 h)
            have hP := hP1
            have hD := hD2
            generalize H1 = H at hP hS ⊢
            refine lv_aload_n hx hb dX12_findRules_28 rfl (lv_at hl 0 rfl) ?_
            refine lv_aload_n hx hb dX12_findRules_29 rfl (lv_at hl 0 rfl) ?_
            refine lv_iload_n hx hb dX12_findRules_30 rfl (lv_at hl 1 rfl) ?_
            have hFc : ∀ q, va_A (mW h ad cI cJ cZ ((F_m_layAny (y) (w)).2)) H.size q → A q := fun q hq => Or.elim hq (fun ⟨k, e, hk⟩ => hD.2 k (q, e) hk) (fun hk => hA q (Nat.le_trans hS.1 hk))
            refine va_calli (va_runV (As := [.int (iI (w))]) (rest := [.ref (h)]) ⟨hx, hb, hml, hown, hts⟩ (c_m_withoutFirst l dC dI h ad cI cJ cZ H.size ((F_m_layAny (y) (w)).2) (w) (wd_first lt1.1 wd (by omega)) (by omega) hf1 lt1) (cwV 1 hts gX12_findRules_X12_withoutFirst rfl rfl rfl (by decide +kernel) ⟨Nat.le_of_ble_eq_true rfl, Nat.le_of_ble_eq_true rfl⟩) ⟨fun a U g mk q => by obtain ⟨q0, q1, qP, qK, qD⟩ := q; exact ⟨q0, q1, qP, va_K.moved (u := U) (U := U.calling g mk a) (Vm.Alike.refl U.vm) qK, qD⟩, va_recv hK hP (ci := 12) (q0 := 0) rfl rfl, fun U hU hW => ⟨rfl, by rw [hU], by rw [hU]; exact hP, va_K.moved hW.alike hK, hD.weaken (fun _ _ _ _ => trivial)⟩⟩ rfl rfl hl.1 rfl (lv_room (Nat.le_of_ble_eq_true rfl)) dX12_findRules_31 ⟨Nat.le_of_ble_eq_true rfl, Nat.le_of_ble_eq_true rfl⟩) hS (fun q _ h => hFc q h) hFc (fun r9 u9 t H1 locs ht hvm hw hB hz1 hk1 hS => ?_)
            obtain ⟨hP1, hK1, hD1⟩ := hB
            rw [ht] at hP1
            obtain ⟨hw1, hw2⟩ := hw
            rw [hw2] at hP1 hD1
            rw [hw1]
            rw [F_m_withoutFirst_2] at hP1 hD1
            have hD2 := hD1.weaken (B := A) (fun _ q _ h => hFc q.1 h)
            have hP := hP1
            have hD := hD2
            generalize H1 = H at hP hS ⊢
            have hFc : ∀ q, va_A (mW h ad cI cJ cZ ((F_m_layAny (y) (w)).2)) H.size q → A q := fun q hq => Or.elim hq (fun ⟨k, e, hk⟩ => hD.2 k (q, e) hk) (fun hk => hA q (Nat.le_trans hS.1 hk))
            refine va_calli (va_runV (As := [.int (iI ((F_m_withoutFirst ((F_m_layAny (y) (w)).2) (w)).1))]) (rest := []) ⟨hx, hb, hml, hown, hts⟩ (c_m_isLeast l dC dI h ad cI cJ cZ H.size ((F_m_layAny (y) (w)).2) ((F_m_withoutFirst ((F_m_layAny (y) (w)).2) (w)).1) wf.1 wf.2 (by have := j1 ((F_m_withoutFirst ((F_m_layAny (y) (w)).2) (w)).1).toNat (by omega); unfold iR; omega)) (cwV 1 hts gX12_findRules_X12_isLeast rfl rfl rfl (by decide +kernel) ⟨Nat.le_of_ble_eq_true rfl, Nat.le_of_ble_eq_true rfl⟩) ⟨fun a U g mk q => by obtain ⟨q0, q1, qP, qK, qD⟩ := q; exact ⟨q0, q1, qP, va_K.moved (u := U) (U := U.calling g mk a) (Vm.Alike.refl U.vm) qK, qD⟩, va_recv hK hP (ci := 12) (q0 := 0) rfl rfl, fun U hU hW => ⟨rfl, by rw [hU], by rw [hU]; exact hP, va_K.moved hW.alike hK, hD.weaken (fun _ _ _ _ => trivial)⟩⟩ rfl rfl hl.1 rfl (lv_room (Nat.le_of_ble_eq_true rfl)) dX12_findRules_34 ⟨Nat.le_of_ble_eq_true rfl, Nat.le_of_ble_eq_true rfl⟩) hS (fun q _ h => hFc q h) hFc (fun r9 u9 t H1 locs ht hvm hw hB hz1 hk1 hS => ?_)
            obtain ⟨hP1, hK1, hD1⟩ := hB
            rw [ht] at hP1
            obtain ⟨hw1, hw2⟩ := hw
            rw [hw2] at hP1 hD1
            rw [hw1]
            rw [F_m_isLeast_2] at hP1 hD1
            have hD2 := hD1.weaken (B := A) (fun _ q _ h => hFc q.1 h)
            have hP := hP1
            have hD := hD2
            generalize H1 = H at hP hS ⊢
            refine wi_if_eq (tgt := 68) hx hb (F_R01 (F_m_isLeast_01 _ _)) dX12_findRules_37 (by decide) (fun c_37 => ?_) (fun c_37 => ?_)
            · skip
              rw [if_pos c_37] at hres
              refine lv_iinc (v := iI ((w) + (1 : Int))) (lv' := [(1, .int (iI ((w) + (1 : Int)))), (0, .ref (h))]) hx hb dX12_findRules_68 hl (k := 1) rfl (iI_add _ _) (by decide) rfl (fun ls hl => ?_)
              refine lv_goto (tgt := 7) hx hb dX12_findRules_71 (by decide) ?_
              exact ih ((F_m_layAny (y) (w)).2) ((w) + (1 : Int)) (sm_tr sm (sm_mono (by decide) (by decide) f1)) (j1) (by omega) (by omega) (by omega) (by omega) (by omega) hres _ _ ls hP hD hS (lv_sub hl [1, 0] rfl)
            · skip
              rw [if_neg c_37] at hres
              refine lv_aload_n hx hb dX12_findRules_40 rfl (lv_at hl 0 rfl) ?_
              refine lv_aload_n hx hb dX12_findRules_41 rfl (lv_at hl 0 rfl) ?_
              refine lv_iload_n hx hb dX12_findRules_42 rfl (lv_at hl 1 rfl) ?_
              have hFc : ∀ q, va_A (mW h ad cI cJ cZ ((F_m_layAny (y) (w)).2)) H.size q → A q := fun q hq => Or.elim hq (fun ⟨k, e, hk⟩ => hD.2 k (q, e) hk) (fun hk => hA q (Nat.le_trans hS.1 hk))
              refine va_calli (va_runV (As := [.int (iI (w))]) (rest := [.ref (h)]) ⟨hx, hb, hml, hown, hts⟩ (c_m_withoutLast l dC dI h ad cI cJ cZ H.size ((F_m_layAny (y) (w)).2) (w) (wd_last wd) (by omega) hf1 lt1) (cwV 1 hts gX12_findRules_X12_withoutLast rfl rfl rfl (by decide +kernel) ⟨Nat.le_of_ble_eq_true rfl, Nat.le_of_ble_eq_true rfl⟩) ⟨fun a U g mk q => by obtain ⟨q0, q1, qP, qK, qD⟩ := q; exact ⟨q0, q1, qP, va_K.moved (u := U) (U := U.calling g mk a) (Vm.Alike.refl U.vm) qK, qD⟩, va_recv hK hP (ci := 12) (q0 := 0) rfl rfl, fun U hU hW => ⟨rfl, by rw [hU], by rw [hU]; exact hP, va_K.moved hW.alike hK, hD.weaken (fun _ _ _ _ => trivial)⟩⟩ rfl rfl hl.1 rfl (lv_room (Nat.le_of_ble_eq_true rfl)) dX12_findRules_43 ⟨Nat.le_of_ble_eq_true rfl, Nat.le_of_ble_eq_true rfl⟩) hS (fun q _ h => hFc q h) hFc (fun r9 u9 t H1 locs ht hvm hw hB hz1 hk1 hS => ?_)
              obtain ⟨hP1, hK1, hD1⟩ := hB
              rw [ht] at hP1
              obtain ⟨hw1, hw2⟩ := hw
              rw [hw2] at hP1 hD1
              rw [hw1]
              rw [F_m_withoutLast_2] at hP1 hD1
              have hD2 := hD1.weaken (B := A) (fun _ q _ h => hFc q.1 h)
              have hP := hP1
              have hD := hD2
              generalize H1 = H at hP hS ⊢
              have hFc : ∀ q, va_A (mW h ad cI cJ cZ ((F_m_layAny (y) (w)).2)) H.size q → A q := fun q hq => Or.elim hq (fun ⟨k, e, hk⟩ => hD.2 k (q, e) hk) (fun hk => hA q (Nat.le_trans hS.1 hk))
              refine va_calli (va_runV (As := [.int (iI ((F_m_withoutLast ((F_m_layAny (y) (w)).2) (w)).1))]) (rest := []) ⟨hx, hb, hml, hown, hts⟩ (c_m_isLeast l dC dI h ad cI cJ cZ H.size ((F_m_layAny (y) (w)).2) ((F_m_withoutLast ((F_m_layAny (y) (w)).2) (w)).1) wl.1 wl.2 (by have := j1 ((F_m_withoutLast ((F_m_layAny (y) (w)).2) (w)).1).toNat (by omega); unfold iR; omega)) (cwV 1 hts gX12_findRules_X12_isLeast rfl rfl rfl (by decide +kernel) ⟨Nat.le_of_ble_eq_true rfl, Nat.le_of_ble_eq_true rfl⟩) ⟨fun a U g mk q => by obtain ⟨q0, q1, qP, qK, qD⟩ := q; exact ⟨q0, q1, qP, va_K.moved (u := U) (U := U.calling g mk a) (Vm.Alike.refl U.vm) qK, qD⟩, va_recv hK hP (ci := 12) (q0 := 0) rfl rfl, fun U hU hW => ⟨rfl, by rw [hU], by rw [hU]; exact hP, va_K.moved hW.alike hK, hD.weaken (fun _ _ _ _ => trivial)⟩⟩ rfl rfl hl.1 rfl (lv_room (Nat.le_of_ble_eq_true rfl)) dX12_findRules_46 ⟨Nat.le_of_ble_eq_true rfl, Nat.le_of_ble_eq_true rfl⟩) hS (fun q _ h => hFc q h) hFc (fun r9 u9 t H1 locs ht hvm hw hB hz1 hk1 hS => ?_)
              obtain ⟨hP1, hK1, hD1⟩ := hB
              rw [ht] at hP1
              obtain ⟨hw1, hw2⟩ := hw
              rw [hw2] at hP1 hD1
              rw [hw1]
              rw [F_m_isLeast_2] at hP1 hD1
              have hD2 := hD1.weaken (B := A) (fun _ q _ h => hFc q.1 h)
              have hP := hP1
              have hD := hD2
              generalize H1 = H at hP hS ⊢
              refine wi_if_eq (tgt := 68) hx hb (F_R01 (F_m_isLeast_01 _ _)) dX12_findRules_49 (by decide) (fun c_49 => ?_) (fun c_49 => ?_)
              · skip
                rw [if_pos c_49] at hres
                refine lv_iinc (v := iI ((w) + (1 : Int))) (lv' := [(1, .int (iI ((w) + (1 : Int)))), (0, .ref (h))]) hx hb dX12_findRules_68 hl (k := 1) rfl (iI_add _ _) (by decide) rfl (fun ls hl => ?_)
                refine lv_goto (tgt := 7) hx hb dX12_findRules_71 (by decide) ?_
                exact ih ((F_m_layAny (y) (w)).2) ((w) + (1 : Int)) (sm_tr sm (sm_mono (by decide) (by decide) f1)) (j1) (by omega) (by omega) (by omega) (by omega) (by omega) hres _ _ ls hP hD hS (lv_sub hl [1, 0] rfl)
              · skip
                rw [if_neg c_49] at hres
                refine lv_aload_n hx hb dX12_findRules_52 rfl (lv_at hl 0 rfl) ?_
                refine va_get (D := (dC, dI)) (ci := 12) (v := .int (iI (((F_m_layAny (y) (w)).2).1 12))) (C := RX12) (T := TX12) (N := 34) hx hb hts hin hown hK hP 0 rfl rfl 12 (by decide) (hts (.fieldLink RX12 139 "LikeWordsModel" "rules" "I") (by decide +kernel)) (fun _ h9 => h9) rfl dX12_findRules_53 ?_
                refine lv_bipush (v := iI (40 : Int)) hx hb dX12_findRules_56 (by decide) ?_
                refine wi_icmp_ne (tgt := 63) hx hb (by first | assumption | (unfold iR; omega) | exact F_R01 (by assumption)) ⟨by decide, by decide⟩ dX12_findRules_58 (by decide) (fun c_58 => ?_) (fun c_58 => ?_)
                · skip
                  rw [if_neg c_58] at hres
                  have kr := (F_m_keepRule_v j1 (show 0 ≤ w by omega) (by omega)).2
                  refine lv_aload_n hx hb dX12_findRules_63 rfl (lv_at hl 0 rfl) ?_
                  refine lv_iload_n hx hb dX12_findRules_64 rfl (lv_at hl 1 rfl) ?_
                  have hFc : ∀ q, va_A (mW h ad cI cJ cZ ((F_m_layAny (y) (w)).2)) H.size q → A q := fun q hq => Or.elim hq (fun ⟨k, e, hk⟩ => hD.2 k (q, e) hk) (fun hk => hA q (Nat.le_trans hS.1 hk))
                  refine va_callv (va_runV (As := [.int (iI (w))]) (rest := []) ⟨hx, hb, hml, hown, hts⟩ (c_m_keepRule l dC dI h ad cI cJ cZ H.size ((F_m_layAny (y) (w)).2) (w) (by omega) (by omega) (by omega) (by omega) hh.1 hh.2 j1 lt1 ly2) (cwV 1 hts gX12_findRules_X12_keepRule rfl rfl rfl (by decide +kernel) ⟨Nat.le_of_ble_eq_true rfl, Nat.le_of_ble_eq_true rfl⟩) ⟨fun a U g mk q => by obtain ⟨q0, q1, qP, qK, qD⟩ := q; exact ⟨q0, q1, qP, va_K.moved (u := U) (U := U.calling g mk a) (Vm.Alike.refl U.vm) qK, qD⟩, va_recv hK hP (ci := 12) (q0 := 0) rfl rfl, fun U hU hW => ⟨rfl, by rw [hU], by rw [hU]; exact hP, va_K.moved hW.alike hK, hD.weaken (fun _ _ _ _ => trivial)⟩⟩ rfl rfl hl.1 rfl (lv_room (Nat.le_of_ble_eq_true rfl)) dX12_findRules_65 ⟨Nat.le_of_ble_eq_true rfl, Nat.le_of_ble_eq_true rfl⟩) hS (fun q _ h => hFc q h) hFc (fun u9 t H1 locs ht hvm hw hB hz1 hk1 hS => ?_)
                  obtain ⟨hP1, hK1, hD1⟩ := hB
                  rw [ht] at hP1
                  rw [hw] at hP1 hD1
                  have hD2 := hD1.weaken (B := A) (fun _ q _ h => hFc q.1 h)
                  have hP := hP1
                  have hD := hD2
                  generalize H1 = H at hP hS ⊢
                  refine lv_iinc (v := iI ((w) + (1 : Int))) (lv' := [(1, .int (iI ((w) + (1 : Int)))), (0, .ref (h))]) hx hb dX12_findRules_68 hl (k := 1) rfl (iI_add _ _) (by decide) rfl (fun ls hl => ?_)
                  refine lv_goto (tgt := 7) hx hb dX12_findRules_71 (by decide) ?_
                  exact ih ((F_m_keepRule ((F_m_layAny (y) (w)).2) (w)).2) ((w) + (1 : Int)) (sm_tr sm (sm_tr (sm_mono (by decide) (by decide) f1) (sm_mono (by decide) (by decide) (F_m_keepRule_fr _ _)))) (F_m_keepRule_j j1 (by omega) (by omega)) (by omega) (by omega) (by omega) (by omega) (by omega) hres _ _ ls hP hD hS (lv_sub hl [1, 0] rfl)
                · skip
                  rw [if_pos c_58] at hres
                  refine lv_iconst (v := iI (0 : Int)) hx hb dX12_findRules_61 (by decide) ?_
                  exact W.zret (v := iI ((0 : Int))) hx hb hr (by rfl) (fun t ht hW => ⟨⟨iI ((0 : Int)), (F_m_layAny (y) (w)).2, rfl, ⟨(by have h9 := congrArg (fun z : Int × MS => iI z.1) hres; exact h9), (by have h9 := congrArg (fun z : Int × MS => z.2) hres; exact h9)⟩, by rw [ht]; exact hP, va_K.moved hW.alike hK, hD⟩, hS.F ht⟩) hS.2.2 dX12_findRules_62
  have key : ∀ (H : Heap) (locs : List Loc), va_P (dC, dI) vwCl (mW h ad cI cJ cZ (x)) H → va_S A s.heap H locs → W p l e (headSpec wsX12_findRules ({ frames := 3, cells := 0, slots := 0, locals := 67 })).room s m ([.ref h] : List Value).toArray below meth c H locs 0 0 (MQ below (va_Qi (fun (r : Int32) (u : MS) => r = iI (F_m_findRules (x)).1 ∧ u = (F_m_findRules (x)).2) (mAt dC dI h ad cI cJ cZ A) A) ([.ref h] : List Value).toArray s 0 0 A) (F0 m 0 ls []) := by
    intro H locs hP hS
    have hres : F_m_findRules_s 10010 0 (sU (x) 12 ((0 : Int))) ((1 : Int)) = F_m_findRules (x) := rfl
    refine lv_aload_n hx hb dX12_findRules_0 rfl (lv_at hl 0 rfl) ?_
    refine lv_iconst (v := iI (0 : Int)) hx hb dX12_findRules_1 (by decide) ?_
    refine va_put (D := (dC, dI)) (ci := 12) (v := .int (iI ((0 : Int)))) (ty := .int) (C := RX12) (T := TX12) (N := 34) hx hb hts hin tyX12 tyX12_ok nmX12 hown hK hP hD hS 0 rfl rfl 12 (by decide) (hts (.fieldLink RX12 139 "LikeWordsModel" "rules" "I") (by decide +kernel)) (fun _ h9 => h9) rfl (by decide +kernel) rfl rfl (Nat.le_of_ble_eq_true rfl) dX12_findRules_2 (fun H locs hP hD hS => ?_)
    rw [mW_s12] at hP hD
    refine lv_iconst (v := iI (1 : Int)) hx hb dX12_findRules_5 (by decide) ?_
    refine lv_istore_n (lv' := [(1, .int (iI ((1 : Int)))), (0, .ref (h))]) hx hb dX12_findRules_6 rfl hl (by decide) rfl (fun ls hl => ?_)
    exact (L (10010)) (sU (x) 12 ((0 : Int))) ((1 : Int)) (sm_s (by decide) (sm_rf _ _ _)) (hj) (by omega) (by omega) (by show (0 : Int) ≤ 0; omega) (by show (0 : Int) ≤ 40; omega) (by omega) hres _ _ ls hP hD hS (lv_sub hl [1, 0] rfl)
  exact key _ _ hP hS
theorem F_m_findRules_sfr : ∀ n : Nat, (∀ (y : MS) (v0 : Int), same [10, 12] [9, 11, 13, 14, 15, 16] y (F_m_findRules_s n 0 y v0).2) := by
  intro n
  induction n with
  | zero => exact fun y _ => sm_rf _ _ _
  | succ n ih =>
    skip
    · intro y w
      rw [F_m_findRules_e0]
      by_cases hc : ((y).1 7) ≤ (w)
      · rw [if_pos hc]
        exact (sm_rf _ _ _)
      · rw [if_neg hc]
        by_cases hc : ((F_m_isLeast (y) (w)).1) = (0)
        · rw [if_pos hc]
          by_cases hc : ((F_m_isLeast ((F_m_layAny (y) (w)).2) ((F_m_withoutFirst ((F_m_layAny (y) (w)).2) (w)).1)).1) = (0)
          · rw [if_pos hc]
            exact sm_tr ((sm_tr (sm_rf _ _ _) (sm_mono (by decide) (by decide) (F_m_layAny_fr (y) (w))))) (ih ((F_m_layAny (y) (w)).2) ((w) + (1 : Int)))
          · rw [if_neg hc]
            by_cases hc : ((F_m_isLeast ((F_m_layAny (y) (w)).2) ((F_m_withoutLast ((F_m_layAny (y) (w)).2) (w)).1)).1) = (0)
            · rw [if_pos hc]
              exact sm_tr ((sm_tr (sm_rf _ _ _) (sm_mono (by decide) (by decide) (F_m_layAny_fr (y) (w))))) (ih ((F_m_layAny (y) (w)).2) ((w) + (1 : Int)))
            · rw [if_neg hc]
              by_cases hc : (((F_m_layAny (y) (w)).2).1 12) = ((40 : Int))
              · rw [if_pos hc]
                exact (sm_tr (sm_rf _ _ _) (sm_mono (by decide) (by decide) (F_m_layAny_fr (y) (w))))
              · rw [if_neg hc]
                exact sm_tr ((sm_tr (sm_tr (sm_rf _ _ _) (sm_mono (by decide) (by decide) (F_m_layAny_fr (y) (w)))) (sm_mono (by decide) (by decide) (F_m_keepRule_fr ((F_m_layAny (y) (w)).2) (w))))) (ih ((F_m_keepRule ((F_m_layAny (y) (w)).2) (w)).2) ((w) + (1 : Int)))
        · rw [if_neg hc]
          exact sm_tr ((sm_rf _ _ _)) (ih (y) ((w) + (1 : Int)))
theorem F_m_findRules_fr (x : MS)  : same [10, 12] [9, 11, 13, 14, 15, 16] x (F_m_findRules (x)).2 := by
  unfold F_m_findRules
  exact sm_tr ((sm_s (by decide) (sm_rf _ _ _))) ((F_m_findRules_sfr 10010) (sU (x) 12 ((0 : Int))) ((1 : Int)))
