theorem F_m_lay_s1_1 : ∀ (n : Nat) (y : MS) (w v i : Int), (F_m_lay_s n 1 y w v i).2.1 = y.1 := by
  intro n
  induction n with
  | zero => intro y w v i; rfl
  | succ n ih =>
    intro y w v i
    rw [F_m_lay_e1]
    by_cases hc : i < 0
    · rw [if_pos hc]
    · rw [if_neg hc, ih]; rfl
/-- lay's first loop ends at the length: first[h] is at most w, first[h + 1] above it -/
theorem F_m_lay_s0_v (x : MS) (w : Int) (K : Nat) (hK : w < x.2 8 K) : ∀ (n : Nat) (y : MS) (a b : Int), y.2 8 = x.2 8 → 0 ≤ y.1 10 → y.1 10 + 1 ≤ K → x.2 8 (y.1 10).toNat ≤ w → (K : Int) - y.1 10 < n →
    0 ≤ (F_m_lay_s n 0 y w a b).2.1 10 ∧ (F_m_lay_s n 0 y w a b).2.1 10 + 1 ≤ K ∧ x.2 8 ((F_m_lay_s n 0 y w a b).2.1 10).toNat ≤ w ∧ w < x.2 8 ((F_m_lay_s n 0 y w a b).2.1 10 + 1).toNat := by
  intro n
  induction n with
  | zero => intro y a b e8 s0 s1 s2 fu; exact absurd fu (by omega)
  | succ n ih =>
    intro y a b e8 s0 s1 s2 fu
    rw [F_m_lay_e0]
    by_cases hc : w < ((y.2 8) (y.1 10 + 1).toNat)
    · rw [if_pos hc, F_m_lay_s1_1]
      rw [e8] at hc
      exact ⟨s0, s1, s2, hc⟩
    · rw [if_neg hc]
      rw [e8] at hc
      refine ih (sU y 10 (y.1 10 + 1)) 0 0 e8 ?_ ?_ ?_ ?_
      · show 0 ≤ y.1 10 + 1; omega
      · show (y.1 10 + 1) + 1 ≤ (K : Int)
        rcases Int.lt_or_eq_of_le s1 with g | g
        · omega
        · exfalso; rw [g] at hc; exact hc hK
      · show x.2 8 (y.1 10 + 1).toNat ≤ w; omega
      · show (K : Int) - (y.1 10 + 1) < n; omega
theorem F_m_lay_v {x : MS} {w : Int} {K : Nat} (h1 : 1 ≤ K) (h2 : K < 64) (hK : w < x.2 8 K) (h0 : x.2 8 0 ≤ w) : 0 ≤ (F_m_lay x w).2.1 10 ∧ (F_m_lay x w).2.1 10 + 1 ≤ K ∧ x.2 8 ((F_m_lay x w).2.1 10).toNat ≤ w ∧ w < x.2 8 ((F_m_lay x w).2.1 10 + 1).toNat := by
  refine F_m_lay_s0_v x w K hK 200 (sU x 10 0) 0 0 rfl ?_ ?_ ?_ ?_
  · show (0 : Int) ≤ 0; omega
  · show (0 : Int) + 1 ≤ K; omega
  · exact h0
  · show (K : Int) - 0 < (200 : Nat); omega
theorem F_m_layAny_s_1 : ∀ (n : Nat) (y : MS) (w i : Int), (F_m_layAny_s n 0 y w i).2.1 = y.1 := by
  intro n
  induction n with
  | zero => intro y w i; rfl
  | succ n ih =>
    intro y w i
    rw [F_m_layAny_e0]
    by_cases hc : w ≤ i
    · rw [if_pos hc]
    · rw [if_neg hc]
      by_cases hd : (64 : Int) ≤ i
      · rw [if_pos hd]
      · rw [if_neg hd, ih]; rfl
/-- the word w can be laid: with one letter it is its own length -/
def lyOK (x : MS) (w : Int) : Prop := (x.1 0 = 1 ∧ w ≤ 24) ∨ (x.1 0 ≠ 1 ∧ fR x ∧ ∃ K : Nat, 1 ≤ K ∧ K ≤ 24 ∧ w < x.2 8 K)
theorem F_m_layAny_v {x : MS} {w : Int} (w0 : 0 ≤ w) (h : lyOK x w) : 0 ≤ (F_m_layAny x w).2.1 10 ∧ (F_m_layAny x w).2.1 10 ≤ 24 := by
  unfold F_m_layAny
  rcases h with ⟨h1, h2⟩ | ⟨h1, h2, K, k1, k2, k3⟩
  · rw [if_pos h1, F_m_layAny_s_1]
    exact ⟨w0, h2⟩
  · rw [if_neg h1]
    have := F_m_lay_v k1 (by omega) k3 (by rw [h2.1]; exact w0)
    exact ⟨this.1, by have := this.2.1; show (F_m_lay x w).2.1 10 ≤ 24; omega⟩
theorem lyOK_down {x : MS} {w r : Int} (h : lyOK x w) (hr : r ≤ w) : lyOK x r := by
  rcases h with ⟨h1, h2⟩ | ⟨h1, h2, K, k1, k2, k3⟩
  · exact Or.inl ⟨h1, by omega⟩
  · exact Or.inr ⟨h1, h2, K, k1, k2, by omega⟩
theorem lyOK_lay {x : MS} {w : Int} (h : lyOK x w) : x.1 0 = 1 ∨ (fR x ∧ ∃ K : Nat, 1 ≤ K ∧ K < 64 ∧ w < x.2 8 K) := by
  rcases h with ⟨h1, h2⟩ | ⟨h1, h2, K, k1, k2, k3⟩
  · exact Or.inl h1
  · exact Or.inr ⟨h2, K, k1, by omega, k3⟩
theorem lyOK_same {S A : List Nat} {x y : MS} {w : Int} (h : lyOK x w) (g : same S A x y) (h0 : 0 ∉ S) (h8 : 8 ∉ A) : lyOK y w := by
  have e0 := g.1 0 h0
  have e8 := g.2 8 h8
  unfold lyOK fR at *
  rw [e0, e8]
  exact h
def F_m_keepRule_s : Nat → Nat → MS → Int → Int → Int × MS
  | 0, _, x, _, _ => (0, x)
  | n + 1, t, x, p0, p1 => match t with
    | 0 => (fun (w : Int) (i : Int) => (if ((x).1 10) ≤ (i) then F_m_keepRule_s n 1 (aU ((F_m_layAny ((F_m_root (x) (w)).2) ((F_m_root (x) (w)).1)).2) 15 (((F_m_layAny ((F_m_root (x) (w)).2) ((F_m_root (x) (w)).1)).2).1 12).toNat (((F_m_layAny ((F_m_root (x) (w)).2) ((F_m_root (x) (w)).1)).2).1 10)) (w) ((0 : Int)) else F_m_keepRule_s n 0 (aU (x) 14 ((((24 : Int)) * ((x).1 12)) + (i)).toNat (((x).2 11) (i).toNat)) (w) ((i) + (1 : Int)))) p0 p1
    | 1 => (fun (w : Int) (i : Int) => (if ((x).1 10) ≤ (i) then (0, sU (x) 12 (((x).1 12) + ((1 : Int)))) else F_m_keepRule_s n 1 (aU (x) 16 ((((24 : Int)) * ((x).1 12)) + (i)).toNat (((x).2 11) (i).toNat)) (w) ((i) + (1 : Int)))) p0 p1
    | _ => (0, x)
theorem F_m_keepRule_e0 (n : Nat) (x : MS) (w : Int) (i : Int) : F_m_keepRule_s (n + 1) 0 x w i = (if ((x).1 10) ≤ (i) then F_m_keepRule_s n 1 (aU ((F_m_layAny ((F_m_root (x) (w)).2) ((F_m_root (x) (w)).1)).2) 15 (((F_m_layAny ((F_m_root (x) (w)).2) ((F_m_root (x) (w)).1)).2).1 12).toNat (((F_m_layAny ((F_m_root (x) (w)).2) ((F_m_root (x) (w)).1)).2).1 10)) (w) ((0 : Int)) else F_m_keepRule_s n 0 (aU (x) 14 ((((24 : Int)) * ((x).1 12)) + (i)).toNat (((x).2 11) (i).toNat)) (w) ((i) + (1 : Int))) := rfl
theorem F_m_keepRule_e1 (n : Nat) (x : MS) (w : Int) (i : Int) : F_m_keepRule_s (n + 1) 1 x w i = (if ((x).1 10) ≤ (i) then (0, sU (x) 12 (((x).1 12) + ((1 : Int)))) else F_m_keepRule_s n 1 (aU (x) 16 ((((24 : Int)) * ((x).1 12)) + (i)).toNat (((x).2 11) (i).toNat)) (w) ((i) + (1 : Int))) := rfl
def F_m_keepRule (x : MS) (w : Int) : Int × MS := F_m_keepRule_s 300 0 (aU (x) 13 ((x).1 12).toNat ((x).1 10)) (w) ((0 : Int))
set_option maxHeartbeats 4000000 in
set_option maxRecDepth 100000 in
/-- keepRule -/
theorem c_m_keepRule (l : Launch) (dC : Nat → ClassId) (dI : Nat → Nat → Nat) (h : Nat) (ad : Nat → Nat) (cI cJ cZ : ClassId) (sz : Nat) (x : MS) (w : Int) (w0 : 0 ≤ w) (w1 : w ≤ 10000) (r0 : 0 ≤ x.1 12) (r1 : x.1 12 < 40) (h0 : 0 ≤ x.1 10) (h1 : x.1 10 ≤ 24) (hj : jOK x) (lt : 1 ≤ x.1 0 ∧ x.1 0 ≤ 4) (ly : lyOK x w) : Met l yX12_keepRule wsX12_keepRule ({ frames := 2, cells := 0, slots := 0, locals := 45 }) (mPc dC dI h ad cI cJ cZ sz x [.ref h, .int (iI w)]) (va_Qv (fun u : MS => u = (F_m_keepRule (x) (w)).2) (mAt dC dI h ad cI cJ cZ (va_A (mW h ad cI cJ cZ (x)) sz)) (va_A (mW h ad cI cJ cZ (x)) sz)) 0 0 (va_A (mW h ad cI cJ cZ (x)) sz) := by
  refine Met.ofW (cc := cX12_keepRule) (maxL := 3) (ret := none) (by decide) rfl ?_
  intro p e s m args below meth c s₁ B hml hv
  obtain ⟨rfl, hsz, hP, hK, hD0⟩ := hv
  have hx := B.exec
  have hb := B.bytes
  have hr := B.returns
  have hts := atoms_spec (ws := wsX12_keepRule) B.pre
  have hown : s.vm.findClass RX12 = some m.cls := findClass_of_methodNamed B.named
  have hlocks := B.notSynchronized
  have hin : ∀ w ∈ u_ws RX12 TX12 34, w ∈ wsX12_keepRule := by decide +kernel
  subst hsz
  have hD := hD0.self (sz := s.heap.size)
  generalize hAe : va_A (mW h ad cI cJ cZ (x)) s.heap.size = A at hD ⊢
  have hA : ∀ q : Nat, s.heap.size ≤ q → A q := fun q h => by rw [← hAe]; exact Or.inr h
  have hS : va_S A s.heap s.heap [] := va_S.rf
  have hl := lv_entry ([.ref h, .int (iI w)]) (n := 3) (Nat.le_of_ble_eq_true rfl)
  rw [lg_entry_eq]
  generalize (lg_sl ([.ref h, .int (iI w)]) ++ List.replicate (3 - (lg_sl ([.ref h, .int (iI w)])).length) Slot.unset).toArray = ls at hl ⊢
  have hl : lv_has ls 3 [(0, .ref (h)), (1, .int (iI (w)))] := hl
  have L : ∀ n : Nat, (∀ (y : MS) (i : Int), (0 ≤ i) → (i ≤ 24) → (same [] [13, 14] x y) → (24 - i + 100 < n) → F_m_keepRule_s n 0 y w i = F_m_keepRule (x) (w) → ∀ (H : Heap) (locs : List Loc) (ls : Array Slot), va_P (dC, dI) vwCl (mW h ad cI cJ cZ (y)) H → va_D A (mW h ad cI cJ cZ (y)) → va_S A s.heap H locs → lv_has ls 3 [(0, .ref (h)), (1, .int (iI (w))), (2, .int (iI (i)))] → W p l e (headSpec wsX12_keepRule ({ frames := 2, cells := 0, slots := 0, locals := 45 })).room s m ([.ref h, .int (iI w)] : List Value).toArray below meth c H locs 0 0 (MQ below (va_Qv (fun u : MS => u = (F_m_keepRule (x) (w)).2) (mAt dC dI h ad cI cJ cZ A) A) ([.ref h, .int (iI w)] : List Value).toArray s 0 0 A) (F0 m 15 ls [])) ∧ (∀ (y : MS) (i : Int), (0 ≤ i) → (i ≤ 24) → (0 ≤ y.1 12) → (y.1 12 < 40) → (0 ≤ y.1 10) → (y.1 10 ≤ 24) → (24 - i < n) → F_m_keepRule_s n 1 y w i = F_m_keepRule (x) (w) → ∀ (H : Heap) (locs : List Loc) (ls : Array Slot), va_P (dC, dI) vwCl (mW h ad cI cJ cZ (y)) H → va_D A (mW h ad cI cJ cZ (y)) → va_S A s.heap H locs → lv_has ls 3 [(0, .ref (h)), (1, .int (iI (w))), (2, .int (iI (i)))] → W p l e (headSpec wsX12_keepRule ({ frames := 2, cells := 0, slots := 0, locals := 45 })).room s m ([.ref h, .int (iI w)] : List Value).toArray below meth c H locs 0 0 (MQ below (va_Qv (fun u : MS => u = (F_m_keepRule (x) (w)).2) (mAt dC dI h ad cI cJ cZ A) A) ([.ref h, .int (iI w)] : List Value).toArray s 0 0 A) (F0 m 73 ls [])) := by
    intro n
    induction n with
    | zero =>
      refine ⟨?_, ?_⟩
      · intro y i i0 i1 sm fu hres
        exact absurd fu (by omega)
      · intro y i i0 i1 rr0 rr1 hh0 hh1 fu hres
        exact absurd fu (by omega)
    | succ n ih =>
      refine ⟨?_, ?_⟩
      · intro y i i0 i1 sm fu hres H locs ls hP hD hS hl
        rw [F_m_keepRule_e0] at hres
        have s10 := sm.1 10 (by decide)
        have s12 := sm.1 12 (by decide)
        have s0 := sm.1 0 (by decide)
        have t9 := sm.2 9 (by decide)
        have hjy : jOK y := fun j hj9 => by rw [t9]; exact hj j hj9
        have lyy : lyOK y w := lyOK_same ly sm (by decide) (by decide)
        have lty : 1 ≤ y.1 0 ∧ y.1 0 ≤ 4 := by rw [s0]; exact lt
        refine lv_iload_n hx hb dX12_keepRule_15 rfl (lv_at hl 2 rfl) ?_
        refine lv_aload_n hx hb dX12_keepRule_16 rfl (lv_at hl 0 rfl) ?_
        refine va_get (D := (dC, dI)) (ci := 12) (v := .int (iI ((y).1 10))) (C := RX12) (T := TX12) (N := 34) hx hb hts hin hown hK hP 0 rfl rfl 10 (by decide) (hts (.fieldLink RX12 119 "LikeWordsModel" "handSize" "I") (by decide +kernel)) (fun _ h9 => h9) rfl dX12_keepRule_17 ?_
        refine wi_icmp_ge (tgt := 49) hx hb (by first | assumption | (unfold iR; omega) | exact F_R01 (by assumption)) (by first | assumption | (unfold iR; omega) | exact F_R01 (by assumption)) dX12_keepRule_20 (by decide) (fun c_20 => ?_) (fun c_20 => ?_)
        · skip
          rw [if_pos c_20] at hres
          refine lv_aload_n hx hb dX12_keepRule_49 rfl (lv_at hl 0 rfl) ?_
          refine lv_aload_n hx hb dX12_keepRule_50 rfl (lv_at hl 0 rfl) ?_
          refine lv_iload_n hx hb dX12_keepRule_51 rfl (lv_at hl 1 rfl) ?_
          have hFc : ∀ q, va_A (mW h ad cI cJ cZ (y)) H.size q → A q := fun q hq => Or.elim hq (fun ⟨k, e, hk⟩ => hD.2 k (q, e) hk) (fun hk => hA q (Nat.le_trans hS.1 hk))
          refine va_calli (va_runV (As := [.int (iI (w))]) (rest := [.ref (h)]) ⟨hx, hb, hml, hown, hts⟩ (c_m_root l dC dI h ad cI cJ cZ H.size (y) (w) w0 (by omega) hjy) (cwV 1 hts gX12_keepRule_X12_root rfl rfl rfl (by decide +kernel) ⟨Nat.le_of_ble_eq_true rfl, Nat.le_of_ble_eq_true rfl⟩) ⟨fun a U g mk q => by obtain ⟨q0, q1, qP, qK, qD⟩ := q; exact ⟨q0, q1, qP, va_K.moved (u := U) (U := U.calling g mk a) (Vm.Alike.refl U.vm) qK, qD⟩, va_recv hK hP (ci := 12) (q0 := 0) rfl rfl, fun U hU hW => ⟨rfl, by rw [hU], by rw [hU]; exact hP, va_K.moved hW.alike hK, hD.weaken (fun _ _ _ _ => trivial)⟩⟩ rfl rfl hl.1 rfl (lv_room (Nat.le_of_ble_eq_true rfl)) dX12_keepRule_52 ⟨Nat.le_of_ble_eq_true rfl, Nat.le_of_ble_eq_true rfl⟩) hS (fun q _ h => hFc q h) hFc (fun r9 u9 t H1 locs ht hvm hw hB hz1 hk1 hS => ?_)
          obtain ⟨hP1, hK1, hD1⟩ := hB
          rw [ht] at hP1
          obtain ⟨hw1, hw2⟩ := hw
          rw [hw2] at hP1 hD1
          rw [hw1]
          have hD2 := hD1.weaken (B := A) (fun _ q _ h => hFc q.1 h)
          have hP := hP1
          have hD := hD2
          generalize H1 = H at hP hS ⊢
          obtain ⟨j1, p0, p1⟩ := F_m_root_ok hjy w0 (by omega)
          have f1 := F_m_root_fr y w
          have ly1 : lyOK (F_m_root (y) (w)).2 (F_m_root (y) (w)).1 := lyOK_down (lyOK_same lyy f1 (by decide) (by decide)) p1
          have lt1 : 1 ≤ (F_m_root (y) (w)).2.1 0 ∧ (F_m_root (y) (w)).2.1 0 ≤ 4 := by rw [f1.1 0 (by decide)]; exact lty
          have f2 := F_m_layAny_fr (F_m_root (y) (w)).2 (F_m_root (y) (w)).1
          obtain ⟨v0, v1⟩ := F_m_layAny_v p0 ly1
          have v12 : (F_m_layAny (F_m_root (y) (w)).2 (F_m_root (y) (w)).1).2.1 12 = x.1 12 := by rw [f2.1 12 (by decide), f1.1 12 (by decide)]; exact s12
          have hFc : ∀ q, va_A (mW h ad cI cJ cZ ((F_m_root (y) (w)).2)) H.size q → A q := fun q hq => Or.elim hq (fun ⟨k, e, hk⟩ => hD.2 k (q, e) hk) (fun hk => hA q (Nat.le_trans hS.1 hk))
          refine va_callv (va_runV (As := [.int (iI ((F_m_root (y) (w)).1))]) (rest := []) ⟨hx, hb, hml, hown, hts⟩ (c_m_layAny l dC dI h ad cI cJ cZ H.size ((F_m_root (y) (w)).2) ((F_m_root (y) (w)).1) p0 (by omega) (lyOK_lay ly1) lt1) (cwV 1 hts gX12_keepRule_X12_layAny rfl rfl rfl (by decide +kernel) ⟨Nat.le_of_ble_eq_true rfl, Nat.le_of_ble_eq_true rfl⟩) ⟨fun a U g mk q => by obtain ⟨q0, q1, qP, qK, qD⟩ := q; exact ⟨q0, q1, qP, va_K.moved (u := U) (U := U.calling g mk a) (Vm.Alike.refl U.vm) qK, qD⟩, va_recv hK hP (ci := 12) (q0 := 0) rfl rfl, fun U hU hW => ⟨rfl, by rw [hU], by rw [hU]; exact hP, va_K.moved hW.alike hK, hD.weaken (fun _ _ _ _ => trivial)⟩⟩ rfl rfl hl.1 rfl (lv_room (Nat.le_of_ble_eq_true rfl)) dX12_keepRule_55 ⟨Nat.le_of_ble_eq_true rfl, Nat.le_of_ble_eq_true rfl⟩) hS (fun q _ h => hFc q h) hFc (fun u9 t H1 locs ht hvm hw hB hz1 hk1 hS => ?_)
          obtain ⟨hP1, hK1, hD1⟩ := hB
          rw [ht] at hP1
          rw [hw] at hP1 hD1
          have hD2 := hD1.weaken (B := A) (fun _ q _ h => hFc q.1 h)
          have hP := hP1
          have hD := hD2
          generalize H1 = H at hP hS ⊢
          refine lv_aload_n hx hb dX12_keepRule_58 rfl (lv_at hl 0 rfl) ?_
          refine va_get (D := (dC, dI)) (ci := 12) (v := .ref (ad 15)) (C := RX12) (T := TX12) (N := 34) hx hb hts hin hown hK hP 0 rfl rfl 15 (by decide) (hts (.fieldLink RX12 44 "LikeWordsModel" "rightSize" "[I") (by decide +kernel)) (fun _ h9 => h9) rfl dX12_keepRule_59 ?_
          refine lv_aload_n hx hb dX12_keepRule_62 rfl (lv_at hl 0 rfl) ?_
          refine va_get (D := (dC, dI)) (ci := 12) (v := .int (iI (((F_m_layAny ((F_m_root (y) (w)).2) ((F_m_root (y) (w)).1)).2).1 12))) (C := RX12) (T := TX12) (N := 34) hx hb hts hin hown hK hP 0 rfl rfl 12 (by decide) (hts (.fieldLink RX12 139 "LikeWordsModel" "rules" "I") (by decide +kernel)) (fun _ h9 => h9) rfl dX12_keepRule_63 ?_
          refine lv_aload_n hx hb dX12_keepRule_66 rfl (lv_at hl 0 rfl) ?_
          refine va_get (D := (dC, dI)) (ci := 12) (v := .int (iI (((F_m_layAny ((F_m_root (y) (w)).2) ((F_m_root (y) (w)).1)).2).1 10))) (C := RX12) (T := TX12) (N := 34) hx hb hts hin hown hK hP 0 rfl rfl 10 (by decide) (hts (.fieldLink RX12 119 "LikeWordsModel" "handSize" "I") (by decide +kernel)) (fun _ h9 => h9) rfl dX12_keepRule_67 ?_
          refine wi_iast (f := ((F_m_layAny ((F_m_root (y) (w)).2) ((F_m_root (y) (w)).1)).2).2 15) hx hb hK hP hD hS 10 0 rfl rfl (i := ((F_m_layAny ((F_m_root (y) (w)).2) ((F_m_root (y) (w)).1)).2).1 12) (x := ((F_m_layAny ((F_m_root (y) (w)).2) ((F_m_root (y) (w)).1)).2).1 10) (by omega) (by omega) (by decide) dX12_keepRule_70 (fun H locs hP hD hS => ?_)
          rw [mW_a15] at hP hD
          refine lv_iconst (v := iI (0 : Int)) hx hb dX12_keepRule_71 (by decide) ?_
          refine lv_istore_n (lv' := [(2, .int (iI ((0 : Int)))), (0, .ref (h)), (1, .int (iI (w)))]) hx hb dX12_keepRule_72 rfl hl (by decide) rfl (fun ls hl => ?_)
          exact ih.2 (aU ((F_m_layAny ((F_m_root (y) (w)).2) ((F_m_root (y) (w)).1)).2) 15 (((F_m_layAny ((F_m_root (y) (w)).2) ((F_m_root (y) (w)).1)).2).1 12).toNat (((F_m_layAny ((F_m_root (y) (w)).2) ((F_m_root (y) (w)).1)).2).1 10)) ((0 : Int)) (by omega) (by omega) (by show 0 ≤ (F_m_layAny (F_m_root (y) (w)).2 (F_m_root (y) (w)).1).2.1 12; omega) (by show (F_m_layAny (F_m_root (y) (w)).2 (F_m_root (y) (w)).1).2.1 12 < 40; omega) (v0) (v1) (by omega) hres _ _ ls hP hD hS (lv_sub hl [1, 2, 0] rfl)
        · skip
          rw [if_neg c_20] at hres
          refine lv_aload_n hx hb dX12_keepRule_23 rfl (lv_at hl 0 rfl) ?_
          refine va_get (D := (dC, dI)) (ci := 12) (v := .ref (ad 14)) (C := RX12) (T := TX12) (N := 34) hx hb hts hin hown hK hP 0 rfl rfl 14 (by decide) (hts (.fieldLink RX12 41 "LikeWordsModel" "left" "[I") (by decide +kernel)) (fun _ h9 => h9) rfl dX12_keepRule_24 ?_
          refine lv_bipush (v := iI (24 : Int)) hx hb dX12_keepRule_27 (by decide) ?_
          refine lv_aload_n hx hb dX12_keepRule_29 rfl (lv_at hl 0 rfl) ?_
          refine va_get (D := (dC, dI)) (ci := 12) (v := .int (iI ((y).1 12))) (C := RX12) (T := TX12) (N := 34) hx hb hts hin hown hK hP 0 rfl rfl 12 (by decide) (hts (.fieldLink RX12 139 "LikeWordsModel" "rules" "I") (by decide +kernel)) (fun _ h9 => h9) rfl dX12_keepRule_30 ?_
          refine wi_imul hx hb dX12_keepRule_33 ?_
          refine lv_iload_n hx hb dX12_keepRule_34 rfl (lv_at hl 2 rfl) ?_
          refine wi_iadd hx hb dX12_keepRule_35 ?_
          refine lv_aload_n hx hb dX12_keepRule_36 rfl (lv_at hl 0 rfl) ?_
          refine va_get (D := (dC, dI)) (ci := 12) (v := .ref (ad 11)) (C := RX12) (T := TX12) (N := 34) hx hb hts hin hown hK hP 0 rfl rfl 11 (by decide) (hts (.fieldLink RX12 35 "LikeWordsModel" "hand" "[I") (by decide +kernel)) (fun _ h9 => h9) rfl dX12_keepRule_37 ?_
          refine lv_iload_n hx hb dX12_keepRule_40 rfl (lv_at hl 2 rfl) ?_
          refine wi_iald (f := (y).2 11) hx hb hK hP 7 0 rfl rfl (i := i) (by omega) (by omega) (by decide) dX12_keepRule_41 ?_
          refine wi_iast (f := (y).2 14) hx hb hK hP hD hS 9 0 rfl rfl (i := (((24 : Int)) * ((y).1 12)) + (i)) (x := ((y).2 11) (i).toNat) (by omega) (by omega) (by decide) dX12_keepRule_42 (fun H locs hP hD hS => ?_)
          rw [mW_a14] at hP hD
          refine lv_iinc (v := iI ((i) + (1 : Int))) (lv' := [(2, .int (iI ((i) + (1 : Int)))), (0, .ref (h)), (1, .int (iI (w)))]) hx hb dX12_keepRule_43 hl (k := 2) rfl (iI_add _ _) (by decide) rfl (fun ls hl => ?_)
          refine lv_goto (tgt := 15) hx hb dX12_keepRule_46 (by decide) ?_
          exact ih.1 (aU (y) 14 ((((24 : Int)) * ((y).1 12)) + (i)).toNat (((y).2 11) (i).toNat)) ((i) + (1 : Int)) (by omega) (by omega) (sm_a (by decide) sm) (by omega) hres _ _ ls hP hD hS (lv_sub hl [1, 2, 0] rfl)
      · intro y i i0 i1 rr0 rr1 hh0 hh1 fu hres H locs ls hP hD hS hl
        rw [F_m_keepRule_e1] at hres
        refine lv_iload_n hx hb dX12_keepRule_73 rfl (lv_at hl 2 rfl) ?_
        refine lv_aload_n hx hb dX12_keepRule_74 rfl (lv_at hl 0 rfl) ?_
        refine va_get (D := (dC, dI)) (ci := 12) (v := .int (iI ((y).1 10))) (C := RX12) (T := TX12) (N := 34) hx hb hts hin hown hK hP 0 rfl rfl 10 (by decide) (hts (.fieldLink RX12 119 "LikeWordsModel" "handSize" "I") (by decide +kernel)) (fun _ h9 => h9) rfl dX12_keepRule_75 ?_
        refine wi_icmp_ge (tgt := 107) hx hb (by first | assumption | (unfold iR; omega) | exact F_R01 (by assumption)) (by first | assumption | (unfold iR; omega) | exact F_R01 (by assumption)) dX12_keepRule_78 (by decide) (fun c_78 => ?_) (fun c_78 => ?_)
        · skip
          rw [if_pos c_78] at hres
          refine lv_aload_n hx hb dX12_keepRule_107 rfl (lv_at hl 0 rfl) ?_
          refine lv_dup hx hb dX12_keepRule_108 rfl ?_
          refine va_get (D := (dC, dI)) (ci := 12) (v := .int (iI ((y).1 12))) (C := RX12) (T := TX12) (N := 34) hx hb hts hin hown hK hP 0 rfl rfl 12 (by decide) (hts (.fieldLink RX12 139 "LikeWordsModel" "rules" "I") (by decide +kernel)) (fun _ h9 => h9) rfl dX12_keepRule_109 ?_
          refine lv_iconst (v := iI (1 : Int)) hx hb dX12_keepRule_112 (by decide) ?_
          refine wi_iadd hx hb dX12_keepRule_113 ?_
          refine va_put (D := (dC, dI)) (ci := 12) (v := .int (iI (((y).1 12) + ((1 : Int))))) (ty := .int) (C := RX12) (T := TX12) (N := 34) hx hb hts hin tyX12 tyX12_ok nmX12 hown hK hP hD hS 0 rfl rfl 12 (by decide) (hts (.fieldLink RX12 139 "LikeWordsModel" "rules" "I") (by decide +kernel)) (fun _ h9 => h9) rfl (by decide +kernel) rfl rfl (Nat.le_of_ble_eq_true rfl) dX12_keepRule_114 (fun H locs hP hD hS => ?_)
          rw [mW_s12] at hP hD
          exact W.vret hx hb hr (fun t ht hW => ⟨⟨sU (y) 12 (((y).1 12) + ((1 : Int))), rfl, (by have h9 := congrArg (fun z : Int × MS => z.2) hres; exact h9), by rw [ht]; exact hP, va_K.moved hW.alike hK, hD⟩, hS.F ht⟩) hS.2.2 dX12_keepRule_117
        · skip
          rw [if_neg c_78] at hres
          refine lv_aload_n hx hb dX12_keepRule_81 rfl (lv_at hl 0 rfl) ?_
          refine va_get (D := (dC, dI)) (ci := 12) (v := .ref (ad 16)) (C := RX12) (T := TX12) (N := 34) hx hb hts hin hown hK hP 0 rfl rfl 16 (by decide) (hts (.fieldLink RX12 47 "LikeWordsModel" "right" "[I") (by decide +kernel)) (fun _ h9 => h9) rfl dX12_keepRule_82 ?_
          refine lv_bipush (v := iI (24 : Int)) hx hb dX12_keepRule_85 (by decide) ?_
          refine lv_aload_n hx hb dX12_keepRule_87 rfl (lv_at hl 0 rfl) ?_
          refine va_get (D := (dC, dI)) (ci := 12) (v := .int (iI ((y).1 12))) (C := RX12) (T := TX12) (N := 34) hx hb hts hin hown hK hP 0 rfl rfl 12 (by decide) (hts (.fieldLink RX12 139 "LikeWordsModel" "rules" "I") (by decide +kernel)) (fun _ h9 => h9) rfl dX12_keepRule_88 ?_
          refine wi_imul hx hb dX12_keepRule_91 ?_
          refine lv_iload_n hx hb dX12_keepRule_92 rfl (lv_at hl 2 rfl) ?_
          refine wi_iadd hx hb dX12_keepRule_93 ?_
          refine lv_aload_n hx hb dX12_keepRule_94 rfl (lv_at hl 0 rfl) ?_
          refine va_get (D := (dC, dI)) (ci := 12) (v := .ref (ad 11)) (C := RX12) (T := TX12) (N := 34) hx hb hts hin hown hK hP 0 rfl rfl 11 (by decide) (hts (.fieldLink RX12 35 "LikeWordsModel" "hand" "[I") (by decide +kernel)) (fun _ h9 => h9) rfl dX12_keepRule_95 ?_
          refine lv_iload_n hx hb dX12_keepRule_98 rfl (lv_at hl 2 rfl) ?_
          refine wi_iald (f := (y).2 11) hx hb hK hP 7 0 rfl rfl (i := i) (by omega) (by omega) (by decide) dX12_keepRule_99 ?_
          refine wi_iast (f := (y).2 16) hx hb hK hP hD hS 11 0 rfl rfl (i := (((24 : Int)) * ((y).1 12)) + (i)) (x := ((y).2 11) (i).toNat) (by omega) (by omega) (by decide) dX12_keepRule_100 (fun H locs hP hD hS => ?_)
          rw [mW_a16] at hP hD
          refine lv_iinc (v := iI ((i) + (1 : Int))) (lv' := [(2, .int (iI ((i) + (1 : Int)))), (0, .ref (h)), (1, .int (iI (w)))]) hx hb dX12_keepRule_101 hl (k := 2) rfl (iI_add _ _) (by decide) rfl (fun ls hl => ?_)
          refine lv_goto (tgt := 73) hx hb dX12_keepRule_104 (by decide) ?_
          exact ih.2 (aU (y) 16 ((((24 : Int)) * ((y).1 12)) + (i)).toNat (((y).2 11) (i).toNat)) ((i) + (1 : Int)) (by omega) (by omega) (rr0) (rr1) (hh0) (hh1) (by omega) hres _ _ ls hP hD hS (lv_sub hl [1, 2, 0] rfl)
  have key : ∀ (H : Heap) (locs : List Loc), va_P (dC, dI) vwCl (mW h ad cI cJ cZ (x)) H → va_S A s.heap H locs → W p l e (headSpec wsX12_keepRule ({ frames := 2, cells := 0, slots := 0, locals := 45 })).room s m ([.ref h, .int (iI w)] : List Value).toArray below meth c H locs 0 0 (MQ below (va_Qv (fun u : MS => u = (F_m_keepRule (x) (w)).2) (mAt dC dI h ad cI cJ cZ A) A) ([.ref h, .int (iI w)] : List Value).toArray s 0 0 A) (F0 m 0 ls []) := by
    intro H locs hP hS
    have hres : F_m_keepRule_s 300 0 (aU (x) 13 ((x).1 12).toNat ((x).1 10)) (w) ((0 : Int)) = F_m_keepRule (x) (w) := rfl
    refine lv_aload_n hx hb dX12_keepRule_0 rfl (lv_at hl 0 rfl) ?_
    refine va_get (D := (dC, dI)) (ci := 12) (v := .ref (ad 13)) (C := RX12) (T := TX12) (N := 34) hx hb hts hin hown hK hP 0 rfl rfl 13 (by decide) (hts (.fieldLink RX12 38 "LikeWordsModel" "leftSize" "[I") (by decide +kernel)) (fun _ h9 => h9) rfl dX12_keepRule_1 ?_
    refine lv_aload_n hx hb dX12_keepRule_4 rfl (lv_at hl 0 rfl) ?_
    refine va_get (D := (dC, dI)) (ci := 12) (v := .int (iI ((x).1 12))) (C := RX12) (T := TX12) (N := 34) hx hb hts hin hown hK hP 0 rfl rfl 12 (by decide) (hts (.fieldLink RX12 139 "LikeWordsModel" "rules" "I") (by decide +kernel)) (fun _ h9 => h9) rfl dX12_keepRule_5 ?_
    refine lv_aload_n hx hb dX12_keepRule_8 rfl (lv_at hl 0 rfl) ?_
    refine va_get (D := (dC, dI)) (ci := 12) (v := .int (iI ((x).1 10))) (C := RX12) (T := TX12) (N := 34) hx hb hts hin hown hK hP 0 rfl rfl 10 (by decide) (hts (.fieldLink RX12 119 "LikeWordsModel" "handSize" "I") (by decide +kernel)) (fun _ h9 => h9) rfl dX12_keepRule_9 ?_
    refine wi_iast (f := (x).2 13) hx hb hK hP hD hS 8 0 rfl rfl (i := (x).1 12) (x := (x).1 10) (by omega) (by omega) (by decide) dX12_keepRule_12 (fun H locs hP hD hS => ?_)
    rw [mW_a13] at hP hD
    refine lv_iconst (v := iI (0 : Int)) hx hb dX12_keepRule_13 (by decide) ?_
    refine lv_istore_n (lv' := [(2, .int (iI ((0 : Int)))), (0, .ref (h)), (1, .int (iI (w)))]) hx hb dX12_keepRule_14 rfl hl (by decide) rfl (fun ls hl => ?_)
    exact (L (300)).1 (aU (x) 13 ((x).1 12).toNat ((x).1 10)) ((0 : Int)) (by omega) (by omega) (sm_a (by decide) (sm_rf _ _ _)) (by omega) hres _ _ ls hP hD hS (lv_sub hl [1, 2, 0] rfl)
  exact key _ _ hP hS
theorem F_m_keepRule_sfr : ∀ n : Nat, (∀ (y : MS) (v0 : Int) (v1 : Int), same [10, 12] [9, 11, 13, 14, 15, 16] y (F_m_keepRule_s n 0 y v0 v1).2) ∧ (∀ (y : MS) (v0 : Int) (v1 : Int), same [10, 12] [9, 11, 13, 14, 15, 16] y (F_m_keepRule_s n 1 y v0 v1).2) := by
  intro n
  induction n with
  | zero => exact ⟨fun y _ _ => sm_rf _ _ _, fun y _ _ => sm_rf _ _ _⟩
  | succ n ih =>
    refine ⟨?_, ?_⟩
    · intro y w i
      rw [F_m_keepRule_e0]
      by_cases hc : ((y).1 10) ≤ (i)
      · rw [if_pos hc]
        exact sm_tr ((sm_a (by decide) (sm_tr (sm_tr (sm_rf _ _ _) (sm_mono (by decide) (by decide) (F_m_root_fr (y) (w)))) (sm_mono (by decide) (by decide) (F_m_layAny_fr ((F_m_root (y) (w)).2) ((F_m_root (y) (w)).1)))))) (ih.2 (aU ((F_m_layAny ((F_m_root (y) (w)).2) ((F_m_root (y) (w)).1)).2) 15 (((F_m_layAny ((F_m_root (y) (w)).2) ((F_m_root (y) (w)).1)).2).1 12).toNat (((F_m_layAny ((F_m_root (y) (w)).2) ((F_m_root (y) (w)).1)).2).1 10)) (w) ((0 : Int)))
      · rw [if_neg hc]
        exact sm_tr ((sm_a (by decide) (sm_rf _ _ _))) (ih.1 (aU (y) 14 ((((24 : Int)) * ((y).1 12)) + (i)).toNat (((y).2 11) (i).toNat)) (w) ((i) + (1 : Int)))
    · intro y w i
      rw [F_m_keepRule_e1]
      by_cases hc : ((y).1 10) ≤ (i)
      · rw [if_pos hc]
        exact (sm_s (by decide) (sm_rf _ _ _))
      · rw [if_neg hc]
        exact sm_tr ((sm_a (by decide) (sm_rf _ _ _))) (ih.2 (aU (y) 16 ((((24 : Int)) * ((y).1 12)) + (i)).toNat (((y).2 11) (i).toNat)) (w) ((i) + (1 : Int)))
theorem F_m_keepRule_fr (x : MS) (w : Int) : same [10, 12] [9, 11, 13, 14, 15, 16] x (F_m_keepRule (x) (w)).2 := by
  unfold F_m_keepRule
  exact sm_tr ((sm_a (by decide) (sm_rf _ _ _))) ((F_m_keepRule_sfr 300).1 (aU (x) 13 ((x).1 12).toNat ((x).1 10)) (w) ((0 : Int)))
