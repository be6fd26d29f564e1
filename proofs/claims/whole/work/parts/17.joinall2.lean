theorem iU_eq {f : Nat → Int} {k j : Nat} {v r : Int} (h1 : j = k → v = r) (h2 : j ≠ k → f j = r) : iU f k v j = r := by
  unfold iU
  split
  · rename_i e; exact h1 e
  · rename_i e; exact h2 e
theorem fR_up {y : MS} (h : fR y) {k : Nat} {v : Int} (hk : k < 64) (v0 : 0 ≤ v) (v1 : v ≤ 20000) (vz : k = 0 → v = 0) : fR (aU y 8 k v) := by
  refine ⟨?_, fun j hj => ?_⟩
  · show iU (y.2 8) k v 0 = 0
    unfold iU
    split
    · rename_i e; exact vz e.symm
    · exact h.1
  · show 0 ≤ iU (y.2 8) k v j ∧ iU (y.2 8) k v j ≤ 20000
    unfold iU
    split
    · exact ⟨v0, v1⟩
    · exact h.2 j hj
theorem F_m_joinOne_s_j : ∀ (n : Nat) (y : MS) (m f t w : Int), jOK y → 0 ≤ f → 0 ≤ t → m < 10001 → f ≤ w → jOK (F_m_joinOne_s n 0 y m f t w).2 := by
  intro n
  induction n with
  | zero => intro y m f t w hj _ _ _ _; exact hj
  | succ n ih =>
    intro y m f t w hj f0 t0 m1 w0
    rw [F_m_joinOne_e0]
    by_cases h1 : m < w
    · rw [if_pos h1]; exact hj
    · rw [if_neg h1]
      by_cases h2 : m < w - f + t
      · rw [if_pos h2]; exact ih _ _ _ _ _ hj f0 t0 m1 (by omega)
      · rw [if_neg h2]; exact ih _ _ _ _ _ (F_m_join_ok hj (by omega) (by omega) (by omega) (by omega)) f0 t0 m1 (by omega)
theorem F_m_joinOne_j {x : MS} {m f t : Int} (hj : jOK x) (f0 : 0 ≤ f) (t0 : 0 ≤ t) (m1 : m < 10001) : jOK (F_m_joinOne x m f t).2 := F_m_joinOne_s_j 20010 x m f t f hj f0 t0 m1 (Int.le_refl f)
def F_m_joinAll_s : Nat → Nat → MS → Int → Int → Int → Int → Int × MS
  | 0, _, x, _, _, _, _ => (0, x)
  | n + 1, t, x, p0, p1, p2, p3 => match t with
    | 0 => (fun (m0 : Int) (i : Int) => (if ((x).1 7) ≤ (i) then (if ((x).1 0) = ((1 : Int)) then F_m_joinAll_s n 1 (x) (m0) ((0 : Int)) (0) (0) else F_m_joinAll_s n 2 (x) (m0) ((0 : Int)) ((0 : Int)) (0)) else F_m_joinAll_s n 0 (aU (x) 9 (i).toNat (i)) (m0) ((i) + (1 : Int)) (0) (0))) p0 p1
    | 1 => (fun (m0 : Int) (i : Int) => (if ((x).1 3) ≤ (i) then (0, x) else F_m_joinAll_s n 1 ((F_m_joinOne (x) (m0) (((x).2 4) (((2 : Int)) * (i)).toNat) (((x).2 4) ((((2 : Int)) * (i)) + ((1 : Int))).toNat)).2) (m0) ((i) + (1 : Int)) (0) (0))) p0 p1
    | 2 => (fun (m0 : Int) (f : Int) (k : Int) => (if ((m0) + ((1 : Int))) < (k) then F_m_joinAll_s n 3 (aU (x) 8 ((m0) + ((1 : Int))).toNat ((x).1 7)) (m0) ((0 : Int)) (0) (0) else (if (k) ≤ (m0) then F_m_joinAll_s n 2 (aU (x) 8 (k).toNat (f)) (m0) ((f) + ((F_m_powerOf (aU (x) 8 (k).toNat (f)) (k)).1)) ((k) + (1 : Int)) (0) else F_m_joinAll_s n 2 (aU (x) 8 (k).toNat (f)) (m0) (f) ((k) + (1 : Int)) (0)))) p0 p1 p2
    | 3 => (fun (m0 : Int) (w : Int) => (if ((x).1 7) ≤ (w) then (0, x) else F_m_joinAll_s n 4 ((F_m_lay (x) (w)).2) (m0) (w) ((0 : Int)) (0))) p0 p1
    | 4 => (fun (m0 : Int) (w : Int) (g : Int) => (if ((x).1 3) ≤ (g) then F_m_joinAll_s n 3 (x) (m0) ((w) + (1 : Int)) (0) (0) else F_m_joinAll_s n 5 (x) (m0) (w) (g) ((0 : Int)))) p0 p1 p2
    | 5 => (fun (m0 : Int) (w : Int) (g : Int) (b : Int) => (if ((x).1 10) < ((b) + (((x).2 4) (((2 : Int)) * (g)).toNat)) then F_m_joinAll_s n 4 (x) (m0) (w) ((g) + (1 : Int)) (0) else (if ((F_m_changed (x) (g) (b) (m0)).1) = ((-9 : Int)) then F_m_joinAll_s n 5 (x) (m0) (w) (g) ((b) + (1 : Int)) else F_m_joinAll_s n 5 ((F_m_join (x) (w) ((F_m_changed (x) (g) (b) (m0)).1)).2) (m0) (w) (g) ((b) + (1 : Int))))) p0 p1 p2 p3
    | _ => (0, x)
theorem F_m_joinAll_e0 (n : Nat) (x : MS) (m0 : Int) (i : Int) (q0 : Int) (q1 : Int) : F_m_joinAll_s (n + 1) 0 x m0 i q0 q1 = (if ((x).1 7) ≤ (i) then (if ((x).1 0) = ((1 : Int)) then F_m_joinAll_s n 1 (x) (m0) ((0 : Int)) (0) (0) else F_m_joinAll_s n 2 (x) (m0) ((0 : Int)) ((0 : Int)) (0)) else F_m_joinAll_s n 0 (aU (x) 9 (i).toNat (i)) (m0) ((i) + (1 : Int)) (0) (0)) := rfl
theorem F_m_joinAll_e1 (n : Nat) (x : MS) (m0 : Int) (i : Int) (q0 : Int) (q1 : Int) : F_m_joinAll_s (n + 1) 1 x m0 i q0 q1 = (if ((x).1 3) ≤ (i) then (0, x) else F_m_joinAll_s n 1 ((F_m_joinOne (x) (m0) (((x).2 4) (((2 : Int)) * (i)).toNat) (((x).2 4) ((((2 : Int)) * (i)) + ((1 : Int))).toNat)).2) (m0) ((i) + (1 : Int)) (0) (0)) := rfl
theorem F_m_joinAll_e2 (n : Nat) (x : MS) (m0 : Int) (f : Int) (k : Int) (q0 : Int) : F_m_joinAll_s (n + 1) 2 x m0 f k q0 = (if ((m0) + ((1 : Int))) < (k) then F_m_joinAll_s n 3 (aU (x) 8 ((m0) + ((1 : Int))).toNat ((x).1 7)) (m0) ((0 : Int)) (0) (0) else (if (k) ≤ (m0) then F_m_joinAll_s n 2 (aU (x) 8 (k).toNat (f)) (m0) ((f) + ((F_m_powerOf (aU (x) 8 (k).toNat (f)) (k)).1)) ((k) + (1 : Int)) (0) else F_m_joinAll_s n 2 (aU (x) 8 (k).toNat (f)) (m0) (f) ((k) + (1 : Int)) (0))) := rfl
theorem F_m_joinAll_e3 (n : Nat) (x : MS) (m0 : Int) (w : Int) (q0 : Int) (q1 : Int) : F_m_joinAll_s (n + 1) 3 x m0 w q0 q1 = (if ((x).1 7) ≤ (w) then (0, x) else F_m_joinAll_s n 4 ((F_m_lay (x) (w)).2) (m0) (w) ((0 : Int)) (0)) := rfl
theorem F_m_joinAll_e4 (n : Nat) (x : MS) (m0 : Int) (w : Int) (g : Int) (q0 : Int) : F_m_joinAll_s (n + 1) 4 x m0 w g q0 = (if ((x).1 3) ≤ (g) then F_m_joinAll_s n 3 (x) (m0) ((w) + (1 : Int)) (0) (0) else F_m_joinAll_s n 5 (x) (m0) (w) (g) ((0 : Int))) := rfl
theorem F_m_joinAll_e5 (n : Nat) (x : MS) (m0 : Int) (w : Int) (g : Int) (b : Int) : F_m_joinAll_s (n + 1) 5 x m0 w g b = (if ((x).1 10) < ((b) + (((x).2 4) (((2 : Int)) * (g)).toNat)) then F_m_joinAll_s n 4 (x) (m0) (w) ((g) + (1 : Int)) (0) else (if ((F_m_changed (x) (g) (b) (m0)).1) = ((-9 : Int)) then F_m_joinAll_s n 5 (x) (m0) (w) (g) ((b) + (1 : Int)) else F_m_joinAll_s n 5 ((F_m_join (x) (w) ((F_m_changed (x) (g) (b) (m0)).1)).2) (m0) (w) (g) ((b) + (1 : Int)))) := rfl
def F_m_joinAll (x : MS) (m0 : Int) : Int × MS := F_m_joinAll_s 6300000 0 (x) (m0) ((0 : Int)) (0) (0)
set_option maxHeartbeats 4000000 in
set_option maxRecDepth 100000 in
/-- joinAll -/
theorem c_m_joinAll (l : Launch) (dC : Nat → ClassId) (dI : Nat → Nat → Nat) (h : Nat) (ad : Nat → Nat) (cI cJ cZ : ClassId) (sz : Nat) (x : MS) (m0 : Int) (m1 : 1 ≤ m0) (m2 : m0 ≤ 20) (lt : 1 ≤ x.1 0 ∧ x.1 0 ≤ 4) (n0 : 0 ≤ x.1 3) (n1 : x.1 3 ≤ 8) (hz : lzR x) (hw : lwR x) (lwL : ∀ l i : Int, 0 ≤ l → l < x.1 3 → 0 ≤ i → i < (x.2 4) (2 * l + 1).toNat → (x.2 5) (24 * l + 12 + i).toNat < x.1 0) (hall : x.1 7 = gS (x.1 0) (m0.toNat + 1)) (a2 : x.1 7 ≤ 10000) (hf : fR x) (hd : hdR x) (hj : jOK x) : Met l yX12_joinAll wsX12_joinAll ({ frames := 3, cells := 0, slots := 0, locals := 70 }) (mPc dC dI h ad cI cJ cZ sz x [.ref h, .int (iI m0)]) (va_Qv (fun u : MS => u = (F_m_joinAll (x) (m0)).2) (mAt dC dI h ad cI cJ cZ (va_A (mW h ad cI cJ cZ (x)) sz)) (va_A (mW h ad cI cJ cZ (x)) sz)) 0 0 (va_A (mW h ad cI cJ cZ (x)) sz) := by
  refine Met.ofW (cc := cX12_joinAll) (maxL := 7) (ret := none) (by decide) rfl ?_
  intro p e s m args below meth c s₁ B hml hv
  obtain ⟨rfl, hsz, hP, hK, hD0⟩ := hv
  have hx := B.exec
  have hb := B.bytes
  have hr := B.returns
  have hts := atoms_spec (ws := wsX12_joinAll) B.pre
  have hown : s.vm.findClass RX12 = some m.cls := findClass_of_methodNamed B.named
  have hlocks := B.notSynchronized
  have hin : ∀ w ∈ u_ws RX12 TX12 34, w ∈ wsX12_joinAll := by decide +kernel
  subst hsz
  have hD := hD0.self (sz := s.heap.size)
  generalize hAe : va_A (mW h ad cI cJ cZ (x)) s.heap.size = A at hD ⊢
  have hA : ∀ q : Nat, s.heap.size ≤ q → A q := fun q h => by rw [← hAe]; exact Or.inr h
  have hS : va_S A s.heap s.heap [] := va_S.rf
  have hl := lv_entry ([.ref h, .int (iI m0)]) (n := 7) (Nat.le_of_ble_eq_true rfl)
  rw [lg_entry_eq]
  generalize (lg_sl ([.ref h, .int (iI m0)]) ++ List.replicate (7 - (lg_sl ([.ref h, .int (iI m0)])).length) Slot.unset).toArray = ls at hl ⊢
  have hl : lv_has ls 7 [(0, .ref (h)), (1, .int (iI (m0)))] := hl
  have l0 := lt.1
  have l1 := lt.2
  have a0 := gS_nn l0 (m0.toNat + 1)
  have L : ∀ n : Nat, (∀ (y : MS) (i : Int), (same [] [9] x y) → (jOK y) → (0 ≤ i) → (i ≤ 10001) → (10001 - i + 6200000 < n) → F_m_joinAll_s n 0 y m0 i 0 0 = F_m_joinAll (x) (m0) → ∀ (H : Heap) (locs : List Loc) (ls : Array Slot), va_P (dC, dI) vwCl (mW h ad cI cJ cZ (y)) H → va_D A (mW h ad cI cJ cZ (y)) → va_S A s.heap H locs → lv_has ls 7 [(0, .ref (h)), (1, .int (iI (m0))), (2, .int (iI (i)))] → W p l e (headSpec wsX12_joinAll ({ frames := 3, cells := 0, slots := 0, locals := 70 })).room s m ([.ref h, .int (iI m0)] : List Value).toArray below meth c H locs 0 0 (MQ below (va_Qv (fun u : MS => u = (F_m_joinAll (x) (m0)).2) (mAt dC dI h ad cI cJ cZ A) A) ([.ref h, .int (iI m0)] : List Value).toArray s 0 0 A) (F0 m 2 ls [])) ∧ (∀ (y : MS) (i : Int), (same [] [9] x y) → (jOK y) → (0 ≤ i) → (i ≤ 8) → (8 - i + 10 < n) → F_m_joinAll_s n 1 y m0 i 0 0 = F_m_joinAll (x) (m0) → ∀ (H : Heap) (locs : List Loc) (ls : Array Slot), va_P (dC, dI) vwCl (mW h ad cI cJ cZ (y)) H → va_D A (mW h ad cI cJ cZ (y)) → va_S A s.heap H locs → lv_has ls 7 [(0, .ref (h)), (1, .int (iI (m0))), (2, .int (iI (i)))] → W p l e (headSpec wsX12_joinAll ({ frames := 3, cells := 0, slots := 0, locals := 70 })).room s m ([.ref h, .int (iI m0)] : List Value).toArray below meth c H locs 0 0 (MQ below (va_Qv (fun u : MS => u = (F_m_joinAll (x) (m0)).2) (mAt dC dI h ad cI cJ cZ A) A) ([.ref h, .int (iI m0)] : List Value).toArray s 0 0 A) (F0 m 33 ls [])) ∧ (∀ (y : MS) (f : Int) (k : Int), (same [] [8, 9] x y) → (jOK y) → (fR y) → (0 ≤ k) → (k ≤ m0 + 2) → (k ≤ m0 + 1 → f = gS (x.1 0) k.toNat) → (∀ j : Nat, (j : Int) < k → j ≤ m0.toNat + 1 → y.2 8 j = gS (x.1 0) j) → (22 - k + 6100000 < n) → F_m_joinAll_s n 2 y m0 f k 0 = F_m_joinAll (x) (m0) → ∀ (H : Heap) (locs : List Loc) (ls : Array Slot), va_P (dC, dI) vwCl (mW h ad cI cJ cZ (y)) H → va_D A (mW h ad cI cJ cZ (y)) → va_S A s.heap H locs → lv_has ls 7 [(0, .ref (h)), (1, .int (iI (m0))), (2, .int (iI (f))), (3, .int (iI (k)))] → W p l e (headSpec wsX12_joinAll ({ frames := 3, cells := 0, slots := 0, locals := 70 })).room s m ([.ref h, .int (iI m0)] : List Value).toArray below meth c H locs 0 0 (MQ below (va_Qv (fun u : MS => u = (F_m_joinAll (x) (m0)).2) (mAt dC dI h ad cI cJ cZ A) A) ([.ref h, .int (iI m0)] : List Value).toArray s 0 0 A) (F0 m 76 ls [])) ∧ (∀ (y : MS) (w : Int), (same [10] [8, 9, 11] x y) → (jOK y) → (fR y) → (∀ j : Nat, j ≤ m0.toNat + 1 → y.2 8 j = gS (x.1 0) j) → (hdR y) → (0 ≤ w) → (w ≤ 10001) → ((10001 - w) * 600 + 10 < n) → F_m_joinAll_s n 3 y m0 w 0 0 = F_m_joinAll (x) (m0) → ∀ (H : Heap) (locs : List Loc) (ls : Array Slot), va_P (dC, dI) vwCl (mW h ad cI cJ cZ (y)) H → va_D A (mW h ad cI cJ cZ (y)) → va_S A s.heap H locs → lv_has ls 7 [(0, .ref (h)), (1, .int (iI (m0))), (3, .int (iI (w)))] → W p l e (headSpec wsX12_joinAll ({ frames := 3, cells := 0, slots := 0, locals := 70 })).room s m ([.ref h, .int (iI m0)] : List Value).toArray below meth c H locs 0 0 (MQ below (va_Qv (fun u : MS => u = (F_m_joinAll (x) (m0)).2) (mAt dC dI h ad cI cJ cZ A) A) ([.ref h, .int (iI m0)] : List Value).toArray s 0 0 A) (F0 m 127 ls [])) ∧ (∀ (y : MS) (w : Int) (g : Int), (same [10] [8, 9, 11] x y) → (jOK y) → (fR y) → (∀ j : Nat, j ≤ m0.toNat + 1 → y.2 8 j = gS (x.1 0) j) → (hdR y) → (0 ≤ y.1 10) → (y.1 10 ≤ 60) → (∀ k : Nat, (k : Int) < y.1 10 → 0 ≤ y.2 11 k ∧ y.2 11 k < x.1 0) → (0 ≤ w) → (w < x.1 7) → (w ≤ 10000) → (0 ≤ g) → (g ≤ 8) → ((10000 - w) * 600 + (8 - g) * 70 + 20 < n) → F_m_joinAll_s n 4 y m0 w g 0 = F_m_joinAll (x) (m0) → ∀ (H : Heap) (locs : List Loc) (ls : Array Slot), va_P (dC, dI) vwCl (mW h ad cI cJ cZ (y)) H → va_D A (mW h ad cI cJ cZ (y)) → va_S A s.heap H locs → lv_has ls 7 [(0, .ref (h)), (1, .int (iI (m0))), (3, .int (iI (w))), (4, .int (iI (g)))] → W p l e (headSpec wsX12_joinAll ({ frames := 3, cells := 0, slots := 0, locals := 70 })).room s m ([.ref h, .int (iI m0)] : List Value).toArray below meth c H locs 0 0 (MQ below (va_Qv (fun u : MS => u = (F_m_joinAll (x) (m0)).2) (mAt dC dI h ad cI cJ cZ A) A) ([.ref h, .int (iI m0)] : List Value).toArray s 0 0 A) (F0 m 143 ls [])) ∧ (∀ (y : MS) (w : Int) (g : Int) (b : Int), (same [10] [8, 9, 11] x y) → (jOK y) → (fR y) → (∀ j : Nat, j ≤ m0.toNat + 1 → y.2 8 j = gS (x.1 0) j) → (hdR y) → (0 ≤ y.1 10) → (y.1 10 ≤ 60) → (∀ k : Nat, (k : Int) < y.1 10 → 0 ≤ y.2 11 k ∧ y.2 11 k < x.1 0) → (0 ≤ w) → (w < x.1 7) → (w ≤ 10000) → (0 ≤ g) → (g < x.1 3) → (0 ≤ b) → (b ≤ 61) → ((10000 - w) * 600 + (7 - g) * 70 + (61 - b) + 21 < n) → F_m_joinAll_s n 5 y m0 w g b = F_m_joinAll (x) (m0) → ∀ (H : Heap) (locs : List Loc) (ls : Array Slot), va_P (dC, dI) vwCl (mW h ad cI cJ cZ (y)) H → va_D A (mW h ad cI cJ cZ (y)) → va_S A s.heap H locs → lv_has ls 7 [(0, .ref (h)), (1, .int (iI (m0))), (3, .int (iI (w))), (4, .int (iI (g))), (5, .int (iI (b)))] → W p l e (headSpec wsX12_joinAll ({ frames := 3, cells := 0, slots := 0, locals := 70 })).room s m ([.ref h, .int (iI m0)] : List Value).toArray below meth c H locs 0 0 (MQ below (va_Qv (fun u : MS => u = (F_m_joinAll (x) (m0)).2) (mAt dC dI h ad cI cJ cZ A) A) ([.ref h, .int (iI m0)] : List Value).toArray s 0 0 A) (F0 m 155 ls [])) := by
    intro n
    induction n with
    | zero =>
      refine ⟨?_, ?_, ?_, ?_, ?_, ?_⟩
      · intro y i sm jy i0 i1 fu hres
        exact absurd fu (by omega)
      · intro y i sm jy i0 i1 fu hres
        exact absurd fu (by omega)
      · intro y f k sm jy fry k0 k1 fk fe fu hres
        exact absurd fu (by omega)
      · intro y w sm jy fry fx hdy w0 w2 fu hres
        exact absurd fu (by omega)
      · intro y w g sm jy fry fx hdy hh0 hh1 dig w0 w1 w2 g0 g1 fu hres
        exact absurd fu (by omega)
      · intro y w g b sm jy fry fx hdy hh0 hh1 dig w0 w1 w2 g0 g1 b0 b1 fu hres
        exact absurd fu (by omega)
    | succ n ih =>
      refine ⟨?_, ?_, ?_, ?_, ?_, ?_⟩
      · intro y i sm jy i0 i1 fu hres H locs ls hP hD hS hl
        rw [F_m_joinAll_e0] at hres
        have s0 := sm.1 0 (by decide)
        have s7 := sm.1 7 (by decide)
        refine lv_iload_n hx hb dX12_joinAll_2 rfl (lv_at hl 2 rfl) ?_
        refine lv_aload_n hx hb dX12_joinAll_3 rfl (lv_at hl 0 rfl) ?_
        refine va_get (D := (dC, dI)) (ci := 12) (v := .int (iI ((y).1 7))) (C := RX12) (T := TX12) (N := 34) hx hb hts hin hown hK hP 0 rfl rfl 7 (by decide) (hts (.fieldLink RX12 122 "LikeWordsModel" "all" "I") (by decide +kernel)) (fun _ h9 => h9) rfl dX12_joinAll_4 ?_
        refine wi_icmp_ge (tgt := 23) hx hb (by first | assumption | (unfold iR; omega) | exact F_R01 (by assumption)) (by first | assumption | (unfold iR; omega) | exact F_R01 (by assumption)) dX12_joinAll_7 (by decide) (fun c_7 => ?_) (fun c_7 => ?_)
        · skip
          rw [if_pos c_7] at hres
          refine lv_aload_n hx hb dX12_joinAll_23 rfl (lv_at hl 0 rfl) ?_
          refine va_get (D := (dC, dI)) (ci := 12) (v := .int (iI ((y).1 0))) (C := RX12) (T := TX12) (N := 34) hx hb hts hin hown hK hP 0 rfl rfl 0 (by decide) (hts (.fieldLink RX12 7 "LikeWordsModel" "letters" "I") (by decide +kernel)) (fun _ h9 => h9) rfl dX12_joinAll_24 ?_
          refine lv_iconst (v := iI (1 : Int)) hx hb dX12_joinAll_27 (by decide) ?_
          refine wi_icmp_ne (tgt := 72) hx hb (by first | assumption | (unfold iR; omega) | exact F_R01 (by assumption)) ⟨by decide, by decide⟩ dX12_joinAll_28 (by decide) (fun c_28 => ?_) (fun c_28 => ?_)
          · skip
            rw [if_neg c_28] at hres
            refine lv_iconst (v := iI (0 : Int)) hx hb dX12_joinAll_72 (by decide) ?_
            refine lv_istore_n (lv' := [(2, .int (iI ((0 : Int)))), (0, .ref (h)), (1, .int (iI (m0)))]) hx hb dX12_joinAll_73 rfl hl (by decide) rfl (fun ls hl => ?_)
            refine lv_iconst (v := iI (0 : Int)) hx hb dX12_joinAll_74 (by decide) ?_
            refine lv_istore_n (lv' := [(3, .int (iI ((0 : Int)))), (2, .int (iI ((0 : Int)))), (0, .ref (h)), (1, .int (iI (m0)))]) hx hb dX12_joinAll_75 rfl hl (by decide) rfl (fun ls hl => ?_)
            exact ih.2.2.1 (y) ((0 : Int)) ((0 : Int)) (sm_mono (by decide) (by decide) sm) (jy) (by unfold fR; rw [sm.2 8 (by decide)]; exact hf) (by omega) (by omega) (by intro _; rfl) (by intro j hj1 _; exact absurd hj1 (by omega)) (by omega) hres _ _ ls hP hD hS (lv_sub hl [2, 3, 1, 0] rfl)
          · skip
            rw [if_pos c_28] at hres
            refine lv_iconst (v := iI (0 : Int)) hx hb dX12_joinAll_31 (by decide) ?_
            refine lv_istore_n (lv' := [(2, .int (iI ((0 : Int)))), (0, .ref (h)), (1, .int (iI (m0)))]) hx hb dX12_joinAll_32 rfl hl (by decide) rfl (fun ls hl => ?_)
            exact ih.2.1 (y) ((0 : Int)) (sm) (jy) (by omega) (by omega) (by omega) hres _ _ ls hP hD hS (lv_sub hl [1, 2, 0] rfl)
        · skip
          rw [if_neg c_7] at hres
          refine lv_aload_n hx hb dX12_joinAll_10 rfl (lv_at hl 0 rfl) ?_
          refine va_get (D := (dC, dI)) (ci := 12) (v := .ref (ad 9)) (C := RX12) (T := TX12) (N := 34) hx hb hts hin hown hK hP 0 rfl rfl 9 (by decide) (hts (.fieldLink RX12 32 "LikeWordsModel" "joined" "[I") (by decide +kernel)) (fun _ h9 => h9) rfl dX12_joinAll_11 ?_
          refine lv_iload_n hx hb dX12_joinAll_14 rfl (lv_at hl 2 rfl) ?_
          refine lv_iload_n hx hb dX12_joinAll_15 rfl (lv_at hl 2 rfl) ?_
          refine wi_iast (f := (y).2 9) hx hb hK hP hD hS 6 0 rfl rfl (i := i) (x := i) (by omega) (by omega) (by decide) dX12_joinAll_16 (fun H locs hP hD hS => ?_)
          rw [mW_a9] at hP hD
          refine lv_iinc (v := iI ((i) + (1 : Int))) (lv' := [(2, .int (iI ((i) + (1 : Int)))), (0, .ref (h)), (1, .int (iI (m0)))]) hx hb dX12_joinAll_17 hl (k := 2) rfl (iI_add _ _) (by decide) rfl (fun ls hl => ?_)
          refine lv_goto (tgt := 2) hx hb dX12_joinAll_20 (by decide) ?_
          exact ih.1 (aU (y) 9 (i).toNat (i)) ((i) + (1 : Int)) (sm_a (by decide) sm) (jOK_up jy i0 (by omega)) (by omega) (by omega) (by omega) hres _ _ ls hP hD hS (lv_sub hl [1, 2, 0] rfl)
      · intro y i sm jy i0 i1 fu hres H locs ls hP hD hS hl
        rw [F_m_joinAll_e1] at hres
        have s0 := sm.1 0 (by decide)
        have s3 := sm.1 3 (by decide)
        have t4 := sm.2 4 (by decide)
        refine lv_iload_n hx hb dX12_joinAll_33 rfl (lv_at hl 2 rfl) ?_
        refine lv_aload_n hx hb dX12_joinAll_34 rfl (lv_at hl 0 rfl) ?_
        refine va_get (D := (dC, dI)) (ci := 12) (v := .int (iI ((y).1 3))) (C := RX12) (T := TX12) (N := 34) hx hb hts hin hown hK hP 0 rfl rfl 3 (by decide) (hts (.fieldLink RX12 99 "LikeWordsModel" "laws" "I") (by decide +kernel)) (fun _ h9 => h9) rfl dX12_joinAll_35 ?_
        refine wi_icmp_ge (tgt := 71) hx hb (by first | assumption | (unfold iR; omega) | exact F_R01 (by assumption)) (by first | assumption | (unfold iR; omega) | exact F_R01 (by assumption)) dX12_joinAll_38 (by decide) (fun c_38 => ?_) (fun c_38 => ?_)
        · skip
          rw [if_pos c_38] at hres
          exact W.vret hx hb hr (fun t ht hW => ⟨⟨y, rfl, (by have h9 := congrArg (fun z : Int × MS => z.2) hres; exact h9), by rw [ht]; exact hP, va_K.moved hW.alike hK, hD⟩, hS.F ht⟩) hS.2.2 dX12_joinAll_71
        · skip
          rw [if_neg c_38] at hres
          have z9 := hz (2 * i).toNat (by omega)
          have z8 := hz (2 * i + 1).toNat (by omega)
          rw [← t4] at z9 z8
          refine lv_aload_n hx hb dX12_joinAll_41 rfl (lv_at hl 0 rfl) ?_
          refine lv_iload_n hx hb dX12_joinAll_42 rfl (lv_at hl 1 rfl) ?_
          refine lv_aload_n hx hb dX12_joinAll_43 rfl (lv_at hl 0 rfl) ?_
          refine va_get (D := (dC, dI)) (ci := 12) (v := .ref (ad 4)) (C := RX12) (T := TX12) (N := 34) hx hb hts hin hown hK hP 0 rfl rfl 4 (by decide) (hts (.fieldLink RX12 20 "LikeWordsModel" "lawSize" "[I") (by decide +kernel)) (fun _ h9 => h9) rfl dX12_joinAll_44 ?_
          refine lv_iconst (v := iI (2 : Int)) hx hb dX12_joinAll_47 (by decide) ?_
          refine lv_iload_n hx hb dX12_joinAll_48 rfl (lv_at hl 2 rfl) ?_
          refine wi_imul hx hb dX12_joinAll_49 ?_
          refine wi_iald (f := (y).2 4) hx hb hK hP 3 0 rfl rfl (i := ((2 : Int)) * (i)) (by omega) (by omega) (by decide) dX12_joinAll_50 ?_
          refine lv_aload_n hx hb dX12_joinAll_51 rfl (lv_at hl 0 rfl) ?_
          refine va_get (D := (dC, dI)) (ci := 12) (v := .ref (ad 4)) (C := RX12) (T := TX12) (N := 34) hx hb hts hin hown hK hP 0 rfl rfl 4 (by decide) (hts (.fieldLink RX12 20 "LikeWordsModel" "lawSize" "[I") (by decide +kernel)) (fun _ h9 => h9) rfl dX12_joinAll_52 ?_
          refine lv_iconst (v := iI (2 : Int)) hx hb dX12_joinAll_55 (by decide) ?_
          refine lv_iload_n hx hb dX12_joinAll_56 rfl (lv_at hl 2 rfl) ?_
          refine wi_imul hx hb dX12_joinAll_57 ?_
          refine lv_iconst (v := iI (1 : Int)) hx hb dX12_joinAll_58 (by decide) ?_
          refine wi_iadd hx hb dX12_joinAll_59 ?_
          refine wi_iald (f := (y).2 4) hx hb hK hP 3 0 rfl rfl (i := (((2 : Int)) * (i)) + ((1 : Int))) (by omega) (by omega) (by decide) dX12_joinAll_60 ?_
          have hFc : ∀ q, va_A (mW h ad cI cJ cZ (y)) H.size q → A q := fun q hq => Or.elim hq (fun ⟨k, e, hk⟩ => hD.2 k (q, e) hk) (fun hk => hA q (Nat.le_trans hS.1 hk))
          refine va_calli (va_runV (As := [.int (iI (m0)), .int (iI (((y).2 4) (((2 : Int)) * (i)).toNat)), .int (iI (((y).2 4) ((((2 : Int)) * (i)) + ((1 : Int))).toNat))]) (rest := []) ⟨hx, hb, hml, hown, hts⟩ (c_m_joinOne l dC dI h ad cI cJ cZ H.size (y) (m0) (((y).2 4) (((2 : Int)) * (i)).toNat) (((y).2 4) ((((2 : Int)) * (i)) + ((1 : Int))).toNat) (by omega) (by omega) z9.1 (by omega) z8.1 (by omega) jy) (cwV 3 hts gX12_joinAll_X12_joinOne rfl rfl rfl (by decide +kernel) ⟨Nat.le_of_ble_eq_true rfl, Nat.le_of_ble_eq_true rfl⟩) ⟨fun a U g mk q => by obtain ⟨q0, q1, qP, qK, qD⟩ := q; exact ⟨q0, q1, qP, va_K.moved (u := U) (U := U.calling g mk a) (Vm.Alike.refl U.vm) qK, qD⟩, va_recv hK hP (ci := 12) (q0 := 0) rfl rfl, fun U hU hW => ⟨rfl, by rw [hU], by rw [hU]; exact hP, va_K.moved hW.alike hK, hD.weaken (fun _ _ _ _ => trivial)⟩⟩ rfl rfl hl.1 rfl (lv_room (Nat.le_of_ble_eq_true rfl)) dX12_joinAll_61 ⟨Nat.le_of_ble_eq_true rfl, Nat.le_of_ble_eq_true rfl⟩) hS (fun q _ h => hFc q h) hFc (fun r9 u9 t H1 locs ht hvm hw hB hz1 hk1 hS => ?_)
          obtain ⟨hP1, hK1, hD1⟩ := hB
          rw [ht] at hP1
          obtain ⟨hw1, hw2⟩ := hw
          rw [hw2] at hP1 hD1
          rw [hw1]
          have hD2 := hD1.weaken (B := A) (fun _ q _ h => hFc q.1 h)
          have hP := hP1
          have hD := hD2
          generalize H1 = H at hP hS ⊢
          refine lv_istore_n (lv' := [(3, .int (iI ((F_m_joinOne (y) (m0) (((y).2 4) (((2 : Int)) * (i)).toNat) (((y).2 4) ((((2 : Int)) * (i)) + ((1 : Int))).toNat)).1))), (0, .ref (h)), (1, .int (iI (m0))), (2, .int (iI (i)))]) hx hb dX12_joinAll_64 rfl hl (by decide) rfl (fun ls hl => ?_)
          refine lv_iinc (v := iI ((i) + (1 : Int))) (lv' := [(2, .int (iI ((i) + (1 : Int)))), (3, .int (iI ((F_m_joinOne (y) (m0) (((y).2 4) (((2 : Int)) * (i)).toNat) (((y).2 4) ((((2 : Int)) * (i)) + ((1 : Int))).toNat)).1))), (0, .ref (h)), (1, .int (iI (m0)))]) hx hb dX12_joinAll_65 hl (k := 3) rfl (iI_add _ _) (by decide) rfl (fun ls hl => ?_)
          refine lv_goto (tgt := 33) hx hb dX12_joinAll_68 (by decide) ?_
          exact ih.2.1 ((F_m_joinOne (y) (m0) (((y).2 4) (((2 : Int)) * (i)).toNat) (((y).2 4) ((((2 : Int)) * (i)) + ((1 : Int))).toNat)).2) ((i) + (1 : Int)) (sm_tr sm (sm_mono (by decide) (by decide) (F_m_joinOne_fr _ _ _ _))) (F_m_joinOne_j jy z9.1 z8.1 (by omega)) (by omega) (by omega) (by omega) hres _ _ ls hP hD hS (lv_sub hl [2, 3, 0] rfl)
      · intro y f k sm jy fry k0 k1 fk fe fu hres H locs ls hP hD hS hl
        rw [F_m_joinAll_e2] at hres
        have s0 := sm.1 0 (by decide)
        have s7 := sm.1 7 (by decide)
        have t11 := sm.2 11 (by decide)
        refine lv_iload_n hx hb dX12_joinAll_76 rfl (lv_at hl 3 rfl) ?_
        refine lv_iload_n hx hb dX12_joinAll_77 rfl (lv_at hl 1 rfl) ?_
        refine lv_iconst (v := iI (1 : Int)) hx hb dX12_joinAll_78 (by decide) ?_
        refine wi_iadd hx hb dX12_joinAll_79 ?_
        refine wi_icmp_gt (tgt := 113) hx hb (by first | assumption | (unfold iR; omega) | exact F_R01 (by assumption)) (by first | assumption | (unfold iR; omega) | exact F_R01 (by assumption)) dX12_joinAll_80 (by decide) (fun c_80 => ?_) (fun c_80 => ?_)
        · skip
          rw [if_pos c_80] at hres
          refine lv_aload_n hx hb dX12_joinAll_113 rfl (lv_at hl 0 rfl) ?_
          refine va_get (D := (dC, dI)) (ci := 12) (v := .ref (ad 8)) (C := RX12) (T := TX12) (N := 34) hx hb hts hin hown hK hP 0 rfl rfl 8 (by decide) (hts (.fieldLink RX12 29 "LikeWordsModel" "first" "[I") (by decide +kernel)) (fun _ h9 => h9) rfl dX12_joinAll_114 ?_
          refine lv_iload_n hx hb dX12_joinAll_117 rfl (lv_at hl 1 rfl) ?_
          refine lv_iconst (v := iI (1 : Int)) hx hb dX12_joinAll_118 (by decide) ?_
          refine wi_iadd hx hb dX12_joinAll_119 ?_
          refine lv_aload_n hx hb dX12_joinAll_120 rfl (lv_at hl 0 rfl) ?_
          refine va_get (D := (dC, dI)) (ci := 12) (v := .int (iI ((y).1 7))) (C := RX12) (T := TX12) (N := 34) hx hb hts hin hown hK hP 0 rfl rfl 7 (by decide) (hts (.fieldLink RX12 122 "LikeWordsModel" "all" "I") (by decide +kernel)) (fun _ h9 => h9) rfl dX12_joinAll_121 ?_
          refine wi_iast (f := (y).2 8) hx hb hK hP hD hS 5 0 rfl rfl (i := (m0) + ((1 : Int))) (x := (y).1 7) (by omega) (by omega) (by decide) dX12_joinAll_124 (fun H locs hP hD hS => ?_)
          rw [mW_a8] at hP hD
          refine lv_iconst (v := iI (0 : Int)) hx hb dX12_joinAll_125 (by decide) ?_
          refine lv_istore_n (lv' := [(3, .int (iI ((0 : Int)))), (0, .ref (h)), (1, .int (iI (m0))), (2, .int (iI (f)))]) hx hb dX12_joinAll_126 rfl hl (by decide) rfl (fun ls hl => ?_)
          exact ih.2.2.2.1 (aU (y) 8 ((m0) + ((1 : Int))).toNat ((y).1 7)) ((0 : Int)) (sm_mono (by decide) (by decide) (sm_a (k := 8) (by decide) sm)) (jy) (fR_up fry (by omega) (by omega) (by omega) (by intro h9; omega)) (fun j hj1 => iU_eq (fun e9 => by rw [s7, hall, e9]; congr 1; omega) (fun h9 => fe j (by omega) hj1)) (by unfold hdR; rw [show (aU (y) 8 ((m0) + ((1 : Int))).toNat ((y).1 7)).2 11 = y.2 11 from rfl, t11]; exact hd) (by omega) (by omega) (by omega) hres _ _ ls hP hD hS (lv_sub hl [1, 2, 0] rfl)
        · skip
          rw [if_neg c_80] at hres
          have fk9 := fk (by omega)
          have fb9 := gS_mono l0 (show k.toNat ≤ m0.toNat + 1 by omega)
          have fb : 0 ≤ f ∧ f ≤ 20000 := by have := gS_nn l0 k.toNat; omega
          have fb0 : k.toNat = 0 → f = 0 := by intro h9; rw [fk9, h9]; rfl
          refine lv_aload_n hx hb dX12_joinAll_83 rfl (lv_at hl 0 rfl) ?_
          refine va_get (D := (dC, dI)) (ci := 12) (v := .ref (ad 8)) (C := RX12) (T := TX12) (N := 34) hx hb hts hin hown hK hP 0 rfl rfl 8 (by decide) (hts (.fieldLink RX12 29 "LikeWordsModel" "first" "[I") (by decide +kernel)) (fun _ h9 => h9) rfl dX12_joinAll_84 ?_
          refine lv_iload_n hx hb dX12_joinAll_87 rfl (lv_at hl 3 rfl) ?_
          refine lv_iload_n hx hb dX12_joinAll_88 rfl (lv_at hl 2 rfl) ?_
          refine wi_iast (f := (y).2 8) hx hb hK hP hD hS 5 0 rfl rfl (i := k) (x := f) (by omega) (by omega) (by decide) dX12_joinAll_89 (fun H locs hP hD hS => ?_)
          rw [mW_a8] at hP hD
          refine lv_iload_n hx hb dX12_joinAll_90 rfl (lv_at hl 3 rfl) ?_
          refine lv_iload_n hx hb dX12_joinAll_91 rfl (lv_at hl 1 rfl) ?_
          refine wi_icmp_le (tgt := 99) hx hb (by first | assumption | (unfold iR; omega) | exact F_R01 (by assumption)) (by first | assumption | (unfold iR; omega) | exact F_R01 (by assumption)) dX12_joinAll_92 (by decide) (fun c_92 => ?_) (fun c_92 => ?_)
          · skip
            rw [if_pos c_92] at hres
            refine lv_iload_n hx hb dX12_joinAll_99 rfl (lv_at hl 2 rfl) ?_
            refine lv_aload_n hx hb dX12_joinAll_100 rfl (lv_at hl 0 rfl) ?_
            refine lv_iload_n hx hb dX12_joinAll_101 rfl (lv_at hl 3 rfl) ?_
            have hFc : ∀ q, va_A (mW h ad cI cJ cZ (aU (y) 8 (k).toNat (f))) H.size q → A q := fun q hq => Or.elim hq (fun ⟨k, e, hk⟩ => hD.2 k (q, e) hk) (fun hk => hA q (Nat.le_trans hS.1 hk))
            refine va_calli (va_runV (As := [.int (iI (k))]) (rest := [.int (iI (f))]) ⟨hx, hb, hml, hown, hts⟩ (c_m_powerOf l dC dI h ad cI cJ cZ H.size (aU (y) 8 (k).toNat (f)) (k) (by omega) (by unfold iR; omega)) (cwV 1 hts gX12_joinAll_X12_powerOf rfl rfl rfl (by decide +kernel) ⟨Nat.le_of_ble_eq_true rfl, Nat.le_of_ble_eq_true rfl⟩) ⟨fun a U g mk q => by obtain ⟨q0, q1, qP, qK, qD⟩ := q; exact ⟨q0, q1, qP, va_K.moved (u := U) (U := U.calling g mk a) (Vm.Alike.refl U.vm) qK, qD⟩, va_recv hK hP (ci := 12) (q0 := 0) rfl rfl, fun U hU hW => ⟨rfl, by rw [hU], by rw [hU]; exact hP, va_K.moved hW.alike hK, hD.weaken (fun _ _ _ _ => trivial)⟩⟩ rfl rfl hl.1 rfl (lv_room (Nat.le_of_ble_eq_true rfl)) dX12_joinAll_102 ⟨Nat.le_of_ble_eq_true rfl, Nat.le_of_ble_eq_true rfl⟩) hS (fun q _ h => hFc q h) hFc (fun r9 u9 t H1 locs ht hvm hw hB hz1 hk1 hS => ?_)
            obtain ⟨hP1, hK1, hD1⟩ := hB
            rw [ht] at hP1
            obtain ⟨hw1, hw2⟩ := hw
            rw [hw2] at hP1 hD1
            rw [hw1]
            rw [F_m_powerOf_2] at hP1 hD1
            have hD2 := hD1.weaken (B := A) (fun _ q _ h => hFc q.1 h)
            have hP := hP1
            have hD := hD2
            generalize H1 = H at hP hS ⊢
            refine wi_iadd hx hb dX12_joinAll_105 ?_
            refine lv_istore_n (lv' := [(2, .int (iI ((f) + ((F_m_powerOf (aU (y) 8 (k).toNat (f)) (k)).1)))), (0, .ref (h)), (1, .int (iI (m0))), (3, .int (iI (k)))]) hx hb dX12_joinAll_106 rfl hl (by decide) rfl (fun ls hl => ?_)
            refine lv_iinc (v := iI ((k) + (1 : Int))) (lv' := [(3, .int (iI ((k) + (1 : Int)))), (2, .int (iI ((f) + ((F_m_powerOf (aU (y) 8 (k).toNat (f)) (k)).1)))), (0, .ref (h)), (1, .int (iI (m0)))]) hx hb dX12_joinAll_107 hl (k := 3) rfl (iI_add _ _) (by decide) rfl (fun ls hl => ?_)
            refine lv_goto (tgt := 76) hx hb dX12_joinAll_110 (by decide) ?_
            exact ih.2.2.1 (aU (y) 8 (k).toNat (f)) ((f) + ((F_m_powerOf (aU (y) 8 (k).toNat (f)) (k)).1)) ((k) + (1 : Int)) (sm_a (by decide) sm) (jy) (fR_up fry (by omega) fb.1 fb.2 fb0) (by omega) (by omega) (by intro hk9; rw [F_m_powerOf_v _ (by omega) (by omega)]; have e9 : (k + 1).toNat = k.toNat + 1 := (by omega); rw [e9]; show f + gP (y.1 0) k.toNat = gS (x.1 0) k.toNat + gP (x.1 0) k.toNat; rw [s0, ← fk9]) (fun j hj1 hj2 => iU_eq (fun e9 => by rw [e9]; exact fk9) (fun h9 => fe j (by omega) hj2)) (by omega) hres _ _ ls hP hD hS (lv_sub hl [2, 3, 1, 0] rfl)
          · skip
            rw [if_neg c_92] at hres
            refine lv_iload_n hx hb dX12_joinAll_95 rfl (lv_at hl 2 rfl) ?_
            refine lv_goto (tgt := 106) hx hb dX12_joinAll_96 (by decide) ?_
            refine lv_istore_n (lv' := [(2, .int (iI (f))), (0, .ref (h)), (1, .int (iI (m0))), (3, .int (iI (k)))]) hx hb dX12_joinAll_106 rfl hl (by decide) rfl (fun ls hl => ?_)
            refine lv_iinc (v := iI ((k) + (1 : Int))) (lv' := [(3, .int (iI ((k) + (1 : Int)))), (2, .int (iI (f))), (0, .ref (h)), (1, .int (iI (m0)))]) hx hb dX12_joinAll_107 hl (k := 3) rfl (iI_add _ _) (by decide) rfl (fun ls hl => ?_)
            refine lv_goto (tgt := 76) hx hb dX12_joinAll_110 (by decide) ?_
            exact ih.2.2.1 (aU (y) 8 (k).toNat (f)) (f) ((k) + (1 : Int)) (sm_a (by decide) sm) (jy) (fR_up fry (by omega) fb.1 fb.2 fb0) (by omega) (by omega) (by intro hk9; omega) (fun j hj1 hj2 => iU_eq (fun e9 => by rw [e9]; exact fk9) (fun h9 => fe j (by omega) hj2)) (by omega) hres _ _ ls hP hD hS (lv_sub hl [2, 3, 1, 0] rfl)
      · intro y w sm jy fry fx hdy w0 w2 fu hres H locs ls hP hD hS hl
        rw [F_m_joinAll_e3] at hres
        have s0 := sm.1 0 (by decide)
        have s3 := sm.1 3 (by decide)
        have s7 := sm.1 7 (by decide)
        have t4 := sm.2 4 (by decide)
        have t5 := sm.2 5 (by decide)
        refine lv_iload_n hx hb dX12_joinAll_127 rfl (lv_at hl 2 rfl) ?_
        refine lv_aload_n hx hb dX12_joinAll_128 rfl (lv_at hl 0 rfl) ?_
        refine va_get (D := (dC, dI)) (ci := 12) (v := .int (iI ((y).1 7))) (C := RX12) (T := TX12) (N := 34) hx hb hts hin hown hK hP 0 rfl rfl 7 (by decide) (hts (.fieldLink RX12 122 "LikeWordsModel" "all" "I") (by decide +kernel)) (fun _ h9 => h9) rfl dX12_joinAll_129 ?_
        refine wi_icmp_ge (tgt := 217) hx hb (by first | assumption | (unfold iR; omega) | exact F_R01 (by assumption)) (by first | assumption | (unfold iR; omega) | exact F_R01 (by assumption)) dX12_joinAll_132 (by decide) (fun c_132 => ?_) (fun c_132 => ?_)
        · skip
          rw [if_pos c_132] at hres
          exact W.vret hx hb hr (fun t ht hW => ⟨⟨y, rfl, (by have h9 := congrArg (fun z : Int × MS => z.2) hres; exact h9), by rw [ht]; exact hP, va_K.moved hW.alike hK, hD⟩, hS.F ht⟩) hS.2.2 dX12_joinAll_217
        · skip
          rw [if_neg c_132] at hres
          have hK9 : w < y.2 8 (m0.toNat + 1) := by rw [fx _ (Nat.le_refl _), ← hall]; omega
          have lv := F_m_lay_v (K := m0.toNat + 1) (by omega) (by omega) hK9 (by rw [fry.1]; exact w0)
          have lh := F_m_lay_h (K := m0.toNat + 1) (by omega) (by omega) hK9 (by omega) (by omega) hdy
          have lf := F_m_lay_fr y w
          refine lv_aload_n hx hb dX12_joinAll_135 rfl (lv_at hl 0 rfl) ?_
          refine lv_iload_n hx hb dX12_joinAll_136 rfl (lv_at hl 2 rfl) ?_
          have hFc : ∀ q, va_A (mW h ad cI cJ cZ (y)) H.size q → A q := fun q hq => Or.elim hq (fun ⟨k, e, hk⟩ => hD.2 k (q, e) hk) (fun hk => hA q (Nat.le_trans hS.1 hk))
          refine va_callv (va_runV (As := [.int (iI (w))]) (rest := []) ⟨hx, hb, hml, hown, hts⟩ (c_m_lay l dC dI h ad cI cJ cZ H.size (y) (w) w0 (by omega) fry ⟨m0.toNat + 1, by omega, by omega, hK9⟩ (by rw [s0]; exact lt)) (cwV 1 hts gX12_joinAll_X12_lay rfl rfl rfl (by decide +kernel) ⟨Nat.le_of_ble_eq_true rfl, Nat.le_of_ble_eq_true rfl⟩) ⟨fun a U g mk q => by obtain ⟨q0, q1, qP, qK, qD⟩ := q; exact ⟨q0, q1, qP, va_K.moved (u := U) (U := U.calling g mk a) (Vm.Alike.refl U.vm) qK, qD⟩, va_recv hK hP (ci := 12) (q0 := 0) rfl rfl, fun U hU hW => ⟨rfl, by rw [hU], by rw [hU]; exact hP, va_K.moved hW.alike hK, hD.weaken (fun _ _ _ _ => trivial)⟩⟩ rfl rfl hl.1 rfl (lv_room (Nat.le_of_ble_eq_true rfl)) dX12_joinAll_137 ⟨Nat.le_of_ble_eq_true rfl, Nat.le_of_ble_eq_true rfl⟩) hS (fun q _ h => hFc q h) hFc (fun u9 t H1 locs ht hvm hw hB hz1 hk1 hS => ?_)
          obtain ⟨hP1, hK1, hD1⟩ := hB
          rw [ht] at hP1
          rw [hw] at hP1 hD1
          have hD2 := hD1.weaken (B := A) (fun _ q _ h => hFc q.1 h)
          have hP := hP1
          have hD := hD2
          generalize H1 = H at hP hS ⊢
          refine lv_iconst (v := iI (0 : Int)) hx hb dX12_joinAll_140 (by decide) ?_
          refine lv_istore (lv' := [(4, .int (iI ((0 : Int)))), (0, .ref (h)), (1, .int (iI (m0))), (3, .int (iI (w)))]) hx hb dX12_joinAll_141 hl (by decide) rfl (fun ls hl => ?_)
          exact ih.2.2.2.2.1 ((F_m_lay (y) (w)).2) (w) ((0 : Int)) (sm_tr sm (sm_mono (by decide) (by decide) lf)) (fun j hj9 => by rw [lf.2 9 (by decide)]; exact jy j hj9) (by unfold fR; rw [lf.2 8 (by decide)]; exact fry) (by rw [lf.2 8 (by decide)]; exact fx) (lh.1) (lv.1) (by omega) (by rw [← s0]; exact lh.2) (w0) (by omega) (by omega) (by omega) (by omega) (by omega) hres _ _ ls hP hD hS (lv_sub hl [1, 2, 3, 0] rfl)
      · intro y w g sm jy fry fx hdy hh0 hh1 dig w0 w1 w2 g0 g1 fu hres H locs ls hP hD hS hl
        rw [F_m_joinAll_e4] at hres
        have s0 := sm.1 0 (by decide)
        have s3 := sm.1 3 (by decide)
        have s7 := sm.1 7 (by decide)
        have t4 := sm.2 4 (by decide)
        have t5 := sm.2 5 (by decide)
        refine lv_iload hx hb dX12_joinAll_143 (lv_at hl 3 rfl) ?_
        refine lv_aload_n hx hb dX12_joinAll_145 rfl (lv_at hl 0 rfl) ?_
        refine va_get (D := (dC, dI)) (ci := 12) (v := .int (iI ((y).1 3))) (C := RX12) (T := TX12) (N := 34) hx hb hts hin hown hK hP 0 rfl rfl 3 (by decide) (hts (.fieldLink RX12 99 "LikeWordsModel" "laws" "I") (by decide +kernel)) (fun _ h9 => h9) rfl dX12_joinAll_146 ?_
        refine wi_icmp_ge (tgt := 211) hx hb (by first | assumption | (unfold iR; omega) | exact F_R01 (by assumption)) (by first | assumption | (unfold iR; omega) | exact F_R01 (by assumption)) dX12_joinAll_149 (by decide) (fun c_149 => ?_) (fun c_149 => ?_)
        · skip
          rw [if_pos c_149] at hres
          refine lv_iinc (v := iI ((w) + (1 : Int))) (lv' := [(3, .int (iI ((w) + (1 : Int)))), (0, .ref (h)), (1, .int (iI (m0))), (4, .int (iI (g)))]) hx hb dX12_joinAll_211 hl (k := 2) rfl (iI_add _ _) (by decide) rfl (fun ls hl => ?_)
          refine lv_goto (tgt := 127) hx hb dX12_joinAll_214 (by decide) ?_
          exact ih.2.2.2.1 (y) ((w) + (1 : Int)) (sm) (jy) (fry) (fx) (hdy) (by omega) (by omega) (by omega) hres _ _ ls hP hD hS (lv_sub hl [1, 2, 0] rfl)
        · skip
          rw [if_neg c_149] at hres
          refine lv_iconst (v := iI (0 : Int)) hx hb dX12_joinAll_152 (by decide) ?_
          refine lv_istore (lv' := [(5, .int (iI ((0 : Int)))), (0, .ref (h)), (1, .int (iI (m0))), (3, .int (iI (w))), (4, .int (iI (g)))]) hx hb dX12_joinAll_153 hl (by decide) rfl (fun ls hl => ?_)
          exact ih.2.2.2.2.2 (y) (w) (g) ((0 : Int)) (sm) (jy) (fry) (fx) (hdy) (hh0) (hh1) (dig) (w0) (w1) (w2) (by omega) (by omega) (by omega) (by omega) (by omega) hres _ _ ls hP hD hS (lv_sub hl [1, 2, 3, 4, 0] rfl)
      · intro y w g b sm jy fry fx hdy hh0 hh1 dig w0 w1 w2 g0 g1 b0 b1 fu hres H locs ls hP hD hS hl
        rw [F_m_joinAll_e5] at hres
        have s0 := sm.1 0 (by decide)
        have s3 := sm.1 3 (by decide)
        have s7 := sm.1 7 (by decide)
        have t4 := sm.2 4 (by decide)
        have t5 := sm.2 5 (by decide)
        have z9 := hz (2 * g).toNat (by omega)
        have z8 := hz (2 * g + 1).toNat (by omega)
        rw [← t4] at z9 z8
        refine lv_iload hx hb dX12_joinAll_155 (lv_at hl 4 rfl) ?_
        refine lv_aload_n hx hb dX12_joinAll_157 rfl (lv_at hl 0 rfl) ?_
        refine va_get (D := (dC, dI)) (ci := 12) (v := .ref (ad 4)) (C := RX12) (T := TX12) (N := 34) hx hb hts hin hown hK hP 0 rfl rfl 4 (by decide) (hts (.fieldLink RX12 20 "LikeWordsModel" "lawSize" "[I") (by decide +kernel)) (fun _ h9 => h9) rfl dX12_joinAll_158 ?_
        refine lv_iconst (v := iI (2 : Int)) hx hb dX12_joinAll_161 (by decide) ?_
        refine lv_iload hx hb dX12_joinAll_162 (lv_at hl 3 rfl) ?_
        refine wi_imul hx hb dX12_joinAll_164 ?_
        refine wi_iald (f := (y).2 4) hx hb hK hP 3 0 rfl rfl (i := ((2 : Int)) * (g)) (by omega) (by omega) (by decide) dX12_joinAll_165 ?_
        refine wi_iadd hx hb dX12_joinAll_166 ?_
        refine lv_aload_n hx hb dX12_joinAll_167 rfl (lv_at hl 0 rfl) ?_
        refine va_get (D := (dC, dI)) (ci := 12) (v := .int (iI ((y).1 10))) (C := RX12) (T := TX12) (N := 34) hx hb hts hin hown hK hP 0 rfl rfl 10 (by decide) (hts (.fieldLink RX12 119 "LikeWordsModel" "handSize" "I") (by decide +kernel)) (fun _ h9 => h9) rfl dX12_joinAll_168 ?_
        refine wi_icmp_gt (tgt := 205) hx hb (by first | assumption | (unfold iR; omega) | exact F_R01 (by assumption)) (by first | assumption | (unfold iR; omega) | exact F_R01 (by assumption)) dX12_joinAll_171 (by decide) (fun c_171 => ?_) (fun c_171 => ?_)
        · skip
          rw [if_pos c_171] at hres
          refine lv_iinc (v := iI ((g) + (1 : Int))) (lv' := [(4, .int (iI ((g) + (1 : Int)))), (0, .ref (h)), (1, .int (iI (m0))), (3, .int (iI (w))), (5, .int (iI (b)))]) hx hb dX12_joinAll_205 hl (k := 3) rfl (iI_add _ _) (by decide) rfl (fun ls hl => ?_)
          refine lv_goto (tgt := 143) hx hb dX12_joinAll_208 (by decide) ?_
          exact ih.2.2.2.2.1 (y) (w) ((g) + (1 : Int)) (sm) (jy) (fry) (fx) (hdy) (hh0) (hh1) (dig) (w0) (w1) (w2) (by omega) (by omega) (by omega) hres _ _ ls hP hD hS (lv_sub hl [1, 2, 3, 0] rfl)
        · skip
          rw [if_neg c_171] at hres
          have cv := F_m_changed_v (x := y) (l0 := g) (at0 := b) (m0 := m0) (M := m0.toNat) (by omega) ⟨(by rw [s0]; exact dig), (fun i9 hi0 hi1 => by rw [t5, s0]; exact ⟨(hw _ (by omega)).1, lwL g i9 g0 g1 hi0 (by rw [t4] at hi1; exact hi1)⟩), (by rw [s0]; exact fx)⟩ z9.1 z9.2 z8.1 z8.2 b0 (by omega) hh1
          rw [show cgR y m0.toNat (F_m_changed y g b m0).1 = (((F_m_changed y g b m0).1 = -9) ∨ (0 ≤ (F_m_changed y g b m0).1 ∧ (F_m_changed y g b m0).1 < gS (y.1 0) (m0.toNat + 1))) from rfl, s0, ← hall] at cv
          refine lv_aload_n hx hb dX12_joinAll_174 rfl (lv_at hl 0 rfl) ?_
          refine lv_iload hx hb dX12_joinAll_175 (lv_at hl 3 rfl) ?_
          refine lv_iload hx hb dX12_joinAll_177 (lv_at hl 4 rfl) ?_
          refine lv_iload_n hx hb dX12_joinAll_179 rfl (lv_at hl 1 rfl) ?_
          have hFc : ∀ q, va_A (mW h ad cI cJ cZ (y)) H.size q → A q := fun q hq => Or.elim hq (fun ⟨k, e, hk⟩ => hD.2 k (q, e) hk) (fun hk => hA q (Nat.le_trans hS.1 hk))
          refine va_calli (va_runV (As := [.int (iI (g)), .int (iI (b)), .int (iI (m0))]) (rest := []) ⟨hx, hb, hml, hown, hts⟩ (c_m_changed l dC dI h ad cI cJ cZ H.size (y) (g) (b) (m0) g0 (by omega) b0 (by omega) (by omega) (by omega) hh0 hh1 (by unfold lzR; rw [t4]; exact hz) hdy (by unfold lwR; rw [t5]; exact hw)) (cwV 3 hts gX12_joinAll_X12_changed rfl rfl rfl (by decide +kernel) ⟨Nat.le_of_ble_eq_true rfl, Nat.le_of_ble_eq_true rfl⟩) ⟨fun a U g mk q => by obtain ⟨q0, q1, qP, qK, qD⟩ := q; exact ⟨q0, q1, qP, va_K.moved (u := U) (U := U.calling g mk a) (Vm.Alike.refl U.vm) qK, qD⟩, va_recv hK hP (ci := 12) (q0 := 0) rfl rfl, fun U hU hW => ⟨rfl, by rw [hU], by rw [hU]; exact hP, va_K.moved hW.alike hK, hD.weaken (fun _ _ _ _ => trivial)⟩⟩ rfl rfl hl.1 rfl (lv_room (Nat.le_of_ble_eq_true rfl)) dX12_joinAll_180 ⟨Nat.le_of_ble_eq_true rfl, Nat.le_of_ble_eq_true rfl⟩) hS (fun q _ h => hFc q h) hFc (fun r9 u9 t H1 locs ht hvm hw hB hz1 hk1 hS => ?_)
          obtain ⟨hP1, hK1, hD1⟩ := hB
          rw [ht] at hP1
          obtain ⟨hw1, hw2⟩ := hw
          rw [hw2] at hP1 hD1
          rw [hw1]
          rw [F_m_changed_2] at hP1 hD1
          have hD2 := hD1.weaken (B := A) (fun _ q _ h => hFc q.1 h)
          have hP := hP1
          have hD := hD2
          generalize H1 = H at hP hS ⊢
          refine lv_istore (lv' := [(6, .int (iI ((F_m_changed (y) (g) (b) (m0)).1))), (0, .ref (h)), (1, .int (iI (m0))), (3, .int (iI (w))), (4, .int (iI (g))), (5, .int (iI (b)))]) hx hb dX12_joinAll_183 hl (by decide) rfl (fun ls hl => ?_)
          refine lv_iload hx hb dX12_joinAll_185 (lv_at hl 0 rfl) ?_
          refine lv_bipush (v := iI (-9 : Int)) hx hb dX12_joinAll_187 (by decide) ?_
          refine wi_icmp_eq (tgt := 199) hx hb (by first | exact ⟨by decide, by decide⟩ | exact Or.elim cv (fun h9 => by rw [h9]; exact ⟨by decide, by decide⟩) (fun h9 => by unfold iR; omega)) (by first | exact ⟨by decide, by decide⟩ | exact Or.elim cv (fun h9 => by rw [h9]; exact ⟨by decide, by decide⟩) (fun h9 => by unfold iR; omega)) dX12_joinAll_189 (by decide) (fun c_189 => ?_) (fun c_189 => ?_)
          · skip
            rw [if_pos c_189] at hres
            refine lv_iinc (v := iI ((b) + (1 : Int))) (lv' := [(5, .int (iI ((b) + (1 : Int)))), (6, .int (iI ((F_m_changed (y) (g) (b) (m0)).1))), (0, .ref (h)), (1, .int (iI (m0))), (3, .int (iI (w))), (4, .int (iI (g)))]) hx hb dX12_joinAll_199 hl (k := 5) rfl (iI_add _ _) (by decide) rfl (fun ls hl => ?_)
            refine lv_goto (tgt := 155) hx hb dX12_joinAll_202 (by decide) ?_
            exact ih.2.2.2.2.2 (y) (w) (g) ((b) + (1 : Int)) (sm) (jy) (fry) (fx) (hdy) (hh0) (hh1) (dig) (w0) (w1) (w2) (by omega) (by omega) (by omega) (by omega) (by omega) hres _ _ ls hP hD hS (lv_sub hl [2, 3, 4, 5, 0] rfl)
          · skip
            rw [if_neg c_189] at hres
            have jf := F_m_join_fr y w (F_m_changed (y) (g) (b) (m0)).1
            refine lv_aload_n hx hb dX12_joinAll_192 rfl (lv_at hl 1 rfl) ?_
            refine lv_iload_n hx hb dX12_joinAll_193 rfl (lv_at hl 3 rfl) ?_
            refine lv_iload hx hb dX12_joinAll_194 (lv_at hl 0 rfl) ?_
            have hFc : ∀ q, va_A (mW h ad cI cJ cZ (y)) H.size q → A q := fun q hq => Or.elim hq (fun ⟨k, e, hk⟩ => hD.2 k (q, e) hk) (fun hk => hA q (Nat.le_trans hS.1 hk))
            refine va_callv (va_runV (As := [.int (iI (w)), .int (iI ((F_m_changed (y) (g) (b) (m0)).1))]) (rest := []) ⟨hx, hb, hml, hown, hts⟩ (c_m_join l dC dI h ad cI cJ cZ H.size (y) (w) ((F_m_changed (y) (g) (b) (m0)).1) w0 (by omega) (by omega) (by omega) jy) (cwV 2 hts gX12_joinAll_X12_join rfl rfl rfl (by decide +kernel) ⟨Nat.le_of_ble_eq_true rfl, Nat.le_of_ble_eq_true rfl⟩) ⟨fun a U g mk q => by obtain ⟨q0, q1, qP, qK, qD⟩ := q; exact ⟨q0, q1, qP, va_K.moved (u := U) (U := U.calling g mk a) (Vm.Alike.refl U.vm) qK, qD⟩, va_recv hK hP (ci := 12) (q0 := 0) rfl rfl, fun U hU hW => ⟨rfl, by rw [hU], by rw [hU]; exact hP, va_K.moved hW.alike hK, hD.weaken (fun _ _ _ _ => trivial)⟩⟩ rfl rfl hl.1 rfl (lv_room (Nat.le_of_ble_eq_true rfl)) dX12_joinAll_196 ⟨Nat.le_of_ble_eq_true rfl, Nat.le_of_ble_eq_true rfl⟩) hS (fun q _ h => hFc q h) hFc (fun u9 t H1 locs ht hvm hw hB hz1 hk1 hS => ?_)
            obtain ⟨hP1, hK1, hD1⟩ := hB
            rw [ht] at hP1
            rw [hw] at hP1 hD1
            have hD2 := hD1.weaken (B := A) (fun _ q _ h => hFc q.1 h)
            have hP := hP1
            have hD := hD2
            generalize H1 = H at hP hS ⊢
            refine lv_iinc (v := iI ((b) + (1 : Int))) (lv' := [(5, .int (iI ((b) + (1 : Int)))), (6, .int (iI ((F_m_changed (y) (g) (b) (m0)).1))), (0, .ref (h)), (1, .int (iI (m0))), (3, .int (iI (w))), (4, .int (iI (g)))]) hx hb dX12_joinAll_199 hl (k := 5) rfl (iI_add _ _) (by decide) rfl (fun ls hl => ?_)
            refine lv_goto (tgt := 155) hx hb dX12_joinAll_202 (by decide) ?_
            exact ih.2.2.2.2.2 ((F_m_join (y) (w) ((F_m_changed (y) (g) (b) (m0)).1)).2) (w) (g) ((b) + (1 : Int)) (sm_tr sm (sm_mono (by decide) (by decide) jf)) (F_m_join_ok jy w0 (by omega) (by omega) (by omega)) (by unfold fR; rw [jf.2 8 (by decide)]; exact fry) (by rw [jf.2 8 (by decide)]; exact fx) (by unfold hdR; rw [jf.2 11 (by decide)]; exact hdy) (by rw [jf.1 10 (by decide)]; exact hh0) (by rw [jf.1 10 (by decide)]; exact hh1) (by rw [jf.1 10 (by decide), jf.2 11 (by decide)]; exact dig) (w0) (w1) (w2) (by omega) (by omega) (by omega) (by omega) (by omega) hres _ _ ls hP hD hS (lv_sub hl [2, 3, 4, 5, 0] rfl)
  have key : ∀ (H : Heap) (locs : List Loc), va_P (dC, dI) vwCl (mW h ad cI cJ cZ (x)) H → va_S A s.heap H locs → W p l e (headSpec wsX12_joinAll ({ frames := 3, cells := 0, slots := 0, locals := 70 })).room s m ([.ref h, .int (iI m0)] : List Value).toArray below meth c H locs 0 0 (MQ below (va_Qv (fun u : MS => u = (F_m_joinAll (x) (m0)).2) (mAt dC dI h ad cI cJ cZ A) A) ([.ref h, .int (iI m0)] : List Value).toArray s 0 0 A) (F0 m 0 ls []) := by
    intro H locs hP hS
    have hres : F_m_joinAll_s 6300000 0 (x) (m0) ((0 : Int)) (0) (0) = F_m_joinAll (x) (m0) := rfl
    refine lv_iconst (v := iI (0 : Int)) hx hb dX12_joinAll_0 (by decide) ?_
    refine lv_istore_n (lv' := [(2, .int (iI ((0 : Int)))), (0, .ref (h)), (1, .int (iI (m0)))]) hx hb dX12_joinAll_1 rfl hl (by decide) rfl (fun ls hl => ?_)
    exact (L (6300000)).1 (x) ((0 : Int)) (sm_rf _ _ _) (hj) (by omega) (by omega) (by omega) hres _ _ ls hP hD hS (lv_sub hl [1, 2, 0] rfl)
  exact key _ _ hP hS
theorem F_m_joinAll_sfr : ∀ n : Nat, (∀ (y : MS) (v0 : Int) (v1 : Int) (v2 : Int) (v3 : Int), same [10] [8, 9, 11] y (F_m_joinAll_s n 0 y v0 v1 v2 v3).2) ∧ (∀ (y : MS) (v0 : Int) (v1 : Int) (v2 : Int) (v3 : Int), same [10] [8, 9, 11] y (F_m_joinAll_s n 1 y v0 v1 v2 v3).2) ∧ (∀ (y : MS) (v0 : Int) (v1 : Int) (v2 : Int) (v3 : Int), same [10] [8, 9, 11] y (F_m_joinAll_s n 2 y v0 v1 v2 v3).2) ∧ (∀ (y : MS) (v0 : Int) (v1 : Int) (v2 : Int) (v3 : Int), same [10] [8, 9, 11] y (F_m_joinAll_s n 3 y v0 v1 v2 v3).2) ∧ (∀ (y : MS) (v0 : Int) (v1 : Int) (v2 : Int) (v3 : Int), same [10] [8, 9, 11] y (F_m_joinAll_s n 4 y v0 v1 v2 v3).2) ∧ (∀ (y : MS) (v0 : Int) (v1 : Int) (v2 : Int) (v3 : Int), same [10] [8, 9, 11] y (F_m_joinAll_s n 5 y v0 v1 v2 v3).2) := by
  intro n
  induction n with
  | zero => exact ⟨fun y _ _ _ _ => sm_rf _ _ _, fun y _ _ _ _ => sm_rf _ _ _, fun y _ _ _ _ => sm_rf _ _ _, fun y _ _ _ _ => sm_rf _ _ _, fun y _ _ _ _ => sm_rf _ _ _, fun y _ _ _ _ => sm_rf _ _ _⟩
  | succ n ih =>
    refine ⟨?_, ?_, ?_, ?_, ?_, ?_⟩
    · intro y m0 i q0 q1
      rw [F_m_joinAll_e0]
      by_cases hc : ((y).1 7) ≤ (i)
      · rw [if_pos hc]
        by_cases hc : ((y).1 0) = ((1 : Int))
        · rw [if_pos hc]
          exact sm_tr ((sm_rf _ _ _)) (ih.2.1 (y) (m0) ((0 : Int)) (0) (0))
        · rw [if_neg hc]
          exact sm_tr ((sm_rf _ _ _)) (ih.2.2.1 (y) (m0) ((0 : Int)) ((0 : Int)) (0))
      · rw [if_neg hc]
        exact sm_tr ((sm_a (by decide) (sm_rf _ _ _))) (ih.1 (aU (y) 9 (i).toNat (i)) (m0) ((i) + (1 : Int)) (0) (0))
    · intro y m0 i q0 q1
      rw [F_m_joinAll_e1]
      by_cases hc : ((y).1 3) ≤ (i)
      · rw [if_pos hc]
        exact (sm_rf _ _ _)
      · rw [if_neg hc]
        exact sm_tr ((sm_tr (sm_rf _ _ _) (sm_mono (by decide) (by decide) (F_m_joinOne_fr (y) (m0) (((y).2 4) (((2 : Int)) * (i)).toNat) (((y).2 4) ((((2 : Int)) * (i)) + ((1 : Int))).toNat))))) (ih.2.1 ((F_m_joinOne (y) (m0) (((y).2 4) (((2 : Int)) * (i)).toNat) (((y).2 4) ((((2 : Int)) * (i)) + ((1 : Int))).toNat)).2) (m0) ((i) + (1 : Int)) (0) (0))
    · intro y m0 f k q0
      rw [F_m_joinAll_e2]
      by_cases hc : ((m0) + ((1 : Int))) < (k)
      · rw [if_pos hc]
        exact sm_tr ((sm_a (by decide) (sm_rf _ _ _))) (ih.2.2.2.1 (aU (y) 8 ((m0) + ((1 : Int))).toNat ((y).1 7)) (m0) ((0 : Int)) (0) (0))
      · rw [if_neg hc]
        by_cases hc : (k) ≤ (m0)
        · rw [if_pos hc]
          exact sm_tr ((sm_a (by decide) (sm_rf _ _ _))) (ih.2.2.1 (aU (y) 8 (k).toNat (f)) (m0) ((f) + ((F_m_powerOf (aU (y) 8 (k).toNat (f)) (k)).1)) ((k) + (1 : Int)) (0))
        · rw [if_neg hc]
          exact sm_tr ((sm_a (by decide) (sm_rf _ _ _))) (ih.2.2.1 (aU (y) 8 (k).toNat (f)) (m0) (f) ((k) + (1 : Int)) (0))
    · intro y m0 w q0 q1
      rw [F_m_joinAll_e3]
      by_cases hc : ((y).1 7) ≤ (w)
      · rw [if_pos hc]
        exact (sm_rf _ _ _)
      · rw [if_neg hc]
        exact sm_tr ((sm_tr (sm_rf _ _ _) (sm_mono (by decide) (by decide) (F_m_lay_fr (y) (w))))) (ih.2.2.2.2.1 ((F_m_lay (y) (w)).2) (m0) (w) ((0 : Int)) (0))
    · intro y m0 w g q0
      rw [F_m_joinAll_e4]
      by_cases hc : ((y).1 3) ≤ (g)
      · rw [if_pos hc]
        exact sm_tr ((sm_rf _ _ _)) (ih.2.2.2.1 (y) (m0) ((w) + (1 : Int)) (0) (0))
      · rw [if_neg hc]
        exact sm_tr ((sm_rf _ _ _)) (ih.2.2.2.2.2 (y) (m0) (w) (g) ((0 : Int)))
    · intro y m0 w g b
      rw [F_m_joinAll_e5]
      by_cases hc : ((y).1 10) < ((b) + (((y).2 4) (((2 : Int)) * (g)).toNat))
      · rw [if_pos hc]
        exact sm_tr ((sm_rf _ _ _)) (ih.2.2.2.2.1 (y) (m0) (w) ((g) + (1 : Int)) (0))
      · rw [if_neg hc]
        by_cases hc : ((F_m_changed (y) (g) (b) (m0)).1) = ((-9 : Int))
        · rw [if_pos hc]
          exact sm_tr ((sm_rf _ _ _)) (ih.2.2.2.2.2 (y) (m0) (w) (g) ((b) + (1 : Int)))
        · rw [if_neg hc]
          exact sm_tr ((sm_tr (sm_rf _ _ _) (sm_mono (by decide) (by decide) (F_m_join_fr (y) (w) ((F_m_changed (y) (g) (b) (m0)).1))))) (ih.2.2.2.2.2 ((F_m_join (y) (w) ((F_m_changed (y) (g) (b) (m0)).1)).2) (m0) (w) (g) ((b) + (1 : Int)))
theorem F_m_joinAll_fr (x : MS) (m0 : Int) : same [10] [8, 9, 11] x (F_m_joinAll (x) (m0)).2 := by
  unfold F_m_joinAll
  exact sm_tr ((sm_rf _ _ _)) ((F_m_joinAll_sfr 6300000).1 (x) (m0) ((0 : Int)) (0) (0))
