theorem F_m_onward_1 (x : MS) (g c m : Int) : (F_m_onward x g c m).1 = if (F_m_next x g c).1 = -9 then 0 else (x.2 28) ((31 * (F_m_next x g c).1) + m).toNat := by
  unfold F_m_onward
  by_cases h : (F_m_next x g c).1 = -9
  · rw [if_pos h, if_pos h]
  · rw [if_neg h, if_neg h]
/-- the onward ways of r letters from c on -/
def sR (x : MS) (g j : Int) : Int → Nat → Int
  | _, 0 => 0
  | c, r + 1 => (F_m_onward x g c j).1 + sR x g j (c + 1) r
def wyR (x : MS) : Prop := ∀ k : Nat, k < 26350 → 0 ≤ x.2 28 k ∧ x.2 28 k ≤ 4611686018427387904
def wyOK (x : MS) : Prop := ∀ g j : Int, 0 ≤ g → g < x.1 24 → 1 ≤ j → j ≤ 30 → (x.2 28) ((31 * g) + j).toNat = sR x g (j - 1) 0 (x.1 0).toNat
theorem nx_same {A : List Nat} {x y : MS} (g : same [] A x y) (h1 : 19 ∉ A) (h2 : 21 ∉ A) (h3 : 23 ∉ A) (h4 : 25 ∉ A) (a c : Int) : (F_m_next y a c).1 = (F_m_next x a c).1 := by
  rw [F_m_next_1, F_m_next_1, g.2 19 h1, g.2 21 h2, g.2 23 h3, g.2 25 h4]
theorem ow_same {A : List Nat} {x y : MS} (g : same [] A x y) (h1 : 19 ∉ A) (h2 : 21 ∉ A) (h3 : 23 ∉ A) (h4 : 25 ∉ A) (h5 : 28 ∉ A) (a c j : Int) : (F_m_onward y a c j).1 = (F_m_onward x a c j).1 := by
  rw [F_m_onward_1, F_m_onward_1, nx_same g h1 h2 h3 h4, g.2 28 h5]
theorem sR_pos {x : MS} {g j c v : Int} {r : Nat} (h0 : 0 ≤ v) (h : v < sR x g j c r) : 1 ≤ r := by
  cases r with
  | zero => exact absurd h (by show ¬ v < 0; omega)
  | succ r => omega
theorem sR_step {x : MS} {g j c v : Int} {r : Nat} (hr : 1 ≤ r) (h : v < sR x g j c r) : v - (F_m_onward x g c j).1 < sR x g j (c + 1) (r - 1) := by
  cases r with
  | zero => omega
  | succ r =>
    have e : sR x g j c (r + 1) = (F_m_onward x g c j).1 + sR x g j (c + 1) r := rfl
    rw [e] at h
    show v - (F_m_onward x g c j).1 < sR x g j (c + 1) r
    omega
/-- what a state and a letter give, in one row -/
theorem ow_R {x : MS} (au : auOK x) (hwy : wyR x) {g c j : Int} (g0 : 0 ≤ g) (g1 : g < x.1 24) (c0 : 0 ≤ c) (c1 : c < x.1 0) (j0 : 0 ≤ j) (j1 : j ≤ 30) : 0 ≤ (F_m_onward x g c j).1 ∧ (F_m_onward x g c j).1 ≤ 4611686018427387904 := by
  have hn := (au.2 g c g0 g1 c0 c1).2
  have u1 := au.1.2.1
  rw [F_m_onward_1]
  by_cases h : (F_m_next x g c).1 = -9
  · rw [if_pos h]; omega
  · rw [if_neg h]; exact hwy _ (by omega)
def F_m_pick_s : Nat → Nat → MS → Int → Int → Int → Int → Int → Int → Int → Int → Int × MS
  | 0, _, x, _, _, _, _, _, _, _, _ => (0, x)
  | n + 1, t, x, p0, p1, p2, p3, p4, p5, p6, p7 => match t with
    | 0 => (fun (i0 : Int) (o9 : Int) (v : Int) (k : Int) => (if ((30 : Int)) < (k) then (if (k) ≤ ((30 : Int)) then F_m_pick_s n 1 (aU (x) 1 (o9).toNat (k)) (i0) (o9) (v) (k) ((0 : Int)) ((0 : Int)) (0) (0) else ((0 : Int), x)) else (if (iC (v) (((x).2 28) (k).toNat)) < (0) then (if (k) ≤ ((30 : Int)) then F_m_pick_s n 1 (aU (x) 1 (o9).toNat (k)) (i0) (o9) (v) (k) ((0 : Int)) ((0 : Int)) (0) (0) else ((0 : Int), x)) else F_m_pick_s n 0 (x) (i0) (o9) ((v) - (((x).2 28) (k).toNat)) ((k) + (1 : Int)) (0) (0) (0) (0)))) p0 p1 p2 p3
    | 1 => (fun (i0 : Int) (o9 : Int) (v : Int) (k : Int) (g : Int) (b : Int) => (if (k) ≤ (b) then ((1 : Int), x) else F_m_pick_s n 2 (x) (i0) (o9) (v) (k) (g) (b) ((0 : Int)) ((F_m_onward (x) (g) ((0 : Int)) (((k) - (b)) - ((1 : Int)))).1))) p0 p1 p2 p3 p4 p5
    | 2 => (fun (i0 : Int) (o9 : Int) (v : Int) (k : Int) (g : Int) (b : Int) (c0 : Int) (q : Int) => (if (iC (v) (q)) < (0) then F_m_pick_s n 1 (aU (x) 2 ((((128 : Int)) * (o9)) + (b)).toNat (c0)) (i0) (o9) (v) (k) ((F_m_next (aU (x) 2 ((((128 : Int)) * (o9)) + (b)).toNat (c0)) (g) (c0)).1) ((b) + (1 : Int)) (0) (0) else F_m_pick_s n 2 (x) (i0) (o9) ((v) - (q)) (k) (g) (b) ((c0) + (1 : Int)) ((F_m_onward (x) (g) ((c0) + (1 : Int)) (((k) - (b)) - ((1 : Int)))).1))) p0 p1 p2 p3 p4 p5 p6 p7
    | _ => (0, x)
theorem F_m_pick_e0 (n : Nat) (x : MS) (i0 : Int) (o9 : Int) (v : Int) (k : Int) (q0 : Int) (q1 : Int) (q2 : Int) (q3 : Int) : F_m_pick_s (n + 1) 0 x i0 o9 v k q0 q1 q2 q3 = (if ((30 : Int)) < (k) then (if (k) ≤ ((30 : Int)) then F_m_pick_s n 1 (aU (x) 1 (o9).toNat (k)) (i0) (o9) (v) (k) ((0 : Int)) ((0 : Int)) (0) (0) else ((0 : Int), x)) else (if (iC (v) (((x).2 28) (k).toNat)) < (0) then (if (k) ≤ ((30 : Int)) then F_m_pick_s n 1 (aU (x) 1 (o9).toNat (k)) (i0) (o9) (v) (k) ((0 : Int)) ((0 : Int)) (0) (0) else ((0 : Int), x)) else F_m_pick_s n 0 (x) (i0) (o9) ((v) - (((x).2 28) (k).toNat)) ((k) + (1 : Int)) (0) (0) (0) (0))) := rfl
theorem F_m_pick_e1 (n : Nat) (x : MS) (i0 : Int) (o9 : Int) (v : Int) (k : Int) (g : Int) (b : Int) (q0 : Int) (q1 : Int) : F_m_pick_s (n + 1) 1 x i0 o9 v k g b q0 q1 = (if (k) ≤ (b) then ((1 : Int), x) else F_m_pick_s n 2 (x) (i0) (o9) (v) (k) (g) (b) ((0 : Int)) ((F_m_onward (x) (g) ((0 : Int)) (((k) - (b)) - ((1 : Int)))).1)) := rfl
theorem F_m_pick_e2 (n : Nat) (x : MS) (i0 : Int) (o9 : Int) (v : Int) (k : Int) (g : Int) (b : Int) (c0 : Int) (q : Int) : F_m_pick_s (n + 1) 2 x i0 o9 v k g b c0 q = (if (iC (v) (q)) < (0) then F_m_pick_s n 1 (aU (x) 2 ((((128 : Int)) * (o9)) + (b)).toNat (c0)) (i0) (o9) (v) (k) ((F_m_next (aU (x) 2 ((((128 : Int)) * (o9)) + (b)).toNat (c0)) (g) (c0)).1) ((b) + (1 : Int)) (0) (0) else F_m_pick_s n 2 (x) (i0) (o9) ((v) - (q)) (k) (g) (b) ((c0) + (1 : Int)) ((F_m_onward (x) (g) ((c0) + (1 : Int)) (((k) - (b)) - ((1 : Int)))).1)) := rfl
def F_m_pick (x : MS) (i0 : Int) (o9 : Int) : Int × MS := F_m_pick_s 1000 0 (x) (i0) (o9) (i0) ((0 : Int)) (0) (0) (0) (0)
set_option maxHeartbeats 4000000 in
set_option maxRecDepth 100000 in
/-- pick -/
theorem c_m_pick (l : Launch) (dC : Nat → ClassId) (dI : Nat → Nat → Nat) (h : Nat) (ad : Nat → Nat) (cI cJ cZ : ClassId) (sz : Nat) (x : MS) (i0 : Int) (o9 : Int) (ri : iRL i0) (i1 : 0 ≤ i0) (o0 : 0 ≤ o9) (o1 : o9 < 13) (au : auOK x) (st1 : 1 ≤ x.1 24) (hwy : wyR x) (hok : wyOK x) : Met l yX12_pick wsX12_pick ({ frames := 2, cells := 0, slots := 0, locals := 47 }) (mPc dC dI h ad cI cJ cZ sz x [.ref h, .long (iL i0), .int (iI o9)]) (va_Qi (fun (r : Int32) (u : MS) => r = iI (F_m_pick (x) (i0) (o9)).1 ∧ u = (F_m_pick (x) (i0) (o9)).2) (mAt dC dI h ad cI cJ cZ (va_A (mW h ad cI cJ cZ (x)) sz)) (va_A (mW h ad cI cJ cZ (x)) sz)) 0 0 (va_A (mW h ad cI cJ cZ (x)) sz) := by
  refine Met.ofW (cc := cX12_pick) (maxL := 12) (ret := (some .boolean)) (by decide) rfl ?_
  intro p e s m args below meth c s₁ B hml hv
  obtain ⟨rfl, hsz, hP, hK, hD0⟩ := hv
  have hx := B.exec
  have hb := B.bytes
  have hr := B.returns
  have hts := atoms_spec (ws := wsX12_pick) B.pre
  have hown : s.vm.findClass RX12 = some m.cls := findClass_of_methodNamed B.named
  have hlocks := B.notSynchronized
  have hin : ∀ w ∈ u_ws RX12 TX12 34, w ∈ wsX12_pick := by decide +kernel
  subst hsz
  have hD := hD0.self (sz := s.heap.size)
  generalize hAe : va_A (mW h ad cI cJ cZ (x)) s.heap.size = A at hD ⊢
  have hA : ∀ q : Nat, s.heap.size ≤ q → A q := fun q h => by rw [← hAe]; exact Or.inr h
  have hS : va_S A s.heap s.heap [] := va_S.rf
  have hl := lv_entry ([.ref h, .long (iL i0), .int (iI o9)]) (n := 12) (Nat.le_of_ble_eq_true rfl)
  rw [lg_entry_eq]
  generalize (lg_sl ([.ref h, .long (iL i0), .int (iI o9)]) ++ List.replicate (12 - (lg_sl ([.ref h, .long (iL i0), .int (iI o9)])).length) Slot.unset).toArray = ls at hl ⊢
  have hl : lv_has ls 12 [(0, .ref (h)), (1, .long (iL (i0))), (3, .int (iI (o9)))] := hl
  have L : ∀ n : Nat, (∀ (y : MS) (v : Int) (k : Int), (same [] [] x y) → (0 ≤ v) → (iRL v) → (0 ≤ k) → (k ≤ 31) → (31 - k + 400 < n) → F_m_pick_s n 0 y i0 o9 v k 0 0 0 0 = F_m_pick (x) (i0) (o9) → ∀ (H : Heap) (locs : List Loc) (ls : Array Slot), va_P (dC, dI) vwCl (mW h ad cI cJ cZ (y)) H → va_D A (mW h ad cI cJ cZ (y)) → va_S A s.heap H locs → lv_has ls 12 [(0, .ref (h)), (1, .long (iL (i0))), (3, .int (iI (o9))), (4, .long (iL (v))), (6, .int (iI (k)))] → W p l e (headSpec wsX12_pick ({ frames := 2, cells := 0, slots := 0, locals := 47 })).room s m ([.ref h, .long (iL i0), .int (iI o9)] : List Value).toArray below meth c H locs 0 0 (MQ below (va_Qi (fun (r : Int32) (u : MS) => r = iI (F_m_pick (x) (i0) (o9)).1 ∧ u = (F_m_pick (x) (i0) (o9)).2) (mAt dC dI h ad cI cJ cZ A) A) ([.ref h, .long (iL i0), .int (iI o9)] : List Value).toArray s 0 0 A) (F0 m 6 ls [])) ∧ (∀ (y : MS) (v : Int) (k : Int) (g : Int) (b : Int), (same [] [1, 2] x y) → (0 ≤ v) → (iRL v) → (0 ≤ k) → (k ≤ 30) → (0 ≤ g) → (g < x.1 24) → (0 ≤ b) → (b ≤ k) → (b < k → v < (x.2 28) ((31 * g) + (k - b)).toNat) → ((30 - b) * 6 + 30 < n) → F_m_pick_s n 1 y i0 o9 v k g b 0 0 = F_m_pick (x) (i0) (o9) → ∀ (H : Heap) (locs : List Loc) (ls : Array Slot), va_P (dC, dI) vwCl (mW h ad cI cJ cZ (y)) H → va_D A (mW h ad cI cJ cZ (y)) → va_S A s.heap H locs → lv_has ls 12 [(0, .ref (h)), (1, .long (iL (i0))), (3, .int (iI (o9))), (4, .long (iL (v))), (6, .int (iI (k))), (7, .int (iI (g))), (8, .int (iI (b)))] → W p l e (headSpec wsX12_pick ({ frames := 2, cells := 0, slots := 0, locals := 47 })).room s m ([.ref h, .long (iL i0), .int (iI o9)] : List Value).toArray below meth c H locs 0 0 (MQ below (va_Qi (fun (r : Int32) (u : MS) => r = iI (F_m_pick (x) (i0) (o9)).1 ∧ u = (F_m_pick (x) (i0) (o9)).2) (mAt dC dI h ad cI cJ cZ A) A) ([.ref h, .long (iL i0), .int (iI o9)] : List Value).toArray s 0 0 A) (F0 m 67 ls [])) ∧ (∀ (y : MS) (v : Int) (k : Int) (g : Int) (b : Int) (c0 : Int) (q : Int), (same [] [1, 2] x y) → (0 ≤ v) → (iRL v) → (0 ≤ k) → (k ≤ 30) → (0 ≤ g) → (g < x.1 24) → (0 ≤ b) → (b < k) → (0 ≤ c0) → (c0 < x.1 0) → (c0 < 4) → (q = (F_m_onward x g c0 ((k - b) - 1)).1) → (v < sR x g ((k - b) - 1) c0 (x.1 0 - c0).toNat) → ((29 - b) * 6 + 30 + (4 - c0) + 1 < n) → F_m_pick_s n 2 y i0 o9 v k g b c0 q = F_m_pick (x) (i0) (o9) → ∀ (H : Heap) (locs : List Loc) (ls : Array Slot), va_P (dC, dI) vwCl (mW h ad cI cJ cZ (y)) H → va_D A (mW h ad cI cJ cZ (y)) → va_S A s.heap H locs → lv_has ls 12 [(0, .ref (h)), (1, .long (iL (i0))), (3, .int (iI (o9))), (4, .long (iL (v))), (6, .int (iI (k))), (7, .int (iI (g))), (8, .int (iI (b))), (9, .int (iI (c0))), (10, .long (iL (q)))] → W p l e (headSpec wsX12_pick ({ frames := 2, cells := 0, slots := 0, locals := 47 })).room s m ([.ref h, .long (iL i0), .int (iI o9)] : List Value).toArray below meth c H locs 0 0 (MQ below (va_Qi (fun (r : Int32) (u : MS) => r = iI (F_m_pick (x) (i0) (o9)).1 ∧ u = (F_m_pick (x) (i0) (o9)).2) (mAt dC dI h ad cI cJ cZ A) A) ([.ref h, .long (iL i0), .int (iI o9)] : List Value).toArray s 0 0 A) (F0 m 94 ls [])) := by
    intro n
    induction n with
    | zero =>
      refine ⟨?_, ?_, ?_⟩
      · intro y v k sm v0 rv k0 k1 fu hres
        exact absurd fu (by omega)
      · intro y v k g b sm v0 rv k0 k1 g0 g1 b0 b1 vb fu hres
        exact absurd fu (by omega)
      · intro y v k g b c0 q sm v0 rv k0 k1 g0 g1 b0 b1 d0 d1 d4 eq vs fu hres
        exact absurd fu (by omega)
    | succ n ih =>
      refine ⟨?_, ?_, ?_⟩
      · intro y v k sm v0 rv k0 k1 fu hres H locs ls hP hD hS hl
        rw [F_m_pick_e0] at hres
        have t28 := sm.2 28 (by decide)
        have rv2 := rv.2
        have u1 := au.1.2.1
        refine lv_iload hx hb dX12_pick_6 (lv_at hl 4 rfl) ?_
        refine lv_bipush (v := iI (30 : Int)) hx hb dX12_pick_8 (by decide) ?_
        refine wi_icmp_gt (tgt := 44) hx hb (by first | assumption | (unfold iR; omega) | exact F_R01 (by assumption)) ⟨by decide, by decide⟩ dX12_pick_10 (by decide) (fun c_10 => ?_) (fun c_10 => ?_)
        · skip
          rw [if_pos c_10] at hres
          refine lv_iload hx hb dX12_pick_44 (lv_at hl 4 rfl) ?_
          refine lv_bipush (v := iI (30 : Int)) hx hb dX12_pick_46 (by decide) ?_
          refine wi_icmp_le (tgt := 53) hx hb (by first | assumption | (unfold iR; omega) | exact F_R01 (by assumption)) ⟨by decide, by decide⟩ dX12_pick_48 (by decide) (fun c_48 => ?_) (fun c_48 => ?_)
          · skip
            rw [if_pos c_48] at hres
            have vk9 : v < (x.2 28) k.toNat := by first | (exfalso; omega) | (rw [← t28]; rw [iC_lt] at c_23; exact c_23)
            refine lv_iconst (v := iI (0 : Int)) hx hb dX12_pick_53 (by decide) ?_
            refine lv_istore (lv' := [(7, .int (iI ((0 : Int)))), (0, .ref (h)), (1, .long (iL (i0))), (3, .int (iI (o9))), (4, .long (iL (v))), (6, .int (iI (k)))]) hx hb dX12_pick_54 hl (by decide) rfl (fun ls hl => ?_)
            refine lv_aload_n hx hb dX12_pick_56 rfl (lv_at hl 1 rfl) ?_
            refine va_get (D := (dC, dI)) (ci := 12) (v := .ref (ad 1)) (C := RX12) (T := TX12) (N := 34) hx hb hts hin hown hK hP 0 rfl rfl 1 (by decide) (hts (.fieldLink RX12 13 "LikeWordsModel" "size" "[I") (by decide +kernel)) (fun _ h9 => h9) rfl dX12_pick_57 ?_
            refine lv_iload_n hx hb dX12_pick_60 rfl (lv_at hl 3 rfl) ?_
            refine lv_iload hx hb dX12_pick_61 (lv_at hl 5 rfl) ?_
            refine wi_iast (f := (y).2 1) hx hb hK hP hD hS 1 0 rfl rfl (i := o9) (x := k) (by omega) (by omega) (by decide) dX12_pick_63 (fun H locs hP hD hS => ?_)
            rw [mW_a1] at hP hD
            refine lv_iconst (v := iI (0 : Int)) hx hb dX12_pick_64 (by decide) ?_
            refine lv_istore (lv' := [(8, .int (iI ((0 : Int)))), (7, .int (iI ((0 : Int)))), (0, .ref (h)), (1, .long (iL (i0))), (3, .int (iI (o9))), (4, .long (iL (v))), (6, .int (iI (k)))]) hx hb dX12_pick_65 hl (by decide) rfl (fun ls hl => ?_)
            exact ih.2.1 (aU (y) 1 (o9).toNat (k)) (v) (k) ((0 : Int)) ((0 : Int)) (sm_a (by decide) (sm_mono (by decide) (by decide) sm)) (v0) (rv) (k0) (by omega) (by omega) (by omega) (by omega) (k0) (by intro _; rw [show ((31 : Int) * 0 + (k - 0)).toNat = k.toNat by omega]; exact vk9) (by omega) hres _ _ ls hP hD hS (lv_sub hl [2, 3, 4, 5, 6, 1, 0] rfl)
          · skip
            rw [if_neg c_48] at hres
            refine lv_iconst (v := iI (0 : Int)) hx hb dX12_pick_51 (by decide) ?_
            exact W.zret (v := iI ((0 : Int))) hx hb hr (by rfl) (fun t ht hW => ⟨⟨iI ((0 : Int)), y, rfl, ⟨(by have h9 := congrArg (fun z : Int × MS => iI z.1) hres; exact h9), (by have h9 := congrArg (fun z : Int × MS => z.2) hres; exact h9)⟩, by rw [ht]; exact hP, va_K.moved hW.alike hK, hD⟩, hS.F ht⟩) hS.2.2 dX12_pick_52
        · skip
          rw [if_neg c_10] at hres
          have wk := hwy k.toNat (by omega)
          rw [← t28] at wk
          refine lv_lload hx hb dX12_pick_13 (lv_at hl 3 rfl) ?_
          refine lv_aload_n hx hb dX12_pick_15 rfl (lv_at hl 0 rfl) ?_
          refine va_get (D := (dC, dI)) (ci := 12) (v := .ref (ad 28)) (C := RX12) (T := TX12) (N := 34) hx hb hts hin hown hK hP 0 rfl rfl 28 (by decide) (hts (.fieldLink RX12 74 "LikeWordsModel" "way" "[J") (by decide +kernel)) (fun _ h9 => h9) rfl dX12_pick_16 ?_
          refine lv_iload hx hb dX12_pick_19 (lv_at hl 4 rfl) ?_
          refine wi_lald (f := (y).2 28) hx hb hK hP 20 1 rfl rfl (i := k) (by omega) (by omega) (by decide) dX12_pick_21 ?_
          refine wi_lcmp hx hb (by first | assumption | exact iR_L (by assumption) | (unfold iRL; omega)) (by first | assumption | exact iR_L (by assumption) | (unfold iRL; omega)) dX12_pick_22 ?_
          refine wi_if_lt (tgt := 44) hx hb iC_R dX12_pick_23 (by decide) (fun c_23 => ?_) (fun c_23 => ?_)
          · skip
            rw [if_pos c_23] at hres
            refine lv_iload hx hb dX12_pick_44 (lv_at hl 4 rfl) ?_
            refine lv_bipush (v := iI (30 : Int)) hx hb dX12_pick_46 (by decide) ?_
            refine wi_icmp_le (tgt := 53) hx hb (by first | assumption | (unfold iR; omega) | exact F_R01 (by assumption)) ⟨by decide, by decide⟩ dX12_pick_48 (by decide) (fun c_48 => ?_) (fun c_48 => ?_)
            · skip
              rw [if_pos c_48] at hres
              have vk9 : v < (x.2 28) k.toNat := by first | (exfalso; omega) | (rw [← t28]; rw [iC_lt] at c_23; exact c_23)
              refine lv_iconst (v := iI (0 : Int)) hx hb dX12_pick_53 (by decide) ?_
              refine lv_istore (lv' := [(7, .int (iI ((0 : Int)))), (0, .ref (h)), (1, .long (iL (i0))), (3, .int (iI (o9))), (4, .long (iL (v))), (6, .int (iI (k)))]) hx hb dX12_pick_54 hl (by decide) rfl (fun ls hl => ?_)
              refine lv_aload_n hx hb dX12_pick_56 rfl (lv_at hl 1 rfl) ?_
              refine va_get (D := (dC, dI)) (ci := 12) (v := .ref (ad 1)) (C := RX12) (T := TX12) (N := 34) hx hb hts hin hown hK hP 0 rfl rfl 1 (by decide) (hts (.fieldLink RX12 13 "LikeWordsModel" "size" "[I") (by decide +kernel)) (fun _ h9 => h9) rfl dX12_pick_57 ?_
              refine lv_iload_n hx hb dX12_pick_60 rfl (lv_at hl 3 rfl) ?_
              refine lv_iload hx hb dX12_pick_61 (lv_at hl 5 rfl) ?_
              refine wi_iast (f := (y).2 1) hx hb hK hP hD hS 1 0 rfl rfl (i := o9) (x := k) (by omega) (by omega) (by decide) dX12_pick_63 (fun H locs hP hD hS => ?_)
              rw [mW_a1] at hP hD
              refine lv_iconst (v := iI (0 : Int)) hx hb dX12_pick_64 (by decide) ?_
              refine lv_istore (lv' := [(8, .int (iI ((0 : Int)))), (7, .int (iI ((0 : Int)))), (0, .ref (h)), (1, .long (iL (i0))), (3, .int (iI (o9))), (4, .long (iL (v))), (6, .int (iI (k)))]) hx hb dX12_pick_65 hl (by decide) rfl (fun ls hl => ?_)
              exact ih.2.1 (aU (y) 1 (o9).toNat (k)) (v) (k) ((0 : Int)) ((0 : Int)) (sm_a (by decide) (sm_mono (by decide) (by decide) sm)) (v0) (rv) (k0) (by omega) (by omega) (by omega) (by omega) (k0) (by intro _; rw [show ((31 : Int) * 0 + (k - 0)).toNat = k.toNat by omega]; exact vk9) (by omega) hres _ _ ls hP hD hS (lv_sub hl [2, 3, 4, 5, 6, 1, 0] rfl)
            · skip
              rw [if_neg c_48] at hres
              refine lv_iconst (v := iI (0 : Int)) hx hb dX12_pick_51 (by decide) ?_
              exact W.zret (v := iI ((0 : Int))) hx hb hr (by rfl) (fun t ht hW => ⟨⟨iI ((0 : Int)), y, rfl, ⟨(by have h9 := congrArg (fun z : Int × MS => iI z.1) hres; exact h9), (by have h9 := congrArg (fun z : Int × MS => z.2) hres; exact h9)⟩, by rw [ht]; exact hP, va_K.moved hW.alike hK, hD⟩, hS.F ht⟩) hS.2.2 dX12_pick_52
          · skip
            rw [if_neg c_23] at hres
            refine lv_lload hx hb dX12_pick_26 (lv_at hl 3 rfl) ?_
            refine lv_aload_n hx hb dX12_pick_28 rfl (lv_at hl 0 rfl) ?_
            refine va_get (D := (dC, dI)) (ci := 12) (v := .ref (ad 28)) (C := RX12) (T := TX12) (N := 34) hx hb hts hin hown hK hP 0 rfl rfl 28 (by decide) (hts (.fieldLink RX12 74 "LikeWordsModel" "way" "[J") (by decide +kernel)) (fun _ h9 => h9) rfl dX12_pick_29 ?_
            refine lv_iload hx hb dX12_pick_32 (lv_at hl 4 rfl) ?_
            refine wi_lald (f := (y).2 28) hx hb hK hP 20 1 rfl rfl (i := k) (by omega) (by omega) (by decide) dX12_pick_34 ?_
            refine wi_lsub hx hb dX12_pick_35 ?_
            refine lv_lstore (lv' := [(4, .long (iL ((v) - (((y).2 28) (k).toNat)))), (0, .ref (h)), (1, .long (iL (i0))), (3, .int (iI (o9))), (6, .int (iI (k)))]) hx hb dX12_pick_36 hl (by decide) rfl (fun ls hl => ?_)
            refine lv_iinc (v := iI ((k) + (1 : Int))) (lv' := [(6, .int (iI ((k) + (1 : Int)))), (4, .long (iL ((v) - (((y).2 28) (k).toNat)))), (0, .ref (h)), (1, .long (iL (i0))), (3, .int (iI (o9)))]) hx hb dX12_pick_38 hl (k := 4) rfl (iI_add _ _) (by decide) rfl (fun ls hl => ?_)
            refine lv_goto (tgt := 6) hx hb dX12_pick_41 (by decide) ?_
            exact ih.1 (y) ((v) - (((y).2 28) (k).toNat)) ((k) + (1 : Int)) (sm) (by rw [iC_lt] at c_23; omega) (⟨by rw [iC_lt] at c_23; omega, by omega⟩) (by omega) (by omega) (by omega) hres _ _ ls hP hD hS (lv_sub hl [2, 3, 4, 1, 0] rfl)
      · intro y v k g b sm v0 rv k0 k1 g0 g1 b0 b1 vb fu hres H locs ls hP hD hS hl
        rw [F_m_pick_e1] at hres
        have auy := auOK_same au sm (by decide) (by decide) (by decide) (by decide)
        have ow := ow_same sm (by decide) (by decide) (by decide) (by decide) (by decide)
        have nx := nx_same sm (by decide) (by decide) (by decide) (by decide)
        have s0 := sm.1 0 (by decide)
        have s24 := sm.1 24 (by decide)
        have u1 := au.1.2.1
        have u2 := au.1.2.2.1
        have u3 := au.1.2.2.2
        refine lv_iload hx hb dX12_pick_67 (lv_at hl 6 rfl) ?_
        refine lv_iload hx hb dX12_pick_69 (lv_at hl 4 rfl) ?_
        refine wi_icmp_ge (tgt := 163) hx hb (by first | assumption | (unfold iR; omega) | exact F_R01 (by assumption)) (by first | assumption | (unfold iR; omega) | exact F_R01 (by assumption)) dX12_pick_71 (by decide) (fun c_71 => ?_) (fun c_71 => ?_)
        · skip
          rw [if_pos c_71] at hres
          refine lv_iconst (v := iI (1 : Int)) hx hb dX12_pick_163 (by decide) ?_
          exact W.zret (v := iI ((1 : Int))) hx hb hr (by rfl) (fun t ht hW => ⟨⟨iI ((1 : Int)), y, rfl, ⟨(by have h9 := congrArg (fun z : Int × MS => iI z.1) hres; exact h9), (by have h9 := congrArg (fun z : Int × MS => z.2) hres; exact h9)⟩, by rw [ht]; exact hP, va_K.moved hW.alike hK, hD⟩, hS.F ht⟩) hS.2.2 dX12_pick_164
        · skip
          rw [if_neg c_71] at hres
          have vs0 := vb (by omega)
          rw [hok g (k - b) g0 g1 (by omega) (by omega)] at vs0
          have hn9 := auy.2 g 0 (by omega) (by omega) (by omega) (by omega)
          refine lv_iconst (v := iI (0 : Int)) hx hb dX12_pick_74 (by decide) ?_
          refine lv_istore (lv' := [(9, .int (iI ((0 : Int)))), (0, .ref (h)), (1, .long (iL (i0))), (3, .int (iI (o9))), (4, .long (iL (v))), (6, .int (iI (k))), (7, .int (iI (g))), (8, .int (iI (b)))]) hx hb dX12_pick_75 hl (by decide) rfl (fun ls hl => ?_)
          refine lv_aload_n hx hb dX12_pick_77 rfl (lv_at hl 1 rfl) ?_
          refine lv_iload hx hb dX12_pick_78 (lv_at hl 6 rfl) ?_
          refine lv_iload hx hb dX12_pick_80 (lv_at hl 0 rfl) ?_
          refine lv_iload hx hb dX12_pick_82 (lv_at hl 5 rfl) ?_
          refine lv_iload hx hb dX12_pick_84 (lv_at hl 7 rfl) ?_
          refine wi_isub hx hb dX12_pick_86 ?_
          refine lv_iconst (v := iI (1 : Int)) hx hb dX12_pick_87 (by decide) ?_
          refine wi_isub hx hb dX12_pick_88 ?_
          have hFc : ∀ q, va_A (mW h ad cI cJ cZ (y)) H.size q → A q := fun q hq => Or.elim hq (fun ⟨k, e, hk⟩ => hD.2 k (q, e) hk) (fun hk => hA q (Nat.le_trans hS.1 hk))
          refine va_calll (va_runV (As := [.int (iI (g)), .int (iI ((0 : Int))), .int (iI (((k) - (b)) - ((1 : Int))))]) (rest := []) ⟨hx, hb, hml, hown, hts⟩ (c_m_onward l dC dI h ad cI cJ cZ H.size (y) (g) ((0 : Int)) (((k) - (b)) - ((1 : Int))) (by omega) (by omega) (by omega) (by omega) hn9.1.1 hn9.1.2.1 hn9.1.2.2.1 hn9.1.2.2.2.1 hn9.1.2.2.2.2 (Or.elim hn9.2 Or.inl (fun q9 => Or.inr ⟨q9.1, by omega⟩)) (by omega) (by omega)) (cwV 3 hts gX12_pick_X12_onward rfl rfl rfl (by decide +kernel) ⟨Nat.le_of_ble_eq_true rfl, Nat.le_of_ble_eq_true rfl⟩) ⟨fun a U g mk q => by obtain ⟨q0, q1, qP, qK, qD⟩ := q; exact ⟨q0, q1, qP, va_K.moved (u := U) (U := U.calling g mk a) (Vm.Alike.refl U.vm) qK, qD⟩, va_recv hK hP (ci := 12) (q0 := 0) rfl rfl, fun U hU hW => ⟨rfl, by rw [hU], by rw [hU]; exact hP, va_K.moved hW.alike hK, hD.weaken (fun _ _ _ _ => trivial)⟩⟩ rfl rfl hl.1 rfl (lv_room (Nat.le_of_ble_eq_true rfl)) dX12_pick_89 ⟨Nat.le_of_ble_eq_true rfl, Nat.le_of_ble_eq_true rfl⟩) hS (fun q _ h => hFc q h) hFc (fun r9 u9 t H1 locs ht hvm hw hB hz1 hk1 hS => ?_)
          obtain ⟨hP1, hK1, hD1⟩ := hB
          rw [ht] at hP1
          obtain ⟨hw1, hw2⟩ := hw
          rw [hw2] at hP1 hD1
          rw [hw1]
          rw [F_m_onward_2] at hP1 hD1
          have hD2 := hD1.weaken (B := A) (fun _ q _ h => hFc q.1 h)
          have hP := hP1
          have hD := hD2
          generalize H1 = H at hP hS ⊢
          refine lv_lstore (lv' := [(10, .long (iL ((F_m_onward (y) (g) ((0 : Int)) (((k) - (b)) - ((1 : Int)))).1))), (9, .int (iI ((0 : Int)))), (0, .ref (h)), (1, .long (iL (i0))), (3, .int (iI (o9))), (4, .long (iL (v))), (6, .int (iI (k))), (7, .int (iI (g))), (8, .int (iI (b)))]) hx hb dX12_pick_92 hl (by decide) rfl (fun ls hl => ?_)
          exact ih.2.2 (y) (v) (k) (g) (b) ((0 : Int)) ((F_m_onward (y) (g) ((0 : Int)) (((k) - (b)) - ((1 : Int)))).1) (sm) (v0) (rv) (k0) (k1) (g0) (g1) (b0) (by omega) (by omega) (by omega) (by omega) (by rw [ow]) (by rw [Int.sub_zero]; exact vs0) (by omega) hres _ _ ls hP hD hS (lv_sub hl [2, 3, 4, 5, 6, 7, 8, 1, 0] rfl)
      · intro y v k g b c0 q sm v0 rv k0 k1 g0 g1 b0 b1 d0 d1 d4 eq vs fu hres H locs ls hP hD hS hl
        rw [F_m_pick_e2] at hres
        have auy := auOK_same au sm (by decide) (by decide) (by decide) (by decide)
        have ow := ow_same sm (by decide) (by decide) (by decide) (by decide) (by decide)
        have nx := nx_same sm (by decide) (by decide) (by decide) (by decide)
        have s0 := sm.1 0 (by decide)
        have s24 := sm.1 24 (by decide)
        have u1 := au.1.2.1
        have u2 := au.1.2.2.1
        have u3 := au.1.2.2.2
        have oR := ow_R au hwy g0 g1 d0 d1 (show 0 ≤ (k - b) - 1 by omega) (by omega)
        rw [← eq] at oR
        have rv2 := rv.2
        refine lv_lload hx hb dX12_pick_94 (lv_at hl 3 rfl) ?_
        refine lv_lload hx hb dX12_pick_96 (lv_at hl 8 rfl) ?_
        refine wi_lcmp hx hb (by first | assumption | exact iR_L (by assumption) | (unfold iRL; omega)) (by first | assumption | exact iR_L (by assumption) | (unfold iRL; omega)) dX12_pick_98 ?_
        refine wi_if_lt (tgt := 132) hx hb iC_R dX12_pick_99 (by decide) (fun c_99 => ?_) (fun c_99 => ?_)
        · skip
          rw [if_pos c_99] at hres
          rw [iC_lt] at c_99
          have hn9 := auy.2 g c0 (by omega) (by omega) (by omega) (by omega)
          have hx9 := (au.2 g c0 g0 g1 d0 d1).2
          have hne : ¬ (F_m_next x g c0).1 = -9 := by intro q9; rw [F_m_onward_1, if_pos q9] at eq; omega
          rw [F_m_onward_1, if_neg hne] at eq
          have nn : 0 ≤ (F_m_next (aU (y) 2 (((128 : Int) * o9) + b).toNat c0) g c0).1 ∧ (F_m_next (aU (y) 2 (((128 : Int) * o9) + b).toNat c0) g c0).1 < x.1 24 := by rw [nx_same (sm_a (k := 2) (A := [1, 2]) (by decide) sm) (by decide) (by decide) (by decide) (by decide)]; omega
          have nv : b + 1 < k → v < (x.2 28) ((31 * (F_m_next (aU (y) 2 (((128 : Int) * o9) + b).toNat c0) g c0).1) + (k - (b + 1))).toNat := by intro _; rw [nx_same (sm_a (k := 2) (A := [1, 2]) (by decide) sm) (by decide) (by decide) (by decide) (by decide), show k - (b + 1) = (k - b) - 1 by omega, ← eq]; omega
          refine lv_aload_n hx hb dX12_pick_132 rfl (lv_at hl 0 rfl) ?_
          refine va_get (D := (dC, dI)) (ci := 12) (v := .ref (ad 2)) (C := RX12) (T := TX12) (N := 34) hx hb hts hin hown hK hP 0 rfl rfl 2 (by decide) (hts (.fieldLink RX12 17 "LikeWordsModel" "row" "[I") (by decide +kernel)) (fun _ h9 => h9) rfl dX12_pick_133 ?_
          refine lv_sipush (v := iI (128 : Int)) hx hb dX12_pick_136 (by decide) ?_
          refine lv_iload_n hx hb dX12_pick_139 rfl (lv_at hl 2 rfl) ?_
          refine wi_imul hx hb dX12_pick_140 ?_
          refine lv_iload hx hb dX12_pick_141 (lv_at hl 6 rfl) ?_
          refine wi_iadd hx hb dX12_pick_143 ?_
          refine lv_iload hx hb dX12_pick_144 (lv_at hl 7 rfl) ?_
          refine wi_iast (f := (y).2 2) hx hb hK hP hD hS 2 0 rfl rfl (i := (((128 : Int)) * (o9)) + (b)) (x := c0) (by omega) (by omega) (by decide) dX12_pick_146 (fun H locs hP hD hS => ?_)
          rw [mW_a2] at hP hD
          refine lv_aload_n hx hb dX12_pick_147 rfl (lv_at hl 0 rfl) ?_
          refine lv_iload hx hb dX12_pick_148 (lv_at hl 5 rfl) ?_
          refine lv_iload hx hb dX12_pick_150 (lv_at hl 7 rfl) ?_
          have hFc : ∀ q, va_A (mW h ad cI cJ cZ (aU (y) 2 ((((128 : Int)) * (o9)) + (b)).toNat (c0))) H.size q → A q := fun q hq => Or.elim hq (fun ⟨k, e, hk⟩ => hD.2 k (q, e) hk) (fun hk => hA q (Nat.le_trans hS.1 hk))
          refine va_calli (va_runV (As := [.int (iI (g)), .int (iI (c0))]) (rest := []) ⟨hx, hb, hml, hown, hts⟩ (c_m_next l dC dI h ad cI cJ cZ H.size (aU (y) 2 ((((128 : Int)) * (o9)) + (b)).toNat (c0)) (g) (c0) (by omega) (by omega) (by omega) (by omega) hn9.1.1 hn9.1.2.1 hn9.1.2.2.1 hn9.1.2.2.2.1 hn9.1.2.2.2.2) (cwV 2 hts gX12_pick_X12_next rfl rfl rfl (by decide +kernel) ⟨Nat.le_of_ble_eq_true rfl, Nat.le_of_ble_eq_true rfl⟩) ⟨fun a U g mk q => by obtain ⟨q0, q1, qP, qK, qD⟩ := q; exact ⟨q0, q1, qP, va_K.moved (u := U) (U := U.calling g mk a) (Vm.Alike.refl U.vm) qK, qD⟩, va_recv hK hP (ci := 12) (q0 := 0) rfl rfl, fun U hU hW => ⟨rfl, by rw [hU], by rw [hU]; exact hP, va_K.moved hW.alike hK, hD.weaken (fun _ _ _ _ => trivial)⟩⟩ rfl rfl hl.1 rfl (lv_room (Nat.le_of_ble_eq_true rfl)) dX12_pick_152 ⟨Nat.le_of_ble_eq_true rfl, Nat.le_of_ble_eq_true rfl⟩) hS (fun q _ h => hFc q h) hFc (fun r9 u9 t H1 locs ht hvm hw hB hz1 hk1 hS => ?_)
          obtain ⟨hP1, hK1, hD1⟩ := hB
          rw [ht] at hP1
          obtain ⟨hw1, hw2⟩ := hw
          rw [hw2] at hP1 hD1
          rw [hw1]
          rw [F_m_next_2] at hP1 hD1
          have hD2 := hD1.weaken (B := A) (fun _ q _ h => hFc q.1 h)
          have hP := hP1
          have hD := hD2
          generalize H1 = H at hP hS ⊢
          refine lv_istore (lv' := [(7, .int (iI ((F_m_next (aU (y) 2 ((((128 : Int)) * (o9)) + (b)).toNat (c0)) (g) (c0)).1))), (0, .ref (h)), (1, .long (iL (i0))), (3, .int (iI (o9))), (4, .long (iL (v))), (6, .int (iI (k))), (8, .int (iI (b))), (9, .int (iI (c0))), (10, .long (iL (q)))]) hx hb dX12_pick_155 hl (by decide) rfl (fun ls hl => ?_)
          refine lv_iinc (v := iI ((b) + (1 : Int))) (lv' := [(8, .int (iI ((b) + (1 : Int)))), (7, .int (iI ((F_m_next (aU (y) 2 ((((128 : Int)) * (o9)) + (b)).toNat (c0)) (g) (c0)).1))), (0, .ref (h)), (1, .long (iL (i0))), (3, .int (iI (o9))), (4, .long (iL (v))), (6, .int (iI (k))), (9, .int (iI (c0))), (10, .long (iL (q)))]) hx hb dX12_pick_157 hl (k := 6) rfl (iI_add _ _) (by decide) rfl (fun ls hl => ?_)
          refine lv_goto (tgt := 67) hx hb dX12_pick_160 (by decide) ?_
          exact ih.2.1 (aU (y) 2 ((((128 : Int)) * (o9)) + (b)).toNat (c0)) (v) (k) ((F_m_next (aU (y) 2 ((((128 : Int)) * (o9)) + (b)).toNat (c0)) (g) (c0)).1) ((b) + (1 : Int)) (sm_a (by decide) sm) (v0) (rv) (k0) (k1) (nn.1) (nn.2) (by omega) (by omega) (nv) (by omega) hres _ _ ls hP hD hS (lv_sub hl [2, 3, 4, 5, 6, 1, 0] rfl)
        · skip
          rw [if_neg c_99] at hres
          rw [iC_lt] at c_99
          have vs9 := sR_step (sR_pos v0 vs) vs
          have e9 : (x.1 0 - c0).toNat - 1 = (x.1 0 - (c0 + 1)).toNat := by omega
          rw [e9, ← eq] at vs9
          have c9 : c0 + 1 < x.1 0 := by have := sR_pos (show 0 ≤ v - q by omega) vs9; omega
          have hn9 := auy.2 g (c0 + 1) (by omega) (by omega) (by omega) (by omega)
          refine lv_lload hx hb dX12_pick_102 (lv_at hl 3 rfl) ?_
          refine lv_lload hx hb dX12_pick_104 (lv_at hl 8 rfl) ?_
          refine wi_lsub hx hb dX12_pick_106 ?_
          refine lv_lstore (lv' := [(4, .long (iL ((v) - (q)))), (0, .ref (h)), (1, .long (iL (i0))), (3, .int (iI (o9))), (6, .int (iI (k))), (7, .int (iI (g))), (8, .int (iI (b))), (9, .int (iI (c0))), (10, .long (iL (q)))]) hx hb dX12_pick_107 hl (by decide) rfl (fun ls hl => ?_)
          refine lv_iinc (v := iI ((c0) + (1 : Int))) (lv' := [(9, .int (iI ((c0) + (1 : Int)))), (4, .long (iL ((v) - (q)))), (0, .ref (h)), (1, .long (iL (i0))), (3, .int (iI (o9))), (6, .int (iI (k))), (7, .int (iI (g))), (8, .int (iI (b))), (10, .long (iL (q)))]) hx hb dX12_pick_109 hl (k := 7) rfl (iI_add _ _) (by decide) rfl (fun ls hl => ?_)
          refine lv_aload_n hx hb dX12_pick_112 rfl (lv_at hl 2 rfl) ?_
          refine lv_iload hx hb dX12_pick_113 (lv_at hl 6 rfl) ?_
          refine lv_iload hx hb dX12_pick_115 (lv_at hl 0 rfl) ?_
          refine lv_iload hx hb dX12_pick_117 (lv_at hl 5 rfl) ?_
          refine lv_iload hx hb dX12_pick_119 (lv_at hl 7 rfl) ?_
          refine wi_isub hx hb dX12_pick_121 ?_
          refine lv_iconst (v := iI (1 : Int)) hx hb dX12_pick_122 (by decide) ?_
          refine wi_isub hx hb dX12_pick_123 ?_
          have hFc : ∀ q, va_A (mW h ad cI cJ cZ (y)) H.size q → A q := fun q hq => Or.elim hq (fun ⟨k, e, hk⟩ => hD.2 k (q, e) hk) (fun hk => hA q (Nat.le_trans hS.1 hk))
          refine va_calll (va_runV (As := [.int (iI (g)), .int (iI ((c0) + (1 : Int))), .int (iI (((k) - (b)) - ((1 : Int))))]) (rest := []) ⟨hx, hb, hml, hown, hts⟩ (c_m_onward l dC dI h ad cI cJ cZ H.size (y) (g) ((c0) + (1 : Int)) (((k) - (b)) - ((1 : Int))) (by omega) (by omega) (by omega) (by omega) hn9.1.1 hn9.1.2.1 hn9.1.2.2.1 hn9.1.2.2.2.1 hn9.1.2.2.2.2 (Or.elim hn9.2 Or.inl (fun q9 => Or.inr ⟨q9.1, by omega⟩)) (by omega) (by omega)) (cwV 3 hts gX12_pick_X12_onward rfl rfl rfl (by decide +kernel) ⟨Nat.le_of_ble_eq_true rfl, Nat.le_of_ble_eq_true rfl⟩) ⟨fun a U g mk q => by obtain ⟨q0, q1, qP, qK, qD⟩ := q; exact ⟨q0, q1, qP, va_K.moved (u := U) (U := U.calling g mk a) (Vm.Alike.refl U.vm) qK, qD⟩, va_recv hK hP (ci := 12) (q0 := 0) rfl rfl, fun U hU hW => ⟨rfl, by rw [hU], by rw [hU]; exact hP, va_K.moved hW.alike hK, hD.weaken (fun _ _ _ _ => trivial)⟩⟩ rfl rfl hl.1 rfl (lv_room (Nat.le_of_ble_eq_true rfl)) dX12_pick_124 ⟨Nat.le_of_ble_eq_true rfl, Nat.le_of_ble_eq_true rfl⟩) hS (fun q _ h => hFc q h) hFc (fun r9 u9 t H1 locs ht hvm hw hB hz1 hk1 hS => ?_)
          obtain ⟨hP1, hK1, hD1⟩ := hB
          rw [ht] at hP1
          obtain ⟨hw1, hw2⟩ := hw
          rw [hw2] at hP1 hD1
          rw [hw1]
          rw [F_m_onward_2] at hP1 hD1
          have hD2 := hD1.weaken (B := A) (fun _ q _ h => hFc q.1 h)
          have hP := hP1
          have hD := hD2
          generalize H1 = H at hP hS ⊢
          refine lv_lstore (lv' := [(10, .long (iL ((F_m_onward (y) (g) ((c0) + (1 : Int)) (((k) - (b)) - ((1 : Int)))).1))), (9, .int (iI ((c0) + (1 : Int)))), (4, .long (iL ((v) - (q)))), (0, .ref (h)), (1, .long (iL (i0))), (3, .int (iI (o9))), (6, .int (iI (k))), (7, .int (iI (g))), (8, .int (iI (b)))]) hx hb dX12_pick_127 hl (by decide) rfl (fun ls hl => ?_)
          refine lv_goto (tgt := 94) hx hb dX12_pick_129 (by decide) ?_
          exact ih.2.2 (y) ((v) - (q)) (k) (g) (b) ((c0) + (1 : Int)) ((F_m_onward (y) (g) ((c0) + (1 : Int)) (((k) - (b)) - ((1 : Int)))).1) (sm) (by omega) (⟨by omega, by omega⟩) (k0) (k1) (g0) (g1) (b0) (b1) (by omega) (c9) (by omega) (by rw [ow]) (vs9) (by omega) hres _ _ ls hP hD hS (lv_sub hl [3, 4, 5, 2, 6, 7, 8, 1, 0] rfl)
  have key : ∀ (H : Heap) (locs : List Loc), va_P (dC, dI) vwCl (mW h ad cI cJ cZ (x)) H → va_S A s.heap H locs → W p l e (headSpec wsX12_pick ({ frames := 2, cells := 0, slots := 0, locals := 47 })).room s m ([.ref h, .long (iL i0), .int (iI o9)] : List Value).toArray below meth c H locs 0 0 (MQ below (va_Qi (fun (r : Int32) (u : MS) => r = iI (F_m_pick (x) (i0) (o9)).1 ∧ u = (F_m_pick (x) (i0) (o9)).2) (mAt dC dI h ad cI cJ cZ A) A) ([.ref h, .long (iL i0), .int (iI o9)] : List Value).toArray s 0 0 A) (F0 m 0 ls []) := by
    intro H locs hP hS
    have hres : F_m_pick_s 1000 0 (x) (i0) (o9) (i0) ((0 : Int)) (0) (0) (0) (0) = F_m_pick (x) (i0) (o9) := rfl
    refine lv_lload_n hx hb dX12_pick_0 rfl (lv_at hl 1 rfl) ?_
    refine lv_lstore (lv' := [(4, .long (iL (i0))), (0, .ref (h)), (1, .long (iL (i0))), (3, .int (iI (o9)))]) hx hb dX12_pick_1 hl (by decide) rfl (fun ls hl => ?_)
    refine lv_iconst (v := iI (0 : Int)) hx hb dX12_pick_3 (by decide) ?_
    refine lv_istore (lv' := [(6, .int (iI ((0 : Int)))), (4, .long (iL (i0))), (0, .ref (h)), (1, .long (iL (i0))), (3, .int (iI (o9)))]) hx hb dX12_pick_4 hl (by decide) rfl (fun ls hl => ?_)
    exact (L (1000)).1 (x) (i0) ((0 : Int)) (sm_rf _ _ _) (i1) (ri) (by omega) (by omega) (by omega) hres _ _ ls hP hD hS (lv_sub hl [2, 3, 4, 1, 0] rfl)
  exact key _ _ hP hS
theorem F_m_pick_sfr : ∀ n : Nat, (∀ (y : MS) (v0 : Int) (v1 : Int) (v2 : Int) (v3 : Int) (v4 : Int) (v5 : Int) (v6 : Int) (v7 : Int), same [] [1, 2] y (F_m_pick_s n 0 y v0 v1 v2 v3 v4 v5 v6 v7).2) ∧ (∀ (y : MS) (v0 : Int) (v1 : Int) (v2 : Int) (v3 : Int) (v4 : Int) (v5 : Int) (v6 : Int) (v7 : Int), same [] [1, 2] y (F_m_pick_s n 1 y v0 v1 v2 v3 v4 v5 v6 v7).2) ∧ (∀ (y : MS) (v0 : Int) (v1 : Int) (v2 : Int) (v3 : Int) (v4 : Int) (v5 : Int) (v6 : Int) (v7 : Int), same [] [1, 2] y (F_m_pick_s n 2 y v0 v1 v2 v3 v4 v5 v6 v7).2) := by
  intro n
  induction n with
  | zero => exact ⟨fun y _ _ _ _ _ _ _ _ => sm_rf _ _ _, fun y _ _ _ _ _ _ _ _ => sm_rf _ _ _, fun y _ _ _ _ _ _ _ _ => sm_rf _ _ _⟩
  | succ n ih =>
    refine ⟨?_, ?_, ?_⟩
    · intro y i0 o9 v k q0 q1 q2 q3
      rw [F_m_pick_e0]
      by_cases hc : ((30 : Int)) < (k)
      · rw [if_pos hc]
        by_cases hc : (k) ≤ ((30 : Int))
        · rw [if_pos hc]
          exact sm_tr ((sm_a (by decide) (sm_rf _ _ _))) (ih.2.1 (aU (y) 1 (o9).toNat (k)) (i0) (o9) (v) (k) ((0 : Int)) ((0 : Int)) (0) (0))
        · rw [if_neg hc]
          exact (sm_rf _ _ _)
      · rw [if_neg hc]
        by_cases hc : (iC (v) (((y).2 28) (k).toNat)) < (0)
        · rw [if_pos hc]
          by_cases hc : (k) ≤ ((30 : Int))
          · rw [if_pos hc]
            exact sm_tr ((sm_a (by decide) (sm_rf _ _ _))) (ih.2.1 (aU (y) 1 (o9).toNat (k)) (i0) (o9) (v) (k) ((0 : Int)) ((0 : Int)) (0) (0))
          · rw [if_neg hc]
            exact (sm_rf _ _ _)
        · rw [if_neg hc]
          exact sm_tr ((sm_rf _ _ _)) (ih.1 (y) (i0) (o9) ((v) - (((y).2 28) (k).toNat)) ((k) + (1 : Int)) (0) (0) (0) (0))
    · intro y i0 o9 v k g b q0 q1
      rw [F_m_pick_e1]
      by_cases hc : (k) ≤ (b)
      · rw [if_pos hc]
        exact (sm_rf _ _ _)
      · rw [if_neg hc]
        exact sm_tr ((sm_rf _ _ _)) (ih.2.2 (y) (i0) (o9) (v) (k) (g) (b) ((0 : Int)) ((F_m_onward (y) (g) ((0 : Int)) (((k) - (b)) - ((1 : Int)))).1))
    · intro y i0 o9 v k g b c0 q
      rw [F_m_pick_e2]
      by_cases hc : (iC (v) (q)) < (0)
      · rw [if_pos hc]
        exact sm_tr ((sm_a (by decide) (sm_rf _ _ _))) (ih.2.1 (aU (y) 2 ((((128 : Int)) * (o9)) + (b)).toNat (c0)) (i0) (o9) (v) (k) ((F_m_next (aU (y) 2 ((((128 : Int)) * (o9)) + (b)).toNat (c0)) (g) (c0)).1) ((b) + (1 : Int)) (0) (0))
      · rw [if_neg hc]
        exact sm_tr ((sm_rf _ _ _)) (ih.2.2 (y) (i0) (o9) ((v) - (q)) (k) (g) (b) ((c0) + (1 : Int)) ((F_m_onward (y) (g) ((c0) + (1 : Int)) (((k) - (b)) - ((1 : Int)))).1))
theorem F_m_pick_fr (x : MS) (i0 : Int) (o9 : Int) : same [] [1, 2] x (F_m_pick (x) (i0) (o9)).2 := by
  unfold F_m_pick
  exact sm_tr ((sm_rf _ _ _)) ((F_m_pick_sfr 1000).1 (x) (i0) (o9) (i0) ((0 : Int)) (0) (0) (0) (0))
