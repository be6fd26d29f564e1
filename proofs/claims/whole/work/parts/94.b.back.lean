-- deps: 30 31 32 33 34 35 36 37 38 39 40 41 42 43 46 70 71 72 73 74 75 76 77 78 79 80 81 82 83 84 85 86 87 88 89 90 91 92 93 94.a
/-! one LETTER comes back -/
theorem stk_ne {x y : KS} {src : List Int} {i : Nat} {Ah P Bh : List Int} (a0 : y.2 99 i = 0) (w1 : 0 < y.2 97 i) (s : stk x y src i Ah P Bh) : Bh ≠ [] := by
  cases i with
  | zero => intro e; rw [s.2.1, e] at w1; exact absurd w1 (by decide)
  | succ i =>
    rcases s with ⟨s1, Wt, Bh', e, s2, s3, s4⟩ | ⟨s1, _⟩
    · intro h
      rw [e] at h
      have := (List.append_eq_nil_iff.mp h).1
      rw [s2, this] at w1
      exact absurd w1 (by decide)
    · rw [a0] at s1; exact absurd s1 (by decide)
theorem stk_neA {x y : KS} {src : List Int} {i : Nat} {Ah P Bh : List Int} (a0 : y.2 99 i = 1) (w1 : 0 < y.2 97 i) (s : stk x y src i Ah P Bh) : Ah ≠ [] := by
  cases i with
  | zero => rw [s.2.2.1] at a0; exact absurd a0 (by decide)
  | succ i =>
    rcases s with ⟨s1, _⟩ | ⟨s1, Wt, Ah', e, s2, s3, s4⟩
    · rw [a0] at s1; exact absurd s1 (by decide)
    · intro h
      rw [e] at h
      have := (List.append_eq_nil_iff.mp h).2
      rw [s2, this] at w1
      exact absurd w1 (by decide)
/-- a LETTER is taken from those that wait at the top level -/
def gTk (y : KS) : KS := kA (kA y 97 (lvl y) (y.2 97 (lvl y) - 1)) 98 (lvl y) (y.2 98 (lvl y) + 1)
theorem gTk_T (y : KS) : lvT y (gTk y) (lvl y) (y.2 97 (lvl y) - 1) (y.2 98 (lvl y) + 1) := by
  unfold lvT gTk
  refine ⟨?_, ?_, ?_, ?_, ?_, ?_⟩
  · rw [kA_c (by decide), kA_c (by decide)]
  · rw [kA_c (by decide), kA_c (by decide)]
  · rw [kA_c (by decide), kA_s]
  · rw [kA_s, kA_c (by decide)]
  · rw [kA_c (by decide), kA_c (by decide)]
  · rw [kA_c (by decide), kA_c (by decide)]
theorem lvT_fr {S : List (Nat × Nat)} {A : List Nat} {y z u : KS} {i : Nat} {w d : Int} (h : lvT y z i w d) (f : ksame S A z u) (hA : ∀ a ∈ A, a ∉ [95, 96, 97, 98, 99, 100]) : lvT y u i w d := by
  have a1 : ∀ a, a ∈ [95, 96, 97, 98, 99, 100] → a ∉ A := fun a ha hb => hA a hb ha
  unfold lvT
  rw [f.2 95 (a1 95 (by decide)), f.2 96 (a1 96 (by decide)), f.2 97 (a1 97 (by decide)), f.2 98 (a1 98 (by decide)), f.2 99 (a1 99 (by decide)), f.2 100 (a1 100 (by decide))]
  exact h
theorem lvl_fr {S : List (Nat × Nat)} {A : List Nat} {y z : KS} (h : ksame S A y z) (h1 : (87, 13) ∉ S) : lvl z = lvl y := by unfold lvl; rw [h.1 87 13 h1]
/-- the row and what is behind, when a LETTER comes from behind -/
def gBk (y : KS) : KS := (F_w_push (F_w_dropLast (gTk y) 90).2 88 (F_w_dropLast (gTk y) 90).1).2
theorem gBk_v {x y : KS} {src Ah P Bt : List Int} {l : Int} (g : grL x y src Ah P (Bt ++ [l])) : gBk y = kA (kS (kS (gTk y) 90 1 ((Bt.length : Nat) : Int)) 88 1 (((Ah ++ P).length : Int) + 1)) 89 (Ah ++ P).length l ∧ (F_w_push (F_w_dropLast (gTk y) 90).2 88 (F_w_dropLast (gTk y) 90).1).1 = 1 := by
  obtain ⟨sm, w88, w90, fr, ok1, ok2, h60, lv, st, low, kn, gw⟩ := g
  have e90 : (gTk y).1 90 1 = ((Bt.length : Nat) : Int) + 1 := by
    unfold gTk
    rw [kA_1, kA_1, w90.1, List.length_append, List.length_singleton]
    push_cast
    rfl
  have e88 : (gTk y).1 88 1 = ((Ah ++ P).length : Int) := by unfold gTk; rw [kA_1, kA_1, w88.1]
  have e91 : (gTk y).2 91 Bt.length = l := by
    unfold gTk
    rw [kA_c (by decide), kA_c (by decide)]
    exact tk_at (P := Bt) (Q := []) w90.2
  rw [List.length_append, List.length_singleton] at h60
  have hl : (Ah ++ P).length = Ah.length + P.length := List.length_append
  have d := F_w_dropLast_90 (x := gTk y) (by omega) (by omega)
  rw [e90, show (Bt.length : Int) + 1 - 1 = (Bt.length : Int) by omega, Int.toNat_natCast, e91] at d
  unfold gBk
  rw [d]
  have e88' : (kS (gTk y) 90 1 ((Bt.length : Nat) : Int)).1 88 1 = ((Ah ++ P).length : Int) := by rw [kS_c (by decide), e88]
  have p := F_w_push_88 (x := kS (gTk y) 90 1 ((Bt.length : Nat) : Int)) (v := l) (by omega) (by omega)
  rw [e88', Int.toNat_natCast] at p
  rw [p]
  exact ⟨rfl, rfl⟩
theorem grW_tk {y : KS} (gw : grW y) (w1 : 0 < y.2 97 (lvl y)) (h2 : y.2 98 (lvl y) < 1000) : grW (gTk y) := by
  obtain ⟨g1, g2, g3, g4, g5, g6, g7, g8, g9, g10⟩ := gw
  unfold grW
  have t := gTk_T y
  have e : ∀ q, q ≠ 97 → q ≠ 98 → (gTk y).2 q = y.2 q := fun q a b => by unfold gTk; rw [kA_c b, kA_c a]
  rw [e 89 (by decide) (by decide), e 91 (by decide) (by decide), e 93 (by decide) (by decide), e 94 (by decide) (by decide), t.1, t.2.1, t.2.2.1, t.2.2.2.1, t.2.2.2.2.1, t.2.2.2.2.2]
  refine ⟨g1, g2, g3, g4, g5, g6, ?_, ?_, g9, g10⟩
  · have := g7 (lvl y)
    exact iU_all (P := fun z => 0 ≤ z ∧ z ≤ 60) ⟨by omega, by omega⟩ g7
  · have := g8 (lvl y)
    exact iU_all (P := fun z => 0 ≤ z ∧ z ≤ 1000) ⟨by omega, by omega⟩ g8
theorem mc_ok3 {x : KS} (m : mcX x) {l : Int} (h : 0 ≤ l ∧ l < (nL x : Int)) : 0 ≤ l ∧ l ≤ 3 := by have := nL_b m.1; omega
/-- idle LETTERS are LETTERS of the part -/
theorem stk_idle_le {x y : KS} {src : List Int} {i : Nat} {Ah P Bh : List Int} (hi : 1 ≤ i) (s : stk x y src i Ah P Bh) (w0 : y.2 100 i = 0) : y.2 98 i ≤ (P.length : Int) := by
  cases i with
  | zero => omega
  | succ i =>
    rcases s with ⟨s1, Wt, Bh', e, s2, s3, s4⟩ | ⟨s1, Wt, Ah', e, s2, s3, s4⟩
    · obtain ⟨b, K, hb, ok, hK, k1, k2, f1, f2, f3⟩ := s3
      obtain ⟨g1, A, I, B, m1, m2, m3, m4⟩ := f2 w0 s1
      rw [m2, List.length_append]
      omega
    · obtain ⟨b, K, hb, ok, hK, k1, k2, f1, f2, f3⟩ := s3
      obtain ⟨g1, A, I, B, m1, m2, m3, m4⟩ := f3 w0 s1
      rw [m2, List.length_append]
      omega
theorem old_end {x : KS} (m : mcX x) (P : Nat → Int) (f k : Nat) (U : List Int) : old x P f (f + U.length) k U := ⟨[], U.length, by omega, by rw [List.drop_of_length_le (Nat.le_refl _)]; exact noL_nil m, fun j h1 _ h3 => by omega⟩
/-- a LETTER comes from behind -/
theorem F_g_grow_B {x y : KS} (mx : mcX x) {src Ah P Bt : List Int} {l : Int} (g : grI x y src Ah P (Bt ++ [l])) (a0 : y.2 99 (lvl y) = 0) (w1 : 0 < y.2 97 (lvl y)) (h2 : y.2 98 (lvl y) < 1000) :
    ((F_g_grow (gTk y)).1 = 0 ∧ grI x (F_g_grow (gTk y)).2 src Ah (P ++ [l]) Bt ∧ lvl (F_g_grow (gTk y)).2 = lvl y) ∨ ((F_g_grow (gTk y)).1 = 1 ∧ lvl (F_g_grow (gTk y)).2 = lvl y ∧ grB x (kA (F_g_grow (gTk y)).2 98 (lvl y) 0) src Ah (P ++ [l]) Bt) := by
  obtain ⟨gl, nP, pl⟩ := g
  obtain ⟨bv, b1⟩ := gBk_v gl
  obtain ⟨sm, w88, w90, fr, ok1, ok2, h60, lv, st, low, kn, gw⟩ := gl
  have okl : 0 ≤ l ∧ l < (nL x : Int) := ok2 l (List.mem_append_right _ (List.mem_singleton.mpr rfl))
  have hlA : (Ah ++ P).length = Ah.length + P.length := List.length_append
  rw [List.length_append, List.length_singleton] at h60
  -- the state that is read
  have sT : ksame [] [97, 98] y (gTk y) := km_a (by decide) (km_a (by decide) (km_rf _ _ _))
  have sB : ksame [(90, 1), (88, 1)] [97, 98, 89] y (gBk y) := by
    rw [bv]
    exact km_a (by decide) (km_s (by decide) (km_s (by decide) (km_mono (by decide) (by decide) sT)))
  have smB : sM x (gBk y) := sM_tr sm (sM_of sB (by unfold sMs; decide) (by unfold sMa; decide))
  have wB : wL (gBk y) 88 (Ah ++ (P ++ [l])) := by
    rw [bv, ← List.append_assoc]
    have h0 : wL (kS (gTk y) 90 1 ((Bt.length : Nat) : Int)) 88 (Ah ++ P) := wL_fr (S := [(90, 1)]) (A := []) (km_s (by decide) (km_rf _ _ _)) (by decide) (by decide) (wL_fr sT (by decide) (by decide) w88)
    exact wL_push (l := l) (v := ((Ah ++ P).length : Int)) h0 h0.1.symm
  have wB2 : wL (gBk y) 90 Bt := by
    rw [bv]
    refine ⟨by rw [kA_1, kS_c (by decide), kS_s], ?_⟩
    rw [kA_c (by decide), kS_2, kS_2, sT.2 91 (by decide)]
    have := congrArg (List.take Bt.length) w90.2
    rw [tk_take _ (by rw [List.length_append]; omega), List.take_left] at this
    exact this
  have lT : lvT y (gBk y) (lvl y) (y.2 97 (lvl y) - 1) (y.2 98 (lvl y) + 1) := by
    refine lvT_fr (S := [(90, 1), (88, 1)]) (A := [89]) (gTk_T y) ?_ (by decide)
    rw [bv]
    exact km_a (by decide) (km_s (by decide) (km_s (by decide) (km_rf _ _ _)))
  have okW : okL (nL x) (Ah ++ (P ++ [l])) := by rw [← List.append_assoc]; exact okL_app.mpr ⟨ok1, okL_1 okl.1 okl.2⟩
  have e94 : (gBk y).2 94 = y.2 94 := sB.2 94 (by decide)
  have rd := F_a_read_x (f := Ah.length) (g := Ah.length + (P ++ [l]).length) (A := P) (Z := [l]) mx okW smB wB (by rw [List.length_append, List.length_append, List.length_singleton]; omega) (List.drop_left) (by rw [List.length_append]; omega) nP (fun j hj => by
    rw [e94]
    have := pl j hj
    unfold plQ at this ⊢
    rw [List.take_append_of_le_length hj]
    exact this) (old_end mx _ _ _ _) (by omega)
  -- the call
  have u88 : (gBk y).1 88 1 = ((Ah.length + P.length + 1 : Nat) : Int) := by rw [wB.1, List.length_append, List.length_append, List.length_singleton]; push_cast; omega
  have eF : F_g_grow (gTk y) = if (F_a_read (gBk y) ((Ah.length + P.length : Nat) : Int) ((Ah.length + (P ++ [l]).length : Nat) : Int)).1 < 0 then (0, (F_a_read (gBk y) ((Ah.length + P.length : Nat) : Int) ((Ah.length + (P ++ [l]).length : Nat) : Int)).2) else (1, (F_a_read (gBk y) ((Ah.length + P.length : Nat) : Int) ((Ah.length + (P ++ [l]).length : Nat) : Int)).2) := by
    have c1 : (gTk y).2 99 ((gTk y).1 87 13).toNat = 0 := by rw [sT.1 87 13 (by decide), sT.2 99 (by decide)]; exact a0
    unfold F_g_grow
    rw [if_pos c1]
    show (if (F_a_read (gBk y) ((gBk y).1 88 1 - 1) ((gBk y).1 88 1)).1 < 0 then _ else _) = _
    have e1 : (gBk y).1 88 1 - 1 = ((Ah.length + P.length : Nat) : Int) := by rw [u88]; push_cast; omega
    have e2 : (gBk y).1 88 1 = ((Ah.length + (P ++ [l]).length : Nat) : Int) := by rw [u88, List.length_append, List.length_singleton]; push_cast; omega
    show (if (F_a_read (gBk y) ((gBk y).1 88 1 - 1) ((gBk y).1 88 1)).1 < 0 then ((0 : Int), (F_a_read (gBk y) ((gBk y).1 88 1 - 1) ((gBk y).1 88 1)).2) else ((1 : Int), (F_a_read (gBk y) ((gBk y).1 88 1 - 1) ((gBk y).1 88 1)).2)) = _
    rw [e1, e2]
  have frR := F_a_read_fr (gBk y) ((Ah.length + P.length : Nat) : Int) ((Ah.length + (P ++ [l]).length : Nat) : Int)
  have gwB : grW (gBk y) := by
    have g0 := grW_tk gw w1 h2
    rw [bv]
    obtain ⟨g1, g2⟩ := g0
    refine ⟨?_, g2⟩
    rw [kA_s]
    exact iU_all (P := fun z => 0 ≤ z ∧ z ≤ 3) (mc_ok3 mx okl) g1
  have gwR := grW_read mx smB (f := ((Ah.length + P.length : Nat) : Int)) (g := ((Ah.length + (P ++ [l]).length : Nat) : Int)) gwB
  rw [eF]
  generalize hR : F_a_read (gBk y) ((Ah.length + P.length : Nat) : Int) ((Ah.length + (P ++ [l]).length : Nat) : Int) = R at rd frR gwR
  have fyR : ksame [(90, 1), (88, 1), (64, 8)] [97, 98, 89, 94] y R.2 := km_tr (km_mono (by decide) (by decide) sB) (km_mono (by decide) (by decide) frR)
  have lTR : lvT y R.2 (lvl y) (y.2 97 (lvl y) - 1) (y.2 98 (lvl y) + 1) := lvT_fr lT frR (by decide)
  have sT2 := stk_behind (x := x) (src := src) (Ah := Ah) (P := P) (Bt := Bt.reverse) (l := l) lTR a0 w1 (by rw [List.reverse_append, List.reverse_singleton] at st; exact st)
  have lR : lvl R.2 = lvl y := lvl_fr fyR (by decide)
  have glR : grL x R.2 src Ah (P ++ [l]) Bt := by
    refine ⟨sM_tr smB (sM_of frR (by unfold sMs; decide) (by unfold sMa; decide)), wL_fr frR (by decide) (by decide) wB, wL_fr frR (by decide) (by decide) wB2, by rw [fyR.1 87 12 (by decide)]; exact fr, okW, (okL_app.mp ok2).1, by rw [List.length_append, List.length_singleton]; omega, by rw [fyR.1 87 13 (by decide)]; exact lv, by rw [lR]; exact sT2, fun j h1 h3 => ?_, knI_of fyR (by decide) (by decide) (by decide) (by decide) (by decide) kn, gwR⟩
    rw [lR] at h3
    rw [lTR.2.2.1, lTR.2.2.2.1, iU_n (by omega), iU_n (by omega)]
    exact low j h1 h3
  rcases rd with ⟨k1, k2, k3⟩ | ⟨j, k1, k2, k3, k4, k5, k6, q, a, k7, k8, k9⟩
  · rw [k1, if_pos (by decide)]
    exact Or.inl ⟨rfl, ⟨glR, k2, k3⟩, lR⟩
  · rw [k1, if_neg (by omega)]
    rw [List.length_append, List.length_singleton] at k3
    have ej : j = P.length := by omega
    subst ej
    rw [List.take_of_length_le (by simp)] at k9
    have fz : ksame [] [98] R.2 (kA R.2 98 (lvl y) 0) := km_a (by decide) (km_rf _ _ _)
    have lz : lvl (kA R.2 98 (lvl y) 0) = lvl y := lR
    have lTz : lvT R.2 (kA R.2 98 (lvl y) 0) (lvl y) (R.2.2 97 (lvl y)) 0 := by
      unfold lvT
      refine ⟨kA_c (by decide), kA_c (by decide), ?_, by rw [kA_s], kA_c (by decide), kA_c (by decide)⟩
      rw [kA_c (by decide)]
      funext k
      rw [iU_if]
      split
      · rename_i h; rw [h]
      · rfl
    refine Or.inr ⟨rfl, lR, ?_, by rw [lz, kA_s, iU_s], by rw [lz, kA_c (by decide), lTR.2.2.2.2.1]; exact a0, P, l, rfl, nP, fun i hi => ?_, q, a, k7, k8, k9⟩
    · obtain ⟨s1, s2, s3, s4, s5, s6, s7, s8, s9, s10, s11, s12⟩ := glR
      refine ⟨sM_tr s1 (sM_of fz (by unfold sMs; decide) (by unfold sMa; decide)), wL_fr fz (by decide) (by decide) s2, wL_fr fz (by decide) (by decide) s3, s4, s5, s6, s7, s8, ?_, fun j h1 h3 => ?_, knI_of fz (by decide) (by decide) (by decide) (by decide) (by decide) s11, ?_⟩
      · rw [lR] at s9
        rw [lz]
        exact stk_idle mx lTz s9
      · rw [lz] at h3
        rw [kA_c (by decide), kA_s, iU_n (by omega)]
        exact s10 j h1 (by rw [lR]; exact h3)
      · obtain ⟨g1, g2, g3, g4, g5, g6, g7, g8, g9⟩ := s12
        refine ⟨g1, g2, g3, g4, g5, g6, g7, ?_, g9⟩
        rw [kA_s]
        exact iU_all (P := fun z => 0 ≤ z ∧ z ≤ 1000) ⟨by decide, by decide⟩ g8
    · have := k5 i hi
      rw [kA_c (by decide)]
      exact this
