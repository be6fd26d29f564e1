-- deps: 30 31 32 33 34 35 36 37 38 39 40 41 42 43 46 70 71 72 73 74 75 76 77 78 79 80 81 82 83 84 85 86 87 88 89 90 91 92 93 94.a 94.b
/-! a LETTER comes back ahead -/
def gAk (y : KS) : KS := kA (kS (gTk y) 87 12 (max (y.1 87 12 - 1) 0)) 94 (max (y.1 87 12 - 1) 0).toNat 0
theorem F_g_grow_A {x y : KS} (mx : mcX x) {src Ah P B : List Int} {l : Int} (g : grI x y src (Ah ++ [l]) P B) (a0 : y.2 99 (lvl y) = 1) (w1 : 0 < y.2 97 (lvl y)) (h2 : y.2 98 (lvl y) < 1000) :
    ((F_g_grow (gTk y)).1 = 0 ∧ grI x (F_g_grow (gTk y)).2 src Ah (l :: P) B ∧ lvl (F_g_grow (gTk y)).2 = lvl y) ∨ ((F_g_grow (gTk y)).1 = 1 ∧ lvl (F_g_grow (gTk y)).2 = lvl y ∧ grA x (kA (F_g_grow (gTk y)).2 98 (lvl y) 0) src Ah (l :: P) B) := by
  obtain ⟨gl, nP, pl⟩ := g
  obtain ⟨sm, w88, w90, fr, ok1, ok2, h60, lv, st, low, kn, gw⟩ := gl
  have okl : 0 ≤ l ∧ l < (nL x : Int) := ok1 l (List.mem_append_left _ (List.mem_append_right _ (List.mem_singleton.mpr rfl)))
  rw [List.length_append, List.length_singleton] at h60 fr
  have ef : max (y.1 87 12 - 1) 0 = (Ah.length : Int) := by rw [fr]; push_cast; omega
  have sT : ksame [] [97, 98] y (gTk y) := km_a (by decide) (km_a (by decide) (km_rf _ _ _))
  have sB : ksame [(87, 12)] [97, 98, 94] y (gAk y) := km_a (by decide) (km_s (by decide) (km_mono (by decide) (by decide) sT))
  have smB : sM x (gAk y) := sM_tr sm (sM_of sB (by unfold sMs; decide) (by unfold sMa; decide))
  have eW : Ah ++ (l :: P) = (Ah ++ [l]) ++ P := by simp
  have wB : wL (gAk y) 88 (Ah ++ (l :: P)) := by rw [eW]; exact wL_fr sB (by decide) (by decide) w88
  have wB2 : wL (gAk y) 90 B := wL_fr sB (by decide) (by decide) w90
  have lT : lvT y (gAk y) (lvl y) (y.2 97 (lvl y) - 1) (y.2 98 (lvl y) + 1) := lvT_fr (S := [(87, 12)]) (A := [94]) (gTk_T y) (km_a (by decide) (km_s (by decide) (km_rf _ _ _))) (by decide)
  have okW : okL (nL x) (Ah ++ (l :: P)) := by rw [eW]; exact ok1
  have e94 : (gAk y).2 94 = iU (y.2 94) Ah.length 0 := by
    unfold gAk
    rw [kA_s, kS_2, sT.2 94 (by decide), ef, Int.toNat_natCast]
  have ml := mx.2.2.2.2.2
  have lst0 : lsx (lS x) (nR x) [] (stS x (0 : Int).toNat) := by
    rw [show (0 : Int).toNat = 0 from rfl, ml.2.2.2.1]
    exact lsx_nil _ _
  have oo : old x ((gAk y).2 94) Ah.length Ah.length 0 (l :: P) := by
    refine ⟨[], 1, Nat.le_refl _, nP, fun j _ _ hj => ?_⟩
    rw [List.length_cons] at hj
    have := pl j (by omega)
    rw [List.length_append, List.length_singleton] at this
    rw [e94, iU_n (by omega), show Ah.length + (j + 1) = Ah.length + 1 + j by omega]
    exact this
  have rd := F_a_read_x (f := Ah.length) (g := Ah.length) (A := []) (Z := l :: P) mx okW smB wB (by rw [List.length_append, List.length_cons]; omega) (List.drop_left) (by rw [List.length_append]; omega) (noL_nil mx) (fun j hj => by
    have ej : j = 0 := by simpa using hj
    subst ej
    unfold plQ
    rw [e94, Nat.add_zero, iU_s, List.take_zero]
    exact ⟨⟨Int.le_refl _, by have := ml.2.2.1; omega⟩, lst0⟩) oo (by omega)
  have eF : F_g_grow (gTk y) = if (F_a_read (gAk y) ((Ah.length + ([] : List Int).length : Nat) : Int) (Ah.length : Int)).1 < 0 then (0, (F_a_read (gAk y) ((Ah.length + ([] : List Int).length : Nat) : Int) (Ah.length : Int)).2) else (1, (F_a_read (gAk y) ((Ah.length + ([] : List Int).length : Nat) : Int) (Ah.length : Int)).2) := by
    have c1 : ¬ (gTk y).2 99 ((gTk y).1 87 13).toNat = 0 := by
      rw [sT.1 87 13 (by decide), sT.2 99 (by decide)]
      show ¬ y.2 99 (lvl y) = 0
      rw [a0]
      decide
    unfold F_g_grow
    rw [if_neg c1]
    have e12 : (gTk y).1 87 12 = y.1 87 12 := sT.1 87 12 (by decide)
    have eA : kA (kS (gTk y) 87 12 (max (y.1 87 12 - 1) 0)) 94 (max (y.1 87 12 - 1) 0).toNat 0 = gAk y := rfl
    rw [e12, eA, ef]
    rfl
  have frR := F_a_read_fr (gAk y) ((Ah.length + ([] : List Int).length : Nat) : Int) (Ah.length : Int)
  have gwB : grW (gAk y) := by
    obtain ⟨g1, g2, g3, g4, g5⟩ := grW_tk gw w1 h2
    refine ⟨g1, g2, g3, ?_, g5⟩
    unfold gAk
    rw [kA_s]
    exact iU_all (P := fun z => -1000 ≤ z ∧ z < 320) ⟨by decide, by decide⟩ g4
  have gwR := grW_read mx smB (f := ((Ah.length + ([] : List Int).length : Nat) : Int)) (g := (Ah.length : Int)) gwB
  rw [eF]
  rw [List.nil_append] at rd
  generalize hR : F_a_read (gAk y) ((Ah.length + ([] : List Int).length : Nat) : Int) (Ah.length : Int) = R at rd frR gwR
  have fyR : ksame [(87, 12), (64, 8)] [97, 98, 94] y R.2 := km_tr (km_mono (by decide) (by decide) sB) (km_mono (by decide) (by decide) frR)
  have lTR : lvT y R.2 (lvl y) (y.2 97 (lvl y) - 1) (y.2 98 (lvl y) + 1) := lvT_fr lT frR (by decide)
  have sT2 := stk_ahead (x := x) (src := src) (Ah := Ah) (P := P) (Bh := B.reverse) (l := l) lTR a0 w1 st
  have lR : lvl R.2 = lvl y := lvl_fr fyR (by decide)
  have glR : grL x R.2 src Ah (l :: P) B := by
    refine ⟨sM_tr smB (sM_of frR (by unfold sMs; decide) (by unfold sMa; decide)), wL_fr frR (by decide) (by decide) wB, wL_fr frR (by decide) (by decide) wB2, ?_, okW, ok2, by rw [List.length_cons]; omega, by rw [fyR.1 87 13 (by decide)]; exact lv, by rw [lR]; exact sT2, fun j h1 h3 => ?_, knI_of fyR (by decide) (by decide) (by decide) (by decide) (by decide) kn, gwR⟩
    · rw [frR.1 87 12 (by decide)]
      unfold gAk
      rw [kA_1, kS_s, ef]
    · rw [lR] at h3
      rw [lTR.2.2.1, lTR.2.2.2.1, iU_n (by omega), iU_n (by omega)]
      exact low j h1 h3
  rcases rd with ⟨k1, k2, k3⟩ | ⟨j, k1, k2, k3, k4, k5, k6, q, a, k7, k8, k9⟩
  · rw [k1, if_pos (by decide)]
    exact Or.inl ⟨rfl, ⟨glR, k2, k3⟩, lR⟩
  · rw [k1, if_neg (by omega)]
    rw [List.length_cons] at k3
    -- the LEFT side begins the part
    have ea : a = [] := by
      cases a with
      | nil => rfl
      | cons c a =>
        exfalso
        rw [List.take_succ_cons] at k9
        have e1 : P.take j = a ++ lS x q := (List.cons.inj k9).2
        refine nP q k7 a (P.drop j) ?_
        rw [← List.append_assoc, ← e1, List.take_append_drop]
    subst ea
    rw [List.nil_append] at k9
    have ql : (lS x q).length = j + 1 := by rw [← k9, List.length_take, List.length_cons]; omega
    have fz : ksame [] [98] R.2 (kA R.2 98 (lvl y) 0) := km_a (by decide) (km_rf _ _ _)
    have lz : lvl (kA R.2 98 (lvl y) 0) = lvl y := lR
    have lTz : lvT R.2 (kA R.2 98 (lvl y) 0) (lvl y) (R.2.2 97 (lvl y)) 0 := by
      unfold lvT
      refine ⟨kA_c (by decide), kA_c (by decide), ?_, by rw [kA_s], kA_c (by decide), kA_c (by decide)⟩
      rw [kA_c (by decide)]
      funext k
      rw [iU_if]
      split
      · rename_i h; rw [h]
      · rfl
    refine Or.inr ⟨rfl, lR, ?_, by rw [lz, kA_s, iU_s], by rw [lz, kA_c (by decide), lTR.2.2.2.2.1]; exact a0, P, l, rfl, nP, ?_, q, (l :: P).drop (j + 1), k7, k8, by rw [← k9, List.take_append_drop], fun i h1 h3 => ?_⟩
    · obtain ⟨s1, s2, s3, s4, s5, s6, s7, s8, s9, s10, s11, s12⟩ := glR
      refine ⟨sM_tr s1 (sM_of fz (by unfold sMs; decide) (by unfold sMa; decide)), wL_fr fz (by decide) (by decide) s2, wL_fr fz (by decide) (by decide) s3, s4, s5, s6, s7, s8, ?_, fun j h1 h3 => ?_, knI_of fz (by decide) (by decide) (by decide) (by decide) (by decide) s11, ?_⟩
      · rw [lR] at s9
        rw [lz]
        exact stk_idle mx lTz s9
      · rw [lz] at h3
        rw [kA_c (by decide), kA_s, iU_n (by omega)]
        exact s10 j h1 (by rw [lR]; exact h3)
      · obtain ⟨g1, g2, g3, g4, g5, g6, g7, g8, g9⟩ := s12
        refine ⟨g1, g2, g3, g4, g5, g6, g7, ?_, g9⟩
        rw [kA_s]
        exact iU_all (P := fun z => 0 ≤ z ∧ z ≤ 1000) ⟨by decide, by decide⟩ g8
    · rw [kA_c (by decide)]
      exact k5 0 (Nat.zero_le _)
    · rw [kA_c (by decide), k6 (Ah.length + (i + 1)) (by omega), e94, iU_n (by omega)]
      have := pl i h3
      rw [List.length_append, List.length_singleton] at this
      rw [show Ah.length + (i + 1) = Ah.length + 1 + i by omega]
      exact this
