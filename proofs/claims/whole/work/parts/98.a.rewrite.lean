-- deps: 30 31 32 33 34 35 36 37 38 39 40 41 42 43 46 70 71 72 73 74 75 76 77 78 79 80 81 82 83 84 85 86 87 88 89 90 91 92 93 94 95 97
/-! Rewriter.run: its parts as lists -/
/-- the source's LETTERS, the last one first, become what is to be read -/
def F_r_run_s (w1 : Nat) : Nat → KS → Int → KS
  | 0, x, _ => x
  | n + 1, x, i => if i < 0 then x else F_r_run_s w1 n (kA (kS x 70 4 (x.1 70 4 + 1)) 71 (x.1 70 4).toNat (x.2 (w1 + 1) i.toNat)) (i + -1)
theorem F_r_run_s_x {w1 : Nat} (hw : kW w1 = true) : ∀ (n : Nat) (y : KS) (P T : List Int), wL y w1 (P ++ T) → 0 ≤ y.1 70 4 → rL y = T → P.length < n → rL (F_r_run_s w1 n y ((P.length : Int) - 1)) = P ++ T ∧ ksame [(70, 4)] [71] y (F_r_run_s w1 n y ((P.length : Int) - 1)) ∧ (F_r_run_s w1 n y ((P.length : Int) - 1)).1 70 4 = y.1 70 4 + P.length := by
  have w71 : w1 + 1 ≠ 71 := kR_ne hw rfl
  have w70 : w1 ≠ 70 := kW_ne hw rfl
  intro n
  induction n with
  | zero => intro y P T _ _ _ h; exfalso; omega
  | succ n ih =>
    intro y P T h h0 hr hn
    by_cases hP : P = []
    · subst hP
      have e : F_r_run_s w1 (n + 1) y ((([] : List Int).length : Int) - 1) = y := by
        show (if (([] : List Int).length : Int) - 1 < 0 then y else _) = y
        rw [if_pos (by show ((0 : Nat) : Int) - 1 < 0; decide)]
      rw [e]
      refine ⟨hr, km_rf _ _ _, ?_⟩
      show y.1 70 4 = y.1 70 4 + ((0 : Nat) : Int)
      omega
    · obtain ⟨Q, l, eP⟩ := snoc_of P hP
      subst eP
      have hl : ((Q ++ [l]).length : Int) - 1 = (Q.length : Int) := by rw [List.length_append, List.length_singleton]; push_cast; omega
      have e : F_r_run_s w1 (n + 1) y (((Q ++ [l]).length : Int) - 1) = F_r_run_s w1 n (kA (kS y 70 4 (y.1 70 4 + 1)) 71 (y.1 70 4).toNat l) ((Q.length : Int) - 1) := by
        rw [hl]
        show (if (Q.length : Int) < 0 then y else F_r_run_s w1 n (kA (kS y 70 4 (y.1 70 4 + 1)) 71 (y.1 70 4).toNat (y.2 (w1 + 1) (Q.length : Int).toNat)) ((Q.length : Int) + -1)) = _
        rw [if_neg (by omega), Int.toNat_natCast, show (Q.length : Int) + -1 = (Q.length : Int) - 1 by omega]
        have h2 := h.2
        rw [show Q ++ [l] ++ T = Q ++ l :: T by simp] at h2
        rw [tk_at h2]
      rw [e]
      have er : rL (kA (kS y 70 4 (y.1 70 4 + 1)) 71 (y.1 70 4).toNat l) = l :: T := by
        unfold rL
        rw [kA_1, kS_s, kA_s, kS_2, show (y.1 70 4 + 1).toNat = (y.1 70 4).toNat + 1 by omega, tk_s, iU_s, tk_iU (Nat.le_refl _), List.reverse_append]
        unfold rL at hr
        rw [hr]
        rfl
      have fz : ksame [(70, 4)] [71] y (kA (kS y 70 4 (y.1 70 4 + 1)) 71 (y.1 70 4).toNat l) := km_a (by decide) (km_s (by decide) (km_rf _ _ _))
      have wz : wL (kA (kS y 70 4 (y.1 70 4 + 1)) 71 (y.1 70 4).toNat l) w1 (Q ++ (l :: T)) := by
        have := wL_fr fz (by intro h9; simp at h9) (by intro h9; simp at h9; omega) h
        rw [show Q ++ [l] ++ T = Q ++ l :: T by simp] at this
        exact this
      have z4 : (kA (kS y 70 4 (y.1 70 4 + 1)) 71 (y.1 70 4).toNat l).1 70 4 = y.1 70 4 + 1 := by rw [kA_1, kS_s]
      obtain ⟨i1, i2, i3⟩ := ih _ Q (l :: T) wz (by rw [z4]; omega) er (by rw [List.length_append, List.length_singleton] at hn; omega)
      refine ⟨by rw [i1]; simp, km_tr fz i2, ?_⟩
      rw [i3, z4, List.length_append, List.length_singleton]
      push_cast
      omega
/-- what is to be read comes behind what is read -/
theorem F_r_putRestBack_s_x {w : Nat} (hw : kW w = true) (h60 : kL w = 60) {F : Nat → Int} : ∀ (n : Nat) (y : KS) (k : Nat) (T : List Int), wL y w T → y.2 71 = F → T.length + k ≤ 60 → k < n → (F_r_putRestBack_s w n 0 y ((k : Int) - 1)).1 = 1 ∧ wL (F_r_putRestBack_s w n 0 y ((k : Int) - 1)).2 w (T ++ (tk F k).reverse) := by
  have w71 : w + 1 ≠ 71 := kR_ne hw rfl
  intro n
  induction n with
  | zero => intro y k T _ _ _ h; exfalso; omega
  | succ n ih =>
    intro y k T h hF hl hn
    rw [F_r_putRestBack_e0]
    cases k with
    | zero =>
      rw [if_pos (by show ((0 : Nat) : Int) - 1 < 0; decide)]
      refine ⟨rfl, ?_⟩
      rw [show (tk F 0).reverse = [] from rfl, List.append_nil]
      exact h
    | succ k =>
      have e1 : ((k + 1 : Nat) : Int) - 1 = (k : Int) := by push_cast; omega
      rw [e1, if_neg (by omega), Int.toNat_natCast, hF]
      have pu : F_w_push y w (F k) = (1, kA (kS y w 1 (y.1 w 1 + 1)) (w + 1) (y.1 w 1).toNat (F k)) := by
        unfold F_w_push
        rw [h.1, if_neg (by omega), if_pos (by rw [h60]; show (T.length : Int) < 60; omega)]
      rw [pu, if_neg (by show ¬ (1 : Int) = 0; decide), show (k : Int) + -1 = (k : Int) - 1 by omega]
      have := ih (kA (kS y w 1 (y.1 w 1 + 1)) (w + 1) (y.1 w 1).toNat (F k)) k (T ++ [F k]) (wL_push h rfl) (by rw [kA_c (Ne.symm w71), kS_2]; exact hF) (by rw [List.length_append, List.length_singleton]; omega) (by omega)
      rw [tk_s, List.reverse_append, List.reverse_singleton, ← List.append_assoc]
      exact this
theorem F_r_putRestBack_x {y : KS} {w : Nat} (hw : kW w = true) (h60 : kL w = 60) {T : List Int} (h : wL y w T) (h0 : 0 ≤ y.1 70 4) (hl : (T.length : Int) + y.1 70 4 ≤ 60) : (F_r_putRestBack y w).1 = 1 ∧ wL (F_r_putRestBack y w).2 w (T ++ rL y) := by
  have := F_r_putRestBack_s_x hw h60 (F := y.2 71) 70 y (y.1 70 4).toNat T h rfl (by omega) (by omega)
  rw [Int.toNat_of_nonneg h0] at this
  exact this
/-- the plain way, from its beginning -/
theorem F_r_plain_x {x y : KS} (mx : mcX x) {w1 w2 : Nat} (hw1 : kW w1 = true) (hw2 : kW w2 = true) (h60 : kL w2 = 60) {W : List Int} (sm : sM x y) (h : wL y w1 W) (ok : okL (nL x) W) (hl : W.length ≤ 60) (p0 : y.2 72 0 = 0) : (F_r_readOn (F_w_wipe (F_r_run_s w1 70 (kS y 70 4 0) ((W.length : Int) - 1)) w2).2 w2).1 = 1 ∧ roI x (F_r_readOn (F_w_wipe (F_r_run_s w1 70 (kS y 70 4 0) ((W.length : Int) - 1)) w2).2 w2).2 w2 W := by
  have w70 : w1 ≠ 70 := kW_ne hw1 rfl
  have v70 : 70 ≠ w2 := w_ne hw2 rfl
  have f0 : ksame [(70, 4)] [] y (kS y 70 4 0) := km_s (by decide) (km_rf _ _ _)
  have h1 : wL (kS y 70 4 0) w1 (W ++ []) := by rw [List.append_nil]; exact wL_fr f0 (by intro h9; simp at h9) (by simp) h
  obtain ⟨r1, r2, r3⟩ := F_r_run_s_x hw1 70 (kS y 70 4 0) W [] h1 (by rw [kS_s]; exact Int.le_refl _) (by unfold rL; rw [kS_s]; rfl) (by omega)
  rw [List.append_nil] at r1
  rw [kS_s] at r3
  generalize F_r_run_s w1 70 (kS y 70 4 0) ((W.length : Int) - 1) = z at r1 r2 r3
  have fz : ksame [(70, 4)] [71] y z := km_tr (km_mono (by decide) (by decide) f0) r2
  have smz : sM x (F_w_wipe z w2).2 := sM_s (sM_tr sm (sM_of fz (by unfold sMs; decide) (by unfold sMa; decide))) (sMs_w hw2)
  have e0 : (F_w_wipe z w2).2 = kS z w2 1 0 := rfl
  have ew : wS (F_w_wipe z w2).2 w2 = [] := by rw [e0, wS_tk, kS_s]; rfl
  have er : rL (F_w_wipe z w2).2 = W := by rw [e0]; unfold rL at r1 ⊢; rw [kS_c v70, kS_2]; exact r1
  have u0 : (F_w_wipe z w2).2.1 w2 1 = 0 := by rw [e0, kS_s]
  have u4 : (F_w_wipe z w2).2.1 70 4 = (W.length : Int) := by rw [e0, kS_c v70, r3]; omega
  have l00 := lst0 mx
  refine F_r_readOn_x mx hw2 h60 ⟨smz, ⟨by rw [u0]; exact Int.le_refl _, by rw [u4]; omega, by rw [u0, u4]; omega⟩, by rw [ew]; exact fun l hl => absurd hl List.not_mem_nil, by rw [er]; exact ok, ?_, by rw [ew]; exact noL_nil mx, by rw [ew, er]; exact rch_rf _⟩
  intro j hj
  rw [ew] at hj ⊢
  have ej : j = 0 := by simpa using hj
  subst ej
  have z72 : (F_w_wipe z w2).2.2 72 0 = 0 := by rw [e0, kS_2, fz.2 72 (by decide)]; exact p0
  rw [z72]
  exact ⟨⟨Int.le_refl _, l00.1⟩, l00.2⟩
