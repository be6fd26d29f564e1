-- deps: B2.f
/-! letters answers alike and keeps the relation -/
theorem ltr_s : ∀ (n : Nat) (y : KS) (n0 b : Int) (i : Nat), i ≤ 8 → 8 - i < n → (F_t_letters_s n 0 y n0 b (i : Int)).1 = b ∧ ((F_t_letters_s n 0 y n0 b (i : Int)).2.1 0 14 = 0 ∧ (F_t_letters_s n 0 y n0 b (i : Int)).2.1 0 15 = 0 ∧ (F_t_letters_s n 0 y n0 b (i : Int)).2.1 0 16 = 0) ∧ (∀ j : Nat, i ≤ j → j < 8 → (F_t_letters_s n 0 y n0 b (i : Int)).2.1 (7 + 2 * j) 1 = 0) ∧ (∀ j : Nat, j < i → (F_t_letters_s n 0 y n0 b (i : Int)).2.1 (7 + 2 * j) 1 = y.1 (7 + 2 * j) 1) ∧ (F_t_letters_s n 0 y n0 b (i : Int)).2.1 4 1 = y.1 4 1 ∧ (F_t_letters_s n 0 y n0 b (i : Int)).2.1 1 = y.1 1 ∧ (F_t_letters_s n 0 y n0 b (i : Int)).2.2 = y.2 := by
  intro n
  induction n with
  | zero => intro y n0 b i h1 h2; exfalso; omega
  | succ n ih =>
    intro y n0 b i h1 h2
    rw [F_t_letters_e0]
    by_cases c : (8 : Int) ≤ (i : Int)
    · rw [if_pos c]
      have e : (F_t_forget (kS y 0 14 ((0 : Int)))).2 = kS (kS (kS y 0 14 0) 0 15 0) 0 16 0 := rfl
      rw [e]
      refine ⟨rfl, ⟨?_, ?_, ?_⟩, fun j a b => by exfalso; omega, fun j hj => ?_, ?_, ?_, rfl⟩
      · show (kS (kS (kS y 0 14 0) 0 15 0) 0 16 0).1 0 14 = 0; rw [kS_k (by decide), kS_k (by decide), kS_s]
      · show (kS (kS (kS y 0 14 0) 0 15 0) 0 16 0).1 0 15 = 0; rw [kS_k (by decide), kS_s]
      · show (kS (kS (kS y 0 14 0) 0 15 0) 0 16 0).1 0 16 = 0; rw [kS_s]
      · show (kS (kS (kS y 0 14 0) 0 15 0) 0 16 0).1 (7 + 2 * j) 1 = _; rw [kS_c (by omega), kS_c (by omega), kS_c (by omega)]
      · show (kS (kS (kS y 0 14 0) 0 15 0) 0 16 0).1 4 1 = _; rw [kS_c (by omega), kS_c (by omega), kS_c (by omega)]
      · show (kS (kS (kS y 0 14 0) 0 15 0) 0 16 0).1 1 = _; rw [kS_c (by omega), kS_c (by omega), kS_c (by omega)]
    · rw [if_neg c, Int.toNat_natCast]
      have e : (F_w_wipe y (7 + 2 * i)).2 = kS y (7 + 2 * i) 1 0 := rfl
      rw [e]
      have H := ih (kS y (7 + 2 * i) 1 0) n0 b (i + 1) (by omega) (by omega)
      have ci : ((i : Nat) : Int) + 1 = ((i + 1 : Nat) : Int) := by omega
      rw [ci]
      obtain ⟨a1, a2, a3, a4, a5, a6, a7⟩ := H
      refine ⟨a1, a2, fun j h3 h4 => ?_, fun j h3 => ?_, ?_, ?_, a7⟩
      · by_cases e2 : j = i
        · rw [e2, a4 i (by omega), kS_s]
        · exact a3 j (by omega) h4
      · rw [a4 j (by omega), kS_c (by omega)]
      · rw [a5, kS_c (by omega)]
      · rw [a6, kS_c (by omega)]
theorem mtr_s : ∀ (n : Nat) (y : MS) (n0 w : Int) (i : Nat), i ≤ 13 → 13 - i < n → (F_m_letters_s n 0 y n0 w (i : Int)).1 = w ∧ ((F_m_letters_s n 0 y n0 w (i : Int)).2.1 3 = 0 ∧ (F_m_letters_s n 0 y n0 w (i : Int)).2.1 6 = -9 ∧ (F_m_letters_s n 0 y n0 w (i : Int)).2.1 0 = y.1 0) ∧ (∀ j : Nat, i ≤ j → j < 13 → (F_m_letters_s n 0 y n0 w (i : Int)).2.2 1 j = 0) ∧ (∀ j : Nat, j < i → (F_m_letters_s n 0 y n0 w (i : Int)).2.2 1 j = y.2 1 j) ∧ same [3, 6] [1] y (F_m_letters_s n 0 y n0 w (i : Int)).2 := by
  intro n
  induction n with
  | zero => intro y n0 w i h1 h2; exfalso; omega
  | succ n ih =>
    intro y n0 w i h1 h2
    rw [F_m_letters_e0]
    by_cases c : (13 : Int) ≤ (i : Int)
    · rw [if_pos c]
      refine ⟨rfl, ⟨?_, ?_, ?_⟩, fun j a b => by exfalso; omega, fun j hj => rfl, sm_s (by decide) (sm_s (by decide) (sm_rf _ _ _))⟩
      · show (sU (sU y 3 0) 6 (-9)).1 3 = 0; rw [yS_n (by decide), yS_s]
      · show (sU (sU y 3 0) 6 (-9)).1 6 = -9; rw [yS_s]
      · show (sU (sU y 3 0) 6 (-9)).1 0 = _; rw [yS_n (by decide), yS_n (by decide)]
    · rw [if_neg c, Int.toNat_natCast]
      have H := ih (aU y 1 i 0) n0 w (i + 1) (by omega) (by omega)
      have ci : ((i : Nat) : Int) + 1 = ((i + 1 : Nat) : Int) := by omega
      rw [ci]
      obtain ⟨a1, a2, a3, a4, a5⟩ := H
      have u : ∀ j, (aU y 1 i 0).2 1 j = iU (y.2 1) i 0 j := fun j => rfl
      refine ⟨a1, a2, fun j h3 h4 => ?_, fun j h3 => ?_, sm_tr (sm_a (by decide) (sm_rf _ _ _)) a5⟩
      · by_cases e2 : j = i
        · rw [e2, a4 i (by omega), u, iU_s]
        · exact a3 j (by omega) h4
      · rw [a4 j (by omega), u, iU_n (by omega)]
theorem wG_0 {X : KS} {w : Nat} (e : X.1 w 1 = 0) (r : r03 (X.2 (w + 1))) : wG X w ∧ wS X w = [] := by
  have n : wS X w = [] := by unfold wS; rw [e]; rfl
  exact ⟨⟨by rw [e]; decide, r, by rw [n]; intro l hl; exact absurd hl List.not_mem_nil⟩, n⟩
theorem slM_0 {Y : MS} {k : Nat} (e : Y.2 1 k = 0) : slM Y k = [] ∧ slH Y k := by
  have n : slM Y k = [] := by unfold slM ltM; rw [e]; rfl
  exact ⟨n, by rw [e]; decide, by rw [n]; intro l hl; exact absurd hl List.not_mem_nil⟩
theorem letters_R {X : KS} {Y : MS} (h : Rel X Y) (n0 : Int) : (F_t_letters X n0).1 = (F_m_letters Y n0).1 ∧ Rel (F_t_letters X n0).2 (F_m_letters Y n0).2 := by
  obtain ⟨ki, mv, sw, wd, sn⟩ := id h
  have kh := ki.2.2.2.2.2.1
  have fr := F_t_letters_fr X n0
  have fm := F_m_letters_fr Y n0
  rcases in_v Y n0 1 4 with ⟨c, d⟩ | ⟨c, d⟩
  · have e1 : F_t_letters X n0 = (-2, X) := by
      unfold F_t_letters
      by_cases c1 : n0 < 1
      · rw [if_pos c1]
      · rw [if_neg c1, if_neg (by omega)]
    have e2 : F_m_letters Y n0 = (-2, Y) := by
      unfold F_m_letters
      rw [if_pos c]
    rw [e1, e2]
    exact ⟨rfl, h⟩
  · have e1 : F_t_letters X n0 = F_t_letters_s 20 0 (F_w_wipe (F_s_setLetters X n0).2 4).2 n0 (X.1 1 2) ((0 : Nat) : Int) := by
      unfold F_t_letters
      rw [if_neg (by omega), if_pos (by omega)]
      rfl
    have e2 : F_m_letters Y n0 = F_m_letters_s 20 0 (sU Y 0 n0) n0 (Y.1 0) ((0 : Nat) : Int) := by
      unfold F_m_letters
      rw [if_neg (by omega)]
      rfl
    have sx := ki.1.1
    have SX := F_s_setLetters_x (x := X) (n0 := n0) (by omega) (by omega) ⟨sx.1.2.2.1, sx.1.2.2.2.1⟩
    have a := ltr_s 20 (F_w_wipe (F_s_setLetters X n0).2 4).2 n0 (X.1 1 2) 0 (by omega) (by omega)
    have b := mtr_s 20 (sU Y 0 n0) n0 (Y.1 0) 0 (by omega) (by omega)
    rw [← e1] at a
    rw [← e2] at b
    generalize F_t_letters X n0 = Q at *
    generalize F_m_letters Y n0 = R at *
    obtain ⟨a1, ⟨a14, a15, a16⟩, a3, _, a5, a6, a7⟩ := a
    obtain ⟨b1, ⟨b3, b6, b0⟩, b4, _, b5⟩ := b
    have f2 := gm_of fr
    have w4 : Q.2.1 4 1 = 0 := by
      rw [a5]
      show (kS (F_s_setLetters X n0).2 4 1 0).1 4 1 = 0
      rw [kS_s]
    have c1 : Q.2.1 1 = (F_s_setLetters X n0).2.1 1 := by
      rw [a6]
      show (kS (F_s_setLetters X n0).2 4 1 0).1 1 = _
      rw [kS_c (by decide)]
    have c2 : Q.2.2 = (F_s_setLetters X n0).2.2 := a7
    have q12 : Q.2.1 1 2 = n0 := by rw [c1]; exact SX.2.1
    have y0 : R.2.1 0 = n0 := by rw [b0]; show (sU Y 0 n0).1 0 = n0; rw [yS_s]
    have sc : scX Q.2 := by
      unfold scX scR
      rw [c1, c2]
      exact SX.1
    have W : ∀ j : Nat, j < 8 → wG Q.2 (7 + 2 * j) ∧ wS Q.2 (7 + 2 * j) = [] := fun j hj => wG_0 (a3 j (Nat.zero_le _) hj) (by rw [fr.2 _ (by intro h9; simp at h9; omega)]; exact (kh.1 j hj).2.1)
    have W4 := wG_0 (X := Q.2) (w := 4) w4 (by rw [fr.2 5 (by decide)]; exact kh.2.2.1)
    have V : ∀ j : Nat, j < 9 → slM R.2 j = [] ∧ slH R.2 j := fun j hj => slM_0 (b4 j (Nat.zero_le _) (by omega))
    refine ⟨by rw [a1, b1]; exact sw.1, ⟨⟨sc, ?_, ?_, ?_⟩, ?_, ⟨by rw [a14]; decide, fun j hj => by rw [a14] at hj; exfalso; omega⟩, ?_, ?_, ⟨fun j hj => (W j hj).1, W4.1⟩, ?_, ?_⟩, ⟨?_, fun j hj => (V j hj).2, ?_, ?_, by rw [b6]; exact ⟨by decide, by decide⟩, ?_⟩, ⟨by rw [q12, y0], by rw [a14, b3], fun l hl => by rw [b3] at hl; exfalso; omega⟩, ⟨fun j hj => by rw [(W j hj).2, (V j (by omega)).1], by rw [W4.2, (V 8 (by omega)).1]⟩, Or.inl ⟨a15, b6⟩⟩
    · exact jnR_of fr (by decide) (by decide) ki.1.2.1
    · exact ruR_of fr (by decide) (by decide) (by decide) (by decide) (by decide) (by decide) ki.1.2.2.1
    · exact maR_of fr (by decide) (by decide) (by decide) ki.1.2.2.2
    · exact KB_k fr (by decide) (by decide) ki.2.1
    · exact KD_g f2 (by decide) ki.2.2.2.1
    · exact ⟨by rw [a15]; decide, by rw [a15]; exact sc.1.2.1.1, Or.inl a16, fun h9 => by rw [a16] at h9; exact absurd h9 (by decide)⟩
    · exact KJ_g f2 (by decide) (by decide) ki.2.2.2.2.2.2.1
    · exact KR_g f2 (by decide) ki.2.2.2.2.2.2.2
    · obtain ⟨h1, h2, h3, h4, h5, h6, h7, h8, h9, h10, h11⟩ := mv.1
      exact ⟨by rw [y0]; exact d, ⟨by rw [b3]; decide, fun l hl => by rw [b3] at hl; exfalso; omega⟩, by unfold lzR; rw [fm.2 4 (by decide)]; exact h3, by unfold lwR; rw [fm.2 5 (by decide)]; exact h4, by unfold fR; rw [fm.2 8 (by decide)]; exact h5, by unfold hdR; rw [fm.2 11 (by decide)]; exact h6, by unfold jOK; rw [fm.2 9 (by decide)]; exact h7, by unfold lfR; rw [fm.2 14 (by decide)]; exact h8, by unfold rtR; rw [fm.2 16 (by decide)]; exact h9, by unfold rwR; rw [fm.2 2 (by decide)]; exact h10, by unfold wyR; rw [fm.2 28 (by decide)]; exact h11⟩
    · rw [fm.2 29 (by decide), fm.2 30 (by decide)]; exact mv.2.2.1
    · rw [fm.2 32 (by decide), fm.2 33 (by decide)]; exact mv.2.2.2.1
    · rw [fm.1 27 (by decide)]; exact mv.2.2.2.2.2
