-- deps: 30 31 32 33 34 35 36 37 70 71 72 73 74 75
/-! the RULES, exactly: each side a list; RIGHT ahead of LEFT -/
theorem F_s_spanOf_s_cg {x y : KS} (h1 : y.1 1 = x.1 1) (h3 : y.2 3 = x.2 3) : ∀ (n : Nat) (v g : Int), (F_s_spanOf_s n 0 y v g).1 = (F_s_spanOf_s n 0 x v g).1 := by
  intro n
  induction n with
  | zero => intro v g; rfl
  | succ n ih =>
    intro v g
    rw [F_s_spanOf_e0, F_s_spanOf_e0, h1, h3]
    split
    · rfl
    · split
      · rfl
      · exact ih _ _
theorem F_s_spanOf_cg {x y : KS} (h1 : y.1 1 = x.1 1) (h3 : y.2 3 = x.2 3) (v : Int) : (F_s_spanOf y v).1 = (F_s_spanOf x v).1 := F_s_spanOf_s_cg h1 h3 _ _ _
theorem F_s_firstOf_cg {x y : KS} (h1 : y.1 1 = x.1 1) (h3 : y.2 3 = x.2 3) (v : Int) : (F_s_firstOf y v).1 = (F_s_firstOf x v).1 := by
  unfold F_s_firstOf
  rw [h1, h3]
  split
  · rfl
  · split <;> rfl
theorem F_s_codeOf_s_cg {x y : KS} (h1 : y.1 1 = x.1 1) : ∀ (n : Nat) (v g b q i : Int), (F_s_codeOf_s n 0 y v g b q i).1 = (F_s_codeOf_s n 0 x v g b q i).1 := by
  intro n
  induction n with
  | zero => intro v g b q i; rfl
  | succ n ih =>
    intro v g b q i
    rw [F_s_codeOf_e0, F_s_codeOf_e0, h1]
    split
    · rfl
    · exact ih _ _ _ _ _
theorem F_s_codeOf_cg {x y : KS} (h1 : y.1 1 = x.1 1) (h3 : y.2 3 = x.2 3) (v : Int) : (F_s_codeOf y v).1 = (F_s_codeOf x v).1 := by
  unfold F_s_codeOf
  rw [F_s_spanOf_cg h1 h3, F_s_firstOf_cg h1 h3]
  exact F_s_codeOf_s_cg h1 _ _ _ _ _ _
/-- what keep lays -/
theorem F_u_keep_v {x : KS} {a b : Int} (h : x.1 58 6 < 40) : (F_u_keep x a b).2.1 58 6 = x.1 58 6 + 1 ∧ (F_u_keep x a b).2.2 59 = iU (x.2 59) (x.1 58 6).toNat a ∧ (F_u_keep x a b).2.2 60 = iU (x.2 60) (x.1 58 6).toNat (F_s_spanOf x a).1 ∧ (F_u_keep x a b).2.2 62 = iU (x.2 62) (x.1 58 6).toNat (F_s_codeOf x a).1 ∧ (F_u_keep x a b).2.2 61 = iU (x.2 61) (x.1 58 6).toNat (F_s_spanOf x b).1 ∧ (F_u_keep x a b).2.2 63 = iU (x.2 63) (x.1 58 6).toNat (F_s_codeOf x b).1 := by
  unfold F_u_keep
  rw [if_pos h]
  refine ⟨rfl, rfl, ?_, ?_, ?_, ?_⟩
  · exact congrArg (iU (x.2 60) (x.1 58 6).toNat) (F_s_spanOf_cg (x := x) (by rfl) (by rfl) a)
  · exact congrArg (iU (x.2 62) (x.1 58 6).toNat) (F_s_codeOf_cg (x := x) (by rfl) (by rfl) a)
  · exact congrArg (iU (x.2 61) (x.1 58 6).toNat) (F_s_spanOf_cg (x := x) (by rfl) (by rfl) b)
  · exact congrArg (iU (x.2 63) (x.1 58 6).toNat) (F_s_codeOf_cg (x := x) (by rfl) (by rfl) b)
theorem F_s_spanOf_s_up {x : KS} (v : Int) : ∀ (n : Nat) (g : Int), x.1 1 3 - g < n → g ≤ x.1 1 3 → (F_s_spanOf_s n 0 x v g).1 = x.1 1 3 ∨ v < x.2 3 ((F_s_spanOf_s n 0 x v g).1 + 1).toNat := by
  intro n
  induction n with
  | zero => intro g h1 h2; exfalso; omega
  | succ n ih =>
    intro g h1 h2
    rw [F_s_spanOf_e0]
    by_cases c1 : x.1 1 3 ≤ g
    · rw [if_pos c1]; left; show g = _; omega
    · rw [if_neg c1]
      by_cases c2 : v < x.2 3 (g + 1).toNat
      · rw [if_pos c2]; right; exact c2
      · rw [if_neg c2]; exact ih (g + 1) (by omega) (by omega)
/-- a number is the first of its length and some more -/
theorem F_s_spanOf_x {x : KS} (sx : scX x) {v : Int} (h0 : 0 ≤ v) (h1 : v < x.2 3 (x.1 1 3 + 1).toNat) : ∃ G B : Nat, (F_s_spanOf x v).1 = (G : Int) ∧ (G : Int) ≤ x.1 1 3 ∧ v = x.2 3 G + B ∧ B < nL x ^ G := by
  have sb := F_s_spanOf_b sx.1 h0
  have l3 := sx.1.2.1
  have up := F_s_spanOf_s_up (x := x) v 30 0 (by omega) (by omega)
  have ue : (F_s_spanOf x v).1 = (F_s_spanOf_s 30 0 x v 0).1 := rfl
  rw [← ue] at up
  generalize (F_s_spanOf x v).1 = g at sb up
  have hg : g = ((g.toNat : Nat) : Int) := by omega
  have hv : v < x.2 3 (g + 1).toNat := by
    rcases up with e | e
    · rw [e]; exact h1
    · exact e
  have e1 : (g + 1).toNat = g.toNat + 1 := by omega
  rw [e1, sx.2.2.2.1 g.toNat (by omega), scX_pow sx g.toNat (by omega)] at hv
  refine ⟨g.toNat, (v - x.2 3 g.toNat).toNat, hg, by omega, by omega, by omega⟩
/-- each RULE's two sides -/
def ruE (x : KS) : Prop := ∀ r : Nat, (r : Int) < x.1 58 6 → ∃ G B G' B' : Nat, x.2 59 r = x.2 3 G + B ∧ (G : Int) ≤ x.1 1 3 ∧ B < nL x ^ G ∧ x.2 60 r = (G : Int) ∧ x.2 62 r = ((vl 4 (dl (nL x) G B) : Nat) : Int) ∧ (G' : Int) ≤ x.1 1 3 ∧ B' < nL x ^ G' ∧ x.2 61 r = (G' : Int) ∧ x.2 63 r = ((vl 4 (dl (nL x) G' B') : Nat) : Int) ∧ x.2 3 G' + B' < x.2 3 G + B
theorem F_u_keep_E {x : KS} {a b : Int} (sx : scX x) (h58 : 0 ≤ x.1 58 6) (re : ruE x) (b0 : 0 ≤ b) (hab : b < a) (ha : a < x.2 3 (x.1 1 3 + 1).toNat) : ruE (F_u_keep x a b).2 := by
  have fr := F_u_keep_fr x a b
  have e1 : (F_u_keep x a b).2.1 1 = x.1 1 := funext fun k => fr.1 1 k (by simp)
  have e3 : (F_u_keep x a b).2.2 3 = x.2 3 := fr.2 3 (by decide)
  by_cases h : x.1 58 6 < 40
  · obtain ⟨k6, k59, k60, k62, k61, k63⟩ := F_u_keep_v (a := a) (b := b) h
    have en : nL (F_u_keep x a b).2 = nL x := by unfold nL; rw [e1]
    intro r hr
    rw [k6] at hr
    rw [k59, k60, k61, k62, k63, e1, e3, en]
    by_cases hc : r = (x.1 58 6).toNat
    · subst hc
      rw [iU_s, iU_s, iU_s, iU_s, iU_s]
      obtain ⟨G, B, g1, g2, g3, g4⟩ := F_s_spanOf_x sx (v := a) (by omega) ha
      obtain ⟨G', B', f1, f2, f3, f4⟩ := F_s_spanOf_x sx (v := b) b0 (by omega)
      have c1 := F_s_codeOf_v sx (v := a) (by omega) g1 (B := B) (by omega)
      have c2 := F_s_codeOf_v sx (v := b) b0 f1 (B := B') (by omega)
      exact ⟨G, B, G', B', g3, g2, g4, g1, c1, f2, f4, f1, c2, by omega⟩
    · rw [iU_n hc, iU_n hc, iU_n hc, iU_n hc, iU_n hc]
      exact re r (by omega)
  · have : F_u_keep x a b = (0, x) := by unfold F_u_keep; rw [if_neg h]
    rw [this]
    exact re
theorem sc_first_mono {x : KS} (sx : scX x) : ∀ (k m : Nat), ((k + m : Nat) : Int) ≤ x.1 1 3 + 1 → x.2 3 k ≤ x.2 3 (k + m) := by
  intro k m
  induction m with
  | zero => intro _; exact Int.le_refl _
  | succ m ih =>
    intro h
    have h1 := ih (by omega)
    have h2 := sx.2.2.2.1 (k + m) (by omega)
    have h3 := scX_1 sx (k + m) (by omega)
    rw [← Nat.add_assoc]
    omega
theorem ruE_ahd {x : KS} (sx : scX x) (ru : ruR x) (re : ruE x) : ∀ r : Nat, (r : Int) < x.1 58 6 → ahd (rS x r) (lS x r) ∧ (lS x r).length ≤ 20 ∧ okL (nL x) (lS x r) ∧ okL (nL x) (rS x r) := by
  intro r hr
  have hn := nL_b sx
  have l3 := sx.1.2.1
  have r40 : r < 40 := by have := ru.1; omega
  obtain ⟨G, B, G', B', g3, g2, g4, g1, c1, f2, f4, f1, c2, hlt⟩ := re r hr
  rw [lS_v r40 hn.1 hn.2 g1 (by omega) c1, rS_v r40 hn.1 hn.2 f1 (by omega) c2]
  refine ⟨?_, by rw [dl_len]; omega, dl_ok hn.1 _ _, dl_ok hn.1 _ _⟩
  rcases Nat.lt_trichotomy G' G with h | h | h
  · left; rw [dl_len, dl_len]; exact h
  · right
    subst h
    refine ⟨by rw [dl_len, dl_len], vl_knm hn.2 G' _ _ (dl_len _ _ _) (dl_len _ _ _) (dl_ok hn.1 _ _) (dl_ok hn.1 _ _) ?_⟩
    rw [vl_dl hn.1 _ _ f4, vl_dl hn.1 _ _ g4]
    omega
  · exfalso
    have m1 := sc_first_mono sx (G + 1) (G' - (G + 1)) (by omega)
    rw [show G + 1 + (G' - (G + 1)) = G' by omega, sx.2.2.2.1 G (by omega), scX_pow sx G (by omega)] at m1
    omega
/-- what is not the least is led to a lesser one -/
theorem F_j_leastOf_lt {x : KS} {v : Int} (jr : jnR x) (h0 : 0 ≤ v) (hv : v < x.1 56 1) (h : x.2 57 v.toNat ≠ v) : (F_j_leastOf x v).1 < v := by
  have j1 := jr.1
  have ja := jr.2 v.toNat (by omega)
  have jb := jr.2 (x.2 57 v.toNat).toNat (by omega)
  unfold F_j_leastOf
  rw [if_neg (by omega), if_pos hv, show (10010 : Nat) = 10009 + 1 from rfl, F_j_leastOf_e0, if_neg (by omega), if_neg h]
  have k := (F_j_leastOf_s_ok 10009 (kA x 57 v.toNat (x.2 57 (x.2 57 v.toNat).toNat)) v (iU (x.2 57) v.toNat (x.2 57 (x.2 57 v.toNat).toNat) v.toNat) (0 + 1) (jnR_up jr jb.1 (by omega)) (by rw [iU_s]; exact jb.1) (by rw [iU_s]; omega)).2.2
  rw [iU_s] at k
  rw [iU_s]
  refine Int.lt_of_le_of_lt k ?_
  omega
