-- deps: 30 31 32 33 34 35 36 37 38 39 40 70 71 72 73 74 75 76 78 79 80 81
/-! numbers in ORDER and lists: one number, one list -/
theorem sc_one {x : KS} (sx : scX x) {G B G' B' : Nat} (h1 : (G : Int) ≤ x.1 1 3) (h2 : (G' : Int) ≤ x.1 1 3) (b1 : B < nL x ^ G) (b2 : B' < nL x ^ G') (h : x.2 3 G + (B : Int) = x.2 3 G' + (B' : Int)) : G = G' ∧ B = B' := by
  have key : ∀ (G B G' B' : Nat), (G' : Int) ≤ x.1 1 3 → B < nL x ^ G → G < G' → x.2 3 G + (B : Int) < x.2 3 G' + (B' : Int) := by
    intro G B G' B' h2 b1 hlt
    have m1 := sc_first_mono sx (G + 1) (G' - (G + 1)) (by omega)
    rw [show G + 1 + (G' - (G + 1)) = G' by omega, sx.2.2.2.1 G (by omega), scX_pow sx G (by omega)] at m1
    omega
  rcases Nat.lt_trichotomy G G' with c | c | c
  · have := key G B G' B' h2 b1 c; omega
  · subst c; exact ⟨rfl, by omega⟩
  · have := key G' B' G B h1 b2 c; omega
/-- the last k LETTERS -/
theorem sfn_v {x : KS} (sx : scX x) {g B k : Nat} (hg : (g : Int) ≤ x.1 1 3) (hk : k ≤ g) : sfn x (B : Int) (k : Int) = x.2 3 k + ((B % nL x ^ k : Nat) : Int) := by
  unfold sfn
  rw [F_s_firstOf_v (by omega) (by omega), F_s_powerOf_v (by omega) (by omega), Int.toNat_natCast, scX_pow sx k (by omega)]
  rfl
theorem dl_suf (n : Nat) {g k : Nat} (hk : k ≤ g) (B : Nat) : ∃ a, dl n g B = a ++ dl n k (B % n ^ k) := by
  have := dl_app n (g - k) k B
  rw [show g - k + k = g by omega] at this
  exact ⟨_, this⟩
/-- a LEFT side's number is met just where that LEFT side ends the list -/
theorem inL_suf {x : KS} (sx : scX x) (ru : ruR x) (re : ruE x) {g B k : Nat} (hg : (g : Int) ≤ x.1 1 3) (hk : k ≤ g) {r : Nat} (hr : (r : Int) < x.1 58 6) : x.2 59 r = sfn x (B : Int) (k : Int) ↔ lS x r = dl (nL x) k (B % nL x ^ k) := by
  have hn := nL_b sx
  have l3 := sx.1.2.1
  have r40 : r < 40 := by have := ru.1; omega
  obtain ⟨G, C, G', C', g3, g2, g4, g1, c1, f2, f4, f1, c2, hlt⟩ := re r hr
  have hl := lS_v r40 hn.1 hn.2 g1 (by omega) c1
  have hb : B % nL x ^ k < nL x ^ k := Nat.mod_lt _ (Nat.pow_pos (by omega))
  rw [sfn_v sx hg hk, g3, hl]
  constructor
  · intro h
    obtain ⟨e1, e2⟩ := sc_one sx g2 (by omega) g4 hb h
    rw [e1, e2]
  · intro h
    have e1 : G = k := by have := congrArg List.length h; rwa [dl_len, dl_len] at this
    subst e1
    have e2 := congrArg (vl (nL x)) h
    rw [vl_dl hn.1 _ _ g4, vl_dl hn.1 _ _ hb] at e2
    rw [e2]
