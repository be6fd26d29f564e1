-- deps: 99.x
def mdM (y : MS) (k : Nat) : List Int := sgM y 33 (60 * k) (y.2 32 k).toNat
def imA (x : MS) (k : Int) : Prop := ∀ j : Nat, (j : Int) < k → mdM x j ≠ slM x 9
def imB (x : MS) (k q i : Int) : Prop := (q = 1 ∧ x.2 32 k.toNat = x.2 1 9 ∧ ∀ j : Nat, (j : Int) < i → x.2 33 (60 * k.toNat + j) = x.2 2 (1152 + j)) ∨ (q = 0 ∧ mdM x k.toNat ≠ slM x 9)
def imQ (x : MS) (q : Int × MS) : Prop := (q.1 = 1 ∧ ∃ j : Nat, (j : Int) < x.1 31 ∧ mdM x j = slM x 9) ∨ (q.1 = 0 ∧ ∀ j : Nat, (j : Int) < x.1 31 → mdM x j ≠ slM x 9)
theorem sl9 (x : MS) : slM x 9 = sgM x 2 1152 (x.2 1 9).toNat := rfl
theorem im_len {x : MS} {k : Int} (h : mdM x k.toNat = slM x 9) (h0 : 0 ≤ x.2 32 k.toNat) (h1 : 0 ≤ x.2 1 9) : x.2 32 k.toNat = x.2 1 9 := by
  have h9 := congrArg List.length h
  rw [sl9] at h9; unfold mdM at h9
  rw [sgM_len, sgM_len] at h9; omega
theorem imB_1 {x : MS} {k : Int} (e : x.2 32 k.toNat = x.2 1 ((9 : Int)).toNat) : imB x k ((1 : Int)) ((0 : Int)) := Or.inl ⟨rfl, e, fun j hj => by omega⟩
theorem imB_0 {x : MS} {k : Int} (h0 : 0 ≤ x.2 32 k.toNat) (h1 : 0 ≤ x.2 1 9) (e : ¬ x.2 32 k.toNat = x.2 1 ((9 : Int)).toNat) : imB x k ((0 : Int)) ((0 : Int)) := Or.inr ⟨rfl, fun h => e (im_len h h0 h1)⟩
theorem imB_s {x : MS} {k q i : Int} (k0 : 0 ≤ k) (i0 : 0 ≤ i) (h : imB x k q i) (hq : ¬ q = 0) (e : x.2 33 ((60 : Int) * k + i).toNat = x.2 2 ((1152 : Int) + i).toNat) : imB x k ((1 : Int)) (i + (1 : Int)) := by
  rcases h with ⟨_, h2, h3⟩ | ⟨h1, _⟩
  · refine Or.inl ⟨rfl, h2, fun j hj => ?_⟩
    by_cases ej : (j : Int) = i
    · rw [show ((60 : Int) * k + i).toNat = 60 * k.toNat + j by omega, show ((1152 : Int) + i).toNat = 1152 + j by omega] at e; exact e
    · exact h3 j (by omega)
  · exact absurd h1 hq
theorem imB_n {x : MS} {k i : Int} (k0 : 0 ≤ k) (i0 : 0 ≤ i) (h0 : 0 ≤ x.2 32 k.toNat) (h1 : 0 ≤ x.2 1 9) (hi : ¬ x.2 1 ((9 : Int)).toNat ≤ i) (e : ¬ x.2 33 ((60 : Int) * k + i).toNat = x.2 2 ((1152 : Int) + i).toNat) : imB x k ((0 : Int)) (i + (1 : Int)) := by
  refine Or.inr ⟨rfl, fun h => e ?_⟩
  have el := im_len h h0 h1
  have hi : ¬ x.2 1 9 ≤ i := hi
  unfold mdM at h
  rw [sl9, el, sgM_eq] at h
  rw [show ((60 : Int) * k + i).toNat = 60 * k.toNat + i.toNat by omega, show ((1152 : Int) + i).toNat = 1152 + i.toNat by omega]
  exact h i.toNat (by omega)
theorem im_1 {x y : MS} {k q i : Int} (k0 : 0 ≤ k) (k3 : k < x.1 31) (h : imB x k q i) (hq : ¬ q = 0) (hi : x.2 1 ((9 : Int)).toNat ≤ i) : imQ x (1, y) := by
  have hi : x.2 1 9 ≤ i := hi
  rcases h with ⟨_, h2, h3⟩ | ⟨h1, _⟩
  · refine Or.inl ⟨rfl, k.toNat, by omega, ?_⟩
    rw [sl9]; unfold mdM
    rw [h2, sgM_eq]
    exact fun j hj => h3 j (by omega)
  · exact absurd h1 hq
theorem imA_s {x : MS} {k q i : Int} (k0 : 0 ≤ k) (ac : imA x k) (h : imB x k q i) (hq : q = 0) : imA x (k + (1 : Int)) := by
  rcases h with ⟨h1, _⟩ | ⟨_, h2⟩
  · omega
  · intro j hj
    by_cases ej : (j : Int) = k
    · rw [show k.toNat = j by omega] at h2; exact h2
    · exact ac j (by omega)
set_option maxHeartbeats 4000000 in
theorem F_m_isMade_p (x : MS)  (n0 : 0 ≤ x.1 31) (n1 : x.1 31 ≤ 301) (s0 : 0 ≤ x.2 1 9) (s1 : x.2 1 9 ≤ 60) (hz : ∀ k : Nat, k < 301 → 0 ≤ x.2 32 k) : imQ x (F_m_isMade (x)) := by
  have e9 : ((x).2 1) ((9 : Int)).toNat = x.2 1 9 := rfl
  have L : ∀ n : Nat, (∀ (k : Int), (imA x k) → (0 ≤ k) → (k ≤ 301) → ((301 - k) * 100 + 100 < n) → imQ x (F_m_isMade_s n 0 x k 0 0)) ∧ (∀ (k : Int) (q : Int) (i : Int), (imA x k) → (imB x k q i) → (k < x.1 31) → (0 ≤ k) → (k < 301) → (q = 0 ∨ q = 1) → (0 ≤ i) → (i ≤ 60) → ((300 - k) * 100 + 100 + (60 - i) + 10 < n) → imQ x (F_m_isMade_s n 1 x k q i)) := by
    intro n
    induction n with
    | zero =>
      refine ⟨?_, ?_⟩
      · intro k ac k0 k1 fu
        exact absurd fu (by omega)
      · intro k q i ac bc k3 k0 k1 q01 i0 i1 fu
        exact absurd fu (by omega)
    | succ n ih =>
      refine ⟨?_, ?_⟩
      · intro k ac k0 k1 fu
        rw [F_m_isMade_e0]
        by_cases c_7 : ((x).1 31) ≤ (k)
        · rw [if_pos c_7]
          exact Or.inr ⟨rfl, fun j hj => ac j (by omega)⟩
        · rw [if_neg c_7]
          by_cases c_23 : (((x).2 32) (k).toNat) = (((x).2 1) ((9 : Int)).toNat)
          · rw [if_pos c_23]
            exact ih.2  (k) ((1 : Int)) ((0 : Int)) (ac) (imB_1 c_23) (by omega) (by omega) (by omega) (by omega) (by omega) (by omega) (by omega)
          · rw [if_neg c_23]
            exact ih.2  (k) ((0 : Int)) ((0 : Int)) (ac) (imB_0 (hz _ (by omega)) s0 c_23) (by omega) (by omega) (by omega) (by omega) (by omega) (by omega) (by omega)
      · intro k q i ac bc k3 k0 k1 q01 i0 i1 fu
        rw [F_m_isMade_e1]
        by_cases c_42 : (((x).2 1) ((9 : Int)).toNat) ≤ (i)
        · rw [if_pos c_42]
          by_cases c_86 : (q) = (0)
          · rw [if_pos c_86]
            exact ih.1  ((k) + (1 : Int)) (imA_s k0 ac bc (by omega)) (by omega) (by omega) (by omega)
          · rw [if_neg c_86]
            exact (by first | (exfalso; omega) | exact im_1 k0 k3 bc (by assumption) (by omega))
        · rw [if_neg c_42]
          by_cases c_46 : (q) = (0)
          · rw [if_pos c_46]
            by_cases c_86 : (q) = (0)
            · rw [if_pos c_86]
              exact ih.1  ((k) + (1 : Int)) (imA_s k0 ac bc (by omega)) (by omega) (by omega) (by omega)
            · rw [if_neg c_86]
              exact (by first | (exfalso; omega) | exact im_1 k0 k3 bc (by assumption) (by omega))
          · rw [if_neg c_46]
            by_cases c_70 : (((x).2 33) ((((60 : Int)) * (k)) + (i)).toNat) = (((x).2 2) (((1152 : Int)) + (i)).toNat)
            · rw [if_pos c_70]
              exact ih.2  (k) ((1 : Int)) ((i) + (1 : Int)) (ac) (imB_s k0 i0 bc (by assumption) c_70) (by omega) (by omega) (by omega) (by omega) (by omega) (by omega) (by omega)
            · rw [if_neg c_70]
              exact ih.2  (k) ((0 : Int)) ((i) + (1 : Int)) (ac) (imB_n k0 i0 (hz _ (by omega)) s0 (by assumption) c_70) (by omega) (by omega) (by omega) (by omega) (by omega) (by omega) (by omega)
  unfold F_m_isMade
  exact (L (40000)).1  ((0 : Int)) (fun j hj => by omega) (by omega) (by omega) (by omega)
theorem keep_s {x : MS} {g s : Nat} (hg : x.1 31 = (g : Int)) (hs : x.2 1 9 = (s : Int)) : ∀ (n i : Nat) (y : MS), i ≤ s → s - i < n → y.1 = x.1 → y.2 1 = x.2 1 → y.2 2 = x.2 2 → y.2 32 = iU (x.2 32) g (s : Int) → (∀ q, y.2 33 q = if 60 * g ≤ q ∧ q < 60 * g + i then x.2 2 (1152 + (q - 60 * g)) else x.2 33 q) → (F_m_keepMade_s n 0 y (i : Int)).2.1 31 = (g : Int) + 1 ∧ (F_m_keepMade_s n 0 y (i : Int)).2.2 32 = iU (x.2 32) g (s : Int) ∧ ∀ q, (F_m_keepMade_s n 0 y (i : Int)).2.2 33 q = if 60 * g ≤ q ∧ q < 60 * g + s then x.2 2 (1152 + (q - 60 * g)) else x.2 33 q := by
  intro n
  induction n with
  | zero => intro i y h1 h2; omega
  | succ n ih =>
    intro i y h1 h2 e0 e1 e2 e32 hr
    have ea : y.2 1 ((9 : Int)).toNat = (s : Int) := by rw [e1]; exact hs
    have eg : y.1 31 = (g : Int) := by rw [e0]; exact hg
    rw [F_m_keepMade_e0, ea, eg]
    by_cases c : (s : Int) ≤ (i : Int)
    · rw [if_pos c]
      have ei : i = s := by omega
      subst ei
      exact ⟨yS_s, e32, hr⟩
    · rw [if_neg c, show ((60 : Int) * (g : Int) + (i : Int)).toNat = 60 * g + i by omega, show ((1152 : Int) + (i : Int)).toNat = 1152 + i by omega, show (i : Int) + (1 : Int) = ((i + 1 : Nat) : Int) by omega]
      refine ih (i + 1) _ (by omega) (by omega) e0 (by rw [yU_n (by decide)]; exact e1) (by rw [yU_n (by decide)]; exact e2) (by rw [yU_n (by decide)]; exact e32) (fun q => ?_)
      rw [yU_s, yU_if, e2]
      by_cases hq : q = 60 * g + i
      · rw [if_pos hq, if_pos (by omega), hq, show 60 * g + i - 60 * g = i by omega]
      · rw [if_neg hq, hr q]
        by_cases hc : 60 * g ≤ q ∧ q < 60 * g + i
        · rw [if_pos hc, if_pos (by omega)]
        · rw [if_neg hc, if_neg (by omega)]
/-- what is made: g STRINGS, each of at most 60 LETTERS -/
def mdI (y : MS) (g : Nat) : Prop := y.1 31 = (g : Int) ∧ (∀ k : Nat, k < 301 → 0 ≤ y.2 32 k ∧ y.2 32 k ≤ 60) ∧ (∀ k : Nat, k < 18060 → 0 ≤ y.2 33 k ∧ y.2 33 k ≤ 3)
theorem keep_x {x : MS} {g : Nat} (h : mdI x g) (g1 : g ≤ 300) (s0 : 0 ≤ x.2 1 9) (s1 : x.2 1 9 ≤ 60) (hw : rwR x) : same [31] [32, 33] x (F_m_keepMade x).2 ∧ mdI (F_m_keepMade x).2 (g + 1) ∧ (∀ k, k < g → mdM (F_m_keepMade x).2 k = mdM x k) ∧ mdM (F_m_keepMade x).2 g = slM x 9 := by
  obtain ⟨s, hs⟩ : ∃ s : Nat, x.2 1 9 = (s : Int) := ⟨(x.2 1 9).toNat, by omega⟩
  have fr := F_m_keepMade_fr x
  have e : F_m_keepMade x = F_m_keepMade_s 100 0 (aU x 32 g (s : Int)) ((0 : Nat) : Int) := by
    unfold F_m_keepMade
    rw [h.1, Int.toNat_natCast, show x.2 1 ((9 : Int)).toNat = (s : Int) from hs]; rfl
  have S := keep_s h.1 hs 100 0 (aU x 32 g (s : Int)) (Nat.zero_le _) (by omega) rfl (by rw [yU_n (by decide)]) (by rw [yU_n (by decide)]) yU_s (fun q => by rw [if_neg (by omega), yU_n (by decide)])
  rw [← e] at S
  obtain ⟨S1, S2, S3⟩ := S
  generalize (F_m_keepMade x).2 = z at fr S1 S2 S3 ⊢
  refine ⟨fr, ⟨by rw [S1]; rfl, fun k hk => ?_, fun k hk => ?_⟩, fun k hk => ?_, ?_⟩
  · rw [S2, yU_if]
    by_cases ek : k = g
    · rw [if_pos ek]; omega
    · rw [if_neg ek]; exact h.2.1 k hk
  · rw [S3]
    by_cases hc : 60 * g ≤ k ∧ k < 60 * g + s
    · rw [if_pos hc]; exact hw _ (by omega)
    · rw [if_neg hc]; exact h.2.2 k hk
  · unfold mdM
    rw [S2, iU_n (by omega), sgM_eq]
    have := h.2.1 k (by omega)
    exact fun i hi => by rw [S3, if_neg (by omega)]
  · rw [sl9]; unfold mdM
    rw [S2, iU_s, hs, sgM_eq]
    rw [Int.toNat_natCast]
    exact fun i hi => by rw [S3, if_pos (by omega), show 60 * g + i - 60 * g = i by omega]
