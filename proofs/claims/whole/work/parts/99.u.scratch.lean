-- deps: 99.t
/-! copying, joining and bringing down in slots 9, 10 and 12 -/
def mzH (x : MS) : Prop := plX x ∧ rlR x ∧ rtR x
def nfP (x : MS) (u v : List Int) : Prop := noL (lM x) (x.1 12).toNat v ∧ rch (lM x) (rM x) (x.1 12).toNat u v
def slH (y : MS) (k : Nat) : Prop := (0 ≤ y.2 1 k ∧ y.2 1 k ≤ 60) ∧ okL (y.1 0).toNat (slM y k)
def slK (x y : MS) (k : Nat) (u : List Int) : Prop := y.2 1 k = (u.length : Int) ∧ slM y k = u ∧ okL (x.1 0).toNat u ∧ u.length ≤ 60
/-- nothing but slot k, and the row of the rest -/
def slD (y z : MS) (k : Nat) : Prop := same [] [1, 2, 26] y z ∧ rwR z ∧ (∀ j, j ≠ k → z.2 1 j = y.2 1 j) ∧ (∀ i, i < 128 * k ∨ 128 * k + 128 ≤ i → i < 1408 ∨ 1536 ≤ i → z.2 2 i = y.2 2 i)
/-- slots 0 .. 8 as they were -/
def slF (x y : MS) : Prop := same [] [1, 2, 26] x y ∧ rwR y ∧ (∀ j, j < 9 → y.2 1 j = x.2 1 j) ∧ (∀ i, i < 1152 → y.2 2 i = x.2 2 i)
theorem slF_0 {x : MS} (h : rwR x) : slF x x := ⟨sm_rf _ _ _, h, fun _ _ => rfl, fun _ _ => rfl⟩
theorem slH_K {x : MS} {k : Nat} (h : slH x k) : slK x x k (slM x k) := by
  obtain ⟨h1, h2⟩ := h
  have e : (slM x k).length = (x.2 1 k).toNat := by unfold slM; rw [ltM_len]
  exact ⟨by omega, rfl, h2, by omega⟩
theorem slK_H {x y : MS} {k : Nat} {u : List Int} (e : y.1 0 = x.1 0) (h : slK x y k u) : slH y k := by
  obtain ⟨h1, h2, h3, h4⟩ := h
  exact ⟨by omega, by rw [h2, e]; exact h3⟩
theorem slF_H {x y : MS} {k : Nat} (f : slF x y) (hk : k < 9) (h : slH x k) : slK x y k (slM x k) := by
  obtain ⟨h1, h2, h3, h4⟩ := slH_K h
  refine ⟨by rw [f.2.2.1 k hk]; exact h1, ?_, h3, h4⟩
  exact slM_o (f.2.2.1 k hk) (fun i hi => f.2.2.2 _ (by omega))
theorem slF_0e {x y : MS} (f : slF x y) : y.1 0 = x.1 0 := f.1.1 0 List.not_mem_nil
theorem slD_K {x y z : MS} {k j : Nat} {u : List Int} (d : slD y z k) (hj : j ≠ k) (h11 : j ≠ 11) (h : slK x y j u) : slK x z j u := by
  obtain ⟨h1, h2, h3, h4⟩ := h
  exact ⟨by rw [d.2.2.1 j hj]; exact h1, by rw [slM_o (d.2.2.1 j hj) (fun i hi => d.2.2.2 _ (by omega) (by omega))]; exact h2, h3, h4⟩
theorem slD_F {x y z : MS} {k : Nat} (f : slF x y) (d : slD y z k) (hk : k = 9 ∨ k = 10 ∨ k = 12) : slF x z := ⟨sm_tr f.1 d.1, d.2.1, fun j hj => (d.2.2.1 j (by omega)).trans (f.2.2.1 j hj), fun i hi => (d.2.2.2 i (by omega) (by omega)).trans (f.2.2.2 i hi)⟩
theorem zero_D {x y : MS} {k : Nat} (h : rwR y) : slD y (aU y 1 k 0) k ∧ slK x (aU y 1 k 0) k [] := by
  have e : (aU y 1 k 0).2 1 k = 0 := by rw [yU_s]; exact iU_s
  refine ⟨⟨sm_a (by decide) (sm_rf _ _ _), rwR_n (by decide) h, fun j hj => by rw [yU_s]; exact iU_n hj, fun i _ _ => by rw [yU_n (by decide)]⟩, e, by unfold slM; rw [e]; rfl, fun l hl => absurd hl List.not_mem_nil, by decide⟩
theorem copy_s {x : MS} {a b s : Nat} (hs : s ≤ 128) (hsa : x.2 1 a = (s : Int)) : ∀ (n i : Nat) (y : MS), i ≤ s → s - i < n → y.2 1 = iU (x.2 1) b (s : Int) → (∀ q, y.2 2 q = if 128 * b ≤ q ∧ q < 128 * b + i then x.2 2 (128 * a + (q - 128 * b)) else x.2 2 q) → (F_m_copy_s n 0 y (a : Int) (b : Int) (i : Int)).2.2 1 = iU (x.2 1) b (s : Int) ∧ ∀ q, (F_m_copy_s n 0 y (a : Int) (b : Int) (i : Int)).2.2 2 q = if 128 * b ≤ q ∧ q < 128 * b + s then x.2 2 (128 * a + (q - 128 * b)) else x.2 2 q := by
  intro n
  induction n with
  | zero => intro i y h1 h2; omega
  | succ n ih =>
    intro i y h1 h2 e1 hr
    have ea : y.2 1 (a : Int).toNat = (s : Int) := by
      rw [Int.toNat_natCast, e1, yU_if]
      by_cases h : a = b
      · rw [if_pos h]
      · rw [if_neg h]; exact hsa
    rw [F_m_copy_e0, ea]
    by_cases c : (s : Int) ≤ (i : Int)
    · rw [if_pos c]
      have ei : i = s := by omega
      subst ei
      exact ⟨e1, hr⟩
    · rw [if_neg c, show ((128 : Int) * (b : Int) + (i : Int)).toNat = 128 * b + i by omega, show ((128 : Int) * (a : Int) + (i : Int)).toNat = 128 * a + i by omega, show (i : Int) + (1 : Int) = ((i + 1 : Nat) : Int) by omega]
      refine ih (i + 1) _ (by omega) (by omega) (by rw [yU_n (by decide)]; exact e1) (fun q => ?_)
      have ev : y.2 2 (128 * a + i) = x.2 2 (128 * a + i) := by rw [hr, if_neg (by omega)]
      rw [yU_s, yU_if, ev]
      by_cases hq : q = 128 * b + i
      · rw [if_pos hq, if_pos (by omega), hq, show 128 * b + i - 128 * b = i by omega]
      · rw [if_neg hq, hr q]
        by_cases hc : 128 * b ≤ q ∧ q < 128 * b + i
        · rw [if_pos hc, if_pos (by omega)]
        · rw [if_neg hc, if_neg (by omega)]
theorem copy_D {x y : MS} {a b : Nat} {u : List Int} (hw : rwR y) (h : slK x y a u) (ha : a < 13) (hb : b < 13) : slD y (F_m_copy y (a : Int) (b : Int)).2 b ∧ slK x (F_m_copy y (a : Int) (b : Int)).2 b u := by
  obtain ⟨h1, h2, h3, h4⟩ := h
  have fr := F_m_copy_fr y (a : Int) (b : Int)
  have S := copy_s (b := b) (show u.length ≤ 128 by omega) h1 200 0 (aU y 1 b (u.length : Int)) (Nat.zero_le _) (by omega) (by rw [yU_s]) (fun q => by rw [if_neg (by omega), yU_n (by decide)])
  have e : F_m_copy y (a : Int) (b : Int) = F_m_copy_s 200 0 (aU y 1 b (u.length : Int)) (a : Int) (b : Int) ((0 : Nat) : Int) := by
    unfold F_m_copy; rw [Int.toNat_natCast, Int.toNat_natCast, h1]; rfl
  rw [← e] at S
  obtain ⟨S1, S2⟩ := S
  generalize (F_m_copy y (a : Int) (b : Int)).2 = z at fr S1 S2 ⊢
  have ez : z.2 1 b = (u.length : Int) := by rw [S1]; exact iU_s
  refine ⟨⟨sm_mono (by decide) (by decide) fr, fun k hk => ?_, fun j hj => by rw [S1, iU_n hj], fun i hi _ => by rw [S2, if_neg (by omega)]⟩, ez, ?_, h3, h4⟩
  · rw [S2]
    by_cases hc : 128 * b ≤ k ∧ k < 128 * b + u.length
    · rw [if_pos hc]; exact hw _ (by omega)
    · rw [if_neg hc]; exact hw k hk
  · rw [← h2]; unfold slM
    rw [ez, h1, Int.toNat_natCast, ltM_sg, ltM_sg, sgM_eq]
    intro i hi
    rw [S2, if_pos (by omega), show 128 * b + i - 128 * b = i by omega]
theorem app_s {x : MS} {a b s t : Nat} (ab : a ≠ b) (ht : s + t ≤ 128) (hsa : x.2 1 a = (s : Int)) (hsb : x.2 1 b = (t : Int)) : ∀ (n i : Nat) (y : MS), i ≤ t → t - i < n → y.2 1 = x.2 1 → (∀ q, y.2 2 q = if 128 * a + s ≤ q ∧ q < 128 * a + s + i then x.2 2 (128 * b + (q - (128 * a + s))) else x.2 2 q) → (F_m_append_s n 0 y (a : Int) (b : Int) (i : Int)).2.2 1 = iU (x.2 1) a ((s : Int) + (t : Int)) ∧ ∀ q, (F_m_append_s n 0 y (a : Int) (b : Int) (i : Int)).2.2 2 q = if 128 * a + s ≤ q ∧ q < 128 * a + s + t then x.2 2 (128 * b + (q - (128 * a + s))) else x.2 2 q := by
  intro n
  induction n with
  | zero => intro i y h1 h2; omega
  | succ n ih =>
    intro i y h1 h2 e1 hr
    have ea : y.2 1 (a : Int).toNat = (s : Int) := by rw [Int.toNat_natCast, e1]; exact hsa
    have eb : y.2 1 (b : Int).toNat = (t : Int) := by rw [Int.toNat_natCast, e1]; exact hsb
    rw [F_m_append_e0, ea, eb]
    by_cases c : (t : Int) ≤ (i : Int)
    · rw [if_pos c]
      have ei : i = t := by omega
      subst ei
      refine ⟨?_, fun q => ?_⟩
      · show (aU y 1 _ _).2 1 = _
        rw [yU_s, Int.toNat_natCast, e1]
      · show (aU y 1 _ _).2 2 q = _
        rw [yU_n (by decide)]; exact hr q
    · rw [if_neg c, show (((128 : Int) * (a : Int) + (s : Int)) + (i : Int)).toNat = 128 * a + s + i by omega, show ((128 : Int) * (b : Int) + (i : Int)).toNat = 128 * b + i by omega, show (i : Int) + (1 : Int) = ((i + 1 : Nat) : Int) by omega]
      refine ih (i + 1) _ (by omega) (by omega) (by rw [yU_n (by decide)]; exact e1) (fun q => ?_)
      have ev : y.2 2 (128 * b + i) = x.2 2 (128 * b + i) := by rw [hr, if_neg (by omega)]
      rw [yU_s, yU_if, ev]
      by_cases hq : q = 128 * a + s + i
      · rw [if_pos hq, if_pos (by omega), hq, show 128 * a + s + i - (128 * a + s) = i by omega]
      · rw [if_neg hq, hr q]
        by_cases hc : 128 * a + s ≤ q ∧ q < 128 * a + s + i
        · rw [if_pos hc, if_pos (by omega)]
        · rw [if_neg hc, if_neg (by omega)]
theorem app_D {x y : MS} {a b : Nat} {u v : List Int} (hw : rwR y) (h : slK x y a u) (g : slK x y b v) (ab : a ≠ b) (ha : a < 13) (hb : b < 13) (hl : u.length + v.length ≤ 60) : slD y (F_m_append y (a : Int) (b : Int)).2 a ∧ slK x (F_m_append y (a : Int) (b : Int)).2 a (u ++ v) := by
  obtain ⟨h1, h2, h3, h4⟩ := h
  obtain ⟨g1, g2, g3, g4⟩ := g
  have fr := F_m_append_fr y (a : Int) (b : Int)
  obtain ⟨S1, S2⟩ := app_s ab (show u.length + v.length ≤ 128 by omega) h1 g1 200 0 y (Nat.zero_le _) (by omega) rfl (fun q => (if_neg (by omega)).symm)
  have S1 : (F_m_append y (a : Int) (b : Int)).2.2 1 = _ := S1
  have S2 : ∀ q, (F_m_append y (a : Int) (b : Int)).2.2 2 q = _ := S2
  generalize (F_m_append y (a : Int) (b : Int)).2 = z at fr S1 S2 ⊢
  have ez : z.2 1 a = ((u.length + v.length : Nat) : Int) := by rw [S1, iU_s]; omega
  refine ⟨⟨sm_mono (by decide) (by decide) fr, fun k hk => ?_, fun j hj => by rw [S1, iU_n hj], fun i hi _ => by rw [S2, if_neg (by omega)]⟩, by rw [ez, List.length_append], ?_, okL_a.mpr ⟨h3, g3⟩, by rw [List.length_append]; exact hl⟩
  · rw [S2]
    by_cases hc : 128 * a + u.length ≤ k ∧ k < 128 * a + u.length + v.length
    · rw [if_pos hc]; exact hw _ (by omega)
    · rw [if_neg hc]; exact hw k hk
  · have e1 : slM y a = sgM y 2 (128 * a) u.length := by unfold slM; rw [h1, Int.toNat_natCast, ltM_sg]
    have e2 : slM y b = sgM y 2 (128 * b) v.length := by unfold slM; rw [g1, Int.toNat_natCast, ltM_sg]
    rw [← h2, ← g2, e1, e2]; unfold slM
    rw [ez, Int.toNat_natCast, ltM_sg, sgM_add]
    congr 1
    · exact sgM_eq.mpr (fun i hi => by rw [S2, if_neg (by omega)])
    · exact sgM_eq.mpr (fun i hi => by rw [S2, if_pos (by omega), show 128 * a + u.length + i - (128 * a + u.length) = i by omega])
theorem mz_e {x y : MS} (f : slF x y) (h : mzH x) : mzH y ∧ lM y = lM x ∧ rM y = rM x ∧ y.1 12 = x.1 12 ∧ y.1 0 = x.1 0 := by
  obtain ⟨pw, rl, rt⟩ := h
  obtain ⟨R, eL, eR, e0, e12, rt2⟩ := rlR_eq f.1 (Or.inr rfl) rl
  exact ⟨⟨plX_eq f.1 (Or.inr rfl) pw, R, rt2 rt⟩, eL, eR, e12, e0⟩
theorem slH_r {x y : MS} {k : Nat} {u : List Int} (f : slF x y) (h : mzH x) (g : slK x y k u) (hk : k < 13) (hk1 : k ≠ 11) : rdH y k ∧ rwR y ∧ rtR y := by
  obtain ⟨⟨pw, rl, rt⟩, eL, eR, e12, e0⟩ := mz_e f h
  obtain ⟨g1, g2, g3, g4⟩ := g
  exact ⟨⟨⟨hk, hk1⟩, by omega, pw, rl, by rw [g2, e0]; exact g3⟩, f.2.1, rt⟩
theorem red_D {x y : MS} {k : Nat} {u : List Int} (f : slF x y) (h : mzH x) (g : slK x y k u) (hk : k < 13) (hk1 : k ≠ 11) : slD y (F_m_reduceAt y (k : Int)).2 k ∧ ∃ v, slK x (F_m_reduceAt y (k : Int)).2 k v ∧ nfP x u v := by
  obtain ⟨r1, r2, r3⟩ := slH_r f h g hk hk1
  obtain ⟨fr, Q, z, so, ro, a1, a2, a3⟩ := reduceAt_f r1 r2 r3
  obtain ⟨_, eL, eR, e12, e0⟩ := mz_e f h
  obtain ⟨g1, g2, g3, g4⟩ := g
  rw [e0] at a1
  rw [eL, e12] at a2
  rw [eL, eR, e12, g2] at a3
  have el : (slM (F_m_reduceAt y (k : Int)).2 k).length = ((F_m_reduceAt y (k : Int)).2.2 1 k).toNat := by unfold slM; rw [ltM_len]
  exact ⟨⟨fr, Q, so, ro⟩, _, ⟨by omega, rfl, a1, by omega⟩, a2, a3⟩
