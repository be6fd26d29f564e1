-- deps: 99.k
/-! STRINGS in slots, as lists: put, isSame, laps, stands -/
def slM (y : MS) (k : Nat) : List Int := ltM y k (y.2 1 k).toNat
def sgM (y : MS) (A b g : Nat) : List Int := (List.range g).map (fun i => y.2 A (b + i))
theorem sgM_len (y : MS) (A b g : Nat) : (sgM y A b g).length = g := by unfold sgM; rw [List.length_map, List.length_range]
theorem sgM_get {y : MS} {A b g i : Nat} (h : i < (sgM y A b g).length) : (sgM y A b g)[i] = y.2 A (b + i) := by
  exact (List.getElem_map ..).trans (by rw [List.getElem_range])
theorem sgM_eq {y z : MS} {A B b c g : Nat} : sgM y A b g = sgM z B c g ↔ ∀ i, i < g → y.2 A (b + i) = z.2 B (c + i) := by
  constructor
  · intro h i hi
    have h1 : i < (sgM y A b g).length := by rw [sgM_len]; exact hi
    have h2 : i < (sgM z B c g).length := by rw [sgM_len]; exact hi
    rw [← sgM_get h1, ← sgM_get h2]
    exact List.getElem_of_eq h h1
  · intro h; unfold sgM; exact List.map_congr_left (fun i hi => h i (List.mem_range.mp hi))
theorem ltM_sg (y : MS) (k n : Nat) : ltM y k n = sgM y 2 (128 * k) n := rfl
theorem sgM_add (y : MS) (A b m n : Nat) : sgM y A b (m + n) = sgM y A b m ++ sgM y A (b + m) n := by
  unfold sgM; rw [List.range_add, List.map_append, List.map_map]
  congr 1
  exact List.map_congr_left (fun i _ => by show y.2 A (b + (m + i)) = y.2 A (b + m + i); rw [Nat.add_assoc])
theorem lM_sg (y : MS) (r : Nat) : lM y r = sgM y 14 (24 * r) (y.2 13 r).toNat := rfl
theorem rM_sg (y : MS) (r : Nat) : rM y r = sgM y 16 (24 * r) (y.2 15 r).toNat := rfl
/-- slot k holds u now; the other slots as before -/
def slE (x z : MS) (k : Nat) (u : List Int) : Prop := same [] [1, 2] x z ∧ (∀ j, j ≠ k → z.2 1 j = x.2 1 j) ∧ (∀ i, i < 128 * k ∨ 128 * k + 128 ≤ i → z.2 2 i = x.2 2 i) ∧ z.2 1 k = (u.length : Int) ∧ slM z k = u
theorem put5_s {x : MS} {o9 b g s : Nat} (hs : x.2 1 o9 = (s : Int)) : ∀ (n i : Nat) (y : MS), i ≤ g → g - i < n → y.2 1 = x.2 1 → y.2 5 = x.2 5 → (∀ q, y.2 2 q = if 128 * o9 + s ≤ q ∧ q < 128 * o9 + s + i then x.2 5 (b + (q - (128 * o9 + s))) else x.2 2 q) → (F_m_put5_s n 0 y (o9 : Int) (b : Int) (g : Int) (i : Int)).2.2 1 = iU (x.2 1) o9 ((s : Int) + (g : Int)) ∧ ∀ q, (F_m_put5_s n 0 y (o9 : Int) (b : Int) (g : Int) (i : Int)).2.2 2 q = if 128 * o9 + s ≤ q ∧ q < 128 * o9 + s + g then x.2 5 (b + (q - (128 * o9 + s))) else x.2 2 q := by
  intro n
  induction n with
  | zero => intro i y h1 h2; omega
  | succ n ih =>
    intro i y h1 h2 e1 eA hr
    rw [F_m_put5_e0]
    by_cases c : (g : Int) ≤ (i : Int)
    · rw [if_pos c]
      have ei : i = g := by omega
      subst ei
      refine ⟨?_, fun q => ?_⟩
      · show (aU y 1 _ _).2 1 = _
        rw [yU_s, Int.toNat_natCast, e1, hs]
      · show (aU y 1 _ _).2 2 q = _
        rw [yU_n (by decide)]; exact hr q
    · rw [if_neg c]
      have ex : (((128 : Int) * (o9 : Int) + y.2 1 (o9 : Int).toNat) + (i : Int)).toNat = 128 * o9 + s + i := by rw [Int.toNat_natCast, e1, hs]; omega
      have eb : ((b : Int) + (i : Int)).toNat = b + i := by omega
      rw [ex, eb, show (i : Int) + (1 : Int) = ((i + 1 : Nat) : Int) by omega]
      refine ih (i + 1) _ (by omega) (by omega) (by rw [yU_n (by decide)]; exact e1) (by rw [yU_n (by decide)]; exact eA) (fun q => ?_)
      rw [yU_s, yU_if, eA]
      by_cases hq : q = 128 * o9 + s + i
      · rw [if_pos hq, if_pos (by omega), hq, show 128 * o9 + s + i - (128 * o9 + s) = i by omega]
      · rw [if_neg hq, hr q]
        by_cases hc : 128 * o9 + s ≤ q ∧ q < 128 * o9 + s + i
        · rw [if_pos hc, if_pos (by omega)]
        · rw [if_neg hc, if_neg (by omega)]
theorem put5_x {x : MS} {o9 b g s : Nat} (hs : x.2 1 o9 = (s : Int)) (h1 : s + g ≤ 128) : slE x (F_m_put5 x (o9 : Int) (b : Int) (g : Int)).2 o9 (slM x o9 ++ sgM x 5 b g) := by
  have fr := F_m_put5_fr x (o9 : Int) (b : Int) (g : Int)
  obtain ⟨a1, a2⟩ := put5_s (b := b) (g := g) hs 200 0 x (Nat.zero_le _) (by omega) rfl rfl (fun q => (if_neg (by omega)).symm)
  have a1 : (F_m_put5 x (o9 : Int) (b : Int) (g : Int)).2.2 1 = _ := a1
  have a2 : ∀ q, (F_m_put5 x (o9 : Int) (b : Int) (g : Int)).2.2 2 q = _ := a2
  generalize (F_m_put5 x (o9 : Int) (b : Int) (g : Int)).2 = z at fr a1 a2 ⊢
  have es : (x.2 1 o9).toNat = s := by omega
  have ez : z.2 1 o9 = ((s + g : Nat) : Int) := by rw [a1, iU_s]; omega
  refine ⟨fr, fun j hj => by rw [a1, iU_n hj], fun i hi => by rw [a2, if_neg (by omega)], ?_, ?_⟩
  · rw [List.length_append, sgM_len, ez]; unfold slM; rw [ltM_len, es]
  · unfold slM
    rw [ez, Int.toNat_natCast, es, ltM_sg, sgM_add, ltM_sg]
    congr 1
    · exact sgM_eq.mpr (fun i hi => by rw [a2, if_neg (by omega)])
    · exact sgM_eq.mpr (fun i hi => by rw [a2, if_pos (by omega), show 128 * o9 + s + i - (128 * o9 + s) = i by omega])
theorem put14_s {x : MS} {o9 b g s : Nat} (hs : x.2 1 o9 = (s : Int)) : ∀ (n i : Nat) (y : MS), i ≤ g → g - i < n → y.2 1 = x.2 1 → y.2 14 = x.2 14 → (∀ q, y.2 2 q = if 128 * o9 + s ≤ q ∧ q < 128 * o9 + s + i then x.2 14 (b + (q - (128 * o9 + s))) else x.2 2 q) → (F_m_put14_s n 0 y (o9 : Int) (b : Int) (g : Int) (i : Int)).2.2 1 = iU (x.2 1) o9 ((s : Int) + (g : Int)) ∧ ∀ q, (F_m_put14_s n 0 y (o9 : Int) (b : Int) (g : Int) (i : Int)).2.2 2 q = if 128 * o9 + s ≤ q ∧ q < 128 * o9 + s + g then x.2 14 (b + (q - (128 * o9 + s))) else x.2 2 q := by
  intro n
  induction n with
  | zero => intro i y h1 h2; omega
  | succ n ih =>
    intro i y h1 h2 e1 eA hr
    rw [F_m_put14_e0]
    by_cases c : (g : Int) ≤ (i : Int)
    · rw [if_pos c]
      have ei : i = g := by omega
      subst ei
      refine ⟨?_, fun q => ?_⟩
      · show (aU y 1 _ _).2 1 = _
        rw [yU_s, Int.toNat_natCast, e1, hs]
      · show (aU y 1 _ _).2 2 q = _
        rw [yU_n (by decide)]; exact hr q
    · rw [if_neg c]
      have ex : (((128 : Int) * (o9 : Int) + y.2 1 (o9 : Int).toNat) + (i : Int)).toNat = 128 * o9 + s + i := by rw [Int.toNat_natCast, e1, hs]; omega
      have eb : ((b : Int) + (i : Int)).toNat = b + i := by omega
      rw [ex, eb, show (i : Int) + (1 : Int) = ((i + 1 : Nat) : Int) by omega]
      refine ih (i + 1) _ (by omega) (by omega) (by rw [yU_n (by decide)]; exact e1) (by rw [yU_n (by decide)]; exact eA) (fun q => ?_)
      rw [yU_s, yU_if, eA]
      by_cases hq : q = 128 * o9 + s + i
      · rw [if_pos hq, if_pos (by omega), hq, show 128 * o9 + s + i - (128 * o9 + s) = i by omega]
      · rw [if_neg hq, hr q]
        by_cases hc : 128 * o9 + s ≤ q ∧ q < 128 * o9 + s + i
        · rw [if_pos hc, if_pos (by omega)]
        · rw [if_neg hc, if_neg (by omega)]
theorem put14_x {x : MS} {o9 b g s : Nat} (hs : x.2 1 o9 = (s : Int)) (h1 : s + g ≤ 128) : slE x (F_m_put14 x (o9 : Int) (b : Int) (g : Int)).2 o9 (slM x o9 ++ sgM x 14 b g) := by
  have fr := F_m_put14_fr x (o9 : Int) (b : Int) (g : Int)
  obtain ⟨a1, a2⟩ := put14_s (b := b) (g := g) hs 200 0 x (Nat.zero_le _) (by omega) rfl rfl (fun q => (if_neg (by omega)).symm)
  have a1 : (F_m_put14 x (o9 : Int) (b : Int) (g : Int)).2.2 1 = _ := a1
  have a2 : ∀ q, (F_m_put14 x (o9 : Int) (b : Int) (g : Int)).2.2 2 q = _ := a2
  generalize (F_m_put14 x (o9 : Int) (b : Int) (g : Int)).2 = z at fr a1 a2 ⊢
  have es : (x.2 1 o9).toNat = s := by omega
  have ez : z.2 1 o9 = ((s + g : Nat) : Int) := by rw [a1, iU_s]; omega
  refine ⟨fr, fun j hj => by rw [a1, iU_n hj], fun i hi => by rw [a2, if_neg (by omega)], ?_, ?_⟩
  · rw [List.length_append, sgM_len, ez]; unfold slM; rw [ltM_len, es]
  · unfold slM
    rw [ez, Int.toNat_natCast, es, ltM_sg, sgM_add, ltM_sg]
    congr 1
    · exact sgM_eq.mpr (fun i hi => by rw [a2, if_neg (by omega)])
    · exact sgM_eq.mpr (fun i hi => by rw [a2, if_pos (by omega), show 128 * o9 + s + i - (128 * o9 + s) = i by omega])
theorem put16_s {x : MS} {o9 b g s : Nat} (hs : x.2 1 o9 = (s : Int)) : ∀ (n i : Nat) (y : MS), i ≤ g → g - i < n → y.2 1 = x.2 1 → y.2 16 = x.2 16 → (∀ q, y.2 2 q = if 128 * o9 + s ≤ q ∧ q < 128 * o9 + s + i then x.2 16 (b + (q - (128 * o9 + s))) else x.2 2 q) → (F_m_put16_s n 0 y (o9 : Int) (b : Int) (g : Int) (i : Int)).2.2 1 = iU (x.2 1) o9 ((s : Int) + (g : Int)) ∧ ∀ q, (F_m_put16_s n 0 y (o9 : Int) (b : Int) (g : Int) (i : Int)).2.2 2 q = if 128 * o9 + s ≤ q ∧ q < 128 * o9 + s + g then x.2 16 (b + (q - (128 * o9 + s))) else x.2 2 q := by
  intro n
  induction n with
  | zero => intro i y h1 h2; omega
  | succ n ih =>
    intro i y h1 h2 e1 eA hr
    rw [F_m_put16_e0]
    by_cases c : (g : Int) ≤ (i : Int)
    · rw [if_pos c]
      have ei : i = g := by omega
      subst ei
      refine ⟨?_, fun q => ?_⟩
      · show (aU y 1 _ _).2 1 = _
        rw [yU_s, Int.toNat_natCast, e1, hs]
      · show (aU y 1 _ _).2 2 q = _
        rw [yU_n (by decide)]; exact hr q
    · rw [if_neg c]
      have ex : (((128 : Int) * (o9 : Int) + y.2 1 (o9 : Int).toNat) + (i : Int)).toNat = 128 * o9 + s + i := by rw [Int.toNat_natCast, e1, hs]; omega
      have eb : ((b : Int) + (i : Int)).toNat = b + i := by omega
      rw [ex, eb, show (i : Int) + (1 : Int) = ((i + 1 : Nat) : Int) by omega]
      refine ih (i + 1) _ (by omega) (by omega) (by rw [yU_n (by decide)]; exact e1) (by rw [yU_n (by decide)]; exact eA) (fun q => ?_)
      rw [yU_s, yU_if, eA]
      by_cases hq : q = 128 * o9 + s + i
      · rw [if_pos hq, if_pos (by omega), hq, show 128 * o9 + s + i - (128 * o9 + s) = i by omega]
      · rw [if_neg hq, hr q]
        by_cases hc : 128 * o9 + s ≤ q ∧ q < 128 * o9 + s + i
        · rw [if_pos hc, if_pos (by omega)]
        · rw [if_neg hc, if_neg (by omega)]
theorem put16_x {x : MS} {o9 b g s : Nat} (hs : x.2 1 o9 = (s : Int)) (h1 : s + g ≤ 128) : slE x (F_m_put16 x (o9 : Int) (b : Int) (g : Int)).2 o9 (slM x o9 ++ sgM x 16 b g) := by
  have fr := F_m_put16_fr x (o9 : Int) (b : Int) (g : Int)
  obtain ⟨a1, a2⟩ := put16_s (b := b) (g := g) hs 200 0 x (Nat.zero_le _) (by omega) rfl rfl (fun q => (if_neg (by omega)).symm)
  have a1 : (F_m_put16 x (o9 : Int) (b : Int) (g : Int)).2.2 1 = _ := a1
  have a2 : ∀ q, (F_m_put16 x (o9 : Int) (b : Int) (g : Int)).2.2 2 q = _ := a2
  generalize (F_m_put16 x (o9 : Int) (b : Int) (g : Int)).2 = z at fr a1 a2 ⊢
  have es : (x.2 1 o9).toNat = s := by omega
  have ez : z.2 1 o9 = ((s + g : Nat) : Int) := by rw [a1, iU_s]; omega
  refine ⟨fr, fun j hj => by rw [a1, iU_n hj], fun i hi => by rw [a2, if_neg (by omega)], ?_, ?_⟩
  · rw [List.length_append, sgM_len, ez]; unfold slM; rw [ltM_len, es]
  · unfold slM
    rw [ez, Int.toNat_natCast, es, ltM_sg, sgM_add, ltM_sg]
    congr 1
    · exact sgM_eq.mpr (fun i hi => by rw [a2, if_neg (by omega)])
    · exact sgM_eq.mpr (fun i hi => by rw [a2, if_pos (by omega), show 128 * o9 + s + i - (128 * o9 + s) = i by omega])
theorem put33_s {x : MS} {o9 b g s : Nat} (hs : x.2 1 o9 = (s : Int)) : ∀ (n i : Nat) (y : MS), i ≤ g → g - i < n → y.2 1 = x.2 1 → y.2 33 = x.2 33 → (∀ q, y.2 2 q = if 128 * o9 + s ≤ q ∧ q < 128 * o9 + s + i then x.2 33 (b + (q - (128 * o9 + s))) else x.2 2 q) → (F_m_put33_s n 0 y (o9 : Int) (b : Int) (g : Int) (i : Int)).2.2 1 = iU (x.2 1) o9 ((s : Int) + (g : Int)) ∧ ∀ q, (F_m_put33_s n 0 y (o9 : Int) (b : Int) (g : Int) (i : Int)).2.2 2 q = if 128 * o9 + s ≤ q ∧ q < 128 * o9 + s + g then x.2 33 (b + (q - (128 * o9 + s))) else x.2 2 q := by
  intro n
  induction n with
  | zero => intro i y h1 h2; omega
  | succ n ih =>
    intro i y h1 h2 e1 eA hr
    rw [F_m_put33_e0]
    by_cases c : (g : Int) ≤ (i : Int)
    · rw [if_pos c]
      have ei : i = g := by omega
      subst ei
      refine ⟨?_, fun q => ?_⟩
      · show (aU y 1 _ _).2 1 = _
        rw [yU_s, Int.toNat_natCast, e1, hs]
      · show (aU y 1 _ _).2 2 q = _
        rw [yU_n (by decide)]; exact hr q
    · rw [if_neg c]
      have ex : (((128 : Int) * (o9 : Int) + y.2 1 (o9 : Int).toNat) + (i : Int)).toNat = 128 * o9 + s + i := by rw [Int.toNat_natCast, e1, hs]; omega
      have eb : ((b : Int) + (i : Int)).toNat = b + i := by omega
      rw [ex, eb, show (i : Int) + (1 : Int) = ((i + 1 : Nat) : Int) by omega]
      refine ih (i + 1) _ (by omega) (by omega) (by rw [yU_n (by decide)]; exact e1) (by rw [yU_n (by decide)]; exact eA) (fun q => ?_)
      rw [yU_s, yU_if, eA]
      by_cases hq : q = 128 * o9 + s + i
      · rw [if_pos hq, if_pos (by omega), hq, show 128 * o9 + s + i - (128 * o9 + s) = i by omega]
      · rw [if_neg hq, hr q]
        by_cases hc : 128 * o9 + s ≤ q ∧ q < 128 * o9 + s + i
        · rw [if_pos hc, if_pos (by omega)]
        · rw [if_neg hc, if_neg (by omega)]
theorem put33_x {x : MS} {o9 b g s : Nat} (hs : x.2 1 o9 = (s : Int)) (h1 : s + g ≤ 128) : slE x (F_m_put33 x (o9 : Int) (b : Int) (g : Int)).2 o9 (slM x o9 ++ sgM x 33 b g) := by
  have fr := F_m_put33_fr x (o9 : Int) (b : Int) (g : Int)
  obtain ⟨a1, a2⟩ := put33_s (b := b) (g := g) hs 200 0 x (Nat.zero_le _) (by omega) rfl rfl (fun q => (if_neg (by omega)).symm)
  have a1 : (F_m_put33 x (o9 : Int) (b : Int) (g : Int)).2.2 1 = _ := a1
  have a2 : ∀ q, (F_m_put33 x (o9 : Int) (b : Int) (g : Int)).2.2 2 q = _ := a2
  generalize (F_m_put33 x (o9 : Int) (b : Int) (g : Int)).2 = z at fr a1 a2 ⊢
  have es : (x.2 1 o9).toNat = s := by omega
  have ez : z.2 1 o9 = ((s + g : Nat) : Int) := by rw [a1, iU_s]; omega
  refine ⟨fr, fun j hj => by rw [a1, iU_n hj], fun i hi => by rw [a2, if_neg (by omega)], ?_, ?_⟩
  · rw [List.length_append, sgM_len, ez]; unfold slM; rw [ltM_len, es]
  · unfold slM
    rw [ez, Int.toNat_natCast, es, ltM_sg, sgM_add, ltM_sg]
    congr 1
    · exact sgM_eq.mpr (fun i hi => by rw [a2, if_neg (by omega)])
    · exact sgM_eq.mpr (fun i hi => by rw [a2, if_pos (by omega), show 128 * o9 + s + i - (128 * o9 + s) = i by omega])
theorem isSame_s {x : MS} {a b s : Nat} (hs : x.2 1 a = (s : Int)) : ∀ (n i : Nat), s - i < n → ((F_m_isSame_s n 0 x (a : Int) (b : Int) 1 (i : Int)).1 = 1 ∧ ∀ j, i ≤ j → j < s → x.2 2 (128 * a + j) = x.2 2 (128 * b + j)) ∨ ((F_m_isSame_s n 0 x (a : Int) (b : Int) 1 (i : Int)).1 = 0 ∧ ¬ ∀ j, i ≤ j → j < s → x.2 2 (128 * a + j) = x.2 2 (128 * b + j)) := by
  intro n
  induction n with
  | zero => intro i h; omega
  | succ n ih =>
    intro i h
    rw [F_m_isSame_e0, Int.toNat_natCast, hs]
    by_cases c : (s : Int) ≤ (i : Int)
    · rw [if_pos c]; exact Or.inl ⟨rfl, fun j h1 h2 => by omega⟩
    · rw [if_neg c, if_neg (by decide), show ((128 : Int) * (a : Int) + (i : Int)).toNat = 128 * a + i by omega, show ((128 : Int) * (b : Int) + (i : Int)).toNat = 128 * b + i by omega]
      by_cases c2 : x.2 2 (128 * a + i) = x.2 2 (128 * b + i)
      · rw [if_pos c2, show (i : Int) + (1 : Int) = ((i + 1 : Nat) : Int) by omega]
        rcases ih (i + 1) (by omega) with ⟨h1, h2⟩ | ⟨h1, h2⟩
        · refine Or.inl ⟨h1, fun j j1 j2 => ?_⟩
          by_cases hj : j = i
          · rw [hj]; exact c2
          · exact h2 j (by omega) j2
        · exact Or.inr ⟨h1, fun h9 => h2 (fun j j1 j2 => h9 j (by omega) j2)⟩
      · rw [if_neg c2]
        refine Or.inr ⟨?_, fun h9 => c2 (h9 i (Nat.le_refl _) (by omega))⟩
        cases n with
        | zero => omega
        | succ n =>
          rw [F_m_isSame_e0]
          by_cases c3 : x.2 1 (a : Int).toNat ≤ (i : Int) + 1
          · rw [if_pos c3]
          · rw [if_neg c3, if_pos rfl]
theorem isSame_x {x : MS} {a b : Nat} (h0 : 0 ≤ x.2 1 a) (h1 : x.2 1 a ≤ 128) (h2 : 0 ≤ x.2 1 b) : ((F_m_isSame x (a : Int) (b : Int)).1 = 1 ∧ slM x a = slM x b) ∨ ((F_m_isSame x (a : Int) (b : Int)).1 = 0 ∧ slM x a ≠ slM x b) := by
  obtain ⟨s, hs⟩ : ∃ s : Nat, x.2 1 a = (s : Int) := ⟨(x.2 1 a).toNat, by omega⟩
  have es : (x.2 1 a).toNat = s := by omega
  unfold F_m_isSame
  rw [Int.toNat_natCast, Int.toNat_natCast]
  by_cases c : x.2 1 a = x.2 1 b
  · rw [if_pos c]
    have eq : slM x a = slM x b ↔ ∀ j, 0 ≤ j → j < s → x.2 2 (128 * a + j) = x.2 2 (128 * b + j) := by
      unfold slM; rw [← c, es, ltM_sg, ltM_sg, sgM_eq]
      exact ⟨fun h j _ hj => h j hj, fun h j hj => h j (Nat.zero_le _) hj⟩
    rw [eq]
    rcases isSame_s (b := b) hs 200 0 (by omega) with h9 | ⟨h8, h9⟩
    · exact Or.inl h9
    · exact Or.inr ⟨h8, fun h => h9 (eq.mp h)⟩
  · rw [if_neg c]
    refine Or.inr ⟨?_, fun h => c ?_⟩
    · show (F_m_isSame_s (199 + 1) 0 x _ _ 0 0).1 = 0
      rw [F_m_isSame_e0]
      by_cases c3 : x.2 1 (a : Int).toNat ≤ 0
      · rw [if_pos c3]
      · rw [if_neg c3, if_pos rfl]
    · have h9 := congrArg List.length h
      unfold slM at h9
      rw [ltM_len, ltM_len] at h9
      omega
theorem laps_s {x : MS} {a b g s : Nat} (hs : x.2 13 a = (s : Int)) (hg : g ≤ s) : ∀ (n i : Nat), g - i < n → ((F_m_laps_s n 0 x (a : Int) (b : Int) (g : Int) 1 (i : Int)).1 = 1 ∧ ∀ j, i ≤ j → j < g → x.2 14 (24 * a + (s - g) + j) = x.2 14 (24 * b + j)) ∨ ((F_m_laps_s n 0 x (a : Int) (b : Int) (g : Int) 1 (i : Int)).1 = 0 ∧ ¬ ∀ j, i ≤ j → j < g → x.2 14 (24 * a + (s - g) + j) = x.2 14 (24 * b + j)) := by
  have hb : (g : Int) = (g : Int) := rfl
  intro n
  induction n with
  | zero => intro i h; omega
  | succ n ih =>
    intro i h
    have ex : ((((24 : Int) * (a : Int) + x.2 13 (a : Int).toNat) - (g : Int)) + (i : Int)).toNat = 24 * a + (s - g) + i := by
      first | (rw [Int.toNat_natCast]; omega) | omega
    rw [F_m_laps_e0, hb, ex, show ((24 : Int) * (b : Int) + (i : Int)).toNat = 24 * b + i by omega]
    by_cases c : (g : Int) ≤ (i : Int)
    · rw [if_pos c]; exact Or.inl ⟨rfl, fun j h1 h2 => by omega⟩
    · rw [if_neg c, if_neg (by decide)]
      by_cases c2 : x.2 14 (24 * a + (s - g) + i) = x.2 14 (24 * b + i)
      · rw [if_pos c2, show (i : Int) + (1 : Int) = ((i + 1 : Nat) : Int) by omega]
        rcases ih (i + 1) (by omega) with ⟨h1, h2⟩ | ⟨h1, h2⟩
        · refine Or.inl ⟨h1, fun j j1 j2 => ?_⟩
          by_cases hj : j = i
          · rw [hj]; exact c2
          · exact h2 j (by omega) j2
        · exact Or.inr ⟨h1, fun h9 => h2 (fun j j1 j2 => h9 j (by omega) j2)⟩
      · rw [if_neg c2]
        refine Or.inr ⟨?_, fun h9 => c2 (h9 i (Nat.le_refl _) (by omega))⟩
        cases n with
        | zero => omega
        | succ n =>
          rw [F_m_laps_e0, hb]
          by_cases c3 : (g : Int) ≤ (i : Int) + 1
          · rw [if_pos c3]
          · rw [if_neg c3, if_pos rfl]
theorem laps_x {x : MS} {a b g s : Nat} (hs : x.2 13 a = (s : Int)) (hg : g ≤ s) (h1 : s ≤ 100) : ((F_m_laps x (a : Int) (b : Int) (g : Int)).1 = 1 ∧ sgM x 14 (24 * a + (s - g)) g = sgM x 14 (24 * b) g) ∨ ((F_m_laps x (a : Int) (b : Int) (g : Int)).1 = 0 ∧ sgM x 14 (24 * a + (s - g)) g ≠ sgM x 14 (24 * b) g) := by
  have eq : sgM x 14 (24 * a + (s - g)) g = sgM x 14 (24 * b) g ↔ ∀ j, 0 ≤ j → j < g → x.2 14 (24 * a + (s - g) + j) = x.2 14 (24 * b + j) := by
    rw [sgM_eq]
    exact ⟨fun h j _ hj => h j hj, fun h j hj => h j (Nat.zero_le _) hj⟩
  rcases laps_s (a := a) (b := b) (g := g) hs hg 200 0 (by omega) with ⟨h8, h9⟩ | ⟨h8, h9⟩
  · exact Or.inl ⟨h8, eq.mpr h9⟩
  · exact Or.inr ⟨h8, fun h => h9 (eq.mp h)⟩
theorem stands_s {x : MS} {a b g s : Nat} (hs : x.2 13 b = (s : Int)) : ∀ (n i : Nat), s - i < n → ((F_m_stands_s n 0 x (a : Int) (b : Int) (g : Int) 1 (i : Int)).1 = 1 ∧ ∀ j, i ≤ j → j < s → x.2 14 (24 * a + g + j) = x.2 14 (24 * b + j)) ∨ ((F_m_stands_s n 0 x (a : Int) (b : Int) (g : Int) 1 (i : Int)).1 = 0 ∧ ¬ ∀ j, i ≤ j → j < s → x.2 14 (24 * a + g + j) = x.2 14 (24 * b + j)) := by
  have hb : x.2 13 (b : Int).toNat = (s : Int) := by rw [Int.toNat_natCast]; exact hs
  intro n
  induction n with
  | zero => intro i h; omega
  | succ n ih =>
    intro i h
    have ex : ((((24 : Int) * (a : Int)) + (g : Int)) + (i : Int)).toNat = 24 * a + g + i := by
      first | (rw [Int.toNat_natCast]; omega) | omega
    rw [F_m_stands_e0, hb, ex, show ((24 : Int) * (b : Int) + (i : Int)).toNat = 24 * b + i by omega]
    by_cases c : (s : Int) ≤ (i : Int)
    · rw [if_pos c]; exact Or.inl ⟨rfl, fun j h1 h2 => by omega⟩
    · rw [if_neg c, if_neg (by decide)]
      by_cases c2 : x.2 14 (24 * a + g + i) = x.2 14 (24 * b + i)
      · rw [if_pos c2, show (i : Int) + (1 : Int) = ((i + 1 : Nat) : Int) by omega]
        rcases ih (i + 1) (by omega) with ⟨h1, h2⟩ | ⟨h1, h2⟩
        · refine Or.inl ⟨h1, fun j j1 j2 => ?_⟩
          by_cases hj : j = i
          · rw [hj]; exact c2
          · exact h2 j (by omega) j2
        · exact Or.inr ⟨h1, fun h9 => h2 (fun j j1 j2 => h9 j (by omega) j2)⟩
      · rw [if_neg c2]
        refine Or.inr ⟨?_, fun h9 => c2 (h9 i (Nat.le_refl _) (by omega))⟩
        cases n with
        | zero => omega
        | succ n =>
          rw [F_m_stands_e0, hb]
          by_cases c3 : (s : Int) ≤ (i : Int) + 1
          · rw [if_pos c3]
          · rw [if_neg c3, if_pos rfl]
theorem stands_x {x : MS} {a b g s : Nat} (hs : x.2 13 b = (s : Int)) (h1 : s ≤ 100) : ((F_m_stands x (a : Int) (b : Int) (g : Int)).1 = 1 ∧ sgM x 14 (24 * a + g) s = sgM x 14 (24 * b) s) ∨ ((F_m_stands x (a : Int) (b : Int) (g : Int)).1 = 0 ∧ sgM x 14 (24 * a + g) s ≠ sgM x 14 (24 * b) s) := by
  have eq : sgM x 14 (24 * a + g) s = sgM x 14 (24 * b) s ↔ ∀ j, 0 ≤ j → j < s → x.2 14 (24 * a + g + j) = x.2 14 (24 * b + j) := by
    rw [sgM_eq]
    exact ⟨fun h j _ hj => h j hj, fun h j hj => h j (Nat.zero_le _) hj⟩
  rcases stands_s (a := a) (b := b) (g := g) hs  200 0 (by omega) with ⟨h8, h9⟩ | ⟨h8, h9⟩
  · exact Or.inl ⟨h8, eq.mpr h9⟩
  · exact Or.inr ⟨h8, fun h => h9 (eq.mp h)⟩
