-- deps: 02 70 71 72
/-! numbers and lists of LETTERS: dl n k v: the k LETTERS of v to the base n; vl n u: the number of u -/
def dl (n : Nat) : Nat → Nat → List Int
  | 0, _ => []
  | k + 1, v => dl n k (v / n) ++ [((v % n : Nat) : Int)]
def vl (n : Nat) (u : List Int) : Nat := u.foldl (fun a l => a * n + l.toNat) 0
/-- LETTERS below n -/
def okL (n : Nat) (u : List Int) : Prop := ∀ l ∈ u, 0 ≤ l ∧ l < (n : Int)
theorem snoc_of : ∀ u : List Int, u ≠ [] → ∃ t l, u = t ++ [l] := by
  intro u
  induction u with
  | nil => intro h; exact absurd rfl h
  | cons a s ih =>
    intro _
    by_cases hs : s = []
    · subst hs; exact ⟨[], a, rfl⟩
    · obtain ⟨t, l, e⟩ := ih hs
      exact ⟨a :: t, l, by rw [e]; rfl⟩
theorem dl_len (n : Nat) : ∀ k v, (dl n k v).length = k := by
  intro k
  induction k with
  | zero => intro v; rfl
  | succ k ih => intro v; show (dl n k (v / n) ++ [_]).length = k + 1; rw [List.length_append, ih]; rfl
theorem vl_snoc (n : Nat) (u : List Int) (l : Int) : vl n (u ++ [l]) = vl n u * n + l.toNat := by
  unfold vl
  rw [List.foldl_append]
  rfl
theorem dl_ok {n : Nat} (hn : 1 ≤ n) : ∀ k v, okL n (dl n k v) := by
  intro k
  induction k with
  | zero => intro v l h; exact absurd h List.not_mem_nil
  | succ k ih =>
    intro v l h
    rcases List.mem_append.mp h with h | h
    · exact ih _ l h
    · have e : l = ((v % n : Nat) : Int) := by simpa using h
      have := Nat.mod_lt v (show 0 < n by omega)
      rw [e]; omega
theorem vl_dl {n : Nat} (hn : 1 ≤ n) : ∀ k v, v < n ^ k → vl n (dl n k v) = v := by
  intro k
  induction k with
  | zero => intro v h; have : v = 0 := by rw [Nat.pow_zero] at h; omega
            rw [this]; rfl
  | succ k ih =>
    intro v h
    show vl n (dl n k (v / n) ++ [((v % n : Nat) : Int)]) = v
    have h2 : v / n < n ^ k := by
      apply Nat.div_lt_of_lt_mul
      rw [Nat.mul_comm, ← Nat.pow_succ]; exact h
    rw [vl_snoc, ih _ h2, Int.toNat_natCast, Nat.mul_comm]
    exact Nat.div_add_mod v n
theorem vl_lt {n : Nat} : ∀ (k : Nat) (u : List Int), u.length = k → okL n u → vl n u < n ^ k ∨ n = 0 := by
  intro k
  induction k with
  | zero => intro u h _; have e : u = [] := List.eq_nil_of_length_eq_zero h; subst e; exact Or.inl (by show 0 < 1; decide)
  | succ k ih =>
    intro u h ok
    have hne : u ≠ [] := fun e => by rw [e] at h; cases h
    obtain ⟨t, l, e⟩ : ∃ t l, u = t ++ [l] := snoc_of _ hne
    subst e
    rw [List.length_append] at h
    have ht : t.length = k := by have : ([l] : List Int).length = 1 := rfl; omega
    have okt : okL n t := fun z hz => ok z (List.mem_append.mpr (Or.inl hz))
    have okl := ok l (List.mem_append.mpr (Or.inr (by simp)))
    rcases ih t ht okt with h1 | h1
    · left
      rw [vl_snoc, Nat.pow_succ]
      have h3 : (vl n t + 1) * n ≤ n ^ k * n := Nat.mul_le_mul_right _ h1
      rw [Nat.add_mul, Nat.one_mul] at h3
      omega
    · exact Or.inr h1
theorem dl_vl {n : Nat} : ∀ (k : Nat) (u : List Int), u.length = k → okL n u → dl n k (vl n u) = u := by
  intro k
  induction k with
  | zero => intro u h _; exact (List.eq_nil_of_length_eq_zero h).symm
  | succ k ih =>
    intro u h ok
    have hne : u ≠ [] := fun e => by rw [e] at h; cases h
    obtain ⟨t, l, e⟩ : ∃ t l, u = t ++ [l] := snoc_of _ hne
    subst e
    rw [List.length_append] at h
    have ht : t.length = k := by have : ([l] : List Int).length = 1 := rfl; omega
    have okt : okL n t := fun z hz => ok z (List.mem_append.mpr (Or.inl hz))
    have okl := ok l (List.mem_append.mpr (Or.inr (by simp)))
    have hl : l.toNat < n := by omega
    show dl n k (vl n (t ++ [l]) / n) ++ [((vl n (t ++ [l]) % n : Nat) : Int)] = t ++ [l]
    rw [vl_snoc, Nat.mul_comm, Nat.mul_add_div (by omega), Nat.div_eq_of_lt hl, Nat.add_zero, ih t ht okt, Nat.mul_add_mod, Nat.mod_eq_of_lt hl]
    congr 2
    omega
/-- the first LETTERS and the last ones -/
theorem dl_app (n a : Nat) : ∀ b v : Nat, dl n (a + b) v = dl n a (v / n ^ b) ++ dl n b (v % n ^ b) := by
  intro b
  induction b with
  | zero => intro v; show dl n a v = dl n a (v / n ^ 0) ++ []; rw [Nat.pow_zero, Nat.div_one, List.append_nil]
  | succ b ih =>
    intro v
    show dl n (a + b) (v / n) ++ [((v % n : Nat) : Int)] = dl n a (v / n ^ (b + 1)) ++ (dl n b (v % n ^ (b + 1) / n) ++ [((v % n ^ (b + 1) % n : Nat) : Int)])
    rw [ih, List.append_assoc, Nat.div_div_eq_div_mul]
    have e1 : n * n ^ b = n ^ (b + 1) := by rw [Nat.pow_succ, Nat.mul_comm]
    have e2 : v % n ^ (b + 1) % n = v % n := Nat.mod_mod_of_dvd v ⟨n ^ b, e1.symm⟩
    have e3 : v % n ^ (b + 1) / n = v / n % n ^ b := by rw [← e1]; exact Nat.mod_mul_right_div_self v n (n ^ b)
    rw [e1, e2, e3]
theorem knm_snoc (u : List Int) (l : Int) : knm (u ++ [l]) = knm u * 5 + kd l := by
  rw [knm_app]
  show knm u * 5 ^ 1 + (kd l * 5 ^ 0 + 0) = _
  omega
/-- of two lists as long as each other the lesser number is ahead -/
theorem vl_knm {n : Nat} (h4 : n ≤ 4) : ∀ (k : Nat) (u v : List Int), u.length = k → v.length = k → okL n u → okL n v → vl n u < vl n v → knm u < knm v := by
  intro k
  induction k with
  | zero =>
    intro u v hu hv _ _ h
    have e1 : u = [] := List.eq_nil_of_length_eq_zero hu
    have e2 : v = [] := List.eq_nil_of_length_eq_zero hv
    subst e1; subst e2
    exact absurd h (Nat.lt_irrefl _)
  | succ k ih =>
    intro u v hu hv ou ov h
    have nu : u ≠ [] := fun e => by rw [e] at hu; cases hu
    have nv : v ≠ [] := fun e => by rw [e] at hv; cases hv
    obtain ⟨s, l, e⟩ : ∃ t l, u = t ++ [l] := snoc_of _ nu
    obtain ⟨t, m, f⟩ : ∃ t l, v = t ++ [l] := snoc_of _ nv
    subst e; subst f
    rw [List.length_append] at hu hv
    have hs : s.length = k := by have : ([l] : List Int).length = 1 := rfl; omega
    have ht : t.length = k := by have : ([m] : List Int).length = 1 := rfl; omega
    have os : okL n s := fun z hz => ou z (List.mem_append.mpr (Or.inl hz))
    have ot : okL n t := fun z hz => ov z (List.mem_append.mpr (Or.inl hz))
    have ol := ou l (List.mem_append.mpr (Or.inr (by simp)))
    have om := ov m (List.mem_append.mpr (Or.inr (by simp)))
    rw [vl_snoc, vl_snoc] at h
    rw [knm_snoc, knm_snoc]
    have dl1 : kd l = l.toNat + 1 := by unfold kd; omega
    have dm1 : kd m = m.toNat + 1 := by unfold kd; omega
    rcases Nat.lt_trichotomy (vl n s) (vl n t) with c | c | c
    · have := ih s t hs ht os ot c
      have b1 := kd_b l
      have b2 := kd_b m
      omega
    · have e9 : s = t := by rw [← dl_vl k s hs os, ← dl_vl k t ht ot, c]
      subst e9
      omega
    · exfalso
      have h3 : (vl n t + 1) * n ≤ vl n s * n := Nat.mul_le_mul_right _ c
      rw [Nat.add_mul, Nat.one_mul] at h3
      omega
