-- deps: 99.z.l
/-! STRINGS and their numbers in ORDER -/
def num (n : Nat) (u : List Int) : Int := gS (n : Int) u.length + ((vl n u : Nat) : Int)
theorem gP_pow (n : Nat) : ∀ k : Nat, gP (n : Int) k = ((n ^ k : Nat) : Int) := by
  intro k
  induction k with
  | zero => rfl
  | succ k ih =>
    show gP (n : Int) k * (n : Int) = _
    rw [ih, Nat.pow_succ, Int.natCast_mul]
theorem gS_s (L : Int) (k : Nat) : gS L (k + 1) = gS L k + gP L k := rfl
theorem num_b {n : Nat} (hn : 1 ≤ n) {u : List Int} (h : okL n u) : gS (n : Int) u.length ≤ num n u ∧ num n u < gS (n : Int) (u.length + 1) := by
  have v := (vl_lt u.length u rfl h).resolve_right (by omega)
  have e := gP_pow n u.length
  have s := gS_s (n : Int) u.length
  unfold num
  rw [e] at s
  generalize n ^ u.length = p at v s
  omega
theorem gS_lt {n : Nat} (hn : 1 ≤ n) {a b : Nat} (h : a < b) : gS (n : Int) (a + 1) ≤ gS (n : Int) b := gS_mono (by omega) h
theorem num_len {n : Nat} (hn : 1 ≤ n) {u v : List Int} (hu : okL n u) (hv : okL n v) (h : num n u ≤ num n v) : u.length ≤ v.length := by
  rcases Nat.lt_or_ge v.length u.length with c | c
  · have a := num_b hn hu
    have b := num_b hn hv
    have g := gS_lt hn c
    omega
  · exact c
theorem num_one {n : Nat} (hn : 1 ≤ n) {u v : List Int} (hu : okL n u) (hv : okL n v) (h : num n u = num n v) : u = v := by
  have l1 := num_len hn hu hv (by omega)
  have l2 := num_len hn hv hu (by omega)
  have l : u.length = v.length := by omega
  have e : vl n u = vl n v := by unfold num at h; rw [l] at h; omega
  exact (dl_vl _ u rfl hu).symm.trans (by rw [l, e]; exact dl_vl _ v rfl hv)
theorem num_ex {n : Nat} (hn : 1 ≤ n) : ∀ (k : Nat) (w : Int), 0 ≤ w → w < gS (n : Int) k → ∃ u, okL n u ∧ u.length < k ∧ num n u = w := by
  intro k
  induction k with
  | zero => intro w h0 h1; exact absurd h1 (by show ¬ w < 0; omega)
  | succ k ih =>
    intro w h0 h1
    by_cases c : w < gS (n : Int) k
    · obtain ⟨u, a, b, e⟩ := ih w h0 c
      exact ⟨u, a, by omega, e⟩
    · have s := gS_s (n : Int) k
      have e := gP_pow n k
      have lt : (w - gS (n : Int) k).toNat < n ^ k := by
        rw [e] at s
        generalize n ^ k = p at s
        omega
      refine ⟨dl n k (w - gS (n : Int) k).toNat, dl_ok hn _ _, by rw [dl_len]; omega, ?_⟩
      unfold num
      rw [dl_len, vl_dl hn k _ lt]
      omega
theorem num_lt {n : Nat} (hn : 1 ≤ n) {u : List Int} (h : okL n u) {m : Nat} (hm : u.length ≤ m) : num n u < gS (n : Int) (m + 1) := by
  have b := num_b hn h
  have g := gS_mono (L := (n : Int)) (by omega) (show u.length + 1 ≤ m + 1 by omega)
  omega
theorem num_0 {n : Nat} (hn : 1 ≤ n) {u : List Int} (h : okL n u) : 0 ≤ num n u := by
  have b := num_b hn h
  have g := gS_nn (L := (n : Int)) (by omega) u.length
  omega
theorem num_ahd {n : Nat} (hn : 1 ≤ n) (h4 : n ≤ 4) {u v : List Int} (hu : okL n u) (hv : okL n v) (h : num n u < num n v) : ahd u v := by
  have l := num_len hn hu hv (by omega)
  rcases Nat.lt_or_eq_of_le l with c | c
  · exact Or.inl c
  · refine Or.inr ⟨c, vl_knm h4 v.length u v c rfl hu hv ?_⟩
    unfold num at h
    rw [c] at h
    omega
theorem num_nil (n : Nat) : num n [] = 0 := rfl
theorem okL_pp {n : Nat} {u v : List Int} : okL n (u ++ v) ↔ okL n u ∧ okL n v := by
  constructor
  · intro h
    exact ⟨fun l hl => h l (List.mem_append.mpr (Or.inl hl)), fun l hl => h l (List.mem_append.mpr (Or.inr hl))⟩
  · intro h l hl
    rcases List.mem_append.mp hl with q | q
    · exact h.1 l q
    · exact h.2 l q
theorem vl_fd (n : Nat) : ∀ (v : List Int) (a : Nat), v.foldl (fun a l => a * n + l.toNat) a = a * n ^ v.length + vl n v := by
  intro v
  induction v with
  | nil => intro a; show a = a * 1 + 0; omega
  | cons l t ih =>
    intro a
    have e1 := ih (a * n + l.toNat)
    have e2 := ih (0 * n + l.toNat)
    have e3 : vl n (l :: t) = t.foldl (fun a l => a * n + l.toNat) (0 * n + l.toNat) := rfl
    rw [List.foldl_cons, e1, e3, e2, List.length_cons, Nat.pow_succ, Nat.add_mul, Nat.mul_assoc, Nat.mul_comm n, Nat.zero_mul, Nat.zero_add]
    omega
theorem vl_pp (n : Nat) (u v : List Int) : vl n (u ++ v) = vl n u * n ^ v.length + vl n v := by
  show (u ++ v).foldl _ 0 = _
  rw [List.foldl_append]
  exact vl_fd n v _
/-- the number of u A v -/
theorem num_3 (n : Nat) (u A v : List Int) : num n (u ++ (A ++ v)) = gS (n : Int) (u.length + A.length + v.length) + ((vl n A * n ^ v.length : Nat) : Int) + ((vl n u * (n ^ A.length * n ^ v.length) : Nat) : Int) + ((vl n v : Nat) : Int) := by
  unfold num
  rw [vl_pp, vl_pp, List.length_append, List.length_append, Nat.pow_add, ← Nat.add_assoc]
  omega
/-- without its last LETTER, without its first -/
theorem num_last {n : Nat} (hn : 1 ≤ n) {u : List Int} {l : Int} (h : okL n (u ++ [l])) : num n u = gS (n : Int) u.length + (num n (u ++ [l]) - gS (n : Int) (u.length + 1)) / (n : Int) := by
  have hl := (okL_pp.mp h).2 l (List.mem_singleton.mpr rfl)
  have e : vl n (u ++ [l]) = vl n u * n + l.toNat := vl_snoc n u l
  unfold num
  rw [List.length_append, e]
  have e2 : gS (n : Int) (u.length + [l].length) + ((vl n u * n + l.toNat : Nat) : Int) - gS (n : Int) (u.length + 1) = ((vl n u * n + l.toNat : Nat) : Int) := by
    show gS (n : Int) (u.length + 1) + _ - _ = _
    omega
  rw [e2, ← Int.natCast_ediv, Nat.mul_comm, Nat.mul_add_div (by omega), Nat.div_eq_of_lt (by omega), Nat.add_zero]
theorem num_first {n : Nat} (hn : 1 ≤ n) {u : List Int} {l : Int} (h : okL n (l :: u)) : num n u = gS (n : Int) u.length + (num n (l :: u) - gS (n : Int) (u.length + 1)) % gP (n : Int) u.length := by
  have ht : okL n u := fun q hq => h q (List.mem_cons_of_mem _ hq)
  have lt := (vl_lt u.length u rfl ht).resolve_right (by omega)
  have e : vl n (l :: u) = vl n [l] * n ^ u.length + vl n u := vl_pp n [l] u
  unfold num
  rw [List.length_cons, e, gP_pow]
  have e2 : gS (n : Int) (u.length + 1) + ((vl n [l] * n ^ u.length + vl n u : Nat) : Int) - gS (n : Int) (u.length + 1) = ((vl n [l] * n ^ u.length + vl n u : Nat) : Int) := by omega
  rw [e2, ← Int.natCast_emod, Nat.mul_comm, Nat.mul_add_mod, Nat.mod_eq_of_lt lt]
/-- two rows that rise and hold the same are the same -/
theorem enum_le {f g : Nat → Int} {n m : Nat} (hf : ∀ i j, i < j → j < n → f i < f j) (hg : ∀ i j, i < j → j < m → g i < g j) (h : ∀ i, i < n → ∃ j, j < m ∧ f i = g j) : ∀ i, i < n → ∃ j, i ≤ j ∧ j < m ∧ f i = g j := by
  intro i
  induction i with
  | zero =>
    intro hi
    obtain ⟨j, j1, j2⟩ := h 0 hi
    exact ⟨j, Nat.zero_le _, j1, j2⟩
  | succ i ih =>
    intro hi
    obtain ⟨k, k1, k2, k3⟩ := ih (by omega)
    obtain ⟨j, j1, j2⟩ := h (i + 1) hi
    refine ⟨j, ?_, j1, j2⟩
    rcases Nat.lt_or_ge k j with c | c
    · omega
    · exfalso
      have a := hf i (i + 1) (by omega) hi
      have b : g j ≤ g k := by
        rcases Nat.lt_or_eq_of_le c with d | d
        · exact Int.le_of_lt (hg j k d k2)
        · rw [d]; exact Int.le_refl _
      omega
theorem enum_n {f g : Nat → Int} {n m : Nat} (hf : ∀ i j, i < j → j < n → f i < f j) (hg : ∀ i j, i < j → j < m → g i < g j) (h : ∀ i, i < n → ∃ j, j < m ∧ f i = g j) : n ≤ m := by
  rcases Nat.eq_zero_or_pos n with c | c
  · omega
  · obtain ⟨j, j1, j2, _⟩ := enum_le hf hg h (n - 1) (by omega)
    omega
theorem enum_eq {f g : Nat → Int} {n m : Nat} (hf : ∀ i j, i < j → j < n → f i < f j) (hg : ∀ i j, i < j → j < m → g i < g j) (h : ∀ i, i < n → ∃ j, j < m ∧ f i = g j) (k : ∀ i, i < m → ∃ j, j < n ∧ g i = f j) : n = m ∧ ∀ i, i < n → f i = g i := by
  have e1 := enum_n hf hg h
  have e2 := enum_n hg hf k
  have e : n = m := by omega
  refine ⟨e, fun i hi => ?_⟩
  obtain ⟨j, j1, j2, j3⟩ := enum_le hf hg h i hi
  obtain ⟨q, q1, q2, q3⟩ := enum_le hg hf k i (by omega)
  have a : g i ≤ g j := by
    rcases Nat.lt_or_eq_of_le j1 with d | d
    · exact Int.le_of_lt (hg i j d j2)
    · rw [d]; exact Int.le_refl _
  have b : f i ≤ f q := by
    rcases Nat.lt_or_eq_of_le q1 with d | d
    · exact Int.le_of_lt (hf i q d q2)
    · rw [d]; exact Int.le_refl _
  omega
