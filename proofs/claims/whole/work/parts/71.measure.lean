-- deps: 02 70
/-! a number for each list that grows with ORDER: shorter ones first, then by LETTERS -/
def kd (l : Int) : Nat := (min (max l 0) 3 + 1).toNat
theorem kd_b (l : Int) : 1 ≤ kd l ∧ kd l ≤ 4 := by unfold kd; omega
def knm : List Int → Nat
  | [] => 0
  | l :: t => kd l * 5 ^ t.length + knm t
theorem k5_1 (k : Nat) : 1 ≤ 5 ^ k := Nat.one_le_pow _ _ (by decide)
theorem k5_s (k : Nat) : 5 ^ (k + 1) = 5 * 5 ^ k := by rw [Nat.pow_succ, Nat.mul_comm]
theorem k5_m {a b : Nat} (h : a ≤ b) : 5 ^ a ≤ 5 ^ b := Nat.pow_le_pow_right (by decide) h
theorem knm_lt : ∀ u : List Int, knm u < 5 ^ u.length := by
  intro u
  induction u with
  | nil => decide
  | cons l t ih =>
    show kd l * 5 ^ t.length + knm t < 5 ^ (t.length + 1)
    have h := kd_b l
    have h4 : kd l * 5 ^ t.length ≤ 4 * 5 ^ t.length := Nat.mul_le_mul_right _ h.2
    rw [k5_s]
    omega
theorem knm_ge (l : Int) (t : List Int) : 5 ^ t.length ≤ knm (l :: t) := by
  show 5 ^ t.length ≤ kd l * 5 ^ t.length + knm t
  have h4 : 1 * 5 ^ t.length ≤ kd l * 5 ^ t.length := Nat.mul_le_mul_right _ (kd_b l).1
  omega
theorem knm_short {u v : List Int} (h : u.length < v.length) : knm u < knm v := by
  cases v with
  | nil => exact absurd h (Nat.not_lt_zero _)
  | cons l t =>
    have h1 := knm_lt u
    have h2 := knm_ge l t
    have h3 : 5 ^ u.length ≤ 5 ^ t.length := k5_m (Nat.le_of_lt_succ h)
    omega
theorem knm_app : ∀ u v : List Int, knm (u ++ v) = knm u * 5 ^ v.length + knm v := by
  intro u v
  induction u with
  | nil => show knm v = 0 * _ + knm v; omega
  | cons l t ih =>
    show kd l * 5 ^ (t ++ v).length + knm (t ++ v) = (kd l * 5 ^ t.length + knm t) * 5 ^ v.length + knm v
    rw [ih, List.length_append, Nat.pow_add, Nat.add_mul, Nat.mul_assoc]
    omega
/-- a list that is ahead in ORDER -/
def ahd (u v : List Int) : Prop := u.length < v.length ∨ (u.length = v.length ∧ knm u < knm v)
theorem knm_ahd {u v : List Int} (a b : List Int) (h : ahd u v) : knm (a ++ (u ++ b)) < knm (a ++ (v ++ b)) := by
  rcases h with h | ⟨h, h2⟩
  · exact knm_short (by simp only [List.length_append]; omega)
  · rw [knm_app, knm_app a, knm_app u, knm_app v, List.length_append, List.length_append, h]
    have h3 : knm u * 5 ^ b.length < knm v * 5 ^ b.length := Nat.mul_lt_mul_of_pos_right h2 (k5_1 _)
    omega
theorem st1_dec {L R : Nat → List Int} {n : Nat} (hr : ∀ r, r < n → ahd (R r) (L r)) : ∀ u v, st1 L R n u v → knm v < knm u := by
  intro u v h
  obtain ⟨a, b, r, hn, e1, e2⟩ := h
  rw [e1, e2]
  exact knm_ahd a b (hr r hn)
theorem st1_len {L R : Nat → List Int} {n : Nat} (hr : ∀ r, r < n → ahd (R r) (L r)) {u v : List Int} (h : st1 L R n u v) : v.length ≤ u.length := by
  obtain ⟨a, b, r, hn, e1, e2⟩ := h
  rw [e1, e2]
  simp only [List.length_append]
  rcases hr r hn with h | h <;> omega
theorem rch_len {L R : Nat → List Int} {n : Nat} (hr : ∀ r, r < n → ahd (R r) (L r)) {u v : List Int} (h : rch L R n u v) : v.length ≤ u.length := by
  obtain ⟨k, hk⟩ := h
  revert u
  induction k with
  | zero => intro u hk; have e : u = v := hk; rw [e]; exact Nat.le_refl _
  | succ k ih =>
    intro u hk
    obtain ⟨w, h1, h2⟩ := hk
    exact Nat.le_trans (ih h2) (st1_len hr h1)
/-- two ways to reduce: where the meetings end alike in the one, the two are one -/
theorem two_one {L R : Nat → List Int} {n B : Nat} (hr : ∀ r, r < n → ahd (R r) (L r)) (hB : ∀ r, r < n → 2 * (L r).length ≤ B) {F G : List Int → List Int}
    (hF : ∀ u : List Int, u.length ≤ B → rch L R n u (F u) ∧ irr L R n (F u)) (hG : ∀ u : List Int, u.length ≤ B → rch L R n u (G u) ∧ irr L R n (G u))
    (t1 : ∀ r q, r < n → q < n → ∀ c d e : List Int, c ≠ [] → d ≠ [] → e ≠ [] → L r = c ++ d → L q = d ++ e → F (R r ++ e) = F (c ++ R q))
    (t2 : ∀ r q, r < n → q < n → r ≠ q → ∀ c e : List Int, L r = c ++ (L q ++ e) → F (R r) = F (c ++ (R q ++ e))) : ∀ u : List Int, u.length ≤ B → F u = G u := by
  have hc := closed_one knm (st1_dec hr) hF hB (fun r h => by rcases hr r h with h | h <;> omega) t1 t2
  intro u hu
  exact nf_one hc (hF u hu).2 (hG u hu).2 (hF u hu).1 (hG u hu).1
/-- each way ends -/
theorem nf_is {L R : Nat → List Int} {n : Nat} (hr : ∀ r, r < n → ahd (R r) (L r)) : ∀ (N : Nat) (u : List Int), knm u < N → ∃ v, rch L R n u v ∧ irr L R n v := by
  intro N
  induction N with
  | zero => intro u h; exact absurd h (Nat.not_lt_zero _)
  | succ N ih =>
    intro u h
    by_cases hi : irr L R n u
    · exact ⟨u, rch_rf u, hi⟩
    · have : ∃ v, st1 L R n u v := Classical.byContradiction fun hn => hi fun v hv => hn ⟨v, hv⟩
      obtain ⟨v, hv⟩ := this
      have hd := st1_dec hr u v hv
      obtain ⟨w, h1, h2⟩ := ih v (by omega)
      exact ⟨w, rch_tr (rch_1 hv) h1, h2⟩
