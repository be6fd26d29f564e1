-- deps: 02
/-! rewriting of lists by numbered rules: L r to R r, r < n -/
def st1 (L R : Nat → List Int) (n : Nat) (u v : List Int) : Prop := ∃ (a b : List Int) (r : Nat), r < n ∧ u = a ++ (L r ++ b) ∧ v = a ++ (R r ++ b)
def stN (L R : Nat → List Int) (n : Nat) : Nat → List Int → List Int → Prop
  | 0, u, v => u = v
  | k + 1, u, v => ∃ w, st1 L R n u w ∧ stN L R n k w v
def rch (L R : Nat → List Int) (n : Nat) (u v : List Int) : Prop := ∃ k, stN L R n k u v
def jnb (L R : Nat → List Int) (n : Nat) (u v : List Int) : Prop := ∃ w, rch L R n u w ∧ rch L R n v w
def irr (L R : Nat → List Int) (n : Nat) (u : List Int) : Prop := ∀ v, ¬ st1 L R n u v
section RW
variable {L R : Nat → List Int} {n : Nat}
theorem rch_rf (u : List Int) : rch L R n u u := ⟨0, rfl⟩
theorem stN_add : ∀ (k m : Nat) (u w v : List Int), stN L R n k u w → stN L R n m w v → stN L R n (k + m) u v := by
  intro k
  induction k with
  | zero =>
    intro m u w v h1 h2
    rw [Nat.zero_add]
    have e : u = w := h1
    rw [e]
    exact h2
  | succ k ih =>
    intro m u w v h1 h2
    obtain ⟨z, hz, hk⟩ := h1
    rw [Nat.succ_add]
    exact ⟨z, hz, ih m z w v hk h2⟩
theorem rch_tr {u v w : List Int} (h1 : rch L R n u v) (h2 : rch L R n v w) : rch L R n u w := by
  obtain ⟨k, hk⟩ := h1
  obtain ⟨m, hm⟩ := h2
  exact ⟨k + m, stN_add k m u v w hk hm⟩
theorem rch_1 {u v : List Int} (h : st1 L R n u v) : rch L R n u v := ⟨1, v, h, rfl⟩
theorem st1_ctx {u v : List Int} (a b : List Int) (h : st1 L R n u v) : st1 L R n (a ++ (u ++ b)) (a ++ (v ++ b)) := by
  obtain ⟨c, d, r, hr, e1, e2⟩ := h
  refine ⟨a ++ c, d ++ b, r, hr, ?_, ?_⟩
  · rw [e1]; simp only [List.append_assoc]
  · rw [e2]; simp only [List.append_assoc]
theorem rch_ctx {u v : List Int} (a b : List Int) (h : rch L R n u v) : rch L R n (a ++ (u ++ b)) (a ++ (v ++ b)) := by
  obtain ⟨k, hk⟩ := h
  revert u
  induction k with
  | zero => intro u hk; have e : u = v := hk; rw [e]; exact rch_rf _
  | succ k ih =>
    intro u hk
    obtain ⟨w, h1, h2⟩ := hk
    exact rch_tr (rch_1 (st1_ctx a b h1)) (ih h2)
theorem jnb_ctx {u v : List Int} (a b : List Int) (h : jnb L R n u v) : jnb L R n (a ++ (u ++ b)) (a ++ (v ++ b)) := by
  obtain ⟨w, h1, h2⟩ := h
  exact ⟨_, rch_ctx a b h1, rch_ctx a b h2⟩
theorem jnb_sym {u v : List Int} (h : jnb L R n u v) : jnb L R n v u := by
  obtain ⟨w, h1, h2⟩ := h
  exact ⟨w, h2, h1⟩
theorem rch_cases {u v : List Int} (h : rch L R n u v) : u = v ∨ ∃ w, st1 L R n u w ∧ rch L R n w v := by
  obtain ⟨k, hk⟩ := h
  cases k with
  | zero => exact Or.inl hk
  | succ k => obtain ⟨w, h1, h2⟩ := hk; exact Or.inr ⟨w, h1, k, h2⟩
/-- Newman: if all ways end and single steps come together, all ways do -/
theorem newman (mu : List Int → Nat) (hdec : ∀ u v, st1 L R n u v → mu v < mu u) (hloc : ∀ u a b, st1 L R n u a → st1 L R n u b → jnb L R n a b) : ∀ (N : Nat) (u a b : List Int), mu u < N → rch L R n u a → rch L R n u b → jnb L R n a b := by
  intro N
  induction N with
  | zero => intro u a b h; exact absurd h (Nat.not_lt_zero _)
  | succ N ih =>
    intro u a b hN ha hb
    rcases rch_cases ha with e | ⟨a1, s1, r1⟩
    · subst e; exact ⟨b, hb, rch_rf b⟩
    · rcases rch_cases hb with e | ⟨b1, s2, r2⟩
      · subst e; exact ⟨a, rch_rf a, ha⟩
      · obtain ⟨c, h1, h2⟩ := hloc u a1 b1 s1 s2
        have m1 := hdec u a1 s1
        have m2 := hdec u b1 s2
        obtain ⟨d, g1, g2⟩ := ih a1 a c (by omega) r1 h1
        obtain ⟨e, f1, f2⟩ := ih b1 b d (by omega) r2 (rch_tr h2 g2)
        exact ⟨e, rch_tr g1 f2, f1⟩
theorem irr_rch {u v : List Int} (hi : irr L R n u) (h : rch L R n u v) : v = u := by
  rcases rch_cases h with e | ⟨w, s, _⟩
  · exact e.symm
  · exact absurd s (hi w)
theorem nf_one {u x y : List Int} (hc : ∀ u a b, rch L R n u a → rch L R n u b → jnb L R n a b) (hx : irr L R n x) (hy : irr L R n y) (h1 : rch L R n u x) (h2 : rch L R n u y) : x = y := by
  obtain ⟨w, a, b⟩ := hc u x y h1 h2
  rw [← irr_rch hx a, ← irr_rch hy b]
/-- two steps at places that don't touch -/
theorem far {r q : Nat} (hr : r < n) (hq : q < n) (a d b : List Int) : jnb L R n (a ++ (R r ++ (d ++ (L q ++ b)))) (a ++ (L r ++ (d ++ (R q ++ b)))) := by
  refine ⟨a ++ (R r ++ (d ++ (R q ++ b))), rch_1 ⟨a ++ (R r ++ d), b, q, hq, ?_, ?_⟩, rch_1 ⟨a, d ++ (R q ++ b), r, hr, rfl, rfl⟩⟩
  · simp only [List.append_assoc]
  · simp only [List.append_assoc]
/-- if what meets comes together, all single steps do; one of the two begins no later -/
theorem lcl1 (h1 : ∀ r q, r < n → q < n → ∀ c d e : List Int, c ≠ [] → d ≠ [] → e ≠ [] → L r = c ++ d → L q = d ++ e → jnb L R n (R r ++ e) (c ++ R q))
    (h2 : ∀ r q, r < n → q < n → r ≠ q → ∀ c e : List Int, L r = c ++ (L q ++ e) → jnb L R n (R r) (c ++ (R q ++ e)))
    {r q : Nat} (hr : r < n) (hq : q < n) {a b c b' : List Int} (hE : L r ++ b = c ++ (L q ++ b')) : jnb L R n (a ++ (R r ++ b)) (a ++ (c ++ (R q ++ b'))) := by
  have inc : ∀ c e : List Int, L r = c ++ (L q ++ e) → jnb L R n (R r) (c ++ (R q ++ e)) := by
    intro c e he
    by_cases hne : r = q
    · subst hne
      have hl := congrArg List.length he
      simp only [List.length_append] at hl
      have hc : c = [] := List.eq_nil_of_length_eq_zero (by omega)
      have hee : e = [] := List.eq_nil_of_length_eq_zero (by omega)
      subst hc; subst hee
      simp only [List.nil_append, List.append_nil]
      exact ⟨_, rch_rf _, rch_rf _⟩
    · exact h2 r q hr hq hne c e he
  rcases List.append_eq_append_iff.mp hE with ⟨d, e1, e2⟩ | ⟨d, e1, e2⟩
  · -- c = L r ++ d, b = d ++ (L q ++ b')
    subst e1; subst e2
    have := far (L := L) (R := R) hr hq a d b'
    rw [List.append_assoc]
    exact this
  · -- L r = c ++ d, L q ++ b' = d ++ b
    rcases List.append_eq_append_iff.mp e2 with ⟨f, g1, g2⟩ | ⟨f, g1, g2⟩
    · -- d = L q ++ f, b' = f ++ b
      subst g1; subst g2
      have h := jnb_ctx a b (inc c f e1)
      simp only [List.append_assoc] at h
      exact h
    · -- L q = d ++ f, b = f ++ b'
      subst g2
      have key : jnb L R n (R r ++ f) (c ++ R q) := by
        by_cases hd : d = []
        · subst hd
          rw [List.append_nil] at e1
          rw [List.nil_append] at g1
          rw [← e1, ← g1]
          have := far (L := L) (R := R) hr hq [] [] []
          simp only [List.nil_append, List.append_nil] at this
          exact this
        · by_cases hc : c = []
          · subst hc
            rw [List.nil_append] at e1
            rw [List.nil_append]
            have hi : L q = [] ++ (L r ++ f) := by rw [List.nil_append, e1]; exact g1
            by_cases hne : q = r
            · subst hne
              have hl := congrArg List.length hi
              simp only [List.length_append, List.length_nil] at hl
              have hf : f = [] := List.eq_nil_of_length_eq_zero (by omega)
              subst hf
              rw [List.append_nil]
              exact ⟨_, rch_rf _, rch_rf _⟩
            · have h := jnb_sym (h2 q r hq hr hne [] f hi)
              rw [List.nil_append] at h
              exact h
          · by_cases hf : f = []
            · subst hf
              rw [List.append_nil] at g1
              rw [List.append_nil]
              have h := inc c [] (by rw [List.append_nil, g1]; exact e1)
              rw [List.append_nil] at h
              exact h
            · exact h1 r q hr hq c d f hc hd hf e1 g1
      have h := jnb_ctx a b' key
      simp only [List.append_assoc] at h
      exact h
theorem lcl2 (h1 : ∀ r q, r < n → q < n → ∀ c d e : List Int, c ≠ [] → d ≠ [] → e ≠ [] → L r = c ++ d → L q = d ++ e → jnb L R n (R r ++ e) (c ++ R q))
    (h2 : ∀ r q, r < n → q < n → r ≠ q → ∀ c e : List Int, L r = c ++ (L q ++ e) → jnb L R n (R r) (c ++ (R q ++ e))) : ∀ u a b, st1 L R n u a → st1 L R n u b → jnb L R n a b := by
  intro u v w hv hw
  obtain ⟨a, b, r, hr, e1, e2⟩ := hv
  obtain ⟨a', b', q, hq, f1, f2⟩ := hw
  subst e2; subst f2
  rw [e1] at f1
  rcases List.append_eq_append_iff.mp f1 with ⟨c, g1, g2⟩ | ⟨c, g1, g2⟩
  · subst g1
    rw [List.append_assoc]
    exact lcl1 h1 h2 hr hq g2
  · subst g1
    rw [List.append_assoc]
    exact jnb_sym (lcl1 h1 h2 hq hr g2)
/-- what is tried: each meeting, reduced anyhow, ends alike; then all ways of all lists end alike -/
theorem closed_one (mu : List Int → Nat) (hdec : ∀ u v, st1 L R n u v → mu v < mu u) {B : Nat} {F : List Int → List Int} (hF : ∀ u : List Int, u.length ≤ B → rch L R n u (F u) ∧ irr L R n (F u)) (hB : ∀ r, r < n → 2 * (L r).length ≤ B) (hB2 : ∀ r, r < n → (R r).length ≤ (L r).length)
    (t1 : ∀ r q, r < n → q < n → ∀ c d e : List Int, c ≠ [] → d ≠ [] → e ≠ [] → L r = c ++ d → L q = d ++ e → F (R r ++ e) = F (c ++ R q))
    (t2 : ∀ r q, r < n → q < n → r ≠ q → ∀ c e : List Int, L r = c ++ (L q ++ e) → F (R r) = F (c ++ (R q ++ e))) : ∀ u a b, rch L R n u a → rch L R n u b → jnb L R n a b := by
  refine fun u a b ha hb => newman mu hdec (lcl2 ?_ ?_) (mu u + 1) u a b (Nat.lt_succ_self _) ha hb
  · intro r q hr hq c d e hc hd he k1 k2
    have l1 := congrArg List.length k1
    have l2 := congrArg List.length k2
    simp only [List.length_append] at l1 l2
    have b1 := hB r hr
    have b2 := hB q hq
    have b3 := hB2 r hr
    have b4 := hB2 q hq
    have s1 := hF (R r ++ e) (by rw [List.length_append]; omega)
    have s2 := hF (c ++ R q) (by rw [List.length_append]; omega)
    exact ⟨F (R r ++ e), s1.1, by rw [t1 r q hr hq c d e hc hd he k1 k2]; exact s2.1⟩
  · intro r q hr hq hne c e k1
    have l1 := congrArg List.length k1
    simp only [List.length_append] at l1
    have b1 := hB r hr
    have b3 := hB2 r hr
    have b4 := hB2 q hq
    have s1 := hF (R r) (by omega)
    have s2 := hF (c ++ (R q ++ e)) (by rw [List.length_append, List.length_append]; omega)
    exact ⟨F (R r), s1.1, by rw [t2 r q hr hq hne c e k1]; exact s2.1⟩
end RW
