-- deps: 99.z.k
/-! the least relation that holds some pairs, and one pair more -/
def eqv (E : Int → Int → Prop) : Prop := (∀ u, E u u) ∧ (∀ u v, E u v → E v u) ∧ ∀ u v w, E u v → E v w → E u w
def eqG (P : Int → Int → Prop) (u v : Int) : Prop := ∀ E : Int → Int → Prop, eqv E → (∀ a b, P a b → E a b) → E u v
theorem eqG_v (P : Int → Int → Prop) : eqv (eqG P) := ⟨fun u E h _ => h.1 u, fun u v g E h k => h.2.1 u v (g E h k), fun u v w g1 g2 E h k => h.2.2 u v w (g1 E h k) (g2 E h k)⟩
theorem eqG_i {P : Int → Int → Prop} {a b : Int} (h : P a b) : eqG P a b := fun _ _ k => k a b h
theorem adR_v {R : Int → Int → Prop} (h : eqv R) (a b : Int) : eqv (adR R a b) := by
  obtain ⟨rf, sy, tr⟩ := h
  refine ⟨fun u => Or.inl (rf u), fun u v g => ?_, fun u v w g1 g2 => ?_⟩
  · rcases g with g | ⟨g1, g2⟩ | ⟨g1, g2⟩
    · exact Or.inl (sy _ _ g)
    · exact Or.inr (Or.inr ⟨sy _ _ g2, sy _ _ g1⟩)
    · exact Or.inr (Or.inl ⟨sy _ _ g2, sy _ _ g1⟩)
  · rcases g1 with g | ⟨p1, p2⟩ | ⟨p1, p2⟩
    · rcases g2 with k | ⟨q1, q2⟩ | ⟨q1, q2⟩
      · exact Or.inl (tr _ _ _ g k)
      · exact Or.inr (Or.inl ⟨tr _ _ _ g q1, q2⟩)
      · exact Or.inr (Or.inr ⟨tr _ _ _ g q1, q2⟩)
    · rcases g2 with k | ⟨q1, q2⟩ | ⟨q1, q2⟩
      · exact Or.inr (Or.inl ⟨p1, tr _ _ _ p2 k⟩)
      · exact Or.inl (tr _ _ _ (tr _ _ _ p1 (sy _ _ (tr _ _ _ p2 q1))) q2)
      · exact Or.inl (tr _ _ _ p1 q2)
    · rcases g2 with k | ⟨q1, q2⟩ | ⟨q1, q2⟩
      · exact Or.inr (Or.inr ⟨p1, tr _ _ _ p2 k⟩)
      · exact Or.inl (tr _ _ _ p1 q2)
      · exact Or.inl (tr _ _ _ (tr _ _ _ p1 (sy _ _ (tr _ _ _ p2 q1))) q2)
theorem eqG_add (P : Int → Int → Prop) (a b u v : Int) : adR (eqG P) a b u v ↔ eqG (fun p q => P p q ∨ (p = a ∧ q = b)) u v := by
  constructor
  · intro h E hE k
    have kP : ∀ p q, P p q → E p q := fun p q hp => k p q (Or.inl hp)
    have kab : E a b := k a b (Or.inr ⟨rfl, rfl⟩)
    rcases h with h | ⟨h1, h2⟩ | ⟨h1, h2⟩
    · exact h E hE kP
    · exact hE.2.2 _ _ _ (hE.2.2 _ _ _ (h1 E hE kP) kab) (h2 E hE kP)
    · exact hE.2.2 _ _ _ (hE.2.2 _ _ _ (h1 E hE kP) (hE.2.1 _ _ kab)) (h2 E hE kP)
  · intro h
    refine h _ (adR_v (eqG_v P) a b) (fun p q hp => ?_)
    rcases hp with hp | ⟨e1, e2⟩
    · exact Or.inl (eqG_i hp)
    · rw [e1, e2]; exact Or.inr (Or.inl ⟨(eqG_v P).1 a, (eqG_v P).1 b⟩)
theorem ufR_e {f : Nat → Int} {B : Int} {R S : Int → Int → Prop} (h : ufR f B R) (e : ∀ u v, R u v ↔ S u v) : ufR f B S := ⟨h.1, fun u v u0 u1 v0 v1 => (h.2 u v u0 u1 v0 v1).trans (e u v)⟩
/-- a join more: a pair more -/
theorem uf_pair {x : MS} {P : Int → Int → Prop} (h : ufR (x.2 9) 10001 (eqG P)) {a b : Int} (a0 : 0 ≤ a) (a1 : a < 10001) (b0 : 0 ≤ b) (b1 : b < 10001) : ufR ((F_m_join x a b).2.2 9) 10001 (eqG (fun p q => P p q ∨ (p = a ∧ q = b))) := ufR_e (uf_join h a0 a1 b0 b1) (eqG_add P a b)
theorem uf_pairB {x : MS} {P : Int → Int → Prop} {B : Int} (hj : jOK x) (hB : B ≤ 10001) (h : ufR (x.2 9) B (eqG P)) {a b : Int} (a0 : 0 ≤ a) (a1 : a < B) (b0 : 0 ≤ b) (b1 : b < B) : jOK (F_m_join x a b).2 ∧ ufR ((F_m_join x a b).2.2 9) B (eqG (fun p q => P p q ∨ (p = a ∧ q = b))) := by
  obtain ⟨j, r⟩ := join_x hj a0 (by omega) b0 (by omega)
  exact ⟨j, ufR_e (uf_add h (fun k hk => j k (by omega)) a0 a1 b0 b1 (fun v v0 v1 => r v v0 (by omega))) (eqG_add P a b)⟩
theorem uf_ident {f : Nat → Int} {B : Int} (h : ∀ k : Nat, (k : Int) < B → f k = (k : Int)) : ufR f B (eqG (fun _ _ => False)) := ufR_e (uf_0 h) (fun u v => ⟨fun e => by rw [e]; exact (eqG_v _).1 v, fun g => g (fun p q => p = q) ⟨fun _ => rfl, fun _ _ e => e.symm, fun _ _ _ e1 e2 => e1.trans e2⟩ (fun _ _ k => k.elim)⟩)
