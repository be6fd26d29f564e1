-- deps: 99.z.i
/-! joining two: the lesser stands for both -/
theorem rp_link {f : Nat → Int} {B : Int} (h : ldn f B) {p q : Int} (p0 : 0 ≤ q) (qp : q ≤ p) (p1 : p < B) (fp : f p.toNat = p) (fq : f q.toNat = q) : ldn (iU f p.toNat q) B ∧ ∀ w : Int, 0 ≤ w → w < B → rp (iU f p.toNat q) w = if rp f w = p then q else rp f w := by
  have g : ldn (iU f p.toNat q) B := by
    intro k hk
    rw [yU_if]
    by_cases e : k = p.toNat
    · rw [if_pos e, e]; omega
    · rw [if_neg e]; exact h k hk
  have gq : iU f p.toNat q q.toNat = q := by
    rw [yU_if]
    by_cases e : q.toNat = p.toNat
    · rw [if_pos e]
    · rw [if_neg e]; exact fq
  refine ⟨g, ?_⟩
  have key : ∀ (n : Nat) (w : Int), 0 ≤ w → w < B → w.toNat ≤ n → rp (iU f p.toNat q) w = if rp f w = p then q else rp f w := by
    intro n
    induction n with
    | zero =>
      intro w w0 w1 hn
      have f0 : f w.toNat = w := by have := h w.toNat (by omega); omega
      have g0 : iU f p.toNat q w.toNat = w := by have := g w.toNat (by omega); omega
      rw [rp_fix f0, rp_fix g0]
      by_cases e : w = p
      · rw [if_pos e]; omega
      · rw [if_neg e]
    | succ n ih =>
      intro w w0 w1 hn
      have hw := h w.toNat (by omega)
      by_cases c : f w.toNat = w
      · rw [rp_fix c]
        by_cases e : w = p
        · rw [if_pos e, rp_step g w0 w1, yU_if, if_pos (by rw [e]), rp_fix gq]
        · rw [if_neg e]
          exact rp_fix (by rw [yU_if, if_neg (by omega)]; exact c)
      · have e : w.toNat ≠ p.toNat := fun e => c (by rw [e, fp]; omega)
        rw [rp_step g w0 w1, yU_if, if_neg e, ih _ (by omega) (by omega) (by omega), ← rp_step h w0 w1]
  exact fun w w0 w1 => key w.toNat w w0 w1 (Nat.le_refl _)
theorem join_x {x : MS} {a b : Int} (hj : jOK x) (a0 : 0 ≤ a) (a1 : a < 10001) (b0 : 0 ≤ b) (b1 : b < 10001) : jOK (F_m_join x a b).2 ∧ ∀ v : Int, 0 ≤ v → v < 10001 → rp ((F_m_join x a b).2.2 9) v = if rp (x.2 9) v = max (rp (x.2 9) a) (rp (x.2 9) b) then min (rp (x.2 9) a) (rp (x.2 9) b) else rp (x.2 9) v := by
  refine ⟨F_m_join_ok hj a0 a1 b0 b1, ?_⟩
  obtain ⟨e1, j1, r1⟩ := root_x hj a0 a1
  obtain ⟨e2, j2, r2⟩ := root_x j1 b0 b1
  have h0 : ldn (x.2 9) 10001 := fun k hk => hj k (by omega)
  have h2 : ldn ((F_m_root (F_m_root x a).2 b).2.2 9) 10001 := fun k hk => j2 k (by omega)
  have rr : ∀ v : Int, 0 ≤ v → v < 10001 → rp ((F_m_root (F_m_root x a).2 b).2.2 9) v = rp (x.2 9) v := fun v v0 v1 => (r2 v v0 v1).trans (r1 v v0 v1)
  have e2 : (F_m_root (F_m_root x a).2 b).1 = rp (x.2 9) b := e2.trans (r1 b b0 b1)
  have ka := rp_ok h2 a.toNat a a0 a1 (Nat.le_refl _)
  have kb := rp_ok h2 b.toNat b b0 b1 (Nat.le_refl _)
  rw [rr a a0 a1] at ka
  rw [rr b b0 b1] at kb
  unfold F_m_join
  rw [e1, e2]
  generalize (F_m_root (F_m_root x a).2 b).2 = y at h2 rr ka kb ⊢
  by_cases c : rp (x.2 9) b ≤ rp (x.2 9) a
  · rw [if_pos c]
    intro v v0 v1
    have L := (rp_link h2 kb.1 c (by omega) ka.2.2 kb.2.2).2 v v0 v1
    show rp ((aU y 9 _ _).2 9) v = _
    rw [yU_s, L, rr v v0 v1, show max (rp (x.2 9) a) (rp (x.2 9) b) = rp (x.2 9) a by omega, show min (rp (x.2 9) a) (rp (x.2 9) b) = rp (x.2 9) b by omega]
  · rw [if_neg c]
    intro v v0 v1
    have L := (rp_link h2 ka.1 (by omega) (by omega) kb.2.2 ka.2.2).2 v v0 v1
    show rp ((aU y 9 _ _).2 9) v = _
    rw [yU_s, L, rr v v0 v1, show max (rp (x.2 9) a) (rp (x.2 9) b) = rp (x.2 9) b by omega, show min (rp (x.2 9) a) (rp (x.2 9) b) = rp (x.2 9) a by omega]
