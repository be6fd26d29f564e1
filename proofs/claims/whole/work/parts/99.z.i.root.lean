-- deps: 99.z.h
/-! where a number leads: the least that stands for it -/
def rpFu (f : Nat → Int) : Nat → Int → Int
  | 0, w => w
  | n + 1, w => if f w.toNat = w then w else rpFu f n (f w.toNat)
def rp (f : Nat → Int) (w : Int) : Int := rpFu f w.toNat w
/-- f leads down, below B -/
def ldn (f : Nat → Int) (B : Int) : Prop := ∀ k : Nat, (k : Int) < B → 0 ≤ f k ∧ f k ≤ (k : Int)
theorem rpF_st {f : Nat → Int} {B : Int} (h : ldn f B) : ∀ (n m : Nat) (w : Int), 0 ≤ w → w < B → w.toNat ≤ n → w.toNat ≤ m → rpFu f n w = rpFu f m w := by
  intro n
  induction n with
  | zero =>
    intro m w w0 w1 hn hm
    have e : w = 0 := by omega
    have f0 : f w.toNat = w := by have := h w.toNat (by omega); omega
    cases m with
    | zero => rfl
    | succ m => unfold rpFu; rw [if_pos f0]
  | succ n ih =>
    intro m w w0 w1 hn hm
    cases m with
    | zero =>
      have f0 : f w.toNat = w := by have := h w.toNat (by omega); omega
      unfold rpFu; rw [if_pos f0]
    | succ m =>
      unfold rpFu
      by_cases c : f w.toNat = w
      · rw [if_pos c, if_pos c]
      · rw [if_neg c, if_neg c]
        have := h w.toNat (by omega)
        exact ih m _ (by omega) (by omega) (by omega) (by omega)
theorem rp_fix {f : Nat → Int} {w : Int} (e : f w.toNat = w) : rp f w = w := by
  unfold rp
  generalize hn : w.toNat = n
  rw [hn] at e
  cases n with
  | zero => rfl
  | succ n =>
    show (if f w.toNat = w then w else _) = w
    rw [hn, if_pos e]
theorem rp_step {f : Nat → Int} {B : Int} (h : ldn f B) {w : Int} (w0 : 0 ≤ w) (w1 : w < B) : rp f w = rp f (f w.toNat) := by
  have hw := h w.toNat (by omega)
  by_cases c : f w.toNat = w
  · rw [c]
  · obtain ⟨n, hn⟩ : ∃ n, w.toNat = n + 1 := ⟨w.toNat - 1, by omega⟩
    have e : rp f w = rpFu f n (f w.toNat) := by
      have e1 : rpFu f w.toNat w = rpFu f (n + 1) w := by rw [hn]
      unfold rp; rw [e1]
      show (if f w.toNat = w then w else rpFu f n (f w.toNat)) = _
      rw [if_neg c]
    rw [e]
    exact rpF_st h n _ _ (by omega) (by omega) (by omega) (Nat.le_refl _)
theorem rp_ok {f : Nat → Int} {B : Int} (h : ldn f B) : ∀ (n : Nat) (w : Int), 0 ≤ w → w < B → w.toNat ≤ n → 0 ≤ rp f w ∧ rp f w ≤ w ∧ f (rp f w).toNat = rp f w := by
  intro n
  induction n with
  | zero =>
    intro w w0 w1 hn
    have f0 : f w.toNat = w := by have := h w.toNat (by omega); omega
    rw [rp_fix f0]; exact ⟨w0, Int.le_refl _, f0⟩
  | succ n ih =>
    intro w w0 w1 hn
    by_cases c : f w.toNat = w
    · rw [rp_fix c]; exact ⟨w0, Int.le_refl _, c⟩
    · have hw := h w.toNat (by omega)
      rw [rp_step h w0 w1]
      have g := ih (f w.toNat) (by omega) (by omega) (by omega)
      exact ⟨g.1, by omega, g.2.2⟩
/-- halving a way changes nothing of where it leads -/
theorem rp_half {f : Nat → Int} {B : Int} (h : ldn f B) {r : Nat} (hr : (r : Int) < B) : ldn (iU f r (f (f r).toNat)) B ∧ ∀ w : Int, 0 ≤ w → w < B → rp (iU f r (f (f r).toNat)) w = rp f w := by
  have h1 := h r hr
  have h2 := h (f r).toNat (by omega)
  have g : ldn (iU f r (f (f r).toNat)) B := by
    intro k hk
    rw [yU_if]
    by_cases e : k = r
    · rw [if_pos e, e]; omega
    · rw [if_neg e]; exact h k hk
  refine ⟨g, ?_⟩
  have key : ∀ (n : Nat) (w : Int), 0 ≤ w → w < B → w.toNat ≤ n → rp (iU f r (f (f r).toNat)) w = rp f w := by
    intro n
    induction n with
    | zero =>
      intro w w0 w1 hn
      have f0 : f w.toNat = w := by have := h w.toNat (by omega); omega
      have g0 : iU f r (f (f r).toNat) w.toNat = w := by have := g w.toNat (by omega); omega
      rw [rp_fix f0, rp_fix g0]
    | succ n ih =>
      intro w w0 w1 hn
      have hw := h w.toNat (by omega)
      rw [rp_step g w0 w1, yU_if]
      by_cases e : w.toNat = r
      · rw [if_pos e]
        have er : f w.toNat = f r := by rw [e]
        by_cases c : f w.toNat = w
        · have e2 : f (f r).toNat = w := by rw [← er, c]; exact c
          have g0 : iU f r (f (f r).toNat) w.toNat = w := by rw [yU_if, if_pos e]; exact e2
          rw [e2] at g0 ⊢
          rw [rp_fix c, rp_fix g0]
        · rw [ih _ (by omega) (by omega) (by omega), rp_step h w0 w1, er, rp_step h (w := f r) (by omega) (by omega)]
      · rw [if_neg e]
        by_cases c : f w.toNat = w
        · have g0 : iU f r (f (f r).toNat) w.toNat = w := by rw [yU_if, if_neg e]; exact c
          rw [c, rp_fix c, rp_fix g0]
        · rw [ih _ (by omega) (by omega) (by omega), rp_step h w0 w1]
  exact fun w w0 w1 => key w.toNat w w0 w1 (Nat.le_refl _)
theorem root_s : ∀ (n : Nat) (y : MS) (w r : Int), ldn (y.2 9) 10001 → 0 ≤ r → r < 10001 → r.toNat < n → (F_m_root_s n 0 y w r).1 = rp (y.2 9) r ∧ ldn ((F_m_root_s n 0 y w r).2.2 9) 10001 ∧ ∀ v : Int, 0 ≤ v → v < 10001 → rp ((F_m_root_s n 0 y w r).2.2 9) v = rp (y.2 9) v := by
  intro n
  induction n with
  | zero => intro y w r _ _ _ h; omega
  | succ n ih =>
    intro y w r h r0 r1 hn
    rw [F_m_root_e0]
    by_cases c : y.2 9 r.toNat = r
    · rw [if_pos c]; exact ⟨(rp_fix c).symm, h, fun v _ _ => rfl⟩
    · rw [if_neg c]
      have h1 := h r.toNat (by omega)
      have h2 := h (y.2 9 r.toNat).toNat (by omega)
      obtain ⟨g1, g2⟩ := rp_half h (r := r.toNat) (by omega)
      have er : iU (y.2 9) r.toNat (y.2 9 (y.2 9 r.toNat).toNat) r.toNat = y.2 9 (y.2 9 r.toNat).toNat := iU_s
      have e9 : (aU y 9 r.toNat (y.2 9 (y.2 9 r.toNat).toNat)).2 9 = iU (y.2 9) r.toNat (y.2 9 (y.2 9 r.toNat).toNat) := yU_s
      rw [er]
      obtain ⟨a1, a2, a3⟩ := ih (aU y 9 r.toNat (y.2 9 (y.2 9 r.toNat).toNat)) w (y.2 9 (y.2 9 r.toNat).toNat) (by rw [e9]; exact g1) (by omega) (by omega) (by omega)
      rw [e9] at a1 a3
      refine ⟨?_, a2, fun v v0 v1 => (a3 v v0 v1).trans (g2 v v0 v1)⟩
      rw [a1, g2 _ (by omega) (by omega), ← rp_step h (w := y.2 9 r.toNat) (by omega) (by omega), ← rp_step h r0 r1]
theorem root_x {x : MS} {w : Int} (hj : jOK x) (w0 : 0 ≤ w) (w1 : w < 10001) : (F_m_root x w).1 = rp (x.2 9) w ∧ jOK (F_m_root x w).2 ∧ ∀ v : Int, 0 ≤ v → v < 10001 → rp ((F_m_root x w).2.2 9) v = rp (x.2 9) v := by
  have h : ldn (x.2 9) 10001 := fun k hk => hj k (by omega)
  obtain ⟨a1, a2, a3⟩ := root_s 10002 x w w h w0 w1 (by omega)
  exact ⟨a1, fun k hk => a2 k (by omega), a3⟩
