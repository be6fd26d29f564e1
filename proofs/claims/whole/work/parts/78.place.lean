-- deps: 30 31 32 33 34 35 36 37 38 39 40 70 71 72 73 74 75 76
/-! a rising row: where a number stands, or would -/
theorem F_t_placeOf_s_x {x : KS} {a1 : Nat} {e1 v : Int} (he : e1 ≤ kLen a1) (so : ∀ i j : Nat, i < j → (j : Int) < e1 → x.2 a1 i < x.2 a1 j) : ∀ (n : Nat) (lo hi : Int), 0 ≤ lo → lo ≤ hi → hi ≤ e1 → hi - lo < n → (∀ j : Nat, (j : Int) < lo → x.2 a1 j < v) → (∀ j : Nat, hi ≤ (j : Int) → (j : Int) < e1 → v ≤ x.2 a1 j) →
    (0 ≤ (F_t_placeOf_s a1 n 0 x e1 v lo hi).1 → (F_t_placeOf_s a1 n 0 x e1 v lo hi).1 < e1 ∧ x.2 a1 (F_t_placeOf_s a1 n 0 x e1 v lo hi).1.toNat = v) ∧ ((F_t_placeOf_s a1 n 0 x e1 v lo hi).1 < 0 → -1 - (F_t_placeOf_s a1 n 0 x e1 v lo hi).1 ≤ e1 ∧ (∀ j : Nat, (j : Int) < -1 - (F_t_placeOf_s a1 n 0 x e1 v lo hi).1 → x.2 a1 j < v) ∧ (∀ j : Nat, -1 - (F_t_placeOf_s a1 n 0 x e1 v lo hi).1 ≤ (j : Int) → (j : Int) < e1 → v < x.2 a1 j)) := by
  intro n
  induction n with
  | zero => intro lo hi h0 h1 h2 h3; exfalso; omega
  | succ n ih =>
    intro lo hi h0 h1 h2 h3 hl hh
    rw [F_t_placeOf_e0]
    have out : ¬ (lo < e1 ∧ x.2 a1 lo.toNat = v) → hi ≤ lo → (0 ≤ (-1 : Int) - lo → (-1 : Int) - lo < e1 ∧ x.2 a1 ((-1 : Int) - lo).toNat = v) ∧ ((-1 : Int) - lo < 0 → -1 - ((-1 : Int) - lo) ≤ e1 ∧ (∀ j : Nat, (j : Int) < -1 - ((-1 : Int) - lo) → x.2 a1 j < v) ∧ (∀ j : Nat, -1 - ((-1 : Int) - lo) ≤ (j : Int) → (j : Int) < e1 → v < x.2 a1 j)) := by
      intro hno hle
      refine ⟨fun h => by omega, fun _ => ⟨by omega, fun j hj => hl j (by omega), fun j hj hj2 => ?_⟩⟩
      have hv := hh j (by omega) hj2
      rcases Int.lt_or_eq_of_le hv with h | h
      · exact h
      · exfalso
        by_cases c : (j : Int) = lo
        · exact hno ⟨by omega, by rw [show lo.toNat = j by omega]; exact h.symm⟩
        · have s1 := so lo.toNat j (by omega) hj2
          have s2 := hh lo.toNat (by omega) (by omega)
          omega
    by_cases c1 : hi ≤ lo
    · rw [if_pos c1]
      by_cases c2 : e1 ≤ lo
      · rw [if_pos c2]; exact out (by omega) c1
      · rw [if_neg c2]
        by_cases c3 : ((kLen a1 : Nat) : Int) ≤ lo
        · rw [if_pos c3]; exfalso; omega
        · rw [if_neg c3]
          by_cases c4 : x.2 a1 lo.toNat = v
          · rw [if_pos c4]
            exact ⟨fun _ => ⟨by show lo < e1; omega, c4⟩, fun h => absurd h (by show ¬ lo < 0; omega)⟩
          · rw [if_neg c4]; exact out (fun h => c4 h.2) c1
    · rw [if_neg c1]
      have d1 : lo ≤ (lo + hi) / 2 := by omega
      have d2 : (lo + hi) / 2 < hi := by omega
      by_cases c2 : v ≤ x.2 a1 ((lo + hi) / 2).toNat
      · rw [if_pos c2]
        refine ih lo ((lo + hi) / 2) h0 d1 (by omega) (by omega) hl (fun j hj hj2 => ?_)
        by_cases c3 : (j : Int) = (lo + hi) / 2
        · rw [show j = ((lo + hi) / 2).toNat by omega]; exact c2
        · have := so ((lo + hi) / 2).toNat j (by omega) hj2
          omega
      · rw [if_neg c2]
        refine ih ((lo + hi) / 2 + 1) hi (by omega) (by omega) h2 (by omega) (fun j hj => ?_) hh
        by_cases c3 : (j : Int) = (lo + hi) / 2
        · rw [show j = ((lo + hi) / 2).toNat by omega]; omega
        · have := so j ((lo + hi) / 2).toNat (by omega) (by omega)
          omega
theorem F_t_placeOf_x {x : KS} {a1 : Nat} {e1 v : Int} (h0 : 0 ≤ e1) (h9 : e1 ≤ 100000) (he : e1 ≤ kLen a1) (so : ∀ i j : Nat, i < j → (j : Int) < e1 → x.2 a1 i < x.2 a1 j) : (0 ≤ (F_t_placeOf x a1 e1 v).1 → (F_t_placeOf x a1 e1 v).1 < e1 ∧ x.2 a1 (F_t_placeOf x a1 e1 v).1.toNat = v) ∧ ((F_t_placeOf x a1 e1 v).1 < 0 → -1 - (F_t_placeOf x a1 e1 v).1 ≤ e1 ∧ (∀ j : Nat, (j : Int) < -1 - (F_t_placeOf x a1 e1 v).1 → x.2 a1 j < v) ∧ (∀ j : Nat, -1 - (F_t_placeOf x a1 e1 v).1 ≤ (j : Int) → (j : Int) < e1 → v < x.2 a1 j)) := by
  have e : min e1 ((kLen a1 : Nat) : Int) = e1 := by omega
  unfold F_t_placeOf
  rw [e]
  exact F_t_placeOf_s_x he so 100010 0 e1 (by omega) h0 (Int.le_refl _) (by omega) (fun j hj => by omega) (fun j h1 h2 => by omega)
/-- LEFT sides have LETTERS -/
theorem ruE_V {x : KS} (sx : scX x) (re : ruE x) : ruV x := by
  intro j hj
  obtain ⟨G, B, G', B', g3, g2, g4, g1, c1, f2, f4, f1, c2, hlt⟩ := re j hj
  have l3 := sx.1.2.1
  have f0 := sx.1.2.2.2.1 G' (by omega)
  have f00 := sx.1.2.2.2.2
  rw [g1, Int.toNat_natCast, g3]
  refine ⟨?_, g2, by omega⟩
  rcases Nat.eq_zero_or_pos G with h | h
  · subst h
    rw [Nat.pow_zero] at g4
    omega
  · omega
