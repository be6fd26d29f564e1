-- deps: 30 31 32 33 34 35 36 37 38 39 40 70 71 72 73 74 75 76 78 79 80
/-! endOf exactly: the longest LEFT side that ends a list; else the longest STATE that does -/
/-- the number in ORDER of the last k LETTERS of a list of value v -/
def sfn (x : KS) (v : Int) (k : Int) : Int := (F_s_firstOf x k).1 + v % (F_s_powerOf x k).1
def inL (x : KS) (w : Int) : Prop := ∃ j : Nat, (j : Int) < x.1 58 6 ∧ x.2 59 j = w
theorem F_u_withLeft_x {x : KS} (ru : ruR x) {c : Int} (so : soI x c) (w : Int) : (0 ≤ (F_u_withLeft x w).1 → (F_u_withLeft x w).1 < x.1 58 6 ∧ x.2 59 (F_u_withLeft x w).1.toNat = w) ∧ ((F_u_withLeft x w).1 < 0 → ¬ inL x w) := by
  have r := ru.1
  have px := F_t_placeOf_x (x := x) (a1 := 59) (e1 := x.1 58 6) (v := w) r.1 (by omega) (by show x.1 58 6 ≤ ((40 : Nat) : Int); omega) so.2.1
  have e : (F_u_withLeft x w).1 = (F_t_placeOf x 59 (x.1 58 6) w).1 := rfl
  rw [e]
  refine ⟨px.1, fun h => ?_⟩
  obtain ⟨q1, q2, q3⟩ := px.2 h
  rintro ⟨j, hj, ej⟩
  rcases Int.lt_or_le (j : Int) (-1 - (F_t_placeOf x 59 (x.1 58 6) w).1) with h9 | h9
  · have := q2 j h9; omega
  · have := q3 j h9 hj; omega
theorem F_a_place_x {x : KS} (nm : nmI x) (w : Int) : (0 ≤ (F_t_placeOf x 65 (x.1 64 7) w).1 → (F_t_placeOf x 65 (x.1 64 7) w).1 < x.1 64 7 ∧ x.2 65 (F_t_placeOf x 65 (x.1 64 7) w).1.toNat = w) ∧ ((F_t_placeOf x 65 (x.1 64 7) w).1 < 0 → ¬ inN x w) := by
  have r := nm.1
  have px := F_t_placeOf_x (x := x) (a1 := 65) (e1 := x.1 64 7) (v := w) r.1 (by omega) (by show x.1 64 7 ≤ ((320 : Nat) : Int); omega) nm.2
  refine ⟨px.1, fun h => ?_⟩
  obtain ⟨q1, q2, q3⟩ := px.2 h
  rintro ⟨j, hj, ej⟩
  rcases Int.lt_or_le (j : Int) (-1 - (F_t_placeOf x 65 (x.1 64 7) w).1) with h9 | h9
  · have := q2 j h9; omega
  · have := q3 j h9 hj; omega
/-- what endOf answers -/
def enA (x : KS) (g v r : Int) : Prop := (r < 0 → ∃ k : Int, 1 ≤ k ∧ k ≤ g ∧ -1 - r < x.1 58 6 ∧ x.2 59 (-1 - r).toNat = sfn x v k ∧ ∀ k' : Int, k < k' → k' ≤ g → ¬ inL x (sfn x v k')) ∧ (0 ≤ r → (∀ k : Int, 1 ≤ k → k ≤ g → ¬ inL x (sfn x v k)) ∧ ((∃ k : Int, 1 ≤ k ∧ k ≤ g ∧ r < x.1 64 7 ∧ x.2 65 r.toNat = sfn x v k ∧ ∀ k' : Int, k < k' → k' ≤ g → ¬ inN x (sfn x v k')) ∨ (r = 0 ∧ ∀ k : Int, 1 ≤ k → k ≤ g → ¬ inN x (sfn x v k))))
theorem F_a_endOf_s_x {x : KS} (ru : ruR x) {c : Int} (so : soI x c) (nm : nmI x) (g v : Int) (g0 : 0 ≤ g) (g30 : g ≤ 30) : ∀ n : Nat, (∀ k : Int, 0 ≤ k → k ≤ g → k + 40 < n → (∀ k' : Int, k < k' → k' ≤ g → ¬ inL x (sfn x v k')) → enA x g v (F_a_endOf_s n 0 x g v k).1) ∧ (∀ k : Int, 0 ≤ k → k ≤ g → k < n → (∀ k' : Int, 1 ≤ k' → k' ≤ g → ¬ inL x (sfn x v k')) → (∀ k' : Int, k < k' → k' ≤ g → ¬ inN x (sfn x v k')) → enA x g v (F_a_endOf_s n 1 x g v k).1) := by
  intro n
  induction n with
  | zero => exact ⟨fun k h0 _ h => by exfalso; omega, fun k h0 _ h => by exfalso; omega⟩
  | succ n ih =>
    refine ⟨fun k h0 h1 h2 hL => ?_, fun k h0 h1 h2 hL hN => ?_⟩
    · rw [F_a_endOf_e0]
      by_cases c1 : k ≤ 0
      · rw [if_pos c1]
        exact ih.2 g g0 (Int.le_refl _) (by omega) (fun k' a b => hL k' (by omega) b) (fun k' a b => by omega)
      · rw [if_neg c1]
        have wx := F_u_withLeft_x ru so (sfn x v k)
        show enA x g v (if (F_u_withLeft x (sfn x v k)).1 < 0 then F_a_endOf_s n 0 x g v (k + -1) else ((-1 : Int) - (F_u_withLeft x (sfn x v k)).1, x)).1
        by_cases c2 : (F_u_withLeft x (sfn x v k)).1 < 0
        · rw [if_pos c2]
          refine ih.1 (k + -1) (by omega) (by omega) (by omega) (fun k' a b => ?_)
          by_cases c3 : k' = k
          · rw [c3]; exact wx.2 c2
          · exact hL k' (by omega) b
        · rw [if_neg c2]
          have w1 := wx.1 (by omega)
          have ee : (-1 : Int) - (-1 - (F_u_withLeft x (sfn x v k)).1) = (F_u_withLeft x (sfn x v k)).1 := by omega
          refine ⟨fun _ => ⟨k, by omega, h1, ?_, ?_, hL⟩, fun h => absurd h (by show ¬ 0 ≤ (-1 : Int) - (F_u_withLeft x (sfn x v k)).1; omega)⟩
          · show (-1 : Int) - (-1 - (F_u_withLeft x (sfn x v k)).1) < _
            rw [ee]; exact w1.1
          · show x.2 59 ((-1 : Int) - (-1 - (F_u_withLeft x (sfn x v k)).1)).toNat = _
            rw [ee]; exact w1.2
    · rw [F_a_endOf_e1]
      by_cases c1 : k ≤ 0
      · rw [if_pos c1]
        exact ⟨fun h => absurd h (by show ¬ (0 : Int) < 0; decide), fun _ => ⟨hL, Or.inr ⟨rfl, fun k' a b => hN k' (by omega) b⟩⟩⟩
      · rw [if_neg c1]
        have wx := F_a_place_x nm (sfn x v k)
        show enA x g v (if (F_t_placeOf x 65 (x.1 64 7) (sfn x v k)).1 < 0 then F_a_endOf_s n 1 x g v (k + -1) else ((F_t_placeOf x 65 (x.1 64 7) (sfn x v k)).1, x)).1
        by_cases c2 : (F_t_placeOf x 65 (x.1 64 7) (sfn x v k)).1 < 0
        · rw [if_pos c2]
          refine ih.2 (k + -1) (by omega) (by omega) (by omega) hL (fun k' a b => ?_)
          by_cases c3 : k' = k
          · rw [c3]; exact wx.2 c2
          · exact hN k' (by omega) b
        · rw [if_neg c2]
          have w1 := wx.1 (by omega)
          exact ⟨fun h => absurd h c2, fun _ => ⟨hL, Or.inl ⟨k, by omega, h1, w1.1, w1.2, hN⟩⟩⟩
theorem F_a_endOf_x {x : KS} (ru : ruR x) {c : Int} (so : soI x c) (nm : nmI x) {g : Int} (v : Int) (g0 : 0 ≤ g) (g30 : g ≤ 30) : enA x g v (F_a_endOf x g v).1 := (F_a_endOf_s_x ru so nm g v g0 g30 100).1 g g0 (Int.le_refl _) (by omega) (fun k' a b => by omega)
