-- deps: 30 31 32 33 34 35 36 37 38 39 40 70 71 72 73 74 75 76 78
/-! a STATE's number is put into the rising row -/
theorem F_a_keep_s_x {f : Nat → Int} {h p : Nat} (v : Int) : ∀ (n : Nat) (y : KS) (i : Nat), p ≤ i → i ≤ h → i - p < n → (∀ j : Nat, j < i → y.2 65 j = f j) → (∀ j : Nat, i < j → j ≤ h → y.2 65 j = f (j - 1)) →
    (F_a_keep_s n 0 y v (p : Int) (i : Int)).2.1 64 7 = y.1 64 7 + 1 ∧ (∀ j : Nat, j < p → (F_a_keep_s n 0 y v (p : Int) (i : Int)).2.2 65 j = f j) ∧ (F_a_keep_s n 0 y v (p : Int) (i : Int)).2.2 65 p = v ∧ (∀ j : Nat, p < j → j ≤ h → (F_a_keep_s n 0 y v (p : Int) (i : Int)).2.2 65 j = f (j - 1)) := by
  intro n
  induction n with
  | zero => intro y i h1 h2 h3; exfalso; omega
  | succ n ih =>
    intro y i h1 h2 h3 ha hb
    rw [F_a_keep_e0]
    by_cases c1 : (i : Int) ≤ (p : Int)
    · rw [if_pos c1, Int.toNat_natCast]
      have e : i = p := by omega
      subst e
      refine ⟨rfl, fun j hj => ?_, ?_, fun j hj hj2 => ?_⟩
      · show iU (y.2 65) i v j = f j
        rw [iU_n (by omega)]; exact ha j hj
      · show iU (y.2 65) i v i = v
        exact iU_s
      · show iU (y.2 65) i v j = f (j - 1)
        rw [iU_n (by omega)]; exact hb j hj hj2
    · rw [if_neg c1, Int.toNat_natCast]
      have e1 : ((i : Int) - 1).toNat = i - 1 := by omega
      have e2 : (i : Int) + -1 = ((i - 1 : Nat) : Int) := by omega
      rw [e1, e2]
      refine ih (kA y 65 i (y.2 65 (i - 1))) (i - 1) (by omega) (by omega) (by omega) (fun j hj => ?_) (fun j hj hj2 => ?_)
      · show iU (y.2 65) i _ j = f j
        rw [iU_n (by omega)]; exact ha j (by omega)
      · show iU (y.2 65) i _ j = f (j - 1)
        by_cases c2 : j = i
        · subst c2; rw [iU_s]; exact ha (j - 1) (by omega)
        · rw [iU_n c2]; exact hb j (by omega) hj2
/-- the row of numbers rises -/
def nmI (y : KS) : Prop := (0 ≤ y.1 64 7 ∧ y.1 64 7 ≤ 320) ∧ ∀ i j : Nat, i < j → (j : Int) < y.1 64 7 → y.2 65 i < y.2 65 j
def inN (y : KS) (w : Int) : Prop := ∃ j : Nat, (j : Int) < y.1 64 7 ∧ y.2 65 j = w
theorem F_a_keep_x {x : KS} {v : Int} (nm : nmI x) (h20 : x.1 64 7 < 320) (h40 : (x.1 64 7 + 1) * x.1 1 2 ≤ 640) : nmI (F_a_keep x v).2 ∧ ∀ w, inN (F_a_keep x v).2 w ↔ inN x w ∨ w = v := by
  obtain ⟨⟨n0, n1⟩, so⟩ := id nm
  have px := F_t_placeOf_x (x := x) (a1 := 65) (e1 := x.1 64 7) (v := v) n0 (by omega) (by show x.1 64 7 ≤ ((320 : Nat) : Int); omega) so
  unfold F_a_keep
  rw [if_neg (by omega), if_neg (by omega)]
  by_cases c1 : (-1 : Int) - (F_t_placeOf x 65 (x.1 64 7) v).1 < 0
  · rw [if_pos c1]
    have hp := px.1 (by omega)
    refine ⟨nm, fun w => ⟨Or.inl, fun h => ?_⟩⟩
    rcases h with h | h
    · exact h
    · rw [h]; exact ⟨(F_t_placeOf x 65 (x.1 64 7) v).1.toNat, by show (((F_t_placeOf x 65 (x.1 64 7) v).1.toNat : Nat) : Int) < x.1 64 7; omega, hp.2⟩
  · rw [if_neg c1, if_neg (by decide)]
    obtain ⟨q1, q2, q3⟩ := px.2 (by omega)
    generalize hP : (-1 : Int) - (F_t_placeOf x 65 (x.1 64 7) v).1 = P at c1 q1 q2 q3
    have eP : P = ((P.toNat : Nat) : Int) := by omega
    have eH : x.1 64 7 = (((x.1 64 7).toNat : Nat) : Int) := by omega
    obtain ⟨k7, ka, kb, kc⟩ := F_a_keep_s_x (f := x.2 65) (h := (x.1 64 7).toNat) (p := P.toNat) v 400 x (x.1 64 7).toNat (by omega) (Nat.le_refl _) (by omega) (fun j _ => rfl) (fun j h1 h2 => by omega)
    rw [← eP, ← eH] at k7 ka kb kc
    generalize (F_a_keep_s 400 0 x v P (x.1 64 7)).2 = z at k7 ka kb kc
    have val : ∀ j : Nat, (j : Int) < x.1 64 7 + 1 → z.2 65 j = if j < P.toNat then x.2 65 j else if j = P.toNat then v else x.2 65 (j - 1) := by
      intro j hj
      by_cases d1 : j < P.toNat
      · rw [if_pos d1]; exact ka j d1
      · rw [if_neg d1]
        by_cases d2 : j = P.toNat
        · rw [if_pos d2, d2]; exact kb
        · rw [if_neg d2]; exact kc j (by omega) (by omega)
    refine ⟨⟨by rw [k7]; omega, fun i j hij hj => ?_⟩, fun w => ⟨fun h => ?_, fun h => ?_⟩⟩
    · rw [k7] at hj
      rw [val i (by omega), val j hj]
      by_cases d1 : j < P.toNat
      · rw [if_pos d1, if_pos (by omega)]; exact so i j hij (by omega)
      · rw [if_neg d1]
        by_cases d2 : j = P.toNat
        · rw [if_pos d2, if_pos (by omega)]; exact q2 i (by omega)
        · rw [if_neg d2]
          by_cases d3 : i < P.toNat
          · rw [if_pos d3]
            have a1 := q2 i (by omega)
            have a2 := q3 (j - 1) (by omega) (by omega)
            omega
          · rw [if_neg d3]
            by_cases d4 : i = P.toNat
            · rw [if_pos d4]; exact q3 (j - 1) (by omega) (by omega)
            · rw [if_neg d4]; exact so (i - 1) (j - 1) (by omega) (by omega)
    · obtain ⟨j, hj, e⟩ := h
      rw [k7] at hj
      rw [val j hj] at e
      by_cases d1 : j < P.toNat
      · rw [if_pos d1] at e; exact Or.inl ⟨j, by omega, e⟩
      · rw [if_neg d1] at e
        by_cases d2 : j = P.toNat
        · rw [if_pos d2] at e; exact Or.inr e.symm
        · rw [if_neg d2] at e; exact Or.inl ⟨j - 1, by omega, e⟩
    · rcases h with ⟨j, hj, e⟩ | h
      · by_cases d1 : j < P.toNat
        · exact ⟨j, by rw [k7]; omega, by rw [val j (by omega), if_pos d1]; exact e⟩
        · exact ⟨j + 1, by rw [k7]; omega, by rw [val (j + 1) (by omega), if_neg (by omega), if_neg (by omega)]; exact e⟩
      · exact ⟨P.toNat, by rw [k7]; omega, by rw [val P.toNat (by omega), if_neg (by omega), if_pos rfl]; exact h.symm⟩
