-- deps: 30 31 32 33 34 35 36 37 38 39 40 70 71 72 73 74 75 76
/-! the beginnings of a LEFT side by their numbers -/
theorem F_u_numberOfBeginning_v {x : KS} (sx : scX x) (ru : ruR x) (re : ruE x) {r : Nat} (hr : (r : Int) < x.1 58 6) : ∃ G C : Nat, (G : Int) ≤ x.1 1 3 ∧ C < nL x ^ G ∧ x.2 60 r = (G : Int) ∧ lS x r = dl (nL x) G C ∧ ∀ k : Nat, k ≤ G → (F_u_numberOfBeginning x (r : Int) (k : Int)).1 = x.2 3 k + ((C / nL x ^ (G - k) : Nat) : Int) ∧ lS x r = dl (nL x) k (C / nL x ^ (G - k)) ++ dl (nL x) (G - k) (C % nL x ^ (G - k)) := by
  have hn := nL_b sx
  have l3 := sx.1.2.1
  have r40 : r < 40 := by have := ru.1; omega
  obtain ⟨G, C, G', C', g3, g2, g4, g1, c1, f2, f4, f1, c2, hlt⟩ := re r hr
  have hl := lS_v r40 hn.1 hn.2 g1 (by omega) c1
  refine ⟨G, C, g2, g4, g1, hl, fun k hk => ⟨?_, ?_⟩⟩
  · unfold F_u_numberOfBeginning
    rw [if_neg (by omega), if_pos (by omega), Int.toNat_natCast, g1, g3, F_s_firstOf_v (x := x) (k := (G : Int)) (by omega) g2, F_s_firstOf_v (x := x) (k := (k : Int)) (by omega) (by omega), Int.toNat_natCast, Int.toNat_natCast]
    have e1 : (G : Int) - (k : Int) = ((G - k : Nat) : Int) := by omega
    have e2 : x.2 3 G + (C : Int) - x.2 3 G = (C : Int) := by omega
    rw [e1, e2, F_s_powerOf_v (by omega) (by omega), Int.toNat_natCast, scX_pow sx (G - k) (by omega)]
    rfl
  · rw [hl]
    have := dl_app (nL x) k (G - k) C
    rw [show k + (G - k) = G by omega] at this
    exact this
