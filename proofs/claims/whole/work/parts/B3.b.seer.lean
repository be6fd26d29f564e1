-- deps: B3.a
/-! see keeps the relation -/
theorem see_27 {Y : MS} (hH : seH Y) {m0 : Int} (i27 : Y.1 27 = 0 ∨ Y.1 27 = 1) : (F_m_see Y m0).2.1 27 = 0 ∨ (F_m_see Y m0).2.1 27 = 1 := by
  unfold F_m_see
  have iv := in_v Y m0 1 20
  by_cases c1 : (F_m_in Y m0 ((1 : Int)) ((20 : Int))).1 = 0
  · rw [if_pos c1]; exact i27
  · rw [if_neg c1]
    have m12 : 1 ≤ m0 ∧ m0 ≤ 20 := by
      rcases iv with h9 | h9
      · exact absurd h9.1 c1
      · exact h9.2
    by_cases c2 : (F_m_wordsTo Y m0).1 ≤ ((10000 : Int))
    · rw [if_pos c2]
      have k1 := (see_2 hH m12.1 m12.2 c2).1
      have k2 := (see_3 hH m12.1 m12.2 c2).1
      by_cases c3 : (F_m_findRules (F_m_joinAll (sU (sU Y 6 ((-9 : Int))) 7 ((F_m_wordsTo (sU Y 6 ((-9 : Int))) m0).1)) m0).2).1 = 0
      · rw [if_pos c3]
        show (F_m_findRules (sY1 Y m0)).2.1 27 = 0 ∨ (F_m_findRules (sY1 Y m0)).2.1 27 = 1
        rw [k2.1 27 (by decide), k1.1 27 (by decide)]
        exact i27
      · rw [if_neg c3]
        have S7 := see_7 hH m12.1 m12.2 c2 c3
        have k01 := S7.2.2.2.2.2.2.2
        by_cases c4 : (F_m_closes (sU (F_m_plant (F_m_findRules (F_m_joinAll (sU (sU Y 6 ((-9 : Int))) 7 ((F_m_wordsTo (sU Y 6 ((-9 : Int))) m0).1)) m0).2).2).2 6 m0)).1 = 0
        · rw [if_pos c4]
          show (sY6 Y m0).1 27 = 0 ∨ (sY6 Y m0).1 27 = 1
          rcases S7.2.2.2.2.2.2.1 with h9 | h9
          · exact Or.inr h9.1
          · exact Or.inl h9.1
        · rw [if_neg c4]
          show (F_m_countAll (sY6 Y m0)).2.1 27 = 0 ∨ (F_m_countAll (sY6 Y m0)).2.1 27 = 1
          rw [(F_m_countAll_fr (sY6 Y m0)).1 27 (by decide)]
          rcases S7.2.2.2.2.2.2.1 with h9 | h9
          · exact Or.inr h9.1
          · exact Or.inl h9.1
    · rw [if_neg c2]; exact i27
theorem pw_31 : ∀ j : Fin 32, (4 : Int) ^ j.val ≤ 4611686018427387904 := by decide
theorem see_R {X : KS} {Y : MS} (h : Rel X Y) (sp : seP X) {m0 : Int} (rm : iR m0) : (F_t_see X m0).1 = (F_m_see Y m0).1 ∧ Rel (F_t_see X m0).2 (F_m_see Y m0).2 := by
  obtain ⟨ki, mv, sw, wd, sn⟩ := id h
  obtain ⟨B1, B2⟩ := see_both sp ki.2.2.2.2.2.2.1.2.2.1 mv.1 sw rm
  refine ⟨B1, ?_⟩
  rcases B2 with ⟨e1, e2⟩ | ⟨ss, rg, sn'⟩
  · rw [e1, e2]; exact h
  · have f := F_t_see_fr X m0
    have em : m0 = ((m0.toNat : Nat) : Int) := by omega
    have I := see_inv sp ki.2.1 ki.2.2.2.1 ki.2.2.2.2.2.2.1 (m := m0.toNat) (by omega) (by omega)
    rw [← em] at I
    have y27 := see_27 mv.1 (m0 := m0) mv.2.2.2.2.2
    generalize (F_t_see X m0).2 = Q at *
    generalize (F_m_see Y m0).2 = R at *
    obtain ⟨I1, I2, I3, I4, I5, I6, I7, I8, I9⟩ := I
    obtain ⟨s0, s1, s2, s3, s4, s5, s6, s7, s8, s9⟩ := ss
    have r0 : R.1 0 = Y.1 0 := s0.1 0 (by decide)
    have sM1 : ∀ j : Nat, j < 9 → slM R j = slM Y j ∧ slH R j := fun j hj => slH_o r0 (s2 j hj) (fun i hi => s3 _ (by omega)) (mv.2.1 j hj)
    have m20 : ∀ m : Nat, snE Q R m → (m : Int) ≤ 20 ∧ (m : Int) ≤ X.1 1 3 := fun m hm => by
      have e7 := snE_7 hm
      obtain ⟨m', a1, a2, a3, _⟩ := hm.2.1.1
      have e6 := hm.1.2.2
      have : m' = m := by omega
      rw [r0] at e7
      have k := (see_rng sp sw.1 (m : Int)).mpr ⟨by omega, by omega, by rw [Int.toNat_natCast, ← e7.1]; exact e7.2.1⟩
      exact ⟨by omega, k.2⟩
    have e13 : Q.1 1 3 = X.1 1 3 := f.1 1 3 (by decide) (by decide)
    have ke : KE Q := by
      rcases sn' with ⟨h1, h2⟩ | ⟨m, hm⟩
      · exact ⟨by rw [h1]; decide, by rw [h1, e13]; exact ki.1.1.1.2.1.1, I6, I7⟩
      · have k := m20 m hm
        have h1 := hm.1
        exact ⟨by omega, by omega, I6, I7⟩
    have kj : KJ Q := by
      rcases I6 with h0 | h1
      · exact I8 h0
      · rcases sn' with ⟨h3, h4⟩ | ⟨m, hm⟩
        · exact absurd h3 (I9 h1)
        · rcases hm.2.2.2.2 with ⟨p1, _⟩ | ⟨_, _, _, p5, p6, p7, _⟩
          · omega
          · refine ⟨I4.1, I4.2.1, I4.2.2, fun j => ?_, ?_⟩
            · by_cases c : 32 ≤ j
              · exact I5 j c
              · rw [p6 j (by omega)]
                have b := wN_b (x := R) p5.1.2.2.2.2 j 0
                have q := pw_31 ⟨j, by omega⟩
                simp only at q
                omega
            · rcases p7 with h9 | h9
              · exact Or.inr h9.1
              · exact Or.inl h9.1
    have i6 : iR (R.1 6) := by
      rcases sn' with ⟨h1, h2⟩ | ⟨m, hm⟩
      · rw [h2]; exact ⟨by decide, by decide⟩
      · have k := m20 m hm
        have h1 := hm.1
        unfold iR
        omega
    have mv' : MV R := by
      obtain ⟨⟨h1, h2, h3, h4, h5, h6, h7, h8, h9, h10, h11⟩, k2, k3, k4, k5, k6⟩ := mv
      refine ⟨⟨by rw [r0]; exact h1, ?_, by unfold lzR; rw [s0.2 4 (by decide)]; exact h3, by unfold lwR; rw [s0.2 5 (by decide)]; exact h4, s5, s6, s4, s7, s8, s1, s9⟩, fun j hj => (sM1 j hj).2, by rw [s0.2 29 (by decide), s0.2 30 (by decide)]; exact k3, by rw [s0.2 32 (by decide), s0.2 33 (by decide)]; exact k4, i6, y27⟩
      unfold lwH sgM
      rw [s0.1 3 (by decide), r0, s0.2 4 (by decide), s0.2 5 (by decide)]
      exact h2
    refine ⟨⟨I1, I2, KC_g f (by decide) (by decide) ki.2.2.1, I3, ke, KH_g f (by decide) (by decide) ki.2.2.2.2.2.1, kj, KR_g f (by decide) ki.2.2.2.2.2.2.2⟩, mv', swE_m s0 (by decide) (by decide) (swE_g f (by decide) (by decide) mv.1.2.1.1.2 sw), ?_, sn'⟩
    have w := wdE_g f (by decide) (by decide) wd
    exact ⟨fun k hk => by rw [(sM1 k (by omega)).1]; exact w.1 k hk, by rw [(sM1 8 (by omega)).1]; exact w.2⟩
