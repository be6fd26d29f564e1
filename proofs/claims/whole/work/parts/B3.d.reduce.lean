-- deps: B3.c9
/-! reduce and like answer alike and keep the relation -/
theorem Rel_rdN {X : KS} {Y Z : MS} (h : Rel X Y) (r : rdN Y Z) : Rel X Z := by
  obtain ⟨r1, r2, r3, r4, r5, r6, r7⟩ := r
  have mv := h.2.1
  have sl : ∀ j : Nat, j < 9 → slM Z j = slM Y j ∧ slH Z j := fun j hj => slH_o (r1.1 0 (by decide)) (r3 j hj) (fun i hi => r4 _ (by omega)) (mv.2.1 j hj)
  refine Rel_gen h (gm_rf [] [] X) nil_p nil_a h.1.1.2.1 (fun _ _ h9 => ⟨h9, fun _ _ _ => rfl⟩) (fun _ ok => ok) h.1.2.1 h.1.2.2.2.1 h.1.2.2.2.2.2.1 h.1.2.2.2.2.2.2.1 r1 (by unfold sMk; decide) (by unfold mkA; decide) r5 r6 r7 (MV_s r1 (by decide) (by decide) (r5 mv.1.2.2.2.2.2.2.1) (r7 mv.1.2.2.2.2.2.1) r2 (fun j hj => (sl j hj).2) mv) ⟨fun j hj => by rw [(sl j (by omega)).1]; exact h.2.2.2.1.1 j hj, by rw [(sl 8 (by omega)).1]; exact h.2.2.2.1.2⟩
theorem Rel_put {X : KS} {Y Z : MS} (h : Rel X Y) {k w : Nat} (hk : k < 8) (hw : kW w = true) (lw : 23 < w) {u : List Int} (wl : wL X w u) (g : wG X w) (r : rdS Y Z k u) : Rel (F_w_take X (7 + 2 * k) w).2 Z := by
  obtain ⟨r1, r2, r3, r4, r8, r5, r6, r7⟩ := r
  obtain ⟨ki, mv, sw, wd, sn⟩ := id h
  have kh := ki.2.2.2.2.2.1
  have k1 := kW_slot (i := (k : Int)) (by omega) (by omega)
  have k2 := kL_slot (i := (k : Int)) (by omega) (by omega)
  rw [Int.toNat_natCast] at k1 k2
  have T := take_G (x := X) (w := 7 + 2 * k) (q := w) k1 hw (by omega) g (kh.1 k hk).2.1 (by rw [k2]; exact g.1.2)
  rw [wL_S wl] at T
  have f := F_w_take_fr X (7 + 2 * k) w
  have f2 := gm_of f
  generalize F_w_take X (7 + 2 * k) w = Q at *
  have e0 : Z.1 0 = Y.1 0 := r1.1 0 (by decide)
  have sl : ∀ j : Nat, j < 9 → j ≠ k → slM Z j = slM Y j ∧ slH Z j := fun j hj hn => slH_o e0 (r3 j hj hn) (fun i hi => r4 _ (by omega) (by omega)) (mv.2.1 j hj)
  have slk : slH Z k := ⟨by rw [r8.1]; have := r8.2.2.2; omega, by rw [r8.2.1, e0]; exact r8.2.2.1⟩
  have np : ∀ p ∈ [(7 + 2 * k, 1)], p = (7 + 2 * k, 1) := fun p hp => List.mem_singleton.mp hp
  have na : ∀ p ∈ [7 + 2 * k + 1], p = 7 + 2 * k + 1 := fun p hp => List.mem_singleton.mp hp
  have f57 : Q.2.2 57 = X.2 57 := f.2 57 (fun h9 => by have := na _ h9; omega)
  have pn : ∀ {c d : Nat}, c ≠ 7 + 2 * k → (c, d) ∉ [(7 + 2 * k, 1)] := fun {c d} hc h9 => hc (by have := congrArg Prod.fst (np _ h9); exact this)
  refine Rel_gen h f2 (fun p hp => ?_) (fun q hq => ?_) ?_ (fun _ _ h9 => ?_) (fun _ ok => rOK_w k1 (by omega) f ok) (KB_k f (fun p hp => ?_) (fun q hq h9 => ?_) ki.2.1) (KD_g f2 (fun q hq h9 => ?_) ki.2.2.2.1) ⟨fun j hj => ?_, ?_⟩ (KJ_g f2 (fun p hp h9 => ?_) (fun q hq h9 => ?_) ki.2.2.2.2.2.2.1) r1 (by unfold sMk; decide) (by unfold mkA; decide) r5 r6 r7 (MV_s r1 (by decide) (by decide) (r5 mv.1.2.2.2.2.2.2.1) (r7 mv.1.2.2.2.2.2.1) r2 (fun j hj => ?_) mv) ⟨fun j hj => ?_, ?_⟩
  · rw [np p hp]
    refine ⟨by show 7 + 2 * k ≠ 0; omega, by show 7 + 2 * k ≠ 1; omega, by show 7 + 2 * k < 24 ∨ _; omega, fun h9 => ?_⟩
    simp at h9 <;> omega
  · rw [na q hq]
    refine ⟨by omega, fun h9 => ?_⟩
    simp only [List.mem_cons, List.not_mem_nil, or_false] at h9
    omega
  · unfold jnR
    rw [f57, f.1 56 1 (pn (by omega))]
    exact ki.1.2.1
  · rw [f57]
    exact ⟨h9, fun _ _ _ => rfl⟩
  · rw [np p hp]
    exact ⟨fun h9 => by have := congrArg Prod.fst h9; simp only at this; omega, by show 7 + 2 * k ≠ 101; omega⟩
  · rw [na q hq] at h9
    simp only [List.mem_cons, List.not_mem_nil, or_false] at h9
    omega
  · rw [na q hq] at h9
    simp only [List.mem_cons, List.not_mem_nil, or_false] at h9
    omega
  · by_cases e : j = k
    · rw [e]; exact T.1
    · exact wG_fr f (pn (by omega)) (fun h9 => by have := na _ h9; omega) (pn (by omega)) (kh.1 j hj)
  · exact wG_fr f (pn (by omega)) (fun h9 => by have := na _ h9; omega) (pn (by omega)) kh.2
  · rw [np p hp] at h9
    simp at h9 <;> omega
  · rw [na q hq] at h9
    simp only [List.mem_cons, List.not_mem_nil, or_false] at h9
    omega
  · by_cases e : j = k
    · rw [e]; exact slk
    · exact (sl j hj e).2
  · by_cases e : j = k
    · rw [e, wL_S T.2]; exact r8.2.1.symm
    · rw [(sl j (by omega) e).1, wS_fr f (pn (by omega)) (fun h9 => by have := na _ h9; omega)]
      exact wd.1 j hj
  · rw [(sl 8 (by omega) (by omega)).1, wS_fr f (pn (by omega)) (fun h9 => by have := na _ h9; omega)]
    exact wd.2
theorem Rel_mz {X : KS} {Y : MS} (h : Rel X Y) : (¬ Y.1 6 = -9 → ¬ Y.1 27 = 0 → mzH Y) ∧ (¬ Y.1 6 = -9 → snH Y) := by
  refine ⟨fun h1 _ => ?_, fun h1 => ?_⟩
  · rcases h.2.2.2.2 with h9 | ⟨m, h9⟩
    · exact absurd h9.2 h1
    · exact h9.2.1.2.1
  · rcases h.2.2.2.2 with h9 | ⟨m, h9⟩
    · exact absurd h9.2 h1
    · exact h9.2.1.1
theorem Rel_cf {X : KS} {Y : MS} (h : Rel X Y) : Y.1 27 = 1 → Y.1 6 ≠ -9 → cfl Y := fun h1 h2 => by
  rcases h.2.2.2.2 with h9 | ⟨m, h9⟩
  · exact absurd h9.2 h2
  · exact snE_pv h9 h1
theorem reduce_R {X : KS} {Y : MS} (h : Rel X Y) {a k : Int} (ra : iR a) (rk : iR k) : (F_t_reduce X a k).1 = (F_m_reduce Y a k).1 ∧ Rel (F_t_reduce X a k).2 (F_m_reduce Y a k).2 := by
  obtain ⟨ki, mv, sw, wd, sn⟩ := id h
  have mz := Rel_mz h
  have P := F_m_reduce_p Y a k ra rk mv.1.1 mv.2.2.2.2.1 mv.2.2.2.2.2 mv.1.2.2.2.2.2.2.2.2.2.1 mv.2.1 mz.1 mz.2
  have kh := ki.2.2.2.2.2.1
  refine ⟨reduce_1 (KI_bd ki) sn sw.1 (fun j hj => ⟨wd.1 j hj, kh.1 j hj⟩) mv.2.1 ki.2.2.2.1.1 P, ?_⟩
  generalize F_m_reduce Y a k = q at P
  have i1 := isSlot_v X a
  have i2 := isSlot_v X k
  unfold F_t_reduce
  rcases P with ⟨c, e⟩ | ⟨⟨c1, c2⟩, P⟩
  · rw [e]
    by_cases h1 : (F_t_isSlot X a).1 = 0
    · rw [if_pos h1]; exact h
    · rw [if_neg h1]
      by_cases h2 : (F_t_isSlot X k).1 = 0
      · rw [if_pos h2]; exact h
      · exact absurd ⟨by omega, by omega⟩ c
  · rw [if_neg (show ¬ (F_t_isSlot X a).1 = 0 by omega), if_neg (show ¬ (F_t_isSlot X k).1 = 0 by omega)]
    have a8 : a.toNat < 8 := by omega
    have D := down_both (KI_bd ki) sn sw.1 (a := a.toNat) (w2 := 73) a8 (wd.1 _ a8) (kh.1 _ a8) (mv.2.1 _ (by omega)) (by decide) (by decide) (by decide) (by decide) ki.2.2.2.1.1
    have R1 := bd_Rel h (a := a.toNat) (w2 := 73) a8 (Or.inl rfl)
    rcases D with ⟨d1, d2⟩ | ⟨d1, u, d2, d3, d4, d5, d6, d7⟩
    · rw [d2, if_pos (by show (-3 : Int) < 0; decide)]
      rcases P with ⟨_, e⟩ | ⟨p1, _⟩
      · rw [e]; exact h
      · exact absurd d1 p1
    · rw [if_neg (by omega)]
      rcases P with ⟨p1, _⟩ | ⟨_, v, p2, p3, p4⟩
      · exact absurd p1 d1
      · have e : u = v := resM_one mv.1.1.1 (fun h9 => Rel_cf h h9 (fun h8 => d1 (Or.inl h8))) d2 p2 d3 p4.2.2.2.2.1.2.2.1
        rw [← e] at p4
        exact Rel_put R1 (k := k.toNat) (by omega) rfl (by decide) d5 d7 p4
theorem like_R {X : KS} {Y : MS} (h : Rel X Y) {a b : Int} (ra : iR a) (rb : iR b) : (F_t_like X a b).1 = (F_m_like Y a b).1 ∧ Rel (F_t_like X a b).2 (F_m_like Y a b).2 := by
  obtain ⟨ki, mv, sw, wd, sn⟩ := id h
  have mz := Rel_mz h
  have P := F_m_like_p2 Y a b ra rb mv.1.1 mv.2.2.2.2.1 mv.2.2.2.2.2 mv.1.2.2.2.2.2.2.2.2.2.1 mv.2.1 mz.1 mz.2
  have kh := ki.2.2.2.2.2.1
  generalize F_m_like Y a b = q at P
  have i1 := isSlot_v X a
  have i2 := isSlot_v X b
  unfold F_t_like
  rcases P with ⟨c, e⟩ | ⟨⟨c1, c2⟩, rn, P⟩
  · rw [e]
    by_cases h1 : (F_t_isSlot X a).1 = 0
    · rw [if_pos h1]; exact ⟨rfl, h⟩
    · rw [if_neg h1]
      by_cases h2 : (F_t_isSlot X b).1 = 0
      · rw [if_pos h2]; exact ⟨rfl, h⟩
      · exact absurd ⟨by omega, by omega⟩ c
  · rw [if_neg (show ¬ (F_t_isSlot X a).1 = 0 by omega), if_neg (show ¬ (F_t_isSlot X b).1 = 0 by omega)]
    have a8 : a.toNat < 8 := by omega
    have b8 : b.toNat < 8 := by omega
    have cf := fun h9 h8 => Rel_cf h h9 h8
    have D := down_both (KI_bd ki) sn sw.1 (a := a.toNat) (w2 := 73) a8 (wd.1 _ a8) (kh.1 _ a8) (mv.2.1 _ (by omega)) (by decide) (by decide) (by decide) (by decide) ki.2.2.2.1.1
    have R1 := bd_Rel h (a := a.toNat) (w2 := 73) a8 (Or.inl rfl)
    generalize F_t_bringDown X (7 + 2 * a.toNat) 73 = Q1 at D R1
    obtain ⟨ki1, _, sw1, wd1, sn1⟩ := id R1
    have D2 := down_both (KI_bd ki1) sn1 sw1.1 (a := b.toNat) (w2 := 75) b8 (wd1.1 _ b8) (ki1.2.2.2.2.2.1.1 _ b8) (mv.2.1 _ (by omega)) (by decide) (by decide) (by decide) (by decide) ki1.2.2.2.1.2.1
    have R2 := bd_Rel R1 (a := b.toNat) (w2 := 75) b8 (Or.inr rfl)
    have f2 := F_t_bringDown_fr Q1.2 (7 + 2 * b.toNat) 75
    generalize F_t_bringDown Q1.2 (7 + 2 * b.toNat) 75 = Q2 at D2 R2 f2
    rcases D with ⟨d1, d2⟩ | ⟨d1, u, d2, d3, d4, d5, d6, d7⟩
    · rw [d2, if_neg (by show ¬ (0 : Int) ≤ -3; decide)]
      rcases P with ⟨_, e⟩ | ⟨p1, _⟩
      · exact ⟨e.symm, Rel_rdN h rn⟩
      · exact absurd d1 p1
    · rw [if_pos (show 0 ≤ Q1.1 by omega)]
      rcases D2 with ⟨g1, g2⟩ | ⟨g1, v, g2, g3, g4, g5, g6, g7⟩
      · rw [g2, if_neg (by show ¬ (0 : Int) ≤ -3; decide)]
        rcases P with ⟨_, e⟩ | ⟨_, p1, _⟩
        · exact ⟨e.symm, Rel_rdN R1 rn⟩
        · exact absurd g1 p1
      · rw [if_pos (show 0 ≤ Q2.1 by omega)]
        rcases P with ⟨p1, _⟩ | ⟨_, _, u', v', p1, p2, p3⟩
        · rcases p1 with p1 | p1
          · exact absurd p1 d1
          · exact absurd p1 g1
        · have w73 : wL Q2.2 73 u := ⟨by rw [f2.1 73 1 (by decide) (by decide)]; exact d5.1, by rw [f2.2 74 (by decide) (by decide)]; exact d5.2⟩
          have S := F_w_isSame_x (x := Q2.2) (w := 73) (q := 75) w73 g5 d4
          have e1 : u = u' := resM_one mv.1.1.1 (fun h9 => cf h9 (fun h8 => d1 (Or.inl h8))) d2 p1.1 d3 p1.2
          have e2 : v = v' := resM_one mv.1.1.1 (fun h9 => cf h9 (fun h8 => d1 (Or.inl h8))) g2 p2.1 g3 p2.2
          rw [S]
          by_cases c : u = v
          · rw [if_pos c, if_neg (show ¬ (1 : Int) = 0 by decide)]
            exact ⟨by rw [p3, ← e1, ← e2, if_pos c], Rel_rdN R2 rn⟩
          · rw [if_neg c, if_pos rfl]
            exact ⟨by rw [p3, ← e1, ← e2, if_neg c], Rel_rdN R2 rn⟩
