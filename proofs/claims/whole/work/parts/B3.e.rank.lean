-- deps: B3.d
/-! rank answers alike; size -/
theorem slF_N {x z : MS} (h : slF x z) : rdN x z := ⟨sm_mono nil_a (by decide) h.1, h.2.1, h.2.2.1, h.2.2.2, fun q => by unfold jOK; rw [h.1.2 9 (by decide)]; exact q, fun _ v _ _ => by rw [h.1.2 9 (by decide)], fun q => by unfold hdR; rw [h.1.2 11 (by decide)]; exact q⟩
theorem slC_S {x z : MS} {c : Nat} {u : List Int} (h : slC x z c u) : rdS x z c u := ⟨sm_mono nil_a (by decide) h.1, h.2.1, h.2.2.1, h.2.2.2.1, h.2.2.2.2, fun q => by unfold jOK; rw [h.1.2 9 (by decide)]; exact q, fun _ v _ _ => by rw [h.1.2 9 (by decide)], fun q => by unfold hdR; rw [h.1.2 11 (by decide)]; exact q⟩
theorem prov_1 {X : KS} (h : (F_t_isProved X).1 = 1) : ¬ (F_t_isSeen X).1 = 0 ∧ ¬ X.1 0 16 = 0 := by
  unfold F_t_isProved at h
  by_cases c : (F_t_isSeen X).1 = 0
  · rw [if_pos c] at h; exact absurd h (by show ¬ (0 : Int) = 1; decide)
  · rw [if_neg c] at h
    by_cases c2 : X.1 0 16 = 0
    · rw [if_pos c2] at h; exact absurd h (by show ¬ (0 : Int) = 1; decide)
    · exact ⟨c, c2⟩
/-- run is bringDown where THE MACHINE stands -/
theorem run_b {X : KS} {Y : MS} (h : Rel X Y) (p : (F_t_isProved X).1 = 1) {a w2 : Nat} (ha : a < 8) (h2 : w2 = 73 ∨ w2 = 75) : (F_r_run X (7 + 2 * a) w2).1 = 1 ∧ (F_r_run X (7 + 2 * a) w2).2 = (F_t_bringDown X (7 + 2 * a) w2).2 ∧ Rel (F_r_run X (7 + 2 * a) w2).2 Y ∧ ∃ u, nfP Y (slM Y a) u ∧ okL (Y.1 0).toNat u ∧ u.length ≤ 60 ∧ wL (F_r_run X (7 + 2 * a) w2).2 w2 u ∧ wG (F_r_run X (7 + 2 * a) w2).2 w2 := by
  obtain ⟨ki, mv, sw, wd, sn⟩ := id h
  have kh := ki.2.2.2.2.2.1
  obtain ⟨p1, p2⟩ := prov_1 p
  have hw2 : kW w2 = true := by rcases h2 with e | e <;> rw [e] <;> rfl
  have hL2 : kL w2 = 60 := by rcases h2 with e | e <;> rw [e] <;> rfl
  have k1 := kW_slot (i := (a : Int)) (by omega) (by omega)
  rw [Int.toNat_natCast] at k1
  have r2 : r03 (X.2 (w2 + 1)) := by
    rcases h2 with e | e <;> rw [e]
    · exact ki.2.2.2.1.1
    · exact ki.2.2.2.1.2.1
  have p16 : X.1 0 16 = 1 := by
    rcases ki.2.2.2.2.1.2.2.1 with e | e
    · exact absurd e p2
    · exact e
  have G := run_G (ki.2.2.2.2.1.2.2.2 p16) k1 hw2 hL2 (by omega) (kh.1 a ha) r2
  have e : (F_r_run X (7 + 2 * a) w2).2 = (F_t_bringDown X (7 + 2 * a) w2).2 := by
    unfold F_t_bringDown
    rw [if_neg p1, if_neg p2, if_neg p2, if_neg (show ¬ (F_r_run X (7 + 2 * a) w2).1 = 0 by rw [G.2.2.2]; decide)]
  refine ⟨G.2.2.2, e, by rw [e]; exact bd_Rel h ha h2, ?_⟩
  have D := down_both (KI_bd ki) sn sw.1 (a := a) (w2 := w2) ha (wd.1 _ ha) (kh.1 _ ha) (mv.2.1 _ (by omega)) hw2 (by omega) hL2 (by omega) r2
  rcases D with ⟨d1, d2⟩ | ⟨d1, u, d2, d3, d4, d5, d6, d7⟩
  · exfalso
    rcases mach_v ki.2.2.2.2.1 sn with ⟨q1, q2⟩ | ⟨q1, q2, q3⟩
    · rw [p] at q1; exact absurd q1 (by decide)
    · unfold F_m_isMachine at q2
      rcases d1 with d1 | d1
      · rw [if_pos d1] at q2; exact absurd q2 (by show ¬ (0 : Int) = 1; decide)
      · by_cases c : Y.1 6 = -9
        · rw [if_pos c] at q2; exact absurd q2 (by show ¬ (0 : Int) = 1; decide)
        · rw [if_neg c, if_pos d1.1] at q2; exact absurd q2 (by show ¬ (0 : Int) = 1; decide)
  · have n27 : Y.1 27 = 1 := by
      rcases mach_v ki.2.2.2.2.1 sn with ⟨q1, q2⟩ | ⟨q1, q2, q3⟩
      · rw [p] at q1; exact absurd q1 (by decide)
      · unfold F_m_isMachine at q2
        rcases mv.2.2.2.2.2 with c | c
        · by_cases c6 : Y.1 6 = -9
          · rw [if_pos c6] at q2; exact absurd q2 (by show ¬ (0 : Int) = 1; decide)
          · rw [if_neg c6, if_pos c] at q2; exact absurd q2 (by show ¬ (0 : Int) = 1; decide)
        · exact c
    rcases d2 with d2 | d2
    · exact ⟨u, d2.2, d3, d4, by rw [e]; exact d5, by rw [e]; exact d7⟩
    · omega
theorem nb_dz {w1 : Nat} (hw : kW w1 = true) : ∀ n : Nat, (∀ (y : KS) (q s i q0 : Int), 0 ≤ i → y.1 w1 1 ≤ 100 → dz y → maR y → (1 ≤ y.1 1 2 ∧ y.1 1 2 ≤ 4) → maS y → dz (F_a_numberOf_s w1 n 0 y q s i q0).2) ∧ (∀ (y : KS) (q s i z : Int), 0 ≤ i → y.1 w1 1 ≤ 100 → dz y → maR y → (1 ≤ y.1 1 2 ∧ y.1 1 2 ≤ 4) → maS y → dz (F_a_numberOf_s w1 n 1 y q s i z).2) := by
  have w64 : 64 ≠ w1 := w_ne hw rfl
  intro n
  induction n with
  | zero => exact ⟨fun _ _ _ _ _ _ _ d _ _ _ => d, fun _ _ _ _ _ _ _ d _ _ _ => d⟩
  | succ n ih =>
    obtain ⟨i0, i1⟩ := ih
    refine ⟨fun y q s i q0 h0 h1 d ma l2 ms => ?_, fun y q s i z h0 h1 d ma l2 ms => ?_⟩
    · rw [F_a_numberOf_e0]
      by_cases c : y.1 w1 1 ≤ i
      · rw [if_pos c]; exact d
      · rw [if_neg c]
        have C := (F_a_countWays_x ma l2 ms d (v := y.1 w1 1 - 1 - i) (by omega) (by omega)).1
        have f := F_a_countWays_fr y (y.1 w1 1 - 1 - i)
        exact i1 _ _ _ _ _ h0 (by rw [f.1 w1 1 (by intro h9; simp at h9 <;> omega)]; exact h1) C.2.2.2 (maR_of f (by decide) (by decide) (by decide) ma) (by rw [f.1 1 2 (by decide)]; exact l2) (maS_k C ms)
    · rw [F_a_numberOf_e1]
      by_cases c : y.2 (w1 + 1) i.toNat ≤ z
      · rw [if_pos c]; exact i0 _ _ _ _ _ (by omega) h1 d ma l2 ms
      · rw [if_neg c]; exact i1 _ _ _ _ _ h0 h1 d ma l2 ms
/-- only the rows of ways and which of them is in use changed -/
theorem Rel_ways {X Z : KS} {Y : MS} (h : Rel X Y) (f : ksame [(64, 4), (64, 5)] [67, 68] X Z) (d : dz Z) : Rel Z Y := by
  obtain ⟨ki, mv, sw, wd, sn⟩ := id h
  have f2 := gm_of f
  have kj := ki.2.2.2.2.2.2.1
  refine Rel_gen h f2 (by unfold okS; decide) (by unfold okA; decide) ?_ (fun _ _ h9 => ?_) (fun _ ok => rOK_fr f (by unfold rSs sMs; decide) (by unfold rAs sMa; decide) ok) (KB_k f (by decide) (by decide) ki.2.1) (KD_g f2 (by decide) ki.2.2.2.1) (KH_g f2 (by decide) (by decide) ki.2.2.2.2.2.1) ⟨?_, ?_, d, ?_, ?_⟩ (sm_rf [] [] Y) nil_a nil_a (fun q => q) (fun _ _ _ _ => rfl) (fun q => q) mv (wdE_g f2 (by decide) (by decide) wd)
  · exact jnR_of f (by decide) (by decide) ki.1.2.1
  · rw [f.2 57 (by decide)]; exact ⟨h9, fun _ _ _ => rfl⟩
  · unfold mdR; rw [f.1 84 2 (by decide), f.2 85 (by decide), f.2 86 (by decide)]; exact kj.1
  · unfold waR; rw [f.1 82 1 (by decide), f.2 83 (by decide), f.2 81 (by decide)]; exact kj.2.1
  · rw [f.2 69 (by decide)]; exact kj.2.2.2.1
  · rw [f.1 64 9 (by decide)]; exact kj.2.2.2.2
theorem rank_R {X : KS} {Y : MS} (h : Rel X Y) {a : Int} (ra : iR a) : (F_t_rank X a).1 = (F_m_rank Y a).1 ∧ Rel (F_t_rank X a).2 (F_m_rank Y a).2 := by
  obtain ⟨ki, mv, sw, wd, sn⟩ := id h
  have mm := mach_v ki.2.2.2.2.1 sn
  have P := F_m_rank_p Y a ra mv.2.2.2.2.1 mv.2.2.2.2.2 (fun h9 => by
    rcases mm with m0 | m1
    · exact absurd m0.2 h9
    · exact m1.2.2.2.2.2.2.2.2.1) mv.1.2.2.2.2.2.2.2.2.2.1 mv.2.1 (fun h9 => by
    rcases mm with m0 | m1
    · exact absurd m0.2 h9
    · exact m1.2.2.2.2.2.2.2.1)
  generalize F_m_rank Y a = q at P
  have i1 := isSlot_v X a
  unfold F_t_rank
  rcases P with ⟨c, e⟩ | ⟨c, P⟩
  · rw [if_pos (show (F_t_isSlot X a).1 = 0 by omega), e]
    exact ⟨rfl, h⟩
  · rw [if_neg (show ¬ (F_t_isSlot X a).1 = 0 by omega)]
    rcases mm with ⟨m0, m1⟩ | ⟨m0, m1, mc⟩
    · rw [if_pos m0]
      rcases P with ⟨_, e⟩ | ⟨p1, _⟩
      · rw [e]; exact ⟨rfl, h⟩
      · exact absurd m1 p1
    · rw [if_neg (show ¬ (F_t_isProved X).1 = 0 by omega)]
      rcases P with ⟨p1, _⟩ | ⟨_, sf, v, nv, P⟩
      · rw [m1] at p1; exact absurd p1 (by decide)
      · have a8 : a.toNat < 8 := by omega
        obtain ⟨r1, _, R1, u, nu, ou, lu, wu, gu⟩ := run_b h m0 a8 (w2 := 73) (Or.inl rfl)
        have uv : u = v := nf_one mc.1.1 (noL_irr nu.1) (noL_irr nv.1) nu.2 nv.2
        generalize F_r_run X (7 + 2 * a.toNat) 73 = Q at *
        rw [if_neg (show ¬ Q.1 = 0 by omega)]
        have l73 := wu.1
        by_cases c2 : Q.2.1 73 1 ≤ 30
        · rw [if_pos c2]
          have mm2 := mach_v R1.1.2.2.2.2.1 R1.2.2.2.2
          have mc2 : mcE Q.2 Y := by
            rcases mm2 with ⟨_, n1⟩ | ⟨_, _, n2⟩
            · rw [m1] at n1; exact absurd n1 (by decide)
            · exact n2
          have hs := mc2.2.2.1
          have ma := R1.1.1.2.2.2
          have dd := R1.1.2.2.2.2.2.2.1.2.2.1
          have N := numberOf_x hs ma dd mc2.2.2.2.1 (w := 73) rfl wu (by omega) (pth_of mc2.2.2.2.2.2.2.1.1 (by have := mv.1.1; omega) nu.1 ou)
          have D := (nb_dz (w1 := 73) rfl 700).1 Q.2 (F_a_countBelow Q.2 (Q.2.1 73 1)).1 0 0 0 (by decide) (by omega) dd ma R1.1.1.1.1.1 (stE_ms hs)
          refine ⟨?_, Rel_ways (Rel_rdN R1 (slF_N sf)) (F_a_numberOf_fr Q.2 73) D⟩
          rcases P with ⟨q1, _⟩ | ⟨q1, q2⟩
          · exfalso; rw [← uv] at q1; omega
          · rw [q2, ← uv]; exact N
        · rw [if_neg c2]
          refine ⟨?_, Rel_rdN R1 (slF_N sf)⟩
          rcases P with ⟨q1, q2⟩ | ⟨q1, _⟩
          · exact q2.symm
          · exfalso; rw [← uv] at q1; omega
theorem Rel_29 {X : KS} {Y Z : MS} (h : Rel X Y) (g : same [] [29, 30] Y Z) (b : (∀ j : Nat, j < 850 → Z.2 29 j = 0 ∨ Z.2 29 j = 1) ∧ ∀ j : Nat, j < 850 → Z.2 30 j = 0 ∨ Z.2 30 j = 1) : Rel X Z := by
  have mv := h.2.1
  have e9 : Z.2 9 = Y.2 9 := g.2 9 (by decide)
  have e11 : Z.2 11 = Y.2 11 := g.2 11 (by decide)
  have sl : ∀ j : Nat, slM Z j = slM Y j := fun j => by unfold slM ltM; rw [g.2 1 (by decide), g.2 2 (by decide)]
  have J : jOK Y → jOK Z := fun q => by unfold jOK; rw [e9]; exact q
  have D : hdR Y → hdR Z := fun q => by unfold hdR; rw [e11]; exact q
  have mz : MV Z := by
    obtain ⟨h1, h2, h3, h4, h5, h6⟩ := mv
    refine ⟨seH_s g nil_a (by decide) (J h1.2.2.2.2.2.2.1) (D h1.2.2.2.2.2.1) (by unfold rwR; rw [g.2 2 (by decide)]; exact h1.2.2.2.2.2.2.2.2.2.1) h1, fun k hk => ?_, b, by rw [g.2 32 (by decide), g.2 33 (by decide)]; exact h4, by rw [g.1 6 List.not_mem_nil]; exact h5, by rw [g.1 27 List.not_mem_nil]; exact h6⟩
    unfold slH
    rw [sl, g.1 0 List.not_mem_nil, g.2 1 (by decide)]
    exact h2 k hk
  exact Rel_gen h (gm_rf [] [] X) nil_p nil_a h.1.1.2.1 (fun _ _ h9 => ⟨h9, fun _ _ _ => rfl⟩) (fun _ ok => ok) h.1.2.1 h.1.2.2.2.1 h.1.2.2.2.2.2.1 h.1.2.2.2.2.2.2.1 g nil_a (by unfold mkA; decide) J (fun _ v _ _ => by rw [e9]) D mz ⟨fun j hj => by rw [sl]; exact h.2.2.2.1.1 j hj, by rw [sl]; exact h.2.2.2.1.2⟩
theorem size_R {X : KS} {Y : MS} (h : Rel X Y) : Rel X (F_m_size Y).2 := by
  have mm := mach_v h.1.2.2.2.2.1 h.2.2.2.2
  have S := size_x (x := Y) h.2.1.1.1.2 (fun h9 => by
    rcases mm with ⟨a, b⟩ | ⟨a, b, c⟩
    · exact absurd b h9
    · exact ⟨mz_au c.2.2.2.2.2.2.1, c.2.2.1.1.2.2.1, c.2.2.2.2.2.1⟩) h.2.1.2.2.1.1 h.2.1.2.2.1.2
  exact Rel_29 h S.2.1 S.2.2
