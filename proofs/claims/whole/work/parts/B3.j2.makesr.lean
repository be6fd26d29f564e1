-- deps: B3.j1
/-! makes: both sides -/
theorem Rel_mk {X : KS} {Y Z : MS} (h : Rel X Y) (r : mkF Y Z) (w : (∀ k : Nat, k < 301 → 0 ≤ Z.2 32 k ∧ Z.2 32 k ≤ 60) ∧ ∀ k : Nat, k < 18060 → 0 ≤ Z.2 33 k ∧ Z.2 33 k ≤ 3) : Rel X Z := by
  obtain ⟨g, r2, r3, r4⟩ := r
  have mv := h.2.1
  have e9 : Z.2 9 = Y.2 9 := g.2 9 (by decide)
  have e11 : Z.2 11 = Y.2 11 := g.2 11 (by decide)
  have sl : ∀ j : Nat, j < 9 → slM Z j = slM Y j ∧ slH Z j := fun j hj => slH_o (g.1 0 (by decide)) (r3 j hj) (fun i hi => r4 _ (by omega)) (mv.2.1 j hj)
  have J : jOK Y → jOK Z := fun q => by unfold jOK; rw [e9]; exact q
  have D : hdR Y → hdR Z := fun q => by unfold hdR; rw [e11]; exact q
  have mz : MV Z := by
    obtain ⟨h1, h2, h3, h4, h5, h6⟩ := mv
    exact ⟨seH_s g (by decide) (by decide) (J h1.2.2.2.2.2.2.1) (D h1.2.2.2.2.2.1) r2 h1, fun k hk => (sl k hk).2, by rw [g.2 29 (by decide), g.2 30 (by decide)]; exact h3, w, by rw [g.1 6 (by decide)]; exact h5, by rw [g.1 27 (by decide)]; exact h6⟩
  exact Rel_gen h (gm_rf [] [] X) nil_p nil_a h.1.1.2.1 (fun _ _ h9 => ⟨h9, fun _ _ _ => rfl⟩) (fun _ ok => ok) h.1.2.1 h.1.2.2.2.1 h.1.2.2.2.2.2.1 h.1.2.2.2.2.2.2.1 g (by unfold sMk; decide) (by unfold mkA; decide) J (fun _ v _ _ => by rw [e9]) D mz ⟨fun j hj => by rw [(sl j (by omega)).1]; exact h.2.2.2.1.1 j hj, by rw [(sl 8 (by omega)).1]; exact h.2.2.2.1.2⟩
theorem Rel_begin {Q : KS} {Y : MS} (h : Rel Q Y) : Rel (F_d_begin Q).2 Y := by
  obtain ⟨ki, mv, sw, wd, sn⟩ := id h
  have f := F_d_begin_fr Q
  have f2 := gm_of f
  have kj := ki.2.2.2.2.2.2.1
  refine Rel_gen h f2 (by unfold okS; decide) (by unfold okA; decide) ?_ (fun _ _ h9 => ?_) (fun _ ok => rOK_fr f (by unfold rSs sMs; decide) (by unfold rAs sMa; decide) ok) (KB_k f (by decide) (by decide) ki.2.1) (KD_g f2 (by decide) ki.2.2.2.1) (KH_g f2 (by decide) (by decide) ki.2.2.2.2.2.1) ⟨mdR_begin kj.1, ?_, ?_, ?_, ?_⟩ (sm_rf [] [] Y) nil_a nil_a (fun q => q) (fun _ _ _ _ => rfl) (fun q => q) mv (wdE_g f2 (by decide) (by decide) wd)
  · exact jnR_of f (by decide) (by decide) ki.1.2.1
  · rw [f.2 57 (by decide)]; exact ⟨h9, fun _ _ _ => rfl⟩
  · unfold waR; rw [f.1 82 1 (by decide), f.2 83 (by decide), f.2 81 (by decide)]; exact kj.2.1
  · unfold dz; rw [f.1 64 4 (by decide), f.1 64 5 (by decide)]; exact kj.2.2.1
  · rw [f.2 69 (by decide)]; exact kj.2.2.2.1
  · rw [f.1 64 9 (by decide)]; exact kj.2.2.2.2
theorem makes_R {X : KS} {Y : MS} (h : Rel X Y) {a b : Int} (ra : iR a) (rb : iR b) : (F_t_makes X a b).1 = (F_m_makes Y a b).1 ∧ Rel (F_t_makes X a b).2 (F_m_makes Y a b).2 := by
  obtain ⟨ki, mv, sw, wd, sn⟩ := id h
  have mm := mach_v ki.2.2.2.2.1 sn
  have mz : ¬ (F_m_isMachine Y).1 = 0 → mzH Y := fun h9 => by
    rcases mm with m0 | m1
    · exact absurd m0.2 h9
    · exact m1.2.2.2.2.2.2.2.2.1
  have P := F_m_makes_p Y a b ra rb mv.2.2.2.2.1 mv.2.2.2.2.2 mz mv.1.2.2.2.2.2.2.2.2.2.1 mv.2.1 mv.2.2.2.1.1 mv.2.2.2.1.2
  have W := F_m_makes_q Y a b ra rb mv.2.2.2.2.1 mv.2.2.2.2.2 mz mv.1.2.2.2.2.2.2.2.2.2.1 mv.2.1 mv.2.2.2.1.1 mv.2.2.2.1.2
  generalize F_m_makes Y a b = q at P W
  have i1 := isSlot_v X a
  have i2 := isSlot_v X b
  unfold F_t_makes
  rcases P with ⟨c, e⟩ | ⟨⟨c1, c2⟩, P⟩
  · rw [e]
    by_cases h1 : (F_t_isSlot X a).1 = 0
    · rw [if_pos h1]; exact ⟨rfl, h⟩
    · rw [if_neg h1]
      by_cases h2 : (F_t_isSlot X b).1 = 0
      · rw [if_pos h2]; exact ⟨rfl, h⟩
      · exact absurd ⟨by omega, by omega⟩ c
  · rw [if_neg (show ¬ (F_t_isSlot X a).1 = 0 by omega), if_neg (show ¬ (F_t_isSlot X b).1 = 0 by omega)]
    rcases mm with ⟨m0, m1⟩ | ⟨m0, m1, mc⟩
    · rw [if_pos m0]
      rcases P with ⟨_, e⟩ | ⟨p1, _⟩
      · rw [e]; exact ⟨rfl, h⟩
      · exact absurd m1 p1
    · rw [if_neg (show ¬ (F_t_isProved X).1 = 0 by omega)]
      rcases P with ⟨p1, _⟩ | ⟨_, mf, v1, v2, n1, n2, P⟩
      · rw [m1] at p1; exact absurd p1 (by decide)
      · have a8 : a.toNat < 8 := by omega
        have b8 : b.toNat < 8 := by omega
        obtain ⟨r1, _, R1, u1, nu1, _, _, wu1, gu1⟩ := run_b h m0 a8 (w2 := 73) (Or.inl rfl)
        have e1 : u1 = v1 := nf_one mc.1.1 (noL_irr nu1.1) (noL_irr n1.1) nu1.2 n1.2
        rw [e1] at wu1
        generalize F_r_run X (7 + 2 * a.toNat) 73 = Q at *
        rw [if_neg (show ¬ Q.1 = 0 by omega)]
        obtain ⟨s1, _, R2, u2, nu2, _, _, wu2, gu2⟩ := run_b R1 (mc_of R1 m1).2.1 b8 (w2 := 75) (Or.inr rfl)
        have e2 : u2 = v2 := nf_one mc.1.1 (noL_irr nu2.1) (noL_irr n2.1) nu2.2 n2.2
        rw [e2] at wu2
        have fr := F_r_run_fr Q.2 (7 + 2 * b.toNat) 75
        have w73 : wL (F_r_run Q.2 (7 + 2 * b.toNat) 75).2 73 v1 := ⟨by rw [fr.1 73 1 (by decide) (by decide)]; exact wu1.1, by rw [fr.2 74 (by decide) (by decide)]; exact wu1.2⟩
        have g73 : wG (F_r_run Q.2 (7 + 2 * b.toNat) 75).2 73 := wG_g fr (by decide) (by decide) (by decide) (by decide) gu1
        generalize F_r_run Q.2 (7 + 2 * b.toNat) 75 = Q2 at *
        rw [if_neg (show ¬ Q2.1 = 0 by omega)]
        have fb := F_d_begin_fr Q2.2
        have S := makes_s m1 (v1 := v1) (v2 := v2) (a := a) (b := b) 310 0 (F_d_begin Q2.2).2 [[]] ⟨Rel_begin R2, ⟨⟨by rw [fb.1 73 1 (by decide)]; exact w73.1, by rw [fb.2 74 (by decide)]; exact w73.2⟩, wG_fr fb (by decide) (by decide) (by decide) g73⟩, ⟨⟨by rw [fb.1 75 1 (by decide)]; exact wu2.1, by rw [fb.2 76 (by decide)]; exact wu2.2⟩, wG_fr fb (by decide) (by decide) (by decide) gu2⟩, mdL_begin Q2.2⟩ rfl (Nat.zero_le _) (by omega)
        have S : mkR Y v1 v2 (F_t_makes_s 310 0 (F_d_begin Q2.2).2 a b ((0 : Int))).1 ∧ Rel (F_t_makes_s 310 0 (F_d_begin Q2.2).2 a b ((0 : Int))).2 Y := S
        exact ⟨mkR_one mc.1 S.1 P, Rel_mk S.2 mf W⟩
