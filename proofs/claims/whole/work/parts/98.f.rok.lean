-- deps: 98.a 98.b 98.c 98.d 98.e
/-! The Rewriter is ready; run keeps it so -/
def wG (x : KS) (w : Nat) : Prop := (0 ≤ x.1 w 1 ∧ x.1 w 1 ≤ 60) ∧ r03 (x.2 (w + 1)) ∧ okL (nL x) (wS x w)
def rOK (x : KS) : Prop := mcX x ∧ stV x ∧ p72 x ∧ r03 (x.2 71) ∧ (¬ x.1 70 5 = 0 → gR0 x x ∧ keI x)
theorem knI_mv {x x' y : KS} (h : sM x x') (k : knI x y) : knI x' y := by
  intro i hi hn
  obtain ⟨b, K, V, h1, h2, h3, h4, h5, h6, h7, h8, h9, h10⟩ := k i hi hn
  refine ⟨b, K, V, h1, ?_, h3, ?_, h5, h6, h7, h8, h9, ?_⟩
  · rw [sM_nL h]; exact h2
  · rw [sM_nL h]; exact h4
  · unfold led
    rw [sM_lS h, sM_rS h, sM_nR h]
    exact h10
theorem gR0_mv {x x' y : KS} (h : sM x x') (g : gR0 x y) : gR0 x' y := ⟨sM_tr (sM_sy h) g.1, g.2.1, knI_mv h g.2.2.1, g.2.2.2⟩
theorem stV_M {x y : KS} (h : sM x y) (s : stV x) : stV y := by
  unfold stV
  rw [h.2.1.2.2.1, h.2.2.2.2]
  exact s
theorem keI_new (y : KS) : keI (kNg y) := by
  refine ⟨Or.inr rfl, fun _ i _ => ?_⟩
  show (if (102 : Nat) < 87 then y.2 102 else fun _ => 0) i = 0
  rw [if_neg (by decide)]
theorem wL_G {x : KS} {w : Nat} (g : wG x w) : wL x w (wS x w) ∧ (wS x w).length ≤ 60 := ⟨wL_of g.1.1, by rw [wS_len]; have := g.1; omega⟩
/-- what stands when readOn is through -/
theorem F_r_ro_rest {x : KS} (ok : rOK x) {w1 w2 : Nat} (hw1 : kW w1 = true) (hw2 : kW w2 = true) (h60 : kL w2 = 60) (g1 : wG x w1) (r2 : r03 (x.2 (w2 + 1))) : rwI (F_w_wipe (F_r_run_s w1 70 (kS x 70 4 0) (min (x.1 w1 1) 60 - 1)) w2).2 w2 ∧ sM x (F_w_wipe (F_r_run_s w1 70 (kS x 70 4 0) (min (x.1 w1 1) 60 - 1)) w2).2 ∧ (F_r_ro x w1 w2).1 = 1 ∧ roI x (F_r_ro x w1 w2).2 w2 (wS x w1) ∧ p72 (F_r_ro x w1 w2).2 ∧ r03 ((F_r_ro x w1 w2).2.2 71) ∧ r03 ((F_r_ro x w1 w2).2.2 (w2 + 1)) := by
  obtain ⟨mx, sv, pp, r71, gk⟩ := ok
  obtain ⟨h, hl⟩ := wL_G g1
  have em : min (x.1 w1 1) 60 - 1 = ((wS x w1).length : Int) - 1 := by rw [h.1]; omega
  have pl := F_r_plain_x mx hw1 hw2 h60 (sM_rf x) h g1.2.2 hl pp.1
  rw [← em] at pl
  have pl : (F_r_ro x w1 w2).1 = 1 ∧ roI x (F_r_ro x w1 w2).2 w2 (wS x w1) := pl
  have a := F_r_run_s_r hw1 hw2 70 (kS x 70 4 0) (min (x.1 w1 1) 60 - 1) r71 g1.2.1 r2
  have w71 : w2 + 1 ≠ 71 := kR_ne hw2 rfl
  have f0 := F_r_run_s_fr w1 70 (kS x 70 4 0) (min (x.1 w1 1) 60 - 1)
  have f1 : ksame [(70, 4), (w2, 1)] [71] x (F_w_wipe (F_r_run_s w1 70 (kS x 70 4 0) (min (x.1 w1 1) 60 - 1)) w2).2 := km_s (List.Mem.tail _ (List.Mem.head _)) (km_tr (km_s (List.Mem.head _) (km_rf _ _ _)) (km_mono (km1 (List.Mem.head _) km0) (km1 (List.Mem.head _) km0) f0))
  have sm1 : sM x (F_w_wipe (F_r_run_s w1 70 (kS x 70 4 0) (min (x.1 w1 1) 60 - 1)) w2).2 := sM_of f1 (by intro p hp; simp only [List.mem_cons, List.not_mem_nil, or_false] at hp; rcases hp with e | e <;> subst e; (unfold sMs; decide); exact sMs_w hw2) (by unfold sMa; decide)
  have l4 : (F_r_run_s w1 70 (kS x 70 4 0) (min (x.1 w1 1) 60 - 1)).1 70 4 = ((wS x w1).length : Int) := by
    rw [em]
    have h1 : wL (kS x 70 4 0) w1 (wS x w1 ++ []) := by rw [List.append_nil]; exact wL_fr (S := [(70, 4)]) (A := []) (km_s (by decide) (km_rf _ _ _)) (by intro h9; simp at h9) (by simp) h
    have := (F_r_run_s_x hw1 70 (kS x 70 4 0) (wS x w1) [] h1 (by rw [kS_s]; exact Int.le_refl _) (by unfold rL; rw [kS_s]; rfl) (by omega)).2.2
    rw [kS_s] at this
    omega
  have e72 : (F_w_wipe (F_r_run_s w1 70 (kS x 70 4 0) (min (x.1 w1 1) 60 - 1)) w2).2.2 72 = x.2 72 := f1.2 72 (by decide)
  have wi : rwI (F_w_wipe (F_r_run_s w1 70 (kS x 70 4 0) (min (x.1 w1 1) 60 - 1)) w2).2 w2 := by
    refine ⟨?_, ?_, ?_, ?_⟩
    · show 0 ≤ (kS (F_r_run_s w1 70 (kS x 70 4 0) (min (x.1 w1 1) 60 - 1)) w2 1 0).1 w2 1 ∧ (kS (F_r_run_s w1 70 (kS x 70 4 0) (min (x.1 w1 1) 60 - 1)) w2 1 0).1 w2 1 ≤ _
      rw [kS_s]; omega
    · show 0 ≤ (kS (F_r_run_s w1 70 (kS x 70 4 0) (min (x.1 w1 1) 60 - 1)) w2 1 0).1 70 4 ∧ (kS (F_r_run_s w1 70 (kS x 70 4 0) (min (x.1 w1 1) 60 - 1)) w2 1 0).1 70 4 ≤ 60
      rw [kS_c (w_ne hw2 rfl), l4]; omega
    · rw [e72]; exact pp.2
    · intro j
      have := a.1 j
      show -1 ≤ (F_r_run_s w1 70 (kS x 70 4 0) (min (x.1 w1 1) 60 - 1)).2 71 j ∧ (F_r_run_s w1 70 (kS x 70 4 0) (min (x.1 w1 1) 60 - 1)).2 71 j ≤ 3
      omega
  have m1 := mcX_sM sm1 mx
  have p1 : p72 (F_w_wipe (F_r_run_s w1 70 (kS x 70 4 0) (min (x.1 w1 1) 60 - 1)) w2).2 := by unfold p72; rw [e72]; exact pp
  have p2 : p72 (F_r_ro x w1 w2).2 := F_r_readOn_s_p hw2 20010 _ 0 m1.2.2.2.2.1 m1.2.1 (stV_M sm1 sv) wi p1
  have rr := F_r_readOn_s_r hw2 20010 (F_w_wipe (F_r_run_s w1 70 (kS x 70 4 0) (min (x.1 w1 1) 60 - 1)) w2).2 0 a.1 a.2
  exact ⟨wi, sm1, pl.1, pl.2, p2, rr.1, rr.2⟩
/-- the state from which putRestBack and the Grower go on -/
def rZ (x : KS) (w1 w2 : Nat) : KS := if (F_r_ro x w1 w2).2.1 70 5 = 0 then kNg (F_r_ro x w1 w2).2 else (F_r_ro x w1 w2).2
theorem F_r_ro_G {w2 : Nat} (hw2 : kW w2 = true) (x : KS) (w1 : Nat) : kG x (F_r_ro x w1 w2).2 := kG_of (F_r_ro_fr x w1 w2) (by intro h9; simp at h9) (by intro h9; simp at h9)
theorem rZ_rest {x : KS} (ok : rOK x) {w1 w2 : Nat} (hw1 : kW w1 = true) (hw2 : kW w2 = true) (h60 : kL w2 = 60) (l2 : w2 + 1 < 87) (g1 : wG x w1) (r2 : r03 (x.2 (w2 + 1))) : gR0 x (rZ x w1 w2) ∧ keI (rZ x w1 w2) ∧ ¬ (rZ x w1 w2).1 70 5 = 0 ∧ wL (rZ x w1 w2) w2 (wS (F_r_ro x w1 w2).2 w2) ∧ gfr [(70, 5)] [] (F_r_ro x w1 w2).2 (rZ x w1 w2) := by
  obtain ⟨wi, sm1, ro1, roX, p2, r71, rw2⟩ := F_r_ro_rest ok hw1 hw2 h60 g1 r2
  have v70 : 70 ≠ w2 := w_ne hw2 rfl
  have kg := F_r_ro_G hw2 x w1
  obtain ⟨smc, ⟨u0, r0, ur⟩, ok1, ok2, plc9, nl, rc⟩ := roX
  have wc := wL_of u0
  unfold rZ
  by_cases c5 : (F_r_ro x w1 w2).2.1 70 5 = 0
  · rw [if_pos c5]
    have e1 : (kNg (F_r_ro x w1 w2).2).1 w2 1 = (F_r_ro x w1 w2).2.1 w2 1 := (kNg_fr _).1 w2 1 (by omega) (by simp)
    have e2 : (kNg (F_r_ro x w1 w2).2).2 (w2 + 1) = (F_r_ro x w1 w2).2.2 (w2 + 1) := if_pos l2
    refine ⟨(gR0_new smc).1, keI_new _, ?_, ⟨by rw [e1]; exact wc.1, by rw [e2]; exact wc.2⟩, kNg_fr _⟩
    show ¬ (1 : Int) = 0
    decide
  · rw [if_neg c5]
    have x5 : ¬ x.1 70 5 = 0 := by rw [← kg.1]; exact c5
    obtain ⟨g0, k0⟩ := ok.2.2.2.2 x5
    have fro := F_r_ro_fr x w1 w2
    have n09 : (101, 9) ∉ [(70, 4), (w2, 1)] := by intro h9; simp at h9
    have n04 : (101, 4) ∉ [(70, 4), (w2, 1)] := by intro h9; simp at h9
    have nq : ∀ q, q ∈ [89, 91, 93, 94, 95, 96, 97, 98, 99, 100, 102, 103, 104, 105] → q ∉ [71, w2 + 1, 72] := fun q hq h9 => by
      simp at hq h9
      omega
    exact ⟨gR0_fr g0 fro smc n09 nq, keI_fr fro n04 n09 (nq 102 (by decide)) k0, c5, wc, gm_rf _ _ _⟩
theorem rOK_run {x : KS} (ok : rOK x) {w1 w2 : Nat} (hw1 : kW w1 = true) (hw2 : kW w2 = true) (h60 : kL w2 = 60) (l2 : w2 + 1 < 87) (g1 : wG x w1) (r2 : r03 (x.2 (w2 + 1))) : rOK (F_r_run x w1 w2).2 ∧ r03 ((F_r_run x w1 w2).2.2 (w2 + 1)) ∧ (F_r_run x w1 w2).1 = 1 ∧ ∃ V : List Int, wL (F_r_run x w1 w2).2 w2 V ∧ okL (nL x) V ∧ V.length ≤ 60 ∧ rch (lS x) (rS x) (nR x) (wS x w1) V ∧ noL (lS x) (nR x) V := by
  obtain ⟨mx, sv, pp, r71x, gk⟩ := id ok
  obtain ⟨h, hl⟩ := wL_G g1
  have rx := F_r_run_x mx hw1 hw2 h60 (by omega) (sM_rf x) h g1.2.2 hl pp.1 r71x g1.2.1 r2 (fun h9 => (gk h9).1)
  have smz := F_r_run_M hw2 x w1
  have lenV : ∀ V, rch (lS x) (rS x) (nR x) (wS x w1) V → V.length ≤ 60 := fun V hV => Nat.le_trans (rch_len (fun r hr => (mc_ahd mx hr).1) hV) hl
  obtain ⟨wi, sm1, ro1, roX, p2, r71, rw2⟩ := F_r_ro_rest ok hw1 hw2 h60 g1 r2
  obtain ⟨z1, z2, z3, z4, z5⟩ := rZ_rest ok hw1 hw2 h60 l2 g1 r2
  have w72 : w2 + 1 ≠ 72 := kR_ne hw2 rfl
  have w71 : w2 + 1 ≠ 71 := kR_ne hw2 rfl
  have key : p72 (F_r_run x w1 w2).2 ∧ r03 ((F_r_run x w1 w2).2.2 71) ∧ r03 ((F_r_run x w1 w2).2.2 (w2 + 1)) ∧ (¬ (F_r_run x w1 w2).2.1 70 5 = 0 → gR0 x (F_r_run x w1 w2).2 ∧ keI (F_r_run x w1 w2).2) := by
    unfold F_r_run
    rw [ro1, if_neg (by decide)]
    by_cases c : 0 < (F_r_ro x w1 w2).2.1 70 4
    · rw [if_pos c]
      show p72 (F_r_go (rZ x w1 w2) w2).2 ∧ r03 ((F_r_go (rZ x w1 w2) w2).2.2 71) ∧ r03 ((F_r_go (rZ x w1 w2) w2).2.2 (w2 + 1)) ∧ (¬ (F_r_go (rZ x w1 w2) w2).2.1 70 5 = 0 → gR0 x (F_r_go (rZ x w1 w2) w2).2 ∧ keI (F_r_go (rZ x w1 w2) w2).2)
      obtain ⟨smc, ⟨u0, r0, ur⟩, ok1, ok2, plc9, nl, rc⟩ := roX
      have z71 : (rZ x w1 w2).2 71 = (F_r_ro x w1 w2).2.2 71 := z5.2 71 (by decide) (by decide)
      have z72 : (rZ x w1 w2).2 72 = (F_r_ro x w1 w2).2.2 72 := z5.2 72 (by decide) (by decide)
      have zw : (rZ x w1 w2).2 (w2 + 1) = (F_r_ro x w1 w2).2.2 (w2 + 1) := z5.2 (w2 + 1) l2 List.not_mem_nil.elim
      have z704 : (rZ x w1 w2).1 70 4 = (F_r_ro x w1 w2).2.1 70 4 := z5.1 70 4 (by decide) (by decide)
      have er : rL (rZ x w1 w2) = rL (F_r_ro x w1 w2).2 := by unfold rL; rw [z71, z704]
      have lw : ((wS (F_r_ro x w1 w2).2 w2).length : Int) = (F_r_ro x w1 w2).2.1 w2 1 := by rw [wS_len]; omega
      have pb := F_r_putRestBack_x hw2 h60 z4 (by rw [z704]; exact r0) (by rw [lw, z704]; exact ur)
      rw [er] at pb
      have fp := F_r_putRestBack_fr (rZ x w1 w2) w2
      have rz : r03 ((F_r_putRestBack (rZ x w1 w2) w2).2.2 (w2 + 1)) := F_r_putRestBack_s_r hw2 70 (rZ x w1 w2) ((rZ x w1 w2).1 70 4 - 1) (by rw [z71]; exact r71) (by rw [zw]; exact rw2)
      have okS : okL (nL x) (wS (F_r_ro x w1 w2).2 w2 ++ rL (F_r_ro x w1 w2).2) := okL_app.mpr ⟨ok1, ok2⟩
      have lS9 : (wS (F_r_ro x w1 w2).2 w2 ++ rL (F_r_ro x w1 w2).2).length ≤ 60 := by rw [List.length_append, wS_len, rL_len]; omega
      have sme : sM x (F_r_putRestBack (rZ x w1 w2) w2).2 := sM_tr z1.1 (sM_of fp (fun p hp => by rw [List.mem_singleton] at hp; rw [hp]; exact sMs_w hw2) (fun a ha => by rw [List.mem_singleton] at ha; rw [ha]; exact sMa_w hw2))
      have ge : gR0 x (F_r_putRestBack (rZ x w1 w2) w2).2 := gR0_fr z1 fp sme (by intro h9; simp at h9) (fun q hq h9 => by simp at hq h9; omega)
      have ke : keI (F_r_putRestBack (rZ x w1 w2) w2).2 := keI_fr fp (by intro h9; simp at h9) (by intro h9; simp at h9) (by intro h9; simp at h9; omega) z2
      have gr := F_g_run_rest mx hw2 (by omega) ge pb.2 rz okS lS9
      have kr := keI_run (w1 := w2) (by omega) (knR_wl2 ge.2.2.2) ke
      have rr := F_g_run_r mx hw2 l2 ge pb.2 rz okS lS9
      have g1' := (F_g_run_x mx hw2 (by omega) ge pb.2 rz okS lS9).1
      have fg := F_g_run_fr (F_r_putRestBack (rZ x w1 w2) w2).2 w2
      unfold F_r_go
      rw [pb.1, if_neg (by decide), g1', if_neg (by decide)]
      refine ⟨?_, ?_, rr, fun _ => ⟨gr, kr⟩⟩
      · unfold p72
        show (F_g_run (F_r_putRestBack (rZ x w1 w2) w2).2 w2).2.2 72 0 = 0 ∧ _
        have e : (F_g_run (F_r_putRestBack (rZ x w1 w2) w2).2 w2).2.2 72 = (F_r_ro x w1 w2).2.2 72 := by rw [fg.2 72 (by simp; omega), fp.2 72 (by simp; omega), z72]
        rw [e]
        exact p2
      · show r03 ((F_g_run (F_r_putRestBack (rZ x w1 w2) w2).2 w2).2.2 71)
        have e : (F_g_run (F_r_putRestBack (rZ x w1 w2) w2).2 w2).2.2 71 = (F_r_ro x w1 w2).2.2 71 := by rw [fg.2 71 (by simp; omega), fp.2 71 (by simp; omega), z71]
        rw [e]
        exact r71
    · rw [if_neg c]
      refine ⟨p2, r71, rw2, fun h5 => ?_⟩
      have e : rZ x w1 w2 = (F_r_ro x w1 w2).2 := if_neg h5
      rw [e] at z1 z2
      exact ⟨z1, z2⟩
  obtain ⟨k1, k2, k3, k4⟩ := key
  obtain ⟨e1, V, v1, v2, v3, v4⟩ := rx
  exact ⟨⟨mcX_sM smz mx, stV_M smz sv, k1, k2, fun h9 => ⟨gR0_mv smz (k4 h9).1, (k4 h9).2⟩⟩, k3, e1, V, v1, v2, lenV V v3, v3, v4⟩
/-- the room that run may still take falls -/
theorem kLe_g_run {y : KS} {w : Nat} (hw : kW w = true) (l : w < 87) (h5 : ¬ y.1 70 5 = 0) : kLe y (F_g_run y w).2 := by
  have f := F_g_run_fr y w
  have e5 : (F_g_run y w).2.1 70 5 = y.1 70 5 := f.1 70 5 (by intro h9; simp at h9)
  have mo : 262144 ≤ y.1 101 9 → 262144 ≤ (F_g_run y w).2.1 101 9 := fun h => by
    have b9 : (ruB y w).1 101 9 = y.1 101 9 := ruB_9 hw l y
    exact (F_g_run_s_w w runF).1 (ruB y w) 0 0 (by rw [b9]; exact h)
  unfold kLe kPo kPs
  rw [e5, if_neg h5, if_neg h5, if_neg h5, if_neg h5]
  exact ⟨kCw_mono mo, kSw_mono mo⟩
