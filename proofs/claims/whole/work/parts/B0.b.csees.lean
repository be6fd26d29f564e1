-- deps: B0.a
/-! the class: what see answers and leaves -/
theorem lS_cg {x y : KS} (a0 : y.2 60 = x.2 60) (a1 : y.2 61 = x.2 61) (a2 : y.2 62 = x.2 62) (a3 : y.2 63 = x.2 63) : lS y = lS x ∧ rS y = rS x := by
  have sg : ∀ r b i : Int, (F_u_signAt y r b i).1 = (F_u_signAt x r b i).1 := fun r b i => by
    unfold F_u_signAt
    rw [a0, a1, a2, a3]
    repeat' split
    all_goals rfl
  refine ⟨funext fun r => ?_, funext fun r => ?_⟩
  · unfold lS
    rw [a0]
    exact List.map_congr_left fun i _ => sg _ _ _
  · unfold rS
    rw [a1]
    exact List.map_congr_left fun i _ => sg _ _ _
theorem ruK_e {n m : Nat} (hn : 1 ≤ n) {f g : Int → Int} (e : ∀ w : Int, 0 ≤ w → w < gS (n : Int) (m + 1) → f w = g w) {c : Nat} {L R : Nat → List Int} (h : ruK n m f c L R) : ruK n m g c L R := by
  have e' : ∀ w : Int, 0 ≤ w → w < gS (n : Int) (m + 1) → g w = f w := fun w a b => (e w a b).symm
  obtain ⟨h1, h2, h3⟩ := h
  refine ⟨fun r hr => ?_, h2, fun w hw => h3 w (rulN_e hn e' hw)⟩
  obtain ⟨⟨a, b⟩, c, d⟩ := h1 r hr
  have wb := rulN_b hn b
  exact ⟨⟨a, rulN_e hn e b⟩, c, d.trans (e _ (by omega) wb.2)⟩
def ru41 (n m : Nat) (f : Int → Int) : Prop := ∃ h : Nat → Int, (∀ i j : Nat, i < j → j < 41 → h i < h j) ∧ ∀ i : Nat, i < 41 → rulN n m f (h i)
theorem ru41_e {n m : Nat} (hn : 1 ≤ n) {f g : Int → Int} (e : ∀ w : Int, 0 ≤ w → w < gS (n : Int) (m + 1) → f w = g w) (h : ru41 n m f) : ru41 n m g := by
  obtain ⟨k, k1, k2⟩ := h
  exact ⟨k, k1, fun i hi => rulN_e hn e (k2 i hi)⟩
/-- proved or not, and what is counted where it is -/
def csP (n0 : Int) (z : KS) : Prop := (z.1 0 16 = 0 ∧ ¬ cK z n0) ∨ (z.1 0 16 = 1 ∧ cK z n0 ∧ rOK z ∧ ∀ Y, stE z Y → cnE z Y ∧ enQ Y (Y.1 24).toNat (z.1 64 9))
def csR (x : KS) (m : Nat) (g : Nat → Int) (z : KS) : Prop := z.1 0 15 = (m : Int) ∧ ruK (nL x) m (rp g) (nR z) (lS z) (rS z) ∧ (0 ≤ z.1 58 6 ∧ z.1 58 6 ≤ 40) ∧ z.1 56 1 = gS ((nL x : Nat) : Int) (m + 1) ∧ ldn (z.2 57) (gS ((nL x : Nat) : Int) (m + 1)) ∧ (∀ w : Int, 0 ≤ w → w < gS ((nL x : Nat) : Int) (m + 1) → rp (z.2 57) w = rp g w) ∧ z.1 56 2 = cnF (rp g) (gS ((nL x : Nat) : Int) (m + 1)).toNat ∧ mcX z ∧ csP (x.1 0 14) z
def csQ (x : KS) (m : Nat) (q : Int × KS) : Prop := ∃ g : Nat → Int, ufR g (gS ((nL x : Nat) : Int) (m + 1)) (eqG (kP x m)) ∧ ((q.1 = -4 ∧ q.2.1 0 15 = 0 ∧ q.2.1 0 16 = 0 ∧ ru41 (nL x) m (rp g)) ∨ (q.1 = q.2.1 58 6 ∧ csR x m g q.2))
theorem stE_cg {x y : KS} {Y : MS} (e7 : y.1 64 7 = x.1 64 7) (e2 : y.1 1 2 = x.1 1 2) (e6 : y.2 66 = x.2 66) (h : stE y Y) : stE x Y := by
  have st : ∀ g l : Int, (F_a_step y g l).1 = (F_a_step x g l).1 := fun g l => by rw [F_a_step_cg e2 e7 e6]
  obtain ⟨⟨h1, h2, h3⟩, h4⟩ := h
  refine ⟨⟨by rw [← e7]; exact h1, by rw [← e2]; exact h2, h3⟩, fun g l a b c d => ?_⟩
  have := h4 g l a b c d
  rw [st] at this
  exact this
theorem cK_cg {x y : KS} (a0 : y.2 60 = x.2 60) (a1 : y.2 61 = x.2 61) (a2 : y.2 62 = x.2 62) (a3 : y.2 63 = x.2 63) (a6 : y.1 58 6 = x.1 58 6) {n0 : Int} (n8 : n0 ≤ 8) (hw : ∀ j : Nat, j < 16 → wS y (24 + 2 * j) = wS x (24 + 2 * j)) : cK y n0 ↔ cK x n0 := by
  have e := lS_cg a0 a1 a2 a3
  have en : nR y = nR x := by unfold nR; rw [a6]
  unfold cK cfK
  rw [e.1, e.2, en]
  constructor
  · intro h
    refine ⟨h.1, fun l hl => ?_⟩
    have := h.2 l hl
    unfold lwA1 lwB1 at this ⊢
    rw [hw _ (by omega), hw _ (by omega)] at this
    exact this
  · intro h
    refine ⟨h.1, fun l hl => ?_⟩
    have := h.2 l hl
    unfold lwA1 lwB1 at this ⊢
    rw [hw _ (by omega), hw _ (by omega)]
    exact this
theorem wS_fr24 {S : List (Nat × Nat)} {A : List Nat} {x y : KS} (f : gfr S A x y) (hS : ∀ p ∈ S, p.1 < 24 ∨ 55 < p.1) (hA : ∀ a ∈ A, a < 24 ∨ 55 < a) {j : Nat} (hj : j < 16) : wS y (24 + 2 * j) = wS x (24 + 2 * j) := by
  unfold wS
  rw [f.1 (24 + 2 * j) 1 (by omega) (fun h9 => by have := hS _ h9; simp only at this; omega), f.2 (24 + 2 * j + 1) (by omega) (fun h9 => by have := hA _ h9; omega)]
theorem csee_x {x : KS} (sp : seP x) (d : dz x) {m : Nat} (m1 : 1 ≤ m) (m2 : (m : Int) ≤ x.1 1 3) : csQ x m (F_t_see x (m : Int)) := by
  obtain ⟨z, jz, uz, e⟩ := see_z sp m1 m2
  refine ⟨z.2 57, uz, ?_⟩
  rw [e]
  have sx := sp.1
  have nb := nL_b sx
  have cn := se_cnt sp (m := (m : Int)) (by omega) m2
  have eg : x.2 3 ((m : Int) + 1).toNat = gS ((nL x : Nat) : Int) (m + 1) := by
    rw [show ((m : Int) + 1).toNat = m + 1 by omega]
    exact scX_gS sx _ (by omega)
  have B9 : gS ((nL x : Nat) : Int) (m + 1) ≤ 10000 := by rw [← eg]; exact cn.2.2
  have B0 : 0 ≤ gS ((nL x : Nat) : Int) (m + 1) := by rw [← eg]; exact cn.2.1
  have ez : z.1 56 1 = gS ((nL x : Nat) : Int) (m + 1) := by rw [jz.2.2.1]; exact eg
  obtain ⟨s1, s2, s3⟩ := settle_x ez B0 B9 uz.1
  obtain ⟨a1, a2, a3, a4, a5, a6, a7⟩ := se_set sp (m := (m : Int)) (by omega) m2 jz
  have nS : nL (F_j_settle z).2 = nL x := by unfold nL; rw [a7.1 1 2 (by decide)]
  have eS : (F_j_settle z).2.1 56 1 = gS ((nL (F_j_settle z).2 : Nat) : Int) (m + 1) := by rw [nS, (F_j_settle_fr z).1 56 1 (by decide)]; exact ez
  have G := gather_x a1 m1 a5 eS (by rw [eS, nS]; exact B9) (by rw [eS, nS]; exact s1)
  have SG := se_G sp (m := (m : Int)) (by omega) m2 jz
  have fg := F_u_gather_fr (F_j_settle z).2 (m : Int)
  unfold seT
  unfold gxR at G
  generalize F_u_gather (F_j_settle z).2 (m : Int) = Q at G SG fg
  by_cases c1 : Q.1 = 0
  · rw [if_pos c1]
    refine Or.inl ⟨rfl, SG.2.2.2.2.1, SG.2.2.2.2.2, ?_⟩
    rcases G with ⟨h9, _⟩ | ⟨_, h9⟩
    · rw [h9] at c1; exact absurd c1 (by decide)
    · rw [nS] at h9
      exact ru41_e nb.1 s2 h9
  · rw [if_neg c1]
    have gI := G.resolve_right (fun h9 => c1 h9.1)
    have K := gx_ru a1 a5 gI.2 SG.2.2.1 (by
      rw [nS]
      intro w w0 w1
      rw [s2 w w0 w1]
      have := rp_ok uz.1 w.toNat w w0 w1 (Nat.le_refl _)
      omega)
    rw [nS] at K
    have K := ruK_e nb.1 s2 K
    obtain ⟨gI1, gI2, _⟩ := gI.2
    rw [nS] at gI1
    have SB := se_B sp SG
    have fb := F_a_build_fr Q.2
    generalize F_a_build Q.2 = QB at SB fb
    have SF := se_F sp SB.1 SB.2.1 SB.2.2.1
    have ff := F_r_forget_fr QB.2
    generalize F_r_forget QB.2 = QF at SF ff
    have SH := se_H sp SF.2.1
    have HH := holds_x SF.1 SH.1.1 SH.1.2 SH.2.1 SH.2.2.1 SH.2.2.2.1
    generalize F_p_holds QF.2 (QF.2.1 0 14) = QH at HH
    have e14 : QF.2.1 0 14 = x.1 0 14 := SF.2.1.1 0 14 (by unfold seSF; decide)
    have gh := HH.1.2.1
    have l8 := sp.2.2.2.2.2.2.2.1
    -- what stays from gather to holds
    have k58 : QH.2.1 58 6 = Q.2.1 58 6 := (gh.1 58 6 (by decide) (by decide)).trans ((ff.1 58 6 (by decide)).trans (fb.1 58 6 (by decide)))
    have k61 : QH.2.1 56 1 = Q.2.1 56 1 := (gh.1 56 1 (by decide) (by decide)).trans ((ff.1 56 1 (by decide)).trans (fb.1 56 1 (by decide)))
    have k62 : QH.2.1 56 2 = Q.2.1 56 2 := (gh.1 56 2 (by decide) (by decide)).trans ((ff.1 56 2 (by decide)).trans (fb.1 56 2 (by decide)))
    have r57 : QH.2.2 57 = Q.2.2 57 := (gh.2 57 (by decide) (by decide)).trans ((ff.2 57 (by decide)).trans (fb.2 57 (by decide)))
    have r60 : QH.2.2 60 = Q.2.2 60 := (gh.2 60 (by decide) (by decide)).trans ((ff.2 60 (by decide)).trans (fb.2 60 (by decide)))
    have r61 : QH.2.2 61 = Q.2.2 61 := (gh.2 61 (by decide) (by decide)).trans ((ff.2 61 (by decide)).trans (fb.2 61 (by decide)))
    have r62 : QH.2.2 62 = Q.2.2 62 := (gh.2 62 (by decide) (by decide)).trans ((ff.2 62 (by decide)).trans (fb.2 62 (by decide)))
    have r63 : QH.2.2 63 = Q.2.2 63 := (gh.2 63 (by decide) (by decide)).trans ((ff.2 63 (by decide)).trans (fb.2 63 (by decide)))
    have q62 : Q.2.1 56 2 = cnF (rp (z.2 57)) (gS ((nL x : Nat) : Int) (m + 1)).toNat := (fg.1 56 2 (by decide)).trans s3
    have el := lS_cg r60 r61 r62 r63
    have en : nR QH.2 = nR Q.2 := by unfold nR; rw [k58]
    have KH : ruK (nL x) m (rp (z.2 57)) (nR QH.2) (lS QH.2) (rS QH.2) := by rw [el.1, el.2, en]; exact K
    -- the state that see leaves
    have fin : ∀ w : KS, ksame [(0, 15), (0, 16), (64, 4), (64, 5), (64, 9)] [67, 68, 69] QH.2 w → w.1 0 15 = (m : Int) → csP (x.1 0 14) w → csR x m (z.2 57) w := fun w fw w15 wp => by
      have e2 := lS_cg (fw.2 60 (by decide)) (fw.2 61 (by decide)) (fw.2 62 (by decide)) (fw.2 63 (by decide))
      have e3 : nR w = nR QH.2 := by unfold nR; rw [fw.1 58 6 (by decide)]
      refine ⟨w15, by rw [e2.1, e2.2, e3]; exact KH, by rw [fw.1 58 6 (by decide), k58]; exact gI2, by rw [fw.1 56 1 (by decide), k61]; exact gI1.2.2.2.1, by rw [fw.2 57 (by decide), r57]; exact gI1.2.2.2.2.1, ?_, by rw [fw.1 56 2 (by decide), k62]; exact q62, mcX_sM (sM_of fw (by unfold sMs; decide) (by unfold sMa; decide)) HH.1.1.1, wp⟩
      intro v v0 v1
      rw [fw.2 57 (by decide), r57, gI1.2.2.2.2.2 v v0 v1]
      exact s2 v v0 v1
    have ckw : ∀ w : KS, ksame [(0, 15), (0, 16), (64, 4), (64, 5), (64, 9)] [67, 68, 69] QH.2 w → (cK w (x.1 0 14) ↔ cK QF.2 (x.1 0 14)) := fun w fw => by
      have k1 := cK_cg (x := QH.2) (y := w) (fw.2 60 (by decide)) (fw.2 61 (by decide)) (fw.2 62 (by decide)) (fw.2 63 (by decide)) (fw.1 58 6 (by decide)) l8.2 (fun j hj => wS_fr24 (gm_of fw) (by decide) (by decide) hj)
      have k2 := cK_cg (x := QF.2) (y := QH.2) (gh.2 60 (by decide) (by decide)) (gh.2 61 (by decide) (by decide)) (gh.2 62 (by decide) (by decide)) (gh.2 63 (by decide) (by decide)) (gh.1 58 6 (by decide) (by decide)) l8.2 (fun j hj => wS_fr24 gh (by decide) (by decide) hj)
      exact k1.trans k2
    have HH2 := HH.2
    rw [e14] at HH2
    by_cases c2 : QH.1 = 0
    · rw [if_pos c2]
      have fw : ksame [(0, 15), (0, 16), (64, 4), (64, 5), (64, 9)] [67, 68, 69] QH.2 (kS (kS QH.2 0 16 QH.1) 0 15 (m : Int)) := km_s (by decide) (km_s (by decide) (km_rf _ _ _))
      refine Or.inr ⟨?_, fin _ fw kS_s (Or.inl ⟨?_, ?_⟩)⟩
      · exact (fw.1 58 6 (by decide)).symm
      · rw [kS_k (by decide), kS_s]; exact c2
      · rw [ckw _ fw]
        rcases HH2 with h9 | h9
        · rw [h9.1] at c2; exact absurd c2 (by decide)
        · exact h9.2
    · rw [if_neg c2]
      have h1 : QH.1 = 1 ∧ cK QF.2 (x.1 0 14) := HH2.resolve_right (fun h9 => c2 h9.1)
      have ft := F_a_tally_fr (kS QH.2 0 16 QH.1)
      have ft2 : ksame [(0, 15), (0, 16), (64, 4), (64, 5), (64, 9)] [67, 68, 69] (kS QH.2 0 16 QH.1) (F_a_tally (kS QH.2 0 16 QH.1)).2 := km_mono (by decide) (by decide) ft
      have fw : ksame [(0, 15), (0, 16), (64, 4), (64, 5), (64, 9)] [67, 68, 69] QH.2 (kS (F_a_tally (kS QH.2 0 16 QH.1)).2 0 15 (m : Int)) := km_s (by decide) (km_tr (km_s (by decide) (km_rf _ _ _)) ft2)
      refine Or.inr ⟨?_, fin _ fw kS_s (Or.inr ⟨?_, (ckw _ fw).mpr h1.2, ?_, fun Y hY => ?_⟩)⟩
      · exact (congrFun (kS_c (by decide)) 6).symm
      · rw [kS_k (by decide), ft.1 0 16 (by decide), kS_s]; exact h1.1
      · exact rOK_fr fw (by unfold rSs sMs; decide) (by unfold rAs sMa; decide) HH.1.1
      · have maH : maR (kS QH.2 0 16 QH.1) := HH.1.1.1.2.2.2.2.1
        have dH : dz (kS QH.2 0 16 QH.1) := by
          unfold dz
          have x4 : (kS QH.2 0 16 QH.1).1 64 4 = x.1 64 4 := (kS_c (by decide) : (kS QH.2 0 16 QH.1).1 64 = QH.2.1 64) ▸ ((gh.1 64 4 (by decide) (by decide)).trans (SF.2.1.1 64 4 (by unfold seSF; decide)))
          have x5 : (kS QH.2 0 16 QH.1).1 64 5 = x.1 64 5 := (kS_c (by decide) : (kS QH.2 0 16 QH.1).1 64 = QH.2.1 64) ▸ ((gh.1 64 5 (by decide) (by decide)).trans (SF.2.1.1 64 5 (by unfold seSF; decide)))
          rw [x4, x5]
          exact d
        have hs : stE (kS QH.2 0 16 QH.1) Y := stE_cg (y := kS (F_a_tally (kS QH.2 0 16 QH.1)).2 0 15 (m : Int)) ((km_s (S := [(0, 15), (0, 16), (64, 4), (64, 5), (64, 9)]) (by decide) ft2).1 64 7 (by decide)) ((km_s (S := [(0, 15), (0, 16), (64, 4), (64, 5), (64, 9)]) (by decide) ft2).1 1 2 (by decide)) (ft2.2 66 (by decide)) hY
        have T := tally_x hs maH dH
        refine ⟨fun k hk => T.2.1 k hk, ?_⟩
        have e9 : (kS (F_a_tally (kS QH.2 0 16 QH.1)).2 0 15 (m : Int)).1 64 9 = (F_a_tally (kS QH.2 0 16 QH.1)).2.1 64 9 := by rw [kS_c (by decide)]
        rw [e9]
        exact T.2.2
