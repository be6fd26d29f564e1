-- deps: B2.g
/-! what see leaves of the class's side -/
theorem KB_k2 {S : List (Nat × Nat)} {A : List Nat} {X Z : KS} (f : ksame S A X Z) (hS : ∀ p ∈ S, p ≠ (70, 5) ∧ p.1 ≠ 101) (hA : ∀ a ∈ A, a ∉ [71, 72, 89, 91, 93, 94, 95, 96, 97, 98, 99, 100, 102, 103, 104, 105]) (sv : stV Z) (h : KB X) : KB Z := by
  have cA : ∀ a : Nat, a ∈ [71, 72, 89, 91, 93, 94, 95, 96, 97, 98, 99, 100, 102, 103, 104, 105] → Z.2 a = X.2 a := fun a h2 => f.2 a (fun h9 => hA _ h9 h2)
  have nS : ∀ k, (101, k) ∉ S := fun k h9 => (hS _ h9).2 rfl
  have nA : ∀ a : Nat, a ∈ [71, 72, 89, 91, 93, 94, 95, 96, 97, 98, 99, 100, 102, 103, 104, 105] → a ∉ A := fun a h2 h9 => hA _ h9 h2
  obtain ⟨h1, h2, h3, h4⟩ := h
  refine ⟨sv, ?_, ?_, fun h9 => ?_⟩
  · unfold p72
    rw [cA 72 (by decide)]
    exact h2
  · rw [cA 71 (by decide)]; exact h3
  · rw [f.1 70 5 (fun h8 => (hS _ h8).1 rfl)] at h9
    obtain ⟨⟨a, b⟩, c⟩ := h4 h9
    refine ⟨⟨grW_of f (fun a ha hb => hA a ha (by simp only [List.mem_cons, List.not_mem_nil, or_false] at hb ⊢; omega)) a, ?_⟩, keI_fr f (nS 4) (nS 9) (nA 102 (by decide)) c⟩
    rw [kWl_fr f (nS 9)]
    exact knR_of f (nS 9) (nA 102 (by decide)) (nA 103 (by decide)) (nA 104 (by decide)) (nA 105 (by decide)) b
theorem kWs_69 (v : Int) : kWs v ≠ 69 := by unfold kWs; split <;> decide
theorem tly_1 : ∀ (n : Nat) (y : KS) (i : Int), 0 ≤ i → dz y → maR y → (1 ≤ y.1 1 2 ∧ y.1 1 2 ≤ 4) → dz (F_a_tally_s n 1 y i).2 ∧ ∀ j : Nat, 32 ≤ j → (F_a_tally_s n 1 y i).2.2 69 j = y.2 69 j := by
  intro n
  induction n with
  | zero => intro y i _ d _ _; exact ⟨d, fun _ _ => rfl⟩
  | succ n ih =>
    intro y i i0 d ma l2
    rw [F_a_tally_e1]
    by_cases c : (31 : Int) < i
    · rw [if_pos c]; exact ⟨d, fun _ _ => rfl⟩
    · rw [if_neg c]
      generalize hv : y.2 (kWs (y.1 64 4)) ((0 : Int)).toNat = v
      have d1 : dz (kA y 69 i.toNat v) := d
      have m1 : maR (kA y 69 i.toNat v) := ma
      have L := F_a_lengthen_x d1 m1 l2
      have fl := F_a_lengthen_fr (kA y 69 i.toNat v)
      obtain ⟨H1, H2⟩ := ih (F_a_lengthen (kA y 69 i.toNat v)).2 (i + 1) (by omega) (by unfold dz; rw [L.1, L.2.1]; exact fun h9 => d h9.symm) (maR_of fl (by decide) (by decide) (by decide) m1) (by rw [fl.1 1 2 (by decide)]; exact l2)
      refine ⟨H1, fun j hj => ?_⟩
      rw [H2 j hj, fl.2 69 (by decide), kA_s, iU_n (by omega)]
theorem tly_0 : ∀ (n : Nat) (y : KS) (i : Int), dz y → maR y → (1 ≤ y.1 1 2 ∧ y.1 1 2 ≤ 4) → dz (F_a_tally_s n 0 y i).2 ∧ ∀ j : Nat, 32 ≤ j → (F_a_tally_s n 0 y i).2.2 69 j = y.2 69 j := by
  intro n
  induction n with
  | zero => intro y i d _ _; exact ⟨d, fun _ _ => rfl⟩
  | succ n ih =>
    intro y i d ma l2
    rw [F_a_tally_e0]
    by_cases c : y.1 64 7 ≤ i
    · rw [if_pos c]; exact tly_1 n y 0 (by decide) d ma l2
    · rw [if_neg c]
      have f : ksame [] [67, 68] y (kA y (kWs (y.1 64 4)) i.toNat ((1 : Int))) := km_a (kWs_in (by decide) (by decide)) (km_rf _ _ _)
      obtain ⟨H1, H2⟩ := ih (kA y (kWs (y.1 64 4)) i.toNat ((1 : Int))) (i + 1) d (maR_of f (by decide) (by decide) (by decide) ma) l2
      refine ⟨H1, fun j hj => ?_⟩
      rw [H2 j hj, f.2 69 (by decide)]
theorem tly_x {X : KS} (d : dz X) (ma : maR X) (l2 : 1 ≤ X.1 1 2 ∧ X.1 1 2 ≤ 4) : dz (F_a_tally X).2 ∧ ∀ j : Nat, 32 ≤ j → (F_a_tally X).2.2 69 j = X.2 69 j := by
  have fe := F_a_isEndless_fr X
  have f2 : ksame [(64, 9)] [67, 68] X (kS (F_a_isEndless X).2 64 9 (F_a_isEndless X).1) := km_s (by decide) (km_mono nil_p (by decide) fe)
  obtain ⟨H1, H2⟩ := tly_0 500 (kS (F_a_isEndless X).2 64 9 (F_a_isEndless X).1) 0 (by unfold dz; rw [f2.1 64 4 (by decide), f2.1 64 5 (by decide)]; exact d) (maR_of f2 (by decide) (by decide) (by decide) ma) (by rw [f2.1 1 2 (by decide)]; exact l2)
  exact ⟨H1, fun j hj => (H2 j hj).trans (by rw [f2.2 69 (by decide)])⟩
/-- what see leaves, the counts aside where THE MACHINE stands -/
def siQ (x z : KS) : Prop := KA z ∧ KB z ∧ KD z ∧ (mdR z ∧ waR z ∧ dz z) ∧ (∀ j : Nat, 32 ≤ j → 0 ≤ z.2 69 j ∧ z.2 69 j ≤ 4611686018427387904) ∧ (z.1 0 16 = 0 ∨ z.1 0 16 = 1) ∧ (z.1 0 16 = 1 → rOK z) ∧ (z.1 0 16 = 0 → KJ z) ∧ (z.1 0 16 = 1 → ¬ z.1 0 15 = 0)
theorem see_inv {x : KS} (sp : seP x) (kb : KB x) (kd : KD x) (kj : KJ x) {m : Nat} (m1 : 1 ≤ m) (m2 : (m : Int) ≤ x.1 1 3) : siQ x (F_t_see x (m : Int)).2 := by
  obtain ⟨z, jz, uz, e⟩ := see_z sp m1 m2
  rw [e]
  have SG := se_G sp (m := (m : Int)) (by omega) m2 jz
  unfold seT
  generalize F_u_gather (F_j_settle z).2 (m : Int) = Q at SG
  by_cases c1 : Q.1 = 0
  · rw [if_pos c1]
    have f := SG.1
    have g := SG.2.1
    have K : KJ Q.2 := KJ_g (gm_of f) (by decide) (by decide) kj
    have e16 := SG.2.2.2.2.2
    exact ⟨⟨g.1, g.2.1, g.2.2.1, maR_of f (by decide) (by decide) (by decide) sp.2.2.2.1⟩, KB_k2 f (by decide) (by decide) g.2.2.2.1 kb, KD_g (gm_of f) (by decide) kd, ⟨K.1, K.2.1, K.2.2.1⟩, fun j _ => K.2.2.2.1 j, Or.inl e16, fun h9 => by rw [e16] at h9; exact absurd h9 (by decide), fun _ => K, fun h9 => by rw [e16] at h9; exact absurd h9 (by decide)⟩
  · rw [if_neg c1]
    have SB := se_B sp SG
    generalize F_a_build Q.2 = QB at SB
    have SF := se_F sp SB.1 SB.2.1 SB.2.2.1
    have ff := F_r_forget_fr QB.2
    generalize F_r_forget QB.2 = QF at SF ff
    have SH := se_H sp SF.2.1
    have HH := holds_x SF.1 SH.1.1 SH.1.2 SH.2.1 SH.2.2.1 SH.2.2.2.1
    generalize F_p_holds QF.2 (QF.2.1 0 14) = QH at HH
    have gh := HH.1.2.1
    have okH := HH.1.1
    have mH := okH.1
    have kjF : KJ QF.2 := KJ_g (gm_of SF.2.1) (by unfold seSF; decide) (by unfold seAF; decide) kj
    have kjH : KJ QH.2 := KJ_g gh (by decide) (by decide) kjF
    have e78 : QH.2.2 78 = x.2 78 := (gh.2 78 (by decide) (by decide)).trans (SF.2.1.2 78 (by unfold seAF; decide))
    have kdH : KD QH.2 := ⟨HH.1.2.2.1, HH.1.2.2.2, by rw [e78]; exact kd.2.2⟩
    have jH : jnR QH.2 := by
      have j0 := SB.2.2.2.2.2
      unfold jnR at j0 ⊢
      rw [gh.1 56 1 (by decide) (by decide), gh.2 57 (by decide) (by decide), ff.1 56 1 (by decide), ff.2 57 (by decide)]
      exact j0
    have kaH : KA QH.2 := ⟨mH.1, jH, mH.2.1, mH.2.2.2.2.1⟩
    by_cases c2 : QH.1 = 0
    · rw [if_pos c2]
      have fw : ksame [(0, 15), (0, 16)] [] QH.2 (kS (kS QH.2 0 16 QH.1) 0 15 (m : Int)) := km_s (by decide) (km_s (by decide) (km_rf _ _ _))
      have K : KJ (kS (kS QH.2 0 16 QH.1) 0 15 (m : Int)) := KJ_g (gm_of fw) (by decide) nil_a kjH
      have e16 : (kS (kS QH.2 0 16 QH.1) 0 15 (m : Int)).1 0 16 = 0 := by rw [kS_k (by decide), kS_s]; exact c2
      exact ⟨KA_g (gm_of fw) (by decide) nil_a kaH, KB_k fw (by decide) nil_a (KB_ok okH), KD_g (gm_of fw) nil_a kdH, ⟨K.1, K.2.1, K.2.2.1⟩, fun j _ => K.2.2.2.1 j, Or.inl e16, fun h9 => by rw [e16] at h9; exact absurd h9 (by decide), fun _ => K, fun h9 => by rw [e16] at h9; exact absurd h9 (by decide)⟩
    · rw [if_neg c2]
      have h1 : QH.1 = 1 := by
        rcases HH.2 with h9 | h9
        · exact h9.1
        · exact absurd h9.1 c2
      have f1 : ksame [(0, 16)] [] QH.2 (kS QH.2 0 16 QH.1) := km_s (by decide) (km_rf _ _ _)
      have ft := F_a_tally_fr (kS QH.2 0 16 QH.1)
      have T := tly_x (X := kS QH.2 0 16 QH.1) (by unfold dz; rw [f1.1 64 4 (by decide), f1.1 64 5 (by decide)]; exact kjH.2.2.1) (maR_of f1 (by decide) (by decide) (by decide) mH.2.2.2.2.1) (by rw [f1.1 1 2 (by decide)]; exact mH.1.1.1)
      have fw : ksame [(0, 15), (0, 16), (64, 4), (64, 5), (64, 9)] [67, 68, 69] QH.2 (kS (F_a_tally (kS QH.2 0 16 QH.1)).2 0 15 (m : Int)) := km_s (by decide) (km_tr (km_mono (by decide) nil_a f1) (km_mono (by decide) (by decide) ft))
      have e16 : (kS (F_a_tally (kS QH.2 0 16 QH.1)).2 0 15 (m : Int)).1 0 16 = 1 := by rw [kS_k (by decide), ft.1 0 16 (by decide), kS_s]; exact h1
      have okw := rOK_fr fw (by unfold rSs sMs; decide) (by unfold rAs sMa; decide) okH
      refine ⟨KA_g (gm_of fw) (by decide) (by decide) kaH, KB_ok okw, KD_g (gm_of fw) (by decide) kdH, ⟨?_, ?_, ?_⟩, fun j hj => ?_, Or.inr e16, fun _ => okw, fun h9 => by rw [e16] at h9; exact absurd h9 (by decide), fun _ h9 => by rw [kS_s] at h9; omega⟩
      · unfold mdR
        rw [fw.1 84 2 (by decide), fw.2 85 (by decide), fw.2 86 (by decide)]
        exact kjH.1
      · unfold waR
        rw [fw.1 82 1 (by decide), fw.2 83 (by decide), fw.2 81 (by decide)]
        exact kjH.2.1
      · unfold dz
        rw [kS_c (by decide)]
        exact T.1
      · show 0 ≤ (F_a_tally (kS QH.2 0 16 QH.1)).2.2 69 j ∧ (F_a_tally (kS QH.2 0 16 QH.1)).2.2 69 j ≤ 4611686018427387904
        rw [T.2 j hj]
        exact kjH.2.2.2.1 j
