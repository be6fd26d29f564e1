-- deps: B1.a
/-! what was seen stays the same where neither side touches it -/
def sSs (p : Nat × Nat) : Prop := p ∉ [(0, 15), (0, 16), (56, 1), (56, 2), (58, 6), (64, 7), (64, 9)] ∧ p.1 ≠ 1
def sAs (a : Nat) : Prop := a ∉ [2, 3, 59, 60, 61, 62, 63, 65, 66, 69]
theorem snR_k {S : List (Nat × Nat)} {A : List Nat} {X X' : KS} {Y : MS} (f : gfr S A X X') (hS : ∀ p ∈ S, sSs p) (hA : ∀ a ∈ A, sAs a) (h57 : X.1 0 15 ≠ 0 → X.1 56 1 ≤ 10000 → ldn (X.2 57) (X.1 56 1) → ldn (X'.2 57) (X.1 56 1) ∧ ∀ w : Int, 0 ≤ w → w < X.1 56 1 → rp (X'.2 57) w = rp (X.2 57) w) (ok : X.1 0 16 = 1 → rOK X → rOK X') (h : snR X Y) : snR X' Y := by
  have cS : ∀ c k : Nat, c < 87 → (c, k) ∈ [(0, 15), (0, 16), (56, 1), (56, 2), (58, 6), (64, 7), (64, 9)] → X'.1 c k = X.1 c k := fun c k h1 h2 => f.1 c k h1 (fun h9 => (hS _ h9).1 h2)
  have cA : ∀ a : Nat, a < 87 → a ∈ [2, 3, 59, 60, 61, 62, 63, 65, 66, 69] → X'.2 a = X.2 a := fun a h1 h2 => f.2 a h1 (fun h9 => hA _ h9 h2)
  have sm : sM X X' := gm_M f (fun p hp => ⟨(hS p hp).2, fun e => (hS p hp).1 (by rw [e]; decide), fun e => (hS p hp).1 (by rw [e]; decide)⟩) (fun a ha h9 => hA a ha (by simp only [List.mem_cons, List.not_mem_nil, or_false] at h9 ⊢; omega))
  have e15 := cS 0 15 (by decide) (by decide)
  have e16 := cS 0 16 (by decide) (by decide)
  rcases h with ⟨h1, h2⟩ | ⟨m, ⟨m1, m2, m3⟩, ⟨s1, s2, s3⟩, ⟨t1, t2, t3, t4⟩, ⟨r1, r2, r3⟩, pv⟩
  · exact Or.inl ⟨by rw [e15]; exact h1, h2⟩
  · have B9 : gS (Y.1 0) (m + 1) ≤ 10000 := by
      obtain ⟨m', a1, a2, a3, a4, a5, _⟩ := s1
      have : m' = m := by omega
      rw [this] at a4
      rw [← a4]
      exact a5
    obtain ⟨L1, L2⟩ := h57 (by omega) (by rw [t1]; exact B9) (by rw [t1]; exact t2)
    rw [t1] at L1 L2
    refine Or.inr ⟨m, ⟨m1, by rw [e15]; exact m2, m3⟩, ⟨s1, s2, mcX_sM sm s3⟩, ⟨by rw [cS 56 1 (by decide) (by decide)]; exact t1, L1, fun w w0 w1 => (L2 w w0 w1).trans (t3 w w0 w1), by rw [cS 56 2 (by decide) (by decide)]; exact t4⟩, ⟨by rw [cS 58 6 (by decide) (by decide)]; exact r1, by rw [sM_nR sm]; exact r2, by rw [sM_nR sm, sM_lS sm, sM_rS sm]; exact r3⟩, ?_⟩
    rcases pv with ⟨p1, p2⟩ | ⟨⟨p1, p2⟩, p3, p4, p5, p6, p7, p8⟩
    · exact Or.inl ⟨by rw [e16]; exact p1, p2⟩
    · refine Or.inr ⟨⟨by rw [e16]; exact p1, p2⟩, p3, ok p1 p4, stE_cg (sM_sy sm).2.2.1 (by rw [sm.1.1]) (sM_sy sm).2.2.2.2 p5, fun k hk => ?_, ?_, p8⟩
      · rw [cA 69 (by decide) (by decide)]; exact p6 k hk
      · rw [cS 64 9 (by decide) (by decide)]; exact p7
/-- the reference's cells that what was seen does not ask for -/
def sMk (k : Nat) : Prop := k ∉ [0, 3, 6, 7, 12, 17, 24, 27]
def sMr (k : Nat) : Prop := k ∉ [4, 5, 8, 13, 14, 15, 16, 19, 21, 23, 25, 28]
theorem snR_m {S A : List Nat} {X : KS} {Y Y' : MS} (f : same S A Y Y') (hS : ∀ k ∈ S, sMk k) (hA : ∀ k ∈ A, sMr k) (j1 : jOK Y → jOK Y') (j2 : jOK Y → ∀ v : Int, 0 ≤ v → v < 10001 → rp (Y'.2 9) v = rp (Y.2 9) v) (j3 : hdR Y → hdR Y') (h : snR X Y) : snR X Y' := by
  have cS : ∀ k : Nat, k ∈ [0, 3, 6, 7, 12, 17, 24, 27] → Y'.1 k = Y.1 k := fun k h2 => f.1 k (fun h9 => hS _ h9 h2)
  have cA : ∀ a : Nat, a ∈ [4, 5, 8, 13, 14, 15, 16, 19, 21, 23, 25, 28] → Y'.2 a = Y.2 a := fun a h2 => f.2 a (fun h9 => hA _ h9 h2)
  have e0 := cS 0 (by decide)
  have e6 := cS 6 (by decide)
  have e12 := cS 12 (by decide)
  have e24 := cS 24 (by decide)
  have e27 := cS 27 (by decide)
  have eL : lM Y' = lM Y := by funext r; unfold lM; rw [cA 13 (by decide), cA 14 (by decide)]
  have eR : rM Y' = rM Y := by funext r; unfold rM; rw [cA 15 (by decide), cA 16 (by decide)]
  have en : ∀ a c : Int, (F_m_next Y' a c).1 = (F_m_next Y a c).1 := fun a c => by
    unfold F_m_next
    rw [cA 21 (by decide), cA 19 (by decide), cA 25 (by decide), cA 23 (by decide)]
    split <;> rfl
  have ew : ∀ (j : Nat) (g : Int), wN Y' j g = wN Y j g := wN_e en e0
  rcases h with ⟨h1, h2⟩ | ⟨m, ⟨m1, m2, m3⟩, ⟨s1, s2, s3⟩, ⟨t1, t2, t3, t4⟩, ⟨r1, r2, r3⟩, pv⟩
  · exact Or.inl ⟨h1, by rw [e6]; exact h2⟩
  · have S1 : snH Y' := by
      obtain ⟨m', a1, a2, a3, a4, a5, a6, a7, a8, a9⟩ := s1
      exact ⟨m', by rw [e6]; exact a1, a2, a3, by rw [cS 7 (by decide), e0]; exact a4, by rw [cS 7 (by decide)]; exact a5, by rw [e0, cA 8 (by decide)]; exact a6, j1 a7, by unfold fR; rw [cA 8 (by decide)]; exact a8, j3 a9⟩
    have B9 : gS (Y.1 0) (m + 1) ≤ 10000 ∧ jOK Y := by
      obtain ⟨m', a1, a2, a3, a4, a5, _, a7, _⟩ := s1
      have : m' = m := by omega
      rw [this] at a4
      rw [← a4]
      exact ⟨a5, a7⟩
    have MZ : mzH Y' := ⟨plX_g e0 e12 (cS 17 (by decide)) e24 (cA 13 (by decide)) (cA 14 (by decide)) (cA 19 (by decide)) (cA 21 (by decide)) (cA 23 (by decide)) (cA 25 (by decide)) s2.1, rlR_g e0 e12 (cA 13 (by decide)) (cA 14 (by decide)) (cA 15 (by decide)) (cA 16 (by decide)) s2.2.1, by unfold rtR; rw [cA 16 (by decide)]; exact s2.2.2⟩
    refine Or.inr ⟨m, ⟨m1, m2, by rw [e6]; exact m3⟩, ⟨S1, MZ, s3⟩, ⟨by rw [e0]; exact t1, by rw [e0]; exact t2, fun w w0 w1 => ?_, ?_⟩, ⟨by rw [e12]; exact r1, by rw [e12]; exact r2, by rw [eL, eR]; exact r3⟩, ?_⟩
    · rw [e0] at w1
      rw [j2 B9.2 w w0 (by omega)]
      exact t3 w w0 w1
    · rw [t4, e0]
      exact cnF_e (fun j hj => (j2 B9.2 _ (by omega) (by omega)).symm)
    · rcases pv with ⟨p1, p2⟩ | ⟨⟨p1, p2⟩, p3, p4, ⟨p5, p5'⟩, p6, p7, p8⟩
      · exact Or.inl ⟨p1, by rw [e27]; exact p2⟩
      · refine Or.inr ⟨⟨p1, by rw [e27]; exact p2⟩, (cfl_g eL eR e12 (cS 3 (by decide)) (cA 4 (by decide)) (cA 5 (by decide))).mpr p3, p4, ⟨by rw [e0, e24]; exact p5, ?_⟩, ?_, ?_, ?_⟩
        · rw [e0, e24]
          intro g l a b c d
          rw [en]
          exact p5' g l a b c d
        · intro k hk
          rw [ew]
          exact p6 k hk
        · unfold enQ
          rw [e24, ew]
          exact p7
        · intro j g hj hg
          rw [cA 28 (by decide), ew]
          exact p8 j g hj (by rw [← e24]; exact hg)
