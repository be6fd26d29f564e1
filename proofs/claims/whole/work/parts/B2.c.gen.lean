-- deps: B2.b
/-! rule; and what keeps the relation -/
theorem rule_1 {X : KS} {Y : MS} (h : Rel X Y) {r b i : Int} (b01 : b = 0 ∨ b = 1) : (F_t_rule X r b i).1 = (F_m_rule Y r b i).1 := by
  have ru := h.1.1.2.2.1
  unfold F_t_rule F_m_rule
  rcases seen_v h.2.2.2.2 with ⟨a, _, c⟩ | ⟨a, c, m, hm⟩
  · rw [if_pos a, if_pos c]
  · rw [if_neg (show ¬ (F_t_isSeen X).1 = 0 by omega), if_neg c]
    obtain ⟨_, ⟨_, s2, _⟩, _, ⟨r1, r2, r3⟩, _⟩ := hm
    have pr := s2.1.1
    have pr1 := pr.1
    have ru1 := ru.1
    have hh : ((F_u_has X r).1 = 0 ∧ ¬ (0 ≤ r ∧ r ≤ Y.1 12 - 1)) ∨ ((F_u_has X r).1 = 1 ∧ (0 ≤ r ∧ r ≤ Y.1 12 - 1)) := by
      unfold F_u_has
      rw [r1]
      repeat' split
      all_goals first | exact Or.inl ⟨rfl, by omega⟩ | exact Or.inr ⟨rfl, by omega⟩
    rcases in_v Y r 0 (Y.1 12 - 1) with ⟨p, q⟩ | ⟨p, q⟩
    · rw [if_pos p, if_pos (show (F_u_has X r).1 = 0 by omega)]
    · rw [if_neg (show ¬ (F_m_in Y r 0 (Y.1 12 - 1)).1 = 0 by omega), if_neg (show ¬ (F_u_has X r).1 = 0 by omega)]
      have hr : r.toNat < nR X := by unfold nR; omega
      have er : ((r.toNat : Nat) : Int) = r := by omega
      have u0 := ru.2.2.1 r.toNat
      have u1 := ru.2.2.2.1 r.toNat
      obtain ⟨l1, l2⟩ := row_get (f := fun i : Nat => (F_u_signAt X (r.toNat : Int) 1 (i : Int)).1) (g := fun i : Nat => Y.2 14 (24 * r.toNat + i)) (r3 _ hr).1
      obtain ⟨k1, k2⟩ := row_get (f := fun i : Nat => (F_u_signAt X (r.toNat : Int) 0 (i : Int)).1) (g := fun i : Nat => Y.2 16 (24 * r.toNat + i)) (r3 _ hr).2
      have z1 := (pr.2.2.1 r.toNat (by omega)).1
      have z2 := (s2.2.1 r.toNat (by omega)).1
      rw [er] at l2 k2
      have e60 : X.2 60 r.toNat = Y.2 13 r.toNat := by omega
      have e61 : X.2 61 r.toNat = Y.2 15 r.toNat := by omega
      rcases b01 with b0 | b1
      · have sp : (F_u_spanOf X r b).1 = Y.2 15 r.toNat := by
          unfold F_u_spanOf
          rw [if_neg (by omega), if_pos (by omega), if_pos b0]
          exact e61
        rw [if_pos b0]
        rcases in_v Y i 0 (Y.2 15 r.toNat - 1) with ⟨p2, q2⟩ | ⟨p2, q2⟩
        · rw [if_pos p2]
          by_cases c1 : i < 0
          · rw [if_pos c1]
          · rw [if_neg c1, if_pos (show (F_u_spanOf X r b).1 ≤ i by omega)]
        · rw [if_neg (show ¬ (F_m_in Y i 0 (Y.2 15 r.toNat - 1)).1 = 0 by omega), if_pos b0, if_neg (show ¬ i < 0 by omega), if_neg (show ¬ (F_u_spanOf X r b).1 ≤ i by omega), b0]
          have := k2 i.toNat (by omega)
          rw [show ((i.toNat : Nat) : Int) = i by omega] at this
          show (F_u_signAt X r 0 i).1 = Y.2 16 (24 * r + i).toNat
          rw [this, show (24 * r + i).toNat = 24 * r.toNat + i.toNat by omega]
      · have sp : (F_u_spanOf X r b).1 = Y.2 13 r.toNat := by
          unfold F_u_spanOf
          rw [if_neg (by omega), if_pos (by omega), if_neg (by omega)]
          exact e60
        rw [if_neg (show ¬ b = 0 by omega)]
        rcases in_v Y i 0 (Y.2 13 r.toNat - 1) with ⟨p2, q2⟩ | ⟨p2, q2⟩
        · rw [if_pos p2]
          by_cases c1 : i < 0
          · rw [if_pos c1]
          · rw [if_neg c1, if_pos (show (F_u_spanOf X r b).1 ≤ i by omega)]
        · rw [if_neg (show ¬ (F_m_in Y i 0 (Y.2 13 r.toNat - 1)).1 = 0 by omega), if_neg (show ¬ b = 0 by omega), if_neg (show ¬ i < 0 by omega), if_neg (show ¬ (F_u_spanOf X r b).1 ≤ i by omega), b1]
          have := l2 i.toNat (by omega)
          rw [show ((i.toNat : Nat) : Int) = i by omega] at this
          show (F_u_signAt X r 1 i).1 = Y.2 14 (24 * r + i).toNat
          rw [this, show (24 * r + i).toNat = 24 * r.toNat + i.toNat by omega]
theorem seH_s {S A : List Nat} {Y Z : MS} (f : same S A Y Z) (hS : ∀ k ∈ S, k ∉ [0, 3]) (hA : ∀ k ∈ A, k ∉ [4, 5, 8, 14, 16, 28]) (j1 : jOK Z) (j3 : hdR Z) (w : rwR Z) (h : seH Y) : seH Z := by
  have cS : ∀ k : Nat, k ∈ [0, 3] → Z.1 k = Y.1 k := fun k h2 => f.1 k (fun h9 => hS _ h9 h2)
  have cA : ∀ a : Nat, a ∈ [4, 5, 8, 14, 16, 28] → Z.2 a = Y.2 a := fun a h2 => f.2 a (fun h9 => hA _ h9 h2)
  obtain ⟨h1, h2, h3, h4, h5, h6, h7, h8, h9, h10, h11⟩ := h
  refine ⟨by rw [cS 0 (by decide)]; exact h1, ?_, by unfold lzR; rw [cA 4 (by decide)]; exact h3, by unfold lwR; rw [cA 5 (by decide)]; exact h4, by unfold fR; rw [cA 8 (by decide)]; exact h5, j3, j1, by unfold lfR; rw [cA 14 (by decide)]; exact h8, by unfold rtR; rw [cA 16 (by decide)]; exact h9, w, by unfold wyR; rw [cA 28 (by decide)]; exact h11⟩
  unfold lwH sgM
  rw [cS 3 (by decide), cS 0 (by decide), cA 4 (by decide), cA 5 (by decide)]
  exact h2
theorem MV_s {S A : List Nat} {Y Z : MS} (f : same S A Y Z) (hS : ∀ k ∈ S, k ∉ [0, 3, 6, 27]) (hA : ∀ k ∈ A, k ∉ [4, 5, 8, 14, 16, 28, 29, 30, 32, 33]) (j1 : jOK Z) (j3 : hdR Z) (w : rwR Z) (sl : ∀ k : Nat, k < 9 → slH Z k) (h : MV Y) : MV Z := by
  have cS : ∀ k : Nat, k ∈ [0, 3, 6, 27] → Z.1 k = Y.1 k := fun k h2 => f.1 k (fun h9 => hS _ h9 h2)
  have cA : ∀ a : Nat, a ∈ [4, 5, 8, 14, 16, 28, 29, 30, 32, 33] → Z.2 a = Y.2 a := fun a h2 => f.2 a (fun h9 => hA _ h9 h2)
  obtain ⟨h1, h2, h3, h4, h5, h6⟩ := h
  refine ⟨seH_s f (fun k hk h9 => hS k hk (by simp only [List.mem_cons, List.not_mem_nil, or_false] at h9 ⊢; omega)) (fun k hk h9 => hA k hk (by simp only [List.mem_cons, List.not_mem_nil, or_false] at h9 ⊢; omega)) j1 j3 w h1, sl, ?_, ?_, by rw [cS 6 (by decide)]; exact h5, by rw [cS 27 (by decide)]; exact h6⟩
  · rw [cA 29 (by decide), cA 30 (by decide)]; exact h3
  · rw [cA 32 (by decide), cA 33 (by decide)]; exact h4
/-- what the class may change where nothing is seen anew -/
def okS (p : Nat × Nat) : Prop := p.1 ≠ 0 ∧ p.1 ≠ 1 ∧ (p.1 < 24 ∨ 55 < p.1) ∧ p ∉ [(56, 1), (56, 2), (58, 6), (64, 7), (64, 9)]
def okA (a : Nat) : Prop := (a < 24 ∨ 55 < a) ∧ a ∉ [2, 3, 59, 60, 61, 62, 63, 65, 66, 69]
def mkA (a : Nat) : Prop := a ∉ [4, 5, 8, 13, 14, 15, 16, 19, 21, 23, 25, 28]
theorem swE_m {S A : List Nat} {X : KS} {Y Z : MS} (f : same S A Y Z) (hS : ∀ k ∈ S, k ∉ [0, 3]) (hA : ∀ k ∈ A, k ∉ [4, 5]) (h : swE X Y) : swE X Z := by
  have e0 : Z.1 0 = Y.1 0 := f.1 0 (fun h9 => hS _ h9 (by decide))
  have e3 : Z.1 3 = Y.1 3 := f.1 3 (fun h9 => hS _ h9 (by decide))
  have e4 : Z.2 4 = Y.2 4 := f.2 4 (fun h9 => hA _ h9 (by decide))
  have e5 : Z.2 5 = Y.2 5 := f.2 5 (fun h9 => hA _ h9 (by decide))
  refine ⟨by rw [e0]; exact h.1, by rw [e3]; exact h.2.1, fun l hl => ?_⟩
  rw [e3] at hl
  rw [(lw_e e4 e5 l).1, (lw_e e4 e5 l).2]
  exact h.2.2 l hl
theorem Rel_gen {S : List (Nat × Nat)} {A S2 A2 : List Nat} {X X' : KS} {Y Y' : MS} (h : Rel X Y) (f : gfr S A X X') (hS : ∀ p ∈ S, okS p) (hA : ∀ a ∈ A, okA a)
    (jn : jnR X') (h57 : X.1 0 15 ≠ 0 → X.1 56 1 ≤ 10000 → ldn (X.2 57) (X.1 56 1) → ldn (X'.2 57) (X.1 56 1) ∧ ∀ w : Int, 0 ≤ w → w < X.1 56 1 → rp (X'.2 57) w = rp (X.2 57) w)
    (ok : X.1 0 16 = 1 → rOK X → rOK X') (kb : KB X') (kd : KD X') (kh : KH X') (kj : KJ X')
    (g : same S2 A2 Y Y') (hS2 : ∀ k ∈ S2, sMk k) (hA2 : ∀ k ∈ A2, mkA k) (j1 : jOK Y → jOK Y') (j2 : jOK Y → ∀ v : Int, 0 ≤ v → v < 10001 → rp (Y'.2 9) v = rp (Y.2 9) v) (j3 : hdR Y → hdR Y') (mv : MV Y') (wd : wdE X' Y') : Rel X' Y' := by
  obtain ⟨⟨a, b, c, d, e, f9, j, r⟩, mv0, sw, wd0, sn⟩ := h
  have m1 := r_c1 f (fun p hp => (hS p hp).2.1)
  have ka : KA X' := by
    have cS : ∀ c k : Nat, c < 87 → (c, k) ∈ [(56, 1), (56, 2), (58, 6), (64, 7), (64, 9)] → X'.1 c k = X.1 c k := fun c k h1 h2 => f.1 c k h1 (fun h9 => (hS _ h9).2.2.2 h2)
    have cA : ∀ a : Nat, a < 87 → a ∈ [2, 3, 59, 60, 61, 62, 63, 65, 66, 69] → X'.2 a = X.2 a := fun a h1 h2 => f.2 a h1 (fun h9 => (hA _ h9).2 h2)
    obtain ⟨h1, h2, h3, h4⟩ := a
    refine ⟨?_, jn, ?_, ?_⟩
    · unfold scX scR
      rw [m1, cA 2 (by decide) (by decide), cA 3 (by decide) (by decide)]
      exact h1
    · unfold ruR
      rw [cS 58 6 (by decide) (by decide), cA 59 (by decide) (by decide), cA 60 (by decide) (by decide), cA 61 (by decide) (by decide), cA 62 (by decide) (by decide), cA 63 (by decide) (by decide)]
      exact h3
    · unfold maR
      rw [cS 64 7 (by decide) (by decide), cA 65 (by decide) (by decide), cA 66 (by decide) (by decide)]
      exact h4
  have q1 : ∀ p ∈ S, p ≠ (0, 14) ∧ p.1 ≠ 1 ∧ (p.1 < 24 ∨ 55 < p.1) := fun p hp => ⟨fun h9 => (hS p hp).1 (by rw [h9]), (hS p hp).2.1, (hS p hp).2.2.1⟩
  have q2 : ∀ a ∈ A, a < 24 ∨ 55 < a := fun a ha => (hA a ha).1
  have ke : KE X' := KE_g f (fun p hp => ⟨(hS p hp).2.1, fun h9 => (hS p hp).1 (by simp only [List.mem_cons, List.not_mem_nil, or_false] at h9; rcases h9 with h9 | h9 <;> rw [h9])⟩) ok e
  have sn1 : snR X' Y := snR_k f (fun p hp => ⟨fun h9 => by
      have h0 := (hS p hp).1
      have h4 := (hS p hp).2.2.2
      simp only [List.mem_cons, List.not_mem_nil, or_false] at h9 h4
      rcases h9 with h9 | h9 | h9
      · exact h0 (by rw [h9])
      · exact h0 (by rw [h9])
      · exact h4 h9, (hS p hp).2.1⟩) (fun a ha => (hA a ha).2) h57 ok sn
  refine ⟨⟨ka, kb, KC_g f q1 q2 c, kd, ke, kh, kj, KR_g f q2 r⟩, mv, ?_, wd, snR_m g hS2 hA2 j1 j2 j3 sn1⟩
  exact swE_m g (fun k hk h9 => hS2 k hk (by simp only [List.mem_cons, List.not_mem_nil, or_false] at h9 ⊢; omega)) (fun k hk h9 => hA2 k hk (by simp only [List.mem_cons, List.not_mem_nil, or_false] at h9 ⊢; omega)) (swE_g f q1 q2 mv0.1.2.1.1.2 sw)
/-- only STRINGS of the slots and the one at hand changed -/
theorem Rel_str {S : List (Nat × Nat)} {A : List Nat} {X X' : KS} {Y Y' : MS} (h : Rel X Y) (f : ksame S A X X') (hS : ∀ p ∈ S, 4 ≤ p.1 ∧ p.1 ≤ 22) (hA : ∀ a ∈ A, 4 ≤ a ∧ a ≤ 23) (kh : KH X') (g : same [] [1, 2] Y Y') (w : rwR Y') (sl : ∀ k : Nat, k < 9 → slH Y' k) (wd : wdE X' Y') : Rel X' Y' := by
  have e9 : Y'.2 9 = Y.2 9 := g.2 9 (by decide)
  have e11 : Y'.2 11 = Y.2 11 := g.2 11 (by decide)
  have gj : ∀ {Q : Prop}, Q → Q := fun q => q
  have hk : ∀ p ∈ S, ∀ {c : Nat}, p.1 = c → c < 4 ∨ 22 < c → False := fun p hp c h1 h2 => by have := hS p hp; omega
  have ha : ∀ a ∈ A, a < 4 ∨ 23 < a → False := fun a h1 h2 => by have := hA a h1; omega
  have J : jOK Y → jOK Y' := fun q => by unfold jOK; rw [e9]; exact q
  have D : hdR Y → hdR Y' := fun q => by unfold hdR; rw [e11]; exact q
  have ra : ∀ {p : Nat × Nat} {c k : Nat}, p ∈ S → p = (c, k) → c < 4 ∨ 22 < c → False := fun {p c k} hp e hc => hk p hp (c := c) (by rw [e]) hc
  have kI := h.1
  have f2 := gm_of f
  have f57 : X'.2 57 = X.2 57 := f.2 57 (fun h9 => ha _ h9 (by omega))
  refine Rel_gen h f2 (fun p hp => ⟨fun e => hk p hp e (by omega), fun e => hk p hp e (by omega), by have := hS p hp; omega, fun h9 => ?_⟩) (fun a h1 => ⟨by have := hA a h1; omega, fun h9 => ha a h1 (by simp only [List.mem_cons, List.not_mem_nil, or_false] at h9; omega)⟩) ?_ ?_ ?_ (KB_k f (fun p hp => ⟨fun e => ra hp e (by omega), fun e => hk p hp e (by omega)⟩) (fun a h1 h9 => ha a h1 (by simp only [List.mem_cons, List.not_mem_nil, or_false] at h9; omega)) kI.2.1) (KD_g f2 (fun a h1 h9 => ha a h1 (by simp only [List.mem_cons, List.not_mem_nil, or_false] at h9; omega)) kI.2.2.2.1) kh (KJ_g f2 (fun p hp h9 => ?_) (fun a h1 h9 => ha a h1 (by simp only [List.mem_cons, List.not_mem_nil, or_false] at h9; omega)) kI.2.2.2.2.2.2.1) g (fun k h9 => absurd h9 List.not_mem_nil) (by unfold mkA; decide) J (fun _ v _ _ => by rw [e9]) D (MV_s g (fun k h9 => absurd h9 List.not_mem_nil) (by decide) (J h.2.1.1.2.2.2.2.2.2.1) (D h.2.1.1.2.2.2.2.2.1) w sl h.2.1) wd
  · simp only [List.mem_cons, List.not_mem_nil, or_false] at h9
    rcases h9 with h9 | h9 | h9 | h9 | h9 <;> exact ra hp h9 (by omega)
  · unfold jnR
    rw [f57, f.1 56 1 (fun h9 => ra h9 rfl (by omega))]
    exact kI.1.2.1
  · intro _ _ h9
    rw [f57]
    exact ⟨h9, fun _ _ _ => rfl⟩
  · exact fun _ ok => rOK_fr f (fun p hp => ⟨⟨fun e => hk p hp e (by omega), fun e => ra hp e (by omega), fun e => ra hp e (by omega)⟩, fun e => ra hp e (by omega), fun e => hk p hp e (by omega)⟩) (fun a h1 => ⟨fun h9 => ha a h1 (by simp only [List.mem_cons, List.not_mem_nil, or_false] at h9; omega), fun h9 => ha a h1 (by simp only [List.mem_cons, List.not_mem_nil, or_false] at h9; omega)⟩) ok
  · simp only [List.mem_cons, List.not_mem_nil, or_false] at h9
    rcases h9 with h9 | h9 | h9 | h9 | h9 <;> exact ra hp h9 (by omega)
