-- deps: 30 31 32 33 34 35 36 37 38 39 40 41 42 43 70 71 72 73 74 75 76 77 78 79 80 81 82 83 84 85 86 87 88 89 90
/-! reading a part: where the first LEFT side ends, or the STATES all along -/
section RD
variable {L : Nat → List Int} {n : Nat}
theorem lsx_ex : ∀ w : List Int, ∃ q, lsx L n w q := by
  intro w
  induction w with
  | nil => exact ⟨[], lsx_nil L n⟩
  | cons a t ih =>
    by_cases h : bgn L n (a :: t)
    · refine ⟨a :: t, ⟨[], rfl⟩, h, fun b q e _ => ?_⟩
      have := congrArg List.length e
      rw [List.length_append] at this
      omega
    · obtain ⟨q, ⟨c, hc⟩, hb, hm⟩ := ih
      refine ⟨q, ⟨a :: c, by rw [hc]; rfl⟩, hb, fun b p e hp => ?_⟩
      cases b with
      | nil => rw [List.nil_append] at e; rw [← e] at hp; exact absurd hp h
      | cons z b => exact hm b p (List.cons.inj e).2 hp
theorem lsx_one {w p q : List Int} (h1 : lsx L n w p) (h2 : lsx L n w q) : p = q := by
  obtain ⟨⟨a, ha⟩, hb, hm⟩ := h1
  obtain ⟨⟨c, hc⟩, hd, hk⟩ := h2
  have l1 := hm c q hc hd
  have l2 := hk a p ha hb
  rw [ha] at hc
  have := congrArg List.length hc
  rw [List.length_append, List.length_append] at this
  exact (List.append_inj hc (by omega)).2
/-- where two lists have one STATE, what comes behind both is read alike -/
theorem cont (h0 : ∀ r, r < n → L r ≠ []) : ∀ (T C E p : List Int), lsx L n C p → lsx L n E p → noL L n C → noL L n (E ++ T) → noL L n (C ++ T) ∧ ∀ j, j ≤ T.length → ∀ q, lsx L n (E ++ T.take j) q → lsx L n (C ++ T.take j) q := by
  intro T
  induction T with
  | nil =>
    intro C E p hC hE nC _
    refine ⟨by rw [List.append_nil]; exact nC, fun j _ q hq => ?_⟩
    rw [List.take_nil, List.append_nil] at hq ⊢
    rw [← lsx_one hE hq]
    exact hC
  | cons l T ih =>
    intro C E p hC hE nC nE
    obtain ⟨p', hp'⟩ := lsx_ex (L := L) (n := n) (p ++ [l])
    have nE' : noL L n ((E ++ [l]) ++ T) := by rw [List.append_assoc]; exact nE
    have nC' : noL L n (C ++ [l]) := by
      refine au_no nC hC h0 (fun r hr b e => ?_)
      obtain ⟨⟨c, hc⟩, _, _⟩ := hE
      refine nE r hr (c ++ b) T ?_
      rw [hc, show c ++ p ++ l :: T = c ++ ((p ++ [l]) ++ T) by simp, e]
      simp
    obtain ⟨i1, i2⟩ := ih (C ++ [l]) (E ++ [l]) p' (au_next hC hp') (au_next hE hp') nC' nE'
    refine ⟨by rw [show C ++ l :: T = (C ++ [l]) ++ T by simp]; exact i1, fun j hj q hq => ?_⟩
    cases j with
    | zero =>
      rw [List.take_zero, List.append_nil] at hq ⊢
      rw [← lsx_one hE hq]
      exact hC
    | succ j =>
      rw [List.take_succ_cons] at hq ⊢
      have := i2 j (by rw [List.length_cons] at hj; omega) q (by rw [List.append_assoc]; exact hq)
      rw [List.append_assoc] at this
      exact this
end RD
/-- STATES that stand at places from f on -/
def plQ (x : KS) (P : Nat → Int) (f : Nat) (U : List Int) (j : Nat) : Prop := (0 ≤ P (f + j) ∧ P (f + j) < x.1 64 7) ∧ lsx (lS x) (nR x) (U.take j) (stS x (P (f + j)).toNat)
/-- LETTERS that were there before, with their STATES of then -/
def old (x : KS) (P : Nat → Int) (f g k : Nat) (U : List Int) : Prop := ∃ (D : List Int) (s0 : Nat), f + s0 ≤ g + 1 ∧ noL (lS x) (nR x) (D ++ U.drop s0) ∧ ∀ j, g ≤ f + j → k ≤ j → j < U.length → (0 ≤ P (f + (j + 1)) ∧ P (f + (j + 1)) < x.1 64 7) ∧ lsx (lS x) (nR x) (D ++ (U.drop s0).take (j + 1 - s0)) (stS x (P (f + (j + 1))).toNat)
/-- what comes of reading -/
def rdX (x y : KS) (f : Nat) (U : List Int) (k : Nat) (r : Int) (z : KS) : Prop := (r = -1 ∧ noL (lS x) (nR x) U ∧ ∀ j, j ≤ U.length → plQ x (z.2 94) f U j) ∨ ∃ j : Nat, r = ((f + j : Nat) : Int) ∧ k ≤ j ∧ j < U.length ∧ noL (lS x) (nR x) (U.take j) ∧ (∀ i, i ≤ j → plQ x (z.2 94) f U i) ∧ (∀ i, f + j < i → z.2 94 i = y.2 94 i) ∧ ∃ (q : Nat) (a : List Int), q < nR x ∧ z.1 64 8 = (q : Int) ∧ U.take (j + 1) = a ++ lS x q
theorem F_a_read_s_x {x : KS} (mx : mcX x) {W : List Int} {f g : Nat} (okW : okL (nL x) W) (f0 : Int) : ∀ (n : Nat) (y : KS) (A Z : List Int) (s : Int), sM x y → wL y 88 W → W.drop f = A ++ Z → f ≤ W.length → 0 ≤ s → s < x.1 64 7 → y.2 94 (f + A.length) = s → lsx (lS x) (nR x) A (stS x s.toNat) → noL (lS x) (nR x) A → (∀ j, j ≤ A.length → plQ x (y.2 94) f (A ++ Z) j) → old x (y.2 94) f g A.length (A ++ Z) → f ≤ g + 1 → Z.length < n → rdX x y f (A ++ Z) A.length (F_a_read_s n 0 y f0 (g : Int) s ((f + A.length : Nat) : Int)).1 (F_a_read_s n 0 y f0 (g : Int) s ((f + A.length : Nat) : Int)).2 := by
  intro n
  induction n with
  | zero => intro y A Z s _ _ _ _ _ _ _ _ _ _ _ _ h; exfalso; omega
  | succ n ih =>
    intro y A Z s sm hW hU hf s0 s1 ps lA nA hpl ho fg hn
    have hlen := congrArg List.length hU
    rw [List.length_drop, List.length_append] at hlen
    rw [F_a_read_e0, hW.1]
    cases Z with
    | nil =>
      rw [List.append_nil] at hpl ⊢
      rw [if_pos (by simp at hlen; omega)]
      exact Or.inl ⟨rfl, nA, hpl⟩
    | cons l Z =>
      rw [List.length_cons] at hlen
      rw [if_neg (by omega), Int.toNat_natCast]
      have hl : y.2 89 (f + A.length) = l := by
        have e1 : W = (W.take f ++ A) ++ l :: Z := by rw [List.append_assoc, ← hU, List.take_append_drop]
        have h2 := hW.2
        rw [e1] at h2
        have := tk_at h2
        rw [List.length_append, List.length_take, Nat.min_eq_left hf] at this
        exact this
      rw [hl]
      have okl : 0 ≤ l ∧ l < (nL x : Int) := okW l (List.mem_of_mem_drop (i := f) (by rw [hU]; exact List.mem_append_right _ List.mem_cons_self))
      have my := mcX_sM sm mx
      obtain ⟨i0, i1, i2, i3⟩ := mc_ix my (s := s) (l := l) s0 (by rw [sm.2.2.1]; exact s1) okl.1 (by rw [sM_nL sm]; exact okl.2)
      rw [if_neg (by omega), if_neg (by omega)]
      replace i3 := mst_sM sm i3
      generalize y.2 66 (s * y.1 1 2 + l).toNat = v at i3
      have el : ((l.toNat : Nat) : Int) = l := Int.toNat_of_nonneg okl.1
      unfold mst at i3
      rw [el] at i3
      have ei : ((f + A.length : Nat) : Int) + 1 = ((f + (A ++ [l]).length : Nat) : Int) := by rw [List.length_append, List.length_singleton]; push_cast; omega
      have et : (((f + A.length : Nat) : Int) + 1).toNat = f + (A.length + 1) := by omega
      have eu : A ++ l :: Z = (A ++ [l]) ++ Z := by simp
      by_cases c : 0 ≤ v
      · obtain ⟨v1, v2, v3⟩ := i3.2 c
        have lA' := au_next lA v3
        have nA' := au_no nA lA (mc_left0 mx) v2
        rw [if_pos c]
        have hpl' : ∀ j, j ≤ (A ++ [l]).length → plQ x (iU (y.2 94) (f + (A.length + 1)) v) f ((A ++ [l]) ++ Z) j := by
          intro j hj
          rw [List.length_append, List.length_singleton] at hj
          unfold plQ
          by_cases cj : j = A.length + 1
          · subst cj
            rw [iU_s, List.take_append_of_le_length (by rw [List.length_append, List.length_singleton]; exact Nat.le_refl _), List.take_of_length_le (by rw [List.length_append, List.length_singleton]; exact Nat.le_refl _)]
            exact ⟨⟨c, v1⟩, lA'⟩
          · rw [iU_n (by omega), ← eu]
            exact hpl j (by omega)
        -- one LETTER on
        have go : rdX x y f ((A ++ [l]) ++ Z) A.length (F_a_read_s n 0 (kA y 94 (((f + A.length : Nat) : Int) + 1).toNat v) f0 (g : Int) v (((f + A.length : Nat) : Int) + 1)).1 (F_a_read_s n 0 (kA y 94 (((f + A.length : Nat) : Int) + 1).toNat v) f0 (g : Int) v (((f + A.length : Nat) : Int) + 1)).2 := by
          rw [ei, show ((f + (A ++ [l]).length : Nat) : Int).toNat = f + (A.length + 1) by rw [Int.toNat_natCast, List.length_append, List.length_singleton]]
          have hk := ih (kA y 94 (f + (A.length + 1)) v) (A ++ [l]) Z v (sM_a sm (by unfold sMa; decide)) (wL_fr (S := []) (A := [94]) (km_a (by decide) (km_rf _ _ _)) (by decide) (by decide) hW) (by rw [hU, eu]) hf c v1 (by rw [kA_s, List.length_append, List.length_singleton, iU_s]) lA' nA' (by rw [kA_s]; exact hpl') ?_ fg (by rw [List.length_cons] at hn; omega)
          · rcases hk with ⟨k1, k2, k3⟩ | ⟨j, k1, k2, k3, k4, k5, k6, k7⟩
            · exact Or.inl ⟨k1, k2, k3⟩
            · rw [List.length_append, List.length_singleton] at k2
              refine Or.inr ⟨j, k1, by omega, k3, k4, k5, fun i hi => ?_, k7⟩
              rw [k6 i hi, kA_s, iU_n (by omega)]
          · obtain ⟨D, t0, d1, d2, d3⟩ := ho
            rw [eu] at d2 d3
            refine ⟨D, t0, d1, d2, fun j hj hk2 hj2 => ?_⟩
            rw [List.length_append, List.length_singleton] at hk2
            rw [kA_s, iU_n (by omega)]
            exact d3 j hj (by omega) hj2
        by_cases c2 : ((f + A.length : Nat) : Int) < (g : Int)
        · rw [if_pos c2, eu]; exact go
        · rw [if_neg c2]
          by_cases c3 : y.2 94 (((f + A.length : Nat) : Int) + 1).toNat = v
          · rw [if_pos c3]
            obtain ⟨D, t0, d1, d2, d3⟩ := ho
            have hU2 : (A ++ l :: Z).length = A.length + 1 + Z.length := by rw [List.length_append, List.length_cons]; omega
            have o1 := d3 A.length (by omega) (Nat.le_refl _) (by omega)
            rw [et] at c3
            rw [c3] at o1
            have ez : ((A ++ l :: Z).drop t0).drop (A.length + 1 - t0) = Z := by
              rw [List.drop_drop, show t0 + (A.length + 1 - t0) = A.length + 1 by omega, eu, List.drop_append_of_le_length (by simp), List.drop_of_length_le (by simp), List.nil_append]
            have ej : ∀ i, ((A ++ l :: Z).drop t0).take (A.length + 1 - t0 + i) = ((A ++ l :: Z).drop t0).take (A.length + 1 - t0) ++ Z.take i := fun i => by rw [List.take_add, ez]
            have ct := cont (mc_left0 mx) Z (A ++ [l]) (D ++ ((A ++ l :: Z).drop t0).take (A.length + 1 - t0)) (stS x v.toNat) lA' o1.2 nA' (by
              have := List.take_append_drop (A.length + 1 - t0) ((A ++ l :: Z).drop t0)
              rw [ez] at this
              rw [List.append_assoc, this]
              exact d2)
            refine Or.inl ⟨rfl, by rw [eu]; exact ct.1, fun j hj => ?_⟩
            by_cases cj : j ≤ A.length
            · exact hpl j cj
            · obtain ⟨i, rfl⟩ : ∃ i, j = A.length + 1 + i := ⟨j - (A.length + 1), by omega⟩
              have o2 := d3 (A.length + i) (by omega) (by omega) (by omega)
              rw [show A.length + i + 1 = A.length + 1 + i by omega, show A.length + 1 + i - t0 = A.length + 1 - t0 + i by omega, ej] at o2
              refine ⟨o2.1, ?_⟩
              have e3 : (A ++ l :: Z).take (A.length + 1 + i) = (A ++ [l]) ++ Z.take i := by
                rw [eu, List.take_append, List.take_of_length_le (by rw [List.length_append, List.length_singleton]; omega)]
                congr 2
                rw [List.length_append, List.length_singleton]
                omega
              rw [e3]
              exact ct.2 i (by omega) _ (by rw [List.append_assoc]; exact o2.2)
          · rw [if_neg c3, eu]; exact go
      · rw [if_neg c, eu]
        obtain ⟨q, q1, q2, a, ha⟩ := i3.1 (by omega)
        obtain ⟨⟨cc, hcc⟩, _, _⟩ := lA
        have e1 : ((A ++ [l]) ++ Z).take A.length = A := by rw [← eu, List.take_left]
        have e2 : ((A ++ [l]) ++ Z).take (A.length + 1) = A ++ [l] := by rw [List.take_append_of_le_length (by simp), List.take_of_length_le (by simp)]
        refine Or.inr ⟨A.length, rfl, Nat.le_refl _, by rw [← eu]; simp, by rw [e1]; exact nA, fun i hi => ?_, fun i hi => rfl, q, cc ++ a, by unfold nR; omega, by rw [kS_s]; omega, ?_⟩
        · rw [kS_2, ← eu]; exact hpl i hi
        · rw [e2, hcc, List.append_assoc, ha, List.append_assoc]
/-- read, as it is called -/
theorem F_a_read_x {x y : KS} (mx : mcX x) {W : List Int} {f g : Nat} {A Z : List Int} (okW : okL (nL x) W) (sm : sM x y) (hW : wL y 88 W) (h60 : W.length ≤ 60) (hU : W.drop f = A ++ Z) (hf : f ≤ W.length) (nA : noL (lS x) (nR x) A) (hpl : ∀ j, j ≤ A.length → plQ x (y.2 94) f (A ++ Z) j) (ho : old x (y.2 94) f g A.length (A ++ Z)) (fg : f ≤ g + 1) : rdX x y f (A ++ Z) A.length (F_a_read y ((f + A.length : Nat) : Int) (g : Int)).1 (F_a_read y ((f + A.length : Nat) : Int) (g : Int)).2 := by
  have hlen := congrArg List.length hU
  rw [List.length_drop, List.length_append] at hlen
  unfold F_a_read
  rw [hW.1, if_neg (by omega), if_neg (by omega), if_pos (by omega), Int.toNat_natCast]
  have p := hpl A.length (Nat.le_refl _)
  have q := p.2
  rw [List.take_left] at q
  exact F_a_read_s_x mx okW _ 70 y A Z _ sm hW hU hf p.1.1 p.1.2 rfl q nA hpl ho fg (by omega)
