-- deps: 30 31 32 33 34 35 36 37 38 39 40 41 42 43 46 70 71 72 73 74 75 76 77 78 79 80 81 82 83 84 85 86 87 88 89 90 91 92 93
/-! LETTERS come back, levels are closed -/
theorem noL_nil {x : KS} (m : mcX x) : noL (lS x) (nR x) [] := fun r hr a b e => by
  have := congrArg List.length e
  rw [List.length_append, List.length_append] at this
  have h := List.length_pos_iff.mpr (mc_left0 m r hr)
  simp only [List.length_nil] at this
  omega
theorem noL_part {x : KS} {a b c : List Int} (h : noL (lS x) (nR x) (a ++ (b ++ c))) : noL (lS x) (nR x) b := fun r hr d e he => h r hr (a ++ d) (e ++ c) (by rw [he]; simp only [List.append_assoc])
theorem F_a_read_s_rp {y : KS} : ∀ (n : Nat) (y : KS) (f g s i : Int), maR y → (∀ j : Nat, -1000 ≤ y.2 94 j ∧ y.2 94 j < 320) → ∀ j : Nat, -1000 ≤ (F_a_read_s n 0 y f g s i).2.2 94 j ∧ (F_a_read_s n 0 y f g s i).2.2 94 j < 320 := by
  intro n
  induction n with
  | zero => intro y f g s i _ h; exact h
  | succ n ih =>
    intro y f g s i ma h
    rw [F_a_read_e0]
    have up : ∀ (v : Int) (k : Nat), -1000 ≤ v → v < 320 → ∀ j : Nat, -1000 ≤ (kA y 94 k v).2 94 j ∧ (kA y 94 k v).2 94 j < 320 := by
      intro v k h0 h1
      rw [kA_s]
      exact iU_all (P := fun z => -1000 ≤ z ∧ z < 320) ⟨h0, h1⟩ h
    have mk : ∀ (v : Int) (k : Nat), maR (kA y 94 k v) := fun v k => maR_of (S := []) (A := [94]) (km_a (by decide) (km_rf _ _ _)) (by decide) (by decide) (by decide) ma
    repeat' split
    all_goals first | exact h | exact ih _ _ _ _ _ (mk _ _) (up _ _ (by omega) (by omega)) | (refine ih _ _ _ _ _ (mk _ _) (up _ _ ?_ ?_) <;> (first | exact (ma.2.2 _).1 | exact (ma.2.2 _).2))
theorem F_a_read_rp {y : KS} {f g : Int} (ma : maR y) (h : ∀ j : Nat, -1000 ≤ y.2 94 j ∧ y.2 94 j < 320) : ∀ j : Nat, -1000 ≤ (F_a_read y f g).2.2 94 j ∧ (F_a_read y f g).2.2 94 j < 320 := by
  unfold F_a_read
  repeat' split
  all_goals first | exact h | exact F_a_read_s_rp (y := y) 70 _ _ _ _ _ ma h
theorem grW_of {S : List (Nat × Nat)} {A : List Nat} {y z : KS} (h : ksame S A y z) (hA : ∀ a ∈ A, a ∉ [89, 91, 93, 94, 95, 96, 97, 98, 99, 100]) (w : grW y) : grW z := by
  have a1 : ∀ a, a ∈ [89, 91, 93, 94, 95, 96, 97, 98, 99, 100] → a ∉ A := fun a ha hb => hA a hb ha
  unfold grW
  rw [h.2 89 (a1 89 (by decide)), h.2 91 (a1 91 (by decide)), h.2 93 (a1 93 (by decide)), h.2 94 (a1 94 (by decide)), h.2 95 (a1 95 (by decide)), h.2 96 (a1 96 (by decide)), h.2 97 (a1 97 (by decide)), h.2 98 (a1 98 (by decide)), h.2 99 (a1 99 (by decide)), h.2 100 (a1 100 (by decide))]
  exact w
theorem grW_read {x y : KS} (mx : mcX x) (sm : sM x y) {f g : Int} (w : grW y) : grW (F_a_read y f g).2 := by
  have fr := F_a_read_fr y f g
  have h := F_a_read_rp (f := f) (g := g) (mcX_sM sm mx).2.2.2.2.1 w.2.2.2.1
  unfold grW
  rw [fr.2 89 (by decide), fr.2 91 (by decide), fr.2 93 (by decide), fr.2 95 (by decide), fr.2 96 (by decide), fr.2 97 (by decide), fr.2 98 (by decide), fr.2 99 (by decide), fr.2 100 (by decide)]
  exact ⟨w.1, w.2.1, w.2.2.1, h, w.2.2.2.2⟩
theorem knI_of {S : List (Nat × Nat)} {A : List Nat} {x y z : KS} (h : ksame S A y z) (h1 : (101, 9) ∉ S) (h2 : 102 ∉ A) (h3 : 103 ∉ A) (h4 : 104 ∉ A) (h5 : 105 ∉ A) (k : knI x y) : knI x z := by
  unfold knI
  rw [h.1 101 9 h1, h.2 102 h2, h.2 103 h3, h.2 104 h4, h.2 105 h5]
  exact k
theorem lvS_of {S : List (Nat × Nat)} {A : List Nat} {y z : KS} (h : ksame S A y z) (hA : ∀ a ∈ A, a ∉ [95, 96, 97, 98, 99, 100]) (j : Nat) : lvS y z j := by
  have a1 : ∀ a, a ∈ [95, 96, 97, 98, 99, 100] → a ∉ A := fun a ha hb => hA a hb ha
  unfold lvS
  rw [h.2 95 (a1 95 (by decide)), h.2 96 (a1 96 (by decide)), h.2 97 (a1 97 (by decide)), h.2 98 (a1 98 (by decide)), h.2 99 (a1 99 (by decide)), h.2 100 (a1 100 (by decide))]
  exact ⟨rfl, rfl, rfl, rfl, rfl, rfl⟩
/-- z is y but for what waits and is idle at level i -/
def lvT (y z : KS) (i : Nat) (w d : Int) : Prop := z.2 95 = y.2 95 ∧ z.2 96 = y.2 96 ∧ z.2 97 = iU (y.2 97) i w ∧ z.2 98 = iU (y.2 98) i d ∧ z.2 99 = y.2 99 ∧ z.2 100 = y.2 100
theorem lvT_S {y z : KS} {i : Nat} {w d : Int} (h : lvT y z i w d) {j : Nat} (hj : j ≠ i) : lvS y z j := by
  unfold lvS
  rw [h.1, h.2.1, h.2.2.1, h.2.2.2.1, h.2.2.2.2.1, h.2.2.2.2.2, iU_n hj, iU_n hj]
  exact ⟨rfl, rfl, rfl, rfl, rfl, rfl⟩
theorem stk_behind {x y z : KS} {src : List Int} {i : Nat} {Ah P Bt : List Int} {l : Int} (h : lvT y z i (y.2 97 i - 1) (y.2 98 i + 1)) (a0 : y.2 99 i = 0) (w1 : 0 < y.2 97 i) (s : stk x y src i Ah P (l :: Bt)) : stk x z src i Ah (P ++ [l]) Bt := by
  cases i with
  | zero =>
    obtain ⟨s1, s2, s3, s4⟩ := s
    refine ⟨s1, ?_, by rw [h.2.2.2.2.1]; exact s3, ?_⟩
    · rw [h.2.2.1, iU_s, s2, List.length_cons]; push_cast; omega
    · rw [List.append_assoc]; exact s4
  | succ i =>
    rcases s with ⟨s1, Wt, Bh', e, s2, s3, s4⟩ | ⟨s1, _⟩
    · cases Wt with
      | nil => rw [s2] at w1; exact absurd w1 (by decide)
      | cons l' Wt =>
        obtain ⟨e1, e2⟩ := List.cons.inj e
        subst e1
        refine Or.inl ⟨by rw [h.2.2.2.2.1]; exact a0, Wt, Bh', e2, by rw [h.2.2.1, iU_s, s2, List.length_cons]; push_cast; omega, ?_, ?_⟩
        · obtain ⟨b, K, hb, ok, hK, k1, k2, f1, f2, f3⟩ := s3
          refine ⟨b, K, hb, ok, hK, by rw [h.1]; exact k1, by rw [h.2.1]; exact k2, fun q => ?_, fun q1 q2 => ?_, fun q1 q2 => ?_⟩
          · rw [List.append_assoc]; exact f1 (by rw [← h.2.2.2.2.2]; exact q)
          · obtain ⟨g1, A, I, B, m1, m2, m3, m4⟩ := f2 (by rw [← h.2.2.2.2.2]; exact q1) a0
            refine ⟨g1, A, I ++ [l], B, by rw [m1]; simp, by rw [m2]; simp, ?_, m4⟩
            rw [h.2.2.2.1, iU_s, ← m3, List.length_append, List.length_singleton]
            push_cast
            rfl
          · rw [h.2.2.2.2.1, a0] at q2; exact absurd q2 (by decide)
        · rw [List.append_assoc]
          exact stk_cg i _ _ _ (fun j hj => lvT_S h (by omega)) s4
    · rw [a0] at s1; exact absurd s1 (by decide)
theorem stk_ahead {x y z : KS} {src : List Int} {i : Nat} {Ah P Bh : List Int} {l : Int} (h : lvT y z i (y.2 97 i - 1) (y.2 98 i + 1)) (a0 : y.2 99 i = 1) (w1 : 0 < y.2 97 i) (s : stk x y src i (Ah ++ [l]) P Bh) : stk x z src i Ah (l :: P) Bh := by
  cases i with
  | zero => rw [s.2.2.1] at a0; exact absurd a0 (by decide)
  | succ i =>
    rcases s with ⟨s1, _⟩ | ⟨s1, Wt, Ah', e, s2, s3, s4⟩
    · rw [a0] at s1; exact absurd s1 (by decide)
    · obtain ⟨t, l', eW⟩ := snoc_of Wt (by intro hW; rw [hW] at s2; rw [s2] at w1; exact absurd w1 (by decide))
      subst eW
      rw [← List.append_assoc] at e
      obtain ⟨e1, e2⟩ := List.append_inj' e rfl
      obtain rfl := (List.cons.inj e2).1
      have es : t ++ l :: P = (t ++ [l]) ++ P := by simp
      refine Or.inr ⟨by rw [h.2.2.2.2.1]; exact a0, t, Ah', e1, by rw [h.2.2.1, iU_s, s2, List.length_append, List.length_singleton]; push_cast; omega, ?_, ?_⟩
      · obtain ⟨b, K, hb, ok, hK, k1, k2, f1, f2, f3⟩ := s3
        refine ⟨b, K, hb, ok, hK, by rw [h.1]; exact k1, by rw [h.2.1]; exact k2, fun q => ?_, fun q1 q2 => ?_, fun q1 q2 => ?_⟩
        · rw [es]; exact f1 (by rw [← h.2.2.2.2.2]; exact q)
        · rw [h.2.2.2.2.1, a0] at q2; exact absurd q2 (by decide)
        · obtain ⟨g1, A, I, B, m1, m2, m3, m4⟩ := f3 (by rw [← h.2.2.2.2.2]; exact q1) a0
          refine ⟨g1, A, l :: I, B, by rw [m1]; simp, by rw [m2]; simp, ?_, m4⟩
          rw [h.2.2.2.1, iU_s, ← m3, List.length_cons]
          push_cast
          rfl
      · rw [es]
        exact stk_cg i _ _ _ (fun j hj => lvT_S h (by omega)) s4
/-- what was idle is no more -/
theorem stk_idle {x y z : KS} (m : mcX x) {src : List Int} {i : Nat} {Ah P Bh : List Int} (h : lvT y z i (y.2 97 i) 0) (s : stk x y src i Ah P Bh) : stk x z src i Ah P Bh := by
  cases i with
  | zero =>
    obtain ⟨s1, s2, s3, s4⟩ := s
    exact ⟨s1, by rw [h.2.2.1, iU_s]; exact s2, by rw [h.2.2.2.2.1]; exact s3, s4⟩
  | succ i =>
    rcases s with ⟨s1, Wt, Bh', e, s2, s3, s4⟩ | ⟨s1, Wt, Ah', e, s2, s3, s4⟩
    · refine Or.inl ⟨by rw [h.2.2.2.2.1]; exact s1, Wt, Bh', e, by rw [h.2.2.1, iU_s]; exact s2, ?_, stk_cg i _ _ _ (fun j hj => lvT_S h (by omega)) s4⟩
      obtain ⟨b, K, hb, ok, hK, k1, k2, f1, f2, f3⟩ := s3
      refine ⟨b, K, hb, ok, hK, by rw [h.1]; exact k1, by rw [h.2.1]; exact k2, fun q => f1 (by rw [← h.2.2.2.2.2]; exact q), fun q1 q2 => ?_, fun q1 q2 => ?_⟩
      · obtain ⟨g1, A, I, B, m1, m2, m3, m4⟩ := f2 (by rw [← h.2.2.2.2.2]; exact q1) s1
        exact ⟨g1, A ++ I, [], B ++ I, by rw [m1]; simp, by rw [m2]; simp, by rw [h.2.2.2.1, iU_s]; rfl, led_r m I m4⟩
      · rw [h.2.2.2.2.1, s1] at q2; exact absurd q2 (by decide)
    · refine Or.inr ⟨by rw [h.2.2.2.2.1]; exact s1, Wt, Ah', e, by rw [h.2.2.1, iU_s]; exact s2, ?_, stk_cg i _ _ _ (fun j hj => lvT_S h (by omega)) s4⟩
      obtain ⟨b, K, hb, ok, hK, k1, k2, f1, f2, f3⟩ := s3
      refine ⟨b, K, hb, ok, hK, by rw [h.1]; exact k1, by rw [h.2.1]; exact k2, fun q => f1 (by rw [← h.2.2.2.2.2]; exact q), fun q1 q2 => ?_, fun q1 q2 => ?_⟩
      · rw [h.2.2.2.2.1, s1] at q2; exact absurd q2 (by decide)
      · obtain ⟨g1, A, I, B, m1, m2, m3, m4⟩ := f3 (by rw [← h.2.2.2.2.2]; exact q1) s1
        exact ⟨g1, I ++ A, [], I ++ B, by rw [m1]; simp, by rw [m2]; simp, by rw [h.2.2.2.1, iU_s]; rfl, led_l m I m4⟩
