-- deps: 30 31 32 33 34 35 36 37 38 39 40 41 42 43 46 70 71 72 73 74 75 76 77 78 79 80 81 82 83 84 85 86 87 88 89 90 91 92
/-! the Grower's levels: what each began with leads to what it holds now -/
def lvF (x y : KS) (i : Nat) (C Wt C' : List Int) : Prop := ∃ (b : Nat) (K : List Int), (b = 1 ∨ b = 2) ∧ okL (nL x) K ∧ K.length ≤ 60 ∧ y.2 95 i = ((kH b K : Nat) : Int) ∧ y.2 96 i = ((kT K : Nat) : Int) ∧ (y.2 100 i = 1 → led x (ori b K) C') ∧ (y.2 100 i = 0 → y.2 99 i = 0 → b = 1 ∧ ∃ A I B : List Int, K = A ++ (I ++ Wt) ∧ C = B ++ I ∧ (I.length : Int) = y.2 98 i ∧ led x A B) ∧ (y.2 100 i = 0 → y.2 99 i = 1 → b = 2 ∧ ∃ A I B : List Int, K.reverse = Wt ++ (I ++ A) ∧ C = I ++ B ∧ (I.length : Int) = y.2 98 i ∧ led x A B)
def stk (x y : KS) (src : List Int) : Nat → List Int → List Int → List Int → Prop
  | 0, Ah, C, Bh => Ah = [] ∧ y.2 97 0 = (Bh.length : Int) ∧ y.2 99 0 = 0 ∧ rch (lS x) (rS x) (nR x) src (C ++ Bh)
  | i + 1, Ah, C, Bh => (y.2 99 (i + 1) = 0 ∧ ∃ Wt Bh', Bh = Wt ++ Bh' ∧ y.2 97 (i + 1) = (Wt.length : Int) ∧ lvF x y (i + 1) C Wt (C ++ Wt) ∧ stk x y src i Ah (C ++ Wt) Bh') ∨ (y.2 99 (i + 1) = 1 ∧ ∃ Wt Ah', Ah = Ah' ++ Wt ∧ y.2 97 (i + 1) = (Wt.length : Int) ∧ lvF x y (i + 1) C Wt (Wt ++ C) ∧ stk x y src i Ah' (Wt ++ C) Bh)
def lvS (y z : KS) (i : Nat) : Prop := z.2 95 i = y.2 95 i ∧ z.2 96 i = y.2 96 i ∧ z.2 97 i = y.2 97 i ∧ z.2 98 i = y.2 98 i ∧ z.2 99 i = y.2 99 i ∧ z.2 100 i = y.2 100 i
theorem lvF_cg {x y z : KS} {i : Nat} {C Wt C' : List Int} (h : lvS y z i) (l : lvF x y i C Wt C') : lvF x z i C Wt C' := by
  unfold lvF
  rw [h.1, h.2.1, h.2.2.2.1, h.2.2.2.2.1, h.2.2.2.2.2]
  exact l
theorem stk_cg {x y z : KS} {src : List Int} : ∀ (i : Nat) (Ah C Bh : List Int), (∀ j, j ≤ i → lvS y z j) → stk x y src i Ah C Bh → stk x z src i Ah C Bh := by
  intro i
  induction i with
  | zero =>
    intro Ah C Bh h s
    obtain ⟨s1, s2, s3, s4⟩ := s
    have h0 := h 0 (Nat.le_refl _)
    exact ⟨s1, by rw [h0.2.2.1]; exact s2, by rw [h0.2.2.2.2.1]; exact s3, s4⟩
  | succ i ih =>
    intro Ah C Bh h s
    have h0 := h (i + 1) (Nat.le_refl _)
    rcases s with ⟨s1, Wt, Bh', e, s2, s3, s4⟩ | ⟨s1, Wt, Ah', e, s2, s3, s4⟩
    · exact Or.inl ⟨by rw [h0.2.2.2.2.1]; exact s1, Wt, Bh', e, by rw [h0.2.2.1]; exact s2, lvF_cg h0 s3, ih _ _ _ (fun j hj => h j (by omega)) s4⟩
    · exact Or.inr ⟨by rw [h0.2.2.2.2.1]; exact s1, Wt, Ah', e, by rw [h0.2.2.1]; exact s2, lvF_cg h0 s3, ih _ _ _ (fun j hj => h j (by omega)) s4⟩
theorem lvF_mono {x y : KS} (m : mcX x) {i : Nat} {C Wt C' D D' : List Int} (h : rch (lS x) (rS x) (nR x) C D) (h' : rch (lS x) (rS x) (nR x) C' D') (i0 : y.2 98 i = 0) (l : lvF x y i C Wt C') : lvF x y i D Wt D' := by
  obtain ⟨b, K, hb, ok, hK, e1, e2, f1, f2, f3⟩ := l
  refine ⟨b, K, hb, ok, hK, e1, e2, fun q => led_tr m (f1 q) h', fun q1 q2 => ?_, fun q1 q2 => ?_⟩
  · obtain ⟨g1, A, I, B, k1, k2, k3, k4⟩ := f2 q1 q2
    have hI : I = [] := List.length_eq_zero_iff.mp (by omega)
    subst hI
    rw [List.append_nil] at k2
    subst k2
    exact ⟨g1, A, [], D, k1, (List.append_nil _).symm, k3, led_tr m k4 h⟩
  · obtain ⟨g1, A, I, B, k1, k2, k3, k4⟩ := f3 q1 q2
    have hI : I = [] := List.length_eq_zero_iff.mp (by omega)
    subst hI
    rw [List.nil_append] at k2
    subst k2
    exact ⟨g1, A, [], D, k1, rfl, k3, led_tr m k4 h⟩
theorem rch_l {L R : Nat → List Int} {n : Nat} {u v : List Int} (a : List Int) (h : rch L R n u v) : rch L R n (a ++ u) (a ++ v) := by
  have := rch_ctx a [] h
  rw [List.append_nil, List.append_nil] at this
  exact this
theorem rch_r {L R : Nat → List Int} {n : Nat} {u v : List Int} (b : List Int) (h : rch L R n u v) : rch L R n (u ++ b) (v ++ b) := rch_ctx [] b h
theorem led_l {x : KS} (m : mcX x) {u v : List Int} (a : List Int) (h : led x u v) : led x (a ++ u) (a ++ v) := by
  have := led_ctx m a [] h
  rw [List.append_nil, List.append_nil] at this
  exact this
theorem led_r {x : KS} (m : mcX x) {u v : List Int} (b : List Int) (h : led x u v) : led x (u ++ b) (v ++ b) := led_ctx m [] b h
theorem stk_mono {x y : KS} (m : mcX x) {src : List Int} : ∀ (i : Nat) (Ah C D Bh : List Int), rch (lS x) (rS x) (nR x) C D → (∀ j, 1 ≤ j → j ≤ i → y.2 98 j = 0) → stk x y src i Ah C Bh → stk x y src i Ah D Bh := by
  intro i
  induction i with
  | zero =>
    intro Ah C D Bh h _ s
    exact ⟨s.1, s.2.1, s.2.2.1, rch_tr s.2.2.2 (rch_r Bh h)⟩
  | succ i ih =>
    intro Ah C D Bh h hi s
    rcases s with ⟨s1, Wt, Bh', e, s2, s3, s4⟩ | ⟨s1, Wt, Ah', e, s2, s3, s4⟩
    · exact Or.inl ⟨s1, Wt, Bh', e, s2, lvF_mono m h (rch_r Wt h) (hi _ (by omega) (Nat.le_refl _)) s3, ih _ _ _ _ (rch_r Wt h) (fun j a b => hi j a (by omega)) s4⟩
    · exact Or.inr ⟨s1, Wt, Ah', e, s2, lvF_mono m h (rch_l Wt h) (hi _ (by omega) (Nat.le_refl _)) s3, ih _ _ _ _ (rch_l Wt h) (fun j a b => hi j a (by omega)) s4⟩
/-- each level but the top has a LETTER that waits: so there are few -/
theorem stk_few {x y : KS} {src : List Int} : ∀ (i : Nat) (Ah C Bh : List Int), (∀ j, 1 ≤ j → j ≤ i → 1 ≤ y.2 97 j) → stk x y src i Ah C Bh → i ≤ Ah.length + Bh.length := by
  intro i
  induction i with
  | zero => intro Ah C Bh _ _; exact Nat.zero_le _
  | succ i ih =>
    intro Ah C Bh hi s
    have h1 := hi (i + 1) (by omega) (Nat.le_refl _)
    rcases s with ⟨s1, Wt, Bh', e, s2, s3, s4⟩ | ⟨s1, Wt, Ah', e, s2, s3, s4⟩
    · have := ih _ _ _ (fun j a b => hi j a (by omega)) s4
      rw [e, List.length_append]
      omega
    · have := ih _ _ _ (fun j a b => hi j a (by omega)) s4
      rw [e, List.length_append]
      omega
/-- the whole STRING -/
theorem stk_all {x y : KS} {src : List Int} : ∀ (i : Nat) (Ah C Bh : List Int), stk x y src i Ah C Bh → rch (lS x) (rS x) (nR x) src (Ah ++ (C ++ Bh)) := by
  intro i
  induction i with
  | zero => intro Ah C Bh s; rw [s.1]; exact s.2.2.2
  | succ i ih =>
    intro Ah C Bh s
    rcases s with ⟨s1, Wt, Bh', e, s2, s3, s4⟩ | ⟨s1, Wt, Ah', e, s2, s3, s4⟩
    · have := ih _ _ _ s4
      rw [e, ← List.append_assoc C]
      exact this
    · have := ih _ _ _ s4
      rw [e, List.append_assoc]
      rw [List.append_assoc] at this
      exact this
/-- small ranges -/
def grW (y : KS) : Prop := (∀ j : Nat, 0 ≤ y.2 89 j ∧ y.2 89 j ≤ 3) ∧ (∀ j : Nat, 0 ≤ y.2 91 j ∧ y.2 91 j ≤ 3) ∧ (∀ j : Nat, 0 ≤ y.2 93 j ∧ y.2 93 j ≤ 3) ∧ (∀ j : Nat, -1000 ≤ y.2 94 j ∧ y.2 94 j < 320) ∧ (∀ j : Nat, iRL (y.2 95 j)) ∧ (∀ j : Nat, iRL (y.2 96 j)) ∧ (∀ j : Nat, 0 ≤ y.2 97 j ∧ y.2 97 j ≤ 60) ∧ (∀ j : Nat, 0 ≤ y.2 98 j ∧ y.2 98 j ≤ 1000) ∧ (∀ j : Nat, y.2 99 j = 0 ∨ y.2 99 j = 1) ∧ (∀ j : Nat, y.2 100 j = 0 ∨ y.2 100 j = 1)
def lvl (y : KS) : Nat := (y.1 87 13).toNat
/-- the lists of the Grower: ahead, the part, behind; part U, of which the places are told apart -/
def grL (x y : KS) (src Ah P B : List Int) : Prop := sM x y ∧ wL y 88 (Ah ++ P) ∧ wL y 90 B ∧ y.1 87 12 = (Ah.length : Int) ∧ okL (nL x) (Ah ++ P) ∧ okL (nL x) B ∧ Ah.length + P.length + B.length ≤ 60 ∧ (0 ≤ y.1 87 13 ∧ y.1 87 13 ≤ 61) ∧ stk x y src (lvl y) Ah P B.reverse ∧ (∀ j, 1 ≤ j → j < lvl y → 1 ≤ y.2 97 j ∧ y.2 98 j = 0) ∧ knI x y ∧ grW y
/-- between two turns: the part has no LEFT side in it, and its STATES are told -/
def grI (x y : KS) (src Ah P B : List Int) : Prop := grL x y src Ah P B ∧ noL (lS x) (nR x) P ∧ ∀ j, j ≤ P.length → plQ x (y.2 94) Ah.length P j
/-- a LETTER has brought a LEFT side in: at the end of the part -/
def grB (x y : KS) (src Ah P B : List Int) : Prop := grL x y src Ah P B ∧ y.2 98 (lvl y) = 0 ∧ y.2 99 (lvl y) = 0 ∧ ∃ (T : List Int) (l : Int), P = T ++ [l] ∧ noL (lS x) (nR x) T ∧ (∀ j, j ≤ T.length → plQ x (y.2 94) Ah.length P j) ∧ ∃ (q : Nat) (a : List Int), q < nR x ∧ y.1 64 8 = (q : Int) ∧ P = a ++ lS x q
/-- at its beginning: places behind the LEFT side are those of then -/
def grA (x y : KS) (src Ah P B : List Int) : Prop := grL x y src Ah P B ∧ y.2 98 (lvl y) = 0 ∧ y.2 99 (lvl y) = 1 ∧ ∃ (T : List Int) (l : Int), P = l :: T ∧ noL (lS x) (nR x) T ∧ plQ x (y.2 94) Ah.length P 0 ∧ ∃ (q : Nat) (b : List Int), q < nR x ∧ y.1 64 8 = (q : Int) ∧ P = lS x q ++ b ∧ ∀ j, (lS x q).length ≤ j → j ≤ T.length → (0 ≤ y.2 94 (Ah.length + (j + 1)) ∧ y.2 94 (Ah.length + (j + 1)) < x.1 64 7) ∧ lsx (lS x) (nR x) (T.take j) (stS x (y.2 94 (Ah.length + (j + 1))).toNat)
