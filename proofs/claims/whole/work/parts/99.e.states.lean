-- deps: 99.d
/-! plant: the STATES -/
def bgz (C : Nat → Int) (z n : Nat) : Prop := n = 0 ∨ ∃ l, l < z ∧ C (4 * n + l) ≠ -9
def yS (C O SO NO : Nat → Int) (nl k S : Nat) : Prop := S ≤ k ∧ (∀ s, s < S → ∃ j, j < k ∧ NO s = O j ∧ bgz C nl (O j).toNat ∧ SO (O j).toNat = (s : Int)) ∧ (∀ s s', s < s' → s' < S → ∃ j j', j < j' ∧ j' < k ∧ NO s = O j ∧ NO s' = O j') ∧ (∀ j, j < k → bgz C nl (O j).toNat → ∃ s, s < S ∧ NO s = O j ∧ SO (O j).toNat = (s : Int)) ∧ (∀ j, j < k → ¬ bgz C nl (O j).toNat → SO (O j).toNat = -9)
/-- all that plant has laid, but the STATES -/
def pW (x y : MS) (str : Nat → List Int) (N : Nat) : Prop := y.1 17 = (N : Int) ∧ N ≤ 801 ∧ yK (lM x) (x.1 12).toNat (x.1 0).toNat (y.2 18) str N ∧ yQ (y.2 18) (y.2 22) str N N 0 N ∧ yG (lM x) (x.1 12).toNat (x.1 0).toNat (y.2 22) (y.2 19) str N N 0 N ∧ yB (lM x) (x.1 12).toNat (y.2 22) (y.2 20) str N N ∧ yF (lM x) (x.1 12).toNat (y.2 22) (y.2 21) str N N ∧ ∀ n, n < N → ∃ j, j < N ∧ y.2 22 j = (n : Int)
def pS (x y : MS) (k : Nat) : Prop := same [17, 24] [18, 19, 20, 21, 22, 23, 25] x y ∧ ∃ (str : Nat → List Int) (N : Nat), pW x y str N ∧ k ≤ N ∧ ∃ S : Nat, y.1 24 = (S : Int) ∧ yS (y.2 18) (y.2 22) (y.2 23) (y.2 25) (x.1 0).toNat k S
theorem pS_0 {x y : MS} {k t9 : Int} (h : pC x y k.toNat (0 : Int).toNat t9.toNat) (k0 : 0 ≤ k) (e : t9 ≤ k) (e2 : k ≤ t9) : pS x (sU y 24 0) (0 : Int).toNat := by
  have : k = t9 := by omega
  subst this
  obtain ⟨f, str, N, e, b, K, q, gg, bb, ff⟩ := h
  obtain ⟨eN, all⟩ := yQ_end K.1 q
  rw [eN] at q gg bb ff all
  refine ⟨sm_s (by decide) (sm_mono (by decide) (by decide) f), str, N, ⟨by rw [yS_n (by decide)]; exact e, b, K, q, gg, bb, ff, all⟩, Nat.zero_le _, 0, by rw [yS_s]; rfl, Nat.zero_le _, fun s hs => by omega, fun s s' _ hs => by omega, fun j hj => absurd hj (Nat.not_lt_zero _), fun j hj => absurd hj (Nat.not_lt_zero _)⟩
theorem pS_b {x y : MS} {k : Nat} (h : pS x y k) : (∃ N S : Nat, y.1 17 = (N : Int) ∧ N ≤ 801 ∧ k ≤ N ∧ y.1 24 = (S : Int) ∧ S ≤ k ∧ ∀ j, j < N → 0 ≤ y.2 22 j ∧ y.2 22 j < (N : Int)) ∧ y.1 0 = x.1 0 := by
  obtain ⟨f, str, N, w, kn, S, e, s⟩ := h
  exact ⟨⟨N, S, w.1, w.2.1, kn, e, s.1, w.2.2.2.1.2.2.1⟩, f.1 0 (by decide)⟩
theorem yQ_ne2 {C O : Nat → Int} {str : Nat → List Int} {N k z t : Nat} (q : yQ C O str N k z t) {i j : Nat} (hi : i < t) (hj : j < t) (e : (O i).toNat = (O j).toNat) : i = j := yQ_ne q hi hj (by have := q.2.2.1 i hi; have := q.2.2.1 j hj; omega)
theorem pS_not {x y : MS} {k g : Int} (h : pS x y k.toNat) (k0 : 0 ≤ k) (k1 : k < y.1 17) (hg : g = y.2 22 k.toNat) (hb : ¬ bgz (y.2 18) (x.1 0).toNat g.toNat) : pS x (aU y 23 g.toNat (-9)) (k + 1).toNat := by
  obtain ⟨f, str, N, w, kn, S, e, s1, s2, s3, s4, s5⟩ := h
  have hkN : k.toNat < N := by have := w.1; omega
  have q := w.2.2.2.1
  have ne : ∀ j, j < k.toNat → (y.2 22 j).toNat ≠ g.toNat := fun j hj e9 => by rw [hg] at e9; have := yQ_ne2 q (by omega) hkN e9; omega
  rw [show (k + 1).toNat = k.toNat + 1 by omega]
  refine ⟨sm_a (by decide) f, str, N, w, by omega, S, e, by omega, fun s hs => ?_, fun s s' h1 h2 => ?_, fun j hj hbg => ?_, fun j hj hbg => ?_⟩
  · obtain ⟨j, j1, j2, j3, j4⟩ := s2 s hs
    exact ⟨j, by omega, j2, j3, by rw [yU_s, yU_n (by decide), iU_n (ne j j1)]; exact j4⟩
  · obtain ⟨j, j', a, b, c, d⟩ := s3 s s' h1 h2
    exact ⟨j, j', a, by omega, c, d⟩
  · by_cases c : j = k.toNat
    · subst c
      rw [yU_n (by decide), yU_n (by decide), ← hg] at hbg
      exact absurd hbg hb
    · obtain ⟨s, a, b, d⟩ := s4 j (by omega) hbg
      exact ⟨s, a, b, by rw [yU_s, yU_n (by decide), iU_n (ne j (by omega))]; exact d⟩
  · by_cases c : j = k.toNat
    · subst c
      rw [yU_s, yU_n (q := 22) (by decide), ← hg, iU_s]
    · rw [yU_s, yU_n (by decide), iU_n (ne j (by omega))]
      exact s5 j (by omega) hbg
theorem pS_yes {x y : MS} {k g : Int} (h : pS x y k.toNat) (k0 : 0 ≤ k) (k1 : k < y.1 17) (hg : g = y.2 22 k.toNat) (hb : bgz (y.2 18) (x.1 0).toNat g.toNat) : pS x (sU (aU (aU (aU y 23 g.toNat (-9)) 23 g.toNat (y.1 24)) 25 (y.1 24).toNat g) 24 (y.1 24 + 1)) (k + 1).toNat := by
  obtain ⟨f, str, N, w, kn, S, e, s1, s2, s3, s4, s5⟩ := h
  have hkN : k.toNat < N := by have := w.1; omega
  have q := w.2.2.2.1
  have ne : ∀ j, j < k.toNat → (y.2 22 j).toNat ≠ g.toNat := fun j hj e9 => by rw [hg] at e9; have := yQ_ne2 q (by omega) hkN e9; omega
  have A23 : ∀ j, j ≠ g.toNat → (sU (aU (aU (aU y 23 g.toNat (-9)) 23 g.toNat (y.1 24)) 25 (y.1 24).toNat g) 24 (y.1 24 + 1)).2 23 j = y.2 23 j := fun j hj => by
    show (aU (aU (aU y 23 g.toNat (-9)) 23 g.toNat (y.1 24)) 25 (y.1 24).toNat g).2 23 j = _
    rw [yU_n (by decide), yU_s, iU_n hj, yU_s, iU_n hj]
  have B23 : (sU (aU (aU (aU y 23 g.toNat (-9)) 23 g.toNat (y.1 24)) 25 (y.1 24).toNat g) 24 (y.1 24 + 1)).2 23 g.toNat = (S : Int) := by
    show (aU (aU (aU y 23 g.toNat (-9)) 23 g.toNat (y.1 24)) 25 (y.1 24).toNat g).2 23 g.toNat = _
    rw [yU_n (by decide), yU_s, iU_s]; exact e
  have A25 : ∀ s, s < S → (sU (aU (aU (aU y 23 g.toNat (-9)) 23 g.toNat (y.1 24)) 25 (y.1 24).toNat g) 24 (y.1 24 + 1)).2 25 s = y.2 25 s := fun s hs => by
    show (aU (aU (aU y 23 g.toNat (-9)) 23 g.toNat (y.1 24)) 25 (y.1 24).toNat g).2 25 s = _
    rw [yU_s, iU_n (by rw [e]; omega)]; rfl
  have B25 : (sU (aU (aU (aU y 23 g.toNat (-9)) 23 g.toNat (y.1 24)) 25 (y.1 24).toNat g) 24 (y.1 24 + 1)).2 25 S = y.2 22 k.toNat := by
    show (aU (aU (aU y 23 g.toNat (-9)) 23 g.toNat (y.1 24)) 25 (y.1 24).toNat g).2 25 S = _
    rw [yU_s, show (y.1 24).toNat = S by omega, iU_s, hg]
  have A22 : (sU (aU (aU (aU y 23 g.toNat (-9)) 23 g.toNat (y.1 24)) 25 (y.1 24).toNat g) 24 (y.1 24 + 1)).2 22 = y.2 22 := rfl
  have A18 : (sU (aU (aU (aU y 23 g.toNat (-9)) 23 g.toNat (y.1 24)) 25 (y.1 24).toNat g) 24 (y.1 24 + 1)).2 18 = y.2 18 := rfl
  have gk : (y.2 22 k.toNat).toNat = g.toNat := by rw [hg]
  rw [show (k + 1).toNat = k.toNat + 1 by omega]
  refine ⟨sm_s (by decide) (sm_a (by decide) (sm_a (by decide) (sm_a (by decide) f))), str, N, ⟨?_, w.2.1, w.2.2.1, w.2.2.2.1, w.2.2.2.2.1, w.2.2.2.2.2.1, w.2.2.2.2.2.2.1, w.2.2.2.2.2.2.2⟩, by omega, S + 1, ?_, ?_⟩
  · show (sU _ 24 _).1 17 = _
    rw [yS_n (by decide)]; exact w.1
  · show (sU _ 24 _).1 24 = _
    rw [yS_s, e]; omega
  · rw [A22, A18]
    refine ⟨by omega, fun s hs => ?_, fun s s' h1 h2 => ?_, fun j hj hbg => ?_, fun j hj hbg => ?_⟩
    · by_cases c : s = S
      · subst c
        exact ⟨k.toNat, by omega, B25, by rw [gk]; exact hb, by rw [gk]; exact B23⟩
      · obtain ⟨j, j1, j2, j3, j4⟩ := s2 s (by omega)
        exact ⟨j, by omega, by rw [A25 s (by omega)]; exact j2, j3, by rw [A23 _ (ne j j1)]; exact j4⟩
    · by_cases c : s' = S
      · subst c
        obtain ⟨j, j1, j2, _, _⟩ := s2 s h1
        exact ⟨j, k.toNat, by omega, by omega, by rw [A25 s h1]; exact j2, B25⟩
      · obtain ⟨j, j', a, b, c', d⟩ := s3 s s' h1 (by omega)
        exact ⟨j, j', a, by omega, by rw [A25 s (by omega)]; exact c', by rw [A25 s' (by omega)]; exact d⟩
    · by_cases c : j = k.toNat
      · rw [c, gk]
        exact ⟨S, by omega, B25, B23⟩
      · obtain ⟨s, a, b, d⟩ := s4 j (by omega) hbg
        exact ⟨s, by omega, by rw [A25 s a]; exact b, by rw [A23 _ (ne j (by omega))]; exact d⟩
    · by_cases c : j = k.toNat
      · rw [c, gk] at hbg
        exact absurd hb hbg
      · rw [A23 _ (ne j (by omega))]
        exact s5 j (by omega) hbg
theorem bgz_s {C : Nat → Int} {z n : Nat} : bgz C (z + 1) n ↔ bgz C z n ∨ C (4 * n + z) ≠ -9 := by
  constructor
  · intro h
    rcases h with h | ⟨l, h1, h2⟩
    · exact Or.inl (Or.inl h)
    · by_cases c : l = z
      · subst c; exact Or.inr h2
      · exact Or.inl (Or.inr ⟨l, by omega, h2⟩)
  · intro h
    rcases h with (h | ⟨l, h1, h2⟩) | h
    · exact Or.inl h
    · exact Or.inr ⟨l, by omega, h2⟩
    · exact Or.inr ⟨z, by omega, h⟩
/-- whether it begins a LEFT side, as far as is looked -/
def bgb (y : MS) (g b z : Int) : Prop := (b = 1 ∧ bgz (y.2 18) z.toNat g.toNat) ∨ (b = 0 ∧ ¬ bgz (y.2 18) z.toNat g.toNat)
theorem bgb_0 {y : MS} {g : Int} (g0 : 0 ≤ g) : (g = 0 → bgb y g 1 0) ∧ (¬ g = 0 → bgb y g 0 0) := by
  refine ⟨fun h => Or.inl ⟨rfl, Or.inl (by omega)⟩, fun h => Or.inr ⟨rfl, fun q => ?_⟩⟩
  rcases q with q | ⟨l, h1, _⟩
  · omega
  · exact absurd h1 (by show ¬ l < (0 : Int).toNat; exact Nat.not_lt_zero _)
theorem bgb_s {y : MS} {g b z : Int} (g0 : 0 ≤ g) (z0 : 0 ≤ z) (h : bgb y g b z) : (¬ b = 0 → bgb y g 1 (z + 1)) ∧ (b = 0 → ¬ y.2 18 (4 * g + z).toNat = -9 → bgb y g 1 (z + 1)) ∧ (b = 0 → y.2 18 (4 * g + z).toNat = -9 → bgb y g 0 (z + 1)) := by
  have ez : (z + 1).toNat = z.toNat + 1 := by omega
  have ei : (4 * g + z).toNat = 4 * g.toNat + z.toNat := by omega
  unfold bgb at h ⊢
  rw [ez, ei, bgz_s]
  refine ⟨fun hb => ?_, fun hb hc => Or.inl ⟨rfl, Or.inr hc⟩, fun hb hc => ?_⟩
  · rcases h with ⟨_, h⟩ | ⟨h, _⟩
    · exact Or.inl ⟨rfl, Or.inl h⟩
    · exact absurd h hb
  · rcases h with ⟨h, _⟩ | ⟨_, h⟩
    · omega
    · exact Or.inr ⟨rfl, fun q => q.elim h (fun q => q hc)⟩
