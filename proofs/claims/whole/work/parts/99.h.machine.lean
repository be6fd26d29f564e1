-- deps: 99.g
/-! the planted machine: nodes and what they spell, go, ends, STATES -/
def plN (y : MS) (str : Nat → List Int) (N S : Nat) : Prop := (y.1 17 = (N : Int) ∧ N ≤ 801 ∧ 0 < N ∧ y.1 24 = (S : Int) ∧ S ≤ N) ∧ str 0 = [] ∧ (∀ n, n < N → nd (lM y) (y.1 12).toNat (str n)) ∧ (∀ p, nd (lM y) (y.1 12).toNat p → ∃ n, n < N ∧ str n = p) ∧ (∀ n l, n < N → l < (y.1 0).toNat → ∃ q : Nat, q < N ∧ y.2 19 (4 * n + l) = (q : Int) ∧ lsy (lM y) (y.1 12).toNat (str n ++ [(l : Int)]) (str q)) ∧ (∀ n, n < N → eS (lM y) (y.1 12).toNat (str n) (y.2 21 n)) ∧ (∀ n m, n < N → m < N → str n = str m → n = m) ∧ (∀ s, s < S → ∃ n : Nat, n < N ∧ y.2 25 s = (n : Int) ∧ y.2 23 n = (s : Int) ∧ bgn (lM y) (y.1 12).toNat (str n)) ∧ (∀ s s', s < s' → s' < S → knm (str (y.2 25 s).toNat) < knm (str (y.2 25 s').toNat)) ∧ (∀ n, n < N → bgn (lM y) (y.1 12).toNat (str n) → ∃ s, s < S ∧ y.2 25 s = (n : Int) ∧ y.2 23 n = (s : Int)) ∧ (∀ n, n < N → ¬ bgn (lM y) (y.1 12).toNat (str n) → y.2 23 n = -9)
def plX (y : MS) : Prop := plR y ∧ ∃ str N S, plN y str N S
theorem lM_eq {x y : MS} (h3 : y.2 13 = x.2 13) (h4 : y.2 14 = x.2 14) : lM y = lM x := by unfold lM; rw [h3, h4]
theorem plR_eq {x y : MS} (h : plR x) (h0 : y.1 0 = x.1 0) (h2 : y.1 12 = x.1 12) (h3 : y.2 13 = x.2 13) (h4 : y.2 14 = x.2 14) : plR y := by
  unfold plR at h ⊢; rw [lM_eq h3 h4, h0, h2, h3, h4]; exact h
theorem bgz_n {L : Nat → List Int} {R nl : Nat} {C : Nat → Int} {str : Nat → List Int} {N n : Nat} (K : yK L R nl C str N) (hn : n < N) : bgz C nl n ↔ bgn L R (str n) := by
  obtain ⟨T, K1, K2, K3, K4⟩ := K
  constructor
  · intro h
    rcases h with h | ⟨l, hl, hC⟩
    · exact Or.inl (by rw [h]; exact T.2.1)
    · rcases T.2.2.1 n l hn (by omega) with hc | ⟨c, c0, c1, ec, es⟩
      · exact absurd hc hC
      · rcases K1 c c1 with h9 | ⟨r, e, hr, he⟩
        · rw [es] at h9; exact absurd h9 (by simp)
        · exact Or.inr ⟨r, (l : Int) :: e, hr, by simp, by rw [he, es]; simp⟩
  · intro h
    rcases h with h | ⟨r, e, hr, h0, he⟩
    · exact Or.inl (T.2.2.2.2 n 0 hn (by have := T.1; omega) (by rw [h, T.2.1]))
    · match e, h0 with
      | l :: e2, _ =>
        have ok := (K3 r hr).2 l (by rw [he]; simp)
        have el : ((l.toNat : Nat) : Int) = l := by omega
        obtain ⟨m, m1, em⟩ := K2 (str n ++ [l]) (Or.inr ⟨r, e2, hr, by rw [he]; simp⟩)
        refine Or.inr ⟨l.toNat, by omega, fun hc => ?_⟩
        exact yT_no T hn (by omega) hc m m1 (by rw [em, el])
theorem F_m_plant_x {x : MS} (pr : plR x) : plX (F_m_plant x).2 := by
  have h : pS x (F_m_plant x).2 ((F_m_plant x).2.1 17).toNat := F_m_plant_p x pr
  have f := F_m_plant_fr x
  generalize (F_m_plant x).2 = y at h f ⊢
  obtain ⟨f0, str, N, ⟨e17, n8, K, Q, G, B, F, A⟩, kN, S, e24, ys⟩ := h
  have e0 : y.1 0 = x.1 0 := f.1 0 (by decide)
  have e12 : y.1 12 = x.1 12 := f.1 12 (by decide)
  have e13 : y.2 13 = x.2 13 := f.2 13 (by decide)
  have e14 : y.2 14 = x.2 14 := f.2 14 (by decide)
  refine ⟨plR_eq pr e0 e12 e13 e14, str, N, S, ?_⟩
  have ek : (y.1 17).toNat = N := by omega
  rw [ek] at ys
  unfold plN
  rw [lM_eq e13 e14, e0, e12]
  have K0 := K
  obtain ⟨T, K1, K2, K3, K4⟩ := K
  obtain ⟨s1, s2, s3, s4, s5⟩ := ys
  have on : ∀ n, n < N → ∃ j, j < N ∧ y.2 22 j = (n : Int) := A
  refine ⟨⟨e17, n8, T.1, e24, s1⟩, T.2.1, K1, K2, ?_, ?_, T.2.2.2.2, ?_, ?_, ?_, ?_⟩
  · intro n l hn hl
    obtain ⟨j, j1, ej⟩ := on n hn
    obtain ⟨q, q1, q2, q3⟩ := G j l hl (Or.inl j1) j1
    rw [ej, Int.toNat_natCast] at q2 q3
    exact ⟨q, q1, q2, q3⟩
  · intro n hn
    obtain ⟨j, j1, ej⟩ := on n hn
    have h9 := F.1 j j1
    rw [ej, Int.toNat_natCast] at h9
    exact h9
  · intro s hs
    obtain ⟨j, j1, j2, j3, j4⟩ := s2 s hs
    have o := Q.2.2.1 j j1
    have eo : (((y.2 22 j).toNat : Nat) : Int) = y.2 22 j := by omega
    exact ⟨(y.2 22 j).toNat, by omega, by rw [eo]; exact j2, j4, (bgz_n K0 (by omega)).mp j3⟩
  · intro s s' h1 h2
    obtain ⟨j, j', a1, a2, a3, a4⟩ := s3 s s' h1 h2
    rw [a3, a4]; exact Q.2.2.2.1 j j' a1 a2
  · intro n hn hb
    obtain ⟨j, j1, ej⟩ := on n hn
    have e9 : y.2 22 j = (n : Int) := ej
    have h9 := s4 j j1
    rw [e9, Int.toNat_natCast] at h9
    exact h9 ((bgz_n K0 hn).mpr hb)
  · intro n hn hb
    obtain ⟨j, j1, ej⟩ := on n hn
    have e9 : y.2 22 j = (n : Int) := ej
    have h9 := s5 j j1
    rw [e9, Int.toNat_natCast] at h9
    exact h9 (fun h => hb ((bgz_n K0 hn).mp h))
/-- no LEFT side ends it where none ends the longest beginning -/
theorem lsy_eS {L : Nat → List Int} {R : Nat} {w p : List Int} (h : lsy L R w p) (hn : ∀ r, r < R → ∀ a, p ≠ a ++ L r) : ∀ r, r < R → ∀ a, w ≠ a ++ L r := by
  intro r hr a e
  obtain ⟨⟨b, eb⟩, n1, m1⟩ := h
  obtain ⟨c, ec⟩ := sfx_sfx eb e (m1 a (L r) e (Or.inr ⟨r, [], hr, by simp⟩))
  exact hn r hr c ec
theorem lsy_lsx {L : Nat → List Int} {R : Nat} {w p : List Int} (h : lsy L R w p) (hn : ∀ r, r < R → ∀ a, p ≠ a ++ L r) : lsx L R w p := by
  obtain ⟨h1, h2, h3⟩ := h
  refine ⟨h1, ?_, fun a q e hq => h3 a q e ?_⟩
  · rcases h2 with h2 | ⟨r, e, hr, he⟩
    · exact Or.inl h2
    · by_cases e0 : e = []
      · rw [e0, List.append_nil] at he
        exact absurd (show p = [] ++ L r by rw [he]; rfl) (hn r hr [])
      · exact Or.inr ⟨r, e, hr, e0, he⟩
  · rcases hq with hq | ⟨r, e, hr, _, he⟩
    · exact Or.inl hq
    · exact Or.inr ⟨r, e, hr, he⟩
theorem plN_next {y : MS} {str : Nat → List Int} {N S : Nat} (h : plN y str N S) {s l : Nat} (hs : s < S) (hl : l < (y.1 0).toNat) : ((F_m_next y (s : Int) (l : Int)).1 = -9 ∧ ∃ r, r < (y.1 12).toNat ∧ ∃ a, str (y.2 25 s).toNat ++ [(l : Int)] = a ++ lM y r) ∨ ∃ t : Nat, t < S ∧ (F_m_next y (s : Int) (l : Int)).1 = (t : Int) ∧ (∀ r, r < (y.1 12).toNat → ∀ a, str (y.2 25 s).toNat ++ [(l : Int)] ≠ a ++ lM y r) ∧ lsx (lM y) (y.1 12).toNat (str (y.2 25 s).toNat ++ [(l : Int)]) (str (y.2 25 t).toNat) := by
  obtain ⟨⟨e17, n8, n0, e24, sN⟩, z0, K1, K2, G, E, J, S1, S2, S3, S4⟩ := h
  obtain ⟨n, n1, n2, n3, n4⟩ := S1 s hs
  obtain ⟨q, q1, q2, q3⟩ := G n l n1 hl
  have ei : (4 * y.2 25 (s : Int).toNat + (l : Int)).toNat = 4 * n + l := by rw [Int.toNat_natCast, n2]; omega
  have en : (y.2 25 s).toNat = n := by rw [n2]; exact Int.toNat_natCast n
  unfold F_m_next
  rw [ei, q2, Int.toNat_natCast, en]
  rcases E q q1 with ⟨e9, hn⟩ | ⟨r, r1, e9, a, ea⟩
  · rw [if_pos e9]
    have lx := lsy_lsx q3 hn
    obtain ⟨t, t1, t2, t3⟩ := S3 q q1 lx.2.1
    refine Or.inr ⟨t, t1, t3, lsy_eS q3 hn, ?_⟩
    rw [t2, Int.toNat_natCast]; exact lx
  · rw [if_neg (by omega)]
    obtain ⟨b, eb⟩ := q3.1
    exact Or.inl ⟨rfl, r, r1, b ++ a, by rw [eb, ea, List.append_assoc]⟩
theorem plX_auOK {y : MS} (h : plX y) : auOK y := by
  obtain ⟨pr, str, N, S, h⟩ := h
  have h0 := h
  obtain ⟨⟨e17, n8, n0, e24, sN⟩, z0, K1, K2, G, E, J, S1, S2, S3, S4⟩ := h
  refine ⟨⟨by omega, by omega, pr.2.1.1, pr.2.1.2⟩, fun g c g0 g1 c0 c1 => ?_⟩
  have eg : g = (g.toNat : Int) := by omega
  have ec : c = (c.toNat : Int) := by omega
  have hs : g.toNat < S := by omega
  have hl : c.toNat < (y.1 0).toNat := by omega
  obtain ⟨n, n1, n2, n3, n4⟩ := S1 g.toNat hs
  obtain ⟨q, q1, q2, q3⟩ := G n c.toNat n1 hl
  have ei : (4 * y.2 25 g.toNat + c).toNat = 4 * n + c.toNat := by rw [n2]; omega
  have nx := plN_next h0 hs hl
  rw [← eg, ← ec] at nx
  have r4 := pr.1
  refine ⟨⟨by omega, by omega, ?_, ?_, ?_⟩, ?_⟩
  · rw [ei, q2]; omega
  · rw [ei, q2]; omega
  · rw [ei, q2, Int.toNat_natCast]
    rcases E q q1 with ⟨e9, _⟩ | ⟨r, r1, e9, _⟩
    · rw [e9]; exact ⟨by decide, by decide⟩
    · rw [e9]; unfold iR; omega
  · rcases nx with ⟨h1, _⟩ | ⟨t, t1, h1, _⟩
    · exact Or.inl h1
    · exact Or.inr (by omega)
