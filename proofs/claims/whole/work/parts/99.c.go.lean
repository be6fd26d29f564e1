-- deps: 99.a 99.b
/-! go, back and ends on that way -/
def eS (L : Nat → List Int) (R : Nat) (u : List Int) (e : Int) : Prop := (e = -9 ∧ ∀ r, r < R → ∀ a, u ≠ a ++ L r) ∨ ∃ r : Nat, r < R ∧ e = (r : Int) ∧ ∃ a, u = a ++ L r
def eX (L : Nat → List Int) (R : Nat) (u : List Int) (e : Int) : Prop := (e = -9 ∧ ∀ r, r < R → u ≠ L r) ∨ ∃ r : Nat, r < R ∧ e = (r : Int) ∧ u = L r
/-- what holds of the tree alone -/
def yK (L : Nat → List Int) (R nl : Nat) (C : Nat → Int) (str : Nat → List Int) (N : Nat) : Prop := yT C str N ∧ (∀ n, n < N → nd L R (str n)) ∧ (∀ p, nd L R p → ∃ n, n < N ∧ str n = p) ∧ (∀ r, r < R → L r ≠ [] ∧ okL nl (L r)) ∧ nl ≤ 4
def yG (L : Nat → List Int) (R nl : Nat) (O G : Nat → Int) (str : Nat → List Int) (N k z t : Nat) : Prop := ∀ h l, l < nl → (h < k ∨ (h = k ∧ l < z)) → h < t → ∃ q : Nat, q < N ∧ G (4 * (O h).toNat + l) = (q : Int) ∧ lsy L R (str (O h).toNat ++ [(l : Int)]) (str q)
def yB (L : Nat → List Int) (R : Nat) (O B : Nat → Int) (str : Nat → List Int) (N t : Nat) : Prop := B 0 = 0 ∧ ∀ j, 0 < j → j < t → ∃ q : Nat, q < N ∧ B (O j).toNat = (q : Int) ∧ lsy L R (str (O j).toNat).tail (str q)
def yF (L : Nat → List Int) (R : Nat) (O E : Nat → Int) (str : Nat → List Int) (N t : Nat) : Prop := (∀ j, j < t → eS L R (str (O j).toNat) (E (O j).toNat)) ∧ ∀ n : Nat, n < N → (∀ j, j < t → O j ≠ (n : Int)) → eX L R (str n) (E n)
section GO
variable {L : Nat → List Int} {R nl : Nat} {C O G B E : Nat → Int} {str : Nat → List Int} {N k z t : Nat}
theorem yK_let (K : yK L R nl C str N) {n l : Nat} (hn : n < N) (hl : nl ≤ l) (l4 : l < 4) : C (4 * n + l) = -9 := by
  rcases K.1.2.2.1 n l hn l4 with h | ⟨c, _, h2, _, h4⟩
  · exact h
  · exfalso
    rcases K.2.1 c h2 with e | ⟨r, e, hr, he⟩
    · rw [h4] at e; exact absurd e (by simp)
    · have := (K.2.2.2.1 r hr).2 (l : Int) (by rw [he, h4]; simp)
      omega
theorem yQ_ne (q : yQ C O str N k z t) {i j : Nat} (hi : i < t) (hj : j < t) (e : O i = O j) : i = j := by
  rcases Nat.lt_trichotomy i j with h | h | h
  · have := q.2.2.2.1 i j h hj; rw [e] at this; exact absurd this (Nat.lt_irrefl _)
  · exact h
  · have := q.2.2.2.1 j i h hi; rw [e] at this; exact absurd this (Nat.lt_irrefl _)
theorem tail_app {u : List Int} {l : Int} (h : u ≠ []) : (u ++ [l]).tail = u.tail ++ [l] := by
  cases u with
  | nil => exact absurd rfl h
  | cons a t => rfl
/-- by: what goes on from the part behind the first LETTER -/
theorem y_by (K : yK L R nl C str N) (q : yQ C O str N k z t) (hk : k < t) (hz : z < nl) (g : yG L R nl O G str N k z t) (b : yB L R O B str N t) : (0 ≤ B (O k).toNat ∧ B (O k).toNat < (N : Int)) ∧ ∃ q1 : Nat, q1 < N ∧ (if (O k).toNat = 0 then 0 else G (4 * (B (O k).toNat).toNat + z)) = (q1 : Int) ∧ lsy L R (str (O k).toNat ++ [(z : Int)]).tail (str q1) := by
  have ok9 := q.2.2.1 k hk
  have n1 := K.1.1
  by_cases c : (O k).toNat = 0
  · refine ⟨by rw [c, b.1]; omega, 0, by omega, if_pos c, ?_⟩
    rw [c, K.1.2.1]
    exact lsy_nil
  · have k0 : 0 < k := by
      rcases Nat.eq_zero_or_pos k with h | h
      · rw [h, q.2.1] at c; exact absurd rfl c
      · exact h
    obtain ⟨q0, a1, a2, a3⟩ := b.2 k k0 hk
    have sne : str (O k).toNat ≠ [] := fun e => c (K.1.2.2.2.2 _ 0 (by omega) (by omega) (by rw [e, K.1.2.1]))
    have short : (str q0).length < (str (O k).toNat).length := by
      obtain ⟨⟨w, e⟩, _, _⟩ := a3
      have l1 := congrArg List.length e
      rw [List.length_append, List.length_tail] at l1
      have := List.length_pos_iff.mpr sne
      omega
    obtain ⟨h, h1, h2⟩ := yQ_all K.1 q hk q0 a1 (knm_short short)
    obtain ⟨q1, b1, b2, b3⟩ := g h z hz (Or.inl h1) (by omega)
    rw [h2, Int.toNat_natCast] at b2 b3
    refine ⟨by rw [a2]; omega, q1, b1, by rw [if_neg c, a2, Int.toNat_natCast]; exact b2, ?_⟩
    rw [tail_app sne]
    exact lsy_next a3 b3
theorem y_cons {u : List Int} {l : Int} : ∃ x0, u ++ [l] = x0 :: (u ++ [l]).tail := by
  cases u with
  | nil => exact ⟨l, rfl⟩
  | cons a t => exact ⟨a, rfl⟩
theorem yG_up (q : yQ C O str N k z t) (hk : k < t) {v : Nat} (g : yG L R nl O G str N k z t) (hv : v < N) (hz4 : z < 4) (n4 : nl ≤ 4) (ls : lsy L R (str (O k).toNat ++ [(z : Int)]) (str v)) : yG L R nl O (iU G (4 * (O k).toNat + z) (v : Int)) str N k (z + 1) t := by
  intro h l hl hc ht
  have oh := q.2.2.1 h ht
  have ok9 := q.2.2.1 k hk
  by_cases e : h = k ∧ l = z
  · obtain ⟨e1, e2⟩ := e
    subst e1 e2
    exact ⟨v, hv, iU_s, ls⟩
  · have ne : 4 * (O h).toNat + l ≠ 4 * (O k).toNat + z := fun e9 => by
      have : (O h).toNat = (O k).toNat := by omega
      exact e ⟨yQ_ne q ht hk (by omega), by omega⟩
    rw [iU_n ne]
    exact g h l hl (by rcases hc with hc | ⟨hc, hl9⟩; exact Or.inl hc; exact Or.inr ⟨hc, by omega⟩) ht
theorem y_none (K : yK L R nl C str N) (q : yQ C O str N k z t) (hk : k < t) (hz : z < nl) (hC : C (4 * (O k).toNat + z) = -9) {q1 : Nat} (h2 : lsy L R (str (O k).toNat ++ [(z : Int)]).tail (str q1)) : lsy L R (str (O k).toNat ++ [(z : Int)]) (str q1) := by
  have ok9 := q.2.2.1 k hk
  have hz4 : z < 4 := by have := K.2.2.2.2; omega
  obtain ⟨x0, e⟩ := y_cons (u := str (O k).toNat) (l := (z : Int))
  have nn : ¬ nd L R (str (O k).toNat ++ [(z : Int)]) := fun hn => by
    obtain ⟨m, m1, m2⟩ := K.2.2.1 _ hn
    exact yT_no K.1 (by omega) hz4 hC m m1 m2
  rw [e] at nn ⊢
  exact lsy_cut nn h2
theorem y_step0 (K : yK L R nl C str N) (q : yQ C O str N k z t) (hk : k < t) (hz : z < nl) (g : yG L R nl O G str N k z t) (hC : C (4 * (O k).toNat + z) = -9) {q1 : Nat} (h1 : q1 < N) (h2 : lsy L R (str (O k).toNat ++ [(z : Int)]).tail (str q1)) : yQ C O str N k (z + 1) t ∧ yG L R nl O (iU G (4 * (O k).toNat + z) (q1 : Int)) str N k (z + 1) t :=
  ⟨yQ_skip q hC, yG_up q hk g h1 (by have := K.2.2.2.2; omega) K.2.2.2.2 (y_none K q hk hz hC h2)⟩
theorem y_step1 (K : yK L R nl C str N) (q : yQ C O str N k z t) (hk : k < t) (hz : z < nl) (g : yG L R nl O G str N k z t) (b : yB L R O B str N t) (f : yF L R O E str N t) {c q1 : Nat} (hC : C (4 * (O k).toNat + z) = (c : Int)) (h1 : q1 < N) (h2 : lsy L R (str (O k).toNat ++ [(z : Int)]).tail (str q1)) :
    c < N ∧ 0 < c ∧ yQ C (iU O t (c : Int)) str N k (z + 1) (t + 1) ∧ yG L R nl (iU O t (c : Int)) (iU G (4 * (O k).toNat + z) (c : Int)) str N k (z + 1) (t + 1) ∧ yB L R (iU O t (c : Int)) (iU B c (q1 : Int)) str N (t + 1) ∧ yF L R (iU O t (c : Int)) (iU E c (if E c = -9 then E q1 else E c)) str N (t + 1) := by
  have ok9 := q.2.2.1 k hk
  have n4 := K.2.2.2.2
  have hz4 : z < 4 := by omega
  obtain ⟨c1, c2, c3, c4⟩ := key_child K.1 (n := (O k).toNat) (by omega) hz4 hC
  obtain ⟨Q, fresh, low⟩ := yQ_push K.1 q hk hz4 hC
  have top : iU O t (c : Int) t = (c : Int) := iU_s
  have gk : lsy L R (str (O k).toNat ++ [(z : Int)]) (str c) := by rw [← c3]; exact lsy_self (K.2.1 c c1)
  have G1 := yG_up q hk g c1 hz4 n4 gk
  rw [← c3] at h2
  refine ⟨c1, c2, Q, ?_, ?_, ?_⟩
  · intro h l hl hc ht
    have hht : h < t := by rcases hc with hc | ⟨hc, _⟩ <;> omega
    rw [low h hht]
    exact G1 h l hl hc hht
  · refine ⟨by rw [iU_n (by omega)]; exact b.1, fun j h0 hj => ?_⟩
    by_cases e : j = t
    · rw [e, top, Int.toNat_natCast]
      exact ⟨q1, h1, iU_s, h2⟩
    · have hjt : j < t := by omega
      have oj := q.2.2.1 j hjt
      rw [low j hjt, iU_n (by have := fresh j hjt; omega)]
      exact b.2 j h0 hjt
  · have cne : str c ≠ [] := by rw [c3]; simp
    obtain ⟨x0, ex⟩ : ∃ x0, str c = x0 :: (str c).tail := by
      cases hs : str c with
      | nil => exact absurd hs cne
      | cons a t => exact ⟨a, rfl⟩
    have fx := f.2 c c1 fresh
    have kq : knm (str q1) < knm (str c) := by
      obtain ⟨⟨w, e⟩, _, _⟩ := h2
      have l1 := congrArg List.length e
      rw [List.length_append, List.length_tail] at l1
      have := List.length_pos_iff.mpr cne
      exact knm_short (by omega)
    obtain ⟨j1, hj1, ej1⟩ := yQ_all2 K.1 q hk hz4 q1 h1 (by omega)
    have fq := f.1 j1 hj1
    rw [ej1, Int.toNat_natCast] at fq
    have newE : eS L R (str c) (if E c = -9 then E q1 else E c) := by
      rcases fx with ⟨e9, no⟩ | ⟨r, hr, er, sr⟩
      · rw [if_pos e9]
        obtain ⟨⟨w, ew⟩, _, mx⟩ := h2
        rcases fq with ⟨f9, fno⟩ | ⟨r, hr, er, a, ea⟩
        · refine Or.inl ⟨f9, fun r hr a e => ?_⟩
          cases a with
          | nil => exact no r hr (by rw [e]; rfl)
          | cons y a =>
            have et : (str c).tail = a ++ L r := by rw [e]; rfl
            have ll := mx a (L r) et (Or.inr ⟨r, [], hr, by rw [List.append_nil]⟩)
            obtain ⟨d, ed⟩ := sfx_sfx ew et ll
            exact fno r hr d ed
        · refine Or.inr ⟨r, hr, er, x0 :: (w ++ a), ?_⟩
          rw [ex, ew, ea]
          simp
      · rw [if_neg (by rw [er]; omega)]
        exact Or.inr ⟨r, hr, er, [], by rw [sr]; rfl⟩
    refine ⟨fun j hj => ?_, fun n hn hf => ?_⟩
    · by_cases e : j = t
      · rw [e, top, Int.toNat_natCast, iU_s]
        exact newE
      · have hjt : j < t := by omega
        have oj := q.2.2.1 j hjt
        rw [low j hjt, iU_n (by have := fresh j hjt; omega)]
        exact f.1 j hjt
    · have nc : n ≠ c := fun e => hf t (by omega) (by rw [top, e])
      rw [iU_n nc]
      exact f.2 n hn (fun j hj => by have := hf j (by omega); rw [low j hj] at this; exact this)
theorem y_on (K : yK L R nl C str N) (q : yQ C O str N k z t) (hk : k < t) (hz : nl ≤ z) (g : yG L R nl O G str N k z t) : yQ C O str N (k + 1) 0 t ∧ yG L R nl O G str N (k + 1) 0 t := by
  have ok9 := q.2.2.1 k hk
  refine ⟨yQ_on q (fun l h1 h2 => yK_let K (by omega) (by omega) h2), fun h l hl hc ht => ?_⟩
  by_cases e : h = k
  · exact g h l hl (Or.inr ⟨e, by omega⟩) ht
  · exact g h l hl (Or.inl (by rcases hc with hc | ⟨_, hc⟩ <;> omega)) ht
theorem y_start (K : yK L R nl C str N) (hO : O 0 = 0) (hB : B 0 = 0) (hE : ∀ n, n < N → eX L R (str n) (E n)) : yQ C O str N 0 0 1 ∧ yG L R nl O G str N 0 0 1 ∧ yB L R O B str N 1 ∧ yF L R O E str N 1 := by
  have n1 := K.1.1
  refine ⟨⟨by omega, hO, fun j hj => ?_, fun i j hij hj => by omega, fun j h0 hj => by omega, fun h l _ hc => by rcases hc with hc | ⟨_, hc⟩ <;> omega⟩, fun h l _ hc => by rcases hc with hc | ⟨_, hc⟩ <;> omega, ⟨hB, fun j h0 hj => by omega⟩, ⟨fun j hj => ?_, fun n hn _ => hE n hn⟩⟩
  · have : j = 0 := by omega
    rw [this, hO]; omega
  · have : j = 0 := by omega
    rw [this, hO]
    show eS L R (str 0) (E 0)
    rw [K.1.2.1]
    left
    have h0 := hE 0 (by omega)
    rw [K.1.2.1] at h0
    rcases h0 with ⟨e, _⟩ | ⟨r, hr, _, e⟩
    · refine ⟨e, fun r hr a ea => (K.2.2.2.1 r hr).1 ?_⟩
      have := congrArg List.length ea
      rw [List.length_append] at this
      exact List.length_eq_zero_iff.mp (by simp at this; omega)
    · exact absurd e.symm (K.2.2.2.1 r hr).1
end GO
