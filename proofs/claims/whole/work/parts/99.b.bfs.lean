-- deps: 99.a
/-! Nodes are the beginnings of LEFT sides; the way in ORDER through them -/
def nd (L : Nat → List Int) (R : Nat) (p : List Int) : Prop := p = [] ∨ ∃ r e, r < R ∧ L r = p ++ e
def lsy (L : Nat → List Int) (R : Nat) (w p : List Int) : Prop := (∃ a, w = a ++ p) ∧ nd L R p ∧ ∀ a q, w = a ++ q → nd L R q → q.length ≤ p.length
section ND
variable {L : Nat → List Int} {R : Nat}
theorem nd_init {s : List Int} {l : Int} (h : nd L R (s ++ [l])) : nd L R s := by
  rcases h with h | ⟨r, e, h1, h2⟩
  · exact absurd h (by simp)
  · exact Or.inr ⟨r, l :: e, h1, by rw [h2]; simp⟩
theorem lsy_self {w : List Int} (h : nd L R w) : lsy L R w w := ⟨⟨[], rfl⟩, h, fun a q e _ => by rw [e, List.length_append]; omega⟩
theorem lsy_nil : lsy L R [] [] := lsy_self (Or.inl rfl)
theorem lsy_one {w p q : List Int} (h1 : lsy L R w p) (h2 : lsy L R w q) : p = q := by
  obtain ⟨⟨a, ea⟩, n1, m1⟩ := h1
  obtain ⟨⟨b, eb⟩, n2, m2⟩ := h2
  have l1 := m1 b q eb n2
  have l2 := m2 a p ea n1
  have e := ea.symm.trans eb
  exact (List.append_inj' e (by omega)).2
theorem lsy_next {w p q : List Int} {l : Int} (hp : lsy L R w p) (hq : lsy L R (p ++ [l]) q) : lsy L R (w ++ [l]) q := by
  obtain ⟨⟨a, ea⟩, n1, m1⟩ := hp
  obtain ⟨⟨b, eb⟩, n2, m2⟩ := hq
  refine ⟨⟨a ++ b, by rw [ea, List.append_assoc, eb, List.append_assoc]⟩, n2, fun c u e hu => ?_⟩
  by_cases hz : u = []
  · rw [hz]; exact Nat.zero_le _
  · obtain ⟨s, es, ew⟩ := sfx_last e hz
    have ls := m1 c s ew (nd_init (by rw [← es]; exact hu))
    obtain ⟨d, ed⟩ := sfx_sfx ea ew ls
    exact m2 d u (by rw [ed, List.append_assoc, es]) hu
theorem lsy_cut {x0 : Int} {t p : List Int} (hn : ¬ nd L R (x0 :: t)) (h : lsy L R t p) : lsy L R (x0 :: t) p := by
  obtain ⟨⟨a, ea⟩, n1, m1⟩ := h
  refine ⟨⟨x0 :: a, by rw [ea]; rfl⟩, n1, fun b q e hq => ?_⟩
  cases b with
  | nil => exact absurd hq (by rw [← show x0 :: t = q from e]; exact hn)
  | cons y b =>
    have e2 : x0 :: t = y :: (b ++ q) := e
    exact m1 b q (List.cons.inj e2).2 hq
end ND
theorem knm_inj : ∀ (k : Nat) (u v : List Int), u.length = k → okL 4 u → okL 4 v → knm u = knm v → u = v := by
  intro k
  induction k with
  | zero =>
    intro u v hu _ hv e
    have : u = [] := List.length_eq_zero_iff.mp hu
    subst this
    cases v with
    | nil => rfl
    | cons a t =>
      have := knm_ge a t
      have h1 := k5_1 t.length
      have e0 : knm [] = 0 := rfl
      omega
  | succ k ih =>
    intro u v hu ou ov e
    have hune : u ≠ [] := by intro h; rw [h] at hu; exact absurd hu (by simp)
    obtain ⟨s, a, eu⟩ := snoc_of u hune
    subst eu
    have ka : kd a = a.toNat + 1 := by have := ou a (List.mem_append_right _ (List.mem_singleton.mpr rfl)); unfold kd; omega
    rw [knm_snoc] at e
    have hvne : v ≠ [] := by
      intro h
      rw [h] at e
      have e0 : knm [] = 0 := rfl
      have := (kd_b a).1
      omega
    obtain ⟨t, b, ev⟩ := snoc_of v hvne
    subst ev
    have kb : kd b = b.toNat + 1 := by have := ov b (List.mem_append_right _ (List.mem_singleton.mpr rfl)); unfold kd; omega
    rw [knm_snoc] at e
    have ba := kd_b a
    have bb := kd_b b
    have e1 : knm s = knm t := by omega
    have e2 : kd a = kd b := by omega
    have oa := ou a (List.mem_append_right _ (List.mem_singleton.mpr rfl))
    have ob := ov b (List.mem_append_right _ (List.mem_singleton.mpr rfl))
    have eab : a = b := by omega
    have es := ih s t (by rw [List.length_append, List.length_singleton] at hu; omega) (fun l hl => ou l (List.mem_append_left _ hl)) (fun l hl => ov l (List.mem_append_left _ hl)) e1
    rw [es, eab]
/-- no more than there are -/
theorem pigeon : ∀ (N t : Nat) (f : Nat → Nat), (∀ i, i < t → f i < N) → (∀ i j, i < j → j < t → f i ≠ f j) → t ≤ N := by
  intro N
  induction N with
  | zero =>
    intro t f h _
    rcases Nat.eq_zero_or_pos t with h0 | h0
    · omega
    · exact absurd (h 0 h0) (by omega)
  | succ N ih =>
    intro t f h1 h2
    by_cases c : ∃ i, i < t ∧ f i = N
    · obtain ⟨i0, hi, ei⟩ := c
      have key := ih (t - 1) (fun j => if j < i0 then f j else f (j + 1)) (fun j hj => ?_) (fun i j hij hj => ?_)
      · omega
      · show (if j < i0 then f j else f (j + 1)) < N
        by_cases cj : j < i0
        · rw [if_pos cj]
          have a := h1 j (by omega)
          have b := h2 j i0 cj hi
          omega
        · rw [if_neg cj]
          have a := h1 (j + 1) (by omega)
          have b := h2 i0 (j + 1) (by omega) (by omega)
          omega
      · show (if i < i0 then f i else f (i + 1)) ≠ (if j < i0 then f j else f (j + 1))
        by_cases ci : i < i0 <;> by_cases cj : j < i0
        · rw [if_pos ci, if_pos cj]; exact h2 i j hij (by omega)
        · rw [if_pos ci, if_neg cj]; exact h2 i (j + 1) (by omega) (by omega)
        · exfalso; omega
        · rw [if_neg ci, if_neg cj]; exact h2 (i + 1) (j + 1) (by omega) (by omega)
    · have := ih t f (fun i hi => by have a := h1 i hi; have b : f i ≠ N := fun e => c ⟨i, hi, e⟩; omega) h2
      omega
section TR
variable {C : Nat → Int} {str : Nat → List Int} {N : Nat}
theorem yT_ok (t : yT C str N) : ∀ n, n < N → okL 4 (str n) := by
  intro n
  induction n using Nat.strongRecOn with
  | _ n ih =>
    intro hn
    rcases Nat.eq_zero_or_pos n with h | h
    · rw [h, t.2.1]; exact fun l hl => absurd hl List.not_mem_nil
    · obtain ⟨p, l, k1, k2, _, k4⟩ := yT_par t h hn
      rw [k4]
      intro q hq
      rcases List.mem_append.mp hq with h1 | h1
      · exact ih p k1 (by omega) q h1
      · rw [List.mem_singleton] at h1
        rw [h1]
        constructor
        · omega
        · show (l : Int) < ((4 : Nat) : Int); omega
theorem yT_pfx (t : yT C str N) : ∀ c, c < N → ∀ p e, str c = p ++ e → ∃ n, n < N ∧ str n = p := by
  intro c
  induction c using Nat.strongRecOn with
  | _ c ih =>
    intro hc p e h
    by_cases he : e = []
    · exact ⟨c, hc, by rw [h, he, List.append_nil]⟩
    · have c0 : 0 < c := by
        rcases Nat.eq_zero_or_pos c with h0 | h0
        · rw [h0, t.2.1] at h
          have : e = [] := by
            have := congrArg List.length h
            rw [List.length_append] at this
            exact List.length_eq_zero_iff.mp (by simp at this; omega)
          exact absurd this he
        · exact h0
      obtain ⟨n, l, k1, _, _, k4⟩ := yT_par t c0 hc
      obtain ⟨s, a, es⟩ := snoc_of e he
      rw [k4, es, ← List.append_assoc] at h
      exact ih n k1 (by omega) p s (List.append_inj' h rfl).1
/-- the string of a child that isn't there is no node's -/
theorem yT_no (t : yT C str N) {n l : Nat} (hn : n < N) (hl : l < 4) (h : C (4 * n + l) = -9) : ∀ m, m < N → str m ≠ str n ++ [(l : Int)] := by
  intro m hm e
  have m0 : 0 < m := by
    rcases Nat.eq_zero_or_pos m with h0 | h0
    · rw [h0, t.2.1] at e; exact absurd e.symm (by simp)
    · exact h0
  obtain ⟨p, q, k1, k2, k3, k4⟩ := yT_par t m0 hm
  rw [k4] at e
  have e2 := List.append_inj' e rfl
  have ep : p = n := t.2.2.2.2 p n (by omega) hn e2.1
  have el : (q : Int) = (l : Int) := by simpa using e2.2
  have el : q = l := by omega
  subst ep el
  rw [h] at k3
  omega
/-- the waiting row at (k, z): O the order, t its end -/
def yQ (C O : Nat → Int) (str : Nat → List Int) (N k z t : Nat) : Prop := 1 ≤ t ∧ O 0 = 0 ∧ (∀ j, j < t → 0 ≤ O j ∧ O j < (N : Int)) ∧ (∀ i j, i < j → j < t → knm (str (O i).toNat) < knm (str (O j).toNat)) ∧ (∀ j, 0 < j → j < t → ∃ h l, l < 4 ∧ (h < k ∨ (h = k ∧ l < z)) ∧ h < t ∧ C (4 * (O h).toNat + l) = O j) ∧ (∀ h l, l < 4 → (h < k ∨ (h = k ∧ l < z)) → h < t → C (4 * (O h).toNat + l) ≠ -9 → ∃ j, j < t ∧ O j = C (4 * (O h).toNat + l))
theorem yQ_mono {O : Nat → Int} {k z t : Nat} (q : yQ C O str N k z t) {i j : Nat} (h : i ≤ j) (hj : j < t) : knm (str (O i).toNat) ≤ knm (str (O j).toNat) := by
  rcases Nat.lt_or_eq_of_le h with h | h
  · exact Nat.le_of_lt (q.2.2.2.1 i j h hj)
  · rw [h]; exact Nat.le_refl _
theorem key_child (t : yT C str N) {n l c : Nat} (hn : n < N) (hl : l < 4) (hc : C (4 * n + l) = (c : Int)) : c < N ∧ 0 < c ∧ str c = str n ++ [(l : Int)] ∧ knm (str c) = knm (str n) * 5 + (l + 1) := by
  rcases t.2.2.1 n l hn hl with h | ⟨c', h1, h2, h3, h4⟩
  · rw [hc] at h; omega
  · have : c' = c := by rw [hc] at h3; omega
    subst this
    refine ⟨h2, h1, h4, ?_⟩
    rw [h4, knm_snoc]
    have : kd (l : Int) = l + 1 := by unfold kd; omega
    rw [this]
/-- who is ahead of the row's next is in the row -/
theorem yQ_all {O : Nat → Int} {k z t : Nat} (tr : yT C str N) (q : yQ C O str N k z t) (hk : k < t) : ∀ n, n < N → knm (str n) < knm (str (O k).toNat) → ∃ j, j < k ∧ O j = (n : Int) := by
  intro n
  induction n using Nat.strongRecOn with
  | _ n ih =>
    intro hn hkey
    rcases Nat.eq_zero_or_pos n with h | h
    · subst h
      refine ⟨0, ?_, by rw [q.2.1]; rfl⟩
      rcases Nat.eq_zero_or_pos k with h0 | h0
      · rw [h0, q.2.1] at hkey
        exact absurd hkey (Nat.lt_irrefl _)
      · exact h0
    · obtain ⟨p, l, k1, k2, k3, k4⟩ := yT_par tr h hn
      have kc := (key_child tr (by omega) k2 k3).2.2.2
      obtain ⟨hh, h1, h2⟩ := ih p k1 (by omega) (by omega)
      obtain ⟨j, j1, j2⟩ := q.2.2.2.2.2 hh l k2 (Or.inl h1) (by omega) (by rw [h2, Int.toNat_natCast, k3]; omega)
      rw [h2, Int.toNat_natCast, k3] at j2
      refine ⟨j, ?_, j2⟩
      rcases Nat.lt_or_ge j k with h9 | h9
      · exact h9
      · have := yQ_mono q h9 j1
        rw [j2, Int.toNat_natCast] at this
        omega
theorem yQ_all2 {O : Nat → Int} {k z t : Nat} (tr : yT C str N) (q : yQ C O str N k z t) (hk : k < t) (hz : z < 4) : ∀ n, n < N → knm (str n) < knm (str (O k).toNat) * 5 + (z + 1) → ∃ j, j < t ∧ O j = (n : Int) := by
  intro n hn hkey
  have ok9 := q.2.2.1 k hk
  rcases Nat.eq_zero_or_pos n with h | h
  · subst h
    exact ⟨0, q.1, by rw [q.2.1]; rfl⟩
  · obtain ⟨p, l, k1, k2, k3, k4⟩ := yT_par tr h hn
    have kc := (key_child tr (by omega) k2 k3).2.2.2
    rcases Nat.lt_trichotomy (knm (str p)) (knm (str (O k).toNat)) with c | c | c
    · obtain ⟨hh, h1, h2⟩ := yQ_all tr q hk p (by omega) c
      obtain ⟨j, j1, j2⟩ := q.2.2.2.2.2 hh l k2 (Or.inl h1) (by omega) (by rw [h2, Int.toNat_natCast, k3]; omega)
      rw [h2, Int.toNat_natCast, k3] at j2
      exact ⟨j, j1, j2⟩
    · have ep : str p = str (O k).toNat := knm_inj _ _ _ rfl (yT_ok tr p (by omega)) (yT_ok tr _ (by omega)) c
      have ep : p = (O k).toNat := tr.2.2.2.2 p _ (by omega) (by omega) ep
      obtain ⟨j, j1, j2⟩ := q.2.2.2.2.2 k l k2 (Or.inr ⟨rfl, by omega⟩) hk (by rw [← ep, k3]; omega)
      rw [← ep, k3] at j2
      exact ⟨j, j1, j2⟩
    · exfalso; omega
theorem yQ_len {O : Nat → Int} {k z t : Nat} (q : yQ C O str N k z t) : t ≤ N := by
  refine pigeon N t (fun j => (O j).toNat) (fun j hj => by have := q.2.2.1 j hj; omega) (fun i j hij hj e => ?_)
  have := q.2.2.2.1 i j hij hj
  have e : (O i).toNat = (O j).toNat := e
  rw [e] at this
  exact Nat.lt_irrefl _ this
theorem yQ_skip {O : Nat → Int} {k z t : Nat} (q : yQ C O str N k z t) (h : C (4 * (O k).toNat + z) = -9) : yQ C O str N k (z + 1) t := by
  obtain ⟨q1, q2, q3, q4, q5, q6⟩ := q
  refine ⟨q1, q2, q3, q4, fun j h0 hj => ?_, fun hh l hl hc ht hn => ?_⟩
  · obtain ⟨a, b, c, d, e, f⟩ := q5 j h0 hj
    exact ⟨a, b, c, d.imp id (fun g => ⟨g.1, by omega⟩), e, f⟩
  · rcases hc with hc | ⟨hc, hz⟩
    · exact q6 hh l hl (Or.inl hc) ht hn
    · by_cases e : l = z
      · subst hc e; exact absurd h hn
      · exact q6 hh l hl (Or.inr ⟨hc, by omega⟩) ht hn
theorem yQ_push {O : Nat → Int} {k z t : Nat} (tr : yT C str N) (q : yQ C O str N k z t) (hk : k < t) (hz : z < 4) {c : Nat} (h : C (4 * (O k).toNat + z) = (c : Int)) : yQ C (iU O t (c : Int)) str N k (z + 1) (t + 1) ∧ (∀ j, j < t → O j ≠ (c : Int)) ∧ ∀ j, j < t → iU O t (c : Int) j = O j := by
  have ok9 := q.2.2.1 k hk
  obtain ⟨c1, c2, c3, c4⟩ := key_child tr (n := (O k).toNat) (by omega) hz h
  obtain ⟨q1, q2, q3, q4, q5, q6⟩ := id q
  have low : ∀ j, j < t → iU O t (c : Int) j = O j := fun j hj => iU_n (by omega)
  have top : iU O t (c : Int) t = (c : Int) := iU_s
  have less : ∀ i, i < t → knm (str (O i).toNat) < knm (str c) := by
    intro i hi
    rcases Nat.eq_zero_or_pos i with e | e
    · rw [e, q2]
      show knm (str 0) < _
      rw [tr.2.1]
      have e0 : knm [] = 0 := rfl
      omega
    · obtain ⟨hh, l, l4, hc, ht, hC⟩ := q5 i e hi
      have oh := q3 hh ht
      have oi := q3 i hi
      have kc := (key_child tr (n := (O hh).toNat) (l := l) (c := (O i).toNat) (by omega) l4 (by rw [hC]; omega)).2.2.2
      rcases hc with hc | ⟨hc, hl⟩
      · have := q4 hh k hc hk
        omega
      · rw [hc] at kc
        omega
  refine ⟨⟨by omega, by rw [low 0 (by omega)]; exact q2, fun j hj => ?_, fun i j hij hj => ?_, fun j h0 hj => ?_, fun hh l hl hc ht hn => ?_⟩, fun j hj e => ?_, low⟩
  · by_cases e : j = t
    · rw [e, top]; omega
    · rw [low j (by omega)]; exact q3 j (by omega)
  · rw [low i (by omega)]
    by_cases e : j = t
    · rw [e, top, Int.toNat_natCast]; exact less i (by omega)
    · rw [low j (by omega)]; exact q4 i j hij (by omega)
  · by_cases e : j = t
    · refine ⟨k, z, hz, Or.inr ⟨rfl, by omega⟩, by omega, ?_⟩
      rw [low k hk, h, e, top]
    · obtain ⟨a, b, c', d, e', f⟩ := q5 j h0 (by omega)
      exact ⟨a, b, c', d.imp id (fun g => ⟨g.1, by omega⟩), by omega, by rw [low a e', low j (by omega)]; exact f⟩
  · have hht : hh < t := by rcases hc with hc | ⟨hc, _⟩ <;> omega
    rw [low hh hht] at hn ⊢
    by_cases e : hh = k ∧ l = z
    · refine ⟨t, by omega, ?_⟩
      rw [top, e.1, e.2, h]
    · obtain ⟨j, j1, j2⟩ := q6 hh l hl (by rcases hc with hc | ⟨hc, hl9⟩; exact Or.inl hc; exact Or.inr ⟨hc, by omega⟩) hht hn
      exact ⟨j, by omega, by rw [low j j1]; exact j2⟩
  · have := less j hj
    rw [e, Int.toNat_natCast] at this
    exact Nat.lt_irrefl _ this
theorem yQ_on {O : Nat → Int} {k z t : Nat} (q : yQ C O str N k z t) (h : ∀ l, z ≤ l → l < 4 → C (4 * (O k).toNat + l) = -9) : yQ C O str N (k + 1) 0 t := by
  obtain ⟨q1, q2, q3, q4, q5, q6⟩ := q
  refine ⟨q1, q2, q3, q4, fun j h0 hj => ?_, fun hh l hl hc ht hn => ?_⟩
  · obtain ⟨a, b, c, d, e, f⟩ := q5 j h0 hj
    exact ⟨a, b, c, Or.inl (by rcases d with d | d <;> omega), e, f⟩
  · by_cases e : hh = k
    · by_cases e2 : l < z
      · exact q6 hh l hl (Or.inr ⟨e, e2⟩) ht hn
      · rw [e] at hn
        exact absurd (h l (by omega) hl) hn
    · exact q6 hh l hl (Or.inl (by rcases hc with hc | ⟨_, hc⟩ <;> omega)) ht hn
/-- at the end all are in the row -/
theorem yQ_end {O : Nat → Int} {t : Nat} (tr : yT C str N) (q : yQ C O str N t 0 t) : t = N ∧ ∀ n, n < N → ∃ j, j < t ∧ O j = (n : Int) := by
  have all : ∀ n, n < N → ∃ j, j < t ∧ O j = (n : Int) := by
    intro n
    induction n using Nat.strongRecOn with
    | _ n ih =>
      intro hn
      rcases Nat.eq_zero_or_pos n with h | h
      · subst h
        exact ⟨0, q.1, by rw [q.2.1]; rfl⟩
      · obtain ⟨p, l, k1, k2, k3, k4⟩ := yT_par tr h hn
        obtain ⟨hh, h1, h2⟩ := ih p k1 (by omega)
        obtain ⟨j, j1, j2⟩ := q.2.2.2.2.2 hh l k2 (Or.inl h1) h1 (by rw [h2, Int.toNat_natCast, k3]; omega)
        rw [h2, Int.toNat_natCast, k3] at j2
        exact ⟨j, j1, j2⟩
  refine ⟨?_, all⟩
  have l1 := yQ_len q
  have l2 : N ≤ t := by
    have ch : ∀ n, ∃ j, n < N → j < t ∧ O j = (n : Int) := fun n => by
      by_cases c : n < N
      · obtain ⟨j, h⟩ := all n c
        exact ⟨j, fun _ => h⟩
      · exact ⟨0, fun h => absurd h c⟩
    refine pigeon t N (fun n => Classical.choose (ch n)) (fun i hi => (Classical.choose_spec (ch i) hi).1) (fun i j hij hj e => ?_)
    have a := (Classical.choose_spec (ch i) (by omega)).2
    have b := (Classical.choose_spec (ch j) hj).2
    have e : Classical.choose (ch i) = Classical.choose (ch j) := e
    rw [e] at a
    omega
  omega
end TR
