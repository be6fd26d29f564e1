-- deps: 02 03 09 70 71 72 74
/-! The reference's tree of LEFT sides -/
theorem yU_s {x : MS} {k i : Nat} {v : Int} : (aU x k i v).2 k = iU (x.2 k) i v := if_pos rfl
theorem yU_n {x : MS} {k i q : Nat} {v : Int} (h : q ≠ k) : (aU x k i v).2 q = x.2 q := if_neg h
theorem yS_s {x : MS} {k : Nat} {v : Int} : (sU x k v).1 k = v := iU_s
theorem yS_n {x : MS} {k q : Nat} {v : Int} (h : q ≠ k) : (sU x k v).1 q = x.1 q := iU_n h
theorem yU_if (f : Nat → Int) (p i : Nat) (v : Int) : iU f p v i = if i = p then v else f i := by
  by_cases h : i = p
  · rw [if_pos h, h]; exact iU_s
  · rw [if_neg h]; exact iU_n h
/-- LEFT side r of the reference -/
def lM (x : MS) (r : Nat) : List Int := (List.range (x.2 13 r).toNat).map (fun i => x.2 14 (24 * r + i))
def rM (x : MS) (r : Nat) : List Int := (List.range (x.2 15 r).toNat).map (fun i => x.2 16 (24 * r + i))
theorem lM_len (x : MS) (r : Nat) : (lM x r).length = (x.2 13 r).toNat := by unfold lM; rw [List.length_map, List.length_range]
theorem lM_get {x : MS} {r i : Nat} (h : i < (lM x r).length) : (lM x r)[i] = x.2 14 (24 * r + i) := by
  have h2 : (lM x r)[i]? = some (x.2 14 (24 * r + i)) := by
    unfold lM
    rw [List.getElem?_map, List.getElem?_range (by rw [lM_len] at h; exact h)]
    rfl
  exact (List.getElem?_eq_some_iff.mp h2).2
/-- what plant needs of the RULES -/
def plR (x : MS) : Prop := (0 ≤ x.1 12 ∧ x.1 12 ≤ 40) ∧ (1 ≤ x.1 0 ∧ x.1 0 ≤ 4) ∧ (∀ r : Nat, (r : Int) < x.1 12 → (1 ≤ x.2 13 r ∧ x.2 13 r ≤ 20) ∧ ∀ i : Nat, (i : Int) < x.2 13 r → 0 ≤ x.2 14 (24 * r + i) ∧ x.2 14 (24 * r + i) < x.1 0) ∧ (∀ r q : Nat, (r : Int) < x.1 12 → (q : Int) < x.1 12 → lM x r = lM x q → r = q)
/-- the tree: C the children, str what stands along the way to a node -/
def yT (C : Nat → Int) (str : Nat → List Int) (N : Nat) : Prop := 1 ≤ N ∧ str 0 = [] ∧ (∀ n l : Nat, n < N → l < 4 → C (4 * n + l) = -9 ∨ ∃ c : Nat, 0 < c ∧ c < N ∧ C (4 * n + l) = (c : Int) ∧ str c = str n ++ [(l : Int)]) ∧ (∀ c : Nat, 0 < c → c < N → ∃ n l : Nat, n < c ∧ l < 4 ∧ C (4 * n + l) = (c : Int)) ∧ (∀ a b : Nat, a < N → b < N → str a = str b → a = b)
theorem yT_par {C : Nat → Int} {str : Nat → List Int} {N : Nat} (t : yT C str N) {c : Nat} (h0 : 0 < c) (h1 : c < N) : ∃ n l : Nat, n < c ∧ l < 4 ∧ C (4 * n + l) = (c : Int) ∧ str c = str n ++ [(l : Int)] := by
  obtain ⟨n, l, hn, hl, e⟩ := t.2.2.2.1 c h0 h1
  rcases t.2.2.1 n l (by omega) hl with h | ⟨c', _, _, e', s⟩
  · rw [e] at h; exact absurd h (by omega)
  · have : c' = c := by rw [e] at e'; omega
    subst this
    exact ⟨n, l, hn, hl, e, s⟩
theorem yT_add {C C' : Nat → Int} {str : Nat → List Int} {N g l : Nat} (t : yT C str N) (hg : g < N) (hl : l < 4) (hn : C (4 * g + l) = -9) (hC : ∀ j, C' j = if j = 4 * g + l then (N : Int) else if 4 * N ≤ j ∧ j < 4 * N + 4 then -9 else C j) : yT C' (fun n => if n = N then str g ++ [(l : Int)] else str n) (N + 1) := by
  obtain ⟨t1, t2, t3, t4, t5⟩ := id t
  have sg : ∀ n, n < N → (if n = N then str g ++ [(l : Int)] else str n) = str n := fun n h => if_neg (by omega)
  have sN : (if N = N then str g ++ [(l : Int)] else str N) = str g ++ [(l : Int)] := if_pos rfl
  have new : ∀ b, b < N → str g ++ [(l : Int)] ≠ str b := by
    intro b hb e
    have b0 : 0 < b := by
      rcases Nat.eq_zero_or_pos b with h | h
      · rw [h, t2] at e
        exact absurd e (by simp)
      · exact h
    obtain ⟨n, q, h1, h2, h3, h4⟩ := yT_par t b0 hb
    rw [h4] at e
    have e2 := List.append_inj' e rfl
    have eg : g = n := t5 g n hg (by omega) e2.1
    have el : (l : Int) = (q : Int) := by simpa using e2.2
    have el : l = q := by omega
    subst eg el
    rw [h3] at hn
    exact absurd hn (by omega)
  refine ⟨by omega, ?_, ?_, ?_, ?_⟩
  · show (if 0 = N then _ else str 0) = []
    rw [if_neg (by omega)]; exact t2
  · intro n q h1 h2
    rw [hC]
    by_cases c1 : n = N
    · left
      rw [if_neg (by omega), if_pos (by omega)]
    · by_cases c2 : 4 * n + q = 4 * g + l
      · right
        have e1 : n = g := by omega
        have e2 : q = l := by omega
        subst e1 e2
        refine ⟨N, by omega, by omega, if_pos rfl, ?_⟩
        show (if N = N then str n ++ [(q : Int)] else str N) = (if n = N then str n ++ [(q : Int)] else str n) ++ [(q : Int)]
        rw [if_pos rfl, if_neg c1]
      · rw [if_neg c2, if_neg (by omega)]
        rcases t3 n q (by omega) h2 with h | ⟨c, k1, k2, k3, k4⟩
        · exact Or.inl h
        · refine Or.inr ⟨c, k1, by omega, k3, ?_⟩
          show (if c = N then _ else str c) = (if n = N then _ else str n) ++ [(q : Int)]
          rw [if_neg (by omega), if_neg c1]; exact k4
  · intro c h0 h1
    by_cases c1 : c = N
    · refine ⟨g, l, by omega, hl, ?_⟩
      rw [hC, if_pos rfl, c1]
    · obtain ⟨n, q, k1, k2, k3⟩ := t4 c h0 (by omega)
      refine ⟨n, q, k1, k2, ?_⟩
      rw [hC, if_neg (by intro e; rw [e, hn] at k3; omega), if_neg (by omega)]
      exact k3
  · intro a b ha hb e
    have e : (if a = N then str g ++ [(l : Int)] else str a) = (if b = N then str g ++ [(l : Int)] else str b) := e
    by_cases ca : a = N <;> by_cases cb : b = N
    · omega
    · rw [if_pos ca, if_neg cb] at e
      exact absurd e (new b (by omega))
    · rw [if_neg ca, if_pos cb] at e
      exact absurd e.symm (new a (by omega))
    · rw [if_neg ca, if_neg cb] at e
      exact t5 a b (by omega) (by omega) e
/-- the ends of LEFT sides 0 .. d - 1 -/
def yE (E : Nat → Int) (L : Nat → List Int) (str : Nat → List Int) (N d : Nat) : Prop := (∀ n, n < N → E n = -9 ∨ ∃ r : Nat, r < d ∧ E n = (r : Int) ∧ str n = L r) ∧ (∀ r, r < d → ∃ n, n < N ∧ str n = L r ∧ E n = (r : Int))
theorem newNode_eq (y : MS) : F_m_newNode y = (y.1 17, aU (aU (aU (aU (aU (sU y 17 (y.1 17 + 1)) 18 (4 * y.1 17 + 0).toNat (-9)) 18 (4 * y.1 17 + (0 + 1)).toNat (-9)) 18 (4 * y.1 17 + (0 + 1 + 1)).toNat (-9)) 18 (4 * y.1 17 + (0 + 1 + 1 + 1)).toNat (-9)) 21 (y.1 17).toNat (-9)) := by
  unfold F_m_newNode
  rw [show (10 : Nat) = 9 + 1 from rfl, F_m_newNode_e0, if_neg (by decide), show (9 : Nat) = 8 + 1 from rfl, F_m_newNode_e0, if_neg (by decide), show (8 : Nat) = 7 + 1 from rfl, F_m_newNode_e0, if_neg (by decide), show (7 : Nat) = 6 + 1 from rfl, F_m_newNode_e0, if_neg (by decide), show (6 : Nat) = 5 + 1 from rfl, F_m_newNode_e0, if_pos (by decide)]
theorem newNode_x {y : MS} {N : Nat} (hN : y.1 17 = (N : Int)) : (F_m_newNode y).1 = (N : Int) ∧ (F_m_newNode y).2.1 17 = ((N + 1 : Nat) : Int) ∧ (∀ j, (F_m_newNode y).2.2 18 j = if 4 * N ≤ j ∧ j < 4 * N + 4 then -9 else y.2 18 j) ∧ (∀ j, (F_m_newNode y).2.2 21 j = if j = N then -9 else y.2 21 j) ∧ same [17] [18, 21] y (F_m_newNode y).2 := by
  rw [newNode_eq, hN]
  refine ⟨rfl, ?_, ?_, ?_, ?_⟩
  · show (sU y 17 ((N : Int) + 1)).1 17 = _
    rw [yS_s]; omega
  · intro j
    rw [yU_n (by decide), yU_s, yU_s, yU_s, yU_s, yU_if, yU_if, yU_if, yU_if]
    have e0 : (4 * (N : Int) + 0).toNat = 4 * N := by omega
    have e1 : (4 * (N : Int) + (0 + 1)).toNat = 4 * N + 1 := by omega
    have e2 : (4 * (N : Int) + (0 + 1 + 1)).toNat = 4 * N + 2 := by omega
    have e3 : (4 * (N : Int) + (0 + 1 + 1 + 1)).toNat = 4 * N + 3 := by omega
    rw [e0, e1, e2, e3]
    show _ = if 4 * N ≤ j ∧ j < 4 * N + 4 then (-9 : Int) else y.2 18 j
    repeat' split
    all_goals first | rfl | (exfalso; omega)
  · intro j
    rw [yU_s, yU_if, Int.toNat_natCast]
    split
    · rfl
    · rw [yU_n (by decide), yU_n (by decide), yU_n (by decide), yU_n (by decide)]
      rfl
  · exact sm_a (by decide) (sm_a (by decide) (sm_a (by decide) (sm_a (by decide) (sm_a (by decide) (sm_s (by decide) (sm_rf _ _ _))))))
/-- between RULES, and within one -/
def pA (x y : MS) (d : Nat) : Prop := same [17] [18, 21] x y ∧ ∃ (str : Nat → List Int) (N : Nat), y.1 17 = (N : Int) ∧ N ≤ 1 + 20 * d ∧ yT (y.2 18) str N ∧ yE (y.2 21) (lM x) str N d ∧ ∀ n, n < N → str n = [] ∨ ∃ r, r < d ∧ ∃ e, lM x r = str n ++ e
def pB (x y : MS) (d g i : Nat) : Prop := same [17] [18, 21] x y ∧ ∃ (str : Nat → List Int) (N : Nat), y.1 17 = (N : Int) ∧ N ≤ 1 + 20 * d + i ∧ yT (y.2 18) str N ∧ yE (y.2 21) (lM x) str N d ∧ (∀ n, n < N → str n = [] ∨ (∃ r, r < d ∧ ∃ e, lM x r = str n ++ e) ∨ ∃ e, lM x d = str n ++ e) ∧ g < N ∧ str g = (lM x d).take i ∧ i ≤ (lM x d).length
theorem pA_0 (x : MS) : pA x (F_m_newNode (sU x 17 0)).2 0 := by
  obtain ⟨a1, a2, a3, a4, a5⟩ := newNode_x (y := sU x 17 0) (N := 0) (by rw [yS_s]; rfl)
  refine ⟨sm_tr (sm_s (by decide) (sm_rf _ _ _)) a5, fun _ => [], 1, a2, by omega, ?_, ?_, fun n _ => Or.inl rfl⟩
  · refine ⟨by omega, rfl, fun n l hn hl => Or.inl ?_, fun c h0 h1 => by omega, fun a b ha hb _ => by omega⟩
    rw [a3, if_pos (by omega)]
  · refine ⟨fun n hn => Or.inl ?_, fun r hr => by omega⟩
    rw [a4, if_pos (by omega)]
theorem pB_0 {x y : MS} {d : Nat} (h : pA x y d) : pB x y d 0 0 := by
  obtain ⟨f, str, N, e, b, t, en, p⟩ := h
  exact ⟨f, str, N, e, by omega, t, en, fun n hn => (p n hn).elim Or.inl (fun q => Or.inr (Or.inl q)), t.1, by rw [List.take_zero]; exact t.2.1, Nat.zero_le _⟩
theorem take_get {u : List Int} {i : Nat} (h : i < u.length) : u.take (i + 1) = u.take i ++ [u[i]] := by
  rw [List.take_add_one, List.getElem?_eq_getElem h]
  rfl
theorem pfx_of {u s : List Int} {k : Nat} (h : s = u.take k) : ∃ e, u = s ++ e := ⟨u.drop k, by rw [h, List.take_append_drop]⟩
theorem pB_new {x y : MS} {d g i l : Nat} (h : pB x y d g i) (hi : i < (lM x d).length) (hl : (lM x d)[i] = (l : Int)) (l4 : l < 4) (hC : y.2 18 (4 * g + l) = -9) : ∃ N : Nat, (F_m_newNode y).1 = (N : Int) ∧ pB x (aU (F_m_newNode y).2 18 (4 * g + l) (F_m_newNode y).1) d N (i + 1) := by
  obtain ⟨f, str, N, e, b, t, en, p, hg, sg, il⟩ := h
  obtain ⟨a1, a2, a3, a4, a5⟩ := newNode_x e
  refine ⟨N, a1, ?_⟩
  rw [a1]
  have ch : ∀ j, (aU (F_m_newNode y).2 18 (4 * g + l) (N : Int)).2 18 j = if j = 4 * g + l then (N : Int) else if 4 * N ≤ j ∧ j < 4 * N + 4 then -9 else y.2 18 j := by
    intro j
    rw [yU_s, yU_if, a3]
  have T := yT_add t hg l4 hC ch
  have snew : str g ++ [(l : Int)] = (lM x d).take (i + 1) := by rw [take_get hi, hl, sg]
  refine ⟨sm_a (by decide) (sm_tr f a5), _, N + 1, a2, by omega, T, ?_, ?_, by omega, ?_, by omega⟩
  · have e21 : ∀ j, (aU (F_m_newNode y).2 18 (4 * g + l) (N : Int)).2 21 j = if j = N then -9 else y.2 21 j := fun j => by rw [yU_n (by decide), a4]
    refine ⟨fun n hn => ?_, fun r hr => ?_⟩
    · rw [e21]
      by_cases c : n = N
      · exact Or.inl (if_pos c)
      · rw [if_neg c]
        rcases en.1 n (by omega) with k | ⟨r, k1, k2, k3⟩
        · exact Or.inl k
        · refine Or.inr ⟨r, k1, k2, ?_⟩
          show (if n = N then _ else str n) = _
          rw [if_neg c]; exact k3
    · obtain ⟨n, k1, k2, k3⟩ := en.2 r hr
      refine ⟨n, by omega, ?_, ?_⟩
      · show (if n = N then _ else str n) = _
        rw [if_neg (by omega)]; exact k2
      · rw [e21, if_neg (by omega)]; exact k3
  · intro n hn
    show (if n = N then str g ++ [(l : Int)] else str n) = [] ∨ (∃ r, r < d ∧ ∃ e, lM x r = (if n = N then str g ++ [(l : Int)] else str n) ++ e) ∨ ∃ e, lM x d = (if n = N then str g ++ [(l : Int)] else str n) ++ e
    by_cases c : n = N
    · rw [if_pos c]
      exact Or.inr (Or.inr (pfx_of snew))
    · rw [if_neg c]
      exact p n (by omega)
  · show (if N = N then str g ++ [(l : Int)] else str N) = _
    rw [if_pos rfl]; exact snew
theorem pB_old {x y : MS} {d g i l : Nat} (h : pB x y d g i) (hi : i < (lM x d).length) (hl : (lM x d)[i] = (l : Int)) (l4 : l < 4) (hC : y.2 18 (4 * g + l) ≠ -9) : ∃ c : Nat, y.2 18 (4 * g + l) = (c : Int) ∧ pB x y d c (i + 1) := by
  obtain ⟨f, str, N, e, b, t, en, p, hg, sg, il⟩ := h
  rcases t.2.2.1 g l hg l4 with k | ⟨c, _, k2, k3, k4⟩
  · exact absurd k hC
  · exact ⟨c, k3, f, str, N, e, by omega, t, en, p, k2, by rw [k4, take_get hi, hl, sg], by omega⟩
theorem pB_end {x y : MS} {d g i : Nat} (pr : plR x) (hd : (d : Int) < x.1 12) (h : pB x y d g i) (hi : (lM x d).length ≤ i) : pA x (aU y 21 g (d : Int)) (d + 1) := by
  obtain ⟨f, str, N, e, b, t, en, p, hg, sg, il⟩ := h
  have sg : str g = lM x d := by rw [sg, List.take_of_length_le hi]
  have l20 : (lM x d).length ≤ 20 := by rw [lM_len]; have := (pr.2.2.1 d hd).1; omega
  refine ⟨sm_a (by decide) f, str, N, e, by omega, by rw [yU_n (by decide)]; exact t, ?_, fun n hn => ?_⟩
  · rw [yU_s]
    refine ⟨fun n hn => ?_, fun r hr => ?_⟩
    · rw [yU_if]
      by_cases c : n = g
      · rw [if_pos c]; exact Or.inr ⟨d, by omega, rfl, by rw [c]; exact sg⟩
      · rw [if_neg c]
        rcases en.1 n hn with k | ⟨r, k1, k2, k3⟩
        · exact Or.inl k
        · exact Or.inr ⟨r, by omega, k2, k3⟩
    · by_cases c : r = d
      · subst c
        exact ⟨g, hg, sg, iU_s⟩
      · obtain ⟨n, k1, k2, k3⟩ := en.2 r (by omega)
        have ne : n ≠ g := fun e9 => by
          rw [e9, sg] at k2
          exact c ((pr.2.2.2 d r hd (by omega) k2).symm)
        exact ⟨n, k1, k2, by rw [iU_n ne]; exact k3⟩
  · rcases p n hn with k | ⟨r, k1, k2⟩ | k
    · exact Or.inl k
    · exact Or.inr ⟨r, by omega, k2⟩
    · exact Or.inr ⟨d, by omega, k⟩
