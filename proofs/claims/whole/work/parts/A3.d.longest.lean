-- deps: A3.c
/-! the reference: longest, size -/
def lds (x : MS) : Int → List Int → Int
  | g, [] => g
  | g, l :: t => lds x (F_m_next x g l).1 t
theorem lds_s (x : MS) (l : Int) : ∀ (u : List Int) (g : Int), lds x g (u ++ [l]) = (F_m_next x (lds x g u) l).1 := by
  intro u
  induction u with
  | nil => intro g; rfl
  | cons a t ih => intro g; exact ih _
theorem pth_s (x : MS) (l : Int) : ∀ (u : List Int) (g : Int), pth x g (u ++ [l]) ↔ (pth x g u ∧ (0 ≤ l ∧ l < x.1 0) ∧ ¬ (F_m_next x (lds x g u) l).1 = -9) := by
  intro u
  induction u with
  | nil =>
    intro g
    constructor
    · rintro ⟨h1, h2, _⟩; exact ⟨trivial, h1, h2⟩
    · rintro ⟨_, h1, h2⟩; exact ⟨h1, h2, trivial⟩
  | cons a t ih =>
    intro g
    constructor
    · rintro ⟨h1, h2, h3⟩
      obtain ⟨k1, k2, k3⟩ := (ih _).mp h3
      exact ⟨⟨h1, h2, k1⟩, k2, k3⟩
    · rintro ⟨⟨h1, h2, k1⟩, k2, k3⟩
      exact ⟨h1, h2, (ih _).mpr ⟨k1, k2, k3⟩⟩
/-- STATE s is reached by m LETTERS -/
def onM (x : MS) (m : Nat) (s : Int) : Prop := ∃ u : List Int, u.length = m ∧ pth x 0 u ∧ lds x 0 u = s
theorem on_0 {x : MS} {s : Int} : onM x 0 s ↔ s = 0 := by
  constructor
  · rintro ⟨u, h1, h2, h3⟩
    rw [List.eq_nil_of_length_eq_zero h1] at h3
    exact h3.symm
  · intro e; exact ⟨[], rfl, trivial, e.symm⟩
theorem on_s {x : MS} {m : Nat} {s : Int} : onM x (m + 1) s ↔ ∃ g l : Int, onM x m g ∧ (0 ≤ l ∧ l < x.1 0) ∧ ¬ (F_m_next x g l).1 = -9 ∧ (F_m_next x g l).1 = s := by
  constructor
  · rintro ⟨u, h1, h2, h3⟩
    obtain ⟨t, l, e⟩ := snoc_of u (fun e => by rw [e] at h1; exact absurd h1 (by simp))
    rw [e] at h1 h2 h3
    rw [List.length_append] at h1
    obtain ⟨k1, k2, k3⟩ := (pth_s x l t 0).mp h2
    rw [lds_s] at h3
    exact ⟨lds x 0 t, l, ⟨t, by have : [l].length = 1 := rfl; omega, k1, rfl⟩, k2, k3, h3⟩
  · rintro ⟨g, l, ⟨u, h1, h2, h3⟩, k2, k3, k4⟩
    refine ⟨u ++ [l], by rw [List.length_append, h1]; rfl, (pth_s x l u 0).mpr ⟨h2, k2, by rw [h3]; exact k3⟩, by rw [lds_s, h3]; exact k4⟩
theorem on_b {x : MS} (au : auOK x) (s1 : 1 ≤ x.1 24) : ∀ (m : Nat) (s : Int), onM x m s → 0 ≤ s ∧ s < x.1 24 := by
  intro m
  induction m with
  | zero => intro s h; rw [on_0] at h; omega
  | succ m ih =>
    intro s h
    obtain ⟨g, l, h1, h2, h3, h4⟩ := on_s.mp h
    have b := ih g h1
    have n := (au.2 g l b.1 b.2 h2.1 h2.2).2
    omega
theorem wN_pth {x : MS} : ∀ (m : Nat) (g : Int), 0 < wN x m g ↔ ∃ u : List Int, u.length = m ∧ pth x g u := by
  intro m
  induction m with
  | zero => intro g; exact ⟨fun _ => ⟨[], rfl, trivial⟩, fun _ => by show (0 : Int) < 1; decide⟩
  | succ m ih =>
    intro g
    constructor
    · intro h
      have key : ∀ c : Nat, c ≤ (x.1 0).toNat → 0 < wsm x (wN x m) g c → ∃ u : List Int, u.length = m + 1 ∧ pth x g u := by
        intro c
        induction c with
        | zero => intro _ h9; exact absurd h9 (by show ¬ (0 : Int) < 0; decide)
        | succ c ihc =>
          intro hc h9
          by_cases z : 0 < wsm x (wN x m) g c
          · exact ihc (by omega) z
          · rw [wsm_s] at h9
            by_cases e : (F_m_next x g (c : Int)).1 = -9
            · rw [if_pos e] at h9; exfalso; omega
            · rw [if_neg e] at h9
              obtain ⟨u, u1, u2⟩ := (ih _).mp (show 0 < wN x m (F_m_next x g (c : Int)).1 by omega)
              exact ⟨(c : Int) :: u, by rw [List.length_cons, u1], ⟨by omega, by omega⟩, e, u2⟩
      exact key _ (Nat.le_refl _) h
    · rintro ⟨u, h1, h2⟩
      have b := rk2_b u g h2
      rw [h1] at b
      omega
theorem wN_on {x : MS} {m : Nat} : 0 < wN x m 0 ↔ ∃ s, onM x m s := by
  rw [wN_pth]
  constructor
  · rintro ⟨u, h1, h2⟩; exact ⟨_, u, h1, h2, rfl⟩
  · rintro ⟨s, u, h1, h2, _⟩; exact ⟨u, h1, h2⟩
/-- what is reached from the STATES below g, and from g by LETTERS below c -/
def onN (x : MS) (k g c : Nat) (s : Int) : Prop := ∃ p l : Nat, (p < g ∨ (p = g ∧ l < c)) ∧ (p : Int) < x.1 24 ∧ (l : Int) < x.1 0 ∧ onM x k (p : Int) ∧ (F_m_next x (p : Int) (l : Int)).1 = s
def b29 (x y : MS) (k : Nat) : Prop := ∀ s : Nat, (s : Int) < x.1 24 → (y.2 29 s = 0 ∧ ¬ onM x k (s : Int)) ∨ (y.2 29 s = 1 ∧ onM x k (s : Int))
def b30 (x y : MS) (k g c : Nat) : Prop := ∀ s : Nat, (s : Int) < x.1 24 → (y.2 30 s = 0 ∧ ¬ onN x k g c (s : Int)) ∨ (y.2 30 s = 1 ∧ onN x k g c (s : Int))
def bq (x : MS) (k g c : Nat) (q : Int) : Prop := (q = 0 ∧ ∀ s : Nat, ¬ onN x k g c (s : Int)) ∨ (q = 1 ∧ ∃ s : Nat, onN x k g c (s : Int))
theorem onN_0 {x : MS} {k : Nat} {s : Int} : ¬ onN x k 0 0 s := by rintro ⟨p, l, h, _⟩; omega
theorem onN_row {x : MS} {k g : Nat} {s : Int} (l0 : 0 ≤ x.1 0) : onN x k g (x.1 0).toNat s ↔ onN x k (g + 1) 0 s := by
  constructor
  · rintro ⟨p, l, h, h2, h3, h4⟩; exact ⟨p, l, by omega, h2, h3, h4⟩
  · rintro ⟨p, l, h, h2, h3, h4⟩; exact ⟨p, l, by omega, h2, h3, h4⟩
theorem onN_off {x : MS} {k g c : Nat} {s : Int} (h : ¬ onM x k (g : Int)) : onN x k g c s ↔ onN x k (g + 1) 0 s := by
  constructor
  · rintro ⟨p, l, h1, h2, h3, h4, h5⟩
    rcases h1 with h1 | ⟨h1, _⟩
    · exact ⟨p, l, by omega, h2, h3, h4, h5⟩
    · rw [h1] at h4; exact absurd h4 h
  · rintro ⟨p, l, h1, h2, h3, h4, h5⟩
    by_cases e : p = g
    · rw [e] at h4; exact absurd h4 h
    · exact ⟨p, l, by omega, h2, h3, h4, h5⟩
theorem onN_st {x : MS} {k g c : Nat} {s : Int} (hg : (g : Int) < x.1 24) (hc : (c : Int) < x.1 0) (h : onM x k (g : Int)) : onN x k g (c + 1) s ↔ (onN x k g c s ∨ (F_m_next x (g : Int) (c : Int)).1 = s) := by
  constructor
  · rintro ⟨p, l, h1, h2, h3, h4, h5⟩
    by_cases e : p = g ∧ l = c
    · rw [e.1, e.2] at h5; exact Or.inr h5
    · exact Or.inl ⟨p, l, by omega, h2, h3, h4, h5⟩
  · rintro (⟨p, l, h1, h2, h3, h4, h5⟩ | h)
    · exact ⟨p, l, by omega, h2, h3, h4, h5⟩
    · exact ⟨g, c, by omega, hg, hc, by assumption, h⟩
theorem onN_all {x : MS} (au : auOK x) (s1 : 1 ≤ x.1 24) {k S : Nat} (hS : (S : Int) = x.1 24) {s : Nat} : onN x k S 0 (s : Int) ↔ onM x (k + 1) (s : Int) := by
  rw [on_s]
  constructor
  · rintro ⟨p, l, h1, h2, h3, h4, h5⟩
    exact ⟨(p : Int), (l : Int), h4, ⟨by omega, h3⟩, by rw [h5]; omega, h5⟩
  · rintro ⟨g, l, h1, h2, h3, h4⟩
    have b := on_b au s1 k g h1
    refine ⟨g.toNat, l.toNat, by omega, by omega, by omega, ?_, ?_⟩
    · rw [show ((g.toNat : Nat) : Int) = g by omega]; exact h1
    · rw [show ((g.toNat : Nat) : Int) = g by omega, show ((l.toNat : Nat) : Int) = l by omega]; exact h4
def lgQ (x : MS) (q : Int × MS) : Prop := same [] [29, 30] x q.2 ∧ ((q.1 = -9 ∧ 0 < wN x ((x.1 24).toNat + 1) 0) ∨ ∃ m : Nat, q.1 = (m : Int) ∧ (m : Int) ≤ x.1 24 ∧ 0 < wN x m 0 ∧ wN x (m + 1) 0 = 0)
theorem longest_s {x : MS} (au : auOK x) (s1 : 1 ≤ x.1 24) {S : Nat} (hS : (S : Int) = x.1 24) : ∀ n : Nat,
    (∀ (y : MS) (i : Nat), same [] [29, 30] x y → i ≤ S → (∀ j : Nat, j < i → y.2 29 j = if j = 0 then 1 else 0) → 851 * 8000 + 100 + (850 - (i : Int)) < n → lgQ x (F_m_longest_s n 0 y (i : Int) 0 0 0)) ∧
    (∀ (y : MS) (k : Nat), same [] [29, 30] x y → k ≤ S + 1 → b29 x y k → 0 < wN x k 0 → (851 - (k : Int)) * 8000 + 10 < n → lgQ x (F_m_longest_s n 1 y (k : Int) 0 0 0)) ∧
    (∀ (y : MS) (k g : Nat), same [] [29, 30] x y → k ≤ S → g ≤ S → b29 x y k → 0 < wN x k 0 → (∀ j : Nat, j < g → y.2 30 j = 0) → (850 - (k : Int)) * 8000 + 7000 + (850 - (g : Int)) + 10 < n → lgQ x (F_m_longest_s n 2 y (k : Int) 0 (g : Int) 0)) ∧
    (∀ (y : MS) (k g : Nat) (q : Int), same [] [29, 30] x y → k ≤ S → g ≤ S → b29 x y k → 0 < wN x k 0 → b30 x y k g 0 → bq x k g 0 q → (850 - (k : Int)) * 8000 + 1000 + (850 - (g : Int)) * 6 + 20 < n → lgQ x (F_m_longest_s n 3 y (k : Int) q (g : Int) 0)) ∧
    (∀ (y : MS) (k g c : Nat) (q : Int), same [] [29, 30] x y → k ≤ S → g < S → (c : Int) ≤ x.1 0 → b29 x y k → 0 < wN x k 0 → b30 x y k g c → bq x k g c q → (850 - (k : Int)) * 8000 + 1000 + (849 - (g : Int)) * 6 + (4 - (c : Int)) + 21 < n → lgQ x (F_m_longest_s n 4 y (k : Int) q (g : Int) (c : Int))) ∧
    (∀ (y : MS) (k g : Nat) (q : Int), same [] [29, 30] x y → k ≤ S → g ≤ S → 0 < wN x (k + 1) 0 → b30 x y k S 0 → (∀ j : Nat, j < g → y.2 29 j = y.2 30 j) → (850 - (k : Int)) * 8000 + (850 - (g : Int)) + 20 < n → lgQ x (F_m_longest_s n 5 y (k : Int) q (g : Int) 0)) := by
  have u1 := au.1.2.1
  have u2 := au.1.2.2.1
  have u3 := au.1.2.2.2
  intro n
  induction n with
  | zero =>
    refine ⟨fun y i _ _ _ h => ?_, fun y k _ _ _ _ h => ?_, fun y k g _ _ _ _ _ _ h => ?_, fun y k g q _ _ _ _ _ _ _ h => ?_, fun y k g c q _ _ _ _ _ _ _ _ h => ?_, fun y k g q _ _ _ _ _ _ h => ?_⟩
    all_goals (exfalso; omega)
  | succ n ih =>
    obtain ⟨i0, i1, i2, i3, i4, i5⟩ := ih
    refine ⟨fun y i sm hi h0 fu => ?_, fun y k sm hk h9 hw fu => ?_, fun y k g sm hk hg h9 hw h3 fu => ?_, fun y k g q sm hk hg h9 hw h3 hq fu => ?_, fun y k g c q sm hk hg hc h9 hw h3 hq fu => ?_, fun y k g q sm hk hg hw h3 hc fu => ?_⟩
    · have s24 : y.1 24 = x.1 24 := sm.1 24 List.not_mem_nil
      rw [F_m_longest_e0]
      by_cases c : y.1 24 ≤ (i : Int)
      · rw [if_pos c]
        have := i1 y 0 sm (by omega) (fun s hs => by
          rw [h0 s (by omega), on_0]
          by_cases e : s = 0
          · rw [if_pos e]; exact Or.inr ⟨rfl, by omega⟩
          · rw [if_neg e]; exact Or.inl ⟨rfl, by omega⟩) (by show (0 : Int) < 1; decide) (by omega)
        exact this
      · rw [if_neg c, Int.toNat_natCast]
        by_cases e : (i : Int) = 0
        · rw [if_pos e]
          have := i0 (aU y 29 i ((1 : Int))) (i + 1) (sm_a (by decide) sm) (by omega) (fun j hj => by rw [yU_s, yU_if]; by_cases e2 : j = i; (rw [if_pos e2, if_pos (by omega)]); (exfalso; omega)) (by omega)
          exact this
        · rw [if_neg e]
          have := i0 (aU y 29 i ((0 : Int))) (i + 1) (sm_a (by decide) sm) (by omega) (fun j hj => by rw [yU_s, yU_if]; by_cases e2 : j = i; (rw [if_pos e2, if_neg (by omega)]); (rw [if_neg e2]; exact h0 j (by omega))) (by omega)
          exact this
    · have s24 : y.1 24 = x.1 24 := sm.1 24 List.not_mem_nil
      rw [F_m_longest_e1]
      by_cases c : y.1 24 < (k : Int)
      · rw [if_pos c]
        refine ⟨sm, Or.inl ⟨rfl, ?_⟩⟩
        rw [show (x.1 24).toNat + 1 = k by omega]
        exact hw
      · rw [if_neg c]
        have := i2 y k 0 sm (by omega) (Nat.zero_le _) h9 hw (fun j hj => by omega) (by omega)
        exact this
    · have s24 : y.1 24 = x.1 24 := sm.1 24 List.not_mem_nil
      rw [F_m_longest_e2]
      by_cases c : y.1 24 ≤ (g : Int)
      · rw [if_pos c]
        have := i3 y k 0 0 sm hk (Nat.zero_le _) h9 hw (fun s hs => Or.inl ⟨h3 s (by omega), onN_0⟩) (Or.inl ⟨rfl, fun s => onN_0⟩) (by omega)
        exact this
      · rw [if_neg c, Int.toNat_natCast]
        have := i2 (aU y 30 g ((0 : Int))) k (g + 1) (sm_a (by decide) sm) hk (by omega) h9 hw (fun j hj => by rw [yU_s, yU_if]; by_cases e2 : j = g; (rw [if_pos e2]); (rw [if_neg e2]; exact h3 j (by omega))) (by omega)
        exact this
    · have s24 : y.1 24 = x.1 24 := sm.1 24 List.not_mem_nil
      rw [F_m_longest_e3]
      by_cases c : y.1 24 ≤ (g : Int)
      · rw [if_pos c]
        have eg : g = S := by omega
        rw [eg] at h3 hq
        by_cases e : q = 0
        · rw [if_pos e]
          refine ⟨sm, Or.inr ⟨k, rfl, by omega, hw, ?_⟩⟩
          have nn := wN_nn (x := x) (k + 1) 0
          rcases hq with ⟨_, hn⟩ | ⟨e2, _⟩
          · rcases Int.lt_or_eq_of_le nn with p | p
            · exfalso
              obtain ⟨s, hs⟩ := wN_on.mp p
              have b := on_b au s1 _ s hs
              refine hn s.toNat ((onN_all au s1 hS).mpr ?_)
              rw [show ((s.toNat : Nat) : Int) = s by omega]
              exact hs
            · exact p.symm
          · exfalso; omega
        · rw [if_neg e]
          have hw2 : 0 < wN x (k + 1) 0 := by
            rcases hq with ⟨e2, _⟩ | ⟨_, s, hs⟩
            · exact absurd e2 e
            · exact wN_on.mpr ⟨_, (onN_all au s1 hS).mp hs⟩
          have := i5 y k 0 q sm hk (Nat.zero_le _) hw2 h3 (fun j hj => by omega) (by omega)
          exact this
      · rw [if_neg c]
        have := i4 y k g 0 q sm hk (by omega) (by omega) h9 hw h3 hq (by omega)
        exact this
    · have s24 : y.1 24 = x.1 24 := sm.1 24 List.not_mem_nil
      have s0 : y.1 0 = x.1 0 := sm.1 0 List.not_mem_nil
      have nx : (F_m_next y (g : Int) (c : Int)).1 = (F_m_next x (g : Int) (c : Int)).1 := nx_same sm (by decide) (by decide) (by decide) (by decide) _ _
      rw [F_m_longest_e4, s0, Int.toNat_natCast, nx]
      have on3 : (∀ s : Int, onN x k g c s ↔ onN x k (g + 1) 0 s) → lgQ x (F_m_longest_s n 3 y (k : Int) q ((g : Int) + (1 : Int)) 0) := fun he => by
        have := i3 y k (g + 1) q sm hk (by omega) h9 hw (fun s hs => by rw [← he]; exact h3 s hs) (by unfold bq; simp only [← he]; exact hq) (by omega)
        exact this
      by_cases d : x.1 0 ≤ (c : Int)
      · rw [if_pos d]
        have ec : c = (x.1 0).toNat := by omega
        exact on3 (fun s => by rw [ec]; exact onN_row (by omega))
      · rw [if_neg d]
        rcases h9 g (by omega) with ⟨e, no⟩ | ⟨e, yes⟩
        · rw [if_pos e]
          exact on3 (fun s => onN_off no)
        · rw [if_neg (by rw [e]; decide)]
          have n9 := (au.2 (g : Int) (c : Int) (by omega) (by omega) (by omega) (by omega)).2
          have st := fun s : Int => onN_st (s := s) (show (g : Int) < x.1 24 by omega) (show (c : Int) < x.1 0 by omega) yes
          by_cases e2 : (F_m_next x (g : Int) (c : Int)).1 = (-9 : Int)
          · rw [if_pos e2]
            have he : ∀ s : Nat, onN x k g (c + 1) (s : Int) ↔ onN x k g c (s : Int) := fun s => by
              rw [st]
              constructor
              · rintro (h | h)
                · exact h
                · rw [e2] at h; exfalso; omega
              · exact Or.inl
            have := i4 y k g (c + 1) q sm hk hg (by omega) h9 hw (fun s hs => by rw [he]; exact h3 s hs) (by unfold bq; simp only [he]; exact hq) (by omega)
            exact this
          · rw [if_neg e2]
            have n8 := n9.resolve_left e2
            have := i4 (aU y 30 (F_m_next x (g : Int) (c : Int)).1.toNat ((1 : Int))) k g (c + 1) 1 (sm_a (by decide) sm) hk hg (by omega) h9 hw (fun s hs => by
              rw [yU_s, yU_if, st]
              by_cases e3 : s = (F_m_next x (g : Int) (c : Int)).1.toNat
              · rw [if_pos e3]; exact Or.inr ⟨rfl, Or.inr (by omega)⟩
              · rw [if_neg e3]
                rcases h3 s hs with ⟨a1, a2⟩ | ⟨a1, a2⟩
                · refine Or.inl ⟨a1, ?_⟩
                  rintro (h | h)
                  · exact a2 h
                  · omega
                · exact Or.inr ⟨a1, Or.inl a2⟩) (Or.inr ⟨rfl, (F_m_next x (g : Int) (c : Int)).1.toNat, (st _).mpr (Or.inr (by omega))⟩) (by omega)
            exact this
    · have s24 : y.1 24 = x.1 24 := sm.1 24 List.not_mem_nil
      rw [F_m_longest_e5]
      by_cases c : y.1 24 ≤ (g : Int)
      · rw [if_pos c]
        have := i1 y (k + 1) sm (by omega) (fun s hs => by rw [hc s (by omega), ← onN_all au s1 hS]; exact h3 s hs) hw (by omega)
        exact this
      · rw [if_neg c, Int.toNat_natCast]
        have := i5 (aU y 29 g (y.2 30 g)) k (g + 1) q (sm_a (by decide) sm) hk (by omega) hw h3 (fun j hj => by
          rw [yU_s, yU_if, show (aU y 29 g (y.2 30 g)).2 30 = y.2 30 from yU_n (by decide)]
          by_cases e2 : j = g
          · rw [if_pos e2, e2]
          · rw [if_neg e2]; exact hc j (by omega)) (by omega)
        exact this
theorem longest_x {x : MS} (au : auOK x) (s1 : 1 ≤ x.1 24) : lgQ x (F_m_longest x) := by
  have u0 := au.1.1
  have u1 := au.1.2.1
  exact (longest_s au s1 (S := (x.1 24).toNat) (by omega) 6810000).1 x 0 (sm_rf _ _ _) (Nat.zero_le _) (fun j hj => by omega) (by omega)
theorem lg_bz : ∀ n : Nat, ∀ (t : Nat) (y : MS) (a b c d : Int), (∀ j : Nat, j < 850 → y.2 29 j = 0 ∨ y.2 29 j = 1) → (∀ j : Nat, j < 850 → y.2 30 j = 0 ∨ y.2 30 j = 1) → y.1 24 ≤ 850 → 0 ≤ c → 0 ≤ a → (∀ j : Nat, j < 850 → (F_m_longest_s n t y a b c d).2.2 29 j = 0 ∨ (F_m_longest_s n t y a b c d).2.2 29 j = 1) ∧ (∀ j : Nat, j < 850 → (F_m_longest_s n t y a b c d).2.2 30 j = 0 ∨ (F_m_longest_s n t y a b c d).2.2 30 j = 1) := by
  intro n
  induction n with
  | zero => intro t y a b c d h1 h2 _ _ _; exact ⟨h1, h2⟩
  | succ n ih =>
    intro t y a b c d h1 h2 h24 c0 a0
    match t with
    | 0 =>
      rw [F_m_longest_e0]
      repeat' split
      · exact ih _ _ _ _ _ _ h1 h2 h24 (by omega) (by omega)
      · exact ih _ _ _ _ _ _ (bz_up h1 (Or.inr rfl)) h2 h24 (by omega) (by omega)
      · exact ih _ _ _ _ _ _ (bz_up h1 (Or.inl rfl)) h2 h24 (by omega) (by omega)
    | 1 =>
      rw [F_m_longest_e1]
      split
      · exact ⟨h1, h2⟩
      · exact ih _ _ _ _ _ _ h1 h2 h24 (by omega) (by omega)
    | 2 =>
      rw [F_m_longest_e2]
      split
      · exact ih _ _ _ _ _ _ h1 h2 h24 (by omega) (by omega)
      · exact ih _ _ _ _ _ _ h1 (bz_up h2 (Or.inl rfl)) h24 (by omega) (by omega)
    | 3 =>
      rw [F_m_longest_e3]
      repeat' split
      · exact ⟨h1, h2⟩
      · exact ih _ _ _ _ _ _ h1 h2 h24 (by omega) (by omega)
      · exact ih _ _ _ _ _ _ h1 h2 h24 (by omega) (by omega)
    | 4 =>
      rw [F_m_longest_e4]
      repeat' split
      · exact ih _ _ _ _ _ _ h1 h2 h24 (by omega) (by omega)
      · exact ih _ _ _ _ _ _ h1 h2 h24 (by omega) (by omega)
      · exact ih _ _ _ _ _ _ h1 h2 h24 (by omega) (by omega)
      · exact ih _ _ _ _ _ _ h1 (bz_up h2 (Or.inr rfl)) h24 (by omega) (by omega)
    | 5 =>
      rw [F_m_longest_e5]
      by_cases hc : y.1 24 ≤ c
      · rw [if_pos hc]
        exact ih _ _ _ _ _ _ h1 h2 h24 (by omega) (by omega)
      · rw [if_neg hc]
        exact ih _ _ _ _ _ _ (bz_up h1 (h2 _ (by omega))) h2 h24 (by omega) (by omega)
    | t + 6 => exact ⟨h1, h2⟩
/-- size: what it answers -/
def szV (x : MS) : Int := if (F_m_isMachine x).1 = 0 then -3 else if 0 < wN x ((x.1 24).toNat + 1) 0 then -9 else if 0 < wN x 31 0 then -4 else rk1 x 31
theorem size_s {x : MS} {y : MS} (e28 : ∀ k : Nat, k ≤ 30 → y.2 28 k = wN x k 0) {g : Int} (g1 : g ≤ 30) (g0 : 0 ≤ g) : ∀ (n k : Nat), (k : Int) ≤ g + 1 → g + 1 - (k : Int) < n → F_m_size_s n 0 y g (rk1 x k) (k : Int) = (rk1 x (g.toNat + 1), y) := by
  intro n
  induction n with
  | zero => intro k h1 h2; exfalso; omega
  | succ n ih =>
    intro k h1 h2
    rw [F_m_size_e0]
    by_cases c : g < (k : Int)
    · rw [if_pos c, show k = g.toNat + 1 by omega]
    · rw [if_neg c, Int.toNat_natCast, e28 k (by omega)]
      exact ih (k + 1) (by omega) (by omega)
theorem size_x {x : MS} (h4 : x.1 0 ≤ 4) (au : ¬ (F_m_isMachine x).1 = 0 → auOK x ∧ 1 ≤ x.1 24 ∧ cyI x x 31) (h29 : ∀ j : Nat, j < 850 → x.2 29 j = 0 ∨ x.2 29 j = 1) (h30 : ∀ j : Nat, j < 850 → x.2 30 j = 0 ∨ x.2 30 j = 1) : (F_m_size x).1 = szV x ∧ same [] [29, 30] x (F_m_size x).2 ∧ (∀ j : Nat, j < 850 → (F_m_size x).2.2 29 j = 0 ∨ (F_m_size x).2.2 29 j = 1) ∧ (∀ j : Nat, j < 850 → (F_m_size x).2.2 30 j = 0 ∨ (F_m_size x).2.2 30 j = 1) := by
  unfold F_m_size szV
  by_cases c : (F_m_isMachine x).1 = 0
  · rw [if_pos c, if_pos c]
    exact ⟨rfl, sm_rf _ _ _, h29, h30⟩
  · rw [if_neg c, if_neg c]
    obtain ⟨a, s1, cy⟩ := au c
    obtain ⟨sm, L⟩ := longest_x a s1
    have bz := lg_bz 6810000 0 x 0 0 0 0 h29 h30 a.1.2.1 (by decide) (by decide)
    have bz : (∀ j : Nat, j < 850 → (F_m_longest x).2.2 29 j = 0 ∨ (F_m_longest x).2.2 29 j = 1) ∧ (∀ j : Nat, j < 850 → (F_m_longest x).2.2 30 j = 0 ∨ (F_m_longest x).2.2 30 j = 1) := bz
    rcases L with ⟨e, w⟩ | ⟨m, e, hm, w1, w2⟩
    · rw [if_pos e, if_pos e, if_pos w]
      exact ⟨rfl, sm, bz⟩
    · have ns : ¬ 0 < wN x ((x.1 24).toNat + 1) 0 := by
        rw [wN_stop h4 w2 _ (by omega)]; decide
      rw [if_neg (by omega), if_neg ns, e]
      by_cases c30 : (m : Int) ≤ 30
      · rw [if_pos c30, if_neg (by rw [wN_stop h4 w2 31 (by omega)]; decide)]
        have e28 : ∀ k : Nat, k ≤ 30 → (F_m_longest x).2.2 28 k = wN x k 0 := fun k hk => by
          rw [sm.2 28 (by decide)]
          have h9 := cy k 0 (by omega) (by omega)
          rw [Nat.mul_zero, Nat.zero_add] at h9
          exact h9
        have S := size_s (x := x) e28 (g := (m : Int)) c30 (by omega) 100 0 (by omega) (by omega)
        have S : F_m_size_s 100 0 (F_m_longest x).2 (m : Int) 0 0 = (rk1 x (m + 1), (F_m_longest x).2) := S
        rw [S]
        refine ⟨?_, sm, bz⟩
        exact (rk1_stop h4 w2 31 (by omega)).symm
      · rw [if_neg c30, if_neg (by omega)]
        have w31 : 0 < wN x 31 0 := by
          rcases Int.lt_or_eq_of_le (wN_nn (x := x) 31 0) with p | p
          · exact p
          · exfalso
            have := wN_stop h4 p.symm m (by omega)
            omega
        rw [if_pos w31]
        exact ⟨rfl, sm, bz⟩
