-- deps: B2.a
/-! calls that only ask -/
theorem in_v (Y : MS) (v a b : Int) : ((F_m_in Y v a b).1 = 0 ∧ ¬ (a ≤ v ∧ v ≤ b)) ∨ ((F_m_in Y v a b).1 = 1 ∧ (a ≤ v ∧ v ≤ b)) := by
  rw [F_m_in_1]
  rcases F_in_01 v a b with h | h
  · exact Or.inl ⟨h, F_in_00 h⟩
  · exact Or.inr ⟨h, F_in_1 (by rw [h]; decide)⟩
theorem mSlot_v (Y : MS) (k : Int) : ((F_m_isSlot Y k).1 = 0 ∧ ¬ (0 ≤ k ∧ k ≤ 7)) ∨ ((F_m_isSlot Y k).1 = 1 ∧ (0 ≤ k ∧ k ≤ 7)) := in_v Y k 0 7
/-- THE MACHINE stands on both sides, or on none -/
def mcE (X : KS) (Y : MS) : Prop := cfl Y ∧ rOK X ∧ stE X Y ∧ cnE X Y ∧ enQ Y (Y.1 24).toNat (X.1 64 9) ∧ cyI Y Y 31 ∧ mzH Y ∧ (nR X = (Y.1 12).toNat ∧ ∀ r, r < nR X → lS X r = lM Y r ∧ rS X r = rM Y r)
theorem mach_v {X : KS} {Y : MS} (ke : KE X) (h : snR X Y) : ((F_t_isProved X).1 = 0 ∧ (F_m_isMachine Y).1 = 0) ∨ ((F_t_isProved X).1 = 1 ∧ (F_m_isMachine Y).1 = 1 ∧ mcE X Y) := by
  unfold F_t_isProved F_m_isMachine F_t_isSeen
  rcases h with ⟨h1, h2⟩ | ⟨m, ⟨m1, m2, m3⟩, ⟨s1, s2, s3⟩, _, ⟨r1, r2, r3⟩, pv⟩
  · rw [if_pos (show X.1 0 15 ≤ 0 by omega), if_pos h2]
    exact Or.inl ⟨by rw [if_pos (show ((0 : Int), X).1 = 0 from rfl)], rfl⟩
  · rw [if_neg (show ¬ X.1 0 15 ≤ 0 by omega), if_neg (show ¬ Y.1 6 = -9 by omega)]
    rcases pv with ⟨p1, p2⟩ | ⟨⟨p1, p2⟩, p3, p4, p5, p6, p7, p8⟩
    · rw [if_neg (show ¬ (1 : Int) = 0 by decide), if_pos p1, if_pos p2]
      exact Or.inl ⟨rfl, rfl⟩
    · rw [if_neg (show ¬ (1 : Int) = 0 by decide), if_neg (show ¬ X.1 0 16 = 0 by omega), if_neg (show ¬ Y.1 27 = 0 by omega)]
      exact Or.inr ⟨rfl, rfl, p3, p4, p5, p6, p7, p8, s2, r2, r3⟩
theorem seen_v {X : KS} {Y : MS} (h : snR X Y) : ((F_t_isSeen X).1 = 0 ∧ X.1 0 15 = 0 ∧ Y.1 6 = -9) ∨ ((F_t_isSeen X).1 = 1 ∧ ¬ Y.1 6 = -9 ∧ ∃ m, snE X Y m) := by
  unfold F_t_isSeen
  rcases h with ⟨h1, h2⟩ | ⟨m, hm⟩
  · rw [if_pos (show X.1 0 15 ≤ 0 by omega)]
    exact Or.inl ⟨rfl, h1, h2⟩
  · have := hm.1
    rw [if_neg (show ¬ X.1 0 15 ≤ 0 by omega)]
    exact Or.inr ⟨rfl, by omega, m, hm⟩
theorem row_get {f g : Nat → Int} {n m : Nat} (h : (List.range n).map f = (List.range m).map g) : n = m ∧ ∀ i, i < n → f i = g i := by
  have l := congrArg List.length h
  rw [List.length_map, List.length_map, List.length_range, List.length_range] at l
  refine ⟨l, fun i hi => ?_⟩
  have e := congrArg (fun u : List Int => u[i]?) h
  simp only [List.getElem?_map, List.getElem?_range hi, List.getElem?_range (l ▸ hi), Option.map_some] at e
  exact Option.some.inj e
theorem wd_get {X : KS} {Y : MS} {w k : Nat} (g : wG X w) (s : slH Y k) (h : wS X w = slM Y k) : X.1 w 1 = Y.2 1 k ∧ ∀ i : Nat, (i : Int) < X.1 w 1 → X.2 (w + 1) i = Y.2 2 (128 * k + i) := by
  obtain ⟨a, b⟩ := row_get (f := fun i => X.2 (w + 1) i) (g := fun i => Y.2 2 (128 * k + i)) h
  have g1 := g.1
  have s1 := s.1
  exact ⟨by omega, fun i hi => b i (by omega)⟩
theorem length_1 {X : KS} {Y : MS} (h : Rel X Y) (k : Int) : (F_t_length X k).1 = (F_m_length Y k).1 := by
  obtain ⟨ki, mv, sw, wd, sn⟩ := h
  unfold F_t_length F_m_length
  rcases isSlot_v X k with ⟨a, b⟩ | ⟨a, b⟩ <;> rcases mSlot_v Y k with ⟨c, d⟩ | ⟨c, d⟩
  · rw [if_pos a, if_pos c]
  · exact absurd d b
  · exact absurd b d
  · rw [if_neg (by omega), if_neg (by omega)]
    exact (wd_get (ki.2.2.2.2.2.1.1 k.toNat (by omega)) (mv.2.1 k.toNat (by omega)) (wd.1 k.toNat (by omega))).1
theorem at_1 {X : KS} {Y : MS} (h : Rel X Y) (k i : Int) : (F_t_at X k i).1 = (F_m_at Y k i).1 := by
  obtain ⟨ki, mv, sw, wd, sn⟩ := h
  unfold F_t_at F_m_at
  rcases isSlot_v X k with ⟨a, b⟩ | ⟨a, b⟩ <;> rcases mSlot_v Y k with ⟨c, d⟩ | ⟨c, d⟩
  · rw [if_pos a, if_pos c]
  · exact absurd d b
  · exact absurd b d
  · rw [if_neg (by omega), if_neg (by omega)]
    have g := ki.2.2.2.2.2.1.1 k.toNat (by omega)
    obtain ⟨e1, e2⟩ := wd_get g (mv.2.1 k.toNat (by omega)) (wd.1 k.toNat (by omega))
    have g1 := g.1
    unfold F_w_pick
    rw [kL_slot (by omega) (by omega)]
    rcases in_v Y i 0 (Y.2 1 k.toNat - 1) with ⟨p, q⟩ | ⟨p, q⟩
    · rw [if_pos p]
      by_cases c1 : i < 0
      · rw [if_pos c1]
      · rw [if_neg c1, if_pos (by omega)]
    · rw [if_neg (by omega), if_neg (by omega), if_neg (by omega), if_neg (by omega)]
      show X.2 (7 + 2 * k.toNat + 1) i.toNat = Y.2 2 (128 * k + i).toNat
      rw [e2 i.toNat (by omega), show (128 * k + i).toNat = 128 * k.toNat + i.toNat by omega]
theorem seen_1 {X : KS} {Y : MS} (h : Rel X Y) : (F_t_seen X).1 = (F_m_seen Y).1 := by
  unfold F_t_seen F_m_seen
  rcases seen_v h.2.2.2.2 with ⟨a, b, c⟩ | ⟨a, b, m, c⟩
  · rw [if_pos a]; exact c.symm
  · rw [if_neg (by omega)]
    have := c.1
    show X.1 0 15 = Y.1 6
    omega
theorem closed_1 {X : KS} {Y : MS} (h : Rel X Y) : (F_t_closed X).1 = (F_m_closed Y).1 := by
  unfold F_t_closed F_m_closed
  rcases seen_v h.2.2.2.2 with ⟨a, b, c⟩ | ⟨a, b, m, c⟩
  · rw [if_pos a, if_pos c]
  · rw [if_neg (by omega), if_neg b]
    rcases c.2.2.2.2 with ⟨p1, p2⟩ | ⟨⟨p1, p2⟩, _⟩
    · rw [if_pos p1, if_pos p2]
    · rw [if_neg (by omega), if_neg (by omega)]
theorem least_s {Y : MS} (jy : jOK Y) (a1 : Y.1 7 ≤ 10001) : ∀ (n w : Nat) (q : Int), (w : Int) ≤ Y.1 7 → Y.1 7 - (w : Int) < n → q = cnF (rp (Y.2 9)) w → (F_m_least_s n 0 Y q (w : Int)).1 = cnF (rp (Y.2 9)) (Y.1 7).toNat := by
  intro n
  induction n with
  | zero => intro w q h1 h2; exfalso; omega
  | succ n ih =>
    intro w q h1 h2 h3
    rw [F_m_least_e0]
    by_cases c : Y.1 7 ≤ (w : Int)
    · rw [if_pos c]
      show q = _
      rw [h3, show (Y.1 7).toNat = w by omega]
    · rw [if_neg c, mLeast_x jy (f := rp (Y.2 9)) (fun _ _ _ => rfl) (by omega) (by omega)]
      have cs : cnF (rp (Y.2 9)) (w + 1) = cnF (rp (Y.2 9)) w + if rp (Y.2 9) (w : Int) = (w : Int) then 1 else 0 := rfl
      by_cases c2 : rp (Y.2 9) (w : Int) = (w : Int)
      · rw [if_pos c2] at cs
        rw [if_pos c2, if_neg (by decide)]
        have := ih (w + 1) (q + 1) (by omega) (by omega) (by omega)
        exact this
      · rw [if_neg c2] at cs
        rw [if_neg c2, if_pos rfl]
        have := ih (w + 1) (q + 0) (by omega) (by omega) (by omega)
        exact this
theorem snE_7 {X : KS} {Y : MS} {m : Nat} (h : snE X Y m) : Y.1 7 = gS (Y.1 0) (m + 1) ∧ Y.1 7 ≤ 10000 ∧ jOK Y := by
  obtain ⟨m', a1, a2, a3, a4, a5, _, a7, _⟩ := h.2.1.1
  have e := h.1.2.2
  have : m' = m := by omega
  rw [this] at a4
  exact ⟨a4, a5, a7⟩
theorem least_1 {X : KS} {Y : MS} (h : Rel X Y) : (F_t_least X).1 = (F_m_least Y).1 := by
  unfold F_t_least F_m_least
  have lt := h.2.1.1.1
  rcases seen_v h.2.2.2.2 with ⟨a, b, c⟩ | ⟨a, b, m, c⟩
  · rw [if_pos a, if_pos c]
  · rw [if_neg (by omega), if_neg b]
    obtain ⟨e1, e2, e3⟩ := snE_7 c
    have g0 := gS_nn (L := Y.1 0) (by omega) (m + 1)
    have := least_s e3 (by omega) 10010 0 0 (by omega) (by omega) rfl
    refine (c.2.2.1.2.2.2).trans ?_
    rw [← e1]
    exact this.symm
theorem states_1 {X : KS} {Y : MS} (h : Rel X Y) : (F_t_states X).1 = (F_m_states Y).1 := by
  unfold F_t_states F_m_states
  rcases mach_v h.1.2.2.2.2.1 h.2.2.2.2 with ⟨a, b⟩ | ⟨a, b, c⟩
  · rw [if_pos a, if_pos b]
  · rw [if_neg (show ¬ (F_t_isProved X).1 = 0 by omega), if_neg (show ¬ (F_m_isMachine Y).1 = 0 by omega)]
    exact c.2.2.1.1.1
theorem leads_1 {X : KS} {Y : MS} (h : Rel X Y) (g l : Int) : (F_t_leads X g l).1 = (F_m_leads Y g l).1 := by
  unfold F_t_leads F_m_leads
  rcases mach_v h.1.2.2.2.2.1 h.2.2.2.2 with ⟨a, b⟩ | ⟨a, b, c⟩
  · rw [if_pos a, if_pos b]
  · rw [if_neg (show ¬ (F_t_isProved X).1 = 0 by omega), if_neg (show ¬ (F_m_isMachine Y).1 = 0 by omega)]
    obtain ⟨⟨s1, s2, s3⟩, s4⟩ := c.2.2.1
    have hh : ((F_a_has X g).1 = 0 ∧ ¬ (0 ≤ g ∧ g ≤ Y.1 24 - 1)) ∨ ((F_a_has X g).1 = 1 ∧ (0 ≤ g ∧ g ≤ Y.1 24 - 1)) := by
      unfold F_a_has
      rw [s1]
      repeat' split
      all_goals first | exact Or.inl ⟨rfl, by omega⟩ | exact Or.inr ⟨rfl, by omega⟩
    have hl : ((F_t_isLetter X l).1 = 0 ∧ ¬ (0 ≤ l ∧ l ≤ Y.1 0 - 1)) ∨ ((F_t_isLetter X l).1 = 1 ∧ (0 ≤ l ∧ l ≤ Y.1 0 - 1)) := by
      unfold F_t_isLetter
      rw [s2]
      repeat' split
      all_goals first | exact Or.inl ⟨rfl, by omega⟩ | exact Or.inr ⟨rfl, by omega⟩
    rcases in_v Y g 0 (Y.1 24 - 1) with ⟨p, q⟩ | ⟨p, q⟩
    · rw [if_pos p, if_pos (show (F_a_has X g).1 = 0 by omega)]
    · rw [if_neg (show ¬ (F_m_in Y g 0 (Y.1 24 - 1)).1 = 0 by omega), if_neg (show ¬ (F_a_has X g).1 = 0 by omega)]
      rcases in_v Y l 0 (Y.1 0 - 1) with ⟨p2, q2⟩ | ⟨p2, q2⟩
      · rw [if_pos p2, if_pos (show (F_t_isLetter X l).1 = 0 by omega)]
      · rw [if_neg (show ¬ (F_m_in Y l 0 (Y.1 0 - 1)).1 = 0 by omega), if_neg (show ¬ (F_t_isLetter X l).1 = 0 by omega)]
        rcases s4 g l q.1 (by omega) q2.1 (by omega) with ⟨k1, k2⟩ | ⟨k1, k2, k3⟩
        · rw [if_pos k1]; exact k2.symm
        · rw [if_neg (by omega)]; exact k2
theorem count_1 {X : KS} {Y : MS} (h : Rel X Y) (v : Int) : (F_t_count X v).1 = (F_m_count Y v).1 := by
  unfold F_t_count F_m_count
  rcases in_v Y v 0 30 with ⟨p, q⟩ | ⟨p, q⟩
  · rw [if_pos p]
    by_cases c1 : v < 0
    · rw [if_pos c1]
    · rw [if_neg c1, if_neg (by omega)]
  · rw [if_neg (show ¬ (F_m_in Y v 0 30).1 = 0 by omega), if_neg (by omega), if_pos (by omega)]
    rcases mach_v h.1.2.2.2.2.1 h.2.2.2.2 with ⟨a, b⟩ | ⟨a, b, c⟩
    · rw [if_pos a, if_pos b]
    · rw [if_neg (show ¬ (F_t_isProved X).1 = 0 by omega), if_neg (show ¬ (F_m_isMachine Y).1 = 0 by omega)]
      have s1 := c.2.2.1.1.2.2.1
      have e1 := c.2.2.2.1 v.toNat (by omega)
      have e2 := c.2.2.2.2.2.1 v.toNat 0 (by omega) (by omega)
      rw [show 31 * 0 + v.toNat = v.toNat by omega] at e2
      exact e1.trans e2.symm
theorem total_1 {X : KS} {Y : MS} (h : Rel X Y) (v : Int) : (F_t_total X v).1 = (F_m_total Y v).1 := by
  obtain ⟨ki, mv, sw, wd, sn⟩ := h
  unfold F_t_total F_m_total
  by_cases c0 : v = 0
  · rw [if_pos c0, if_pos c0]; exact sw.1
  · rw [if_neg c0, if_neg c0]
    by_cases c1 : v = 1
    · rw [if_pos c1, if_pos c1]; exact sw.2.1
    · rw [if_neg c1, if_neg c1]
      by_cases c2 : v = 2
      · rw [if_pos c2, if_pos c2]
        rcases seen_v sn with ⟨a, b, c⟩ | ⟨a, b, m, c⟩
        · rw [if_pos a, if_pos c]
        · rw [if_neg (by omega), if_neg b]
          exact c.2.2.2.1.1
      · rw [if_neg c2, if_neg c2]
        by_cases c3 : v = 3
        · rw [if_pos c3, if_pos c3]
          exact (wd_get ki.2.2.2.2.2.1.2 (mv.2.1 8 (by omega)) wd.2).1
        · rw [if_neg c3, if_neg c3]
theorem mz_au {Y : MS} (h : mzH Y) : auOK Y := plX_auOK h.1
theorem size_1 {X : KS} {Y : MS} (h : Rel X Y) : (F_t_size X).1 = (F_m_size Y).1 := by
  have lt := h.2.1.1.1
  have mm := mach_v h.1.2.2.2.2.1 h.2.2.2.2
  have S := size_x (x := Y) lt.2 (fun h9 => by
    rcases mm with ⟨a, b⟩ | ⟨a, b, c⟩
    · exact absurd b h9
    · exact ⟨mz_au c.2.2.2.2.2.2.1, c.2.2.1.1.2.2.1, c.2.2.2.2.2.1⟩) h.2.1.2.2.1.1 h.2.1.2.2.1.2
  rw [S.1]
  unfold F_t_size szV
  rcases mm with ⟨a, b⟩ | ⟨a, b, c⟩
  · rw [if_pos a, if_pos b]
  · rw [if_neg (show ¬ (F_t_isProved X).1 = 0 by omega), if_neg (show ¬ (F_m_isMachine Y).1 = 0 by omega)]
    have e31 := c.2.2.2.1 31 (by omega)
    have z31 := wN_nn (x := Y) 31 0
    have T : ((31 : Int)).toNat = 31 := rfl
    rcases c.2.2.2.2.1 with ⟨q1, q2⟩ | ⟨q1, q2⟩
    · rw [if_neg (show ¬ X.1 64 9 = 0 by omega), if_pos q2]
    · rw [if_pos q1, if_neg (show ¬ 0 < wN Y ((Y.1 24).toNat + 1) 0 by omega), T, e31]
      by_cases c3 : 0 < wN Y 31 0
      · have := (iC_gt (a := wN Y 31 0) (b := 0)).mpr c3
        rw [if_neg (by omega), if_pos c3]
      · have h9 : ¬ 0 < iC (wN Y 31 0) 0 := fun h8 => c3 (iC_gt.mp h8)
        rw [if_pos (by omega), if_neg c3, below_x c.2.2.2.1 (by decide) (by decide)]
        rfl
