-- deps: 30 31 32 33 34 35 36 37 38 39 40 41 42 43 46 70 71 72 73 74 75 76 77 78 79 80 81 82 83 84 85 86 87 88 89 90 91 92 93 94 95.a 95.b
/-! small things: what reading leaves, ranges of LETTERS -/
theorem F_a_read_s_lo : ∀ (n : Nat) (y : KS) (f g s i : Int) (p : Nat), (p : Int) ≤ i → 0 ≤ i → (F_a_read_s n 0 y f g s i).2.2 94 p = y.2 94 p := by
  intro n
  induction n with
  | zero => intro y f g s i p _ _; rfl
  | succ n ih =>
    intro y f g s i p hp h0
    rw [F_a_read_e0]
    have on : ∀ v s', (F_a_read_s n 0 (kA y 94 (i + 1).toNat v) f g s' (i + 1)).2.2 94 p = y.2 94 p := fun v s' => by
      rw [ih _ _ _ _ _ p (by omega) (by omega), kA_s, iU_n (by omega)]
    repeat' split
    all_goals first | rfl | exact on _ _
theorem F_a_read_lo {y : KS} {f g : Int} {p : Nat} (h : (p : Int) ≤ f) : (F_a_read y f g).2.2 94 p = y.2 94 p := by
  unfold F_a_read
  by_cases c : f < 0
  · rw [if_pos c]
  · rw [if_neg c]
    repeat' split
    all_goals first | rfl | exact F_a_read_s_lo 70 _ _ _ _ _ p h (by omega)
def r03 (f : Nat → Int) : Prop := ∀ j : Nat, 0 ≤ f j ∧ f j ≤ 3
theorem r03_U {f : Nat → Int} {k : Nat} {v : Int} (h : r03 f) (h0 : 0 ≤ v) (h1 : v ≤ 3) : r03 (iU f k v) := iU_all (P := fun z => 0 ≤ z ∧ z ≤ 3) ⟨h0, h1⟩ h
theorem F_w_append_s_r {w q : Nat} (ne : w ≠ q) : ∀ (n : Nat) (y : KS) (i : Int), r03 (y.2 (w + 1)) → r03 (y.2 (q + 1)) → r03 ((F_w_append_s w q n 0 y i).2.2 (w + 1)) := by
  intro n
  induction n with
  | zero => intro y i h _; exact h
  | succ n ih =>
    intro y i h1 h2
    rw [F_w_append_e0]
    split
    · exact h1
    · refine ih _ _ ?_ ?_
      · rw [kA_s, kS_2]; exact r03_U h1 (h2 _).1 (h2 _).2
      · rw [kA_c (fun e => ne (Nat.succ.inj e).symm), kS_2]; exact h2
theorem F_w_append_r {y : KS} {w q : Nat} (ne : w ≠ q) (h1 : r03 (y.2 (w + 1))) (h2 : r03 (y.2 (q + 1))) : r03 ((F_w_append y w q).2.2 (w + 1)) := by
  unfold F_w_append
  split
  · exact F_w_append_s_r ne _ _ _ h1 h2
  · exact h1
theorem F_w_drawFrom_s_r {w q : Nat} (ne : w ≠ q) : ∀ (n : Nat) (y : KS) (f b : Int), r03 (y.2 (w + 1)) → r03 (y.2 (q + 1)) → r03 ((F_w_drawFrom_s w q n 0 y f b).2.2 (w + 1)) := by
  intro n
  induction n with
  | zero => intro y f b h _; exact h
  | succ n ih =>
    intro y f b h1 h2
    rw [F_w_drawFrom_e0]
    repeat' split
    all_goals first | exact h1 | skip
    refine ih _ _ _ ?_ ?_
    · rw [kA_s, kS_2, kS_2]; exact r03_U h1 (h2 _).1 (h2 _).2
    · rw [kA_c (fun e => ne (Nat.succ.inj e).symm), kS_2, kS_2]; exact h2
theorem F_w_drawFrom_r {y : KS} {w q : Nat} {f : Int} (ne : w ≠ q) (h1 : r03 (y.2 (w + 1))) (h2 : r03 (y.2 (q + 1))) : r03 ((F_w_drawFrom y w q f).2.2 (w + 1)) := F_w_drawFrom_s_r ne _ _ _ _ h1 h2
theorem F_t_moveDown_s_r {P : Int → Prop} {a : Nat} (f t c : Int) : ∀ (n : Nat) (y : KS) (i : Int), (∀ j, P (y.2 a j)) → ∀ j, P ((F_t_moveDown_s a n 0 y f t c i).2.2 a j) := by
  intro n
  induction n with
  | zero => intro y i h; exact h
  | succ n ih =>
    intro y i h
    rw [F_t_moveDown_e0]
    repeat' split
    all_goals first | exact h | skip
    refine ih _ _ ?_
    rw [kA_s]
    exact iU_all (h _) h
theorem F_t_moveDown_r {P : Int → Prop} {y : KS} {a : Nat} {f t c : Int} (h : ∀ j, P (y.2 a j)) : ∀ j, P ((F_t_moveDown y a f t c).2.2 a j) := F_t_moveDown_s_r f t c _ _ _ h
/-- what stands from a place on comes to a place ahead of it -/
theorem F_t_moveDown_s_x {a : Nat} {F : Nat → Int} {f t c : Nat} (htf : t ≤ f) : ∀ (n : Nat) (y : KS) (i : Nat), i ≤ c → f + c ≤ kLen a → c - i < n → (∀ j, j < i → y.2 a (t + j) = F (f + j)) → (∀ j, f + i ≤ j → y.2 a j = F j) → (∀ j, j < t → y.2 a j = F j) → (∀ j, j < c → (F_t_moveDown_s a n 0 y (f : Int) (t : Int) (c : Int) (i : Int)).2.2 a (t + j) = F (f + j)) ∧ (∀ j, j < t → (F_t_moveDown_s a n 0 y (f : Int) (t : Int) (c : Int) (i : Int)).2.2 a j = F j) := by
  intro n
  induction n with
  | zero => intro y i _ _ h; exfalso; omega
  | succ n ih =>
    intro y i h1 h2 h3 ha hb hc
    rw [F_t_moveDown_e0]
    by_cases c1 : (c : Int) ≤ (i : Int)
    · rw [if_pos c1]
      exact ⟨fun j hj => ha j (by omega), hc⟩
    · rw [if_neg c1, if_neg (by omega), if_neg (by omega), if_neg (by omega)]
      rw [show ((f : Int) + (i : Int)).toNat = f + i by omega, show ((t : Int) + (i : Int)).toNat = t + i by omega, show (i : Int) + 1 = ((i + 1 : Nat) : Int) by push_cast; rfl, hb (f + i) (Nat.le_refl _)]
      refine ih _ (i + 1) (by omega) h2 (by omega) (fun j hj => ?_) (fun j hj => ?_) (fun j hj => ?_)
      · rw [kA_s]
        by_cases c2 : j = i
        · subst c2; rw [iU_s]
        · rw [iU_n (by omega)]; exact ha j (by omega)
      · rw [kA_s, iU_n (by omega)]; exact hb j (by omega)
      · rw [kA_s, iU_n (by omega)]; exact hc j hj
theorem F_t_moveDown_x {y : KS} {a f t c : Nat} (htf : t ≤ f) (h2 : f + c ≤ kLen a) (hc : c < 1000) : (∀ j, j < c → (F_t_moveDown y a (f : Int) (t : Int) (c : Int)).2.2 a (t + j) = y.2 a (f + j)) ∧ (∀ j, j < t → (F_t_moveDown y a (f : Int) (t : Int) (c : Int)).2.2 a j = y.2 a j) := F_t_moveDown_s_x htf 1010 y 0 (Nat.zero_le _) h2 (by omega) (fun j hj => absurd hj (by omega)) (fun j _ => rfl) (fun j _ => rfl)
theorem grW_89 {y z : KS} (w : grW y) (e : ∀ q, q ≠ 89 → z.2 q = y.2 q) (h : r03 (z.2 89)) : grW z := by
  unfold grW
  rw [e 91 (by decide), e 93 (by decide), e 94 (by decide), e 95 (by decide), e 96 (by decide), e 97 (by decide), e 98 (by decide), e 99 (by decide), e 100 (by decide)]
  exact ⟨h, w.2⟩
theorem grW_open {y : KS} {h t : Int} (w : grW y) (hh : iRL h) (ht : iRL t) : grW (F_g_open y h t).2 := by
  obtain ⟨g1, g2, g3, g4, g5, g6, g7⟩ := w
  unfold F_g_open
  repeat' split
  all_goals first | exact ⟨g1, g2, g3, g4, g5, g6, g7⟩ | skip
  all_goals refine ⟨g1, g2, g3, g4, ?_, ?_, g7⟩
  all_goals first | (rw [kA_c (by decide), kA_s]; exact iU_all hh g5) | (rw [kA_s, kA_c (by decide)]; exact iU_all ht g6)
theorem grW_await {y : KS} {a m w : Int} (g : grW y) (ha : a = 0 ∨ a = 1) (hw : w = 0 ∨ w = 1) (m0 : 0 ≤ m) (m1 : m ≤ 60) : grW (F_g_await y a m w).2 := by
  obtain ⟨g1, g2, g3, g4, g5, g6, g7, g8, g9, g10⟩ := g
  unfold F_g_await
  refine ⟨g1, g2, g3, g4, g5, g6, ?_, ?_, ?_, ?_⟩
  · rw [kA_c (by decide), kA_c (by decide), kA_s, kA_c (by decide)]
    exact iU_all (P := fun z => 0 ≤ z ∧ z ≤ 60) ⟨m0, m1⟩ g7
  · rw [kA_s, kA_c (by decide), kA_c (by decide), kA_c (by decide)]
    exact iU_all (P := fun z => 0 ≤ z ∧ z ≤ 1000) ⟨by decide, by decide⟩ g8
  · rw [kA_c (by decide), kA_c (by decide), kA_c (by decide), kA_s]
    exact iU_all (P := fun z => z = 0 ∨ z = 1) ha g9
  · rw [kA_c (by decide), kA_s, kA_c (by decide), kA_c (by decide)]
    exact iU_all (P := fun z => z = 0 ∨ z = 1) hw g10
theorem grW_94 {y : KS} {k : Nat} {v : Int} (w : grW y) (h0 : -1000 ≤ v) (h1 : v < 320) : grW (kA y 94 k v) := by
  obtain ⟨g1, g2, g3, g4, g5⟩ := w
  refine ⟨g1, g2, g3, ?_, g5⟩
  rw [kA_s]
  exact iU_all (P := fun z => -1000 ≤ z ∧ z < 320) ⟨h0, h1⟩ g4
/-- what is replaced leaves the Grower's lists -/
theorem grL_rp {x y z : KS} {b : Int} {v : Int} {src Ah P B : List Int} (h : rpC x y z b P v) (g : grL x y src Ah P B) : grL x z src Ah P B ∧ lvl z = lvl y := by
  have h93 : r03 (z.2 93) := by obtain ⟨_, K, T, V, _, _, _, _, _, r, _⟩ := h; exact r
  have f := h.1
  obtain ⟨sm, w88, w90, fr, ok1, ok2, h60, lv, st, low, ki, gw⟩ := g
  have el : lvl z = lvl y := lvl_fr f (by decide)
  refine ⟨⟨sM_tr sm (sM_of f (by unfold sMs; decide) (by unfold sMa; decide)), wL_fr f (by decide) (by decide) w88, wL_fr f (by decide) (by decide) w90, by rw [f.1 87 12 (by decide)]; exact fr, ok1, ok2, h60, by rw [f.1 87 13 (by decide)]; exact lv, ?_, ?_, knI_of f (by decide) (by decide) (by decide) (by decide) (by decide) ki, ?_⟩, el⟩
  · rw [el]; exact stk_cg _ _ _ _ (fun j _ => lvS_of f (by decide) j) st
  · rw [el, f.2 97 (by decide), f.2 98 (by decide)]; exact low
  · unfold grW
    rw [f.2 89 (by decide), f.2 91 (by decide), f.2 94 (by decide), f.2 95 (by decide), f.2 96 (by decide), f.2 97 (by decide), f.2 98 (by decide), f.2 99 (by decide), f.2 100 (by decide)]
    exact ⟨gw.1, gw.2.1, h93, gw.2.2.2⟩
theorem led_ne {x : KS} {u v : List Int} (h : led x u v) : u ≠ [] := fun e => by
  have := h.2
  rw [e] at this
  exact absurd this (Nat.not_lt_zero _)
/-- what comes of a turn -/
def rpE (x : KS) (wl : Nat) (src S : List Int) (z : KS) : Prop := ∃ Ah P B, grI x z src Ah P B ∧ knR z wl ∧ idX z P ∧ knm (Ah ++ (P ++ B.reverse)) < knm S
/-- there is a level more to open -/
theorem lvl_60 {x y : KS} {src Ah P B : List Int} (g : grL x y src Ah P B) (hP : P ≠ []) (hc : lvl y = 0 ∨ 0 < y.2 97 (lvl y)) : y.1 87 13 ≤ 60 := by
  obtain ⟨sm, w88, w90, fr, ok1, ok2, h60, lv, st, low, ki, gw⟩ := g
  have hl : 1 ≤ P.length := List.length_pos_iff.mpr hP
  have key : lvl y ≤ 60 := by
    rcases hc with hc | hc
    · omega
    · have := stk_few (lvl y) Ah P B.reverse (fun j h1 h2 => by
        by_cases c : j < lvl y
        · exact (low j h1 c).1
        · have : j = lvl y := by omega
          subst this
          omega) st
      rw [List.length_reverse] at this
      omega
  unfold lvl at key
  omega
