-- deps: 30 31 32 33 34 35 36 37 38 39 40 41 42 43 46 70 71 72 73 74 75 76 77 78 79 80 81 82 83 84 85 86 87 88 89 90 91 92 93 94 95.a 95.b 95.c 95.d 95.e 95.f 95.g
/-! small bounds that the Grower's own calls need -/
def gT (y : KS) : Prop := maR y ∧ (1 ≤ y.1 1 2 ∧ y.1 1 2 ≤ 4) ∧ grW y ∧ (0 ≤ y.1 87 13 ∧ y.1 87 13 ≤ 61) ∧ (0 ≤ y.1 87 12 ∧ y.1 87 12 ≤ 60) ∧ (0 ≤ y.1 88 1 ∧ y.1 88 1 ≤ 60) ∧ (0 ≤ y.1 90 1 ∧ y.1 90 1 ≤ 60)
theorem gT_gr {y : KS} (h : gT y) : grR y := by
  obtain ⟨ma, l2, gw, lv, fm, u, v⟩ := h
  exact ⟨lv, fm, gw.2.2.2.2.2.2.2.2.1, gw.2.2.2.2.2.2.2.2.2, gw.2.2.2.2.1, gw.2.2.2.2.2.1, gw.2.2.2.1⟩
theorem gT_wr {y : KS} (h : gT y) : ∀ j : Nat, iR (y.2 97 j) := fun j => by
  have := h.2.2.1.2.2.2.2.2.2.1 j
  unfold iR
  omega
theorem gT_rw {y : KS} (h : gT y) : ∀ j : Nat, -1 ≤ y.2 89 j ∧ y.2 89 j ≤ 3 := fun j => by
  have := h.2.2.1.1 j
  omega
theorem gT_rp {y : KS} (h : gT y) : ∀ j : Nat, -1000 ≤ y.2 94 j ∧ y.2 94 j < 320 := h.2.2.1.2.2.2.1
theorem F_a_read_s_b : ∀ (n : Nat) (y : KS) (f g s i : Int), 0 ≤ i → -1 ≤ (F_a_read_s n 0 y f g s i).1 ∧ ((F_a_read_s n 0 y f g s i).1 < y.1 88 1 ∨ (F_a_read_s n 0 y f g s i).1 ≤ 0) := by
  intro n
  induction n with
  | zero => intro y f g s i _; exact ⟨by show (-1 : Int) ≤ 0; decide, Or.inr (Int.le_refl _)⟩
  | succ n ih =>
    intro y f g s i h0
    rw [F_a_read_e0]
    have on : ∀ v s', -1 ≤ (F_a_read_s n 0 (kA y 94 (i + 1).toNat v) f g s' (i + 1)).1 ∧ ((F_a_read_s n 0 (kA y 94 (i + 1).toNat v) f g s' (i + 1)).1 < y.1 88 1 ∨ (F_a_read_s n 0 (kA y 94 (i + 1).toNat v) f g s' (i + 1)).1 ≤ 0) := fun v s' => ih (kA y 94 (i + 1).toNat v) f g s' (i + 1) (by omega)
    have m1 : -1 ≤ (((-1 : Int), y) : Int × KS).1 ∧ ((((-1 : Int), y) : Int × KS).1 < y.1 88 1 ∨ (((-1 : Int), y) : Int × KS).1 ≤ 0) := ⟨Int.le_refl _, Or.inr (by show (-1 : Int) ≤ 0; decide)⟩
    by_cases c : y.1 88 1 ≤ i
    · rw [if_pos c]; exact m1
    · rw [if_neg c]
      have m2 : ∀ z : KS, -1 ≤ ((i, z) : Int × KS).1 ∧ (((i, z) : Int × KS).1 < y.1 88 1 ∨ ((i, z) : Int × KS).1 ≤ 0) := fun z => ⟨by show -1 ≤ i; omega, Or.inl (by show i < y.1 88 1; omega)⟩
      repeat' split
      all_goals first | exact m1 | exact on _ _ | exact m2 _
theorem F_a_read_b {y : KS} {f g : Int} (h : y.1 88 1 ≤ 60) : -1 ≤ (F_a_read y f g).1 ∧ (F_a_read y f g).1 ≤ 60 := by
  unfold F_a_read
  have m1 : -1 ≤ (((-1 : Int), y) : Int × KS).1 ∧ (((-1 : Int), y) : Int × KS).1 ≤ 60 := ⟨Int.le_refl _, by show (-1 : Int) ≤ 60; decide⟩
  by_cases c : f < 0
  · rw [if_pos c]; exact m1
  · rw [if_neg c]
    have := F_a_read_s_b 70 y f g (y.2 94 f.toNat) f (by omega)
    repeat' split
    all_goals first | exact m1 | (refine ⟨this.1, ?_⟩; omega)
theorem F_a_read_R {y : KS} {f g : Int} (h : y.1 88 1 ≤ 60) : iR (F_a_read y f g).1 := by
  have := F_a_read_b (f := f) (g := g) h
  unfold iR
  omega
theorem gT_fr {S : List (Nat × Nat)} {A : List Nat} {y z : KS} (h : gT y) (f : ksame S A y z) (hS : ∀ p ∈ S, p ∉ [(64, 7), (1, 2), (87, 13), (87, 12), (88, 1), (90, 1)]) (hA : ∀ a ∈ A, a ∉ [65, 66]) (gw : grW z) : gT z := by
  have s1 : ∀ p, p ∈ [(64, 7), (1, 2), (87, 13), (87, 12), (88, 1), (90, 1)] → p ∉ S := fun p hp hb => hS p hb hp
  have a1 : ∀ a, a ∈ [65, 66] → a ∉ A := fun a ha hb => hA a hb ha
  obtain ⟨ma, l2, _, lv, fm, u, v⟩ := h
  unfold gT
  rw [f.1 1 2 (s1 _ (by decide)), f.1 87 13 (s1 _ (by decide)), f.1 87 12 (s1 _ (by decide)), f.1 88 1 (s1 _ (by decide)), f.1 90 1 (s1 _ (by decide))]
  exact ⟨maR_of f (s1 _ (by decide)) (a1 _ (by decide)) (a1 _ (by decide)) ma, l2, gw, lv, fm, u, v⟩
theorem gT_read {y : KS} {f g : Int} (h : gT y) : gT (F_a_read y f g).2 := by
  have fr := F_a_read_fr y f g
  refine gT_fr h fr (by decide) (by decide) ?_
  have h94 := F_a_read_rp (f := f) (g := g) h.1 (gT_rp h)
  have w := h.2.2.1
  unfold grW
  rw [fr.2 89 (by decide), fr.2 91 (by decide), fr.2 93 (by decide), fr.2 95 (by decide), fr.2 96 (by decide), fr.2 97 (by decide), fr.2 98 (by decide), fr.2 99 (by decide), fr.2 100 (by decide)]
  exact ⟨w.1, w.2.1, w.2.2.1, h94, w.2.2.2.2⟩
theorem gT_94 {y : KS} {k : Nat} {v : Int} (h : gT y) (h0 : -1000 ≤ v) (h1 : v < 320) : gT (kA y 94 k v) := gT_fr (S := []) (A := [94]) h (km_a (by decide) (km_rf _ _ _)) (by decide) (by decide) (grW_94 h.2.2.1 h0 h1)
theorem gT_open {y : KS} {h t : Int} (g : gT y) (hh : iRL h) (ht : iRL t) : gT (F_g_open y h t).2 := by
  have gw := grW_open g.2.2.1 hh ht
  have f := F_g_open_fr y h t
  obtain ⟨ma, l2, _, lv, fm, u, v⟩ := g
  refine ⟨maR_of f (by decide) (by decide) (by decide) ma, by rw [f.1 1 2 (by decide)]; exact l2, gw, ?_, by rw [f.1 87 12 (by decide)]; exact fm, by rw [f.1 88 1 (by decide)]; exact u, by rw [f.1 90 1 (by decide)]; exact v⟩
  unfold F_g_open
  repeat' split
  all_goals first | exact lv | (show 0 ≤ (kS y 87 13 (y.1 87 13 + 1)).1 87 13 ∧ (kS y 87 13 (y.1 87 13 + 1)).1 87 13 ≤ 61; rw [kS_s]; omega)
theorem F_g_open_01 (y : KS) (h t : Int) : (F_g_open y h t).1 = 0 ∨ (F_g_open y h t).1 = 1 := by
  unfold F_g_open
  repeat' split
  all_goals first | exact Or.inl rfl | exact Or.inr rfl
theorem F_g_grow_01 (y : KS) : (F_g_grow y).1 = 0 ∨ (F_g_grow y).1 = 1 := by
  unfold F_g_grow
  repeat' split
  all_goals first | exact Or.inl rfl | exact Or.inr rfl
theorem gT_from {y : KS} {f : Int} (g : gT y) (h0 : 0 ≤ f) (h1 : f ≤ 60) : gT (kS y 87 12 f) := by
  have k : ksame [(87, 12)] [] y (kS y 87 12 f) := km_s (by decide) (km_rf _ _ _)
  obtain ⟨ma, l2, gw, lv, fm, u, v⟩ := g
  exact ⟨maR_of k (by decide) (by decide) (by decide) ma, by rw [k.1 1 2 (by decide)]; exact l2, grW_of k (by decide) gw, by rw [k.1 87 13 (by decide)]; exact lv, by rw [kS_s]; exact ⟨h0, h1⟩, by rw [k.1 88 1 (by decide)]; exact u, by rw [k.1 90 1 (by decide)]; exact v⟩
theorem gT_used {y : KS} {f : Int} (g : gT y) (h0 : 0 ≤ f) (h1 : f ≤ 60) : gT (kS y 88 1 f) := by
  have k : ksame [(88, 1)] [] y (kS y 88 1 f) := km_s (by decide) (km_rf _ _ _)
  obtain ⟨ma, l2, gw, lv, fm, u, v⟩ := g
  exact ⟨maR_of k (by decide) (by decide) (by decide) ma, by rw [k.1 1 2 (by decide)]; exact l2, grW_of k (by decide) gw, by rw [k.1 87 13 (by decide)]; exact lv, by rw [k.1 87 12 (by decide)]; exact fm, by rw [kS_s]; exact ⟨h0, h1⟩, by rw [k.1 90 1 (by decide)]; exact v⟩
/-- how many LETTERS there are behind append -/
theorem F_w_append_s_u {w q : Nat} (ne : w ≠ q) : ∀ (n : Nat) (y : KS) (i : Int), 0 ≤ i → i ≤ y.1 q 1 → y.1 q 1 - i < n → (F_w_append_s w q n 0 y i).2.1 w 1 = y.1 w 1 + (y.1 q 1 - i) := by
  intro n
  induction n with
  | zero => intro y i _ _ h; exfalso; omega
  | succ n ih =>
    intro y i h0 h1 h2
    rw [F_w_append_e0]
    by_cases c : y.1 q 1 ≤ i
    · rw [if_pos c]
      show y.1 w 1 = _
      omega
    · have eq1 : (kA (kS y w 1 (y.1 w 1 + 1)) (w + 1) (y.1 w 1).toNat (y.2 (q + 1) i.toNat)).1 q 1 = y.1 q 1 := by rw [kA_1, kS_c (Ne.symm ne)]
      have eq2 : (kA (kS y w 1 (y.1 w 1 + 1)) (w + 1) (y.1 w 1).toNat (y.2 (q + 1) i.toNat)).1 w 1 = y.1 w 1 + 1 := by rw [kA_1, kS_s]
      rw [if_neg c, ih _ _ (by omega) (by rw [eq1]; omega) (by rw [eq1]; omega), eq1, eq2]
      omega
theorem F_w_append_u {y : KS} (h0 : 0 ≤ y.1 92 1) (h1 : y.1 92 1 ≤ 60) (hl : y.1 88 1 + y.1 92 1 ≤ 60) : (F_w_append y 88 92).2.1 88 1 = y.1 88 1 + y.1 92 1 := by
  unfold F_w_append
  rw [if_pos (by show _ ≤ ((60 : Nat) : Int); omega), F_w_append_s_u (by decide) 100 y 0 (Int.le_refl _) h0 (by omega)]
  omega
theorem gT_append {y : KS} (g : gT y) (h0 : 0 ≤ y.1 92 1) (h1 : y.1 92 1 ≤ 60) : gT (F_w_append y 88 92).2 := by
  have k := F_w_append_fr y 88 92
  obtain ⟨ma, l2, gw, lv, fm, u, v⟩ := g
  have r := F_w_append_r (y := y) (w := 88) (q := 92) (by decide) gw.1 gw.2.2.1
  refine ⟨maR_of k (by decide) (by decide) (by decide) ma, by rw [k.1 1 2 (by decide)]; exact l2, grW_89 gw (fun q hq => k.2 q (by rw [List.mem_singleton]; exact hq)) r, by rw [k.1 87 13 (by decide)]; exact lv, by rw [k.1 87 12 (by decide)]; exact fm, ?_, by rw [k.1 90 1 (by decide)]; exact v⟩
  by_cases c : y.1 88 1 + y.1 92 1 ≤ 60
  · rw [F_w_append_u h0 h1 c]
    omega
  · unfold F_w_append
    rw [if_neg (by show ¬ _ ≤ ((60 : Nat) : Int); omega)]
    exact u
theorem F_w_drawFrom_s_u : ∀ (n : Nat) (y : KS) (f b : Int), 0 ≤ y.1 88 1 → y.1 88 1 ≤ 60 → 0 ≤ y.1 90 1 → y.1 90 1 ≤ 60 → (0 ≤ (F_w_drawFrom_s 90 88 n 0 y f b).2.1 88 1 ∧ (F_w_drawFrom_s 90 88 n 0 y f b).2.1 88 1 ≤ 60) ∧ (0 ≤ (F_w_drawFrom_s 90 88 n 0 y f b).2.1 90 1 ∧ (F_w_drawFrom_s 90 88 n 0 y f b).2.1 90 1 ≤ 60) := by
  intro n
  induction n with
  | zero => intro y f b h1 h2 h3 h4; exact ⟨⟨h1, h2⟩, h3, h4⟩
  | succ n ih =>
    intro y f b h1 h2 h3 h4
    rw [F_w_drawFrom_e0]
    by_cases c1 : y.1 88 1 ≤ f
    · rw [if_pos c1]; exact ⟨⟨h1, h2⟩, h3, h4⟩
    · rw [if_neg c1]
      by_cases c2 : y.1 88 1 ≤ 0
      · rw [if_pos c2]; exact ⟨⟨h1, h2⟩, h3, h4⟩
      · rw [if_neg c2]
        by_cases c3 : ((kL 90 : Nat) : Int) ≤ y.1 90 1
        · rw [if_pos c3]; exact ⟨⟨h1, h2⟩, h3, h4⟩
        · rw [if_neg c3]
          have c3' : ¬ ((60 : Nat) : Int) ≤ y.1 90 1 := c3
          refine ih _ f b ?_ ?_ ?_ ?_
          · rw [kA_1, kS_c (by decide), kS_s]; omega
          · rw [kA_1, kS_c (by decide), kS_s]; omega
          · rw [kA_1, kS_s]; omega
          · rw [kA_1, kS_s]; omega
theorem gT_draw {y : KS} {f : Int} (g : gT y) : gT (F_w_drawFrom y 90 88 f).2 := by
  have k := F_w_drawFrom_fr y 90 88 f
  obtain ⟨ma, l2, gw, lv, fm, u, v⟩ := g
  have r := F_w_drawFrom_r (y := y) (w := 90) (q := 88) (f := f) (by decide) gw.2.1 gw.1
  have b := F_w_drawFrom_s_u 100 y f (y.1 90 1) u.1 u.2 v.1 v.2
  refine ⟨maR_of k (by decide) (by decide) (by decide) ma, by rw [k.1 1 2 (by decide)]; exact l2, ?_, by rw [k.1 87 13 (by decide)]; exact lv, by rw [k.1 87 12 (by decide)]; exact fm, b.1, b.2⟩
  unfold grW
  rw [k.2 89 (by decide), k.2 93 (by decide), k.2 94 (by decide), k.2 95 (by decide), k.2 96 (by decide), k.2 97 (by decide), k.2 98 (by decide), k.2 99 (by decide), k.2 100 (by decide)]
  exact ⟨gw.1, r, gw.2.2⟩
theorem gT_move {y : KS} {a : Nat} {f t c : Int} (g : gT y) (ha : a = 89 ∨ a = 94) : gT (F_t_moveDown y a f t c).2 := by
  have k := F_t_moveDown_fr y a f t c
  have w := g.2.2.1
  rcases ha with ha | ha
  · subst ha
    exact gT_fr g k (by decide) (by decide) (grW_89 w (fun q hq => k.2 q (by rw [List.mem_singleton]; exact hq)) (F_t_moveDown_r (P := fun z => 0 ≤ z ∧ z ≤ 3) w.1))
  · subst ha
    refine gT_fr g k (by decide) (by decide) ?_
    have h94 := F_t_moveDown_r (y := y) (a := 94) (f := f) (t := t) (c := c) (P := fun z => -1000 ≤ z ∧ z < 320) w.2.2.2.1
    unfold grW
    rw [k.2 89 (by decide), k.2 91 (by decide), k.2 93 (by decide), k.2 95 (by decide), k.2 96 (by decide), k.2 97 (by decide), k.2 98 (by decide), k.2 99 (by decide), k.2 100 (by decide)]
    exact ⟨w.1, w.2.1, w.2.2.1, h94, w.2.2.2.2⟩
theorem gS_T {wl : Nat} {y : KS} (h : gSg wl y) : gT y := by
  obtain ⟨ma, l2, gw, lv, fm, u0, v0, uv, kn⟩ := h
  exact ⟨ma, l2, gw, lv, ⟨fm.1, by omega⟩, ⟨u0, by omega⟩, ⟨v0, by omega⟩⟩
theorem F_k_take_s_RL (h9 t9 v : Int) : ∀ (n : Nat) (y : KS) (i : Int), iRL (y.1 101 5) → iRL (y.1 101 6) → iRL ((F_k_take_s n 0 y h9 t9 v i).2.1 101 5) ∧ iRL ((F_k_take_s n 0 y h9 t9 v i).2.1 101 6) := by
  intro n
  induction n with
  | zero => intro y i h1 h2; exact ⟨h1, h2⟩
  | succ n ih =>
    intro y i h1 h2
    rw [F_k_take_e0]
    split
    · exact ⟨h1, h2⟩
    · refine ih _ _ ?_ ?_
      · unfold F_k_drop
        split
        · rw [kS_s]; exact iSr_RL _ _
        · rw [kS_k (by decide)]; exact h1
      · unfold F_k_drop
        split
        · rw [kS_k (by decide)]; exact h2
        · rw [kS_s]; exact iSr_RL _ _
theorem F_k_take_RL {y : KS} {h9 t9 v : Int} (hh : iRL h9) (ht : iRL t9) : iRL ((F_k_take y h9 t9 v).2.1 101 5) ∧ iRL ((F_k_take y h9 t9 v).2.1 101 6) := F_k_take_s_RL h9 t9 v _ _ _ (by rw [kS_k (by decide), kS_s]; exact hh) (by rw [kS_s]; exact ht)
theorem gTk_13 (y : KS) : (F_g_grow (gTk y)).2.1 87 13 = y.1 87 13 := by rw [(F_g_grow_fr (gTk y)).1 87 13 (by decide), (gTk_fr y).1 87 13 (by decide)]
/-- what grow needs, behind the LETTER that is taken from those that wait -/
theorem gTk_s {wl : Nat} {y : KS} (h : gOK wl y) (w1 : 0 < y.2 97 (y.1 87 13).toNat) : gT (gTk y) ∧ ((gTk y).2 99 ((gTk y).1 87 13).toNat = 0 → 1 ≤ (gTk y).1 90 1 ∧ (gTk y).1 88 1 < 60) := by
  have s := gOK_S h
  have t := gS_T s.1
  have k := gTk_fr y
  have w := gOK_w h w1
  have uv := s.1.2.2.2.2.2.2.2.1
  have h2 : y.2 98 (lvl y) < 1000 := by have := s.2; have := t.2.2.2.2.2.1; omega
  refine ⟨gT_fr t k (by decide) (by decide) (grW_tk t.2.2.1 w1 h2), fun a0 => ?_⟩
  rw [k.1 87 13 (by decide), k.2 99 (by decide)] at a0
  rw [k.1 90 1 (by decide), k.1 88 1 (by decide)]
  have := w.1 a0
  omega
theorem gCl_v {y : KS} {s a b : Int} (hs : gSp y = s) (ha : (if y.2 99 (lvl y) = 0 then 0 else gSp y) = a) (hb : (if y.2 99 (lvl y) = 0 then gSp y else 0) = b) : kS (F_k_keep (F_k_take y (y.2 95 (y.1 87 13).toNat) (y.2 96 (y.1 87 13).toNat) s).2 ((F_k_take y (y.2 95 (y.1 87 13).toNat) (y.2 96 (y.1 87 13).toNat) s).2.1 87 12 + a) ((F_k_take y (y.2 95 (y.1 87 13).toNat) (y.2 96 (y.1 87 13).toNat) s).2.1 88 1 - b)).2 87 13 ((F_k_keep (F_k_take y (y.2 95 (y.1 87 13).toNat) (y.2 96 (y.1 87 13).toNat) s).2 ((F_k_take y (y.2 95 (y.1 87 13).toNat) (y.2 96 (y.1 87 13).toNat) s).2.1 87 12 + a) ((F_k_take y (y.2 95 (y.1 87 13).toNat) (y.2 96 (y.1 87 13).toNat) s).2.1 88 1 - b)).2.1 87 13 - 1) = gCl y := by
  subst hs
  have e13 : ∀ f t, (F_k_keep (gTa y) f t).2.1 87 13 = y.1 87 13 := fun f t => by rw [(F_k_keep_fr _ f t).1 87 13 (by decide), (gTa_fr y).1 87 13 (by decide)]
  show kS (F_k_keep (gTa y) ((gTa y).1 87 12 + a) ((gTa y).1 88 1 - b)).2 87 13 ((F_k_keep (gTa y) ((gTa y).1 87 12 + a) ((gTa y).1 88 1 - b)).2.1 87 13 - 1) = gCl y
  rw [e13, ← ha, ← hb]
  rfl
theorem gCl_t {y : KS} {s : Int} (c : ((F_k_take y (y.2 95 (y.1 87 13).toNat) (y.2 96 (y.1 87 13).toNat) s).2.2 99) ((F_k_take y (y.2 95 (y.1 87 13).toNat) (y.2 96 (y.1 87 13).toNat) s).2.1 87 13).toNat = 0) : y.2 99 (lvl y) = 0 := by
  have f := F_k_take_fr y (y.2 95 (y.1 87 13).toNat) (y.2 96 (y.1 87 13).toNat) s
  rw [f.2 99 (by decide), f.1 87 13 (by decide)] at c
  exact c
theorem gCl_u {y : KS} {s : Int} (c : ¬ ((F_k_take y (y.2 95 (y.1 87 13).toNat) (y.2 96 (y.1 87 13).toNat) s).2.2 99) ((F_k_take y (y.2 95 (y.1 87 13).toNat) (y.2 96 (y.1 87 13).toNat) s).2.1 87 13).toNat = 0) : ¬ y.2 99 (lvl y) = 0 := by
  have f := F_k_take_fr y (y.2 95 (y.1 87 13).toNat) (y.2 96 (y.1 87 13).toNat) s
  rw [f.2 99 (by decide), f.1 87 13 (by decide)] at c
  exact c
theorem gSp_0 {y : KS} (c : y.2 100 (y.1 87 13).toNat = 0) : gSp y = y.2 98 (y.1 87 13).toNat := if_pos c
theorem gSp_1 {y : KS} (c : ¬ y.2 100 (y.1 87 13).toNat = 0) : gSp y = 0 := if_neg c
theorem gF_a {M : KS} {v f e : Int} (gM : gT M) (fM : M.1 87 12 = f) (eM : M.1 92 1 = e) (e0 : 0 ≤ e) (v0 : 0 ≤ v) (h : f + e + v ≤ 60) : gT (F_w_append (kS M 88 1 (M.1 87 12)) 88 92).2 ∧ gT (kS (F_w_append (kS M 88 1 (M.1 87 12)) 88 92).2 88 1 ((F_w_append (kS M 88 1 (M.1 87 12)) 88 92).2.1 88 1 + v)) := by
  have fm := gM.2.2.2.2.1
  have g1 := gT_used gM (f := M.1 87 12) fm.1 fm.2
  have e92 : (kS M 88 1 (M.1 87 12)).1 92 1 = e := by rw [kS_c (by decide), eM]
  have e88 : (kS M 88 1 (M.1 87 12)).1 88 1 = f := by rw [kS_s, fM]
  have g2 := gT_append g1 (by rw [e92]; exact e0) (by rw [e92]; omega)
  have u := F_w_append_u (y := kS M 88 1 (M.1 87 12)) (by rw [e92]; exact e0) (by rw [e92]; omega) (by rw [e88, e92]; omega)
  rw [e88, e92] at u
  refine ⟨g2, gT_used g2 ?_ ?_⟩
  · rw [u]; omega
  · rw [u]; omega
