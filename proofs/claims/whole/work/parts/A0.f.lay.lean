-- deps: A0.e
/-! the reference: what lay lays, what changed answers -/
def hM (y : MS) : List Int := (List.range (y.1 10).toNat).map (fun i => y.2 11 i)
theorem hM_len (y : MS) : (hM y).length = (y.1 10).toNat := by unfold hM; rw [List.length_map, List.length_range]
theorem rng_eq {f : Nat → Int} {k : Nat} {u : List Int} (hl : u.length = k) (h : ∀ j, j < k → u[j]? = some (f j)) : (List.range k).map f = u := by
  apply List.ext_getElem?
  intro j
  by_cases c : j < k
  · rw [h j c, List.getElem?_map, List.getElem?_range c]; rfl
  · rw [List.getElem?_eq_none (by rw [List.length_map, List.length_range]; omega), List.getElem?_eq_none (by omega)]
theorem lay_s1 {L : Nat} (hL : 1 ≤ L) (w : Int) : ∀ (n : Nat) (y : MS) (v k : Nat), y.1 0 = (L : Int) → k < n → (∀ j, j < k → (dl L k v)[j]? = some ((F_m_lay_s n 1 y w (v : Int) ((k : Int) - 1)).2.2 11 j)) ∧ ∀ j, k ≤ j → (F_m_lay_s n 1 y w (v : Int) ((k : Int) - 1)).2.2 11 j = y.2 11 j := by
  intro n
  induction n with
  | zero => intro y v k _ h; omega
  | succ n ih =>
    intro y v k e h
    rw [F_m_lay_e1]
    cases k with
    | zero =>
      rw [if_pos (by omega)]
      exact ⟨fun j hj => by omega, fun j _ => rfl⟩
    | succ k =>
      rw [if_neg (by omega), e, ← Int.natCast_emod, ← Int.natCast_ediv, show (((k + 1 : Nat) : Int) - 1) + (-1 : Int) = (k : Int) - 1 by omega, show (((k + 1 : Nat) : Int) - 1).toNat = k by omega]
      obtain ⟨a, b⟩ := ih (aU y 11 k ((v % L : Nat) : Int)) (v / L) k e (by omega)
      refine ⟨fun j hj => ?_, fun j hj => ?_⟩
      · show (dl L k (v / L) ++ [((v % L : Nat) : Int)])[j]? = _
        by_cases c : j < k
        · rw [List.getElem?_append_left (by rw [dl_len]; exact c)]
          exact a j c
        · have ej : j = k := by omega
          rw [b j (by omega), ej, yU_s, iU_s, List.getElem?_append_right (by rw [dl_len]; exact Nat.le_refl _), dl_len, Nat.sub_self]
          rfl
      · rw [b j (by omega), yU_s, iU_n (by omega)]
theorem lay_s0 {L : Nat} (hL : 1 ≤ L) {K : Nat} (hK : K < 64) : ∀ (n : Nat) (y : MS) (w a b : Int), y.1 0 = (L : Int) → 0 ≤ y.1 10 → w < y.2 8 K → y.1 10 + 1 ≤ K → (K : Int) - y.1 10 + 70 < n → y.2 8 (y.1 10).toNat ≤ w → hM (F_m_lay_s n 0 y w a b).2 = dl L ((F_m_lay_s n 0 y w a b).2.1 10).toNat (w - y.2 8 ((F_m_lay_s n 0 y w a b).2.1 10).toNat).toNat := by
  intro n
  induction n with
  | zero => intro y w a b _ _ _ _ fu; exact absurd fu (by omega)
  | succ n ih =>
    intro y w a b e s0 hw s1 fu lo
    rw [F_m_lay_e0]
    by_cases hc : w < y.2 8 (y.1 10 + (1 : Int)).toNat
    · rw [if_pos hc]
      obtain ⟨p, q⟩ := lay_s1 hL w n y (w - y.2 8 (y.1 10).toNat).toNat (y.1 10).toNat e (by omega)
      rw [show (((w - y.2 8 (y.1 10).toNat).toNat : Nat) : Int) = w - y.2 8 (y.1 10).toNat by omega, show (((y.1 10).toNat : Nat) : Int) - 1 = y.1 10 - (1 : Int) by omega] at p
      unfold hM
      rw [F_m_lay_s1_1]
      exact rng_eq (dl_len _ _ _) p
    · rw [if_neg hc]
      refine ih (sU y 10 (y.1 10 + (1 : Int))) w 0 0 e ?_ hw ?_ ?_ ?_
      · show 0 ≤ y.1 10 + 1; omega
      · show (y.1 10 + 1) + 1 ≤ (K : Int)
        rcases Int.lt_or_eq_of_le s1 with g | g
        · omega
        · exfalso; rw [g] at hc; exact hc hw
      · show (K : Int) - (y.1 10 + 1) + 70 < n; omega
      · show y.2 8 (y.1 10 + 1).toNat ≤ w; omega
/-- lay: hand holds the STRING of number w -/
theorem lay_x {x : MS} {M : Nat} (lt : 1 ≤ x.1 0) (hM9 : M ≤ 60) (fx : ∀ k : Nat, k ≤ M + 1 → x.2 8 k = gS (x.1 0) k) {w : Int} (w0 : 0 ≤ w) (w1 : w < gS (x.1 0) (M + 1)) : okL (x.1 0).toNat (hM (F_m_lay x w).2) ∧ num (x.1 0).toNat (hM (F_m_lay x w).2) = w ∧ (F_m_lay x w).2.1 10 = ((hM (F_m_lay x w).2).length : Int) ∧ (hM (F_m_lay x w).2).length ≤ M := by
  have f0 : x.2 8 0 = 0 := fx 0 (Nat.zero_le _)
  have hw : w < x.2 8 (M + 1) := by rw [fx _ (Nat.le_refl _)]; exact w1
  obtain ⟨v0, v1, v2, v3⟩ := F_m_lay_v (K := M + 1) (by omega) (by omega) hw (by rw [f0]; exact w0)
  have e0 : x.1 0 = (((x.1 0).toNat : Nat) : Int) := by omega
  have h := lay_s0 (L := (x.1 0).toNat) (by omega) (K := M + 1) (by omega) 200 (sU x 10 ((0 : Int))) w 0 0 e0 (by show (0 : Int) ≤ 0; omega) hw (by show (0 : Int) + 1 ≤ ((M + 1 : Nat) : Int); omega) (by show ((M + 1 : Nat) : Int) - 0 + 70 < ((200 : Nat) : Int); omega) (by show x.2 8 0 ≤ w; omega)
  have h2 : hM (F_m_lay x w).2 = dl (x.1 0).toNat ((F_m_lay x w).2.1 10).toNat (w - x.2 8 ((F_m_lay x w).2.1 10).toNat).toNat := h
  generalize hk : ((F_m_lay x w).2.1 10).toNat = k at h2 v2
  have hk2 : ((F_m_lay x w).2.1 10 + 1).toNat = k + 1 := by omega
  rw [hk2, fx _ (by omega), gS_s] at v3
  rw [fx k (by omega)] at v2 h2
  have ep : gP (x.1 0) k = (((x.1 0).toNat ^ k : Nat) : Int) := by rw [← gP_pow, ← e0]
  have lt2 : (w - gS (x.1 0) k).toNat < (x.1 0).toNat ^ k := by
    rw [ep] at v3
    generalize (x.1 0).toNat ^ k = p at v3
    omega
  rw [h2]
  refine ⟨dl_ok (by omega) _ _, ?_, by rw [dl_len]; omega, by rw [dl_len]; omega⟩
  unfold num
  rw [dl_len, vl_dl (by omega) k _ lt2, ← e0]
  omega
theorem gS_1 : ∀ k : Nat, gS 1 k = (k : Int) := by
  have p : ∀ k : Nat, gP 1 k = 1 := by
    intro k
    induction k with
    | zero => rfl
    | succ k ih => show gP 1 k * 1 = 1; rw [ih]; rfl
  intro k
  induction k with
  | zero => rfl
  | succ k ih => rw [gS_s, ih, p]; omega
theorem vl_1 : ∀ u : List Int, okL 1 u → vl 1 u = 0 := by
  intro u h
  rcases vl_lt u.length u rfl h with g | g
  · rw [Nat.one_pow] at g; omega
  · omega
theorem num_1 {u : List Int} (h : okL 1 u) : num 1 u = (u.length : Int) := by
  unfold num
  rw [vl_1 u h]
  have := gS_1 u.length
  show gS 1 u.length + ((0 : Nat) : Int) = _
  omega
theorem layAny_s {w : Int} (w9 : w ≤ 64) : ∀ (n : Nat) (y : MS) (i : Int), 0 ≤ i → 64 - i < n → (∀ j : Nat, (j : Int) < i → y.2 11 j = 0) → (F_m_layAny_s n 0 y w i).2.1 = y.1 ∧ ∀ j : Nat, (j : Int) < w → (F_m_layAny_s n 0 y w i).2.2 11 j = 0 := by
  intro n
  induction n with
  | zero => intro y i i0 fu h; exact ⟨rfl, fun j hj => h j (by omega)⟩
  | succ n ih =>
    intro y i i0 fu h
    rw [F_m_layAny_e0]
    by_cases c : w ≤ i
    · rw [if_pos c]; exact ⟨rfl, fun j hj => h j (by omega)⟩
    · rw [if_neg c]
      by_cases d : (64 : Int) ≤ i
      · exfalso; omega
      · rw [if_neg d]
        exact ih (aU y 11 i.toNat ((0 : Int))) (i + 1) (by omega) (by omega) (fun j hj => by
          rw [yU_s, yU_if]
          by_cases e : j = i.toNat
          · rw [if_pos e]
          · rw [if_neg e]; exact h j (by omega))
theorem layAny_x {x : MS} {M : Nat} (lt : 1 ≤ x.1 0) (hM9 : M ≤ 60) (fx : x.1 0 ≠ 1 → ∀ k : Nat, k ≤ M + 1 → x.2 8 k = gS (x.1 0) k) {w : Int} (w0 : 0 ≤ w) (w1 : w < gS (x.1 0) (M + 1)) : okL (x.1 0).toNat (hM (F_m_layAny x w).2) ∧ num (x.1 0).toNat (hM (F_m_layAny x w).2) = w ∧ (F_m_layAny x w).2.1 10 = ((hM (F_m_layAny x w).2).length : Int) ∧ (hM (F_m_layAny x w).2).length ≤ M := by
  unfold F_m_layAny
  by_cases c : x.1 0 = 1
  · rw [if_pos c]
    have w2 : w < ((M + 1 : Nat) : Int) := by rw [c, gS_1] at w1; exact w1
    obtain ⟨a, b⟩ := layAny_s (w := w) (by omega) 100 (sU x 10 w) 0 (Int.le_refl _) (by omega) (fun j hj => by exfalso; omega)
    have e10 : (F_m_layAny_s 100 0 (sU x 10 w) w 0).2.1 10 = w := by rw [a]; exact yS_s
    generalize F_m_layAny_s 100 0 (sU x 10 w) w ((0 : Int)) = R at b e10
    have ok : okL 1 (hM R.2) := by
      intro l hl
      unfold hM at hl
      obtain ⟨j, j1, j2⟩ := List.mem_map.mp hl
      have j3 := List.mem_range.mp j1
      rw [← j2, b j (by omega)]
      omega
    have ln := hM_len R.2
    rw [c]
    refine ⟨ok, ?_, by omega, by omega⟩
    show num 1 _ = _
    rw [num_1 ok]
    omega
  · rw [if_neg c]
    exact lay_x lt hM9 (fx c) w0 w1
/-! changed: the number of the STRING with the other side -/
def vfo (L : Nat) (v : Nat) (u : List Int) : Nat := u.foldl (fun a l => a * L + l.toNat) v
theorem vfo_c (L v : Nat) (l : Int) (u : List Int) : vfo L v (l :: u) = vfo L (v * L + l.toNat) u := rfl
theorem vfo_a (L v : Nat) (u t : List Int) : vfo L v (u ++ t) = vfo L (vfo L v u) t := List.foldl_append
theorem hM_get {x : MS} {i : Nat} (h : i < (hM x).length) : (hM x)[i] = x.2 11 i := by
  have e : (hM x)[i]? = some (x.2 11 i) := by
    unfold hM
    rw [List.getElem?_map, List.getElem?_range (by rw [hM_len] at h; exact h)]
    rfl
  rw [List.getElem?_eq_getElem h] at e
  exact Option.some.inj e
theorem cg3_x {x : MS} {L : Nat} (e0 : x.1 0 = (L : Int)) (h0 : 0 ≤ x.1 10) (ok : okL L (hM x)) {l0 at0 m0 o q : Int} : ∀ (n v i : Nat), i ≤ (hM x).length → (hM x).length - i < n → (F_m_changed_s n 3 x l0 at0 m0 o q (v : Int) (i : Int)).1 = x.2 8 (x.1 10 - o + q).toNat + ((vfo L v ((hM x).drop i) : Nat) : Int) := by
  have ln := hM_len x
  intro n
  induction n with
  | zero => intro v i _ h; omega
  | succ n ih =>
    intro v i hi fu
    rw [F_m_changed_e3]
    by_cases c : x.1 10 ≤ (i : Int)
    · rw [if_pos c, List.drop_eq_nil_of_le (by omega)]; rfl
    · rw [if_neg c]
      have hi2 : i < (hM x).length := by omega
      have g := ok _ (List.getElem_mem hi2)
      rw [hM_get hi2] at g
      rw [List.drop_eq_getElem_cons hi2, vfo_c, hM_get hi2, Int.toNat_natCast, e0, show (v : Int) * (L : Int) + x.2 11 i = ((v * L + (x.2 11 i).toNat : Nat) : Int) by rw [Int.natCast_add, Int.natCast_mul]; omega]
      exact ih (v * L + (x.2 11 i).toNat) (i + 1) hi2 (by omega)
theorem cg2_x {x : MS} {L : Nat} (e0 : x.1 0 = (L : Int)) (h0 : 0 ≤ x.1 10) (ok : okL L (hM x)) {l : Nat} {a o q : Nat} {m0 : Int} (okB : okL L (sgM x 5 (24 * l + 12) q)) (hao : a + o ≤ (hM x).length) : ∀ (n v i : Nat), i ≤ q → q - i + (hM x).length + 1 < n → (F_m_changed_s n 2 x (l : Int) (a : Int) m0 (o : Int) (q : Int) (v : Int) (i : Int)).1 = x.2 8 (x.1 10 - (o : Int) + (q : Int)).toNat + ((vfo L (vfo L v ((sgM x 5 (24 * l + 12) q).drop i)) ((hM x).drop (a + o)) : Nat) : Int) := by
  have ls := sgM_len x 5 (24 * l + 12) q
  intro n
  induction n with
  | zero => intro v i _ h; omega
  | succ n ih =>
    intro v i hi fu
    rw [F_m_changed_e2]
    by_cases c : (q : Int) ≤ (i : Int)
    · have dn : (sgM x 5 (24 * l + 12) q).drop i = [] := List.drop_eq_nil_of_le (by omega)
      rw [if_pos c, dn]
      have h := cg3_x e0 h0 ok (l0 := (l : Int)) (at0 := (a : Int)) (m0 := m0) (o := (o : Int)) (q := (q : Int)) n v (a + o) hao (by omega)
      rw [Int.natCast_add] at h
      exact h
    · rw [if_neg c]
      have hi2 : i < (sgM x 5 (24 * l + 12) q).length := by omega
      have g := okB _ (List.getElem_mem hi2)
      rw [sgM_get hi2] at g
      rw [List.drop_eq_getElem_cons hi2, vfo_c, sgM_get hi2, show (((24 : Int) * (l : Int) + (12 : Int)) + (i : Int)).toNat = 24 * l + 12 + i by omega, e0, show (v : Int) * (L : Int) + x.2 5 (24 * l + 12 + i) = ((v * L + (x.2 5 (24 * l + 12 + i)).toNat : Nat) : Int) by rw [Int.natCast_add, Int.natCast_mul]; omega]
      exact ih (v * L + (x.2 5 (24 * l + 12 + i)).toNat) (i + 1) (by omega) (by omega)
theorem cg1_x {x : MS} {L : Nat} (e0 : x.1 0 = (L : Int)) (h0 : 0 ≤ x.1 10) (ok : okL L (hM x)) {l : Nat} {a o q : Nat} {m0 : Int} (okB : okL L (sgM x 5 (24 * l + 12) q)) (hao : a + o ≤ (hM x).length) : ∀ (n v i : Nat), i ≤ a → a - i + q + (hM x).length + 2 < n → (F_m_changed_s n 1 x (l : Int) (a : Int) m0 (o : Int) (q : Int) (v : Int) (i : Int)).1 = x.2 8 (x.1 10 - (o : Int) + (q : Int)).toNat + ((vfo L v (((hM x).take a).drop i ++ (sgM x 5 (24 * l + 12) q ++ (hM x).drop (a + o))) : Nat) : Int) := by
  have lt : ((hM x).take a).length = a := by rw [List.length_take]; omega
  intro n
  induction n with
  | zero => intro v i _ h; omega
  | succ n ih =>
    intro v i hi fu
    rw [F_m_changed_e1]
    by_cases c : (a : Int) ≤ (i : Int)
    · have dn : ((hM x).take a).drop i = [] := List.drop_eq_nil_of_le (by omega)
      rw [if_pos c, dn, List.nil_append, vfo_a]
      have h := cg2_x e0 h0 ok (m0 := m0) okB hao n v 0 (Nat.zero_le _) (by omega)
      rw [List.drop_zero] at h
      exact h
    · rw [if_neg c]
      have hi2 : i < ((hM x).take a).length := by omega
      have hi3 : i < (hM x).length := by omega
      have g := ok _ (List.getElem_mem hi3)
      rw [hM_get hi3] at g
      rw [List.drop_eq_getElem_cons hi2, List.getElem_take, hM_get hi3, List.cons_append, vfo_c, Int.toNat_natCast, e0, show (v : Int) * (L : Int) + x.2 11 i = ((v * L + (x.2 11 i).toNat : Nat) : Int) by rw [Int.natCast_add, Int.natCast_mul]; omega]
      exact ih (v * L + (x.2 11 i).toNat) (i + 1) (by omega) (by omega)
theorem cg0_x {x : MS} {L : Nat} (e0 : x.1 0 = (L : Int)) (h0 : 0 ≤ x.1 10) (ok : okL L (hM x)) {l : Nat} {a o q : Nat} {m0 : Int} (okB : okL L (sgM x 5 (24 * l + 12) q)) (hao : a + o ≤ (hM x).length) (z : Int) : ∀ (n i : Nat), i ≤ o → o - i + a + q + (hM x).length + 3 < n → ((F_m_changed_s n 0 x (l : Int) (a : Int) m0 (o : Int) (q : Int) (i : Int) z).1 = -9 ∧ ∃ j, i ≤ j ∧ j < o ∧ x.2 11 (a + j) ≠ x.2 5 (24 * l + j)) ∨ ((F_m_changed_s n 0 x (l : Int) (a : Int) m0 (o : Int) (q : Int) (i : Int) z).1 = x.2 8 (x.1 10 - (o : Int) + (q : Int)).toNat + ((vl L ((hM x).take a ++ (sgM x 5 (24 * l + 12) q ++ (hM x).drop (a + o))) : Nat) : Int) ∧ ∀ j, i ≤ j → j < o → x.2 11 (a + j) = x.2 5 (24 * l + j)) := by
  intro n
  induction n generalizing z with
  | zero => intro i _ h; omega
  | succ n ih =>
    intro i hi fu
    rw [F_m_changed_e0]
    by_cases c : (o : Int) ≤ (i : Int)
    · rw [if_pos c]
      have h := cg1_x e0 h0 ok (m0 := m0) okB hao n 0 0 (Nat.zero_le _) (by omega)
      rw [List.drop_zero] at h
      exact Or.inr ⟨h, fun j h1 h2 => by omega⟩
    · rw [if_neg c, show ((a : Int) + (i : Int)).toNat = a + i by omega, show ((24 : Int) * (l : Int) + (i : Int)).toNat = 24 * l + i by omega]
      by_cases d : x.2 11 (a + i) = x.2 5 (24 * l + i)
      · rw [if_pos d]
        rcases ih 0 (i + 1) (by omega) (by omega) with ⟨h1, j, j1, j2, j3⟩ | ⟨h1, h2⟩
        · exact Or.inl ⟨h1, j, by omega, j2, j3⟩
        · refine Or.inr ⟨h1, fun j j1 j2 => ?_⟩
          by_cases e : j = i
          · rw [e]; exact d
          · exact h2 j (by omega) j2
      · rw [if_neg d]
        exact Or.inl ⟨rfl, i, Nat.le_refl _, by omega, d⟩
def lwA2 (x : MS) (l : Nat) : List Int := sgM x 5 (24 * l) (x.2 4 (2 * l)).toNat
def lwB2 (x : MS) (l : Nat) : List Int := sgM x 5 (24 * l + 12) (x.2 4 (2 * l + 1)).toNat
/-- changed at a place a: the side A stands there and the other fits, or -9 -/
theorem changed_x {x : MS} {L M m : Nat} (e0 : x.1 0 = (L : Int)) (hh : x.1 10 = ((hM x).length : Int)) (h60 : (hM x).length ≤ 60) (ok : okL L (hM x)) {l a : Nat} (o0 : 0 ≤ x.2 4 (2 * l)) (o1 : x.2 4 (2 * l) ≤ 12) (q0 : 0 ≤ x.2 4 (2 * l + 1)) (q1 : x.2 4 (2 * l + 1) ≤ 12) (okB : okL L (lwB2 x l)) (fx : ∀ k : Nat, k ≤ m → x.2 8 k = gS (x.1 0) k) (ha : a + (lwA2 x l).length ≤ (hM x).length) : ((F_m_changed x (l : Int) (a : Int) (m : Int)).1 = -9 ∧ ∀ u v, u.length = a → hM x = u ++ (lwA2 x l ++ v) → ¬ u.length + (lwB2 x l).length + v.length ≤ m) ∨ ∃ u v, u.length = a ∧ hM x = u ++ (lwA2 x l ++ v) ∧ u.length + (lwB2 x l).length + v.length ≤ m ∧ (F_m_changed x (l : Int) (a : Int) (m : Int)).1 = num L (u ++ (lwB2 x l ++ v)) := by
  have lA : (lwA2 x l).length = (x.2 4 (2 * l)).toNat := sgM_len _ _ _ _
  have lB : (lwB2 x l).length = (x.2 4 (2 * l + 1)).toNat := sgM_len _ _ _ _
  have eo : x.2 4 ((2 : Int) * (l : Int)).toNat = (((x.2 4 (2 * l)).toNat : Nat) : Int) := by rw [show ((2 : Int) * (l : Int)).toNat = 2 * l by omega]; omega
  have eq : x.2 4 ((2 : Int) * (l : Int) + (1 : Int)).toNat = (((x.2 4 (2 * l + 1)).toNat : Nat) : Int) := by rw [show ((2 : Int) * (l : Int) + (1 : Int)).toNat = 2 * l + 1 by omega]; omega
  unfold F_m_changed
  rw [eo, eq, if_neg (by omega)]
  have tl : ((hM x).take a).length = a := by rw [List.length_take]; omega
  have dlen : ((hM x).drop (a + (x.2 4 (2 * l)).toNat)).length = (hM x).length - (a + (x.2 4 (2 * l)).toNat) := List.length_drop
  have cut : ∀ u v : List Int, u.length = a → hM x = u ++ (lwA2 x l ++ v) → u = (hM x).take a ∧ v = (hM x).drop (a + (x.2 4 (2 * l)).toNat) ∧ ∀ j, j < (x.2 4 (2 * l)).toNat → x.2 11 (a + j) = x.2 5 (24 * l + j) := by
    intro u v eu e
    refine ⟨by rw [e, ← eu, List.take_left], ?_, fun j hj => ?_⟩
    · rw [e, ← List.append_assoc]
      have : a + (x.2 4 (2 * l)).toNat = (u ++ lwA2 x l).length := by rw [List.length_append]; omega
      rw [this, List.drop_left]
    · have h1 : a + j < (hM x).length := by omega
      have g1 : (hM x)[a + j]? = some (x.2 11 (a + j)) := by rw [List.getElem?_eq_getElem h1, hM_get h1]
      have h2 : j < (lwA2 x l).length := by omega
      have g2 : (hM x)[a + j]? = some (x.2 5 (24 * l + j)) := by
        rw [e, List.getElem?_append_right (by omega), show a + j - u.length = j by omega, List.getElem?_append_left h2, List.getElem?_eq_getElem h2]
        exact congrArg some (sgM_get h2)
      exact Option.some.inj (g1.symm.trans g2)
  by_cases c : x.1 10 - (((x.2 4 (2 * l)).toNat : Nat) : Int) + (((x.2 4 (2 * l + 1)).toNat : Nat) : Int) ≤ (m : Int)
  · rw [if_pos c]
    rcases cg0_x e0 (by omega) ok (l := l) (a := a) (o := (x.2 4 (2 * l)).toNat) (q := (x.2 4 (2 * l + 1)).toNat) (m0 := (m : Int)) okB (by omega) 0 400 0 (Nat.zero_le _) (by omega) with ⟨h1, j, j1, j2, j3⟩ | ⟨h1, h2⟩
    · exact Or.inl ⟨h1, fun u v eu e => absurd ((cut u v eu e).2.2 j j2) j3⟩
    · refine Or.inr ⟨(hM x).take a, (hM x).drop (a + (x.2 4 (2 * l)).toNat), tl, ?_, by omega, ?_⟩
      · have eA : lwA2 x l = ((hM x).drop a).take (x.2 4 (2 * l)).toNat := by
          refine rng_eq (by rw [List.length_take, List.length_drop]; omega) (fun j hj => ?_)
          have h3 : a + j < (hM x).length := by omega
          rw [List.getElem?_take_of_lt hj, List.getElem?_drop, List.getElem?_eq_getElem h3, hM_get h3, h2 j (Nat.zero_le _) hj]
        rw [eA, ← List.drop_drop, List.take_append_drop, List.take_append_drop]
      · show (F_m_changed_s 400 0 x (l : Int) (a : Int) (m : Int) _ _ ((0 : Nat) : Int) 0).1 = _
        rw [h1]
        unfold num
        rw [List.length_append, List.length_append, tl, dlen, lB, fx _ (by omega), e0]
        congr 2
        omega
  · rw [if_neg c]
    refine Or.inl ⟨rfl, fun u v eu e => ?_⟩
    have h9 := congrArg List.length e
    rw [List.length_append, List.length_append] at h9
    omega
