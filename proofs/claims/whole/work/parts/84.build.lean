-- deps: 30 31 32 33 34 35 36 37 38 39 40 70 71 72 73 74 75 76 78 79 80 81 82 83
/-! the STATES that build keeps: the beginnings of LEFT sides, and there is room for them -/
def gsm (n : Nat) : Nat → Nat
  | 0 => 0
  | k + 1 => gsm n k + n ^ k
theorem gsm_mono (n : Nat) {a : Nat} : ∀ {b : Nat}, a ≤ b → gsm n a ≤ gsm n b := by
  intro b h
  induction b with
  | zero => rw [show a = 0 by omega]; exact Nat.le_refl _
  | succ b ih =>
    by_cases c : a = b + 1
    · rw [c]; exact Nat.le_refl _
    · exact Nat.le_trans (ih (by omega)) (Nat.le_add_right _ _)
theorem sc_gsm {x : KS} (sx : scX x) : ∀ k : Nat, (k : Int) ≤ x.1 1 3 + 1 → x.2 3 k = ((gsm (nL x) k : Nat) : Int) := by
  intro k
  induction k with
  | zero => intro _; exact sx.1.2.2.2.2
  | succ k ih =>
    intro h
    rw [sx.2.2.2.1 k (by omega), ih (by omega), scX_pow sx k (by omega)]
    rfl
theorem sc_top {x : KS} (sx : scX x) {t : Nat} (h : 10000 < gsm (nL x) (t + 1)) : x.1 1 3 < (t : Int) := by
  have l3 := sx.1.2.1
  have b := sx.1.2.2.2.1 ((x.1 1 3).toNat + 1) (by omega)
  rw [sc_gsm sx _ (by omega)] at b
  by_cases c : x.1 1 3 < (t : Int)
  · exact c
  · have := gsm_mono (nL x) (a := t + 1) (b := (x.1 1 3).toNat + 1) (by omega)
    omega
theorem sc_long {x : KS} (sx : scX x) : 1 ≤ x.1 1 3 := by
  have l3 := sx.1.2.1
  have n4 := sx.1.1
  rcases sx.2.2.2.2 with e | e
  · omega
  · by_cases c : 1 ≤ x.1 1 3
    · exact c
    · have e0 : x.1 1 3 = 0 := by omega
      rw [e0] at e
      have e1 := sx.2.2.2.1 0 (by omega)
      rw [sx.1.2.2.2.2, sx.2.1] at e1
      have e2 : ((0 : Int) + 1).toNat = 0 + 1 := rfl
      rw [e2, e1, show (0 : Int).toNat = 0 from rfl, sx.2.1] at e
      omega
/-- a rising row of members of a list is no longer than the list -/
theorem rise_le : ∀ (h : Nat) (f : Nat → Int) (T : List Int), (∀ i j : Nat, i < j → j < h → f i < f j) → (∀ j : Nat, j < h → f j ∈ T) → h ≤ T.length := by
  intro h
  induction h with
  | zero => intro f T _ _; exact Nat.zero_le _
  | succ h ih =>
    intro f T so mem
    have h1 := ih f (T.filter (fun v => decide (v ≠ f h))) (fun i j a b => so i j a (by omega)) (fun j hj => List.mem_filter.mpr ⟨mem j (by omega), decide_eq_true (by have := so j h hj (by omega); omega)⟩)
    have h2 : (T.filter (fun v => decide (v ≠ f h))).length < T.length := List.length_filter_lt_length_iff_exists.mpr ⟨f h, mem h (by omega), by simp⟩
    omega
/-- the numbers of beginnings of the RULES ahead of d, and of d those shorter than k0 -/
def bgP (x : KS) (d k0 w : Int) : Prop := w = 0 ∨ ∃ r k : Nat, ((r : Int) < d ∨ ((r : Int) = d ∧ (k : Int) < k0)) ∧ (r : Int) < x.1 58 6 ∧ 1 ≤ k ∧ (k : Int) < x.2 60 r ∧ w = (F_u_numberOfBeginning x (r : Int) (k : Int)).1
def bgT (x : KS) (t L : Nat) : List Int := (List.range (gsm (nL x) t)).map (fun v : Nat => (v : Int)) ++ (List.range 40).flatMap (fun r : Nat => (List.range (L - t)).map (fun i => (F_u_numberOfBeginning x (r : Int) ((t + i : Nat) : Int)).1))
theorem bgT_len (x : KS) (t L : Nat) : (bgT x t L).length = gsm (nL x) t + 40 * (L - t) := by
  unfold bgT
  rw [List.length_append, List.length_map, List.length_range, List.length_flatMap]
  have : (List.range 40).map (fun a : Nat => ((List.range (L - t)).map (fun i => (F_u_numberOfBeginning x (a : Int) ((t + i : Nat) : Int)).1)).length) = (List.range 40).map (fun _ => L - t) := by
    apply List.map_congr_left
    intro a _
    rw [List.length_map, List.length_range]
  rw [this, List.map_const', List.length_range, List.sum_replicate_nat]
theorem bgP_T {x : KS} (sx : scX x) (ru : ruR x) (re : ruE x) {t L : Nat} (ht : 1 ≤ t) (hL : x.1 1 3 ≤ (L : Int)) {d k0 w : Int} (h : bgP x d k0 w) : w ∈ bgT x t L := by
  have hn := nL_b sx
  unfold bgT
  rw [List.mem_append]
  rcases h with h | ⟨r, k, _, hr, h1, hk, hw⟩
  · refine Or.inl (List.mem_map.mpr ⟨0, List.mem_range.mpr ?_, h.symm⟩)
    have := gsm_mono (nL x) (a := 1) (b := t) ht
    have e : gsm (nL x) 1 = 0 + nL x ^ 0 := rfl
    rw [Nat.pow_zero] at e
    omega
  · obtain ⟨G, C, g1, g2, g3, g4, hv⟩ := F_u_numberOfBeginning_v sx ru re hr
    have kG : k < G := by omega
    have hv2 := (hv k (by omega)).1
    by_cases c : k < t
    · have hlt : C / nL x ^ (G - k) < nL x ^ k := by
        rw [Nat.div_lt_iff_lt_mul (Nat.pow_pos (by omega)), ← Nat.pow_add, show k + (G - k) = G by omega]
        exact g2
      have m := gsm_mono (nL x) (a := k + 1) (b := t) c
      have e : gsm (nL x) (k + 1) = gsm (nL x) k + nL x ^ k := rfl
      refine Or.inl (List.mem_map.mpr ⟨gsm (nL x) k + C / nL x ^ (G - k), List.mem_range.mpr (by omega), ?_⟩)
      rw [hw, hv2, sc_gsm sx k (by omega)]
      rfl
    · refine Or.inr (List.mem_flatMap.mpr ⟨r, List.mem_range.mpr (by have := ru.1; omega), List.mem_map.mpr ⟨k - t, List.mem_range.mpr (by omega), ?_⟩⟩)
      rw [hw, show t + (k - t) = k by omega]
/-- there is room for the STATES -/
theorem bg_room {x y : KS} (sx : scX x) (ru : ruR x) (re : ruE x) (nm : nmI y) {d k0 : Int} (h : ∀ w, inN y w → bgP x d k0 w) : y.1 64 7 < 320 ∧ (y.1 64 7 + 1) * x.1 1 2 ≤ 640 := by
  have hn := nL_b sx
  have ni := nL_i sx
  have l3 := sx.1.2.1
  have cap : ∀ t L : Nat, 1 ≤ t → x.1 1 3 ≤ (L : Int) → (y.1 64 7).toNat ≤ gsm (nL x) t + 40 * (L - t) := by
    intro t L ht hL
    rw [← bgT_len x t L]
    refine rise_le _ (y.2 65) _ (fun i j a b => nm.2 i j a (by omega)) (fun j hj => bgP_T sx ru re ht hL (h _ ⟨j, by omega, rfl⟩))
  have n0 := nm.1.1
  generalize hN : nL x = N at hn ni cap
  have hc : N = 1 ∨ N = 2 ∨ N = 3 ∨ N = 4 := by omega
  rcases hc with e | e | e | e
  · subst e
    have := cap 20 20 (by decide) (by omega)
    have e1 : gsm 1 20 = 20 := by decide
    rw [e1] at this
    rw [← ni]
    omega
  · subst e
    have tp := sc_top sx (t := 13) (by rw [hN]; decide)
    have := cap 6 12 (by decide) (by omega)
    have e1 : gsm 2 6 = 63 := by decide
    rw [e1] at this
    rw [← ni]
    omega
  · subst e
    have tp := sc_top sx (t := 9) (by rw [hN]; decide)
    have := cap 4 8 (by decide) (by omega)
    have e1 : gsm 3 4 = 40 := by decide
    rw [e1] at this
    rw [← ni]
    omega
  · subst e
    have tp := sc_top sx (t := 7) (by rw [hN]; decide)
    have := cap 3 6 (by decide) (by omega)
    have e1 : gsm 4 3 = 21 := by decide
    rw [e1] at this
    rw [← ni]
    omega
theorem F_s_powerOf_cg {x y : KS} (h1 : y.1 1 = x.1 1) (h2 : y.2 2 = x.2 2) (v : Int) : (F_s_powerOf y v).1 = (F_s_powerOf x v).1 := by
  unfold F_s_powerOf
  rw [h1, h2]
  split
  · rfl
  · split <;> rfl
theorem F_u_numberOfBeginning_cg {x y : KS} (h1 : y.1 1 = x.1 1) (h2 : y.2 2 = x.2 2) (h3 : y.2 3 = x.2 3) (h59 : y.2 59 = x.2 59) (h60 : y.2 60 = x.2 60) (r k : Int) : (F_u_numberOfBeginning y r k).1 = (F_u_numberOfBeginning x r k).1 := by
  unfold F_u_numberOfBeginning
  rw [h59, h60, F_s_firstOf_cg h1 h3, F_s_firstOf_cg h1 h3, F_s_powerOf_cg h1 h2]
  split
  · rfl
  · split <;> rfl
theorem bgP_up {x : KS} {r k : Nat} {w : Int} (hr : (r : Int) < x.1 58 6) (hk1 : 1 ≤ k) (hk : (k : Int) < x.2 60 r) : bgP x (r : Int) ((k : Int) + 1) w ↔ bgP x (r : Int) (k : Int) w ∨ w = (F_u_numberOfBeginning x (r : Int) (k : Int)).1 := by
  constructor
  · rintro (h | ⟨r', k', h, h2, h3, h4, h5⟩)
    · exact Or.inl (Or.inl h)
    · by_cases c : r' = r ∧ k' = k
      · rw [c.1, c.2] at h5; exact Or.inr h5
      · exact Or.inl (Or.inr ⟨r', k', by omega, h2, h3, h4, h5⟩)
  · rintro ((h | ⟨r', k', h, h2, h3, h4, h5⟩) | h)
    · exact Or.inl h
    · exact Or.inr ⟨r', k', by omega, h2, h3, h4, h5⟩
    · exact Or.inr ⟨r, k, by omega, hr, hk1, hk, h⟩
theorem bgP_on {x : KS} {r : Nat} {k w : Int} (hk : x.2 60 r ≤ k) : bgP x ((r : Int) + 1) 1 w ↔ bgP x (r : Int) k w := by
  constructor
  · rintro (h | ⟨r', k', h, h2, h3, h4, h5⟩)
    · exact Or.inl h
    · refine Or.inr ⟨r', k', ?_, h2, h3, h4, h5⟩
      by_cases c : r' = r
      · subst c; exact Or.inr ⟨rfl, by omega⟩
      · exact Or.inl (by omega)
  · rintro (h | ⟨r', k', h, h2, h3, h4, h5⟩)
    · exact Or.inl h
    · exact Or.inr ⟨r', k', Or.inl (by omega), h2, h3, h4, h5⟩
/-- while the STATES are kept -/
def bdI (x y : KS) (d k0 : Int) : Prop := ksame [(64, 7)] [65] x y ∧ nmI y ∧ ∀ w, inN y w ↔ bgP x d k0 w
theorem F_a_keep_fr5 (x : KS) (v : Int) : ksame [(64, 7)] [65] x (F_a_keep x v).2 := km_mono (by decide) (by decide) (F_a_keep_fr x v)
theorem F_a_build_s_1 {x : KS} (sx : scX x) (ru : ruR x) (re : ruE x) : ∀ n : Nat,
    (∀ (y : KS) (d : Nat), bdI x y (d : Int) 1 → (d : Int) ≤ x.1 58 6 → 10000 + (40 - d) * 50 + 45 < n → ∃ (z : KS) (m : Nat), 10000 < m ∧ F_a_build_s n 0 y (d : Int) 0 0 0 = F_a_build_s m 2 z 0 0 0 0 ∧ bdI x z (x.1 58 6) 1) ∧
    (∀ (y : KS) (d k : Nat), bdI x y (d : Int) (k : Int) → (d : Int) < x.1 58 6 → 1 ≤ k → k ≤ 21 → 10000 + (40 - d) * 50 + (21 - k) < n → ∃ (z : KS) (m : Nat), 10000 < m ∧ F_a_build_s n 1 y (d : Int) (x.2 60 d) (k : Int) 0 = F_a_build_s m 2 z 0 0 0 0 ∧ bdI x z (x.1 58 6) 1) := by
  intro n
  induction n with
  | zero => exact ⟨fun _ _ _ _ h => by omega, fun _ _ _ _ _ _ _ h => by omega⟩
  | succ n ih =>
    refine ⟨fun y d bd hd hn => ?_, fun y d k bd hd k1 k2 hn => ?_⟩
    · rw [F_a_build_e0]
      have e58 : y.1 58 6 = x.1 58 6 := bd.1.1 58 6 (by decide)
      rw [e58]
      by_cases c : x.1 58 6 ≤ (d : Int)
      · rw [if_pos c]
        have e : (d : Int) = x.1 58 6 := by omega
        rw [e] at bd
        exact ⟨y, n, by omega, rfl, bd⟩
      · rw [if_neg c]
        have hsp : (F_u_spanOf y (d : Int) 1).1 = x.2 60 d := by
          have e60 : y.2 60 = x.2 60 := bd.1.2 60 (by decide)
          unfold F_u_spanOf
          rw [if_neg (by omega), if_pos (by have := ru.1; omega), if_neg (by omega), Int.toNat_natCast, e60]
        rw [hsp]
        exact ih.2 y d 1 bd (by omega) (by omega) (by omega) (by have := ru.1; omega)
    · rw [F_a_build_e1]
      have s20 := (ru.2.2.1 d).2
      by_cases c : x.2 60 d ≤ (k : Int)
      · rw [if_pos c]
        have bd' : bdI x y ((d + 1 : Nat) : Int) 1 := ⟨bd.1, bd.2.1, fun w => (bd.2.2 w).trans (bgP_on c).symm⟩
        exact ih.1 y (d + 1) bd' (by omega) (by have := ru.1; omega)
      · rw [if_neg c]
        have q := bd.1
        have e1 : y.1 1 = x.1 1 := funext fun j => q.1 1 j (by simp)
        have nb := F_u_numberOfBeginning_cg e1 (q.2 2 (by decide)) (q.2 3 (by decide)) (q.2 59 (by decide)) (q.2 60 (by decide)) (d : Int) (k : Int)
        have rm := bg_room sx ru re bd.2.1 (fun w h => (bd.2.2 w).mp h)
        have kx := F_a_keep_x (v := (F_u_numberOfBeginning y (d : Int) (k : Int)).1) bd.2.1 rm.1 (by rw [e1]; exact rm.2)
        refine ih.2 (F_a_keep y _).2 d (k + 1) ⟨km_tr q (F_a_keep_fr5 _ _), kx.1, fun w => ?_⟩ hd (by omega) (by omega) (by omega)
        rw [kx.2 w, bd.2.2 w, nb]
        exact (bgP_up hd k1 (by omega)).symm
theorem F_a_build_1 {x : KS} (sx : scX x) (ru : ruR x) (re : ruE x) : ∃ (z : KS) (m : Nat), 10000 < m ∧ F_a_build x = F_a_build_s m 2 z 0 0 0 0 ∧ bdI x z (x.1 58 6) 1 := by
  have n4 := sx.1.1
  have nm0 : nmI (kS x 64 7 0) := by
    refine ⟨by rw [kS_s]; omega, fun i j _ hj => ?_⟩
    rw [kS_s] at hj
    exfalso
    omega
  have kx := F_a_keep_x (x := kS x 64 7 0) (v := 0) nm0 (by rw [kS_s]; omega) (by rw [kS_s, kS_c (by decide)]; omega)
  unfold F_a_build
  refine (F_a_build_s_1 sx ru re 13000).1 (F_a_keep (kS x 64 7 0) 0).2 0 ⟨km_tr (km_s (by decide) (km_rf _ _ _)) (F_a_keep_fr5 _ _), kx.1, fun w => ?_⟩ ru.1.1 (by omega)
  rw [kx.2 w]
  constructor
  · rintro (⟨j, hj, _⟩ | h)
    · rw [kS_s] at hj; exfalso; omega
    · exact Or.inl h
  · rintro (h | ⟨r, k, h, _, h3, _, _⟩)
    · exact Or.inr h
    · exfalso; omega
