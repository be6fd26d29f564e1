-- deps: A0.f
/-! the reference: joinAll joins what STEPS join -/
def mP (x : MS) (m : Nat) : Int → Int → Prop := lwP (x.1 0).toNat m (x.1 3).toNat (lwA2 x) (lwB2 x)
def dnA (x : MS) (m : Nat) (f : Nat → Int) (w : Int) (l a : Nat) : Prop := ∀ u v : List Int, okL (x.1 0).toNat u → okL (x.1 0).toNat v → u.length = a → u.length + (lwA2 x l).length + v.length ≤ m → u.length + (lwB2 x l).length + v.length ≤ m → num (x.1 0).toNat (u ++ (lwA2 x l ++ v)) = w → rp f w = rp f (num (x.1 0).toNat (u ++ (lwB2 x l ++ v)))
def dnL (x : MS) (m : Nat) (f : Nat → Int) (w : Int) (l : Nat) : Prop := ∀ a, dnA x m f w l a
def dnW (x : MS) (m : Nat) (f : Nat → Int) (w : Int) : Prop := ∀ l : Nat, (l : Int) < x.1 3 → dnL x m f w l
theorem sdM_join {x : MS} {P : Int → Int → Prop} {B : Int} (h9 : B ≤ 10001) (hj : jOK x) (h : sdJ (x.2 9) B P) {a b : Int} (a0 : 0 ≤ a) (a1 : a < B) (b0 : 0 ≤ b) (b1 : b < B) (p : P a b) : jOK (F_m_join x a b).2 ∧ sdJ ((F_m_join x a b).2.2 9) B P ∧ kpJ (x.2 9) ((F_m_join x a b).2.2 9) B ∧ rp ((F_m_join x a b).2.2 9) a = rp ((F_m_join x a b).2.2 9) b := by
  obtain ⟨j, r⟩ := join_x hj a0 (by omega) b0 (by omega)
  exact ⟨j, sd_join h (fun k hk => j k (by omega)) a0 a1 b0 b1 p (fun v v0 v1 => r v v0 (by omega))⟩
theorem joinOne_s {P : Int → Int → Prop} {B m f t : Int} (B9 : B ≤ 10001) (f0 : 0 ≤ f) (t0 : 0 ≤ t) (mB : m < B) (hp : ∀ w : Int, f ≤ w → w ≤ m → w - f + t ≤ m → P w (w - f + t)) : ∀ (n : Nat) (y : MS) (w : Int), jOK y → sdJ (y.2 9) B P → f ≤ w → m + 1 - w < n → 0 < n → sdJ ((F_m_joinOne_s n 0 y m f t w).2.2 9) B P ∧ kpJ (y.2 9) ((F_m_joinOne_s n 0 y m f t w).2.2 9) B ∧ ∀ w' : Int, w ≤ w' → w' ≤ m → w' - f + t ≤ m → rp ((F_m_joinOne_s n 0 y m f t w).2.2 9) w' = rp ((F_m_joinOne_s n 0 y m f t w).2.2 9) (w' - f + t) := by
  intro n
  induction n with
  | zero => intro y w _ _ _ _ h; omega
  | succ n ih =>
    intro y w jy sd w0 fu _
    rw [F_m_joinOne_e0]
    by_cases c1 : m < w
    · rw [if_pos c1]; exact ⟨sd, kp_rf _ _, fun w' h1 h2 => by exfalso; omega⟩
    · rw [if_neg c1]
      by_cases c2 : m < w - f + t
      · rw [if_pos c2]
        obtain ⟨r1, r2, r3⟩ := ih y (w + 1) jy sd (by omega) (by omega) (by omega)
        refine ⟨r1, r2, fun w' h1 h2 h3 => ?_⟩
        by_cases e : w' = w
        · exfalso; omega
        · exact r3 w' (by omega) h2 h3
      · rw [if_neg c2]
        obtain ⟨q1, q2, q3, q4⟩ := sdM_join B9 jy sd (a := w) (b := w - f + t) (by omega) (by omega) (by omega) (by omega) (hp w w0 (by omega) (by omega))
        obtain ⟨r1, r2, r3⟩ := ih (F_m_join y w (w - f + t)).2 (w + 1) q1 q2 (by omega) (by omega) (by omega)
        refine ⟨r1, kp_tr q3 r2, fun w' h1 h2 h3 => ?_⟩
        by_cases e : w' = w
        · rw [e]; exact r2 _ _ (by omega) (by omega) (by omega) (by omega) q4
        · exact r3 w' (by omega) h2 h3
theorem lw_e {x y : MS} (h4 : y.2 4 = x.2 4) (h5 : y.2 5 = x.2 5) (l : Nat) : lwA2 y l = lwA2 x l ∧ lwB2 y l = lwB2 x l := by
  unfold lwA2 lwB2
  rw [h4, sgM_A h5, sgM_A h5]
  exact ⟨rfl, rfl⟩
theorem lwA2_len {x : MS} (l : Nat) : (lwA2 x l).length = (x.2 4 (2 * l)).toNat := sgM_len _ _ _ _
theorem lwB2_len {x : MS} (l : Nat) : (lwB2 x l).length = (x.2 4 (2 * l + 1)).toNat := sgM_len _ _ _ _
theorem dnA_k {x : MS} {m : Nat} (hn : 1 ≤ x.1 0) (hall : x.1 7 = gS (x.1 0) (m + 1)) {l : Nat} (okB : okL (x.1 0).toNat (lwB2 x l)) {f g : Nat → Int} {w : Int} (w0 : 0 ≤ w) (w1 : w < x.1 7) (k : kpJ f g (x.1 7)) {a : Nat} (h : dnA x m f w l a) : dnA x m g w l a := by
  intro u v hu hv eu la lb e
  have i := num_in (n := (x.1 0).toNat) (by omega) hu okB hv lb
  rw [show (((x.1 0).toNat : Nat) : Int) = x.1 0 by omega, ← hall] at i
  exact k _ _ w0 w1 i.1 i.2 (h u v hu hv eu la lb e)
def hqM (x : MS) (m : Nat) (y : MS) (w : Int) : Prop := num (x.1 0).toNat (hM y) = w ∧ okL (x.1 0).toNat (hM y) ∧ y.1 10 = ((hM y).length : Int) ∧ (hM y).length ≤ m
theorem ja_x {x y : MS} {m : Nat} {w g b : Int} (l0 : 1 ≤ x.1 0) (t4 : y.2 4 = x.2 4) (hq : hqM x m y w) (lh : lwH x) (g0 : 0 ≤ g) (g1 : g < x.1 3) (c : y.1 10 < b + y.2 4 ((2 : Int) * g).toNat) (dg : ∀ l : Nat, (l : Int) < g → dnL x m (y.2 9) w l) (db : ∀ a : Nat, (a : Int) < b → dnA x m (y.2 9) w g.toNat a) : ∀ l : Nat, (l : Int) < g + (1 : Int) → dnL x m (y.2 9) w l := by
  intro l hl
  by_cases e : (l : Int) = g
  · intro a
    have el : l = g.toNat := by omega
    rw [el]
    by_cases ca : (a : Int) < b
    · exact db a ca
    · intro u v hu hv eu la lb en
      exfalso
      have okA : okL (x.1 0).toNat (lwA2 x g.toNat) := (lh.2 g.toNat (by omega)).2.2.1
      have eq := num_one (n := (x.1 0).toNat) (by omega) (okL_pp.mpr ⟨hu, okL_pp.mpr ⟨okA, hv⟩⟩) hq.2.1 (en.trans hq.1.symm)
      have h9 := congrArg List.length eq
      rw [List.length_append, List.length_append, lwA2_len] at h9
      rw [t4, show ((2 : Int) * g).toNat = 2 * g.toNat by omega] at c
      have o0 := (lh.2 g.toNat (by omega)).1.1
      have h8 := hq.2.2.1
      omega
  · exact dg l (by omega)
theorem ja_c {x y : MS} {m0 w g b : Int} (l0 : 1 ≤ x.1 0) (s0 : y.1 0 = x.1 0) (t4 : y.2 4 = x.2 4) (t5 : y.2 5 = x.2 5) (hq : hqM x m0.toNat y w) (m1 : 0 ≤ m0) (m2 : m0 ≤ 60) (lh : lwH x) (g0 : 0 ≤ g) (g1 : g < x.1 3) (b0 : 0 ≤ b) (fx : ∀ j : Nat, j ≤ m0.toNat + 1 → y.2 8 j = gS (x.1 0) j) (c : ¬ y.1 10 < b + y.2 4 ((2 : Int) * g).toNat) : ((F_m_changed y g b m0).1 = -9 ∧ ∀ f, dnA x m0.toNat f w g.toNat b.toNat) ∨ ∃ u v, okL (x.1 0).toNat u ∧ okL (x.1 0).toNat v ∧ hM y = u ++ (lwA2 x g.toNat ++ v) ∧ u.length = b.toNat ∧ u.length + (lwA2 x g.toNat).length + v.length ≤ m0.toNat ∧ u.length + (lwB2 x g.toNat).length + v.length ≤ m0.toNat ∧ num (x.1 0).toNat (u ++ (lwA2 x g.toNat ++ v)) = w ∧ (F_m_changed y g b m0).1 = num (x.1 0).toNat (u ++ (lwB2 x g.toNat ++ v)) := by
  obtain ⟨q1, q2, q3, q4⟩ := hq
  obtain ⟨⟨o0, o1⟩, ⟨p0, p1⟩, okA, okB⟩ := lh.2 g.toNat (by omega)
  have okA : okL (x.1 0).toNat (lwA2 x g.toNat) := okA
  have okB : okL (x.1 0).toNat (lwB2 x g.toNat) := okB
  obtain ⟨eA, eB⟩ := lw_e t4 t5 g.toNat
  have lA := lwA2_len (x := x) g.toNat
  rw [t4, show ((2 : Int) * g).toNat = 2 * g.toNat by omega] at c
  have eg : ((g.toNat : Nat) : Int) = g := by omega
  have eb : ((b.toNat : Nat) : Int) = b := by omega
  have em : ((m0.toNat : Nat) : Int) = m0 := by omega
  have R := changed_x (x := y) (L := (x.1 0).toNat) (M := 0) (m := m0.toNat) (by rw [s0]; omega) q3 (by omega) q2 (l := g.toNat) (a := b.toNat) (by rw [t4]; exact o0) (by rw [t4]; exact o1) (by rw [t4]; exact p0) (by rw [t4]; exact p1) (by rw [eB]; exact okB) (fun k hk => by rw [s0]; exact fx k (by omega)) (by rw [eA]; omega)
  rw [eA, eB, eg, eb, em] at R
  rcases R with ⟨h1, h2⟩ | ⟨u, v, h1, h2, h3, h4⟩
  · refine Or.inl ⟨h1, fun f u v hu hv eu la lb en => ?_⟩
    exfalso
    have eq := num_one (n := (x.1 0).toNat) (by omega) (okL_pp.mpr ⟨hu, okL_pp.mpr ⟨okA, hv⟩⟩) q2 (en.trans q1.symm)
    exact h2 u v eu eq.symm lb
  · have ok2 := q2
    rw [h2] at ok2
    have ln := congrArg List.length h2
    rw [List.length_append, List.length_append] at ln
    exact Or.inr ⟨u, v, (okL_pp.mp ok2).1, (okL_pp.mp (okL_pp.mp ok2).2).2, h2, h1, by omega, h3, by rw [← h2]; exact q1, h4⟩
theorem ja_9 {x y : MS} {m0 w g b : Int} (l0 : 1 ≤ x.1 0) (s0 : y.1 0 = x.1 0) (t4 : y.2 4 = x.2 4) (t5 : y.2 5 = x.2 5) (hq : hqM x m0.toNat y w) (m1 : 0 ≤ m0) (m2 : m0 ≤ 60) (lh : lwH x) (g0 : 0 ≤ g) (g1 : g < x.1 3) (b0 : 0 ≤ b) (fx : ∀ j : Nat, j ≤ m0.toNat + 1 → y.2 8 j = gS (x.1 0) j) (c : ¬ y.1 10 < b + y.2 4 ((2 : Int) * g).toNat) (h9 : (F_m_changed y g b m0).1 = (-9 : Int)) (db : ∀ a : Nat, (a : Int) < b → dnA x m0.toNat (y.2 9) w g.toNat a) : ∀ a : Nat, (a : Int) < b + (1 : Int) → dnA x m0.toNat (y.2 9) w g.toNat a := by
  intro a ha
  by_cases e : (a : Int) = b
  · have ea : a = b.toNat := by omega
    rw [ea]
    rcases ja_c l0 s0 t4 t5 hq m1 m2 lh g0 g1 b0 fx c with ⟨_, h⟩ | ⟨u, v, hu, hv, _, _, _, _, _, h⟩
    · exact h _
    · exfalso
      have okB : okL (x.1 0).toNat (lwB2 x g.toNat) := (lh.2 g.toNat (by omega)).2.2.2
      have := num_0 (n := (x.1 0).toNat) (by omega) (okL_pp.mpr ⟨hu, okL_pp.mpr ⟨okB, hv⟩⟩)
      omega
  · exact db a (by omega)
theorem ja_j {x y : MS} {m0 w g b : Int} (l0 : 1 ≤ x.1 0) (s0 : y.1 0 = x.1 0) (t4 : y.2 4 = x.2 4) (t5 : y.2 5 = x.2 5) (hq : hqM x m0.toNat y w) (m1 : 0 ≤ m0) (m2 : m0 ≤ 60) (lh : lwH x) (g0 : 0 ≤ g) (g1 : g < x.1 3) (b0 : 0 ≤ b) (fx : ∀ j : Nat, j ≤ m0.toNat + 1 → y.2 8 j = gS (x.1 0) j) (c : ¬ y.1 10 < b + y.2 4 ((2 : Int) * g).toNat) (h9 : ¬ (F_m_changed y g b m0).1 = (-9 : Int)) (hall : x.1 7 = gS (x.1 0) (m0.toNat + 1)) (a2 : x.1 7 ≤ 10000) (w0 : 0 ≤ w) (w1 : w < x.1 7) (jy : jOK y) (sd : sdJ (y.2 9) (x.1 7) (mP x m0.toNat)) (dw : ∀ v : Int, 0 ≤ v → v < w → dnW x m0.toNat (y.2 9) v) (dg : ∀ l : Nat, (l : Int) < g → dnL x m0.toNat (y.2 9) w l) (db : ∀ a : Nat, (a : Int) < b → dnA x m0.toNat (y.2 9) w g.toNat a) : sdJ ((F_m_join y w (F_m_changed y g b m0).1).2.2 9) (x.1 7) (mP x m0.toNat) ∧ (∀ v : Int, 0 ≤ v → v < w → dnW x m0.toNat ((F_m_join y w (F_m_changed y g b m0).1).2.2 9) v) ∧ (∀ l : Nat, (l : Int) < g → dnL x m0.toNat ((F_m_join y w (F_m_changed y g b m0).1).2.2 9) w l) ∧ ∀ a : Nat, (a : Int) < b + (1 : Int) → dnA x m0.toNat ((F_m_join y w (F_m_changed y g b m0).1).2.2 9) w g.toNat a := by
  rcases ja_c l0 s0 t4 t5 hq m1 m2 lh g0 g1 b0 fx c with ⟨h, _⟩ | ⟨u, v, hu, hv, e0, eu, la, lb, ew, h⟩
  · exact absurd h h9
  · have okb : ∀ l : Nat, (l : Int) < x.1 3 → okL (x.1 0).toNat (lwB2 x l) := fun l hl => (lh.2 l hl).2.2.2
    have okA : okL (x.1 0).toNat (lwA2 x g.toNat) := (lh.2 g.toNat (by omega)).2.2.1
    have i := num_in (n := (x.1 0).toNat) (by omega) hu (okb g.toNat (by omega)) hv lb
    rw [show (((x.1 0).toNat : Nat) : Int) = x.1 0 by omega, ← hall] at i
    rw [h]
    obtain ⟨_, q2, q3, q4⟩ := sdM_join (by omega) jy sd w0 w1 i.1 i.2 ⟨g.toNat, u, v, by omega, hu, hv, la, lb, ew.symm, rfl⟩
    refine ⟨q2, fun v9 v0 v1 l hl a => dnA_k l0 hall (okb l hl) v0 (by omega) q3 (dw v9 v0 v1 l hl a), fun l hl a => dnA_k l0 hall (okb l (by omega)) w0 w1 q3 (dg l hl a), fun a ha => ?_⟩
    by_cases e : (a : Int) = b
    · intro u2 v2 hu2 hv2 eu2 la2 lb2 en
      have eq := num_one (n := (x.1 0).toNat) (by omega) (okL_pp.mpr ⟨hu2, okL_pp.mpr ⟨okA, hv2⟩⟩) (okL_pp.mpr ⟨hu, okL_pp.mpr ⟨okA, hv⟩⟩) (en.trans ew.symm)
      obtain ⟨p1, p2⟩ := List.append_inj eq (by omega)
      obtain ⟨_, p3⟩ := List.append_inj p2 rfl
      rw [p1, p3]
      exact q4
    · exact dnA_k l0 hall (okb g.toNat (by omega)) w0 w1 q3 (db a (by omega))
theorem ja_1 {x y : MS} {m0 i : Int} (e1 : x.1 0 = 1) (t4 : y.2 4 = x.2 4) (m1 : 0 ≤ m0) (hall : x.1 7 = gS (x.1 0) (m0.toNat + 1)) (a2 : x.1 7 ≤ 10000) (lh : lwH x) (i0 : 0 ≤ i) (i1 : i < x.1 3) (jy : jOK y) (sd : sdJ (y.2 9) (x.1 7) (mP x m0.toNat)) (d1 : ∀ l : Nat, (l : Int) < i → ∀ w : Int, 0 ≤ w → w < x.1 7 → dnL x m0.toNat (y.2 9) w l) : sdJ ((F_m_joinOne y m0 (y.2 4 ((2 : Int) * i).toNat) (y.2 4 ((2 : Int) * i + (1 : Int)).toNat)).2.2 9) (x.1 7) (mP x m0.toNat) ∧ ∀ l : Nat, (l : Int) < i + (1 : Int) → ∀ w : Int, 0 ≤ w → w < x.1 7 → dnL x m0.toNat ((F_m_joinOne y m0 (y.2 4 ((2 : Int) * i).toNat) (y.2 4 ((2 : Int) * i + (1 : Int)).toNat)).2.2 9) w l := by
  obtain ⟨⟨o0, o1⟩, ⟨p0, p1⟩, okA, okB⟩ := lh.2 i.toNat (by omega)
  have okA : okL (x.1 0).toNat (lwA2 x i.toNat) := okA
  have okB : okL (x.1 0).toNat (lwB2 x i.toNat) := okB
  have lA := lwA2_len (x := x) i.toNat
  have lB := lwB2_len (x := x) i.toNat
  have eB : x.1 7 = m0 + 1 := by rw [hall, e1, gS_1]; omega
  have n1 : (x.1 0).toNat = 1 := by omega
  rw [n1] at okA okB
  rw [t4, show ((2 : Int) * i).toNat = 2 * i.toNat by omega, show ((2 : Int) * i + (1 : Int)).toNat = 2 * i.toNat + 1 by omega]
  obtain ⟨r1, r2, r3⟩ := joinOne_s (P := mP x m0.toNat) (B := x.1 7) (m := m0) (f := x.2 4 (2 * i.toNat)) (t := x.2 4 (2 * i.toNat + 1)) (by omega) o0 p0 (by omega) (fun w h1 h2 h3 => by
    have okv : okL 1 (dl 1 (w - x.2 4 (2 * i.toNat)).toNat 0) := dl_ok (by omega) _ _
    have lv := dl_len 1 (w - x.2 4 (2 * i.toNat)).toNat 0
    refine ⟨i.toNat, [], dl 1 (w - x.2 4 (2 * i.toNat)).toNat 0, by omega, fun l hl => absurd hl List.not_mem_nil, by rw [n1]; exact okv, ?_, ?_, ?_, ?_⟩
    · rw [lv, lA, List.length_nil]; omega
    · rw [lv, lB, List.length_nil]; omega
    · rw [n1, List.nil_append, num_1 (okL_pp.mpr ⟨okA, okv⟩), List.length_append, lv, lA]; omega
    · rw [n1, List.nil_append, num_1 (okL_pp.mpr ⟨okB, okv⟩), List.length_append, lv, lB]; omega) 20010 y (x.2 4 (2 * i.toNat)) jy sd (Int.le_refl _) (by omega) (by decide)
  refine ⟨r1, fun l hl w w0 w1 a => ?_⟩
  by_cases e : (l : Int) = i
  · have el : l = i.toNat := by omega
    rw [el]
    intro u v hu hv eu la lb en
    rw [n1] at hu hv en ⊢
    rw [num_1 (okL_pp.mpr ⟨hu, okL_pp.mpr ⟨okA, hv⟩⟩), List.length_append, List.length_append] at en
    rw [num_1 (okL_pp.mpr ⟨hu, okL_pp.mpr ⟨okB, hv⟩⟩), List.length_append, List.length_append]
    have := r3 w (by omega) (by omega) (by omega)
    rw [show ((u.length + ((lwB2 x i.toNat).length + v.length) : Nat) : Int) = w - x.2 4 (2 * i.toNat) + x.2 4 (2 * i.toNat + 1) by omega]
    exact this
  · exact dnA_k (by omega) hall (lh.2 l (by omega)).2.2.2 w0 w1 r2 (d1 l (by omega) w w0 w1 a)
theorem ja_i {y : MS} {i : Int} (i0 : 0 ≤ i) (h : ∀ k : Nat, (k : Int) < i → y.2 9 k = (k : Int)) : ∀ k : Nat, (k : Int) < i + (1 : Int) → (aU y 9 i.toNat i).2 9 k = (k : Int) := by
  intro k hk
  rw [yU_s, yU_if]
  by_cases e : k = i.toNat
  · rw [if_pos e]; omega
  · rw [if_neg e]; exact h k (by omega)
theorem ja_r {x y : MS} {m : Nat} (l0 : 1 ≤ x.1 0) (n0 : 0 ≤ x.1 3) (hall : x.1 7 = gS (x.1 0) (m + 1)) (lh : lwH x) (sd : sdJ (y.2 9) (x.1 7) (mP x m)) (dw : ∀ v : Int, 0 ≤ v → v < x.1 7 → dnW x m (y.2 9) v) : ufR (y.2 9) (x.1 7) (eqG (mP x m)) := by
  refine sd_end sd (fun a b h => ?_)
  obtain ⟨l, u, v, hl, hu, hv, la, lb, ea, eb⟩ := h
  have hl2 : (l : Int) < x.1 3 := by omega
  have okA : okL (x.1 0).toNat (lwA2 x l) := (lh.2 l hl2).2.2.1
  have i := num_in (n := (x.1 0).toNat) (by omega) hu okA hv la
  rw [show (((x.1 0).toNat : Nat) : Int) = x.1 0 by omega, ← hall] at i
  rw [ea, eb]
  exact dw _ i.1 i.2 l hl2 u.length u v hu hv rfl la lb rfl
/-- what joinAll leaves -/
def jaQ (x : MS) (m : Nat) (q : Int × MS) : Prop := jOK q.2 ∧ ufR (q.2.2 9) (x.1 7) (eqG (mP x m)) ∧ (x.1 0 ≠ 1 → ∀ k : Nat, k ≤ m + 1 → q.2.2 8 k = gS (x.1 0) k) ∧ fR q.2 ∧ hdR q.2
set_option maxHeartbeats 4000000 in
theorem F_m_joinAll_p (x : MS) (m0 : Int) (m1 : 1 ≤ m0) (m2 : m0 ≤ 20) (lt : 1 ≤ x.1 0 ∧ x.1 0 ≤ 4) (n0 : 0 ≤ x.1 3) (n1 : x.1 3 ≤ 8) (hz : lzR x) (hw : lwR x) (lwL : ∀ l i : Int, 0 ≤ l → l < x.1 3 → 0 ≤ i → i < (x.2 4) (2 * l + 1).toNat → (x.2 5) (24 * l + 12 + i).toNat < x.1 0) (hall : x.1 7 = gS (x.1 0) (m0.toNat + 1)) (a2 : x.1 7 ≤ 10000) (hf : fR x) (hd : hdR x) (hj : jOK x) (lh : lwH x) : jaQ x m0.toNat (F_m_joinAll (x) (m0)) := by
  have l0 := lt.1
  have l1 := lt.2
  have a0 := gS_nn l0 (m0.toNat + 1)
  have L : ∀ n : Nat, (∀ (y : MS) (i : Int), (same [] [9] x y) → (jOK y) → (0 ≤ i) → (i ≤ 10001) → (∀ k : Nat, (k : Int) < i → y.2 9 k = (k : Int)) → (10001 - i + 6200000 < n) → jaQ x m0.toNat (F_m_joinAll_s n 0 y m0 i 0 0)) ∧ (∀ (y : MS) (i : Int), (same [] [9] x y) → (jOK y) → (0 ≤ i) → (i ≤ 8) → (x.1 0 = 1) → (sdJ (y.2 9) (x.1 7) (mP x m0.toNat)) → (∀ l : Nat, (l : Int) < i → ∀ w : Int, 0 ≤ w → w < x.1 7 → dnL x m0.toNat (y.2 9) w l) → (8 - i + 10 < n) → jaQ x m0.toNat (F_m_joinAll_s n 1 y m0 i 0 0)) ∧ (∀ (y : MS) (f : Int) (k : Int), (same [] [8, 9] x y) → (jOK y) → (fR y) → (0 ≤ k) → (k ≤ m0 + 2) → (k ≤ m0 + 1 → f = gS (x.1 0) k.toNat) → (∀ j : Nat, (j : Int) < k → j ≤ m0.toNat + 1 → y.2 8 j = gS (x.1 0) j) → (x.1 0 ≠ 1) → (sdJ (y.2 9) (x.1 7) (mP x m0.toNat)) → (22 - k + 6100000 < n) → jaQ x m0.toNat (F_m_joinAll_s n 2 y m0 f k 0)) ∧ (∀ (y : MS) (w : Int), (same [10] [8, 9, 11] x y) → (jOK y) → (fR y) → (∀ j : Nat, j ≤ m0.toNat + 1 → y.2 8 j = gS (x.1 0) j) → (hdR y) → (0 ≤ w) → (w ≤ 10001) → (x.1 0 ≠ 1) → (sdJ (y.2 9) (x.1 7) (mP x m0.toNat)) → (∀ v : Int, 0 ≤ v → v < w → dnW x m0.toNat (y.2 9) v) → ((10001 - w) * 600 + 10 < n) → jaQ x m0.toNat (F_m_joinAll_s n 3 y m0 w 0 0)) ∧ (∀ (y : MS) (w : Int) (g : Int), (same [10] [8, 9, 11] x y) → (jOK y) → (fR y) → (∀ j : Nat, j ≤ m0.toNat + 1 → y.2 8 j = gS (x.1 0) j) → (hdR y) → (0 ≤ y.1 10) → (y.1 10 ≤ 60) → (∀ k : Nat, (k : Int) < y.1 10 → 0 ≤ y.2 11 k ∧ y.2 11 k < x.1 0) → (0 ≤ w) → (w < x.1 7) → (w ≤ 10000) → (0 ≤ g) → (g ≤ 8) → (x.1 0 ≠ 1) → (sdJ (y.2 9) (x.1 7) (mP x m0.toNat)) → (∀ v : Int, 0 ≤ v → v < w → dnW x m0.toNat (y.2 9) v) → (∀ l : Nat, (l : Int) < g → dnL x m0.toNat (y.2 9) w l) → (hqM x m0.toNat y w) → ((10000 - w) * 600 + (8 - g) * 70 + 20 < n) → jaQ x m0.toNat (F_m_joinAll_s n 4 y m0 w g 0)) ∧ (∀ (y : MS) (w : Int) (g : Int) (b : Int), (same [10] [8, 9, 11] x y) → (jOK y) → (fR y) → (∀ j : Nat, j ≤ m0.toNat + 1 → y.2 8 j = gS (x.1 0) j) → (hdR y) → (0 ≤ y.1 10) → (y.1 10 ≤ 60) → (∀ k : Nat, (k : Int) < y.1 10 → 0 ≤ y.2 11 k ∧ y.2 11 k < x.1 0) → (0 ≤ w) → (w < x.1 7) → (w ≤ 10000) → (0 ≤ g) → (g < x.1 3) → (0 ≤ b) → (b ≤ 61) → (x.1 0 ≠ 1) → (sdJ (y.2 9) (x.1 7) (mP x m0.toNat)) → (∀ v : Int, 0 ≤ v → v < w → dnW x m0.toNat (y.2 9) v) → (∀ l : Nat, (l : Int) < g → dnL x m0.toNat (y.2 9) w l) → (hqM x m0.toNat y w) → (∀ a : Nat, (a : Int) < b → dnA x m0.toNat (y.2 9) w g.toNat a) → ((10000 - w) * 600 + (7 - g) * 70 + (61 - b) + 21 < n) → jaQ x m0.toNat (F_m_joinAll_s n 5 y m0 w g b)) := by
    intro n
    induction n with
    | zero =>
      refine ⟨?_, ?_, ?_, ?_, ?_, ?_⟩
      · intro y i sm jy i0 i1 idn fu
        exact absurd fu (by omega)
      · intro y i sm jy i0 i1 e1 sd d1 fu
        exact absurd fu (by omega)
      · intro y f k sm jy fry k0 k1 fk fe ne1 sd fu
        exact absurd fu (by omega)
      · intro y w sm jy fry fx hdy w0 w2 ne1 sd dw fu
        exact absurd fu (by omega)
      · intro y w g sm jy fry fx hdy hh0 hh1 dig w0 w1 w2 g0 g1 ne1 sd dw dg hq fu
        exact absurd fu (by omega)
      · intro y w g b sm jy fry fx hdy hh0 hh1 dig w0 w1 w2 g0 g1 b0 b1 ne1 sd dw dg hq db fu
        exact absurd fu (by omega)
    | succ n ih =>
      refine ⟨?_, ?_, ?_, ?_, ?_, ?_⟩
      · intro y i sm jy i0 i1 idn fu
        rw [F_m_joinAll_e0]
        have s0 := sm.1 0 (by decide)
        have s7 := sm.1 7 (by decide)
        by_cases c_7 : ((y).1 7) ≤ (i)
        · rw [if_pos c_7]
          by_cases c_28 : ((y).1 0) = ((1 : Int))
          · rw [if_pos c_28]
            exact ih.2.1 (y) ((0 : Int)) (sm) (jy) (by omega) (by omega) (by omega) (sdJ_0 (fun k hk => idn k (by omega))) (fun l hl => by exfalso; omega) (by omega)
          · rw [if_neg c_28]
            exact ih.2.2.1 (y) ((0 : Int)) ((0 : Int)) (sm_mono (by decide) (by decide) sm) (jy) (by unfold fR; rw [sm.2 8 (by decide)]; exact hf) (by omega) (by omega) (by intro _; rfl) (by intro j hj1 _; exact absurd hj1 (by omega)) (by omega) (sdJ_0 (fun k9 hk9 => idn k9 (by omega))) (by omega)
        · rw [if_neg c_7]
          exact ih.1 (aU (y) 9 (i).toNat (i)) ((i) + (1 : Int)) (sm_a (by decide) sm) (jOK_up jy i0 (by omega)) (by omega) (by omega) (ja_i i0 idn) (by omega)
      · intro y i sm jy i0 i1 e1 sd d1 fu
        rw [F_m_joinAll_e1]
        have s0 := sm.1 0 (by decide)
        have s3 := sm.1 3 (by decide)
        have t4 := sm.2 4 (by decide)
        by_cases c_38 : ((y).1 3) ≤ (i)
        · rw [if_pos c_38]
          exact ⟨jy, ja_r l0 n0 hall lh sd (fun v v0 v1 l hl => d1 l (by omega) v v0 v1), fun h9 => absurd e1 h9, (by unfold fR; rw [sm.2 8 (by decide)]; exact hf), (by unfold hdR; rw [sm.2 11 (by decide)]; exact hd)⟩
        · rw [if_neg c_38]
          have z9 := hz (2 * i).toNat (by omega)
          have z8 := hz (2 * i + 1).toNat (by omega)
          rw [← t4] at z9 z8
          exact ih.2.1 ((F_m_joinOne (y) (m0) (((y).2 4) (((2 : Int)) * (i)).toNat) (((y).2 4) ((((2 : Int)) * (i)) + ((1 : Int))).toNat)).2) ((i) + (1 : Int)) (sm_tr sm (sm_mono (by decide) (by decide) (F_m_joinOne_fr _ _ _ _))) (F_m_joinOne_j jy z9.1 z8.1 (by omega)) (by omega) (by omega) (e1) ((ja_1 e1 t4 (by omega) hall a2 lh i0 (by omega) jy sd d1).1) ((ja_1 e1 t4 (by omega) hall a2 lh i0 (by omega) jy sd d1).2) (by omega)
      · intro y f k sm jy fry k0 k1 fk fe ne1 sd fu
        rw [F_m_joinAll_e2]
        have s0 := sm.1 0 (by decide)
        have s7 := sm.1 7 (by decide)
        have t11 := sm.2 11 (by decide)
        by_cases c_80 : ((m0) + ((1 : Int))) < (k)
        · rw [if_pos c_80]
          exact ih.2.2.2.1 (aU (y) 8 ((m0) + ((1 : Int))).toNat ((y).1 7)) ((0 : Int)) (sm_mono (by decide) (by decide) (sm_a (k := 8) (by decide) sm)) (jy) (fR_up fry (by omega) (by omega) (by omega) (by intro h9; omega)) (fun j hj1 => iU_eq (fun e9 => by rw [s7, hall, e9]; congr 1; omega) (fun h9 => fe j (by omega) hj1)) (by unfold hdR; rw [show (aU (y) 8 ((m0) + ((1 : Int))).toNat ((y).1 7)).2 11 = y.2 11 from rfl, t11]; exact hd) (by omega) (by omega) (ne1) (sd) (fun v9 v0 v1 => by exfalso; omega) (by omega)
        · rw [if_neg c_80]
          have fk9 := fk (by omega)
          have fb9 := gS_mono l0 (show k.toNat ≤ m0.toNat + 1 by omega)
          have fb : 0 ≤ f ∧ f ≤ 20000 := by have := gS_nn l0 k.toNat; omega
          have fb0 : k.toNat = 0 → f = 0 := by intro h9; rw [fk9, h9]; rfl
          by_cases c_92 : (k) ≤ (m0)
          · rw [if_pos c_92]
            exact ih.2.2.1 (aU (y) 8 (k).toNat (f)) ((f) + ((F_m_powerOf (aU (y) 8 (k).toNat (f)) (k)).1)) ((k) + (1 : Int)) (sm_a (by decide) sm) (jy) (fR_up fry (by omega) fb.1 fb.2 fb0) (by omega) (by omega) (by intro hk9; rw [F_m_powerOf_v _ (by omega) (by omega)]; have e9 : (k + 1).toNat = k.toNat + 1 := (by omega); rw [e9]; show f + gP (y.1 0) k.toNat = gS (x.1 0) k.toNat + gP (x.1 0) k.toNat; rw [s0, ← fk9]) (fun j hj1 hj2 => iU_eq (fun e9 => by rw [e9]; exact fk9) (fun h9 => fe j (by omega) hj2)) (ne1) (sd) (by omega)
          · rw [if_neg c_92]
            exact ih.2.2.1 (aU (y) 8 (k).toNat (f)) (f) ((k) + (1 : Int)) (sm_a (by decide) sm) (jy) (fR_up fry (by omega) fb.1 fb.2 fb0) (by omega) (by omega) (by intro hk9; omega) (fun j hj1 hj2 => iU_eq (fun e9 => by rw [e9]; exact fk9) (fun h9 => fe j (by omega) hj2)) (ne1) (sd) (by omega)
      · intro y w sm jy fry fx hdy w0 w2 ne1 sd dw fu
        rw [F_m_joinAll_e3]
        have s0 := sm.1 0 (by decide)
        have s3 := sm.1 3 (by decide)
        have s7 := sm.1 7 (by decide)
        have t4 := sm.2 4 (by decide)
        have t5 := sm.2 5 (by decide)
        by_cases c_132 : ((y).1 7) ≤ (w)
        · rw [if_pos c_132]
          exact ⟨jy, ja_r l0 n0 hall lh sd (fun v v0 v1 => dw v v0 (by omega)), fun _ => fx, fry, hdy⟩
        · rw [if_neg c_132]
          have hK9 : w < y.2 8 (m0.toNat + 1) := by rw [fx _ (Nat.le_refl _), ← hall]; omega
          have lv := F_m_lay_v (K := m0.toNat + 1) (by omega) (by omega) hK9 (by rw [fry.1]; exact w0)
          have lh := F_m_lay_h (K := m0.toNat + 1) (by omega) (by omega) hK9 (by omega) (by omega) hdy
          have lf := F_m_lay_fr y w
          exact ih.2.2.2.2.1 ((F_m_lay (y) (w)).2) (w) ((0 : Int)) (sm_tr sm (sm_mono (by decide) (by decide) lf)) (fun j hj9 => by rw [lf.2 9 (by decide)]; exact jy j hj9) (by unfold fR; rw [lf.2 8 (by decide)]; exact fry) (by rw [lf.2 8 (by decide)]; exact fx) (lh.1) (lv.1) (by omega) (by rw [← s0]; exact lh.2) (w0) (by omega) (by omega) (by omega) (by omega) (ne1) (by rw [lf.2 9 (by decide)]; exact sd) (by rw [lf.2 9 (by decide)]; exact dw) (fun l hl => by exfalso; omega) (by have lx := lay_x (x := y) (M := m0.toNat) (by omega) (by omega) (by rw [s0]; exact fx) w0 (by rw [s0, ← hall]; omega); rw [s0] at lx; exact ⟨lx.2.1, lx.1, lx.2.2.1, lx.2.2.2⟩) (by omega)
      · intro y w g sm jy fry fx hdy hh0 hh1 dig w0 w1 w2 g0 g1 ne1 sd dw dg hq fu
        rw [F_m_joinAll_e4]
        have s0 := sm.1 0 (by decide)
        have s3 := sm.1 3 (by decide)
        have s7 := sm.1 7 (by decide)
        have t4 := sm.2 4 (by decide)
        have t5 := sm.2 5 (by decide)
        by_cases c_149 : ((y).1 3) ≤ (g)
        · rw [if_pos c_149]
          exact ih.2.2.2.1 (y) ((w) + (1 : Int)) (sm) (jy) (fry) (fx) (hdy) (by omega) (by omega) (ne1) (sd) (fun v v0 v1 => by (by_cases e9 : v = w); (rw [e9]; exact fun l hl => dg l (by omega)); exact dw v v0 (by omega)) (by omega)
        · rw [if_neg c_149]
          exact ih.2.2.2.2.2 (y) (w) (g) ((0 : Int)) (sm) (jy) (fry) (fx) (hdy) (hh0) (hh1) (dig) (w0) (w1) (w2) (by omega) (by omega) (by omega) (by omega) (ne1) (sd) (dw) (dg) (hq) (fun a ha => by exfalso; omega) (by omega)
      · intro y w g b sm jy fry fx hdy hh0 hh1 dig w0 w1 w2 g0 g1 b0 b1 ne1 sd dw dg hq db fu
        rw [F_m_joinAll_e5]
        have s0 := sm.1 0 (by decide)
        have s3 := sm.1 3 (by decide)
        have s7 := sm.1 7 (by decide)
        have t4 := sm.2 4 (by decide)
        have t5 := sm.2 5 (by decide)
        have z9 := hz (2 * g).toNat (by omega)
        have z8 := hz (2 * g + 1).toNat (by omega)
        rw [← t4] at z9 z8
        by_cases c_171 : ((y).1 10) < ((b) + (((y).2 4) (((2 : Int)) * (g)).toNat))
        · rw [if_pos c_171]
          exact ih.2.2.2.2.1 (y) (w) ((g) + (1 : Int)) (sm) (jy) (fry) (fx) (hdy) (hh0) (hh1) (dig) (w0) (w1) (w2) (by omega) (by omega) (ne1) (sd) (dw) (ja_x l0 t4 hq lh g0 (by omega) (by assumption) dg db) (hq) (by omega)
        · rw [if_neg c_171]
          have cv := F_m_changed_v (x := y) (l0 := g) (at0 := b) (m0 := m0) (M := m0.toNat) (by omega) ⟨(by rw [s0]; exact dig), (fun i9 hi0 hi1 => by rw [t5, s0]; exact ⟨(hw _ (by omega)).1, lwL g i9 g0 g1 hi0 (by rw [t4] at hi1; exact hi1)⟩), (by rw [s0]; exact fx)⟩ z9.1 z9.2 z8.1 z8.2 b0 (by omega) hh1
          rw [show cgR y m0.toNat (F_m_changed y g b m0).1 = (((F_m_changed y g b m0).1 = -9) ∨ (0 ≤ (F_m_changed y g b m0).1 ∧ (F_m_changed y g b m0).1 < gS (y.1 0) (m0.toNat + 1))) from rfl, s0, ← hall] at cv
          by_cases c_189 : ((F_m_changed (y) (g) (b) (m0)).1) = ((-9 : Int))
          · rw [if_pos c_189]
            exact ih.2.2.2.2.2 (y) (w) (g) ((b) + (1 : Int)) (sm) (jy) (fry) (fx) (hdy) (hh0) (hh1) (dig) (w0) (w1) (w2) (by omega) (by omega) (by omega) (by omega) (ne1) (sd) (dw) (dg) (hq) (ja_9 l0 s0 t4 t5 hq (by omega) (by omega) lh g0 g1 b0 fx (by assumption) (by assumption) db) (by omega)
          · rw [if_neg c_189]
            have jf := F_m_join_fr y w (F_m_changed (y) (g) (b) (m0)).1
            exact ih.2.2.2.2.2 ((F_m_join (y) (w) ((F_m_changed (y) (g) (b) (m0)).1)).2) (w) (g) ((b) + (1 : Int)) (sm_tr sm (sm_mono (by decide) (by decide) jf)) (F_m_join_ok jy w0 (by omega) (by omega) (by omega)) (by unfold fR; rw [jf.2 8 (by decide)]; exact fry) (by rw [jf.2 8 (by decide)]; exact fx) (by unfold hdR; rw [jf.2 11 (by decide)]; exact hdy) (by rw [jf.1 10 (by decide)]; exact hh0) (by rw [jf.1 10 (by decide)]; exact hh1) (by rw [jf.1 10 (by decide), jf.2 11 (by decide)]; exact dig) (w0) (w1) (w2) (by omega) (by omega) (by omega) (by omega) (ne1) ((ja_j l0 s0 t4 t5 hq (by omega) (by omega) lh g0 g1 b0 fx (by assumption) (by assumption) hall a2 w0 w1 jy sd dw dg db).1) ((ja_j l0 s0 t4 t5 hq (by omega) (by omega) lh g0 g1 b0 fx (by assumption) (by assumption) hall a2 w0 w1 jy sd dw dg db).2.1) ((ja_j l0 s0 t4 t5 hq (by omega) (by omega) lh g0 g1 b0 fx (by assumption) (by assumption) hall a2 w0 w1 jy sd dw dg db).2.2.1) (by unfold hqM hM; rw [jf.1 10 (by decide), jf.2 11 (by decide)]; exact hq) ((ja_j l0 s0 t4 t5 hq (by omega) (by omega) lh g0 g1 b0 fx (by assumption) (by assumption) hall a2 w0 w1 jy sd dw dg db).2.2.2) (by omega)
  unfold F_m_joinAll
  exact (L (6300000)).1 (x) ((0 : Int)) (sm_rf _ _ _) (hj) (by omega) (by omega) (fun k hk => by exfalso; omega) (by omega)
