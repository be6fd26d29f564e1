-- deps: A0.b
/-! the class: all STEPS of a LAW are joined -/
theorem scX_gS {x : KS} (sx : scX x) : ∀ k : Nat, (k : Int) ≤ x.1 1 3 + 1 → x.2 3 k = gS ((nL x : Nat) : Int) k := by
  intro k
  induction k with
  | zero => intro _; exact sx.1.2.2.2.2
  | succ k ih =>
    intro h
    rw [sx.2.2.2.1 k (by omega), ih (by omega), scX_pow sx k (by omega), gS_s, gP_pow]
theorem num_ab {n : Nat} {A u v : List Int} {a b : Nat} (hu : u.length = a) (hv : v.length = b) : num n (u ++ (A ++ v)) = (gS (n : Int) (a + A.length + b) + ((vl n A : Nat) : Int) * ((n ^ b : Nat) : Int)) + ((vl n u : Nat) : Int) * (((n ^ A.length : Nat) : Int) * ((n ^ b : Nat) : Int)) + ((vl n v : Nat) : Int) := by
  rw [num_3, hu, hv]
  simp only [Int.natCast_mul]
/-- u A v and u B v lead to the same, for all u of a and v of b LETTERS -/
def jnd (n : Nat) (A B : List Int) (f : Nat → Int) (a b : Nat) : Prop := ∀ u v : List Int, okL n u → okL n v → u.length = a → v.length = b → rp f (num n (u ++ (A ++ v))) = rp f (num n (u ++ (B ++ v)))
theorem num_in {n m : Nat} (hn : 1 ≤ n) {u A v : List Int} (hu : okL n u) (hA : okL n A) (hv : okL n v) (l : u.length + A.length + v.length ≤ m) : 0 ≤ num n (u ++ (A ++ v)) ∧ num n (u ++ (A ++ v)) < gS (n : Int) (m + 1) := by
  have ok : okL n (u ++ (A ++ v)) := okL_pp.mpr ⟨hu, okL_pp.mpr ⟨hA, hv⟩⟩
  exact ⟨num_0 hn ok, num_lt hn ok (by rw [List.length_append, List.length_append]; omega)⟩
theorem jnd_k {n m : Nat} (hn : 1 ≤ n) {A B : List Int} (hA : okL n A) (hB : okL n B) {f g : Nat → Int} {a b : Nat} (l1 : a + A.length + b ≤ m) (l2 : a + B.length + b ≤ m) (k : kpJ f g (gS (n : Int) (m + 1))) (h : jnd n A B f a b) : jnd n A B g a b := by
  intro u v hu hv eu ev
  have i1 := num_in hn hu hA hv (m := m) (by omega)
  have i2 := num_in hn hu hB hv (m := m) (by omega)
  exact k _ _ i1.1 i1.2 i2.1 i2.2 (h u v hu hv eu ev)
theorem jbt_x {x : KS} (sx : scX x) {w1 w2 : Nat} (g1 : wG x w1) (g2 : wG x w2) {m : Nat} (hm : (m : Int) ≤ x.1 1 3) (hB : x.1 56 1 = gS ((nL x : Nat) : Int) (m + 1)) (B9 : x.1 56 1 ≤ 10000) {P : Int → Int → Prop} {a b : Nat} (l1 : a + (wS x w1).length + b ≤ m) (l2 : a + (wS x w2).length + b ≤ m) (hP : ∀ u v, okL (nL x) u → okL (nL x) v → u.length = a → v.length = b → P (num (nL x) (u ++ (wS x w1 ++ v))) (num (nL x) (u ++ (wS x w2 ++ v)))) (h : sdJ (x.2 57) (x.1 56 1) P) : sdJ ((F_j_joinBetween x w1 w2 (a : Int) (b : Int)).2.2 57) (x.1 56 1) P ∧ kpJ (x.2 57) ((F_j_joinBetween x w1 w2 (a : Int) (b : Int)).2.2 57) (x.1 56 1) ∧ jnd (nL x) (wS x w1) (wS x w2) ((F_j_joinBetween x w1 w2 (a : Int) (b : Int)).2.2 57) a b := by
  have nb := nL_b sx
  have u1 : ((wS x w1).length : Int) = x.1 w1 1 := by rw [wS_len]; have := g1.1; omega
  have u2 : ((wS x w2).length : Int) = x.1 w2 1 := by rw [wS_len]; have := g2.1; omega
  have pb : (F_s_powerOf x (b : Int)).1 = ((nL x ^ b : Nat) : Int) := by rw [F_s_powerOf_v (by omega) (by omega), Int.toNat_natCast, scX_pow sx b (by omega)]
  have pa : (F_s_powerOf x (a : Int)).1 = ((nL x ^ a : Nat) : Int) := by rw [F_s_powerOf_v (by omega) (by omega), Int.toNat_natCast, scX_pow sx a (by omega)]
  have q1 : (F_s_powerOf x (x.1 w1 1)).1 = ((nL x ^ (wS x w1).length : Nat) : Int) := by rw [← u1, F_s_powerOf_v (by omega) (by omega), Int.toNat_natCast, scX_pow sx _ (by omega)]
  have q2 : (F_s_powerOf x (x.1 w2 1)).1 = ((nL x ^ (wS x w2).length : Nat) : Int) := by rw [← u2, F_s_powerOf_v (by omega) (by omega), Int.toNat_natCast, scX_pow sx _ (by omega)]
  have f1 : (F_s_firstOf x ((a : Int) + x.1 w1 1 + (b : Int))).1 = gS ((nL x : Nat) : Int) (a + (wS x w1).length + b) := by
    rw [F_s_firstOf_v (by omega) (by omega), show ((a : Int) + x.1 w1 1 + (b : Int)).toNat = a + (wS x w1).length + b by omega, scX_gS sx _ (by omega)]
  have f2 : (F_s_firstOf x ((a : Int) + x.1 w2 1 + (b : Int))).1 = gS ((nL x : Nat) : Int) (a + (wS x w2).length + b) := by
    rw [F_s_firstOf_v (by omega) (by omega), show ((a : Int) + x.1 w2 1 + (b : Int)).toNat = a + (wS x w2).length + b by omega, scX_gS sx _ (by omega)]
  have v1 := F_s_valueOf_v sx g1.1.1 g1.1.2 (wLt_G sx g1)
  have v2 := F_s_valueOf_v sx g2.1.1 g2.1.2 (wLt_G sx g2)
  have pw : ∀ k : Nat, (k : Int) ≤ x.1 1 3 → ((nL x ^ k : Nat) : Int) ≤ 10000 := fun k hk => by
    rw [← scX_pow sx k hk]; exact (sx.1.2.2.1 k (by have := sx.1.2.1; omega)).2
  have pbl := pw b (by omega)
  have pal := pw a (by omega)
  have L := (jbt_s (w1 := w1) (w2 := w2) (P := P) (B := x.1 56 1) B9 (a0 := (a : Int)) (b0 := (b : Int)) (tl := ((nL x ^ b : Nat) : Int)) (hd := ((nL x ^ a : Nat) : Int)) (sA := gS ((nL x : Nat) : Int) (a + (wS x w1).length + b) + ((vl (nL x) (wS x w1) : Nat) : Int) * ((nL x ^ b : Nat) : Int)) (sB := gS ((nL x : Nat) : Int) (a + (wS x w2).length + b) + ((vl (nL x) (wS x w2) : Nat) : Int) * ((nL x ^ b : Nat) : Int)) (lA := ((nL x ^ (wS x w1).length : Nat) : Int) * ((nL x ^ b : Nat) : Int)) (lB := ((nL x ^ (wS x w2).length : Nat) : Int) * ((nL x ^ b : Nat) : Int)) (Int.natCast_nonneg _) pbl (by
    intro g k g0 gh k0 kt
    have hu : okL (nL x) (dl (nL x) a g.toNat) := dl_ok nb.1 _ _
    have hv : okL (nL x) (dl (nL x) b k.toNat) := dl_ok nb.1 _ _
    have lu := dl_len (nL x) a g.toNat
    have lv := dl_len (nL x) b k.toNat
    have eu : ((vl (nL x) (dl (nL x) a g.toNat) : Nat) : Int) = g := by rw [vl_dl nb.1 a _ (by omega)]; omega
    have ev : ((vl (nL x) (dl (nL x) b k.toNat) : Nat) : Int) = k := by rw [vl_dl nb.1 b _ (by omega)]; omega
    have n1 := num_ab (n := nL x) (A := wS x w1) lu lv
    have n2 := num_ab (n := nL x) (A := wS x w2) lu lv
    rw [eu, ev] at n1 n2
    have i1 := num_in nb.1 hu g1.2.2 hv (m := m) (by omega)
    have i2 := num_in nb.1 hu g2.2.2 hv (m := m) (by omega)
    have p := hP _ _ hu hv lu lv
    rw [n1] at i1 p
    rw [n2] at i2 p
    rw [hB]
    exact ⟨i1, i2, p⟩) 100200000).1 x 0 rfl h (Int.le_refl _) (Int.natCast_nonneg _) (by omega)
  have E : F_j_joinBetween x w1 w2 (a : Int) (b : Int) = F_j_joinBetween_s w1 w2 100200000 0 x (a : Int) (b : Int) ((nL x ^ b : Nat) : Int) ((nL x ^ a : Nat) : Int) (gS ((nL x : Nat) : Int) (a + (wS x w1).length + b) + ((vl (nL x) (wS x w1) : Nat) : Int) * ((nL x ^ b : Nat) : Int)) (gS ((nL x : Nat) : Int) (a + (wS x w2).length + b) + ((vl (nL x) (wS x w2) : Nat) : Int) * ((nL x ^ b : Nat) : Int)) (((nL x ^ (wS x w1).length : Nat) : Int) * ((nL x ^ b : Nat) : Int)) (((nL x ^ (wS x w2).length : Nat) : Int) * ((nL x ^ b : Nat) : Int)) 0 0 := by
    unfold F_j_joinBetween
    rw [pb, pa, q1, q2, f1, f2, v1, v2]
  rw [E]
  generalize F_j_joinBetween_s w1 w2 100200000 0 x (a : Int) (b : Int) ((nL x ^ b : Nat) : Int) ((nL x ^ a : Nat) : Int) (gS ((nL x : Nat) : Int) (a + (wS x w1).length + b) + ((vl (nL x) (wS x w1) : Nat) : Int) * ((nL x ^ b : Nat) : Int)) (gS ((nL x : Nat) : Int) (a + (wS x w2).length + b) + ((vl (nL x) (wS x w2) : Nat) : Int) * ((nL x ^ b : Nat) : Int)) (((nL x ^ (wS x w1).length : Nat) : Int) * ((nL x ^ b : Nat) : Int)) (((nL x ^ (wS x w2).length : Nat) : Int) * ((nL x ^ b : Nat) : Int)) 0 0 = R at L
  obtain ⟨_, L2, L3, L4⟩ := L
  refine ⟨L2, L3, fun u v hu hv lu lv => ?_⟩
  have lu2 := (vl_lt u.length u rfl hu).resolve_right (by omega)
  have lv2 := (vl_lt v.length v rfl hv).resolve_right (by omega)
  rw [lu] at lu2
  rw [lv] at lv2
  rw [num_ab (A := wS x w1) lu lv, num_ab (A := wS x w2) lu lv]
  exact L4 _ _ (Int.natCast_nonneg _) (by omega) (Int.natCast_nonneg _) (by omega)
theorem kW_57 {w : Nat} (h : kW w = true) : w + 1 ∉ [57] := by
  intro h9
  rw [List.mem_singleton] at h9
  have e9 : w = 56 := (by omega)
  subst e9
  exact absurd h (by decide)
theorem jbl_s {x : KS} (sx : scX x) {w1 w2 : Nat} (k1 : kW w1 = true) (k2 : kW w2 = true) (g1 : wG x w1) (g2 : wG x w2) {m : Nat} (hm : (m : Int) ≤ x.1 1 3) (hB : x.1 56 1 = gS ((nL x : Nat) : Int) (m + 1)) (B9 : x.1 56 1 ≤ 10000) {P : Int → Int → Prop} {v : Int} (hv1 : v + x.1 w1 1 ≤ (m : Int)) (hv2 : v + x.1 w2 1 ≤ (m : Int)) (hP : ∀ u v, okL (nL x) u → okL (nL x) v → u.length + (wS x w1).length + v.length ≤ m → u.length + (wS x w2).length + v.length ≤ m → P (num (nL x) (u ++ (wS x w1 ++ v))) (num (nL x) (u ++ (wS x w2 ++ v)))) : ∀ n : Nat,
    (∀ (y : KS) (b : Int), ksame [] [57] x y → sdJ (y.2 57) (x.1 56 1) P → 0 ≤ b → (v - b + 1) * 30 + 5 < n → 5 < n → sdJ ((F_j_joinByLaw_s w1 w2 n 0 y (m : Int) v b 0).2.2 57) (x.1 56 1) P ∧ kpJ (y.2 57) ((F_j_joinByLaw_s w1 w2 n 0 y (m : Int) v b 0).2.2 57) (x.1 56 1) ∧ ∀ a' b' : Nat, b ≤ (b' : Int) → (a' : Int) + (b' : Int) ≤ v → jnd (nL x) (wS x w1) (wS x w2) ((F_j_joinByLaw_s w1 w2 n 0 y (m : Int) v b 0).2.2 57) a' b') ∧
    (∀ (y : KS) (b a : Int), ksame [] [57] x y → sdJ (y.2 57) (x.1 56 1) P → 0 ≤ b → b ≤ v → 0 ≤ a → a ≤ v - b + 1 → (v - b) * 30 + (22 - a) + 6 < n → sdJ ((F_j_joinByLaw_s w1 w2 n 1 y (m : Int) v b a).2.2 57) (x.1 56 1) P ∧ kpJ (y.2 57) ((F_j_joinByLaw_s w1 w2 n 1 y (m : Int) v b a).2.2 57) (x.1 56 1) ∧ ∀ a' b' : Nat, (b < (b' : Int) ∨ ((b' : Int) = b ∧ a ≤ (a' : Int))) → (a' : Int) + (b' : Int) ≤ v → jnd (nL x) (wS x w1) (wS x w2) ((F_j_joinByLaw_s w1 w2 n 1 y (m : Int) v b a).2.2 57) a' b') := by
  have nb := nL_b sx
  have l3 := sx.1.2.1
  have u1 : ((wS x w1).length : Int) = x.1 w1 1 := by rw [wS_len]; have := g1.1; omega
  have u2 : ((wS x w2).length : Int) = x.1 w2 1 := by rw [wS_len]; have := g2.1; omega
  intro n
  induction n with
  | zero => exact ⟨fun y b _ _ _ _ h => by exfalso; omega, fun y b a _ _ _ _ _ _ h => by exfalso; omega⟩
  | succ n ih =>
    refine ⟨fun y b fr h b0 fu f5 => ?_, fun y b a fr h b0 b1 a0 a1 fu => ?_⟩
    · rw [F_j_joinByLaw_e0]
      by_cases c : v < b
      · rw [if_pos c]
        exact ⟨h, kp_rf _ _, fun a' b' h1 h2 => by exfalso; omega⟩
      · rw [if_neg c]
        obtain ⟨r1, r2, r3⟩ := ih.2 y b 0 fr h b0 (by omega) (Int.le_refl _) (by omega) (by omega)
        exact ⟨r1, r2, fun a' b' h1 h2 => r3 a' b' (by omega) h2⟩
    · rw [F_j_joinByLaw_e1]
      by_cases c : v < a + b
      · rw [if_pos c]
        obtain ⟨r1, r2, r3⟩ := ih.1 y (b + 1) fr h (by omega) (by omega) (by omega)
        exact ⟨r1, r2, fun a' b' h1 h2 => r3 a' b' (by omega) h2⟩
      · rw [if_neg c]
        have n1 : nL y = nL x := by unfold nL; rw [fr.1 1 2 List.not_mem_nil]
        have s1 : wS y w1 = wS x w1 := by unfold wS; rw [fr.1 w1 1 List.not_mem_nil, fr.2 (w1 + 1) (kW_57 k1)]
        have s2 : wS y w2 = wS x w2 := by unfold wS; rw [fr.1 w2 1 List.not_mem_nil, fr.2 (w2 + 1) (kW_57 k2)]
        have gy1 : wG y w1 := wG_fr fr List.not_mem_nil (kW_57 k1) List.not_mem_nil g1
        have gy2 : wG y w2 := wG_fr fr List.not_mem_nil (kW_57 k2) List.not_mem_nil g2
        have sy : scX y := scX_of fr (by decide) (by decide) (by decide) sx
        have e56 : y.1 56 1 = x.1 56 1 := fr.1 56 1 List.not_mem_nil
        have J := jbt_x sy gy1 gy2 (m := m) (by rw [fr.1 1 3 List.not_mem_nil]; exact hm) (by rw [e56, n1]; exact hB) (by rw [e56]; exact B9) (P := P) (a := a.toNat) (b := b.toNat) (by rw [s1]; omega) (by rw [s2]; omega) (by rw [n1, s1, s2]; exact fun p q hp hq lp lq => hP p q hp hq (by omega) (by omega)) (by rw [e56]; exact h)
        rw [e56, n1, s1, s2, show ((a.toNat : Nat) : Int) = a by omega, show ((b.toNat : Nat) : Int) = b by omega] at J
        obtain ⟨j1, j2, j3⟩ := J
        obtain ⟨r1, r2, r3⟩ := ih.2 (F_j_joinBetween y w1 w2 a b).2 b (a + 1) (km_tr fr (F_j_joinBetween_fr y w1 w2 a b)) j1 b0 b1 (by omega) (by omega) (by omega)
        refine ⟨r1, kp_tr j2 r2, fun a' b' h1 h2 => ?_⟩
        by_cases e : (b' : Int) = b ∧ (a' : Int) = a
        · have ea : a' = a.toNat := by omega
          have eb : b' = b.toNat := by omega
          rw [ea, eb]
          rw [hB] at r2
          exact jnd_k nb.1 g1.2.2 g2.2.2 (m := m) (by omega) (by omega) r2 j3
        · exact r3 a' b' (by omega) h2
theorem jbl_x {x : KS} (sx : scX x) {w1 w2 : Nat} (k1 : kW w1 = true) (k2 : kW w2 = true) (g1 : wG x w1) (g2 : wG x w2) {m : Nat} (hm : (m : Int) ≤ x.1 1 3) (hB : x.1 56 1 = gS ((nL x : Nat) : Int) (m + 1)) (B9 : x.1 56 1 ≤ 10000) {P : Int → Int → Prop} (hP : ∀ u v, okL (nL x) u → okL (nL x) v → u.length + (wS x w1).length + v.length ≤ m → u.length + (wS x w2).length + v.length ≤ m → P (num (nL x) (u ++ (wS x w1 ++ v))) (num (nL x) (u ++ (wS x w2 ++ v)))) (h : sdJ (x.2 57) (x.1 56 1) P) : sdJ ((F_j_joinByLaw x w1 w2 (m : Int)).2.2 57) (x.1 56 1) P ∧ kpJ (x.2 57) ((F_j_joinByLaw x w1 w2 (m : Int)).2.2 57) (x.1 56 1) ∧ ∀ a b : Nat, a + (wS x w1).length + b ≤ m → a + (wS x w2).length + b ≤ m → jnd (nL x) (wS x w1) (wS x w2) ((F_j_joinByLaw x w1 w2 (m : Int)).2.2 57) a b := by
  have l3 := sx.1.2.1
  have u1 : ((wS x w1).length : Int) = x.1 w1 1 := by rw [wS_len]; have := g1.1; omega
  have u2 : ((wS x w2).length : Int) = x.1 w2 1 := by rw [wS_len]; have := g2.1; omega
  have l1 := wL_G g1
  have l2 := wL_G g2
  have is := F_w_isSame_x l1.1 l2.1 l1.2
  unfold F_j_joinByLaw
  rw [is]
  by_cases c : wS x w1 = wS x w2
  · rw [if_pos c, if_neg (by decide)]
    refine ⟨h, kp_rf _ _, fun a b _ _ u v _ _ _ _ => by rw [c]⟩
  · rw [if_neg c, if_pos rfl]
    obtain ⟨r1, r2, r3⟩ := (jbl_s sx k1 k2 g1 g2 hm hB B9 (P := P) (v := (m : Int) - max (x.1 w1 1) (x.1 w2 1)) (by omega) (by omega) hP 2000).1 x 0 (km_rf _ _ _) h (Int.le_refl _) (by have := g1.1; have := g2.1; omega) (by omega)
    exact ⟨r1, r2, fun a b h1 h2 => r3 a b (Int.natCast_nonneg _) (by omega)⟩
