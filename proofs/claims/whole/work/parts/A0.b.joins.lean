-- deps: A0.a
/-! joining by STEPS: sound, and all that is done stays done -/
def sdJ (f : Nat → Int) (B : Int) (P : Int → Int → Prop) : Prop := ldn f B ∧ ∀ u v : Int, 0 ≤ u → u < B → 0 ≤ v → v < B → rp f u = rp f v → eqG P u v
def kpJ (f g : Nat → Int) (B : Int) : Prop := ∀ u v : Int, 0 ≤ u → u < B → 0 ≤ v → v < B → rp f u = rp f v → rp g u = rp g v
theorem kp_rf (f : Nat → Int) (B : Int) : kpJ f f B := fun _ _ _ _ _ _ e => e
theorem kp_tr {f g h : Nat → Int} {B : Int} (a : kpJ f g B) (b : kpJ g h B) : kpJ f h B := fun u v u0 u1 v0 v1 e => b u v u0 u1 v0 v1 (a u v u0 u1 v0 v1 e)
theorem sdJ_0 {f : Nat → Int} {B : Int} {P : Int → Int → Prop} (h : ∀ k : Nat, (k : Int) < B → f k = (k : Int)) : sdJ f B P := by
  refine ⟨fun k hk => by rw [h k hk]; omega, fun u v u0 u1 v0 v1 e => ?_⟩
  have fu : f u.toNat = u := by rw [h u.toNat (by omega)]; omega
  have fv : f v.toNat = v := by rw [h v.toNat (by omega)]; omega
  rw [rp_fix fu, rp_fix fv] at e
  rw [e]
  exact (eqG_v P).1 v
theorem sd_join {f g : Nat → Int} {B : Int} {P : Int → Int → Prop} (h : sdJ f B P) (hg : ldn g B) {a b : Int} (a0 : 0 ≤ a) (a1 : a < B) (b0 : 0 ≤ b) (b1 : b < B) (p : P a b) (hv : ∀ v : Int, 0 ≤ v → v < B → rp g v = if rp f v = max (rp f a) (rp f b) then min (rp f a) (rp f b) else rp f v) : sdJ g B P ∧ kpJ f g B ∧ rp g a = rp g b := by
  refine ⟨⟨hg, fun u v u0 u1 v0 v1 e => ?_⟩, fun u v u0 u1 v0 v1 e => by rw [hv u u0 u1, hv v v0 v1, e], ?_⟩
  · have E := eqG_v P
    have key : rp f u = rp f v ∨ (rp f u = rp f a ∧ rp f b = rp f v) ∨ (rp f u = rp f b ∧ rp f a = rp f v) := by
      rw [hv u u0 u1, hv v v0 v1] at e
      revert e
      generalize rp f u = p1
      generalize rp f v = q1
      generalize rp f a = s1
      generalize rp f b = t1
      by_cases c1 : p1 = max s1 t1
      · rw [if_pos c1]
        by_cases c2 : q1 = max s1 t1
        · rw [if_pos c2]; intro _; omega
        · rw [if_neg c2]; intro _; omega
      · rw [if_neg c1]
        by_cases c2 : q1 = max s1 t1
        · rw [if_pos c2]; intro _; omega
        · rw [if_neg c2]; intro _; omega
    have ab : eqG P a b := eqG_i p
    rcases key with k | ⟨k1, k2⟩ | ⟨k1, k2⟩
    · exact h.2 u v u0 u1 v0 v1 k
    · exact E.2.2 _ _ _ (E.2.2 _ _ _ (h.2 u a u0 u1 a0 a1 k1) ab) (h.2 b v b0 b1 v0 v1 k2)
    · exact E.2.2 _ _ _ (E.2.2 _ _ _ (h.2 u b u0 u1 b0 b1 k1) (E.2.1 _ _ ab)) (h.2 a v a0 a1 v0 v1 k2)
  · rw [hv a a0 a1, hv b b0 b1]
    generalize rp f a = s1
    generalize rp f b = t1
    by_cases c1 : s1 = max s1 t1
    · rw [if_pos c1]
      by_cases c2 : t1 = max s1 t1
      · rw [if_pos c2]
      · rw [if_neg c2]; omega
    · rw [if_neg c1]
      by_cases c2 : t1 = max s1 t1
      · rw [if_pos c2]; omega
      · rw [if_neg c2]; omega
theorem sd_end {f : Nat → Int} {B : Int} {P : Int → Int → Prop} (h : sdJ f B P) (k : ∀ a b, P a b → rp f a = rp f b) : ufR f B (eqG P) := ⟨h.1, fun u v u0 u1 v0 v1 => ⟨h.2 u v u0 u1 v0 v1, fun g => g (fun p q => rp f p = rp f q) ⟨fun _ => rfl, fun _ _ e => e.symm, fun _ _ _ e1 e2 => e1.trans e2⟩ k⟩⟩
/-- all STEPS by k LAWS, the sides A and B, among STRINGS of at most m LETTERS -/
def lwP (n m k : Nat) (A B : Nat → List Int) (a b : Int) : Prop := ∃ (l : Nat) (u v : List Int), l < k ∧ okL n u ∧ okL n v ∧ u.length + (A l).length + v.length ≤ m ∧ u.length + (B l).length + v.length ≤ m ∧ a = num n (u ++ (A l ++ v)) ∧ b = num n (u ++ (B l ++ v))
/-! the class: Joins -/
theorem leastOf_s : ∀ (n : Nat) (y : KS) (v r i : Int), ldn (y.2 57) (y.1 56 1) → 0 ≤ r → 0 ≤ i → r + i < y.1 56 1 → r.toNat < n → (F_j_leastOf_s n 0 y v r i).1 = rp (y.2 57) r ∧ ldn ((F_j_leastOf_s n 0 y v r i).2.2 57) (y.1 56 1) ∧ ∀ w : Int, 0 ≤ w → w < y.1 56 1 → rp ((F_j_leastOf_s n 0 y v r i).2.2 57) w = rp (y.2 57) w := by
  intro n
  induction n with
  | zero => intro y v r i _ _ _ _ h; omega
  | succ n ih =>
    intro y v r i h r0 i0 ri hn
    rw [F_j_leastOf_e0, if_neg (by omega)]
    by_cases c : y.2 57 r.toNat = r
    · rw [if_pos c]; exact ⟨(rp_fix c).symm, h, fun w _ _ => rfl⟩
    · rw [if_neg c]
      have h1 := h r.toNat (by omega)
      have h2 := h (y.2 57 r.toNat).toNat (by omega)
      obtain ⟨g1, g2⟩ := rp_half h (r := r.toNat) (by omega)
      have er : iU (y.2 57) r.toNat (y.2 57 (y.2 57 r.toNat).toNat) r.toNat = y.2 57 (y.2 57 r.toNat).toNat := iU_s
      have e9 : (kA y 57 r.toNat (y.2 57 (y.2 57 r.toNat).toNat)).2 57 = iU (y.2 57) r.toNat (y.2 57 (y.2 57 r.toNat).toNat) := kA_s
      rw [er]
      obtain ⟨a1, a2, a3⟩ := ih (kA y 57 r.toNat (y.2 57 (y.2 57 r.toNat).toNat)) v (y.2 57 (y.2 57 r.toNat).toNat) (i + 1) (by rw [e9]; exact g1) (by omega) (by omega) (by show _ < y.1 56 1; omega) (by omega)
      rw [e9] at a1 a3
      refine ⟨?_, a2, fun w w0 w1 => (a3 w w0 w1).trans (g2 w w0 w1)⟩
      rw [a1, g2 _ (by omega) (by omega), ← rp_step h (w := y.2 57 r.toNat) (by omega) (by omega), ← rp_step h r0 (by omega)]
theorem leastOf_x {x : KS} {v : Int} (h : ldn (x.2 57) (x.1 56 1)) (h9 : x.1 56 1 ≤ 10000) (v0 : 0 ≤ v) (v1 : v < x.1 56 1) : (F_j_leastOf x v).1 = rp (x.2 57) v ∧ ldn ((F_j_leastOf x v).2.2 57) (x.1 56 1) ∧ ∀ w : Int, 0 ≤ w → w < x.1 56 1 → rp ((F_j_leastOf x v).2.2 57) w = rp (x.2 57) w := by
  unfold F_j_leastOf
  rw [if_neg (by omega), if_pos v1]
  exact leastOf_s 10010 x v v 0 h v0 (by omega) (by omega) (by omega)
theorem joinK_x {x : KS} {a b : Int} (h : ldn (x.2 57) (x.1 56 1)) (h9 : x.1 56 1 ≤ 10000) (a0 : 0 ≤ a) (a1 : a < x.1 56 1) (b0 : 0 ≤ b) (b1 : b < x.1 56 1) : ldn ((F_j_join x a b).2.2 57) (x.1 56 1) ∧ ∀ v : Int, 0 ≤ v → v < x.1 56 1 → rp ((F_j_join x a b).2.2 57) v = if rp (x.2 57) v = max (rp (x.2 57) a) (rp (x.2 57) b) then min (rp (x.2 57) a) (rp (x.2 57) b) else rp (x.2 57) v := by
  obtain ⟨e1, j1, r1⟩ := leastOf_x h h9 a0 a1
  have m1 : (F_j_leastOf x a).2.1 56 1 = x.1 56 1 := (F_j_leastOf_fr x a).1 56 1 List.not_mem_nil
  obtain ⟨e2, j2, r2⟩ := leastOf_x (x := (F_j_leastOf x a).2) (v := b) (by rw [m1]; exact j1) (by rw [m1]; exact h9) b0 (by rw [m1]; exact b1)
  rw [m1] at j2 r2
  have rr : ∀ v : Int, 0 ≤ v → v < x.1 56 1 → rp ((F_j_leastOf (F_j_leastOf x a).2 b).2.2 57) v = rp (x.2 57) v := fun v v0 v1 => (r2 v v0 v1).trans (r1 v v0 v1)
  have e2 : (F_j_leastOf (F_j_leastOf x a).2 b).1 = rp (x.2 57) b := e2.trans (r1 b b0 b1)
  have ka := rp_ok j2 a.toNat a a0 a1 (Nat.le_refl _)
  have kb := rp_ok j2 b.toNat b b0 b1 (Nat.le_refl _)
  rw [rr a a0 a1] at ka
  rw [rr b b0 b1] at kb
  unfold F_j_join
  rw [if_neg (by omega), if_neg (by omega), if_neg (by omega), if_pos b1, e1, e2]
  generalize (F_j_leastOf (F_j_leastOf x a).2 b).2 = y at j2 rr ka kb ⊢
  by_cases c : rp (x.2 57) b ≤ rp (x.2 57) a
  · rw [if_pos c]
    obtain ⟨L1, L2⟩ := rp_link j2 kb.1 c (by omega) ka.2.2 kb.2.2
    have e9 : (kA y 57 (rp (x.2 57) a).toNat (rp (x.2 57) b)).2 57 = iU (y.2 57) (rp (x.2 57) a).toNat (rp (x.2 57) b) := kA_s
    refine ⟨by show ldn ((kA y 57 _ _).2 57) _; rw [e9]; exact L1, fun v v0 v1 => ?_⟩
    show rp ((kA y 57 _ _).2 57) v = _
    rw [e9, L2 v v0 v1, rr v v0 v1, show max (rp (x.2 57) a) (rp (x.2 57) b) = rp (x.2 57) a by omega, show min (rp (x.2 57) a) (rp (x.2 57) b) = rp (x.2 57) b by omega]
  · rw [if_neg c]
    obtain ⟨L1, L2⟩ := rp_link j2 ka.1 (by omega) (by omega) kb.2.2 ka.2.2
    have e9 : (kA y 57 (rp (x.2 57) b).toNat (rp (x.2 57) a)).2 57 = iU (y.2 57) (rp (x.2 57) b).toNat (rp (x.2 57) a) := kA_s
    refine ⟨by show ldn ((kA y 57 _ _).2 57) _; rw [e9]; exact L1, fun v v0 v1 => ?_⟩
    show rp ((kA y 57 _ _).2 57) v = _
    rw [e9, L2 v v0 v1, rr v v0 v1, show max (rp (x.2 57) a) (rp (x.2 57) b) = rp (x.2 57) b by omega, show min (rp (x.2 57) a) (rp (x.2 57) b) = rp (x.2 57) a by omega]
theorem sdK_join {x : KS} {P : Int → Int → Prop} {B : Int} (eB : x.1 56 1 = B) (h9 : B ≤ 10000) (h : sdJ (x.2 57) B P) {a b : Int} (a0 : 0 ≤ a) (a1 : a < B) (b0 : 0 ≤ b) (b1 : b < B) (p : P a b) : (F_j_join x a b).2.1 56 1 = B ∧ sdJ ((F_j_join x a b).2.2 57) B P ∧ kpJ (x.2 57) ((F_j_join x a b).2.2 57) B ∧ rp ((F_j_join x a b).2.2 57) a = rp ((F_j_join x a b).2.2 57) b := by
  have e : (F_j_join x a b).2.1 56 1 = x.1 56 1 := (F_j_join_fr x a b).1 56 1 List.not_mem_nil
  obtain ⟨j1, j2⟩ := joinK_x (x := x) (by rw [eB]; exact h.1) (by omega) a0 (by omega) b0 (by omega)
  rw [eB] at j1 j2
  exact ⟨e.trans eB, sd_join h j1 a0 a1 b0 b1 p j2⟩
/-! joinBetween: for all heads and tails -/
theorem jbt_s {w1 w2 : Nat} {P : Int → Int → Prop} {B : Int} (B9 : B ≤ 10000) {a0 b0 tl hd sA sB lA lB : Int} (t0 : 0 ≤ tl) (t9 : tl ≤ 10000) (hp : ∀ g k : Int, 0 ≤ g → g < hd → 0 ≤ k → k < tl → (0 ≤ sA + g * lA + k ∧ sA + g * lA + k < B) ∧ (0 ≤ sB + g * lB + k ∧ sB + g * lB + k < B) ∧ P (sA + g * lA + k) (sB + g * lB + k)) : ∀ n : Nat,
    (∀ (y : KS) (g : Int), y.1 56 1 = B → sdJ (y.2 57) B P → 0 ≤ g → g ≤ hd → (hd - g) * 10010 + 5 < n → (F_j_joinBetween_s w1 w2 n 0 y a0 b0 tl hd sA sB lA lB g 0).2.1 56 1 = B ∧ sdJ ((F_j_joinBetween_s w1 w2 n 0 y a0 b0 tl hd sA sB lA lB g 0).2.2 57) B P ∧ kpJ (y.2 57) ((F_j_joinBetween_s w1 w2 n 0 y a0 b0 tl hd sA sB lA lB g 0).2.2 57) B ∧ ∀ g' k' : Int, g ≤ g' → g' < hd → 0 ≤ k' → k' < tl → rp ((F_j_joinBetween_s w1 w2 n 0 y a0 b0 tl hd sA sB lA lB g 0).2.2 57) (sA + g' * lA + k') = rp ((F_j_joinBetween_s w1 w2 n 0 y a0 b0 tl hd sA sB lA lB g 0).2.2 57) (sB + g' * lB + k')) ∧
    (∀ (y : KS) (g k : Int), y.1 56 1 = B → sdJ (y.2 57) B P → 0 ≤ g → g < hd → 0 ≤ k → k ≤ tl → (hd - g - 1) * 10010 + (tl - k) + 6 < n → (F_j_joinBetween_s w1 w2 n 1 y a0 b0 tl hd sA sB lA lB g k).2.1 56 1 = B ∧ sdJ ((F_j_joinBetween_s w1 w2 n 1 y a0 b0 tl hd sA sB lA lB g k).2.2 57) B P ∧ kpJ (y.2 57) ((F_j_joinBetween_s w1 w2 n 1 y a0 b0 tl hd sA sB lA lB g k).2.2 57) B ∧ ∀ g' k' : Int, (g < g' ∨ (g' = g ∧ k ≤ k')) → g' < hd → 0 ≤ k' → k' < tl → rp ((F_j_joinBetween_s w1 w2 n 1 y a0 b0 tl hd sA sB lA lB g k).2.2 57) (sA + g' * lA + k') = rp ((F_j_joinBetween_s w1 w2 n 1 y a0 b0 tl hd sA sB lA lB g k).2.2 57) (sB + g' * lB + k')) := by
  intro n
  induction n with
  | zero => exact ⟨fun y g _ _ _ _ h => by exfalso; omega, fun y g k _ _ _ _ _ _ h => by exfalso; omega⟩
  | succ n ih =>
    refine ⟨fun y g eB h g0 g1 fu => ?_, fun y g k eB h g0 g1 k0 k1 fu => ?_⟩
    · rw [F_j_joinBetween_e0]
      by_cases c : hd ≤ g
      · rw [if_pos c]
        exact ⟨eB, h, kp_rf _ _, fun g' k' h1 h2 => by exfalso; omega⟩
      · rw [if_neg c]
        obtain ⟨r1, r2, r3, r4⟩ := ih.2 y g 0 eB h g0 (by omega) (Int.le_refl _) t0 (by omega)
        exact ⟨r1, r2, r3, fun g' k' h1 h2 h3 h4 => r4 g' k' (by omega) h2 h3 h4⟩
    · rw [F_j_joinBetween_e1]
      by_cases c : tl ≤ k
      · rw [if_pos c]
        obtain ⟨r1, r2, r3, r4⟩ := ih.1 y (g + 1) eB h (by omega) (by omega) (by omega)
        exact ⟨r1, r2, r3, fun g' k' h1 h2 h3 h4 => r4 g' k' (by omega) h2 h3 h4⟩
      · rw [if_neg c]
        obtain ⟨⟨p1, p2⟩, ⟨p3, p4⟩, p5⟩ := hp g k g0 g1 k0 (by omega)
        obtain ⟨q1, q2, q3, q4⟩ := sdK_join eB B9 h p1 p2 p3 p4 p5
        obtain ⟨r1, r2, r3, r4⟩ := ih.2 (F_j_join y (sA + g * lA + k) (sB + g * lB + k)).2 g (k + 1) q1 q2 g0 g1 (by omega) (by omega) (by omega)
        refine ⟨r1, r2, kp_tr q3 r3, fun g' k' h1 h2 h3 h4 => ?_⟩
        by_cases e : g' = g ∧ k' = k
        · rw [e.1, e.2]
          exact r3 _ _ p1 p2 p3 p4 q4
        · exact r4 g' k' (by omega) h2 h3 h4
