-- deps: 30 31 32 33 34 35 36 37 38 39
/-- sums -/
def kSm (f : Nat → Int) : Nat → Int
  | 0 => 0
  | j + 1 => kSm f j + f j
theorem kSm_cg {f g : Nat → Int} : ∀ n : Nat, (∀ j, j < n → f j = g j) → kSm f n = kSm g n := by
  intro n
  induction n with
  | zero => intro _; rfl
  | succ n ih => intro h; show kSm f n + f n = kSm g n + g n; rw [ih (fun j hj => h j (by omega)), h n (by omega)]
theorem kSm_b {f : Nat → Int} {B : Int} : ∀ n : Nat, (∀ j, j < n → 0 ≤ f j ∧ f j ≤ B) → 0 ≤ kSm f n ∧ kSm f n ≤ (n : Int) * B := by
  intro n
  induction n with
  | zero => intro _; exact ⟨Int.le_refl 0, by show (0 : Int) ≤ 0 * B; omega⟩
  | succ n ih =>
    intro h
    have a := ih (fun j hj => h j (by omega))
    have b := h n (by omega)
    show 0 ≤ kSm f n + f n ∧ kSm f n + f n ≤ ((n + 1 : Nat) : Int) * B
    have e : ((n + 1 : Nat) : Int) * B = (n : Int) * B + B := by rw [Int.natCast_add, Int.add_mul]; simp
    omega
/-- what a LETTER adds to the ways from a STATE -/
def kf (x : KS) (g : Nat → Int) (s : Nat) (z : Nat) : Int := if (F_a_step x (s : Int) (z : Int)).1 < 0 then 0 else g (F_a_step x (s : Int) (z : Int)).1.toNat
/-- the ways of k LETTERS from a STATE -/
def kWn (x : KS) : Nat → Nat → Int
  | 0, _ => 1
  | k + 1, s => kSm (kf x (kWn x k) s) (x.1 1 2).toNat
/-- where a LETTER leads is a STATE -/
def maS (x : KS) : Prop := ∀ s z : Int, 0 ≤ s → s < x.1 64 7 → 0 ≤ z → z < x.1 1 2 → (F_a_step x s z).1 < x.1 64 7
def dz (x : KS) : Prop := kWs (x.1 64 4) ≠ kWs (x.1 64 5)
theorem F_a_step_cg {x y : KS} (h1 : y.1 1 2 = x.1 1 2) (h2 : y.1 64 7 = x.1 64 7) (h3 : y.2 66 = x.2 66) (s z : Int) : (F_a_step y s z).1 = (F_a_step x s z).1 := by
  unfold F_a_step
  rw [h1, h2, h3]
  repeat' split
  all_goals rfl
theorem kf_cg {x y : KS} (h1 : y.1 1 2 = x.1 1 2) (h2 : y.1 64 7 = x.1 64 7) (h3 : y.2 66 = x.2 66) (g : Nat → Int) (s z : Nat) : kf y g s z = kf x g s z := by
  unfold kf
  rw [F_a_step_cg h1 h2 h3]
theorem kf_g {x : KS} (ms : maS x) {g g' : Nat → Int} (hg : ∀ j : Nat, (j : Int) < x.1 64 7 → g j = g' j) {s z : Nat} (hs : (s : Int) < x.1 64 7) (hz : (z : Int) < x.1 1 2) : kf x g s z = kf x g' s z := by
  unfold kf
  have := ms s z (by omega) hs (by omega) hz
  split
  · rfl
  · exact hg _ (by omega)
theorem kWn_cg {x y : KS} (h1 : y.1 1 2 = x.1 1 2) (h2 : y.1 64 7 = x.1 64 7) (h3 : y.2 66 = x.2 66) : ∀ k s : Nat, kWn y k s = kWn x k s := by
  intro k
  induction k with
  | zero => intro s; rfl
  | succ k ih =>
    intro s
    show kSm (kf y (kWn y k) s) (y.1 1 2).toNat = kSm (kf x (kWn x k) s) (x.1 1 2).toNat
    rw [h1, show kWn y k = kWn x k from funext ih]
    exact kSm_cg _ (fun j _ => kf_cg h1 h2 h3 _ _ _)
theorem kWn_b {x : KS} (l2 : 1 ≤ x.1 1 2 ∧ x.1 1 2 ≤ 4) : ∀ k s : Nat, 0 ≤ kWn x k s ∧ kWn x k s ≤ 4 ^ k := by
  intro k
  induction k with
  | zero => intro s; exact ⟨by show (0 : Int) ≤ 1; decide, by show (1 : Int) ≤ 1; decide⟩
  | succ k ih =>
    intro s
    have h := kSm_b (f := kf x (kWn x k) s) (B := 4 ^ k) (x.1 1 2).toNat (fun j _ => by
      unfold kf
      split
      · exact ⟨Int.le_refl 0, Int.le_trans (ih 0).1 (ih 0).2⟩
      · exact ih _)
    refine ⟨h.1, Int.le_trans h.2 ?_⟩
    rw [Int.pow_succ, Int.mul_comm]
    exact Int.mul_le_mul_of_nonneg_left (by omega) (Int.le_trans (ih 0).1 (ih 0).2)
theorem F_a_lengthen_s_x : ∀ n : Nat,
    (∀ (y : KS) (i : Nat), dz y → i ≤ 320 → y.1 64 7 ≤ 320 → y.1 1 2 ≤ 4 → (320 - (i : Int)) * 10 + 8 < n →
      (F_a_lengthen_s n 0 y (i : Int) 0 0).2.1 64 4 = y.1 64 5 ∧ (F_a_lengthen_s n 0 y (i : Int) 0 0).2.1 64 5 = y.1 64 4 ∧ ∀ j : Nat, (F_a_lengthen_s n 0 y (i : Int) 0 0).2.2 (kWs (y.1 64 5)) j = if i ≤ j ∧ (j : Int) < y.1 64 7 then kSm (kf y (y.2 (kWs (y.1 64 4))) j) (y.1 1 2).toNat else y.2 (kWs (y.1 64 5)) j) ∧
    (∀ (y : KS) (i : Nat) (q : Int) (z : Nat), dz y → (i : Int) < y.1 64 7 → y.1 64 7 ≤ 320 → y.1 1 2 ≤ 4 → (z : Int) ≤ max (y.1 1 2) 0 → q = kSm (kf y (y.2 (kWs (y.1 64 4))) i) z → (320 - (i : Int)) * 10 + 6 - z < n →
      (F_a_lengthen_s n 1 y (i : Int) q (z : Int)).2.1 64 4 = y.1 64 5 ∧ (F_a_lengthen_s n 1 y (i : Int) q (z : Int)).2.1 64 5 = y.1 64 4 ∧ ∀ j : Nat, (F_a_lengthen_s n 1 y (i : Int) q (z : Int)).2.2 (kWs (y.1 64 5)) j = if i ≤ j ∧ (j : Int) < y.1 64 7 then kSm (kf y (y.2 (kWs (y.1 64 4))) j) (y.1 1 2).toNat else y.2 (kWs (y.1 64 5)) j) := by
  intro n
  induction n with
  | zero => exact ⟨fun y i _ h _ _ hn => by exfalso; omega, fun y i q z _ h h2 h4 hz _ hn => by exfalso; omega⟩
  | succ n ih =>
    refine ⟨fun y i d h h7 h4 hn => ?_, fun y i q z d h h7 h4 hz hq hn => ?_⟩
    · rw [F_a_lengthen_e0]
      by_cases c1 : y.1 64 7 ≤ (i : Int)
      · rw [if_pos c1]
        refine ⟨rfl, rfl, fun j => ?_⟩
        rw [if_neg (by omega)]
        rfl
      · rw [if_neg c1]
        exact ih.2 y i 0 0 d (by omega) h7 h4 (by omega) rfl (by omega)
    · rw [F_a_lengthen_e1]
      have ez : ((z + 1 : Nat) : Int) = (z : Int) + 1 := by omega
      by_cases c1 : y.1 1 2 ≤ (z : Int)
      · rw [if_pos c1]
        have ei : ((i + 1 : Nat) : Int) = (i : Int) + 1 := by omega
        have et : (i : Int).toNat = i := Int.toNat_natCast i
        rw [et]
        have zn : z = (y.1 1 2).toNat := by omega
        have w4 : (kA y (kWs (y.1 64 5)) i q).2 (kWs (y.1 64 4)) = y.2 (kWs (y.1 64 4)) := kA_c d
        have w6 : (kA y (kWs (y.1 64 5)) i q).2 66 = y.2 66 := kA_c (kWs_ne (by decide) (by decide))
        have w5 : (kA y (kWs (y.1 64 5)) i q).2 (kWs (y.1 64 5)) = iU (y.2 (kWs (y.1 64 5))) i q := kA_s
        obtain ⟨a1, a2, a3⟩ := ih.1 (kA y (kWs (y.1 64 5)) i q) (i + 1) d (by omega) h7 h4 (by omega)
        rw [ei] at a1 a2 a3
        refine ⟨a1, a2, fun j => ?_⟩
        have a3j := a3 j
        rw [show (kA y (kWs (y.1 64 5)) i q).1 = y.1 from rfl] at a3j
        rw [w4, w5] at a3j
        rw [a3j]
        by_cases c2 : j = i
        · subst c2
          rw [if_neg (by omega), iU_s, if_pos ⟨Nat.le_refl _, h⟩, hq, zn]
        · rw [iU_n c2]
          by_cases c3 : i ≤ j ∧ (j : Int) < y.1 64 7
          · rw [if_pos c3, if_pos (by omega)]
            exact kSm_cg _ (fun l _ => kf_cg (x := y) (y := kA y (kWs (y.1 64 5)) i q) rfl rfl w6 _ _ _)
          · rw [if_neg c3, if_neg (by omega)]
      · rw [if_neg c1]
        by_cases c2 : (F_a_step y (i : Int) (z : Int)).1 < 0
        · rw [if_pos c2, ← ez]
          refine ih.2 y i q (z + 1) d h h7 h4 (by omega) ?_ (by omega)
          show q = kSm _ z + kf y _ i z
          rw [← hq]
          have e0 : kf y (y.2 (kWs (y.1 64 4))) i z = 0 := by unfold kf; rw [if_pos c2]
          rw [e0]; omega
        · rw [if_neg c2, ← ez]
          refine ih.2 y i _ (z + 1) d h h7 h4 (by omega) ?_ (by omega)
          show _ = kSm _ z + kf y _ i z
          rw [← hq]
          unfold kf
          rw [if_neg c2]
theorem F_a_lengthen_x {x : KS} (d : dz x) (ma : maR x) (l2 : 1 ≤ x.1 1 2 ∧ x.1 1 2 ≤ 4) : (F_a_lengthen x).2.1 64 4 = x.1 64 5 ∧ (F_a_lengthen x).2.1 64 5 = x.1 64 4 ∧ ∀ j : Nat, (j : Int) < x.1 64 7 → (F_a_lengthen x).2.2 (kWs (x.1 64 5)) j = kSm (kf x (x.2 (kWs (x.1 64 4))) j) (x.1 1 2).toNat := by
  obtain ⟨a1, a2, a3⟩ := (F_a_lengthen_s_x 4000).1 x 0 d (by decide) ma.1.2 l2.2 (by decide)
  exact ⟨a1, a2, fun j hj => (a3 j).trans (if_pos ⟨Nat.zero_le j, hj⟩)⟩
/-- what stays over lengthen and countWays -/
def wyK (x y : KS) : Prop := y.1 1 2 = x.1 1 2 ∧ y.1 64 7 = x.1 64 7 ∧ y.2 66 = x.2 66 ∧ dz y
theorem maS_k {x y : KS} (h : wyK x y) (ms : maS x) : maS y := by
  obtain ⟨h1, h2, h3, _⟩ := h
  intro s z
  rw [F_a_step_cg h1 h2 h3, h1, h2]
  exact ms s z
theorem F_a_lengthen_k {x : KS} (d : dz x) (ma : maR x) (l2 : 1 ≤ x.1 1 2 ∧ x.1 1 2 ≤ 4) : wyK x (F_a_lengthen x).2 := by
  have fr := F_a_lengthen_fr x
  obtain ⟨a1, a2, _⟩ := F_a_lengthen_x d ma l2
  refine ⟨fr.1 1 2 (by decide), fr.1 64 7 (by decide), fr.2 66 (by decide), ?_⟩
  unfold dz
  rw [a1, a2]
  exact Ne.symm d
theorem F_a_countWays_s_x {x : KS} (ma : maR x) (l2 : 1 ≤ x.1 1 2 ∧ x.1 1 2 ≤ 4) (ms : maS x) (v : Int) (v0 : 0 ≤ v) (v1 : v ≤ 100) : ∀ n : Nat,
    (∀ (y : KS) (i : Nat), wyK x y → maR y → (i : Int) ≤ max (x.1 64 7) 0 → (∀ j : Nat, j < i → y.2 (kWs (y.1 64 4)) j = 1) → 110 + 320 - (i : Int) < n → wyK x (F_a_countWays_s n 0 y v (i : Int)).2 ∧ ∀ j : Nat, (j : Int) < x.1 64 7 → (F_a_countWays_s n 0 y v (i : Int)).2.2 (kWs ((F_a_countWays_s n 0 y v (i : Int)).2.1 64 4)) j = kWn x v.toNat j) ∧
    (∀ (y : KS) (k : Nat), wyK x y → maR y → (k : Int) ≤ v → (∀ j : Nat, (j : Int) < x.1 64 7 → y.2 (kWs (y.1 64 4)) j = kWn x k j) → 100 - (k : Int) < n → wyK x (F_a_countWays_s n 1 y v (k : Int)).2 ∧ ∀ j : Nat, (j : Int) < x.1 64 7 → (F_a_countWays_s n 1 y v (k : Int)).2.2 (kWs ((F_a_countWays_s n 1 y v (k : Int)).2.1 64 4)) j = kWn x v.toNat j) := by
  have m1 := ma.1
  intro n
  induction n with
  | zero => exact ⟨fun y i _ _ h _ hn => by exfalso; omega, fun y k _ _ h _ hn => by exfalso; omega⟩
  | succ n ih =>
    refine ⟨fun y i w may hi h1 hn => ?_, fun y k w may hk h1 hn => ?_⟩
    · rw [F_a_countWays_e0]
      obtain ⟨w1, w2, w3, w4⟩ := id w
      by_cases c1 : y.1 64 7 ≤ (i : Int)
      · rw [if_pos c1]
        exact ih.2 y 0 w may (by omega) (fun j hj => h1 j (by omega)) (by omega)
      · rw [if_neg c1]
        have ei : ((i + 1 : Nat) : Int) = (i : Int) + 1 := by omega
        have et : (i : Int).toNat = i := Int.toNat_natCast i
        rw [et, ← ei]
        have w66 : (kA y (kWs (y.1 64 4)) i 1).2 66 = y.2 66 := kA_c (kWs_ne (by decide) (by decide))
        refine ih.1 (kA y (kWs (y.1 64 4)) i 1) (i + 1) ⟨w1, w2, w66.trans w3, w4⟩ ⟨may.1, ?_, ?_⟩ (by omega) (fun j hj => ?_) (by omega)
        · rw [show (kA y (kWs (y.1 64 4)) i 1).2 65 = y.2 65 from kA_c (kWs_ne (by decide) (by decide))]; exact may.2.1
        · rw [w66]; exact may.2.2
        · show (kA y (kWs (y.1 64 4)) i 1).2 (kWs (y.1 64 4)) j = 1
          rw [kA_s]
          by_cases c2 : j = i
          · subst c2; exact iU_s
          · rw [iU_n c2]; exact h1 j (by omega)
    · rw [F_a_countWays_e1]
      obtain ⟨w1, w2, w3, w4⟩ := id w
      by_cases c1 : v ≤ (k : Int)
      · rw [if_pos c1]
        have e : v.toNat = k := by omega
        rw [e]
        exact ⟨w, h1⟩
      · rw [if_neg c1]
        have ek : ((k + 1 : Nat) : Int) = (k : Int) + 1 := by omega
        rw [← ek]
        have l2y : 1 ≤ y.1 1 2 ∧ y.1 1 2 ≤ 4 := by rw [w1]; exact l2
        obtain ⟨b1, b2, b3, b4⟩ := F_a_lengthen_k w4 may l2y
        obtain ⟨a1, a2, a3⟩ := F_a_lengthen_x w4 may l2y
        refine ih.2 (F_a_lengthen y).2 (k + 1) ⟨b1.trans w1, b2.trans w2, b3.trans w3, b4⟩ (maR_of (F_a_lengthen_fr y) (by decide) (by decide) (by decide) may) (by omega) (fun j hj => ?_) (by omega)
        rw [a1, a3 j (by omega)]
        show kSm _ _ = kSm (kf x (kWn x k) j) (x.1 1 2).toNat
        rw [w1]
        refine kSm_cg _ (fun l hl => ?_)
        rw [kf_cg w1 w2 w3]
        exact kf_g ms h1 hj (by omega)
theorem F_a_countWays_x {x : KS} (ma : maR x) (l2 : 1 ≤ x.1 1 2 ∧ x.1 1 2 ≤ 4) (ms : maS x) (d : dz x) {v : Int} (v0 : 0 ≤ v) (v1 : v ≤ 100) : wyK x (F_a_countWays x v).2 ∧ ∀ j : Nat, (j : Int) < x.1 64 7 → (F_a_countWays x v).2.2 (kWs ((F_a_countWays x v).2.1 64 4)) j = kWn x v.toNat j := by
  have m1 := ma.1
  exact (F_a_countWays_s_x ma l2 ms v v0 v1 500).1 x 0 ⟨rfl, rfl, rfl, d⟩ ma (by omega) (fun j hj => absurd hj (by omega)) (by decide)
