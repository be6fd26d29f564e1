-- deps: 98.m
def F_p_holds_s  : Nat → Nat → KS → Int → Int → Int → Int → Int → Int → Int × KS
  | 0, _, x, _, _, _, _, _, _ => (0, x)
  | n + 1, t, x, p0, p1, p2, p3, p4, p5 => match t with
    | 0 => (fun (n0 : Int) (i : Int) => (if (n0) ≤ (i) then F_p_holds_s n 1 (x) (n0) ((0 : Int)) (0) (0) (0) (0) else (if ((16 : Int)) ≤ ((((2 : Int)) * (i)) + ((1 : Int))) then F_p_holds_s n 1 (x) (n0) ((0 : Int)) (0) (0) (0) (0) else (if ((F_p_agree ((F_w_take ((F_w_take (x) (73) (24 + 2 * (((2 : Int)) * (i)).toNat)).2) (75) (24 + 2 * ((((2 : Int)) * (i)) + ((1 : Int))).toNat)).2)).1) = (0) then ((0 : Int), (F_p_agree ((F_w_take ((F_w_take (x) (73) (24 + 2 * (((2 : Int)) * (i)).toNat)).2) (75) (24 + 2 * ((((2 : Int)) * (i)) + ((1 : Int))).toNat)).2)).2) else F_p_holds_s n 0 ((F_p_agree ((F_w_take ((F_w_take (x) (73) (24 + 2 * (((2 : Int)) * (i)).toNat)).2) (75) (24 + 2 * ((((2 : Int)) * (i)) + ((1 : Int))).toNat)).2)).2) (n0) ((i) + (1 : Int)) (0) (0) (0) (0))))) p0 p1
    | 1 => (fun (n0 : Int) (d : Int) => (if ((x).1 (58) 6) ≤ (d) then ((1 : Int), x) else F_p_holds_s n 2 (x) (n0) (d) ((F_u_spanOf (x) (d) ((1 : Int))).1) ((0 : Int)) (0) (0))) p0 p1
    | 2 => (fun (n0 : Int) (d : Int) (g : Int) (k : Int) => (if ((x).1 (58) 6) ≤ (k) then F_p_holds_s n 1 (x) (n0) ((d) + (1 : Int)) (0) (0) (0) (0) else F_p_holds_s n 3 (x) (n0) (d) (g) (k) ((F_u_spanOf (x) (k) ((1 : Int))).1) ((1 : Int)))) p0 p1 p2 p3
    | 3 => (fun (n0 : Int) (d : Int) (g : Int) (k : Int) (j9 : Int) (v : Int) => (if (g) ≤ (v) then F_p_holds_s n 4 (x) (n0) (d) (g) (k) (j9) ((0 : Int)) else (if (j9) ≤ (v) then F_p_holds_s n 4 (x) (n0) (d) (g) (k) (j9) ((0 : Int)) else (if ((F_p_meets (x) (d) (k) (v)).1) = (0) then F_p_holds_s n 3 ((F_p_meets (x) (d) (k) (v)).2) (n0) (d) (g) (k) (j9) ((v) + (1 : Int)) else (if ((F_p_agree ((F_p_meets (x) (d) (k) (v)).2)).1) = (0) then ((0 : Int), (F_p_agree ((F_p_meets (x) (d) (k) (v)).2)).2) else F_p_holds_s n 3 ((F_p_agree ((F_p_meets (x) (d) (k) (v)).2)).2) (n0) (d) (g) (k) (j9) ((v) + (1 : Int))))))) p0 p1 p2 p3 p4 p5
    | 4 => (fun (n0 : Int) (d : Int) (g : Int) (k : Int) (j9 : Int) (v : Int) => (if (d) = (k) then F_p_holds_s n 2 (x) (n0) (d) (g) ((k) + (1 : Int)) (0) (0) else (if (g) < ((v) + (j9)) then F_p_holds_s n 2 (x) (n0) (d) (g) ((k) + (1 : Int)) (0) (0) else (if ((F_p_encloses (x) (d) (k) (v)).1) = (0) then F_p_holds_s n 4 ((F_p_encloses (x) (d) (k) (v)).2) (n0) (d) (g) (k) (j9) ((v) + (1 : Int)) else (if ((F_p_agree ((F_p_encloses (x) (d) (k) (v)).2)).1) = (0) then ((0 : Int), (F_p_agree ((F_p_encloses (x) (d) (k) (v)).2)).2) else F_p_holds_s n 4 ((F_p_agree ((F_p_encloses (x) (d) (k) (v)).2)).2) (n0) (d) (g) (k) (j9) ((v) + (1 : Int))))))) p0 p1 p2 p3 p4 p5
    | _ => (0, x)
theorem F_p_holds_e0  (n : Nat) (x : KS) (n0 : Int) (i : Int) (q0 : Int) (q1 : Int) (q2 : Int) (q3 : Int) : F_p_holds_s (n + 1) 0 x n0 i q0 q1 q2 q3 = (if (n0) ≤ (i) then F_p_holds_s n 1 (x) (n0) ((0 : Int)) (0) (0) (0) (0) else (if ((16 : Int)) ≤ ((((2 : Int)) * (i)) + ((1 : Int))) then F_p_holds_s n 1 (x) (n0) ((0 : Int)) (0) (0) (0) (0) else (if ((F_p_agree ((F_w_take ((F_w_take (x) (73) (24 + 2 * (((2 : Int)) * (i)).toNat)).2) (75) (24 + 2 * ((((2 : Int)) * (i)) + ((1 : Int))).toNat)).2)).1) = (0) then ((0 : Int), (F_p_agree ((F_w_take ((F_w_take (x) (73) (24 + 2 * (((2 : Int)) * (i)).toNat)).2) (75) (24 + 2 * ((((2 : Int)) * (i)) + ((1 : Int))).toNat)).2)).2) else F_p_holds_s n 0 ((F_p_agree ((F_w_take ((F_w_take (x) (73) (24 + 2 * (((2 : Int)) * (i)).toNat)).2) (75) (24 + 2 * ((((2 : Int)) * (i)) + ((1 : Int))).toNat)).2)).2) (n0) ((i) + (1 : Int)) (0) (0) (0) (0)))) := rfl
theorem F_p_holds_e1  (n : Nat) (x : KS) (n0 : Int) (d : Int) (q0 : Int) (q1 : Int) (q2 : Int) (q3 : Int) : F_p_holds_s (n + 1) 1 x n0 d q0 q1 q2 q3 = (if ((x).1 (58) 6) ≤ (d) then ((1 : Int), x) else F_p_holds_s n 2 (x) (n0) (d) ((F_u_spanOf (x) (d) ((1 : Int))).1) ((0 : Int)) (0) (0)) := rfl
theorem F_p_holds_e2  (n : Nat) (x : KS) (n0 : Int) (d : Int) (g : Int) (k : Int) (q0 : Int) (q1 : Int) : F_p_holds_s (n + 1) 2 x n0 d g k q0 q1 = (if ((x).1 (58) 6) ≤ (k) then F_p_holds_s n 1 (x) (n0) ((d) + (1 : Int)) (0) (0) (0) (0) else F_p_holds_s n 3 (x) (n0) (d) (g) (k) ((F_u_spanOf (x) (k) ((1 : Int))).1) ((1 : Int))) := rfl
theorem F_p_holds_e3  (n : Nat) (x : KS) (n0 : Int) (d : Int) (g : Int) (k : Int) (j9 : Int) (v : Int) : F_p_holds_s (n + 1) 3 x n0 d g k j9 v = (if (g) ≤ (v) then F_p_holds_s n 4 (x) (n0) (d) (g) (k) (j9) ((0 : Int)) else (if (j9) ≤ (v) then F_p_holds_s n 4 (x) (n0) (d) (g) (k) (j9) ((0 : Int)) else (if ((F_p_meets (x) (d) (k) (v)).1) = (0) then F_p_holds_s n 3 ((F_p_meets (x) (d) (k) (v)).2) (n0) (d) (g) (k) (j9) ((v) + (1 : Int)) else (if ((F_p_agree ((F_p_meets (x) (d) (k) (v)).2)).1) = (0) then ((0 : Int), (F_p_agree ((F_p_meets (x) (d) (k) (v)).2)).2) else F_p_holds_s n 3 ((F_p_agree ((F_p_meets (x) (d) (k) (v)).2)).2) (n0) (d) (g) (k) (j9) ((v) + (1 : Int)))))) := rfl
theorem F_p_holds_e4  (n : Nat) (x : KS) (n0 : Int) (d : Int) (g : Int) (k : Int) (j9 : Int) (v : Int) : F_p_holds_s (n + 1) 4 x n0 d g k j9 v = (if (d) = (k) then F_p_holds_s n 2 (x) (n0) (d) (g) ((k) + (1 : Int)) (0) (0) else (if (g) < ((v) + (j9)) then F_p_holds_s n 2 (x) (n0) (d) (g) ((k) + (1 : Int)) (0) (0) else (if ((F_p_encloses (x) (d) (k) (v)).1) = (0) then F_p_holds_s n 4 ((F_p_encloses (x) (d) (k) (v)).2) (n0) (d) (g) (k) (j9) ((v) + (1 : Int)) else (if ((F_p_agree ((F_p_encloses (x) (d) (k) (v)).2)).1) = (0) then ((0 : Int), (F_p_agree ((F_p_encloses (x) (d) (k) (v)).2)).2) else F_p_holds_s n 4 ((F_p_agree ((F_p_encloses (x) (d) (k) (v)).2)).2) (n0) (d) (g) (k) (j9) ((v) + (1 : Int)))))) := rfl
def F_p_holds (x : KS) (n0 : Int) : Int × KS := F_p_holds_s 90100 0 (x) (n0) ((0 : Int)) (0) (0) (0) (0)
theorem F_p_holds_sle   : ∀ n : Nat, (∀ (y : KS) (v0 : Int) (v1 : Int) (v2 : Int) (v3 : Int) (v4 : Int) (v5 : Int), kLe y (F_p_holds_s n 0 y v0 v1 v2 v3 v4 v5).2) ∧ (∀ (y : KS) (v0 : Int) (v1 : Int) (v2 : Int) (v3 : Int) (v4 : Int) (v5 : Int), kLe y (F_p_holds_s n 1 y v0 v1 v2 v3 v4 v5).2) ∧ (∀ (y : KS) (v0 : Int) (v1 : Int) (v2 : Int) (v3 : Int) (v4 : Int) (v5 : Int), kLe y (F_p_holds_s n 2 y v0 v1 v2 v3 v4 v5).2) ∧ (∀ (y : KS) (v0 : Int) (v1 : Int) (v2 : Int) (v3 : Int) (v4 : Int) (v5 : Int), kLe y (F_p_holds_s n 3 y v0 v1 v2 v3 v4 v5).2) ∧ (∀ (y : KS) (v0 : Int) (v1 : Int) (v2 : Int) (v3 : Int) (v4 : Int) (v5 : Int), kLe y (F_p_holds_s n 4 y v0 v1 v2 v3 v4 v5).2) := by
  intro n
  induction n with
  | zero => exact ⟨fun y _ _ _ _ _ _ => kLe_rf _, fun y _ _ _ _ _ _ => kLe_rf _, fun y _ _ _ _ _ _ => kLe_rf _, fun y _ _ _ _ _ _ => kLe_rf _, fun y _ _ _ _ _ _ => kLe_rf _⟩
  | succ n ih =>
    refine ⟨?_, ?_, ?_, ?_, ?_⟩
    · intro y n0 i q0 q1 q2 q3
      rw [F_p_holds_e0]
      by_cases hc9 : (n0) ≤ (i)
      · rw [if_pos hc9]
        exact kLe_tr (kLe_rf _) (ih.2.1 (y) (n0) ((0 : Int)) (0) (0) (0) (0))
      · rw [if_neg hc9]
        by_cases hc9 : ((16 : Int)) ≤ ((((2 : Int)) * (i)) + ((1 : Int)))
        · rw [if_pos hc9]
          exact kLe_tr (kLe_rf _) (ih.2.1 (y) (n0) ((0 : Int)) (0) (0) (0) (0))
        · rw [if_neg hc9]
          by_cases hc9 : ((F_p_agree ((F_w_take ((F_w_take (y) (73) (24 + 2 * (((2 : Int)) * (i)).toNat)).2) (75) (24 + 2 * ((((2 : Int)) * (i)) + ((1 : Int))).toNat)).2)).1) = (0)
          · rw [if_pos hc9]
            exact (kLe_tr (kLe_tr (kLe_tr (kLe_rf _) (kLe_G (kG_of (F_w_take_fr (y) (73) (24 + 2 * (((2 : Int)) * (i)).toNat)) (by first | decide | (intro h9; simp at h9; done) | (intro h9; simp at h9; omega)) (by first | decide | (intro h9; simp at h9; done) | (intro h9; simp at h9; omega))))) (kLe_G (kG_of (F_w_take_fr ((F_w_take (y) (73) (24 + 2 * (((2 : Int)) * (i)).toNat)).2) (75) (24 + 2 * ((((2 : Int)) * (i)) + ((1 : Int))).toNat)) (by first | decide | (intro h9; simp at h9; done) | (intro h9; simp at h9; omega)) (by first | decide | (intro h9; simp at h9; done) | (intro h9; simp at h9; omega))))) (F_p_agree_le ((F_w_take ((F_w_take (y) (73) (24 + 2 * (((2 : Int)) * (i)).toNat)).2) (75) (24 + 2 * ((((2 : Int)) * (i)) + ((1 : Int))).toNat)).2)))
          · rw [if_neg hc9]
            exact kLe_tr (kLe_tr (kLe_tr (kLe_tr (kLe_rf _) (kLe_G (kG_of (F_w_take_fr (y) (73) (24 + 2 * (((2 : Int)) * (i)).toNat)) (by first | decide | (intro h9; simp at h9; done) | (intro h9; simp at h9; omega)) (by first | decide | (intro h9; simp at h9; done) | (intro h9; simp at h9; omega))))) (kLe_G (kG_of (F_w_take_fr ((F_w_take (y) (73) (24 + 2 * (((2 : Int)) * (i)).toNat)).2) (75) (24 + 2 * ((((2 : Int)) * (i)) + ((1 : Int))).toNat)) (by first | decide | (intro h9; simp at h9; done) | (intro h9; simp at h9; omega)) (by first | decide | (intro h9; simp at h9; done) | (intro h9; simp at h9; omega))))) (F_p_agree_le ((F_w_take ((F_w_take (y) (73) (24 + 2 * (((2 : Int)) * (i)).toNat)).2) (75) (24 + 2 * ((((2 : Int)) * (i)) + ((1 : Int))).toNat)).2))) (ih.1 ((F_p_agree ((F_w_take ((F_w_take (y) (73) (24 + 2 * (((2 : Int)) * (i)).toNat)).2) (75) (24 + 2 * ((((2 : Int)) * (i)) + ((1 : Int))).toNat)).2)).2) (n0) ((i) + (1 : Int)) (0) (0) (0) (0))
    · intro y n0 d q0 q1 q2 q3
      rw [F_p_holds_e1]
      by_cases hc9 : ((y).1 (58) 6) ≤ (d)
      · rw [if_pos hc9]
        exact (kLe_rf _)
      · rw [if_neg hc9]
        exact kLe_tr (kLe_rf _) (ih.2.2.1 (y) (n0) (d) ((F_u_spanOf (y) (d) ((1 : Int))).1) ((0 : Int)) (0) (0))
    · intro y n0 d g k q0 q1
      rw [F_p_holds_e2]
      by_cases hc9 : ((y).1 (58) 6) ≤ (k)
      · rw [if_pos hc9]
        exact kLe_tr (kLe_rf _) (ih.2.1 (y) (n0) ((d) + (1 : Int)) (0) (0) (0) (0))
      · rw [if_neg hc9]
        exact kLe_tr (kLe_rf _) (ih.2.2.2.1 (y) (n0) (d) (g) (k) ((F_u_spanOf (y) (k) ((1 : Int))).1) ((1 : Int)))
    · intro y n0 d g k j9 v
      rw [F_p_holds_e3]
      by_cases hc9 : (g) ≤ (v)
      · rw [if_pos hc9]
        exact kLe_tr (kLe_rf _) (ih.2.2.2.2 (y) (n0) (d) (g) (k) (j9) ((0 : Int)))
      · rw [if_neg hc9]
        by_cases hc9 : (j9) ≤ (v)
        · rw [if_pos hc9]
          exact kLe_tr (kLe_rf _) (ih.2.2.2.2 (y) (n0) (d) (g) (k) (j9) ((0 : Int)))
        · rw [if_neg hc9]
          by_cases hc9 : ((F_p_meets (y) (d) (k) (v)).1) = (0)
          · rw [if_pos hc9]
            exact kLe_tr (kLe_tr (kLe_rf _) (kLe_G (kG_of (F_p_meets_fr (y) (d) (k) (v)) (by first | decide | (intro h9; simp at h9; done) | (intro h9; simp at h9; omega)) (by first | decide | (intro h9; simp at h9; done) | (intro h9; simp at h9; omega))))) (ih.2.2.2.1 ((F_p_meets (y) (d) (k) (v)).2) (n0) (d) (g) (k) (j9) ((v) + (1 : Int)))
          · rw [if_neg hc9]
            by_cases hc9 : ((F_p_agree ((F_p_meets (y) (d) (k) (v)).2)).1) = (0)
            · rw [if_pos hc9]
              exact (kLe_tr (kLe_tr (kLe_rf _) (kLe_G (kG_of (F_p_meets_fr (y) (d) (k) (v)) (by first | decide | (intro h9; simp at h9; done) | (intro h9; simp at h9; omega)) (by first | decide | (intro h9; simp at h9; done) | (intro h9; simp at h9; omega))))) (F_p_agree_le ((F_p_meets (y) (d) (k) (v)).2)))
            · rw [if_neg hc9]
              exact kLe_tr (kLe_tr (kLe_tr (kLe_rf _) (kLe_G (kG_of (F_p_meets_fr (y) (d) (k) (v)) (by first | decide | (intro h9; simp at h9; done) | (intro h9; simp at h9; omega)) (by first | decide | (intro h9; simp at h9; done) | (intro h9; simp at h9; omega))))) (F_p_agree_le ((F_p_meets (y) (d) (k) (v)).2))) (ih.2.2.2.1 ((F_p_agree ((F_p_meets (y) (d) (k) (v)).2)).2) (n0) (d) (g) (k) (j9) ((v) + (1 : Int)))
    · intro y n0 d g k j9 v
      rw [F_p_holds_e4]
      by_cases hc9 : (d) = (k)
      · rw [if_pos hc9]
        exact kLe_tr (kLe_rf _) (ih.2.2.1 (y) (n0) (d) (g) ((k) + (1 : Int)) (0) (0))
      · rw [if_neg hc9]
        by_cases hc9 : (g) < ((v) + (j9))
        · rw [if_pos hc9]
          exact kLe_tr (kLe_rf _) (ih.2.2.1 (y) (n0) (d) (g) ((k) + (1 : Int)) (0) (0))
        · rw [if_neg hc9]
          by_cases hc9 : ((F_p_encloses (y) (d) (k) (v)).1) = (0)
          · rw [if_pos hc9]
            exact kLe_tr (kLe_tr (kLe_rf _) (kLe_G (kG_of (F_p_encloses_fr (y) (d) (k) (v)) (by first | decide | (intro h9; simp at h9; done) | (intro h9; simp at h9; omega)) (by first | decide | (intro h9; simp at h9; done) | (intro h9; simp at h9; omega))))) (ih.2.2.2.2 ((F_p_encloses (y) (d) (k) (v)).2) (n0) (d) (g) (k) (j9) ((v) + (1 : Int)))
          · rw [if_neg hc9]
            by_cases hc9 : ((F_p_agree ((F_p_encloses (y) (d) (k) (v)).2)).1) = (0)
            · rw [if_pos hc9]
              exact (kLe_tr (kLe_tr (kLe_rf _) (kLe_G (kG_of (F_p_encloses_fr (y) (d) (k) (v)) (by first | decide | (intro h9; simp at h9; done) | (intro h9; simp at h9; omega)) (by first | decide | (intro h9; simp at h9; done) | (intro h9; simp at h9; omega))))) (F_p_agree_le ((F_p_encloses (y) (d) (k) (v)).2)))
            · rw [if_neg hc9]
              exact kLe_tr (kLe_tr (kLe_tr (kLe_rf _) (kLe_G (kG_of (F_p_encloses_fr (y) (d) (k) (v)) (by first | decide | (intro h9; simp at h9; done) | (intro h9; simp at h9; omega)) (by first | decide | (intro h9; simp at h9; done) | (intro h9; simp at h9; omega))))) (F_p_agree_le ((F_p_encloses (y) (d) (k) (v)).2))) (ih.2.2.2.2 ((F_p_agree ((F_p_encloses (y) (d) (k) (v)).2)).2) (n0) (d) (g) (k) (j9) ((v) + (1 : Int)))
theorem F_p_holds_le  (x : KS) (n0 : Int) : kLe x (F_p_holds x n0).2 := by
  unfold F_p_holds
  exact kLe_tr (kLe_rf _) ((F_p_holds_sle   _).1 (x) (n0) ((0 : Int)) (0) (0) (0) (0))
theorem F_p_holds_sfr  : ∀ n : Nat, (∀ (y : KS) (v0 : Int) (v1 : Int) (v2 : Int) (v3 : Int) (v4 : Int) (v5 : Int), gfr [(73, 1), (75, 1), (70, 4), (70, 5), (64, 8)] [74, 76, 71, 72] y (F_p_holds_s n 0 y v0 v1 v2 v3 v4 v5).2) ∧ (∀ (y : KS) (v0 : Int) (v1 : Int) (v2 : Int) (v3 : Int) (v4 : Int) (v5 : Int), gfr [(73, 1), (75, 1), (70, 4), (70, 5), (64, 8)] [74, 76, 71, 72] y (F_p_holds_s n 1 y v0 v1 v2 v3 v4 v5).2) ∧ (∀ (y : KS) (v0 : Int) (v1 : Int) (v2 : Int) (v3 : Int) (v4 : Int) (v5 : Int), gfr [(73, 1), (75, 1), (70, 4), (70, 5), (64, 8)] [74, 76, 71, 72] y (F_p_holds_s n 2 y v0 v1 v2 v3 v4 v5).2) ∧ (∀ (y : KS) (v0 : Int) (v1 : Int) (v2 : Int) (v3 : Int) (v4 : Int) (v5 : Int), gfr [(73, 1), (75, 1), (70, 4), (70, 5), (64, 8)] [74, 76, 71, 72] y (F_p_holds_s n 3 y v0 v1 v2 v3 v4 v5).2) ∧ (∀ (y : KS) (v0 : Int) (v1 : Int) (v2 : Int) (v3 : Int) (v4 : Int) (v5 : Int), gfr [(73, 1), (75, 1), (70, 4), (70, 5), (64, 8)] [74, 76, 71, 72] y (F_p_holds_s n 4 y v0 v1 v2 v3 v4 v5).2) := by
  intro n
  induction n with
  | zero => exact ⟨fun y _ _ _ _ _ _ => gm_rf _ _ _, fun y _ _ _ _ _ _ => gm_rf _ _ _, fun y _ _ _ _ _ _ => gm_rf _ _ _, fun y _ _ _ _ _ _ => gm_rf _ _ _, fun y _ _ _ _ _ _ => gm_rf _ _ _⟩
  | succ n ih =>
    refine ⟨?_, ?_, ?_, ?_, ?_⟩
    · intro y n0 i q0 q1 q2 q3
      rw [F_p_holds_e0]
      by_cases hc : (n0) ≤ (i)
      · rw [if_pos hc]
        exact gm_tr ((gm_rf _ _ _)) (ih.2.1 (y) (n0) ((0 : Int)) (0) (0) (0) (0))
      · rw [if_neg hc]
        by_cases hc : ((16 : Int)) ≤ ((((2 : Int)) * (i)) + ((1 : Int)))
        · rw [if_pos hc]
          exact gm_tr ((gm_rf _ _ _)) (ih.2.1 (y) (n0) ((0 : Int)) (0) (0) (0) (0))
        · rw [if_neg hc]
          by_cases hc : ((F_p_agree ((F_w_take ((F_w_take (y) (73) (24 + 2 * (((2 : Int)) * (i)).toNat)).2) (75) (24 + 2 * ((((2 : Int)) * (i)) + ((1 : Int))).toNat)).2)).1) = (0)
          · rw [if_pos hc]
            exact (gm_tr (gm_tr (gm_tr (gm_rf _ _ _) (gm_mono (km1 (List.Mem.head _) km0) (km1 (List.Mem.head _) km0) (gm_of (F_w_take_fr (y) (73) (24 + 2 * (((2 : Int)) * (i)).toNat))))) (gm_mono (km1 (List.Mem.tail _ (List.Mem.head _)) km0) (km1 (List.Mem.tail _ (List.Mem.head _)) km0) (gm_of (F_w_take_fr ((F_w_take (y) (73) (24 + 2 * (((2 : Int)) * (i)).toNat)).2) (75) (24 + 2 * ((((2 : Int)) * (i)) + ((1 : Int))).toNat))))) (gm_mono (km1 (List.Mem.tail _ (List.Mem.tail _ (List.Mem.head _))) (km1 (List.Mem.tail _ (List.Mem.tail _ (List.Mem.tail _ (List.Mem.head _)))) (km1 (List.Mem.tail _ (List.Mem.tail _ (List.Mem.tail _ (List.Mem.tail _ (List.Mem.head _))))) (km1 (List.Mem.head _) (km1 (List.Mem.tail _ (List.Mem.head _)) km0))))) (km1 (List.Mem.tail _ (List.Mem.tail _ (List.Mem.head _))) (km1 (List.Mem.tail _ (List.Mem.tail _ (List.Mem.tail _ (List.Mem.head _)))) (km1 (List.Mem.head _) (km1 (List.Mem.tail _ (List.Mem.head _)) km0)))) (F_p_agree_fr ((F_w_take ((F_w_take (y) (73) (24 + 2 * (((2 : Int)) * (i)).toNat)).2) (75) (24 + 2 * ((((2 : Int)) * (i)) + ((1 : Int))).toNat)).2))))
          · rw [if_neg hc]
            exact gm_tr ((gm_tr (gm_tr (gm_tr (gm_rf _ _ _) (gm_mono (km1 (List.Mem.head _) km0) (km1 (List.Mem.head _) km0) (gm_of (F_w_take_fr (y) (73) (24 + 2 * (((2 : Int)) * (i)).toNat))))) (gm_mono (km1 (List.Mem.tail _ (List.Mem.head _)) km0) (km1 (List.Mem.tail _ (List.Mem.head _)) km0) (gm_of (F_w_take_fr ((F_w_take (y) (73) (24 + 2 * (((2 : Int)) * (i)).toNat)).2) (75) (24 + 2 * ((((2 : Int)) * (i)) + ((1 : Int))).toNat))))) (gm_mono (km1 (List.Mem.tail _ (List.Mem.tail _ (List.Mem.head _))) (km1 (List.Mem.tail _ (List.Mem.tail _ (List.Mem.tail _ (List.Mem.head _)))) (km1 (List.Mem.tail _ (List.Mem.tail _ (List.Mem.tail _ (List.Mem.tail _ (List.Mem.head _))))) (km1 (List.Mem.head _) (km1 (List.Mem.tail _ (List.Mem.head _)) km0))))) (km1 (List.Mem.tail _ (List.Mem.tail _ (List.Mem.head _))) (km1 (List.Mem.tail _ (List.Mem.tail _ (List.Mem.tail _ (List.Mem.head _)))) (km1 (List.Mem.head _) (km1 (List.Mem.tail _ (List.Mem.head _)) km0)))) (F_p_agree_fr ((F_w_take ((F_w_take (y) (73) (24 + 2 * (((2 : Int)) * (i)).toNat)).2) (75) (24 + 2 * ((((2 : Int)) * (i)) + ((1 : Int))).toNat)).2))))) (ih.1 ((F_p_agree ((F_w_take ((F_w_take (y) (73) (24 + 2 * (((2 : Int)) * (i)).toNat)).2) (75) (24 + 2 * ((((2 : Int)) * (i)) + ((1 : Int))).toNat)).2)).2) (n0) ((i) + (1 : Int)) (0) (0) (0) (0))
    · intro y n0 d q0 q1 q2 q3
      rw [F_p_holds_e1]
      by_cases hc : ((y).1 (58) 6) ≤ (d)
      · rw [if_pos hc]
        exact (gm_rf _ _ _)
      · rw [if_neg hc]
        exact gm_tr ((gm_rf _ _ _)) (ih.2.2.1 (y) (n0) (d) ((F_u_spanOf (y) (d) ((1 : Int))).1) ((0 : Int)) (0) (0))
    · intro y n0 d g k q0 q1
      rw [F_p_holds_e2]
      by_cases hc : ((y).1 (58) 6) ≤ (k)
      · rw [if_pos hc]
        exact gm_tr ((gm_rf _ _ _)) (ih.2.1 (y) (n0) ((d) + (1 : Int)) (0) (0) (0) (0))
      · rw [if_neg hc]
        exact gm_tr ((gm_rf _ _ _)) (ih.2.2.2.1 (y) (n0) (d) (g) (k) ((F_u_spanOf (y) (k) ((1 : Int))).1) ((1 : Int)))
    · intro y n0 d g k j9 v
      rw [F_p_holds_e3]
      by_cases hc : (g) ≤ (v)
      · rw [if_pos hc]
        exact gm_tr ((gm_rf _ _ _)) (ih.2.2.2.2 (y) (n0) (d) (g) (k) (j9) ((0 : Int)))
      · rw [if_neg hc]
        by_cases hc : (j9) ≤ (v)
        · rw [if_pos hc]
          exact gm_tr ((gm_rf _ _ _)) (ih.2.2.2.2 (y) (n0) (d) (g) (k) (j9) ((0 : Int)))
        · rw [if_neg hc]
          by_cases hc : ((F_p_meets (y) (d) (k) (v)).1) = (0)
          · rw [if_pos hc]
            exact gm_tr ((gm_tr (gm_rf _ _ _) (gm_mono (km1 (List.Mem.head _) (km1 (List.Mem.tail _ (List.Mem.head _)) km0)) (km1 (List.Mem.head _) (km1 (List.Mem.tail _ (List.Mem.head _)) km0)) (gm_of (F_p_meets_fr (y) (d) (k) (v)))))) (ih.2.2.2.1 ((F_p_meets (y) (d) (k) (v)).2) (n0) (d) (g) (k) (j9) ((v) + (1 : Int)))
          · rw [if_neg hc]
            by_cases hc : ((F_p_agree ((F_p_meets (y) (d) (k) (v)).2)).1) = (0)
            · rw [if_pos hc]
              exact (gm_tr (gm_tr (gm_rf _ _ _) (gm_mono (km1 (List.Mem.head _) (km1 (List.Mem.tail _ (List.Mem.head _)) km0)) (km1 (List.Mem.head _) (km1 (List.Mem.tail _ (List.Mem.head _)) km0)) (gm_of (F_p_meets_fr (y) (d) (k) (v))))) (gm_mono (km1 (List.Mem.tail _ (List.Mem.tail _ (List.Mem.head _))) (km1 (List.Mem.tail _ (List.Mem.tail _ (List.Mem.tail _ (List.Mem.head _)))) (km1 (List.Mem.tail _ (List.Mem.tail _ (List.Mem.tail _ (List.Mem.tail _ (List.Mem.head _))))) (km1 (List.Mem.head _) (km1 (List.Mem.tail _ (List.Mem.head _)) km0))))) (km1 (List.Mem.tail _ (List.Mem.tail _ (List.Mem.head _))) (km1 (List.Mem.tail _ (List.Mem.tail _ (List.Mem.tail _ (List.Mem.head _)))) (km1 (List.Mem.head _) (km1 (List.Mem.tail _ (List.Mem.head _)) km0)))) (F_p_agree_fr ((F_p_meets (y) (d) (k) (v)).2))))
            · rw [if_neg hc]
              exact gm_tr ((gm_tr (gm_tr (gm_rf _ _ _) (gm_mono (km1 (List.Mem.head _) (km1 (List.Mem.tail _ (List.Mem.head _)) km0)) (km1 (List.Mem.head _) (km1 (List.Mem.tail _ (List.Mem.head _)) km0)) (gm_of (F_p_meets_fr (y) (d) (k) (v))))) (gm_mono (km1 (List.Mem.tail _ (List.Mem.tail _ (List.Mem.head _))) (km1 (List.Mem.tail _ (List.Mem.tail _ (List.Mem.tail _ (List.Mem.head _)))) (km1 (List.Mem.tail _ (List.Mem.tail _ (List.Mem.tail _ (List.Mem.tail _ (List.Mem.head _))))) (km1 (List.Mem.head _) (km1 (List.Mem.tail _ (List.Mem.head _)) km0))))) (km1 (List.Mem.tail _ (List.Mem.tail _ (List.Mem.head _))) (km1 (List.Mem.tail _ (List.Mem.tail _ (List.Mem.tail _ (List.Mem.head _)))) (km1 (List.Mem.head _) (km1 (List.Mem.tail _ (List.Mem.head _)) km0)))) (F_p_agree_fr ((F_p_meets (y) (d) (k) (v)).2))))) (ih.2.2.2.1 ((F_p_agree ((F_p_meets (y) (d) (k) (v)).2)).2) (n0) (d) (g) (k) (j9) ((v) + (1 : Int)))
    · intro y n0 d g k j9 v
      rw [F_p_holds_e4]
      by_cases hc : (d) = (k)
      · rw [if_pos hc]
        exact gm_tr ((gm_rf _ _ _)) (ih.2.2.1 (y) (n0) (d) (g) ((k) + (1 : Int)) (0) (0))
      · rw [if_neg hc]
        by_cases hc : (g) < ((v) + (j9))
        · rw [if_pos hc]
          exact gm_tr ((gm_rf _ _ _)) (ih.2.2.1 (y) (n0) (d) (g) ((k) + (1 : Int)) (0) (0))
        · rw [if_neg hc]
          by_cases hc : ((F_p_encloses (y) (d) (k) (v)).1) = (0)
          · rw [if_pos hc]
            exact gm_tr ((gm_tr (gm_rf _ _ _) (gm_mono (km1 (List.Mem.head _) (km1 (List.Mem.tail _ (List.Mem.head _)) km0)) (km1 (List.Mem.head _) (km1 (List.Mem.tail _ (List.Mem.head _)) km0)) (gm_of (F_p_encloses_fr (y) (d) (k) (v)))))) (ih.2.2.2.2 ((F_p_encloses (y) (d) (k) (v)).2) (n0) (d) (g) (k) (j9) ((v) + (1 : Int)))
          · rw [if_neg hc]
            by_cases hc : ((F_p_agree ((F_p_encloses (y) (d) (k) (v)).2)).1) = (0)
            · rw [if_pos hc]
              exact (gm_tr (gm_tr (gm_rf _ _ _) (gm_mono (km1 (List.Mem.head _) (km1 (List.Mem.tail _ (List.Mem.head _)) km0)) (km1 (List.Mem.head _) (km1 (List.Mem.tail _ (List.Mem.head _)) km0)) (gm_of (F_p_encloses_fr (y) (d) (k) (v))))) (gm_mono (km1 (List.Mem.tail _ (List.Mem.tail _ (List.Mem.head _))) (km1 (List.Mem.tail _ (List.Mem.tail _ (List.Mem.tail _ (List.Mem.head _)))) (km1 (List.Mem.tail _ (List.Mem.tail _ (List.Mem.tail _ (List.Mem.tail _ (List.Mem.head _))))) (km1 (List.Mem.head _) (km1 (List.Mem.tail _ (List.Mem.head _)) km0))))) (km1 (List.Mem.tail _ (List.Mem.tail _ (List.Mem.head _))) (km1 (List.Mem.tail _ (List.Mem.tail _ (List.Mem.tail _ (List.Mem.head _)))) (km1 (List.Mem.head _) (km1 (List.Mem.tail _ (List.Mem.head _)) km0)))) (F_p_agree_fr ((F_p_encloses (y) (d) (k) (v)).2))))
            · rw [if_neg hc]
              exact gm_tr ((gm_tr (gm_tr (gm_rf _ _ _) (gm_mono (km1 (List.Mem.head _) (km1 (List.Mem.tail _ (List.Mem.head _)) km0)) (km1 (List.Mem.head _) (km1 (List.Mem.tail _ (List.Mem.head _)) km0)) (gm_of (F_p_encloses_fr (y) (d) (k) (v))))) (gm_mono (km1 (List.Mem.tail _ (List.Mem.tail _ (List.Mem.head _))) (km1 (List.Mem.tail _ (List.Mem.tail _ (List.Mem.tail _ (List.Mem.head _)))) (km1 (List.Mem.tail _ (List.Mem.tail _ (List.Mem.tail _ (List.Mem.tail _ (List.Mem.head _))))) (km1 (List.Mem.head _) (km1 (List.Mem.tail _ (List.Mem.head _)) km0))))) (km1 (List.Mem.tail _ (List.Mem.tail _ (List.Mem.head _))) (km1 (List.Mem.tail _ (List.Mem.tail _ (List.Mem.tail _ (List.Mem.head _)))) (km1 (List.Mem.head _) (km1 (List.Mem.tail _ (List.Mem.head _)) km0)))) (F_p_agree_fr ((F_p_encloses (y) (d) (k) (v)).2))))) (ih.2.2.2.2 ((F_p_agree ((F_p_encloses (y) (d) (k) (v)).2)).2) (n0) (d) (g) (k) (j9) ((v) + (1 : Int)))
theorem F_p_holds_fr (x : KS) (n0 : Int) : gfr [(73, 1), (75, 1), (70, 4), (70, 5), (64, 8)] [74, 76, 71, 72] x (F_p_holds x n0).2 := by
  unfold F_p_holds
  exact gm_tr ((gm_rf _ _ _)) ((F_p_holds_sfr  (90100)).1 (x) (n0) ((0 : Int)) (0) (0) (0) (0))
