-- deps: B3.i
/-! makes leaves its rows in range -/
def mdW (q : Int × MS) : Prop := (∀ k : Nat, k < 301 → 0 ≤ q.2.2 32 k ∧ q.2.2 32 k ≤ 60) ∧ ∀ k : Nat, k < 18060 → 0 ≤ q.2.2 33 k ∧ q.2.2 33 k ≤ 3
theorem mdW_I {z : MS} {g : Nat} {v : Int} (h : mdI z g) : mdW (v, z) := ⟨h.2.1, h.2.2⟩
theorem mdW_41 {x y z q : MS} {v1 v2 : List Int} {ws : List (List Int)} {v : Int} (mi : mkI x y v1 v2 ws) (f : slF y z) (e : q = z) : mdW (v, q) := by
  have h := mi.2.2.2.1
  rw [e]
  unfold mdW
  rw [f.1.2 32 (by decide), f.1.2 33 (by decide)]
  exact ⟨h.2.1, h.2.2⟩
theorem mdW_E {x y : MS} {a b t : Nat} {v : Int} (ex : mkE x y a b t) : mdW (v, y) := by
  obtain ⟨v1, v2, ws, _, _, mi, _⟩ := ex
  exact mdW_I mi.2.2.2.1
set_option maxHeartbeats 4000000 in
theorem F_m_makes_q (x : MS) (a : Int) (b : Int) (ra : iR a) (rb : iR b) (sn : iR (x.1 6)) (ic : x.1 27 = 0 ∨ x.1 27 = 1) (mz : ¬ (F_m_isMachine x).1 = 0 → mzH x) (hrw : rwR x) (hs : ∀ k : Nat, k < 9 → slH x k) (hm : ∀ k : Nat, k < 301 → 0 ≤ x.2 32 k ∧ x.2 32 k ≤ 60) (hr0 : ∀ k : Nat, k < 18060 → 0 ≤ x.2 33 k ∧ x.2 33 k ≤ 3) : mdW (F_m_makes (x) (a) (b)) := by
  have L : ∀ n : Nat, (∀ (y : MS) (k9 : Int), (mkE x y a.toNat b.toNat ((2 : Int) * k9).toNat) → (mzH x) → (¬ (F_m_isMachine x).1 = 0) → ((0 ≤ a ∧ a ≤ 7) ∧ (0 ≤ b ∧ b ≤ 7)) → (0 ≤ k9) → (k9 ≤ y.1 31) → (k9 ≤ 300) → ((301 - k9) * 5 + 5 < n) → mdW (F_m_makes_s n 0 y a b k9 0)) ∧ (∀ (y : MS) (k9 : Int) (s9 : Int), (mkE x y a.toNat b.toNat ((2 : Int) * k9 + s9).toNat) → (mzH x) → (¬ (F_m_isMachine x).1 = 0) → ((0 ≤ a ∧ a ≤ 7) ∧ (0 ≤ b ∧ b ≤ 7)) → (0 ≤ k9) → (k9 < y.1 31) → (k9 < 300) → (0 ≤ s9) → (s9 ≤ 2) → ((301 - k9) * 5 + 4 - s9 < n) → mdW (F_m_makes_s n 1 y a b k9 s9)) := by
    intro n
    induction n with
    | zero =>
      refine ⟨?_, ?_⟩
      · intro y k9 ex mz0 hm1 hab k0 k1 k2 fu
        exact absurd fu (by omega)
      · intro y k9 s9 ex mz0 hm1 hab k0 k1 k2 s0 s1 fu
        exact absurd fu (by omega)
    | succ n ih =>
      refine ⟨?_, ?_⟩
      · intro y k9 ex mz0 hm1 hab k0 k1 k2 fu
        rw [F_m_makes_e0]
        have mb := mkE_b ex
        by_cases c_76 : ((y).1 31) ≤ (k9)
        · rw [if_pos c_76]
          exact mdW_E ex
        · rw [if_neg c_76]
          exact ih.2 (y) (k9) ((0 : Int)) (by rw [show ((2 : Int) * k9 + (0 : Int)) = (2 : Int) * k9 by omega]; exact ex) (mz0) (hm1) (hab) (k0) (by omega) (by omega) (by omega) (by omega) (by omega)
      · intro y k9 s9 ex mz0 hm1 hab k0 k1 k2 s0 s1 fu
        rw [F_m_makes_e1]
        have mb := mkE_b ex
        by_cases c_85 : ((2 : Int)) ≤ (s9)
        · rw [if_pos c_85]
          exact ih.1 (y) ((k9) + (1 : Int)) (by rw [show (2 : Int) * (k9 + (1 : Int)) = (2 : Int) * k9 + s9 by omega]; exact ex) (mz0) (hm1) (hab) (by omega) (by omega) (by omega) (by omega)
        · rw [if_neg c_85]
          obtain ⟨v1, v2, ws, n1, n2, mi, mc⟩ := id ex
          obtain ⟨w0, hw0⟩ := mk_w mi k0 k1
          have pp := mk_p mz0 mi k0 hw0
          have z9 : (aU (y) 1 ((9 : Int)).toNat ((0 : Int))).2 1 ((9 : Int)).toNat = 0 := by rw [yU_s]; exact iU_s
          have tA := mk_tA mz0 mi pp.2.1 pp.2.2.1 pp.2.2.2.1 pp.2.2.2.2
          have tB := mk_tB mz0 mi pp.2.1 pp.2.2.1 pp.2.2.2.1 pp.2.2.2.2
          by_cases c_121 : (s9) = (0)
          · rw [if_pos c_121]
            have t01 : (F_m_times ((F_m_put33 (aU (y) 1 ((9 : Int)).toNat ((0 : Int))) ((9 : Int)) (((60 : Int)) * (k9)) (((y).2 32) (k9).toNat)).2) ((9 : Int)) ((10 : Int))).1 = 0 ∨ (F_m_times ((F_m_put33 (aU (y) 1 ((9 : Int)).toNat ((0 : Int))) ((9 : Int)) (((60 : Int)) * (k9)) (((y).2 32) (k9).toNat)).2) ((9 : Int)) ((10 : Int))).1 = 1 := by rcases tA.2 with h9 | h9; exact Or.inl h9.1; exact Or.inr h9.1
            by_cases c_134 : ((F_m_times ((F_m_put33 (aU (y) 1 ((9 : Int)).toNat ((0 : Int))) ((9 : Int)) (((60 : Int)) * (k9)) (((y).2 32) (k9).toNat)).2) ((9 : Int)) ((10 : Int))).1) = (0)
            · rw [if_pos c_134]
              exact (by rcases tA.2 with h9 | h9; exact mdW_41 mi pp.2.1 h9.2.2; (exfalso; have h8 := h9.1; omega))
            · rw [if_neg c_134]
              obtain ⟨_, c5, d5, mi5, k5, n5⟩ := tA.2.resolve_left (fun h9 => c_134 h9.1)
              have hv : (s9 = 0 ∧ v1 = v1) ∨ (¬ s9 = 0 ∧ v1 = v2) := Or.inl ⟨c_121, rfl⟩
              have im := mk_m mi5 k5
              have im01 := mk_01 mi5 k5
              have mh := mkI_h mi5 k5
              have sl5 : s9 < 2 := by omega
              by_cases c_144 : ((F_m_isMade ((F_m_times ((F_m_put33 (aU (y) 1 ((9 : Int)).toNat ((0 : Int))) ((9 : Int)) (((60 : Int)) * (k9)) (((y).2 32) (k9).toNat)).2) ((9 : Int)) ((10 : Int))).2)).1) = (0)
              · rw [if_pos c_144]
                by_cases c_154 : (((F_m_times ((F_m_put33 (aU (y) 1 ((9 : Int)).toNat ((0 : Int))) ((9 : Int)) (((60 : Int)) * (k9)) (((y).2 32) (k9).toNat)).2) ((9 : Int)) ((10 : Int))).2).1 31) = ((300 : Int))
                · rw [if_pos c_154]
                  exact mdW_I mi5.2.2.2.1
                · rw [if_neg c_154]
                  exact ih.2 ((F_m_keepMade ((F_m_times ((F_m_put33 (aU (y) 1 ((9 : Int)).toNat ((0 : Int))) ((9 : Int)) (((60 : Int)) * (k9)) (((y).2 32) (k9).toNat)).2) ((9 : Int)) ((10 : Int))).2)).2) (k9) ((s9) + (1 : Int)) ((mkE_n k0 s0 sl5 hv n1 n2 mi5 k5 mc hw0 c5 n5 (by rcases im with h9 | h9; (exfalso; omega); exact h9.2) (by omega)).1) (mz0) (hm1) (hab) (k0) (by have h9 := (mkE_n k0 s0 sl5 hv n1 n2 mi5 k5 mc hw0 c5 n5 (by rcases im with h9 | h9; (exfalso; omega); exact h9.2) (by omega)).2; have h8 := mi.2.2.2.1.1; omega) (by omega) (by omega) (by omega) (by omega)
              · rw [if_neg c_144]
                exact ih.2 ((F_m_times ((F_m_put33 (aU (y) 1 ((9 : Int)).toNat ((0 : Int))) ((9 : Int)) (((60 : Int)) * (k9)) (((y).2 32) (k9).toNat)).2) ((9 : Int)) ((10 : Int))).2) (k9) ((s9) + (1 : Int)) (mkE_y k0 s0 sl5 hv n1 n2 mi5 mc hw0 c5 n5 (by rcases im with h9 | h9; exact h9.2; (exfalso; omega))) (mz0) (hm1) (hab) (k0) (by have h9 := mh.1; have h8 := mi.2.2.2.1.1; omega) (by omega) (by omega) (by omega) (by omega)
          · rw [if_neg c_121]
            have t01 : (F_m_times ((F_m_put33 (aU (y) 1 ((9 : Int)).toNat ((0 : Int))) ((9 : Int)) (((60 : Int)) * (k9)) (((y).2 32) (k9).toNat)).2) ((9 : Int)) ((12 : Int))).1 = 0 ∨ (F_m_times ((F_m_put33 (aU (y) 1 ((9 : Int)).toNat ((0 : Int))) ((9 : Int)) (((60 : Int)) * (k9)) (((y).2 32) (k9).toNat)).2) ((9 : Int)) ((12 : Int))).1 = 1 := by rcases tB.2 with h9 | h9; exact Or.inl h9.1; exact Or.inr h9.1
            by_cases c_134 : ((F_m_times ((F_m_put33 (aU (y) 1 ((9 : Int)).toNat ((0 : Int))) ((9 : Int)) (((60 : Int)) * (k9)) (((y).2 32) (k9).toNat)).2) ((9 : Int)) ((12 : Int))).1) = (0)
            · rw [if_pos c_134]
              exact (by rcases tB.2 with h9 | h9; exact mdW_41 mi pp.2.1 h9.2.2; (exfalso; have h8 := h9.1; omega))
            · rw [if_neg c_134]
              obtain ⟨_, c5, d5, mi5, k5, n5⟩ := tB.2.resolve_left (fun h9 => c_134 h9.1)
              have hv : (s9 = 0 ∧ v2 = v1) ∨ (¬ s9 = 0 ∧ v2 = v2) := Or.inr ⟨c_121, rfl⟩
              have im := mk_m mi5 k5
              have im01 := mk_01 mi5 k5
              have mh := mkI_h mi5 k5
              have sl5 : s9 < 2 := by omega
              by_cases c_144 : ((F_m_isMade ((F_m_times ((F_m_put33 (aU (y) 1 ((9 : Int)).toNat ((0 : Int))) ((9 : Int)) (((60 : Int)) * (k9)) (((y).2 32) (k9).toNat)).2) ((9 : Int)) ((12 : Int))).2)).1) = (0)
              · rw [if_pos c_144]
                by_cases c_154 : (((F_m_times ((F_m_put33 (aU (y) 1 ((9 : Int)).toNat ((0 : Int))) ((9 : Int)) (((60 : Int)) * (k9)) (((y).2 32) (k9).toNat)).2) ((9 : Int)) ((12 : Int))).2).1 31) = ((300 : Int))
                · rw [if_pos c_154]
                  exact mdW_I mi5.2.2.2.1
                · rw [if_neg c_154]
                  exact ih.2 ((F_m_keepMade ((F_m_times ((F_m_put33 (aU (y) 1 ((9 : Int)).toNat ((0 : Int))) ((9 : Int)) (((60 : Int)) * (k9)) (((y).2 32) (k9).toNat)).2) ((9 : Int)) ((12 : Int))).2)).2) (k9) ((s9) + (1 : Int)) ((mkE_n k0 s0 sl5 hv n1 n2 mi5 k5 mc hw0 c5 n5 (by rcases im with h9 | h9; (exfalso; omega); exact h9.2) (by omega)).1) (mz0) (hm1) (hab) (k0) (by have h9 := (mkE_n k0 s0 sl5 hv n1 n2 mi5 k5 mc hw0 c5 n5 (by rcases im with h9 | h9; (exfalso; omega); exact h9.2) (by omega)).2; have h8 := mi.2.2.2.1.1; omega) (by omega) (by omega) (by omega) (by omega)
              · rw [if_neg c_144]
                exact ih.2 ((F_m_times ((F_m_put33 (aU (y) 1 ((9 : Int)).toNat ((0 : Int))) ((9 : Int)) (((60 : Int)) * (k9)) (((y).2 32) (k9).toNat)).2) ((9 : Int)) ((12 : Int))).2) (k9) ((s9) + (1 : Int)) (mkE_y k0 s0 sl5 hv n1 n2 mi5 mc hw0 c5 n5 (by rcases im with h9 | h9; exact h9.2; (exfalso; omega))) (mz0) (hm1) (hab) (k0) (by have h9 := mh.1; have h8 := mi.2.2.2.1.1; omega) (by omega) (by omega) (by omega) (by omega)
  unfold F_m_makes
  by_cases c_4 : ((F_m_isSlot (x) (a)).1) = (0)
  · rw [if_pos c_4]
    exact ⟨hm, hr0⟩
  · rw [if_neg c_4]
    by_cases c_11 : ((F_m_isSlot (x) (b)).1) = (0)
    · rw [if_pos c_11]
      exact ⟨hm, hr0⟩
    · rw [if_neg c_11]
      obtain ⟨a0, a1⟩ := F_in_1 (by rw [← F_m_isSlot_1 x a]; exact c_4)
      obtain ⟨b0, b1⟩ := F_in_1 (by rw [← F_m_isSlot_1 x b]; exact c_11)
      by_cases c_20 : ((F_m_isMachine (x)).1) = (0)
      · rw [if_pos c_20]
        exact ⟨hm, hr0⟩
      · rw [if_neg c_20]
        have mz0 := mz c_20
        have zb := (hs a.toNat (by omega)).1
        have f0 := slF_0 hrw
        have d1 : slD (x) ((F_m_copy (x) (a) ((10 : Int))).2) 10 ∧ slK x ((F_m_copy (x) (a) ((10 : Int))).2) 10 (slM x a.toNat) := by
          have h9 := copy_D (x := x) (a := a.toNat) (b := 10) f0.2.1 (slF_H f0 (by omega) (hs a.toNat (by omega))) (by omega) (by omega)
          rw [show (a.toNat : Int) = a by omega] at h9
          exact h9
        have f1 := slD_F f0 d1.1 (by decide)
        have r1 := slH_r f1 mz0 d1.2 (by omega) (by omega)
        obtain ⟨e1, w1, kv1, nv1⟩ := red_D f1 mz0 d1.2 (by omega) (by omega)
        have g1 : slF x ((F_m_reduceAt ((F_m_copy (x) (a) ((10 : Int))).2) ((10 : Int))).2) := slD_F f1 e1 (by decide)
        have zc := (slK_H (slF_0e g1) (slF_H g1 (show b.toNat < 9 by omega) (hs b.toNat (by omega)))).1
        have d2 : slD ((F_m_reduceAt ((F_m_copy (x) (a) ((10 : Int))).2) ((10 : Int))).2) ((F_m_copy ((F_m_reduceAt ((F_m_copy (x) (a) ((10 : Int))).2) ((10 : Int))).2) (b) ((12 : Int))).2) 12 ∧ slK x ((F_m_copy ((F_m_reduceAt ((F_m_copy (x) (a) ((10 : Int))).2) ((10 : Int))).2) (b) ((12 : Int))).2) 12 (slM x b.toNat) := by
          have h9 := copy_D (x := x) (a := b.toNat) (b := 12) g1.2.1 (slF_H g1 (by omega) (hs b.toNat (by omega))) (by omega) (by omega)
          rw [show (b.toNat : Int) = b by omega] at h9
          exact h9
        have f2 := slD_F g1 d2.1 (by decide)
        have r2 := slH_r f2 mz0 d2.2 (by omega) (by omega)
        have kv1c := slD_K d2.1 (by decide) (by decide) kv1
        obtain ⟨e2, w2, kv2, nv2⟩ := red_D f2 mz0 d2.2 (by omega) (by omega)
        have g2 : slF x ((F_m_reduceAt ((F_m_copy ((F_m_reduceAt ((F_m_copy (x) (a) ((10 : Int))).2) ((10 : Int))).2) (b) ((12 : Int))).2) ((12 : Int))).2) := slD_F f2 e2 (by decide)
        have kv1d := slD_K e2 (by decide) (by decide) kv1c
        have m0 : mkI x (aU (sU ((F_m_reduceAt ((F_m_copy ((F_m_reduceAt ((F_m_copy (x) (a) ((10 : Int))).2) ((10 : Int))).2) (b) ((12 : Int))).2) ((12 : Int))).2) 31 ((0 : Int))) 1 ((9 : Int)).toNat ((0 : Int))) w1 w2 [] ∧ slK x (aU (sU ((F_m_reduceAt ((F_m_copy ((F_m_reduceAt ((F_m_copy (x) (a) ((10 : Int))).2) ((10 : Int))).2) (b) ((12 : Int))).2) ((12 : Int))).2) 31 ((0 : Int))) 1 ((9 : Int)).toNat ((0 : Int))) 9 [] := mk_0 g2 kv1d kv2 hm hr0
        have mh := mkI_h m0.1 m0.2
        have me := mkE_0 nv1 nv2 m0
        exact (L (2000)).1 ((F_m_keepMade (aU (sU ((F_m_reduceAt ((F_m_copy ((F_m_reduceAt ((F_m_copy (x) (a) ((10 : Int))).2) ((10 : Int))).2) (b) ((12 : Int))).2) ((12 : Int))).2) 31 ((0 : Int))) 1 ((9 : Int)).toNat ((0 : Int)))).2) ((0 : Int)) (me.1) (mz0) (c_20) (by omega) (by omega) (by have h9 := me.2; omega) (by omega) (by omega)
