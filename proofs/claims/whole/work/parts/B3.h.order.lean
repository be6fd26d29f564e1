-- deps: B3.g
/-! order answers alike and keeps the relation -/
theorem odC_one {Y : MS} (cf : cfl Y) {v : List Int} : ∀ (i : Nat) (u w : List Int), odC Y v i u → odC Y v i w → u = w := by
  intro i
  induction i with
  | zero => intro u w h1 h2; exact h1.trans h2.symm
  | succ i ih =>
    intro u w h1 h2
    obtain ⟨a, a1, _, a2, a3⟩ := h1
    obtain ⟨b, b1, _, b2, b3⟩ := h2
    have e := ih a b a1 b1
    rw [e] at a3
    exact nf_one cf.1 (noL_irr a3.1) (noL_irr b3.1) a3.2 b3.2
theorem odC_dn {Y : MS} {v : List Int} : ∀ (k : Nat) (u : List Int), odC Y v k u → ∀ i, i < k → ∃ w, odC Y v i w ∧ (i = 0 ∨ w ≠ []) ∧ w.length + v.length ≤ 60 := by
  intro k
  induction k with
  | zero => intro u _ i hi; exfalso; omega
  | succ k ih =>
    intro u h i hi
    obtain ⟨w, w1, w0, w2, w3⟩ := h
    by_cases e : i = k
    · rw [e]; exact ⟨w, w1, w0, w2⟩
    · exact ih w w1 i (by omega)
/-- what order comes to -/
def odR (Y : MS) (v : List Int) (q : Int) : Prop := (q = -4 ∧ ∃ (i : Nat) (u : List Int), i < 100 ∧ odC Y v i u ∧ (i = 0 ∨ u ≠ []) ∧ 60 < u.length + v.length) ∨ (∃ i : Nat, 1 ≤ i ∧ i ≤ 100 ∧ q = (i : Int) ∧ odC Y v i []) ∨ (q = -9 ∧ ∃ u, odC Y v 100 u ∧ u ≠ [])
theorem od_AB {Y : MS} (cf : cfl Y) {v u : List Int} {i j : Nat} (a1 : odC Y v i u) (a2 : i = 0 ∨ u ≠ []) (a3 : 60 < u.length + v.length) (j1 : 1 ≤ j) (b : odC Y v j []) : False := by
  rcases Nat.lt_or_ge i j with c | c
  · obtain ⟨w, w1, _, w3⟩ := odC_dn j [] b i c
    rw [odC_one cf i u w a1 w1] at a3
    omega
  · have n : u ≠ [] := by
      rcases a2 with e | e
      · exfalso; omega
      · exact e
    rcases Nat.lt_or_eq_of_le c with c | c
    · obtain ⟨w, w1, w2, _⟩ := odC_dn i u a1 j c
      have e := odC_one cf j w [] w1 b
      rcases w2 with z | z
      · omega
      · exact z e
    · rw [c] at b
      exact n (odC_one cf i u [] a1 b)
theorem od_BB {Y : MS} (cf : cfl Y) {v : List Int} {i j : Nat} (i1 : 1 ≤ i) (a : odC Y v i []) (b : odC Y v j []) : ¬ i < j := fun c => by
  obtain ⟨w, w1, w2, _⟩ := odC_dn j [] b i c
  have e := odC_one cf i w [] w1 a
  rcases w2 with z | z
  · omega
  · exact z e
theorem od_BC {Y : MS} (cf : cfl Y) {v u : List Int} {i : Nat} (i1 : 1 ≤ i) (i2 : i ≤ 100) (a : odC Y v i []) (b : odC Y v 100 u) (n : u ≠ []) : False := by
  rcases Nat.lt_or_eq_of_le i2 with c | c
  · obtain ⟨w, w1, w2, _⟩ := odC_dn 100 u b i c
    have e := odC_one cf i w [] w1 a
    rcases w2 with z | z
    · omega
    · exact z e
  · rw [c] at a
    exact n (odC_one cf 100 u [] b a)
theorem od_AC {Y : MS} (cf : cfl Y) {v u w : List Int} {i : Nat} (i2 : i < 100) (a1 : odC Y v i u) (a3 : 60 < u.length + v.length) (b : odC Y v 100 w) : False := by
  obtain ⟨z, z1, _, z3⟩ := odC_dn 100 w b i i2
  rw [odC_one cf i u z a1 z1] at a3
  omega
theorem odR_one {Y : MS} (cf : cfl Y) {v : List Int} {p q : Int} (h : odR Y v p) (g : odR Y v q) : p = q := by
  rcases h with ⟨h0, i, u, h1, h2, h3, h4⟩ | ⟨i, h1, h2, h3, h4⟩ | ⟨h0, u, h1, h2⟩ <;> rcases g with ⟨g0, j, w, g1, g2, g3, g4⟩ | ⟨j, g1, g2, g3, g4⟩ | ⟨g0, w, g1, g2⟩
  · rw [h0, g0]
  · exact (od_AB cf h2 h3 h4 g1 g4).elim
  · exact (od_AC cf h1 h2 h4 g1).elim
  · exact (od_AB cf g2 g3 g4 h1 h4).elim
  · have a := od_BB cf h1 h4 g4
    have b := od_BB cf g1 g4 h4
    rw [h3, g3]
    omega
  · exact (od_BC cf h1 h2 h4 g1 g2).elim
  · exact (od_AC cf g1 g2 g4 h1).elim
  · exact (od_BC cf g1 g2 g4 h1 h2).elim
  · rw [h0, g0]
theorem order_s {Y : MS} (m1 : (F_m_isMachine Y).1 = 1) {v : List Int} {a : Int} : ∀ (n i : Nat) (Q : KS) (u : List Int), pwS Q Y v u → odC Y v i u → (i = 0 ∨ u ≠ []) → i ≤ 100 → 100 - i < n → odR Y v (F_t_order_s n 0 Q a ((i : Int) + 1)).1 ∧ Rel (F_t_order_s n 0 Q a ((i : Int) + 1)).2 Y := by
  intro n
  induction n with
  | zero => intro i Q u _ _ _ _ h; exfalso; omega
  | succ n ih =>
    intro i Q u s pc ne hi fu
    rw [F_t_order_e0]
    obtain ⟨s1, s2, s3, s4, s5⟩ := s
    by_cases c : (100 : Int) < (i : Int) + 1
    · rw [if_pos c]
      have e : i = 100 := by omega
      rw [e] at pc ne
      refine ⟨Or.inr (Or.inr ⟨rfl, u, pc, ?_⟩), s1⟩
      rcases ne with z | z
      · exfalso; omega
      · exact z
    · rw [if_neg c]
      obtain ⟨b1, b2, b3, b4, b5⟩ := pb_step s1 m1 s2 s3 (w1 := 73) (Or.inl rfl) s4 s5
      rcases b5 with ⟨c1, c2⟩ | ⟨c1, c2, dd, c3, c4⟩
      · rw [c2, if_pos rfl]
        exact ⟨Or.inl ⟨rfl, i, u, by omega, pc, ne, c1⟩, s1⟩
      · rw [if_neg (show ¬ (F_t_putBehind Q 73).1 = 0 by omega)]
        have oc : odC Y v (i + 1) dd := ⟨u, pc, ne, c1, c4⟩
        have ld := c3.1
        by_cases c5 : (F_t_putBehind Q 73).2.1 77 1 = 0
        · rw [if_pos c5]
          have e : dd = [] := List.length_eq_zero_iff.mp (by omega)
          rw [e] at oc
          exact ⟨Or.inr (Or.inl ⟨i + 1, by omega, by omega, by show (i : Int) + 1 = ((i + 1 : Nat) : Int); omega, oc⟩), b1⟩
        · rw [if_neg c5]
          have ne2 : dd ≠ [] := fun e => by rw [e] at ld; exact c5 ld
          have := ih (i + 1) (F_t_putBehind Q 73).2 dd ⟨b1, c3, b2, b4 73 v (Or.inl rfl) s4, b3 73 (Or.inl rfl) s5⟩ oc (Or.inr ne2) (by omega) (by omega)
          exact this
theorem order_R {X : KS} {Y : MS} (h : Rel X Y) {a : Int} (ra : iR a) : (F_t_order X a).1 = (F_m_order Y a).1 ∧ Rel (F_t_order X a).2 (F_m_order Y a).2 := by
  obtain ⟨ki, mv, sw, wd, sn⟩ := id h
  have mm := mach_v ki.2.2.2.2.1 sn
  have P := F_m_order_p Y a ra mv.2.2.2.2.1 mv.2.2.2.2.2 (fun h9 => by
    rcases mm with m0 | m1
    · exact absurd m0.2 h9
    · exact m1.2.2.2.2.2.2.2.2.1) mv.1.2.2.2.2.2.2.2.2.2.1 mv.2.1
  generalize F_m_order Y a = q at P
  have i1 := isSlot_v X a
  unfold F_t_order
  rcases P with ⟨c, e⟩ | ⟨c1, P⟩
  · rw [e, if_pos (show (F_t_isSlot X a).1 = 0 by omega)]
    exact ⟨rfl, h⟩
  · rw [if_neg (show ¬ (F_t_isSlot X a).1 = 0 by omega)]
    rcases mm with ⟨m0, m1⟩ | ⟨m0, m1, mc⟩
    · rw [if_pos m0]
      rcases P with ⟨_, e⟩ | ⟨p1, _⟩
      · rw [e]; exact ⟨rfl, h⟩
      · exact absurd m1 p1
    · rw [if_neg (show ¬ (F_t_isProved X).1 = 0 by omega)]
      rcases P with ⟨p1, _⟩ | ⟨_, v, nv, sf, P⟩
      · rw [m1] at p1; exact absurd p1 (by decide)
      · have a8 : a.toNat < 8 := by omega
        obtain ⟨r1, _, R1, u, nu, ou, lu, wu, gu⟩ := run_b h m0 a8 (w2 := 73) (Or.inl rfl)
        have uv : u = v := nf_one mc.1.1 (noL_irr nu.1) (noL_irr nv.1) nu.2 nv.2
        rw [uv] at wu
        generalize F_r_run X (7 + 2 * a.toNat) 73 = Q at *
        rw [if_neg (show ¬ Q.1 = 0 by omega)]
        have S := order_s m1 (v := v) (a := a) 110 0 (F_w_wipe Q.2 77).2 [] (sum_0 R1 wu gu) rfl (Or.inl rfl) (by omega) (by omega)
        have S : odR Y v (F_t_order_s 110 0 (F_w_wipe Q.2 77).2 a ((1 : Int))).1 ∧ Rel (F_t_order_s 110 0 (F_w_wipe Q.2 77).2 a ((1 : Int))).2 Y := S
        exact ⟨odR_one mc.1 S.1 P, Rel_rdN S.2 (slF_N sf)⟩
