-- deps: B3.f
/-! power and order answer alike and keep the relation -/
theorem mc_of {Q : KS} {Y : MS} (h : Rel Q Y) (m1 : (F_m_isMachine Y).1 = 1) : mcE Q Y ∧ (F_t_isProved Q).1 = 1 ∧ Q.1 0 16 = 1 := by
  rcases mach_v h.1.2.2.2.2.1 h.2.2.2.2 with ⟨_, n1⟩ | ⟨n0, _, n2⟩
  · rw [m1] at n1; exact absurd n1 (by decide)
  · refine ⟨n2, n0, ?_⟩
    rcases h.1.2.2.2.2.1.2.2.1 with e | e
    · exact absurd e (prov_1 n0).2
    · exact e
theorem pb_step {Q : KS} {Y : MS} (h : Rel Q Y) (m1 : (F_m_isMachine Y).1 = 1) {u v : List Int} (w77 : wL Q 77 u) (g77 : wG Q 77) {w1 : Nat} (h1 : w1 = 73 ∨ w1 = 75) (wv : wL Q w1 v) (gv : wG Q w1) : Rel (F_t_putBehind Q w1).2 Y ∧ wG (F_t_putBehind Q w1).2 77 ∧ (∀ w, w = 73 ∨ w = 75 → wG Q w → wG (F_t_putBehind Q w1).2 w) ∧ (∀ w x, w = 73 ∨ w = 75 → wL Q w x → wL (F_t_putBehind Q w1).2 w x) ∧ ((60 < u.length + v.length ∧ F_t_putBehind Q w1 = (0, Q)) ∨ (u.length + v.length ≤ 60 ∧ (F_t_putBehind Q w1).1 = 1 ∧ ∃ d, wL (F_t_putBehind Q w1).2 77 d ∧ nfP Y (u ++ v) d)) := by
  obtain ⟨ki, mv, sw, wd, sn⟩ := id h
  obtain ⟨mc, p1, p16⟩ := mc_of h m1
  have ok := ki.2.2.2.2.1.2.2.2 p16
  have hw : kW w1 = true := by rcases h1 with e | e <;> rw [e] <;> rfl
  have X1 := (putBehind_x ok g77 hw (by omega) gv).1
  have X2 := (putBehind_x ok g77 hw (by omega) gv).2.1
  have X3 := (putBehind_x ok g77 hw (by omega) gv).2.2.1
  have X4 := (putBehind_x ok g77 hw (by omega) gv).2.2.2.1
  have X5 := (putBehind_x ok g77 hw (by omega) gv).2.2.2.2
  have f := F_t_putBehind_fr Q w1
  have kj := ki.2.2.2.2.2.2.1
  have kd := ki.2.2.2.1
  have lu := w77.1
  have lv := wv.1
  have R : Rel (F_t_putBehind Q w1).2 Y := by
    refine Rel_gen h f (by unfold okS; decide) (by unfold okA; decide) ?_ (fun _ _ h9 => ?_) (fun _ _ => X1) (KB_ok X1) ⟨?_, ?_, X2.2.1⟩ (KH_g f (by decide) (by decide) ki.2.2.2.2.2.1) (KJ_g f (by decide) (by decide) kj) (sm_rf [] [] Y) nil_a nil_a (fun q => q) (fun _ _ _ _ => rfl) (fun q => q) mv (wdE_g f (by decide) (by decide) wd)
    · unfold jnR
      rw [f.1 56 1 (by decide) (by decide), f.2 57 (by decide) (by decide)]
      exact ki.1.2.1
    · rw [f.2 57 (by decide) (by decide)]; exact ⟨h9, fun _ _ _ => rfl⟩
    · rw [f.2 74 (by decide) (by decide)]; exact kd.1
    · rw [f.2 76 (by decide) (by decide)]; exact kd.2.1
  refine ⟨R, X2, fun w hw9 g => ?_, fun w x hw9 wl => ?_, ?_⟩
  · rcases hw9 with e | e <;> rw [e] at g ⊢
    · exact X3 73 rfl (by decide) (by decide) g
    · exact X3 75 rfl (by decide) (by decide) g
  · rcases hw9 with e | e <;> rw [e] at wl ⊢
    · exact ⟨by rw [f.1 73 1 (by decide) (by decide)]; exact wl.1, by rw [f.2 74 (by decide) (by decide)]; exact wl.2⟩
    · exact ⟨by rw [f.1 75 1 (by decide) (by decide)]; exact wl.1, by rw [f.2 76 (by decide) (by decide)]; exact wl.2⟩
  · by_cases c : 60 < u.length + v.length
    · exact Or.inl ⟨c, X4 (by omega)⟩
    · obtain ⟨y1, V, y2, _, _, y5, y6⟩ := X5 (by omega)
      rw [wL_S w77, wL_S wv] at y5
      obtain ⟨e1, e2⟩ := mc.2.2.2.2.2.2.2
      exact Or.inr ⟨by omega, y1, V, y2, by rw [← e1]; exact noL_c (fun r hr => (e2 r hr).1) y6, by rw [← e1]; exact rch_c e2 y5⟩
theorem pwC_one {Y : MS} (cf : cfl Y) {v : List Int} : ∀ (i : Nat) (u w : List Int), pwC Y v i u → pwC Y v i w → u = w := by
  intro i
  induction i with
  | zero => intro u w h1 h2; exact h1.trans h2.symm
  | succ i ih =>
    intro u w h1 h2
    obtain ⟨a, a1, a2, a3⟩ := h1
    obtain ⟨b, b1, b2, b3⟩ := h2
    have e := ih a b a1 b1
    rw [e] at a3
    exact nf_one cf.1 (noL_irr a3.1) (noL_irr b3.1) a3.2 b3.2
theorem pwC_dn {Y : MS} {v : List Int} : ∀ (k : Nat) (u : List Int), pwC Y v k u → ∀ i, i < k → ∃ w, pwC Y v i w ∧ w.length + v.length ≤ 60 := by
  intro k
  induction k with
  | zero => intro u _ i hi; exfalso; omega
  | succ k ih =>
    intro u h i hi
    obtain ⟨w, w1, w2, w3⟩ := h
    by_cases e : i = k
    · rw [e]; exact ⟨w, w1, w2⟩
    · exact ih w w1 i (by omega)
/-- while powers are made -/
def pwS (Q : KS) (Y : MS) (v u : List Int) : Prop := Rel Q Y ∧ wL Q 77 u ∧ wG Q 77 ∧ wL Q 73 v ∧ wG Q 73
def pwK (Y : MS) (v : List Int) (k d : Nat) (q : Int × KS) : Prop := (q.1 = -4 ∧ Rel q.2 Y ∧ ∃ (i : Nat) (u : List Int), i < k ∧ pwC Y v i u ∧ 60 < u.length + v.length) ∨ ∃ (u : List Int) (Q : KS), pwC Y v k u ∧ pwS Q Y v u ∧ q = ((F_w_take Q (7 + 2 * d) 77).2.1 77 1, (F_w_take Q (7 + 2 * d) 77).2)
theorem power_s {Y : MS} (m1 : (F_m_isMachine Y).1 = 1) {v : List Int} {a d : Int} {k : Nat} : ∀ (n i : Nat) (Q : KS) (u : List Int), pwS Q Y v u → pwC Y v i u → i ≤ k → k - i < n → pwK Y v k d.toNat (F_t_power_s n 0 Q a (k : Int) d (i : Int)) := by
  intro n
  induction n with
  | zero => intro i Q u _ _ _ h; exfalso; omega
  | succ n ih =>
    intro i Q u s pc hi fu
    rw [F_t_power_e0]
    by_cases c : (k : Int) ≤ (i : Int)
    · rw [if_pos c]
      have e : i = k := by omega
      rw [e] at pc
      exact Or.inr ⟨u, Q, pc, s, rfl⟩
    · rw [if_neg c]
      obtain ⟨s1, s2, s3, s4, s5⟩ := s
      obtain ⟨b1, b2, b3, b4, b5⟩ := pb_step s1 m1 s2 s3 (w1 := 73) (Or.inl rfl) s4 s5
      rcases b5 with ⟨c1, c2⟩ | ⟨c1, c2, dd, c3, c4⟩
      · rw [c2, if_pos rfl]
        exact Or.inl ⟨rfl, s1, i, u, by omega, pc, c1⟩
      · rw [if_neg (show ¬ (F_t_putBehind Q 73).1 = 0 by omega)]
        have := ih (i + 1) (F_t_putBehind Q 73).2 dd ⟨b1, c3, b2, b4 73 v (Or.inl rfl) s4, b3 73 (Or.inl rfl) s5⟩ ⟨u, pc, c1, c4⟩ (by omega) (by omega)
        exact this
/-- the first steps of power, order -/
theorem sum_0 {Q : KS} {Y : MS} (h : Rel Q Y) {v : List Int} (wv : wL Q 73 v) (gv : wG Q 73) : pwS (F_w_wipe Q 77).2 Y v [] := by
  have f := F_w_wipe_fr Q 77
  obtain ⟨ki, mv, sw, wd, sn⟩ := id h
  have f2 := gm_of f
  have kd := ki.2.2.2.1
  have W := wipe_G (x := Q) (w := 77) kd.2.2
  have R : Rel (F_w_wipe Q 77).2 Y := by
    refine Rel_gen h f2 (by unfold okS; decide) nil_a ?_ (fun _ _ h9 => ⟨h9, fun _ _ _ => rfl⟩) (fun _ ok => rOK_fr f (by unfold rSs sMs; decide) nil_a ok) (KB_k f (by decide) nil_a ki.2.1) kd (KH_g f2 (by decide) nil_a ki.2.2.2.2.2.1) (KJ_g f2 (by decide) nil_a ki.2.2.2.2.2.2.1) (sm_rf [] [] Y) nil_a nil_a (fun q => q) (fun _ _ _ _ => rfl) (fun q => q) mv (wdE_g f2 (by decide) nil_a wd)
    unfold jnR
    rw [f.1 56 1 (by decide)]
    exact ki.1.2.1
  exact ⟨R, W.2, W.1, ⟨by rw [f.1 73 1 (by decide)]; exact wv.1, wv.2⟩, wG_fr f (by decide) (by intro h9; simp at h9) (by decide) gv⟩
theorem power_R {X : KS} {Y : MS} (h : Rel X Y) {a k d : Int} (ra : iR a) (rk : iR k) (rd : iR d) : (F_t_power X a k d).1 = (F_m_power Y a k d).1 ∧ Rel (F_t_power X a k d).2 (F_m_power Y a k d).2 := by
  obtain ⟨ki, mv, sw, wd, sn⟩ := id h
  have mm := mach_v ki.2.2.2.2.1 sn
  have P := F_m_power_p Y a k d ra rk rd mv.2.2.2.2.1 mv.2.2.2.2.2 (fun h9 => by
    rcases mm with m0 | m1
    · exact absurd m0.2 h9
    · exact m1.2.2.2.2.2.2.2.2.1) mv.1.2.2.2.2.2.2.2.2.2.1 mv.2.1
  generalize F_m_power Y a k d = q at P
  have i1 := isSlot_v X a
  have i2 := isSlot_v X d
  unfold F_t_power
  rcases P with ⟨c, e⟩ | ⟨⟨c1, c2⟩, P⟩
  · rw [e]
    by_cases h1 : (F_t_isSlot X a).1 = 0
    · rw [if_pos h1]; exact ⟨rfl, h⟩
    · rw [if_neg h1]
      by_cases h2 : (F_t_isSlot X d).1 = 0
      · rw [if_pos h2]; exact ⟨rfl, h⟩
      · exact absurd ⟨by omega, by omega⟩ c
  · rw [if_neg (show ¬ (F_t_isSlot X a).1 = 0 by omega), if_neg (show ¬ (F_t_isSlot X d).1 = 0 by omega)]
    rcases P with ⟨k0, e⟩ | ⟨k0, P⟩
    · rw [e]
      by_cases h1 : k < 0
      · rw [if_pos h1]; exact ⟨rfl, h⟩
      · rw [if_neg h1, if_neg (show ¬ k ≤ 100 by omega)]; exact ⟨rfl, h⟩
    · rw [if_neg (show ¬ k < 0 by omega), if_pos (show k ≤ 100 by omega)]
      rcases mm with ⟨m0, m1⟩ | ⟨m0, m1, mc⟩
      · rw [if_pos m0]
        rcases P with ⟨_, e⟩ | ⟨p1, _⟩
        · rw [e]; exact ⟨rfl, h⟩
        · exact absurd m1 p1
      · rw [if_neg (show ¬ (F_t_isProved X).1 = 0 by omega)]
        rcases P with ⟨p1, _⟩ | ⟨_, v, nv, P⟩
        · rw [m1] at p1; exact absurd p1 (by decide)
        · have a8 : a.toNat < 8 := by omega
          obtain ⟨r1, _, R1, u, nu, ou, lu, wu, gu⟩ := run_b h m0 a8 (w2 := 73) (Or.inl rfl)
          have uv : u = v := nf_one mc.1.1 (noL_irr nu.1) (noL_irr nv.1) nu.2 nv.2
          rw [uv] at wu
          generalize F_r_run X (7 + 2 * a.toNat) 73 = Q at *
          rw [if_neg (show ¬ Q.1 = 0 by omega)]
          have S := power_s m1 (v := v) (a := a) (d := d) (k := k.toNat) 110 0 (F_w_wipe Q.2 77).2 [] (sum_0 R1 wu gu) rfl (Nat.zero_le _) (by omega)
          rw [show ((k.toNat : Nat) : Int) = k by omega] at S
          have S : pwK Y v k.toNat d.toNat (F_t_power_s 110 0 (F_w_wipe Q.2 77).2 a k d ((0 : Int))) := S
          generalize F_t_power_s 110 0 (F_w_wipe Q.2 77).2 a k d ((0 : Int)) = T at S
          rcases S with ⟨t1, t2, i, w, t3, t4, t5⟩ | ⟨w, Q2, t1, t2, t3⟩
          · rcases P with ⟨p1, p2, _⟩ | ⟨w2, p1, _⟩
            · exact ⟨by rw [t1, p1], Rel_rdN t2 (slF_N p2)⟩
            · exfalso
              obtain ⟨w3, z1, z2⟩ := pwC_dn k.toNat w2 p1 i t3
              have e := pwC_one mc.1 i w w3 t4 z1
              rw [e] at t5
              omega
          · rcases P with ⟨p1, p2, i, w2, p3, p4, p5⟩ | ⟨w2, p1, p2, p3⟩
            · exfalso
              obtain ⟨w3, z1, z2⟩ := pwC_dn k.toNat w t1 i (by omega)
              have e := pwC_one mc.1 i w2 w3 p4 z1
              rw [e] at p5
              omega
            · have e := pwC_one mc.1 k.toNat w w2 t1 p1
              obtain ⟨s1, s2, s3, _⟩ := t2
              have f9 := F_w_take_fr Q2 (7 + 2 * d.toNat) 77
              rw [t3]
              refine ⟨?_, Rel_put s1 (k := d.toNat) (by omega) rfl (by decide) s2 s3 (by rw [e]; exact slC_S p3)⟩
              show (F_w_take Q2 (7 + 2 * d.toNat) 77).2.1 77 1 = q.1
              rw [f9.1 77 1 (by intro h9; simp at h9 <;> omega), s2.1, p2, e]
