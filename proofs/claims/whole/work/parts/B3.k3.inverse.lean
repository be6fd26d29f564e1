-- deps: B3.k2
/-! inverse: both sides -/
theorem ivC2_3 {Y : MS} (hp : plX Y) (l0 : 0 ≤ Y.1 0) {v : List Int} {i : Int} (h : ivC2 Y v i) : ivC3 Y v i := fun j hj => by
  obtain ⟨w, d, w1, w2, w3, w4, w5, w6⟩ := h j hj
  exact ⟨w, d, pth_of hp l0 w1.1 w1.2, w2, w3, w4, w5, w6⟩
theorem inverse_R {X : KS} {Y : MS} (h : Rel X Y) {a k : Int} (ra : iR a) (rk : iR k) : (F_t_inverse X a k).1 = (F_m_inverse Y a k).1 ∧ Rel (F_t_inverse X a k).2 (F_m_inverse Y a k).2 := by
  obtain ⟨ki, mv, sw, wd, sn⟩ := id h
  have mm := mach_v ki.2.2.2.2.1 sn
  have mz : ¬ (F_m_isMachine Y).1 = 0 → mzH Y := fun h9 => by
    rcases mm with m0 | m1
    · exact absurd m0.2 h9
    · exact m1.2.2.2.2.2.2.2.2.1
  have P := F_m_inverse_p2 Y a k ra rk mv.2.2.2.2.1 mv.2.2.2.2.2 mz mv.1.2.2.2.2.2.2.2.2.2.1 mv.2.1 (fun h9 => by
    rcases mm with m0 | m1
    · exact absurd m0.2 h9
    · exact m1.2.2.2.2.2.2.2.1) mv.1.2.2.2.2.2.2.2.2.2.2
  generalize F_m_inverse Y a k = q at P
  have i1 := isSlot_v X a
  have i2 := isSlot_v X k
  unfold F_t_inverse
  rcases P with ⟨c, e⟩ | ⟨⟨c1, c2⟩, P⟩
  · rw [e]
    by_cases h1 : (F_t_isSlot X a).1 = 0
    · rw [if_pos h1]; exact ⟨rfl, h⟩
    · rw [if_neg h1]
      by_cases h2 : (F_t_isSlot X k).1 = 0
      · rw [if_pos h2]; exact ⟨rfl, h⟩
      · exact absurd ⟨by omega, by omega⟩ c
  · rw [if_neg (show ¬ (F_t_isSlot X a).1 = 0 by omega), if_neg (show ¬ (F_t_isSlot X k).1 = 0 by omega)]
    rcases mm with ⟨m0, m1⟩ | ⟨m0, m1, mc⟩
    · rw [if_pos m0]
      rcases P with ⟨_, e⟩ | ⟨p1, _⟩
      · rw [e]; exact ⟨rfl, h⟩
      · exact absurd m1 p1
    · rw [if_neg (show ¬ (F_t_isProved X).1 = 0 by omega)]
      rcases P with ⟨p1, _⟩ | ⟨_, v, nv, i, p0, p2, pc, P⟩
      · rw [m1] at p1; exact absurd p1 (by decide)
      · have a8 : a.toNat < 8 := by omega
        have k8 : k.toNat < 8 := by omega
        obtain ⟨r1, _, R1, u, nu, _, _, wu, gu⟩ := run_b h m0 a8 (w2 := 73) (Or.inl rfl)
        have uv : u = v := nf_one mc.1.1 (noL_irr nu.1) (noL_irr nv.1) nu.2 nv.2
        rw [uv] at wu
        generalize F_r_run X (7 + 2 * a.toNat) 73 = Q at *
        rw [if_neg (show ¬ Q.1 = 0 by omega)]
        have plx := mc.2.2.2.2.2.2.1.1
        have l0 : 0 ≤ Y.1 0 := by have := mv.1.1; omega
        have cf := mc.1
        have pc3 := ivC2_3 plx l0 pc
        have fb := F_v_begin_fr Q.2
        have WB := wk_begin (Y := Y) (x := Q.2) mc.2.2.1.1.2.2.1 R1.1.2.2.2.2.2.2.1.2.1
        have RB : Rel (F_v_begin Q.2).2 Y := Rel_walk R1 (km_mono (by decide) (by decide) fb) WB.1.1
        have S := (inverse_s m1 mv.1.1 (v := v) (a := a) (k := k) 5000).1 (F_v_begin Q.2).2 0 ⟨RB, ⟨by rw [fb.1 73 1 (by decide)]; exact wu.1, by rw [fb.2 74 (by decide)]; exact wu.2⟩, wG_fr fb (by decide) (by decide) (by decide) gu, WB.1⟩ (by decide) (by decide) (fun _ => by rw [WB.2]; rfl) (fun h9 => absurd h9 (by decide)) (fun j hj => by exfalso; omega) (by decide)
        generalize F_t_inverse_s 5000 0 (F_v_begin Q.2).2 a k ((0 : Int)) = T at S
        obtain ⟨i', ⟨s0, s2⟩, sc, S⟩ := S
        -- both end at the same number
        have t1 : ivT Y v i' := by
          rcases S with ⟨_, _, z⟩ | ⟨w, z1, z2⟩
          · exact Or.inl z
          · refine Or.inr ⟨w, z1, ?_⟩
            rcases z2 with z2 | z2
            · exact Or.inl z2.2.2
            · exact Or.inr z2.2.1
        have t2 : ivT Y v i := by
          rcases P with ⟨_, _, z⟩ | ⟨z0, w, z1, z3, z4, z2⟩
          · exact Or.inl z
          · refine Or.inr ⟨w, ⟨z0, pth_of plx l0 z1.1 z1.2, z3, z4⟩, ?_⟩
            rcases z2 with z2 | z2
            · exact Or.inl z2.2.2
            · exact Or.inr z2.2.1
        have ei : i' = i := by
          have n1 := iv_lt cf t1 s0 pc3 p2
          have n2 := iv_lt cf t2 p0 sc s2
          omega
        rw [ei] at S
        rcases S with ⟨q1, q2, q3⟩ | ⟨w, w1, w2⟩
        · rcases P with ⟨y1, y2, _⟩ | ⟨y0, w, y1, y3, y4, _⟩
          · exact ⟨by rw [q1, y1], Rel_rdN q2 (slF_N y2)⟩
          · exact (iv_no q3 ⟨y0, pth_of plx l0 y1.1 y1.2, y3, y4⟩).elim
        · rcases P with ⟨_, _, y3⟩ | ⟨y0, w', y1, y3, y4, P⟩
          · exact (iv_no y3 w1).elim
          · have ew : w = w' := rkV_one w1.2.1 (pth_of plx l0 y1.1 y1.2) (by rw [w1.2.2.2, y4])
            rw [← ew] at P
            rcases w2 with ⟨q1, q2, q3⟩ | ⟨q1, q2, B, q3, q4, q5, q6⟩
            · rcases P with ⟨x1, x2, _⟩ | ⟨x1, _⟩
              · exact ⟨by rw [q1, x1], Rel_rdN q2 (slF_N x2)⟩
              · exfalso; omega
            · rcases P with ⟨_, _, x3⟩ | ⟨_, _, x3, x4⟩
              · exfalso; omega
              · have kw := kW_slot (i := k) (by omega) (by omega)
                have kl := kL_slot (i := k) (by omega) (by omega)
                have H := take_H (x := B) (w := 7 + 2 * k.toNat) (q := 82) (nL_b q3.1.1.1).2 kw rfl (by omega) q4 (q3.1.2.2.2.2.2.1.1 _ k8).2.1 (by rw [kl]; exact q4.1.2)
                have ft := F_w_take_fr B (7 + 2 * k.toNat) 82
                have l82 : B.1 82 1 = (w.length : Int) := by rw [← q5, wS_len]; have := q4.1; omega
                rw [q6]
                generalize F_w_take B (7 + 2 * k.toNat) 82 = D at H ft
                rw [q5] at H
                refine ⟨?_, Rel_put2 q3 k8 (km_mono (fun p hp => by rw [List.mem_singleton] at hp; rw [hp]; exact List.Mem.head _) (fun p hp => by rw [List.mem_singleton] at hp; rw [hp]; exact List.Mem.tail _ (List.Mem.tail _ (List.Mem.head _))) ft) ?_ H.2 H.1 (slC_S x4)⟩
                · show D.2.1 82 1 = q.1
                  rw [ft.1 82 1 (by intro h9; simp at h9 <;> omega), l82, x3]
                · unfold dz
                  rw [ft.1 64 4 (by intro h9; simp at h9 <;> omega), ft.1 64 5 (by intro h9; simp at h9 <;> omega)]
                  exact q3.1.2.2.2.2.2.2.1.2.2.1
