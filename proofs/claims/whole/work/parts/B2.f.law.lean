-- deps: B2.e
/-! law answers alike and keeps the relation -/
theorem sgM_e {x y : MS} {A b c g k : Nat} (h : ∀ i, i < g → y.2 A (b + i) = x.2 k (c + i)) : sgM y A b g = (List.range g).map (fun i => x.2 k (c + i)) := List.map_congr_left (fun i hi => h i (List.mem_range.mp hi))
/-- the reference's LAWS behind law -/
theorem mlaw_L {Y z : MS} {a b n sa sb : Nat} (n8 : n < 8) (ha : Y.2 1 a = (sa : Int)) (hb : Y.2 1 b = (sb : Int)) (la : sa ≤ 12) (lb : sb ≤ 12) (z4 : z.2 4 = iU (iU (Y.2 4) (2 * n) (sa : Int)) (2 * n + 1) (sb : Int)) (z5 : ∀ t, z.2 5 t = if 24 * n + 12 ≤ t ∧ t < 24 * n + 12 + sb then Y.2 2 (128 * b + (t - (24 * n + 12))) else if 24 * n ≤ t ∧ t < 24 * n + sa then Y.2 2 (128 * a + (t - 24 * n)) else Y.2 5 t) (lz : lzR Y) : (∀ l : Nat, l < n → (z.2 4 (2 * l) = Y.2 4 (2 * l) ∧ z.2 4 (2 * l + 1) = Y.2 4 (2 * l + 1)) ∧ lwA2 z l = lwA2 Y l ∧ lwB2 z l = lwB2 Y l) ∧ (z.2 4 (2 * n) = (sa : Int) ∧ z.2 4 (2 * n + 1) = (sb : Int)) ∧ lwA2 z n = slM Y a ∧ lwB2 z n = slM Y b := by
  have s0 : z.2 4 (2 * n) = (sa : Int) := by rw [z4, iU_n (by omega), iU_s]
  have s1 : z.2 4 (2 * n + 1) = (sb : Int) := by rw [z4, iU_s]
  refine ⟨fun l hl => ?_, ⟨s0, s1⟩, ?_, ?_⟩
  · have r0 := lz (2 * l) (by omega)
    have r1 := lz (2 * l + 1) (by omega)
    have e0 : z.2 4 (2 * l) = Y.2 4 (2 * l) := by rw [z4, iU_n (by omega), iU_n (by omega)]
    have e1 : z.2 4 (2 * l + 1) = Y.2 4 (2 * l + 1) := by rw [z4, iU_n (by omega), iU_n (by omega)]
    refine ⟨⟨e0, e1⟩, ?_, ?_⟩
    · unfold lwA2
      rw [e0]
      exact sgM_e (fun i hi => by rw [z5, if_neg (by omega), if_neg (by omega)])
    · unfold lwB2
      rw [e1]
      exact sgM_e (fun i hi => by rw [z5, if_neg (by omega), if_neg (by omega)])
  · unfold lwA2 slM ltM
    rw [s0, ha, Int.toNat_natCast]
    exact sgM_e (fun i hi => by rw [z5, if_neg (by omega), if_pos (by omega), show 24 * n + i - 24 * n = i by omega])
  · unfold lwB2 slM ltM
    rw [s1, hb, Int.toNat_natCast]
    exact sgM_e (fun i hi => by rw [z5, if_pos (by omega), show 24 * n + 12 + i - (24 * n + 12) = i by omega])
theorem law_R {X : KS} {Y : MS} (h : Rel X Y) (a b : Int) : (F_t_law X a b).1 = (F_m_law Y a b).1 ∧ Rel (F_t_law X a b).2 (F_m_law Y a b).2 := by
  obtain ⟨ki, mv, sw, wd, sn⟩ := id h
  have kh := ki.2.2.2.2.2.1
  have kr := ki.2.2.2.2.2.2.2
  have kr2 : ∀ j : Nat, j < 16 → r03 (X.2 (24 + 2 * j + 1)) := fun j hj => by rw [show 24 + 2 * j + 1 = 25 + 2 * j by omega]; exact kr j hj
  have i1 := isSlot_v X a
  have i2 := isSlot_v X b
  unfold F_t_law F_m_law
  rcases mSlot_v Y a with ⟨c, d⟩ | ⟨c, d⟩
  · rw [if_pos c, if_pos (show (F_t_isSlot X a).1 = 0 by omega)]
    exact ⟨rfl, h⟩
  · rw [if_neg (show ¬ (F_m_isSlot Y a).1 = 0 by omega), if_neg (show ¬ (F_t_isSlot X a).1 = 0 by omega)]
    rcases mSlot_v Y b with ⟨c2, d2⟩ | ⟨c2, d2⟩
    · rw [if_pos c2, if_pos (show (F_t_isSlot X b).1 = 0 by omega)]
      exact ⟨rfl, h⟩
    · rw [if_neg (show ¬ (F_m_isSlot Y b).1 = 0 by omega), if_neg (show ¬ (F_t_isSlot X b).1 = 0 by omega)]
      have ga := kh.1 a.toNat (by omega)
      have gb := kh.1 b.toNat (by omega)
      have sa := mv.2.1 a.toNat (by omega)
      have sb := mv.2.1 b.toNat (by omega)
      have ea := (wd_get ga sa (wd.1 a.toNat (by omega))).1
      have eb := (wd_get gb sb (wd.1 b.toNat (by omega))).1
      have wa := wd.1 a.toNat (by omega)
      have wb := wd.1 b.toNat (by omega)
      by_cases c3 : 12 < Y.2 1 a.toNat
      · rw [if_pos c3, if_pos (show 12 < X.1 (7 + 2 * a.toNat) 1 by omega)]
        exact ⟨rfl, h⟩
      · rw [if_neg c3, if_neg (show ¬ 12 < X.1 (7 + 2 * a.toNat) 1 by omega)]
        by_cases c4 : Y.2 1 b.toNat ≤ 12
        · rw [if_pos c4, if_pos (show X.1 (7 + 2 * b.toNat) 1 ≤ 12 by omega)]
          have kc := ki.2.2.1
          have kc1 := kc.1
          by_cases c5 : Y.1 3 = 8
          · rw [if_pos c5, if_neg (by have := sw.2.1; omega)]
            exact ⟨rfl, h⟩
          · have e14 := sw.2.1
            rw [if_neg c5, if_pos (show X.1 0 14 < 8 by omega)]
            have kwa := kW_slot (i := a) (by omega) (by omega)
            have kwb := kW_slot (i := b) (by omega) (by omega)
            have sa1 := sa.1
            have sb1 := sb.1
            have ea9 : a = ((a.toNat : Nat) : Int) := by omega
            have eb9 : b = ((b.toNat : Nat) : Int) := by omega
            have ha8 : a.toNat < 8 := by omega
            have hb8 : b.toNat < 8 := by omega
            obtain ⟨n, hn⟩ : ∃ n : Nat, X.1 0 14 = (n : Int) := ⟨(X.1 0 14).toNat, by omega⟩
            have n8 : n < 8 := by omega
            have t1 : 24 + 2 * ((2 : Int) * X.1 0 14).toNat = 24 + 2 * (2 * n) := by omega
            rw [t1]
            have kw1 : kW (24 + 2 * (2 * n)) = true := by have h9 := kW_law (i := ((2 * n : Nat) : Int)) (by omega) (by omega); rw [Int.toNat_natCast] at h9; exact h9
            have kw2 : kW (24 + 2 * (2 * n + 1)) = true := by have h9 := kW_law (i := ((2 * n + 1 : Nat) : Int)) (by omega) (by omega); rw [Int.toNat_natCast] at h9; exact h9
            have kl1 : kL (24 + 2 * (2 * n)) = 12 := by have h9 := kL_law (i := ((2 * n : Nat) : Int)) (by omega) (by omega); rw [Int.toNat_natCast] at h9; exact h9
            have kl2 : kL (24 + 2 * (2 * n + 1)) = 12 := by have h9 := kL_law (i := ((2 * n + 1 : Nat) : Int)) (by omega) (by omega); rw [Int.toNat_natCast] at h9; exact h9
            have M := mlaw_x (Y := Y) (a := a.toNat) (b := b.toNat) (n := n) (sa := (Y.2 1 a.toNat).toNat) (sb := (Y.2 1 b.toNat).toNat) (by omega) (by omega) (by omega) (by omega) (by omega)
            rw [← ea9, ← eb9] at M
            generalize a.toNat = p at *
            generalize b.toNat = q at *
            obtain ⟨z, m1, m2, m3, m4⟩ := M
            rw [m1]
            have T1 := take_G (x := X) (w := 24 + 2 * (2 * n)) (q := 7 + 2 * p) kw1 kwa (by omega) ga (kr2 (2 * n) (by omega)) (by rw [kl1]; show _ ≤ ((12 : Nat) : Int); omega)
            have f1 := F_w_take_fr X (24 + 2 * (2 * n)) (7 + 2 * p)
            generalize F_w_take X (24 + 2 * (2 * n)) (7 + 2 * p) = Q1 at T1 f1
            have e1 : Q1.2.1 0 14 = (n : Int) := by rw [f1.1 0 14 (by intro h9; simp at h9 <;> omega)]; exact hn
            have t2 : 24 + 2 * ((2 : Int) * Q1.2.1 0 14 + 1).toNat = 24 + 2 * (2 * n + 1) := by omega
            rw [t2]
            have gb1 : wG Q1.2 (7 + 2 * q) := wG_fr f1 (by intro h9; simp at h9 <;> omega) (by intro h9; simp at h9 <;> omega) (by intro h9; simp at h9 <;> omega) gb
            have wb1 : wS Q1.2 (7 + 2 * q) = wS X (7 + 2 * q) := wS_fr f1 (by intro h9; simp at h9 <;> omega) (by intro h9; simp at h9 <;> omega)
            have T2 := take_G (x := Q1.2) (w := 24 + 2 * (2 * n + 1)) (q := 7 + 2 * q) kw2 kwb (by omega) gb1 (by rw [f1.2 _ (by intro h9; simp at h9 <;> omega)]; exact kr2 (2 * n + 1) (by omega)) (by rw [kl2, f1.1 (7 + 2 * q) 1 (by intro h9; simp at h9 <;> omega)]; show _ ≤ ((12 : Nat) : Int); omega)
            have f2 := F_w_take_fr Q1.2 (24 + 2 * (2 * n + 1)) (7 + 2 * q)
            generalize F_w_take Q1.2 (24 + 2 * (2 * n + 1)) (7 + 2 * q) = Q2 at T2 f2
            have e2 : Q2.2.1 0 14 = (n : Int) := by rw [f2.1 0 14 (by intro h9; simp at h9 <;> omega)]; exact e1
            rw [e2]
            have f3 : ksame [(0, 14), (0, 15), (0, 16)] [] Q2.2 (F_t_forget (kS Q2.2 0 14 ((n : Int) + 1))).2 := km_s (by decide) (km_s (by decide) (km_s (by decide) (km_rf _ _ _)))
            have x14 : (F_t_forget (kS Q2.2 0 14 ((n : Int) + 1))).2.1 0 14 = (n : Int) + 1 := by
              show (kS (kS (kS Q2.2 0 14 ((n : Int) + 1)) 0 15 0) 0 16 0).1 0 14 = _
              rw [kS_k (by decide), kS_k (by decide), kS_s]
            have x15 : (F_t_forget (kS Q2.2 0 14 ((n : Int) + 1))).2.1 0 15 = 0 := by
              show (kS (kS (kS Q2.2 0 14 ((n : Int) + 1)) 0 15 0) 0 16 0).1 0 15 = _
              rw [kS_k (by decide), kS_s]
            have x16 : (F_t_forget (kS Q2.2 0 14 ((n : Int) + 1))).2.1 0 16 = 0 := by
              show (kS (kS (kS Q2.2 0 14 ((n : Int) + 1)) 0 15 0) 0 16 0).1 0 16 = _
              rw [kS_s]
            generalize (F_t_forget (kS Q2.2 0 14 ((n : Int) + 1))).2 = X4 at f3 x14 x15 x16
            have f : ksame [(24 + 2 * (2 * n), 1), (24 + 2 * (2 * n + 1), 1), (0, 14), (0, 15), (0, 16)] [24 + 2 * (2 * n) + 1, 24 + 2 * (2 * n + 1) + 1] X X4 := km_tr (km_tr (km_mono (fun r hr => by rw [List.mem_singleton] at hr; rw [hr]; exact List.Mem.head _) (fun r hr => by rw [List.mem_singleton] at hr; rw [hr]; exact List.Mem.head _) f1) (km_mono (fun r hr => by rw [List.mem_singleton] at hr; rw [hr]; exact List.Mem.tail _ (List.Mem.head _)) (fun r hr => by rw [List.mem_singleton] at hr; rw [hr]; exact List.Mem.tail _ (List.Mem.head _)) f2)) (km_mono (fun r hr => List.mem_cons_of_mem _ (List.mem_cons_of_mem _ hr)) (fun r hr => absurd hr List.not_mem_nil) f3)
            -- the two new sides
            have A4 : wG X4 (24 + 2 * (2 * n)) := wG_fr f3 (by intro h9; simp at h9) (by intro h9; simp at h9) (by decide) (wG_fr f2 (by intro h9; simp at h9 <;> omega) (by intro h9; simp at h9 <;> omega) (by intro h9; simp at h9 <;> omega) T1.1)
            have B4 : wG X4 (24 + 2 * (2 * n + 1)) := wG_fr f3 (by intro h9; simp at h9) (by intro h9; simp at h9) (by decide) T2.1
            have As : wS X4 (24 + 2 * (2 * n)) = slM Y p := by
              rw [wS_fr f3 (by intro h9; simp at h9) (by intro h9; simp at h9), wS_fr f2 (by intro h9; simp at h9 <;> omega) (by intro h9; simp at h9 <;> omega), wL_S T1.2]
              exact wa
            have Bs : wS X4 (24 + 2 * (2 * n + 1)) = slM Y q := by
              rw [wS_fr f3 (by intro h9; simp at h9) (by intro h9; simp at h9), wL_S T2.2, wb1]
              exact wb
            have la : X4.1 (24 + 2 * (2 * n)) 1 ≤ 12 := by
              have h9 := congrArg List.length As
              rw [wS_len, slM_len] at h9
              omega
            have lb : X4.1 (24 + 2 * (2 * n + 1)) 1 ≤ 12 := by
              have h9 := congrArg List.length Bs
              rw [wS_len, slM_len] at h9
              omega
            have oth : ∀ j : Nat, j < 16 → j ≠ 2 * n → j ≠ 2 * n + 1 → ((24 + 2 * j, 1) ∉ [(24 + 2 * (2 * n), 1), (24 + 2 * (2 * n + 1), 1), (0, 14), (0, 15), (0, 16)]) ∧ 24 + 2 * j + 1 ∉ [24 + 2 * (2 * n) + 1, 24 + 2 * (2 * n + 1) + 1] := fun j h1 h2 h3 => ⟨by intro h9; simp at h9 <;> omega, by intro h9; simp at h9 <;> omega⟩
            have n12 : (1, 2) ∉ [(24 + 2 * (2 * n), 1), (24 + 2 * (2 * n + 1), 1), (0, 14), (0, 15), (0, 16)] := by intro h9; simp at h9
            have L := mlaw_L n8 (show Y.2 1 p = (((Y.2 1 p).toNat : Nat) : Int) by omega) (show Y.2 1 q = (((Y.2 1 q).toNat : Nat) : Int) by omega) (by omega) (by omega) m3 m4 mv.1.2.2.1
            have y0 : ∀ l, lwA2 (sU (sU z 3 ((n : Int) + 1)) 6 (-9)) l = lwA2 z l ∧ lwB2 (sU (sU z 3 ((n : Int) + 1)) 6 (-9)) l = lwB2 z l := fun l => ⟨rfl, rfl⟩
            have y3 : (sU (sU z 3 ((n : Int) + 1)) 6 (-9)).1 3 = (n : Int) + 1 := by rw [yS_n (by decide), yS_s]
            have y6 : (sU (sU z 3 ((n : Int) + 1)) 6 (-9)).1 6 = -9 := by rw [yS_s]
            have yz : (sU (sU z 3 ((n : Int) + 1)) 6 (-9)).1 0 = Y.1 0 := by rw [yS_n (by decide), yS_n (by decide)]; exact m2.1 0 List.not_mem_nil
            have g : same [3, 6] [4, 5] Y (sU (sU z 3 ((n : Int) + 1)) 6 (-9)) := sm_s (by decide) (sm_s (by decide) (sm_mono nil_a (by decide) m2))
            have lh := mv.1.2.1
            have lh' : lwH (sU (sU z 3 ((n : Int) + 1)) 6 (-9)) := by
              refine ⟨by rw [y3]; omega, fun l hl => ?_⟩
              rw [y3] at hl
              rw [yz]
              show (0 ≤ z.2 4 (2 * l) ∧ z.2 4 (2 * l) ≤ 12) ∧ (0 ≤ z.2 4 (2 * l + 1) ∧ z.2 4 (2 * l + 1) ≤ 12) ∧ okL (Y.1 0).toNat (lwA2 z l) ∧ okL (Y.1 0).toNat (lwB2 z l)
              by_cases e : l = n
              · rw [e, L.2.1.1, L.2.1.2, L.2.2.1, L.2.2.2]
                exact ⟨by omega, by omega, sa.2, sb.2⟩
              · have k := L.1 l (by omega)
                rw [k.1.1, k.1.2, k.2.1, k.2.2]
                exact lh.2 l (by omega)
            have lz' : lzR (sU (sU z 3 ((n : Int) + 1)) 6 (-9)) := fun k hk => by
              show 0 ≤ z.2 4 k ∧ z.2 4 k ≤ 12
              rw [m3, yU_if, yU_if]
              by_cases e1 : k = 2 * n + 1
              · rw [if_pos e1]; omega
              · rw [if_neg e1]
                by_cases e2 : k = 2 * n
                · rw [if_pos e2]; omega
                · rw [if_neg e2]; exact mv.1.2.2.1 k hk
            have lw' : lwR (sU (sU z 3 ((n : Int) + 1)) 6 (-9)) := fun k hk => by
              show 0 ≤ z.2 5 k ∧ z.2 5 k ≤ 3
              rw [m4 k]
              by_cases e1 : 24 * n + 12 ≤ k ∧ k < 24 * n + 12 + (Y.2 1 q).toNat
              · rw [if_pos e1]; exact mv.1.2.2.2.2.2.2.2.2.2.1 _ (by omega)
              · rw [if_neg e1]
                by_cases e2 : 24 * n ≤ k ∧ k < 24 * n + (Y.2 1 p).toNat
                · rw [if_pos e2]; exact mv.1.2.2.2.2.2.2.2.2.2.1 _ (by omega)
                · rw [if_neg e2]; exact mv.1.2.2.2.1 k hk
            refine ⟨x14, Rel_un h f (fun r hr => ?_) (fun r hr => ?_) x15 x16 ⟨by rw [x14]; omega, fun j hj => ?_⟩ (fun j hj => ?_) (MV_un g lh' lz' lw' y6 mv) y6 ⟨?_, by rw [x14, y3], fun l hl => ?_⟩ g⟩
            · simp only [List.mem_cons, List.not_mem_nil, or_false] at hr
              rcases hr with hr | hr | hr
              · right; rw [hr]; constructor <;> simp only <;> omega
              · right; rw [hr]; constructor <;> simp only <;> omega
              · left; simp only [List.mem_cons, List.not_mem_nil, or_false]; exact hr
            · simp only [List.mem_cons, List.not_mem_nil, or_false] at hr
              omega
            · rw [x14] at hj
              by_cases e1 : j = 2 * n
              · rw [e1]; exact ⟨A4, la⟩
              · by_cases e2 : j = 2 * n + 1
                · rw [e2]; exact ⟨B4, lb⟩
                · have o := oth j (by omega) e1 e2
                  obtain ⟨k1, k2⟩ := kc.2 j (by omega)
                  exact ⟨wG_fr f o.1 o.2 n12 k1, by rw [f.1 _ 1 o.1]; exact k2⟩
            · by_cases e1 : j = 2 * n
              · rw [e1, show 25 + 2 * (2 * n) = 24 + 2 * (2 * n) + 1 by omega]; exact A4.2.1
              · by_cases e2 : j = 2 * n + 1
                · rw [e2, show 25 + 2 * (2 * n + 1) = 24 + 2 * (2 * n + 1) + 1 by omega]; exact B4.2.1
                · have o := oth j hj e1 e2
                  rw [show 25 + 2 * j = 24 + 2 * j + 1 by omega, f.2 _ o.2]
                  exact kr2 j hj
            · rw [f.1 1 2 n12, yz]; exact sw.1
            · rw [y3] at hl
              rw [(y0 l).1, (y0 l).2]
              by_cases e : l = n
              · rw [e, L.2.2.1, L.2.2.2]
                exact ⟨As, Bs⟩
              · have k := L.1 l (by omega)
                rw [k.2.1, k.2.2]
                have o1 := oth (2 * l) (by omega) (by omega) (by omega)
                have o2 := oth (2 * l + 1) (by omega) (by omega) (by omega)
                have s := sw.2.2 l (by omega)
                exact ⟨(wS_fr f o1.1 o1.2).trans s.1, (wS_fr f o2.1 o2.2).trans s.2⟩
        · rw [if_neg c4, if_neg (show ¬ X.1 (7 + 2 * b.toNat) 1 ≤ 12 by omega)]
          exact ⟨rfl, h⟩
