-- deps: 99.z.e
def pkA (x : MS) (u : List Int) (g : Int) : Prop := ∃ str N S, plN x str N S ∧ ∃ s : Nat, s < S ∧ g = (s : Int) ∧ lsx (lM x) (x.1 12).toNat u (str (x.2 25 s).toNat)
theorem pkA_0 {x : MS} (h : plX x) : pkA x [] 0 := by
  obtain ⟨str, N, S, hN, s, s1, e, ls⟩ := rkA_0 h []
  rw [List.take_nil] at ls
  exact ⟨str, N, S, hN, s, s1, e, ls⟩
theorem pkA_s {x : MS} {u : List Int} {g l : Int} (pr : plR x) (h : pkA x u g) (hu : noL (lM x) (x.1 12).toNat u) (l0 : 0 ≤ l) (l1 : l < x.1 0) (hne : ¬ (F_m_next x g l).1 = -9) : pkA x (u ++ [l]) (F_m_next x g l).1 ∧ noL (lM x) (x.1 12).toNat (u ++ [l]) := by
  obtain ⟨str, N, S, hN, s, s1, e, ls⟩ := h
  have nx := plN_next hN s1 (l := l.toNat) (by omega)
  rw [show ((l.toNat : Nat) : Int) = l by omega, ← e] at nx
  rcases nx with ⟨h1, _⟩ | ⟨t, t1, t2, t3, t4⟩
  · exact absurd h1 hne
  · exact ⟨⟨str, N, S, hN, t, t1, t2, au_next ls t4⟩, au_no hu ls (fun r hr => (lM_ok pr hr).1) t3⟩
def pkR (x : MS) (m : Nat) : Nat → List Int → Int → Int → Prop
  | 0, u, g, t => u = [] ∧ g = 0 ∧ t = 0
  | b + 1, u, g, t => ∃ u2 g2 t2 l, pkR x m b u2 g2 t2 ∧ u = u2 ++ [l] ∧ g = (F_m_next x g2 l).1 ∧ t = t2 + wsm x (wN x (m - b - 1)) g2 l.toNat
theorem pkR_r {x : MS} {m : Nat} : ∀ (b : Nat) (u : List Int) (g t : Int), pkR x m b u g t → b ≤ m → ∀ w : List Int, w.length = m - b → rk2 x 0 (u ++ w) = t + rk2 x g w := by
  intro b
  induction b with
  | zero =>
    intro u g t h _ w _
    obtain ⟨h1, h2, h3⟩ := h
    rw [h1, h2, h3, List.nil_append, Int.zero_add]
  | succ b ih =>
    intro u g t h hb w hw
    obtain ⟨u2, g2, t2, l, h1, h2, h3, h4⟩ := h
    have e := ih u2 g2 t2 h1 (by omega) (l :: w) (by rw [List.length_cons]; omega)
    have e2 : rk2 x g2 (l :: w) = wsm x (wN x w.length) g2 l.toNat + rk2 x (F_m_next x g2 l).1 w := rfl
    rw [h2, List.append_assoc, show [l] ++ w = l :: w from rfl, e, e2, h4, h3, hw, show m - (b + 1) = m - b - 1 by omega]
    omega
def pkJ (x y : MS) (o9 k b : Nat) (g v i0 : Int) : Prop := y.2 1 = iU (x.2 1) o9 (k : Int) ∧ rwR y ∧ (∀ q, q < 128 * o9 ∨ 128 * o9 + 128 ≤ q → y.2 2 q = x.2 2 q) ∧ okL (x.1 0).toNat (ltM y o9 b) ∧ noL (lM x) (x.1 12).toNat (ltM y o9 b) ∧ pkA x (ltM y o9 b) g ∧ ∃ t, pkR x k b (ltM y o9 b) g t ∧ v + rk1 x k + t = i0
theorem pkJ_0 {x y : MS} {o9 k v i0 : Int} (pw : plX x) (hr : rwR x) (sm : same [] [] x y) (k0 : 0 ≤ k) (h : v + rk1 x k.toNat = i0) : pkJ x (aU y 1 o9.toNat k) o9.toNat k.toNat ((0 : Int)).toNat ((0 : Int)) v i0 := by
  have e : y = x := sm_nil sm
  rw [e]
  refine ⟨by rw [yU_s, show ((k.toNat : Nat) : Int) = k by omega], rwR_n (by decide) hr, fun q _ => by rw [yU_n (by decide)], fun l hl => absurd hl (by show l ∉ ([] : List Int); exact List.not_mem_nil), ?_, pkA_0 pw, 0, ⟨rfl, rfl, rfl⟩, by omega⟩
  intro r hr2 a b e9
  have e9 : ([] : List Int) = a ++ (lM x r ++ b) := e9
  have h9 := congrArg List.length e9
  rw [List.length_append, List.length_append, List.length_nil] at h9
  exact (lM_ok pw.1 hr2).1 (List.eq_nil_of_length_eq_zero (by omega))
theorem pkJ_s {x y : MS} {o9 k b g c0 v i0 : Int} (pr : plR x) (o0 : 0 ≤ o9) (k1 : k ≤ 30) (b0 : 0 ≤ b) (b1 : b < k) (d0 : 0 ≤ c0) (d1 : c0 < x.1 0) (hne : ¬ (F_m_next x g c0).1 = -9) (h : pkJ x y o9.toNat k.toNat b.toNat g (v + wsm x (wN x (k - b - 1).toNat) g c0.toNat) i0) : pkJ x (aU y 2 ((128 : Int) * o9 + b).toNat c0) o9.toNat k.toNat (b + (1 : Int)).toNat (F_m_next x g c0).1 v i0 := by
  obtain ⟨h1, h2, h3, h4, h5, h6, t, h7, h8⟩ := h
  have l4 := pr.2.1.2
  rw [show ((128 : Int) * o9 + b).toNat = 128 * o9.toNat + b.toNat by omega, show (b + (1 : Int)).toNat = b.toNat + 1 by omega]
  generalize hz : aU y 2 (128 * o9.toNat + b.toNat) c0 = z
  have z2 : ∀ i, z.2 2 i = if i = 128 * o9.toNat + b.toNat then c0 else y.2 2 i := fun i => by rw [← hz, yU_s, yU_if]
  have zl : ltM z o9.toNat (b.toNat + 1) = ltM y o9.toNat b.toNat ++ [c0] := by
    rw [ltM_s, z2, if_pos rfl, ltM_eq (y := y) (z := z) (fun i hi => by rw [z2, if_neg (by omega)])]
  obtain ⟨a1, a2⟩ := pkA_s pr h6 h5 d0 d1 hne
  refine ⟨by rw [← hz, yU_n (by decide)]; exact h1, by rw [← hz]; exact rwR_up h2 (by omega), fun q hq => by rw [z2, if_neg (by omega)]; exact h3 q hq, ?_, by rw [zl]; exact a2, by rw [zl]; exact a1, t + wsm x (wN x (k.toNat - b.toNat - 1)) g c0.toNat, ⟨_, g, t, c0, h7, zl, rfl, rfl⟩, ?_⟩
  · rw [zl]; exact okL_a.mpr ⟨h4, fun l hl => by rw [List.mem_singleton.mp hl]; omega⟩
  · rw [show (k - b - 1).toNat = k.toNat - b.toNat - 1 by omega] at h8; omega
def pkQ (x : MS) (i0 o9 : Int) (q : Int × MS) : Prop := (q.1 = 0 ∧ q.2 = x ∧ rk1 x 31 ≤ i0) ∨ (q.1 = 1 ∧ q.2.2 1 = iU (x.2 1) o9.toNat ((slM q.2 o9.toNat).length : Int) ∧ rwR q.2 ∧ (∀ i, i < 128 * o9.toNat ∨ 128 * o9.toNat + 128 ≤ i → q.2.2 2 i = x.2 2 i) ∧ (slM q.2 o9.toNat).length ≤ 30 ∧ okL (x.1 0).toNat (slM q.2 o9.toNat) ∧ noL (lM x) (x.1 12).toNat (slM q.2 o9.toNat) ∧ rkV x (slM q.2 o9.toNat) = i0)
theorem pkQ_1 {x y : MS} {o9 k b g v i0 : Int} (k0 : 0 ≤ k) (k1 : k ≤ 30) (b1 : b = k) (hv : v = 0) (h : pkJ x y o9.toNat k.toNat b.toNat g v i0) : pkQ x i0 o9 (1, y) := by
  obtain ⟨h1, h2, h3, h4, h5, h6, t, h7, h8⟩ := h
  subst b1
  have ek : y.2 1 o9.toNat = (b.toNat : Int) := by rw [h1]; exact iU_s
  have es : slM y o9.toNat = ltM y o9.toNat b.toNat := by unfold slM; rw [ek, Int.toNat_natCast]
  have el : (ltM y o9.toNat b.toNat).length = b.toNat := ltM_len _ _ _
  have r := pkR_r b.toNat _ g t h7 (Nat.le_refl _) [] (by rw [List.length_nil]; omega)
  rw [List.append_nil] at r
  have r0 : rk2 x g [] = 0 := rfl
  refine Or.inr ⟨rfl, ?_, h2, h3, ?_, ?_, ?_, ?_⟩
  · show y.2 1 = iU _ _ ((slM y o9.toNat).length : Int)
    rw [es, el]; exact h1
  · show (slM y o9.toNat).length ≤ 30
    rw [es, el]; omega
  · show okL _ (slM y o9.toNat)
    rw [es]; exact h4
  · show noL _ _ (slM y o9.toNat)
    rw [es]; exact h5
  · show rkV x (slM y o9.toNat) = i0
    rw [es]; unfold rkV; rw [el]; omega
theorem pk_q {x : MS} (au : auOK x) (cy : cyI x x 31) {g c0 k b q : Int} (g0 : 0 ≤ g) (g1 : g < x.1 24) (d0 : 0 ≤ c0) (d1 : c0 < x.1 0) (b0 : 0 ≤ b) (b1 : b < k) (k1 : k ≤ 30) (eq : q = (F_m_onward x g c0 ((k - b) - 1)).1) : wsm x (wN x (k - b - 1).toNat) g (c0 + (1 : Int)).toNat = wsm x (wN x (k - b - 1).toNat) g c0.toNat + q := rk_add d0 (eq.trans (cy_ow au (sm_rf _ _ _) cy g0 g1 d0 d1 (by omega) (by omega)))
theorem pk_w {x : MS} (cy : cyI x x 31) (st : 1 ≤ x.1 24) {k : Int} (k0 : 0 ≤ k) (k1 : k ≤ 30) : x.2 28 k.toNat = wN x k.toNat 0 := by
  have h9 := cy k.toNat 0 (by omega) (by omega)
  rw [Nat.mul_zero, Nat.zero_add] at h9; exact h9
theorem pk_z {x : MS} (cy : cyI x x 31) (st : 1 ≤ x.1 24) {k v : Int} (k0 : 0 ≤ k) (h9 : k ≤ 0) (v0 : 0 ≤ v) (vk : v < x.2 28 k.toNat) : v = 0 := by
  have h8 := pk_w cy st k0 (by omega)
  have e0 : k.toNat = 0 := by omega
  rw [h8, e0] at vk
  have h7 : wN x 0 0 = 1 := rfl
  omega
set_option maxHeartbeats 4000000 in
theorem F_m_pick_p (x : MS) (i0 : Int) (o9 : Int) (ri : iRL i0) (i1 : 0 ≤ i0) (o0 : 0 ≤ o9) (o1 : o9 < 13) (au : auOK x) (st1 : 1 ≤ x.1 24) (hwy : wyR x) (hok : wyOK x) (pw : plX x) (cy : cyI x x 31) (hrw : rwR x) : pkQ x i0 o9 (F_m_pick (x) (i0) (o9)) := by
  have L : ∀ n : Nat, (∀ (y : MS) (v : Int) (k : Int), (same [] [] x y) → (v + rk1 x k.toNat = i0) → (0 ≤ v) → (iRL v) → (0 ≤ k) → (k ≤ 31) → (31 - k + 400 < n) → pkQ x i0 o9 (F_m_pick_s n 0 y i0 o9 v k 0 0 0 0)) ∧ (∀ (y : MS) (v : Int) (k : Int) (g : Int) (b : Int), (same [] [1, 2] x y) → (pkJ x y o9.toNat k.toNat b.toNat g v i0) → (k ≤ b → v = 0) → (0 ≤ v) → (iRL v) → (0 ≤ k) → (k ≤ 30) → (0 ≤ g) → (g < x.1 24) → (0 ≤ b) → (b ≤ k) → (b < k → v < (x.2 28) ((31 * g) + (k - b)).toNat) → ((30 - b) * 6 + 30 < n) → pkQ x i0 o9 (F_m_pick_s n 1 y i0 o9 v k g b 0 0)) ∧ (∀ (y : MS) (v : Int) (k : Int) (g : Int) (b : Int) (c0 : Int) (q : Int), (same [] [1, 2] x y) → (pkJ x y o9.toNat k.toNat b.toNat g (v + wsm x (wN x (k - b - 1).toNat) g c0.toNat) i0) → (0 ≤ v) → (iRL v) → (0 ≤ k) → (k ≤ 30) → (0 ≤ g) → (g < x.1 24) → (0 ≤ b) → (b < k) → (0 ≤ c0) → (c0 < x.1 0) → (c0 < 4) → (q = (F_m_onward x g c0 ((k - b) - 1)).1) → (v < sR x g ((k - b) - 1) c0 (x.1 0 - c0).toNat) → ((29 - b) * 6 + 30 + (4 - c0) + 1 < n) → pkQ x i0 o9 (F_m_pick_s n 2 y i0 o9 v k g b c0 q)) := by
    intro n
    induction n with
    | zero =>
      refine ⟨?_, ?_, ?_⟩
      · intro y v k sm pi v0 rv k0 k1 fu
        exact absurd fu (by omega)
      · intro y v k g b sm pj vz v0 rv k0 k1 g0 g1 b0 b1 vb fu
        exact absurd fu (by omega)
      · intro y v k g b c0 q sm pj v0 rv k0 k1 g0 g1 b0 b1 d0 d1 d4 eq vs fu
        exact absurd fu (by omega)
    | succ n ih =>
      refine ⟨?_, ?_, ?_⟩
      · intro y v k sm pi v0 rv k0 k1 fu
        rw [F_m_pick_e0]
        have t28 := sm.2 28 (by decide)
        have rv2 := rv.2
        have u1 := au.1.2.1
        by_cases c_10 : ((30 : Int)) < (k)
        · rw [if_pos c_10]
          by_cases c_48 : (k) ≤ ((30 : Int))
          · rw [if_pos c_48]
            have vk9 : v < (x.2 28) k.toNat := by first | (exfalso; omega) | (rw [← t28]; rw [iC_lt] at c_23; exact c_23)
            exact ih.2.1 (aU (y) 1 (o9).toNat (k)) (v) (k) ((0 : Int)) ((0 : Int)) (sm_a (by decide) (sm_mono (by decide) (by decide) sm)) (pkJ_0 pw hrw sm k0 pi) (fun h9 => pk_z cy st1 k0 h9 v0 vk9) (v0) (rv) (k0) (by omega) (by omega) (by omega) (by omega) (k0) (by intro _; rw [show ((31 : Int) * 0 + (k - 0)).toNat = k.toNat by omega]; exact vk9) (by omega)
          · rw [if_neg c_48]
            exact Or.inl ⟨rfl, sm_nil sm, by have h9 := pi; rw [show k.toNat = 31 by omega] at h9; omega⟩
        · rw [if_neg c_10]
          have wk := hwy k.toNat (by omega)
          rw [← t28] at wk
          by_cases c_23 : (iC (v) (((y).2 28) (k).toNat)) < (0)
          · rw [if_pos c_23]
            by_cases c_48 : (k) ≤ ((30 : Int))
            · rw [if_pos c_48]
              have vk9 : v < (x.2 28) k.toNat := by first | (exfalso; omega) | (rw [← t28]; rw [iC_lt] at c_23; exact c_23)
              exact ih.2.1 (aU (y) 1 (o9).toNat (k)) (v) (k) ((0 : Int)) ((0 : Int)) (sm_a (by decide) (sm_mono (by decide) (by decide) sm)) (pkJ_0 pw hrw sm k0 pi) (fun h9 => pk_z cy st1 k0 h9 v0 vk9) (v0) (rv) (k0) (by omega) (by omega) (by omega) (by omega) (k0) (by intro _; rw [show ((31 : Int) * 0 + (k - 0)).toNat = k.toNat by omega]; exact vk9) (by omega)
            · rw [if_neg c_48]
              exact Or.inl ⟨rfl, sm_nil sm, by have h9 := pi; rw [show k.toNat = 31 by omega] at h9; omega⟩
          · rw [if_neg c_23]
            exact ih.1 (y) ((v) - (((y).2 28) (k).toNat)) ((k) + (1 : Int)) (sm) (by have h9 := pk_w cy st1 k0 (by omega); rw [t28, h9, show (k + (1 : Int)).toNat = k.toNat + 1 by omega]; show v - wN x k.toNat 0 + (rk1 x k.toNat + wN x k.toNat 0) = i0; omega) (by rw [iC_lt] at c_23; omega) (⟨by rw [iC_lt] at c_23; omega, by omega⟩) (by omega) (by omega) (by omega)
      · intro y v k g b sm pj vz v0 rv k0 k1 g0 g1 b0 b1 vb fu
        rw [F_m_pick_e1]
        have auy := auOK_same au sm (by decide) (by decide) (by decide) (by decide)
        have ow := ow_same sm (by decide) (by decide) (by decide) (by decide) (by decide)
        have nx := nx_same sm (by decide) (by decide) (by decide) (by decide)
        have s0 := sm.1 0 (by decide)
        have s24 := sm.1 24 (by decide)
        have u1 := au.1.2.1
        have u2 := au.1.2.2.1
        have u3 := au.1.2.2.2
        by_cases c_71 : (k) ≤ (b)
        · rw [if_pos c_71]
          exact pkQ_1 k0 k1 (by omega) (vz (by omega)) pj
        · rw [if_neg c_71]
          have vs0 := vb (by omega)
          rw [hok g (k - b) g0 g1 (by omega) (by omega)] at vs0
          have hn9 := auy.2 g 0 (by omega) (by omega) (by omega) (by omega)
          exact ih.2.2 (y) (v) (k) (g) (b) ((0 : Int)) ((F_m_onward (y) (g) ((0 : Int)) (((k) - (b)) - ((1 : Int)))).1) (sm) (by show pkJ x y _ _ _ g (v + 0) i0; rw [Int.add_zero]; exact pj) (v0) (rv) (k0) (k1) (g0) (g1) (b0) (by omega) (by omega) (by omega) (by omega) (by rw [ow]) (by rw [Int.sub_zero]; exact vs0) (by omega)
      · intro y v k g b c0 q sm pj v0 rv k0 k1 g0 g1 b0 b1 d0 d1 d4 eq vs fu
        rw [F_m_pick_e2]
        have auy := auOK_same au sm (by decide) (by decide) (by decide) (by decide)
        have ow := ow_same sm (by decide) (by decide) (by decide) (by decide) (by decide)
        have nx := nx_same sm (by decide) (by decide) (by decide) (by decide)
        have s0 := sm.1 0 (by decide)
        have s24 := sm.1 24 (by decide)
        have u1 := au.1.2.1
        have u2 := au.1.2.2.1
        have u3 := au.1.2.2.2
        have oR := ow_R au hwy g0 g1 d0 d1 (show 0 ≤ (k - b) - 1 by omega) (by omega)
        rw [← eq] at oR
        have rv2 := rv.2
        have pq := pk_q au cy g0 g1 d0 d1 b0 b1 k1 eq
        by_cases c_99 : (iC (v) (q)) < (0)
        · rw [if_pos c_99]
          rw [iC_lt] at c_99
          have hn9 := auy.2 g c0 (by omega) (by omega) (by omega) (by omega)
          have hx9 := (au.2 g c0 g0 g1 d0 d1).2
          have hne : ¬ (F_m_next x g c0).1 = -9 := by intro q9; rw [F_m_onward_1, if_pos q9] at eq; omega
          rw [F_m_onward_1, if_neg hne] at eq
          have wq := cy ((k - b) - 1).toNat (F_m_next x g c0).1.toNat (by omega) (by omega)
          have nz : k ≤ b + 1 → v = 0 := by
            intro h9
            rw [show ((k - b) - 1).toNat = 0 by omega, Nat.add_zero] at wq
            have h7 : wN x 0 (((F_m_next x g c0).1.toNat : Nat) : Int) = 1 := rfl
            rw [show ((31 : Int) * (F_m_next x g c0).1 + ((k - b) - 1)).toNat = 31 * (F_m_next x g c0).1.toNat by omega] at eq
            omega
          have nn : 0 ≤ (F_m_next (aU (y) 2 (((128 : Int) * o9) + b).toNat c0) g c0).1 ∧ (F_m_next (aU (y) 2 (((128 : Int) * o9) + b).toNat c0) g c0).1 < x.1 24 := by rw [nx_same (sm_a (k := 2) (A := [1, 2]) (by decide) sm) (by decide) (by decide) (by decide) (by decide)]; omega
          have nv : b + 1 < k → v < (x.2 28) ((31 * (F_m_next (aU (y) 2 (((128 : Int) * o9) + b).toNat c0) g c0).1) + (k - (b + 1))).toNat := by intro _; rw [nx_same (sm_a (k := 2) (A := [1, 2]) (by decide) sm) (by decide) (by decide) (by decide) (by decide), show k - (b + 1) = (k - b) - 1 by omega, ← eq]; omega
          exact ih.2.1 (aU (y) 2 ((((128 : Int)) * (o9)) + (b)).toNat (c0)) (v) (k) ((F_m_next (aU (y) 2 ((((128 : Int)) * (o9)) + (b)).toNat (c0)) (g) (c0)).1) ((b) + (1 : Int)) (sm_a (by decide) sm) (by rw [nx_same (sm_a (k := 2) (A := [1, 2]) (by decide) sm) (by decide) (by decide) (by decide) (by decide)]; exact pkJ_s pw.1 o0 k1 b0 b1 d0 d1 hne pj) (nz) (v0) (rv) (k0) (k1) (nn.1) (nn.2) (by omega) (by omega) (nv) (by omega)
        · rw [if_neg c_99]
          rw [iC_lt] at c_99
          have vs9 := sR_step (sR_pos v0 vs) vs
          have e9 : (x.1 0 - c0).toNat - 1 = (x.1 0 - (c0 + 1)).toNat := by omega
          rw [e9, ← eq] at vs9
          have c9 : c0 + 1 < x.1 0 := by have := sR_pos (show 0 ≤ v - q by omega) vs9; omega
          have hn9 := auy.2 g (c0 + 1) (by omega) (by omega) (by omega) (by omega)
          exact ih.2.2 (y) ((v) - (q)) (k) (g) (b) ((c0) + (1 : Int)) ((F_m_onward (y) (g) ((c0) + (1 : Int)) (((k) - (b)) - ((1 : Int)))).1) (sm) (by rw [pq, show v - q + (wsm x (wN x (k - b - 1).toNat) g c0.toNat + q) = v + wsm x (wN x (k - b - 1).toNat) g c0.toNat by omega]; exact pj) (by omega) (⟨by omega, by omega⟩) (k0) (k1) (g0) (g1) (b0) (b1) (by omega) (c9) (by omega) (by rw [ow]) (vs9) (by omega)
  unfold F_m_pick
  exact (L (1000)).1 (x) (i0) ((0 : Int)) (sm_rf _ _ _) (by show i0 + 0 = i0; omega) (i1) (ri) (by omega) (by omega) (by omega)
