-- deps: B3.e
/-! nth answers alike and keeps the relation -/
theorem push_r {y : KS} {w : Nat} {z : Int} (hz : 0 ≤ z ∧ z ≤ 3) (r : r03 (y.2 (w + 1))) : r03 ((F_w_push y w z).2.2 (w + 1)) := by
  unfold F_w_push
  repeat' split
  · exact r
  · show r03 ((kA _ (w + 1) _ z).2 (w + 1))
    rw [kA_s]
    exact iU_all (P := fun v => 0 ≤ v ∧ v ≤ 3) hz r
  · exact r
theorem wn_r {w : Nat} (hw : w + 1 < 60) (h1 : w ≠ 1) : ∀ n : Nat, (∀ (y : KS) (nn b g q0 q1 q2 : Int), (1 ≤ y.1 1 2 ∧ y.1 1 2 ≤ 4) → r03 (y.2 (w + 1)) → r03 ((F_a_writeNumber_s w n 0 y nn b g q0 q1 q2).2.2 (w + 1))) ∧ (∀ (y : KS) (nn b g s i q0 : Int), (1 ≤ y.1 1 2 ∧ y.1 1 2 ≤ 4) → r03 (y.2 (w + 1)) → r03 ((F_a_writeNumber_s w n 1 y nn b g s i q0).2.2 (w + 1))) ∧ (∀ (y : KS) (nn b g s i z : Int), (1 ≤ y.1 1 2 ∧ y.1 1 2 ≤ 4) → r03 (y.2 (w + 1)) → 0 ≤ z → z ≤ y.1 1 2 - 1 → r03 ((F_a_writeNumber_s w n 2 y nn b g s i z).2.2 (w + 1))) := by
  intro n
  induction n with
  | zero => exact ⟨fun _ _ _ _ _ _ _ _ r => r, fun _ _ _ _ _ _ _ _ r => r, fun _ _ _ _ _ _ _ _ r _ _ => r⟩
  | succ n ih =>
    obtain ⟨i0, i1, i2⟩ := ih
    refine ⟨fun y nn b g q0 q1 q2 l2 r => ?_, fun y nn b g s i q0 l2 r => ?_, fun y nn b g s i z l2 r z0 z1 => ?_⟩
    · have fw := F_w_wipe_fr y w
      have lw : 1 ≤ (F_w_wipe y w).2.1 1 2 ∧ (F_w_wipe y w).2.1 1 2 ≤ 4 := by rw [fw.1 1 2 (by intro h9; simp at h9 <;> omega)]; exact l2
      have rw9 : r03 ((F_w_wipe y w).2.2 (w + 1)) := by rw [fw.2 _ List.not_mem_nil]; exact r
      rw [F_a_writeNumber_e0]
      repeat' split
      all_goals first | exact r | exact i1 _ _ _ _ _ _ _ lw rw9 | exact i0 _ _ _ _ _ _ _ l2 r
    · have fc := F_a_countWays_fr y (g - 1 - i)
      rw [F_a_writeNumber_e1]
      by_cases c : g ≤ i
      · rw [if_pos c]; exact r
      · rw [if_neg c]
        exact i2 _ _ _ _ _ _ _ (by rw [fc.1 1 2 (by decide)]; exact l2) (by rw [fc.2 _ (by intro h9; simp at h9; omega)]; exact r) (by decide) (by rw [fc.1 1 2 (by decide)]; omega)
    · have fp := F_w_push_fr y w z
      have lp : 1 ≤ (F_w_push y w z).2.1 1 2 ∧ (F_w_push y w z).2.1 1 2 ≤ 4 := by rw [fp.1 1 2 (by intro h9; simp at h9 <;> omega)]; exact l2
      have rp9 := push_r (w := w) (y := y) (z := z) (by omega) r
      rw [F_a_writeNumber_e2]
      by_cases c : y.1 1 2 - 1 ≤ z
      · rw [if_pos c]; exact i1 _ _ _ _ _ _ _ lp rp9
      · rw [if_neg c]
        by_cases c2 : iC b (F_a_waysBy y s z).1 < 0
        · rw [if_pos c2]; exact i1 _ _ _ _ _ _ _ lp rp9
        · rw [if_neg c2]; exact i2 _ _ _ _ _ _ _ l2 r (by omega) (by omega)
theorem Rel_put2 {X X' : KS} {Y Z : MS} (h : Rel X Y) {k : Nat} (hk : k < 8) (f : ksame [(7 + 2 * k, 1), (64, 4), (64, 5)] [67, 68, 7 + 2 * k + 1] X X') (d : dz X') {u : List Int} (wl : wL X' (7 + 2 * k) u) (g : wG X' (7 + 2 * k)) (r : rdS Y Z k u) : Rel X' Z := by
  obtain ⟨r1, r2, r3, r4, r8, r5, r6, r7⟩ := r
  obtain ⟨ki, mv, sw, wd, sn⟩ := id h
  have kh := ki.2.2.2.2.2.1
  have kj := ki.2.2.2.2.2.2.1
  have f2 := gm_of f
  have e0 : Z.1 0 = Y.1 0 := r1.1 0 (by decide)
  have sl : ∀ j : Nat, j < 9 → j ≠ k → slM Z j = slM Y j ∧ slH Z j := fun j hj hn => slH_o e0 (r3 j hj hn) (fun i hi => r4 _ (by omega) (by omega)) (mv.2.1 j hj)
  have slk : slH Z k := ⟨by rw [r8.1]; have := r8.2.2.2; omega, by rw [r8.2.1, e0]; exact r8.2.2.1⟩
  have np : ∀ p ∈ [(7 + 2 * k, 1), (64, 4), (64, 5)], p = (7 + 2 * k, 1) ∨ p = (64, 4) ∨ p = (64, 5) := fun p hp => by simp only [List.mem_cons, List.not_mem_nil, or_false] at hp; exact hp
  have na : ∀ p ∈ [67, 68, 7 + 2 * k + 1], p = 67 ∨ p = 68 ∨ p = 7 + 2 * k + 1 := fun p hp => by simp only [List.mem_cons, List.not_mem_nil, or_false] at hp; exact hp
  have pn : ∀ {c e : Nat}, c ≠ 7 + 2 * k → (c, e) ∉ [(64, 4), (64, 5)] → (c, e) ∉ [(7 + 2 * k, 1), (64, 4), (64, 5)] := fun {c e} hc h8 h9 => by
    rcases List.mem_cons.mp h9 with h9 | h9
    · exact hc (congrArg Prod.fst h9)
    · exact h8 h9
  have an : ∀ {c : Nat}, c ≠ 67 → c ≠ 68 → c ≠ 7 + 2 * k + 1 → c ∉ [67, 68, 7 + 2 * k + 1] := fun {c} h1 h2 h3 h9 => by
    rcases na _ h9 with h9 | h9 | h9
    · exact h1 h9
    · exact h2 h9
    · exact h3 h9
  have f57 : X'.2 57 = X.2 57 := f.2 57 (an (by decide) (by decide) (by omega))
  have okp : ∀ p ∈ [(7 + 2 * k, 1), (64, 4), (64, 5)], okS p := fun p hp => by
    rcases np p hp with e | e | e
    · rw [e]
      refine ⟨by show 7 + 2 * k ≠ 0; omega, by show 7 + 2 * k ≠ 1; omega, by show 7 + 2 * k < 24 ∨ _; omega, fun h9 => ?_⟩
      simp at h9 <;> omega
    · rw [e]; unfold okS; decide
    · rw [e]; unfold okS; decide
  have oka : ∀ a ∈ [67, 68, 7 + 2 * k + 1], okA a := fun a ha => by
    rcases na a ha with e | e | e
    · rw [e]; unfold okA; decide
    · rw [e]; unfold okA; decide
    · rw [e]
      refine ⟨by omega, fun h9 => ?_⟩
      simp only [List.mem_cons, List.not_mem_nil, or_false] at h9
      omega
  have rs : ∀ p ∈ [(7 + 2 * k, 1), (64, 4), (64, 5)], rSs p ∧ p ≠ (70, 5) ∧ p.1 ≠ 101 := fun p hp => by
    rcases np p hp with e | e | e
    · rw [e]
      have q1 : (7 + 2 * k, 1) ≠ (70, 5) := fun h9 => by have := congrArg Prod.snd h9; simp at this
      refine ⟨⟨⟨by show 7 + 2 * k ≠ 1; omega, fun h9 => by have := congrArg Prod.snd h9; simp at this, fun h9 => by have := congrArg Prod.snd h9; simp at this⟩, q1, by show 7 + 2 * k ≠ 101; omega⟩, q1, by show 7 + 2 * k ≠ 101; omega⟩
    · rw [e]; unfold rSs sMs; decide
    · rw [e]; unfold rSs sMs; decide
  have ras : ∀ a ∈ [67, 68, 7 + 2 * k + 1], rAs a ∧ a < 69 := fun a ha => by
    rcases na a ha with e | e | e
    · rw [e]; unfold rAs sMa; decide
    · rw [e]; unfold rAs sMa; decide
    · rw [e]
      refine ⟨⟨fun h9 => ?_, fun h9 => ?_⟩, by omega⟩
      · simp only [List.mem_cons, List.not_mem_nil, or_false] at h9; omega
      · simp only [List.mem_cons, List.not_mem_nil, or_false] at h9; omega
  refine Rel_gen h f2 okp oka ?_ (fun _ _ h9 => ?_) (fun _ ok => rOK_fr f (fun p hp => (rs p hp).1) (fun a ha => (ras a ha).1) ok) (KB_k f (fun p hp => (rs p hp).2) (fun a ha h9 => ?_) ki.2.1) (KD_g f2 (fun a ha h9 => ?_) ki.2.2.2.1) ⟨fun j hj => ?_, ?_⟩ ⟨?_, ?_, d, ?_, ?_⟩ r1 (by unfold sMk; decide) (by unfold mkA; decide) r5 r6 r7 (MV_s r1 (by decide) (by decide) (r5 mv.1.2.2.2.2.2.2.1) (r7 mv.1.2.2.2.2.2.1) r2 (fun j hj => ?_) mv) ⟨fun j hj => ?_, ?_⟩
  · unfold jnR
    rw [f57, f.1 56 1 (pn (by omega) (by decide))]
    exact ki.1.2.1
  · rw [f57]
    exact ⟨h9, fun _ _ _ => rfl⟩
  · have n := na a ha
    simp only [List.mem_cons, List.not_mem_nil, or_false] at h9
    omega
  · have n := na a ha
    simp only [List.mem_cons, List.not_mem_nil, or_false] at h9
    omega
  · by_cases e : j = k
    · rw [e]; exact g
    · exact wG_fr f (pn (by omega) (by intro h9; simp at h9)) (an (by omega) (by omega) (by omega)) (pn (by omega) (by decide)) (kh.1 j hj)
  · exact wG_fr f (pn (by omega) (by decide)) (an (by omega) (by omega) (by omega)) (pn (by omega) (by decide)) kh.2
  · unfold mdR; rw [f.1 84 2 (pn (by omega) (by decide)), f.2 85 (an (by omega) (by omega) (by omega)), f.2 86 (an (by omega) (by omega) (by omega))]; exact kj.1
  · unfold waR; rw [f.1 82 1 (pn (by omega) (by decide)), f.2 83 (an (by omega) (by omega) (by omega)), f.2 81 (an (by omega) (by omega) (by omega))]; exact kj.2.1
  · rw [f.2 69 (an (by omega) (by omega) (by omega))]; exact kj.2.2.2.1
  · rw [f.1 64 9 (pn (by omega) (by decide))]; exact kj.2.2.2.2
  · by_cases e : j = k
    · rw [e]; exact slk
    · exact (sl j hj e).2
  · by_cases e : j = k
    · rw [e, wL_S wl]; exact r8.2.1.symm
    · rw [(sl j (by omega) e).1, wS_fr f (pn (by omega) (by intro h9; simp at h9)) (an (by omega) (by omega) (by omega))]
      exact wd.1 j hj
  · rw [(sl 8 (by omega) (by omega)).1, wS_fr f (pn (by omega) (by decide)) (an (by omega) (by omega) (by omega))]
    exact wd.2
theorem rk_top {Y : MS} {u : List Int} (hp : pth Y 0 u) (l : u.length ≤ 30) : rkV Y u < rk1 Y 31 := by
  have b := (rk2_b u 0 hp).2
  have m := rk1_m (x := Y) (show u.length + 1 ≤ 31 by omega)
  rw [rk1_s] at m
  unfold rkV
  omega
theorem nth_R {X : KS} {Y : MS} (h : Rel X Y) {nn k : Int} (ri : iRL nn) : (F_t_nth X nn k).1 = (F_m_nth Y nn k).1 ∧ Rel (F_t_nth X nn k).2 (F_m_nth Y nn k).2 := by
  obtain ⟨ki, mv, sw, wd, sn⟩ := id h
  have mm := mach_v ki.2.2.2.2.1 sn
  have P := F_m_nth_p Y nn k ri (fun h9 => by
    rcases mm with m0 | m1
    · exact absurd m0.2 h9
    · exact m1.2.2.2.2.2.2.2.2.1) mv.1.2.2.2.2.2.2.2.2.2.1 (fun h9 => by
    rcases mm with m0 | m1
    · exact absurd m0.2 h9
    · exact m1.2.2.2.2.2.2.2.1) mv.1.2.2.2.2.2.2.2.2.2.2
  generalize F_m_nth Y nn k = q at P
  have i1 := isSlot_v X k
  unfold F_t_nth
  rcases P with ⟨c, e⟩ | ⟨c, P⟩
  · rw [if_pos (show (F_t_isSlot X k).1 = 0 by omega), e]
    exact ⟨rfl, h⟩
  · rw [if_neg (show ¬ (F_t_isSlot X k).1 = 0 by omega)]
    rcases P with ⟨n0, e⟩ | ⟨n0, P⟩
    · rw [if_neg (show ¬ 0 ≤ iC nn 0 by have := (iC_lt (a := nn) (b := 0)).mpr n0; omega), e]
      exact ⟨rfl, h⟩
    · rw [if_pos (show 0 ≤ iC nn 0 by
        rcases Int.lt_or_le (iC nn 0) 0 with h9 | h9
        · have := iC_lt.mp h9; omega
        · exact h9)]
      rcases mm with ⟨m0, m1⟩ | ⟨m0, m1, mc⟩
      · rw [if_pos m0]
        rcases P with ⟨_, e⟩ | ⟨p1, _⟩
        · rw [e]; exact ⟨rfl, h⟩
        · exact absurd m1 p1
      · rw [if_neg (show ¬ (F_t_isProved X).1 = 0 by omega)]
        rcases P with ⟨p1, _⟩ | ⟨_, P⟩
        · rw [m1] at p1; exact absurd p1 (by decide)
        · have k1 := kW_slot (i := k) (by omega) (by omega)
          have k2 := kL_slot (i := k) (by omega) (by omega)
          have k8 : k.toNat < 8 := by omega
          have W := writeN_x mc.2.2.1 ki.1.2.2.2 ki.2.2.2.2.2.2.1.2.2.1 mc.2.2.2.1 k1 k2 n0
          have R3 := (wn_r (w := 7 + 2 * k.toNat) (by omega) (by omega) 2000).1 X nn nn 0 0 0 0 ki.1.1.1.1 (ki.2.2.2.2.2.1.1 _ k8).2.1
          have R3 : r03 ((F_a_writeNumber X (7 + 2 * k.toNat) nn).2.2 (7 + 2 * k.toNat + 1)) := R3
          generalize F_a_writeNumber X (7 + 2 * k.toNat) nn = Q at W R3
          obtain ⟨w1, w2, W⟩ := W
          have plx := mc.2.2.2.2.2.2.1.1
          have l0 : 0 ≤ Y.1 0 := by have := mv.1.1; omega
          rcases W with ⟨q1, q2, q3⟩ | ⟨q1, V, v1, v2, v3, v4⟩
          · rw [if_pos q1, q2]
            rcases P with ⟨e, _⟩ | ⟨w, z1, z2, z3, z4, z5⟩
            · rw [e]; exact ⟨rfl, h⟩
            · exfalso
              have := rk_top (pth_of plx l0 z1 z5.2.2.2.2.2.2.1) z2
              omega
          · rw [if_neg (show ¬ Q.1 = 0 by omega)]
            rcases P with ⟨e, p9⟩ | ⟨w, z1, z2, z3, z4, z5⟩
            · exfalso
              have := rk_top v3 v2
              omega
            · have e : V = w := rkV_one v3 (pth_of plx l0 z1 z5.2.2.2.2.2.2.1) (by rw [v4, z3])
              have n12 : (1, 2) ∉ [(7 + 2 * k.toNat, 1), (64, 4), (64, 5)] := by intro h9; simp at h9
              have ok1 : okL (nL Q.2) (wS Q.2 (7 + 2 * k.toNat)) := by
                rw [wL_S v1, e]
                have eN : nL Q.2 = (Y.1 0).toNat := by unfold nL; rw [w1.1 1 2 n12, sw.1]
                rw [eN]
                exact z5.2.2.2.2.2.2.1
              refine ⟨?_, Rel_put2 h k8 w1 w2 v1 ⟨by rw [v1.1]; omega, R3, ok1⟩ (by rw [e]; exact slC_S z5)⟩
              show Q.2.1 (7 + 2 * k.toNat) 1 = q.1
              rw [v1.1, z4, e]
