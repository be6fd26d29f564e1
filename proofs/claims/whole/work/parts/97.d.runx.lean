-- deps: 30 31 32 33 34 35 36 37 38 39 40 41 42 43 46 70 71 72 73 74 75 76 77 78 79 80 81 82 83 84 85 86 87 88 89 90 91 92 93 94 95 97.a 97.b 97.c
/-! the Grower's run: each turn brings the STRING ahead, and there are fewer STRINGS than turns -/
def mO (u : List Int) : Nat := gsm 4 u.length + vl 4 u
theorem vl4_lt {u : List Int} (h : okL 4 u) : vl 4 u < 4 ^ u.length := (vl_lt u.length u rfl h).resolve_right (by decide)
theorem mO_lt {u v : List Int} (hu : okL 4 u) (hv : okL 4 v) (h : knm u < knm v) : mO u < mO v := by
  have bu := vl4_lt hu
  have e : gsm 4 (u.length + 1) = gsm 4 u.length + 4 ^ u.length := rfl
  rcases Nat.lt_trichotomy u.length v.length with c | c | c
  · have := gsm_mono 4 (a := u.length + 1) (b := v.length) c
    unfold mO
    omega
  · have hv2 : vl 4 u < vl 4 v := by
      rcases Nat.lt_trichotomy (vl 4 u) (vl 4 v) with d | d | d
      · exact d
      · exfalso
        have e1 := dl_vl u.length u rfl hu
        have e2 := dl_vl v.length v rfl hv
        rw [← c, ← d, e1] at e2
        rw [e2] at h
        exact absurd h (Nat.lt_irrefl _)
      · have := vl_knm (n := 4) (Nat.le_refl _) u.length v u c.symm rfl hv hu d
        omega
    unfold mO
    rw [c]
    omega
  · have := knm_short c
    omega
theorem mO_b {u : List Int} (hu : okL 4 u) (h : u.length ≤ 60) : mO u < 5316911983139663491615228241121378304 := by
  have bu := vl4_lt hu
  have e : gsm 4 (u.length + 1) = gsm 4 u.length + 4 ^ u.length := rfl
  have := gsm_mono 4 (a := u.length + 1) (b := 61) (by omega)
  have e2 : gsm 4 61 < 5316911983139663491615228241121378304 := by decide +kernel
  unfold mO
  omega
/-- the Grower stands, at a STRING -/
def gAt (x : KS) (src : List Int) (y : KS) (S : List Int) : Prop := ∃ Ah P B, grI x y src Ah P B ∧ knR y (kWl y) ∧ idX y P ∧ Ah ++ (P ++ B.reverse) = S
theorem gAt_ok {x y : KS} (mx : mcX x) {src S : List Int} (g : gAt x src y S) : gOK (kWl y) y ∧ okL 4 S ∧ S.length ≤ 60 ∧ rch (lS x) (rS x) (nR x) src S := by
  obtain ⟨Ah, P, B, g, kn, id, e⟩ := g
  obtain ⟨sm, w88, w90, fr, ok1, ok2, h60, lv, st, low, ki, gw⟩ := g.1
  have okB : okL (nL x) B.reverse := fun l hl => ok2 l (List.mem_reverse.mp hl)
  refine ⟨⟨x, src, Ah, P, B, mx, g, kn, id⟩, ?_, ?_, ?_⟩
  · rw [← e]
    exact okL4 mx (okL_app.mpr ⟨(okL_app.mp ok1).1, okL_app.mpr ⟨(okL_app.mp ok1).2, okB⟩⟩)
  · rw [← e, List.length_append, List.length_append, List.length_reverse]; omega
  · rw [← e]; exact stk_all _ _ _ _ st
theorem kWl_fr {S : List (Nat × Nat)} {A : List Nat} {y z : KS} (h : ksame S A y z) (h1 : (101, 9) ∉ S) : kWl z = kWl y := by unfold kWl; rw [h.1 101 9 h1]
/-- growOn from there -/
theorem gAt_on {x y : KS} (mx : mcX x) {src S : List Int} (g : gAt x src y S) : ((F_g_growOn y).1 = 0 ∧ ∃ z, z = (F_g_growOn y).2 ∧ grI x z src [] S [] ∧ knR z (kWl z) ∧ idX z S) ∨ ((F_g_growOn y).1 = 1 ∧ ∃ S', okL 4 S' ∧ S'.length ≤ 60 ∧ knm S' < knm S ∧ gF (kWl (F_g_growOn y).2) (F_g_growOn y).2 ((F_g_growOn y).2.2 99 ((F_g_growOn y).2.1 87 13).toNat) ∧ gAt x src (F_g_replace (F_g_growOn y).2 ((F_g_growOn y).2.2 99 ((F_g_growOn y).2.1 87 13).toNat)).2 S') := by
  obtain ⟨Ah, P, B, g, kn, id, e⟩ := g
  have ew : kWl (F_g_growOn y).2 = kWl y := kWl_fr (F_g_growOn_fr y) (by decide)
  rcases F_g_growOn_x mx g kn id with ⟨k1, P', k2, k3, k4, k5⟩ | ⟨k1, Ah', P', B', k2, k3, k4, k5⟩
  · left
    refine ⟨k1, _, rfl, ?_, ?_, ?_⟩
    · rw [← e, ← k3]; exact k2
    · rw [ew]; exact k4
    · rw [← e, ← k3]; exact k5
  · right
    refine ⟨k1, ?_⟩
    have t := F_g_turn_x mx k4 k3 k5
    have fl : (F_g_growOn y).2.2 99 ((F_g_growOn y).2.1 87 13).toNat = (F_g_growOn y).2.2 99 (lvl (F_g_growOn y).2) := rfl
    rw [fl]
    obtain ⟨A2, P2, B2, t1, t2, t3, t4⟩ := t
    have e2 : kWl (F_g_replace (F_g_growOn y).2 ((F_g_growOn y).2.2 99 (lvl (F_g_growOn y).2))).2 = kWl y := by rw [kWl_fr (F_g_replace_fr _ _) (by decide), ew]
    have at2 : gAt x src (F_g_replace (F_g_growOn y).2 ((F_g_growOn y).2.2 99 (lvl (F_g_growOn y).2))).2 (A2 ++ (P2 ++ B2.reverse)) := ⟨A2, P2, B2, t1, by rw [e2]; exact t2, t3, rfl⟩
    have ok2 := gAt_ok mx at2
    refine ⟨A2 ++ (P2 ++ B2.reverse), ok2.2.1, ok2.2.2.1, by rw [← e, ← k2]; exact t4, ?_, at2⟩
    rcases k4 with k4 | k4
    · obtain ⟨gy, i0, a0, T0, l0, eP0, nT0, plT, q, aq, hq, h8, eq⟩ := k4
      refine ⟨x, src, Ah', P', B', q, mx, gy, by rw [ew]; exact k3, hq, h8, by rw [eq, List.length_append]; omega, ?_, Or.inl a0⟩
      rw [a0]
      show ori 2 (P'.reverse.take (lS x q).length) = lS x q
      unfold ori
      rw [if_neg (by decide), eq, List.reverse_append, List.take_append_of_le_length (by rw [List.length_reverse]; exact Nat.le_refl _), List.take_of_length_le (by rw [List.length_reverse]; exact Nat.le_refl _), List.reverse_reverse]
    · obtain ⟨gy, i0, a0, T0, l0, eP0, nT0, pl0, q, bq, hq, h8, eq, plT⟩ := k4
      refine ⟨x, src, Ah', P', B', q, mx, gy, by rw [ew]; exact k3, hq, h8, by rw [eq, List.length_append]; omega, ?_, Or.inr a0⟩
      rw [a0]
      show ori 1 (P'.take (lS x q).length) = lS x q
      unfold ori
      rw [if_pos rfl, eq, List.take_left]
/-- more room: nothing is known then -/
theorem gAt_widen {x y : KS} {src S : List Int} (g : gAt x src y S) : gAt x src (F_k_widen y).2 S := by
  obtain ⟨Ah, P, B, g, kn, id, e⟩ := g
  have f := F_k_widen_fr y
  by_cases c : 262144 ≤ y.1 101 9
  · have e9 : F_k_widen y = (0, y) := if_pos c
    rw [e9]
    exact ⟨Ah, P, B, g, kn, id, e⟩
  · have e9 : F_k_widen y = (0, kZw y 262144) := if_neg c
    have z9 : (F_k_widen y).2.1 101 9 = 262144 := by rw [e9]; unfold kZw; rw [kS_s]
    have z102 : ∀ q, q = 102 ∨ q = 103 ∨ q = 104 ∨ q = 105 → (F_k_widen y).2.2 q = fun _ => 0 := fun q hq => by
      rw [e9]
      show (if q = 102 then fun _ => 0 else if q = 103 then fun _ => 0 else if q = 104 then fun _ => 0 else if q = 105 then fun _ => 0 else y.2 q) = fun _ => 0
      rcases hq with h | h | h | h <;> subst h <;> rfl
    have wl9 : kWl (F_k_widen y).2 = 262144 := by unfold kWl; rw [z9]; rfl
    obtain ⟨⟨sm, w88, w90, fr, ok1, ok2, h60, lv, st, low, ki, gw⟩, nP, pl⟩ := g
    have el : lvl (F_k_widen y).2 = lvl y := lvl_fr f (by decide)
    have rz : ∀ j : Nat, iRL ((fun _ : Nat => (0 : Int)) j) := fun j => ⟨by show _ ≤ (0 : Int); decide, by show (0 : Int) < _; decide⟩
    refine ⟨Ah, P, B, ⟨⟨sM_tr sm (sM_of f (by unfold sMs; decide) (by unfold sMa; decide)), wL_fr f (by decide) (by decide) w88, wL_fr f (by decide) (by decide) w90, by rw [f.1 87 12 (by decide)]; exact fr, ok1, ok2, h60, by rw [f.1 87 13 (by decide)]; exact lv, by rw [el]; exact stk_cg _ _ _ _ (fun j _ => lvS_of f (by decide) j) st, by rw [el, f.2 97 (by decide), f.2 98 (by decide)]; exact low, ?_, grW_of f (by decide) gw⟩, nP, by rw [f.2 94 (by decide)]; exact pl⟩, ?_, ?_, e⟩
    · intro i _ hne
      rw [z102 102 (Or.inl rfl)] at hne
      exact absurd rfl hne
    · rw [wl9]
      refine ⟨by rw [z9]; rfl, Or.inr rfl, ?_, ?_, ?_, ?_⟩
      · rw [z102 102 (by simp)]; exact rz
      · rw [z102 103 (by simp)]; exact rz
      · rw [z102 104 (by simp)]; exact rz
      · rw [z102 105 (by simp)]; exact rz
    · unfold idX
      rw [el, f.2 98 (by decide)]
      exact id
/-- how run ends -/
def ruN (x : KS) (w1 : Nat) (src : List Int) (R : Int × KS) : Prop := R.1 = 1 ∧ ∃ (z : KS) (V : List Int), R.2 = (F_w_take z w1 88).2 ∧ grI x z src [] V [] ∧ knR z (kWl z) ∧ V.length ≤ 60 ∧ rch (lS x) (rS x) (nR x) src V ∧ noL (lS x) (nR x) V
theorem F_g_run_s_x {x : KS} (mx : mcX x) {w1 : Nat} {src : List Int} : ∀ n : Nat, (∀ (y : KS) (p9 : Int) (S : List Int), gAt x src y S → 0 ≤ p9 → p9 * 4611686018427387904 + (mO S : Int) ≤ 5316911983139663491615228241121378304 → 3 * (mO S : Int) + 2 < n → ruN x w1 src (F_g_run_s w1 n 0 y p9 0)) ∧ (∀ (y : KS) (p9 t9 : Int) (S : List Int), gAt x src y S → 0 ≤ p9 → 0 ≤ t9 → t9 ≤ 4611686018427387904 → p9 * 4611686018427387904 + t9 + (mO S : Int) ≤ 5316911983139663491615228241121378304 → 3 * (mO S : Int) + 1 + 2 * (t9 / 4611686018427387904) < n → ruN x w1 src (F_g_run_s w1 n 1 y p9 t9)) := by
  intro n
  induction n with
  | zero => exact ⟨fun _ _ _ _ _ _ h => by omega, fun _ _ _ _ _ _ _ _ _ h => by omega⟩
  | succ n ih =>
    refine ⟨fun y p9 S g p0 hb hf => ?_, fun y p9 t9 S g p0 t0 t1 hb hf => ?_⟩
    · rw [F_g_run_e0, if_neg (by rw [Int.not_le, kiC_lt]; omega)]
      exact ih.2 y p9 0 S g p0 (by omega) (by omega) (by omega) (by omega)
    · rw [F_g_run_e1]
      have ok := gAt_ok mx g
      by_cases c : t9 = 4611686018427387904
      · rw [if_pos (by have := kiC_lt (a := t9) (b := 4611686018427387904); omega)]
        exact ih.1 y (p9 + 1) S g (by omega) (by omega) (by omega)
      · rw [if_neg (by rw [Int.not_le, kiC_lt]; omega)]
        rcases gAt_on mx g with ⟨k1, z, ez, k2, k3, k4⟩ | ⟨k1, S', k2, k3, k4, k5, k6⟩
        · rw [if_pos k1, ← ez]
          refine ⟨rfl, z, S, rfl, k2, k3, ok.2.2.1, ok.2.2.2, k2.2.1⟩
        · rw [if_neg (by rw [k1]; decide)]
          have hm := mO_lt k2 ok.2.1 k4
          by_cases c2 : iC t9 1000000 = 0
          · rw [if_pos c2]
            exact ih.2 _ p9 (t9 + 1) S' (gAt_widen k6) p0 (by omega) (by omega) (by omega) (by omega)
          · rw [if_neg c2]
            exact ih.2 _ p9 (t9 + 1) S' k6 p0 (by omega) (by omega) (by omega) (by omega)
/-- what run begins with -/
def ruB (x : KS) (w1 : Nat) : KS := (F_g_await (F_w_drawFrom (kS (kA (kS (F_w_wipe (F_w_wipe x 88).2 90).2 87 12 0) 94 (0 : Int).toNat 0) 87 13 0) 90 w1 0).2 0 (F_w_drawFrom (kS (kA (kS (F_w_wipe (F_w_wipe x 88).2 90).2 87 12 0) 94 (0 : Int).toNat 0) 87 13 0) 90 w1 0).1 1).2
/-- the Grower at rest -/
def gR0 (x y : KS) : Prop := sM x y ∧ grW y ∧ knI x y ∧ knR y (kWl y)
theorem ruB_x {x y : KS} (mx : mcX x) {w1 : Nat} (hw : kW w1 = true) (ne : w1 < 87) {W : List Int} (g : gR0 x y) (h : wL y w1 W) (hr : r03 (y.2 (w1 + 1))) (ok : okL (nL x) W) (h60 : W.length ≤ 60) : gAt x W (ruB y w1) W ∧ kWl (ruB y w1) = kWl y := by
  obtain ⟨sm, gw, ki, kn⟩ := g
  have f0 : ksame [(88, 1), (90, 1), (87, 12), (87, 13)] [94] y (kS (kA (kS (kS (kS y 88 1 0) 90 1 0) 87 12 0) 94 0 0) 87 13 0) := km_s (by decide) (km_a (by decide) (km_s (by decide) (km_s (by decide) (km_s (by decide) (km_rf _ _ _)))))
  have e88 : (kS (kA (kS (kS (kS y 88 1 0) 90 1 0) 87 12 0) 94 0 0) 87 13 0).1 88 1 = 0 := by rw [kS_c (by decide), kA_1, kS_c (by decide), kS_c (by decide), kS_s]
  have e90 : (kS (kA (kS (kS (kS y 88 1 0) 90 1 0) 87 12 0) 94 0 0) 87 13 0).1 90 1 = 0 := by rw [kS_c (by decide), kA_1, kS_c (by decide), kS_s]
  have e12 : (kS (kA (kS (kS (kS y 88 1 0) 90 1 0) 87 12 0) 94 0 0) 87 13 0).1 87 12 = 0 := by rw [kS_k (by decide), kA_1, kS_s]
  have e13 : (kS (kA (kS (kS (kS y 88 1 0) 90 1 0) 87 12 0) 94 0 0) 87 13 0).1 87 13 = 0 := kS_s
  have e94 : (kS (kA (kS (kS (kS y 88 1 0) 90 1 0) 87 12 0) 94 0 0) 87 13 0).2 94 0 = 0 := by rw [kS_2, kA_s, iU_s]
  have eR : ruB y w1 = (F_g_await (F_w_drawFrom (kS (kA (kS (kS (kS y 88 1 0) 90 1 0) 87 12 0) 94 0 0) 87 13 0) 90 w1 0).2 0 (F_w_drawFrom (kS (kA (kS (kS (kS y 88 1 0) 90 1 0) 87 12 0) 94 0 0) 87 13 0) 90 w1 0).1 1).2 := rfl
  have gw0 : grW (kS (kA (kS (kS (kS y 88 1 0) 90 1 0) 87 12 0) 94 0 0) 87 13 0) := by
    obtain ⟨g1, g2, g3, g4, g5⟩ := gw
    refine ⟨g1, g2, g3, ?_, g5⟩
    rw [kS_2, kA_s]
    exact iU_all (P := fun z => -1000 ≤ z ∧ z < 320) ⟨by decide, by decide⟩ g4
  generalize kS (kA (kS (kS (kS y 88 1 0) 90 1 0) 87 12 0) 94 0 0) 87 13 0 = z0 at f0 e88 e90 e12 e13 e94 eR gw0
  have nw : (w1, 1) ∉ [(88, 1), (90, 1), (87, 12), (87, 13)] := by intro h9; simp at h9; omega
  have nr : w1 + 1 ∉ [94] := by intro h9; simp at h9; omega
  have wz : wL z0 w1 ([] ++ W) := wL_fr f0 nw nr h
  have w90 : wL z0 90 [] := ⟨e90, rfl⟩
  have w88 : wL z0 88 [] := ⟨e88, rfl⟩
  have dr := F_w_drawFrom_x (x := z0) (w := 90) (q := w1) (P := []) (Q := []) (T := W) rfl hw (by omega) w90 wz (by show 0 + W.length ≤ 60; omega)
  rw [show ((([] : List Int).length : Nat) : Int) = 0 from rfl, List.nil_append] at dr
  have fd := F_w_drawFrom_fr z0 90 w1 0
  have gwd : grW (F_w_drawFrom z0 90 w1 0).2 := by
    have r91 := F_w_drawFrom_r (y := z0) (w := 90) (q := w1) (f := 0) (by omega) gw0.2.1 (by rw [f0.2 _ nr]; exact hr)
    have q : ∀ c, c ≠ 91 → (F_w_drawFrom z0 90 w1 0).2.2 c = z0.2 c := fun c hc => fd.2 c (by rw [List.mem_singleton]; exact hc)
    unfold grW
    rw [q 89 (by decide), q 93 (by decide), q 94 (by decide), q 95 (by decide), q 96 (by decide), q 97 (by decide), q 98 (by decide), q 99 (by decide), q 100 (by decide)]
    exact ⟨gw0.1, r91, gw0.2.2⟩
  rw [eR, dr.1]
  have fw := F_g_await_fr (F_w_drawFrom z0 90 w1 0).2 0 (W.length : Int) 1
  have gwz := grW_await (a := 0) (m := (W.length : Int)) (w := 1) gwd (Or.inl rfl) (Or.inr rfl) (by omega) (by omega)
  have n13 : (87, 13) ∉ [(w1, 1), (90, 1)] := by intro h9; simp at h9
  have n12 : (87, 12) ∉ [(w1, 1), (90, 1)] := by intro h9; simp at h9
  have n88 : (88, 1) ∉ [(w1, 1), (90, 1)] := by intro h9; simp at h9; omega
  have n09 : (101, 9) ∉ [(w1, 1), (90, 1)] := by intro h9; simp at h9
  have d13 : (F_w_drawFrom z0 90 w1 0).2.1 87 13 = 0 := by rw [fd.1 87 13 n13, e13]
  have z13 : (F_g_await (F_w_drawFrom z0 90 w1 0).2 0 (W.length : Int) 1).2.1 87 13 = 0 := by rw [fw.1 87 13 (by decide), d13]
  have lz : lvl (F_g_await (F_w_drawFrom z0 90 w1 0).2 0 (W.length : Int) 1).2 = 0 := by unfold lvl; rw [z13]; rfl
  have z97 : (F_g_await (F_w_drawFrom z0 90 w1 0).2 0 (W.length : Int) 1).2.2 97 0 = (W.length : Int) := by
    unfold F_g_await
    rw [d13, kA_c (by decide), kA_c (by decide), kA_s]
    exact iU_s
  have z98 : (F_g_await (F_w_drawFrom z0 90 w1 0).2 0 (W.length : Int) 1).2.2 98 0 = 0 := by
    unfold F_g_await
    rw [d13, kA_s]
    exact iU_s
  have z99 : (F_g_await (F_w_drawFrom z0 90 w1 0).2 0 (W.length : Int) 1).2.2 99 0 = 0 := by
    unfold F_g_await
    rw [d13, kA_c (by decide), kA_c (by decide), kA_c (by decide), kA_s]
    exact iU_s
  have z94 : (F_g_await (F_w_drawFrom z0 90 w1 0).2 0 (W.length : Int) 1).2.2 94 0 = 0 := by rw [fw.2 94 (by decide), fd.2 94 (by simp), e94]
  have z12 : (F_g_await (F_w_drawFrom z0 90 w1 0).2 0 (W.length : Int) 1).2.1 87 12 = 0 := by rw [fw.1 87 12 (by decide), fd.1 87 12 n12, e12]
  have z09 : (F_g_await (F_w_drawFrom z0 90 w1 0).2 0 (W.length : Int) 1).2.1 101 9 = y.1 101 9 := by rw [fw.1 101 9 (by decide), fd.1 101 9 n09, f0.1 101 9 (by decide)]
  have sS : ∀ p ∈ [(w1, 1), (90, 1)], sMs p := fun p hp => by
    rcases List.mem_cons.mp hp with e | e
    · rw [e]; exact sMs_w hw
    · rw [List.mem_singleton] at e; rw [e]; unfold sMs; decide
  have smz : sM x (F_g_await (F_w_drawFrom z0 90 w1 0).2 0 (W.length : Int) 1).2 := sM_tr (sM_tr (sM_tr sm (sM_of f0 (by unfold sMs; decide) (by unfold sMa; decide))) (sM_of fd sS (by unfold sMa; decide))) (sM_of fw (by unfold sMs; decide) (by unfold sMa; decide))
  have kq9 : ∀ q, q = 102 ∨ q = 103 ∨ q = 104 ∨ q = 105 → (F_g_await (F_w_drawFrom z0 90 w1 0).2 0 (W.length : Int) 1).2.2 q = y.2 q := fun q hq => by
    rcases hq with e | e | e | e <;> subst e
    all_goals rw [fw.2 _ (by decide), fd.2 _ (by simp), f0.2 _ (by decide)]
  have l00 := lst0 mx
  refine ⟨⟨[], [], W.reverse, ⟨⟨smz, wL_fr fw (by decide) (by decide) (wL_fr fd n88 (by simp) w88), wL_fr fw (by decide) (by decide) dr.2.1, z12, fun l hl => absurd hl List.not_mem_nil, fun l hl => ok l (List.mem_reverse.mp hl), by rw [List.length_reverse]; simp; omega, by rw [z13]; omega, ?_, fun j _ hj => by rw [lz] at hj; omega, ?_, gwz⟩, noL_nil mx, fun j hj => ?_⟩, ?_, ⟨fun j hj => by rw [lz] at hj; omega, by rw [lz, z98]; omega⟩, by rw [List.reverse_reverse]; rfl⟩, by unfold kWl; rw [z09]⟩
  · rw [lz]
    exact ⟨rfl, by rw [z97, List.reverse_reverse], z99, by rw [List.reverse_reverse, List.nil_append]; exact rch_rf _⟩
  · unfold knI
    rw [z09, kq9 102 (by simp), kq9 103 (by simp), kq9 104 (by simp), kq9 105 (by simp)]
    exact ki
  · have ej : j = 0 := by simpa using hj
    subst ej
    unfold plQ
    show (0 ≤ (F_g_await (F_w_drawFrom z0 90 w1 0).2 0 (W.length : Int) 1).2.2 94 0 ∧ _) ∧ lsx _ _ [] (stS x ((F_g_await (F_w_drawFrom z0 90 w1 0).2 0 (W.length : Int) 1).2.2 94 0).toNat)
    rw [z94]
    exact ⟨⟨Int.le_refl _, by show (F_g_await (F_w_drawFrom z0 90 w1 0).2 0 (W.length : Int) 1).2.2 94 0 < _; rw [z94]; exact l00.1⟩, l00.2⟩
  · have e9 : kWl (F_g_await (F_w_drawFrom z0 90 w1 0).2 0 (W.length : Int) 1).2 = kWl y := by unfold kWl; rw [z09]
    rw [e9]
    unfold knR
    rw [z09, kq9 102 (by simp), kq9 103 (by simp), kq9 104 (by simp), kq9 105 (by simp)]
    exact kn
/-- the Grower reduces: from a STRING by RULES to one without a LEFT side -/
theorem F_g_run_x {x y : KS} (mx : mcX x) {w1 : Nat} (hw : kW w1 = true) (ne : w1 < 87) {W : List Int} (g : gR0 x y) (h : wL y w1 W) (hr : r03 (y.2 (w1 + 1))) (ok : okL (nL x) W) (h60 : W.length ≤ 60) : ruN x w1 W (F_g_run y w1) := by
  have b := (ruB_x mx hw ne g h hr ok h60).1
  have m := mO_b (okL4 mx ok) h60
  refine (F_g_run_s_x mx runF).1 (ruB y w1) 0 W b (Int.le_refl _) (by omega) ?_
  have e : runF = 85070591730234615865843651857942052864 := by unfold runF; decide +kernel
  rw [e]
  omega
