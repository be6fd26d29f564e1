-- deps: A0.i
/-! the reference: reduced, reduce, like -/
/-- what stands of what is SEEN -/
def snH (x : MS) : Prop := ∃ m : Nat, x.1 6 = (m : Int) ∧ 1 ≤ m ∧ m ≤ 20 ∧ x.1 7 = gS (x.1 0) (m + 1) ∧ x.1 7 ≤ 10000 ∧ (x.1 0 ≠ 1 → ∀ k : Nat, k ≤ m + 1 → x.2 8 k = gS (x.1 0) k) ∧ jOK x ∧ fR x ∧ hdR x
def rcS (x y : MS) (k : Nat) : Prop := same [10] [1, 2, 9, 11, 26] x y ∧ rwR y ∧ (∀ j, j ≠ k → y.2 1 j = x.2 1 j) ∧ (∀ i, i < 128 * k ∨ 128 * k + 128 ≤ i → i < 1408 ∨ 1536 ≤ i → y.2 2 i = x.2 2 i) ∧ (jOK x → jOK y) ∧ (jOK x → ∀ v : Int, 0 ≤ v → v < 10001 → rp (y.2 9) v = rp (x.2 9) v) ∧ (hdR x → hdR y)
theorem rcS_D {x y : MS} {k : Nat} (d : slD x y k) : rcS x y k := by
  have e9 : y.2 9 = x.2 9 := d.1.2 9 (by decide)
  have e11 : y.2 11 = x.2 11 := d.1.2 11 (by decide)
  exact ⟨sm_mono (by decide) (by decide) d.1, d.2.1, d.2.2.1, d.2.2.2, fun h j hj => by rw [e9]; exact h j hj, fun _ v _ _ => by rw [e9], fun h => by unfold hdR; rw [e11]; exact h⟩
/-- hand holds u, the first i of its LETTERS stand in slot k -/
def rcJ (x y : MS) (a k i : Nat) (u : List Int) : Prop := rcS x y k ∧ hM y = u ∧ y.1 10 = (u.length : Int) ∧ y.2 1 k = (u.length : Int) ∧ (∀ j, j < i → y.2 2 (128 * k + j) = y.2 11 j) ∧ okL (x.1 0).toNat u ∧ num (x.1 0).toNat u = rp (x.2 9) (num (x.1 0).toNat (slM x a)) ∧ u.length ≤ 20 ∧ hdR y ∧ jOK y
theorem slM_len {x : MS} {k : Nat} : (slM x k).length = (x.2 1 k).toNat := by unfold slM ltM; rw [List.length_map, List.length_range]
theorem rc_num {x : MS} {a : Nat} (sh : snH x) (l0 : 1 ≤ x.1 0) (ha : slH x a) (sz : x.2 1 a ≤ x.1 6) : 0 ≤ num (x.1 0).toNat (slM x a) ∧ num (x.1 0).toNat (slM x a) < x.1 7 ∧ x.1 7 ≤ 10000 := by
  obtain ⟨m, e6, m1, m20, e7, h7, fx, jx, fr, hd⟩ := sh
  have l := slM_len (x := x) (k := a)
  have n1 := num_lt (n := (x.1 0).toNat) (by omega) ha.2 (m := m) (by have := ha.1; omega)
  rw [show (((x.1 0).toNat : Nat) : Int) = x.1 0 by omega, ← e7] at n1
  exact ⟨num_0 (by omega) ha.2, n1, h7⟩
def rcE (x y : MS) (a k i : Nat) : Prop := ∃ u, rcJ x y a k i u
def lyC (z : MS) (w : Int) : Prop := z.1 0 = 1 ∨ (fR z ∧ ∃ K : Nat, 1 ≤ K ∧ K < 64 ∧ w < z.2 8 K)
theorem rc_0 {x y : MS} {a k : Nat} {w : Int} (sh : snH x) (lt : 1 ≤ x.1 0 ∧ x.1 0 ≤ 4) (ha : slH x a) (sz : x.2 1 a ≤ x.1 6) (d : slD x y k) (hw : w = num (x.1 0).toNat (slM x a)) (hk : k < 13) : (0 ≤ w ∧ w < 10001 ∧ jOK y) ∧ (0 ≤ (F_m_root y w).1 ∧ (F_m_root y w).1 ≤ 20000 ∧ lyC (F_m_root y w).2 (F_m_root y w).1 ∧ (1 ≤ (F_m_root y w).2.1 0 ∧ (F_m_root y w).2.1 0 ≤ 4)) ∧ rcE x (aU (F_m_layAny (F_m_root y w).2 (F_m_root y w).1).2 1 k ((F_m_layAny (F_m_root y w).2 (F_m_root y w).1).2.1 10)) a k 0 := by
  have n9 := rc_num sh lt.1 ha sz
  rw [← hw] at n9
  obtain ⟨m, e6, m1, m20, e7, h7, fx, jx, fr, hd⟩ := sh
  have e9 : y.2 9 = x.2 9 := d.1.2 9 (by decide)
  have jy : jOK y := fun j hj => by rw [e9]; exact jx j hj
  obtain ⟨r1, r2, r3⟩ := root_x jy n9.1 (show w < 10001 by omega)
  have fo := F_m_root_fr y w
  have h0 : ldn (x.2 9) 10001 := fun q hq => jx q (by omega)
  have kb := rp_ok h0 w.toNat w n9.1 (by omega) (Nat.le_refl _)
  rw [e9] at r1 r3
  have rs : ∀ q, (F_m_root y w).2.1 q = x.1 q := fun q => (fo.1 q List.not_mem_nil).trans (d.1.1 q List.not_mem_nil)
  have r8 : (F_m_root y w).2.2 8 = x.2 8 := (fo.2 8 (by decide)).trans (d.1.2 8 (by decide))
  have r11 : (F_m_root y w).2.2 11 = x.2 11 := (fo.2 11 (by decide)).trans (d.1.2 11 (by decide))
  have frz : fR (F_m_root y w).2 := by unfold fR; rw [r8]; exact fr
  have LA := layAny_x (x := (F_m_root y w).2) (M := m) (by rw [rs]; exact lt.1) (by omega) (by rw [rs, r8]; exact fx) (w := (F_m_root y w).1) (by rw [r1]; exact kb.1) (by rw [r1, rs, ← e7]; omega)
  have HD := layAny_hd (x := (F_m_root y w).2) (M := m) (w := (F_m_root y w).1) (by rw [rs]; exact lt.1) (by rw [rs]; exact lt.2) m20 (by rw [rs, r8]; exact fx) (by rw [r1]; exact kb.1) (by rw [r1, rs, ← e7]; omega) (by unfold hdR; rw [r11]; exact hd)
  have fl := F_m_layAny_fr (F_m_root y w).2 (F_m_root y w).1
  refine ⟨⟨n9.1, by omega, jy⟩, ⟨by rw [r1]; exact kb.1, by rw [r1]; omega, ?_, by rw [rs]; exact lt⟩, ?_⟩
  · by_cases c : x.1 0 = 1
    · exact Or.inl (by rw [rs]; exact c)
    · refine Or.inr ⟨frz, m + 1, by omega, by omega, ?_⟩
      rw [r1, r8, fx c _ (Nat.le_refl _), ← e7]
      omega
  · rw [rs, r1, hw] at LA
    rw [r1, hw] at HD fl ⊢
    rw [hw] at r2 r3 fo r8 r11 frz rs
    generalize (F_m_root y (num (x.1 0).toNat (slM x a))).2 = q at LA HD fl r2 r3 fo r8 r11 frz rs
    generalize (F_m_layAny q (rp (x.2 9) (num (x.1 0).toNat (slM x a)))).2 = z at LA HD fl
    obtain ⟨ok, nu, len, le⟩ := LA
    have z9 : z.2 9 = q.2 9 := fl.2 9 (by decide)
    have zs1 : z.2 1 = y.2 1 := (fl.2 1 (by decide)).trans (fo.2 1 (by decide))
    have zs2 : z.2 2 = y.2 2 := (fl.2 2 (by decide)).trans (fo.2 2 (by decide))
    refine ⟨hM z, ⟨?_, ?_, ?_, ?_, ?_, ?_, ?_⟩, rfl, len, by rw [yU_s, iU_s]; exact len, fun j hj => by omega, ok, nu, by omega, HD, fun j hj => by rw [show (aU z 1 k (z.1 10)).2 9 = z.2 9 from yU_n (by decide), z9]; exact r2 j hj⟩
    · refine sm_a (by decide) (sm_tr (sm_mono (by decide) (by decide) d.1) (sm_tr (sm_mono (by decide) (by decide) fo) (sm_mono (by decide) (by decide) fl)))
    · intro j hj
      rw [show (aU z 1 k (z.1 10)).2 2 = z.2 2 from yU_n (by decide), zs2]
      exact d.2.1 j hj
    · intro j hj
      rw [yU_s, iU_n hj, zs1]
      exact d.2.2.1 j hj
    · intro i h1 h2
      rw [show (aU z 1 k (z.1 10)).2 2 = z.2 2 from yU_n (by decide), zs2]
      exact d.2.2.2 i h1 h2
    · intro _ j hj
      rw [show (aU z 1 k (z.1 10)).2 9 = z.2 9 from yU_n (by decide), z9]
      exact r2 j hj
    · intro _ v v0 v1
      rw [show (aU z 1 k (z.1 10)).2 9 = z.2 9 from yU_n (by decide), z9]
      exact r3 v v0 v1
    · exact fun _ => HD
theorem rcJ_s {x y : MS} {a k i : Nat} {u : List Int} (h : rcJ x y a k i u) (hi : i < u.length) (hk : k < 13) : rcJ x (aU y 2 (128 * k + i) (y.2 11 i)) a k (i + 1) u := by
  obtain ⟨⟨s1, s2, s3, s4, s5, s6, s7⟩, h2, h3, h4, h5, h6, h7, h8, h9, h10⟩ := h
  have e11 : (aU y 2 (128 * k + i) (y.2 11 i)).2 11 = y.2 11 := yU_n (by decide)
  have e9 : (aU y 2 (128 * k + i) (y.2 11 i)).2 9 = y.2 9 := yU_n (by decide)
  have e1 : (aU y 2 (128 * k + i) (y.2 11 i)).2 1 = y.2 1 := yU_n (by decide)
  refine ⟨⟨sm_a (by decide) s1, ?_, by rw [e1]; exact s3, ?_, fun g j hj => by rw [e9]; exact s5 g j hj, fun g v v0 v1 => by rw [e9]; exact s6 g v v0 v1, fun g => by unfold hdR; rw [e11]; exact s7 g⟩, by rw [← h2]; unfold hM; rw [e11]; rfl, h3, by rw [e1]; exact h4, ?_, h6, h7, h8, by unfold hdR; rw [e11]; exact h9, fun j hj => by rw [e9]; exact h10 j hj⟩
  · intro j hj
    rw [yU_s, yU_if]
    by_cases e : j = 128 * k + i
    · rw [if_pos e]; exact h9 i (by omega)
    · rw [if_neg e]; exact s2 j hj
  · intro j h1 h2
    rw [yU_s, iU_n (by omega)]
    exact s4 j h1 h2
  · intro j hj
    rw [yU_s, e11, yU_if]
    by_cases e : j = i
    · rw [if_pos (by omega), e]
    · rw [if_neg (by omega)]; exact h5 j (by omega)
/-- what reduced leaves in a slot -/
def resM (x : MS) (a : Nat) (u : List Int) : Prop := (x.1 27 = 1 ∧ nfP x (slM x a) u) ∨ (x.1 27 = 0 ∧ x.2 1 a ≤ x.1 6 ∧ num (x.1 0).toNat u = rp (x.2 9) (num (x.1 0).toNat (slM x a)))
def stM (x : MS) (a : Nat) : Prop := x.1 6 = -9 ∨ (x.1 27 = 0 ∧ x.1 6 < x.2 1 a)
def rcQ (x : MS) (a k : Nat) (q : Int × MS) : Prop := (q = (-3, x) ∧ stM x a) ∨ (q.1 = 0 ∧ ¬ stM x a ∧ rcS x q.2 k ∧ ∃ u, slK x q.2 k u ∧ resM x a u)
theorem rc_r1 {x y : MS} {a k i : Nat} (nc : x.1 27 = 0) (ns : ¬ x.1 6 = -9) (sz : x.2 1 a ≤ x.1 6) (h : ∃ u, rcJ x y a k i u) (hi : y.1 10 ≤ (i : Int)) : rcQ x a k (0, y) := by
  obtain ⟨u, h1, h2, h3, h4, h5, h6, h7, h8, h9, h10⟩ := h
  refine Or.inr ⟨rfl, fun e => ?_, h1, u, ⟨h4, ?_, h6, by omega⟩, Or.inr ⟨nc, sz, h7⟩⟩
  · rcases e with e | ⟨_, e⟩
    · exact ns e
    · omega
  · rw [← h2]
    show ltM y k (y.2 1 k).toNat = hM y
    unfold ltM hM
    rw [h4, h3]
    exact map_e (fun j hj => h5 j (by omega))
theorem rc_v {x y : MS} {a : Nat} {v i : Int} (l0 : 1 ≤ x.1 0) (ha : slH x a) (i0 : 0 ≤ i) (hi : i < x.2 1 a) (e : y.2 2 (128 * a + i.toNat) = x.2 2 (128 * a + i.toNat)) (hv : v = ((vl (x.1 0).toNat ((slM x a).take i.toNat) : Nat) : Int)) : v * x.1 0 + y.2 2 (128 * a + i.toNat) = ((vl (x.1 0).toNat ((slM x a).take (i + (1 : Int)).toNat) : Nat) : Int) := by
  have ln := slM_len (x := x) (k := a)
  have h1 : i.toNat < (slM x a).length := by omega
  have g : (slM x a)[i.toNat] = x.2 2 (128 * a + i.toNat) := ltM_get (show i.toNat < (ltM x a (x.2 1 a).toNat).length from h1)
  have o := ha.2 _ (List.getElem_mem h1)
  rw [g] at o
  rw [show (i + (1 : Int)).toNat = i.toNat + 1 by omega, take_get h1, vl_snoc, g, e, hv, Int.natCast_add, Int.natCast_mul, show (((x.1 0).toNat : Nat) : Int) = x.1 0 by omega]
  omega
/-- slot c holds u, the others 0 .. 8 are as they were -/
def rdS (x z : MS) (c : Nat) (u : List Int) : Prop := same [10] [1, 2, 9, 11, 26] x z ∧ rwR z ∧ (∀ j, j < 9 → j ≠ c → z.2 1 j = x.2 1 j) ∧ (∀ i, i < 1152 → i < 128 * c ∨ 128 * c + 128 ≤ i → z.2 2 i = x.2 2 i) ∧ slK x z c u ∧ (jOK x → jOK z) ∧ (jOK x → ∀ v : Int, 0 ≤ v → v < 10001 → rp (z.2 9) v = rp (x.2 9) v) ∧ (hdR x → hdR z)
def rdN (x z : MS) : Prop := same [10] [1, 2, 9, 11, 26] x z ∧ rwR z ∧ (∀ j, j < 9 → z.2 1 j = x.2 1 j) ∧ (∀ i, i < 1152 → z.2 2 i = x.2 2 i) ∧ (jOK x → jOK z) ∧ (jOK x → ∀ v : Int, 0 ≤ v → v < 10001 → rp (z.2 9) v = rp (x.2 9) v) ∧ (hdR x → hdR z)
theorem rcS_N {x y : MS} {k : Nat} (hk : k = 9 ∨ k = 10) (h : rcS x y k) : rdN x y := ⟨h.1, h.2.1, fun j hj => h.2.2.1 j (by omega), fun i hi => h.2.2.2.1 i (by omega) (by omega), h.2.2.2.2⟩
theorem rdN_0 {x : MS} (h : rwR x) : rdN x x := ⟨sm_rf _ _ _, h, fun _ _ => rfl, fun _ _ => rfl, fun g => g, fun _ _ _ _ => rfl, fun g => g⟩
theorem rdN_t {x y z : MS} (h : rdN x y) (g : rdN y z) : rdN x z := ⟨sm_tr h.1 g.1, g.2.1, fun j hj => (g.2.2.1 j hj).trans (h.2.2.1 j hj), fun i hi => (g.2.2.2.1 i hi).trans (h.2.2.2.1 i hi), fun q => g.2.2.2.2.1 (h.2.2.2.2.1 q), fun q v v0 v1 => (g.2.2.2.2.2.1 (h.2.2.2.2.1 q) v v0 v1).trans (h.2.2.2.2.2.1 q v v0 v1), fun q => g.2.2.2.2.2.2 (h.2.2.2.2.2.2 q)⟩
theorem rdS_c {x y : MS} {c : Nat} {u : List Int} (f : rcS x y 9) (g : slK x y 9 u) (hc : c < 8) : rdS x (F_m_copy y ((9 : Int)) (c : Int)).2 c u := by
  obtain ⟨d, k⟩ := copy_D (a := 9) (b := c) f.2.1 g (by decide) (by omega)
  have e9 : (F_m_copy y ((9 : Int)) (c : Int)).2.2 9 = y.2 9 := d.1.2 9 (by decide)
  have e11 : (F_m_copy y ((9 : Int)) (c : Int)).2.2 11 = y.2 11 := d.1.2 11 (by decide)
  exact ⟨sm_tr f.1 (sm_mono (by decide) (by decide) d.1), d.2.1, fun j h1 h2 => (d.2.2.1 j h2).trans (f.2.2.1 j (by omega)), fun i h1 h2 => (d.2.2.2 i h2 (by omega)).trans (f.2.2.2.1 i (by omega) (by omega)), k, fun q j hj => by rw [e9]; exact f.2.2.2.2.1 q j hj, fun q v v0 v1 => by rw [e9]; exact f.2.2.2.2.2.1 q v v0 v1, fun q => by unfold hdR; rw [e11]; exact f.2.2.2.2.2.2 q⟩
def rdQ (x : MS) (a c0 : Int) (q : Int × MS) : Prop := (¬ ((0 ≤ a ∧ a ≤ 7) ∧ (0 ≤ c0 ∧ c0 ≤ 7)) ∧ q = (-1, x)) ∨ (((0 ≤ a ∧ a ≤ 7) ∧ (0 ≤ c0 ∧ c0 ≤ 7)) ∧ ((stM x a.toNat ∧ q = (-3, x)) ∨ (¬ stM x a.toNat ∧ ∃ u, resM x a.toNat u ∧ q.1 = (u.length : Int) ∧ rdS x q.2 c0.toNat u)))
def lkQ (x : MS) (a b : Int) (q : Int × MS) : Prop := (¬ ((0 ≤ a ∧ a ≤ 7) ∧ (0 ≤ b ∧ b ≤ 7)) ∧ q = (-1, x)) ∨ (((0 ≤ a ∧ a ≤ 7) ∧ (0 ≤ b ∧ b ≤ 7)) ∧ rdN x q.2 ∧ (((stM x a.toNat ∨ stM x b.toNat) ∧ q.1 = -3) ∨ (¬ stM x a.toNat ∧ ¬ stM x b.toNat ∧ ∃ u v, resM x a.toNat u ∧ resM x b.toNat v ∧ q.1 = if u = v then 1 else 0)))
theorem rc_same {x y : MS} {b : Nat} (f : rcS x y 9) (hb : b < 8) (h60 : x.2 1 b ≤ 60) : slM y b = slM x b ∧ y.2 1 b = x.2 1 b := by
  have e := f.2.2.1 b (by omega)
  refine ⟨?_, e⟩
  unfold slM ltM
  rw [e]
  exact map_e (fun j hj => f.2.2.2.1 _ (by omega) (by omega))
theorem rc_keep9 {x y z : MS} {u : List Int} (f : rcS y z 10) (g : slK x y 9 u) : slK x z 9 u := by
  obtain ⟨g1, g2, g3, g4⟩ := g
  have e := f.2.2.1 9 (by decide)
  refine ⟨by rw [e]; exact g1, ?_, g3, g4⟩
  rw [← g2]
  unfold slM ltM
  rw [e]
  exact map_e (fun j hj => f.2.2.2.1 _ (by omega) (by omega))
theorem rc_LR {x y : MS} {k : Nat} (f : rcS x y k) : lM y = lM x ∧ rM y = rM x ∧ y.1 12 = x.1 12 ∧ y.1 0 = x.1 0 ∧ y.1 6 = x.1 6 ∧ y.1 27 = x.1 27 := by
  refine ⟨funext fun r => ?_, funext fun r => ?_, f.1.1 12 (by decide), f.1.1 0 (by decide), f.1.1 6 (by decide), f.1.1 27 (by decide)⟩
  · unfold lM; rw [f.1.2 13 (by decide), f.1.2 14 (by decide)]
  · unfold rM; rw [f.1.2 15 (by decide), f.1.2 16 (by decide)]
theorem plX_g {x y : MS} (e0 : y.1 0 = x.1 0) (e12 : y.1 12 = x.1 12) (e17 : y.1 17 = x.1 17) (e24 : y.1 24 = x.1 24) (e13 : y.2 13 = x.2 13) (e14 : y.2 14 = x.2 14) (e19 : y.2 19 = x.2 19) (e21 : y.2 21 = x.2 21) (e23 : y.2 23 = x.2 23) (e25 : y.2 25 = x.2 25) (h : plX x) : plX y := by
  obtain ⟨pr, str, N, S, hN⟩ := h
  refine ⟨plR_eq pr e0 e12 e13 e14, str, N, S, ?_⟩
  unfold plN at hN ⊢
  rw [lM_eq e13 e14, e0, e12, e17, e24, e19, e21, e23, e25]
  exact hN
theorem rlR_g {x y : MS} (e0 : y.1 0 = x.1 0) (e12 : y.1 12 = x.1 12) (e13 : y.2 13 = x.2 13) (e14 : y.2 14 = x.2 14) (e15 : y.2 15 = x.2 15) (e16 : y.2 16 = x.2 16) (h : rlR x) : rlR y := by
  unfold rlR at h ⊢
  rw [lM_eq e13 e14, rM_eq e15 e16, e0, e12, e15]
  exact h
theorem rc_mz {x y : MS} {k : Nat} (f : rcS x y k) (h : mzH x) : mzH y := by
  obtain ⟨eL, eR, e12, e0, _, _⟩ := rc_LR f
  exact ⟨plX_g e0 e12 (f.1.1 17 (by decide)) (f.1.1 24 (by decide)) (f.1.2 13 (by decide)) (f.1.2 14 (by decide)) (f.1.2 19 (by decide)) (f.1.2 21 (by decide)) (f.1.2 23 (by decide)) (f.1.2 25 (by decide)) h.1, rlR_g e0 e12 (f.1.2 13 (by decide)) (f.1.2 14 (by decide)) (f.1.2 15 (by decide)) (f.1.2 16 (by decide)) h.2.1, by unfold rtR; rw [f.1.2 16 (by decide)]; exact h.2.2⟩
theorem rc_sn {x y : MS} {k : Nat} (f : rcS x y k) (h : snH x) : snH y := by
  obtain ⟨m, e6, m1, m20, e7, h7, fx, jx, fr, hd⟩ := h
  obtain ⟨_, _, _, e0, e6y, _⟩ := rc_LR f
  exact ⟨m, by rw [e6y]; exact e6, m1, m20, by rw [f.1.1 7 (by decide), e0]; exact e7, by rw [f.1.1 7 (by decide)]; exact h7, by rw [e0, f.1.2 8 (by decide)]; exact fx, f.2.2.2.2.1 jx, by unfold fR; rw [f.1.2 8 (by decide)]; exact fr, f.2.2.2.2.2.2 hd⟩
theorem rc_res {x y : MS} {b : Nat} {u : List Int} (f : rcS x y 9) (hb : b < 8) (l0 : 1 ≤ x.1 0) (hs : slH x b) (sh : ¬ x.1 6 = -9 → snH x) (ns : ¬ x.1 6 = -9) : (resM y b u → resM x b u) ∧ (stM y b ↔ stM x b) := by
  obtain ⟨eL, eR, e12, e0, e6, e27⟩ := rc_LR f
  obtain ⟨s1, s2⟩ := rc_same f hb hs.1.2
  refine ⟨fun h => ?_, by unfold stM; rw [e6, e27, s2]⟩
  rcases h with ⟨h1, h2⟩ | ⟨h1, h2, h3⟩
  · refine Or.inl ⟨by rw [← e27]; exact h1, ?_⟩
    unfold nfP at h2 ⊢
    rw [eL, eR, e12, s1] at h2
    exact h2
  · rw [e0, s1] at h3
    rw [s2, e6] at h2
    rw [e27] at h1
    have n9 := rc_num (sh ns) l0 hs h2
    obtain ⟨m, _, _, _, _, _, _, jx, _⟩ := sh ns
    rw [f.2.2.2.2.2.1 jx _ n9.1 (by omega)] at h3
    exact Or.inr ⟨h1, h2, h3⟩
theorem rc_slH {x y : MS} {b : Nat} (f : rcS x y 9) (hb : b < 8) (hs : slH x b) : slH y b := by
  obtain ⟨s1, s2⟩ := rc_same f hb hs.1.2
  unfold slH
  rw [s1, s2, f.1.1 0 (by decide)]
  exact hs
theorem rcE_s {x y : MS} {a k : Nat} {o9 i9 : Int} (i0 : 0 ≤ i9) (ho : 0 ≤ o9 ∧ o9.toNat = k ∧ k < 13) (hi : i9 < y.1 10) (h : rcE x y a k i9.toNat) : rcE x (aU y 2 ((128 : Int) * o9 + i9).toNat (y.2 11 i9.toNat)) a k (i9 + (1 : Int)).toNat := by
  obtain ⟨u, h⟩ := h
  have e := h.2.2.1
  rw [show ((128 : Int) * o9 + i9).toNat = 128 * k + i9.toNat by omega, show (i9 + (1 : Int)).toNat = i9.toNat + 1 by omega]
  exact ⟨u, rcJ_s h (by omega) ho.2.2⟩
theorem rc_r2 {x y : MS} {a : Nat} {o9 : Int} (nc : x.1 27 = 1) (ns : ¬ x.1 6 = -9) (ho : o9 = 9 ∨ o9 = 10) (f : slF x y) (mz : mzH x) (d : slD x y o9.toNat) (k : slK x y o9.toNat (slM x a)) : rcQ x a o9.toNat (0, (F_m_reduceAt y o9).2) := by
  obtain ⟨d2, v, k2, n2⟩ := red_D f mz k (by omega) (by omega)
  rw [show ((o9.toNat : Nat) : Int) = o9 by omega] at d2 k2
  refine Or.inr ⟨rfl, fun e => ?_, rcS_D (slD_t d d2), v, k2, Or.inl ⟨nc, n2⟩⟩
  rcases e with e | ⟨e, _⟩
  · exact ns e
  · omega
def F_m_reduced_s : Nat → Nat → MS → Int → Int → Int → Int → Int → Int × MS
  | 0, _, x, _, _, _, _, _ => (0, x)
  | n + 1, t, x, p0, p1, p2, p3, p4 => match t with
    | 0 => (fun (a : Int) (o9 : Int) (w9 : Int) (v : Int) (i9 : Int) => (if (((x).2 1) (a).toNat) ≤ (i9) then F_m_reduced_s n 1 (x) (a) (o9) ((((x).2 8) (((x).2 1) (a).toNat).toNat) + (v)) (0) (0) else F_m_reduced_s n 0 (x) (a) (o9) (w9) (((v) * ((x).1 0)) + (((x).2 2) ((((128 : Int)) * (a)) + (i9)).toNat)) ((i9) + (1 : Int)))) p0 p1 p2 p3 p4
    | 1 => (fun (a : Int) (o9 : Int) (w9 : Int) => F_m_reduced_s n 2 (aU ((F_m_layAny ((F_m_root (x) (w9)).2) ((F_m_root (x) (w9)).1)).2) 1 (o9).toNat (((F_m_layAny ((F_m_root (x) (w9)).2) ((F_m_root (x) (w9)).1)).2).1 10)) (a) (o9) (w9) ((0 : Int)) (0)) p0 p1 p2
    | 2 => (fun (a : Int) (o9 : Int) (w9 : Int) (i9 : Int) => (if ((x).1 10) ≤ (i9) then ((0 : Int), x) else F_m_reduced_s n 2 (aU (x) 2 ((((128 : Int)) * (o9)) + (i9)).toNat (((x).2 11) (i9).toNat)) (a) (o9) (w9) ((i9) + (1 : Int)) (0))) p0 p1 p2 p3
    | _ => (0, x)
theorem F_m_reduced_e0 (n : Nat) (x : MS) (a : Int) (o9 : Int) (w9 : Int) (v : Int) (i9 : Int) : F_m_reduced_s (n + 1) 0 x a o9 w9 v i9 = (if (((x).2 1) (a).toNat) ≤ (i9) then F_m_reduced_s n 1 (x) (a) (o9) ((((x).2 8) (((x).2 1) (a).toNat).toNat) + (v)) (0) (0) else F_m_reduced_s n 0 (x) (a) (o9) (w9) (((v) * ((x).1 0)) + (((x).2 2) ((((128 : Int)) * (a)) + (i9)).toNat)) ((i9) + (1 : Int))) := rfl
theorem F_m_reduced_e1 (n : Nat) (x : MS) (a : Int) (o9 : Int) (w9 : Int) (q0 : Int) (q1 : Int) : F_m_reduced_s (n + 1) 1 x a o9 w9 q0 q1 = F_m_reduced_s n 2 (aU ((F_m_layAny ((F_m_root (x) (w9)).2) ((F_m_root (x) (w9)).1)).2) 1 (o9).toNat (((F_m_layAny ((F_m_root (x) (w9)).2) ((F_m_root (x) (w9)).1)).2).1 10)) (a) (o9) (w9) ((0 : Int)) (0) := rfl
theorem F_m_reduced_e2 (n : Nat) (x : MS) (a : Int) (o9 : Int) (w9 : Int) (i9 : Int) (q0 : Int) : F_m_reduced_s (n + 1) 2 x a o9 w9 i9 q0 = (if ((x).1 10) ≤ (i9) then ((0 : Int), x) else F_m_reduced_s n 2 (aU (x) 2 ((((128 : Int)) * (o9)) + (i9)).toNat (((x).2 11) (i9).toNat)) (a) (o9) (w9) ((i9) + (1 : Int)) (0)) := rfl
def F_m_reduced (x : MS) (a : Int) (o9 : Int) : Int × MS := (if ((x).1 6) = ((-9 : Int)) then ((-3 : Int), x) else (if ((x).1 27) = (0) then (if (((x).2 1) (a).toNat) ≤ ((x).1 6) then (if (((F_m_copy (x) (a) (o9)).2).1 27) = (0) then (if (((F_m_copy (x) (a) (o9)).2).1 0) ≤ ((1 : Int)) then F_m_reduced_s 300 1 ((F_m_copy (x) (a) (o9)).2) (a) (o9) ((((F_m_copy (x) (a) (o9)).2).2 1) (a).toNat) (0) (0) else F_m_reduced_s 300 0 ((F_m_copy (x) (a) (o9)).2) (a) (o9) ((((F_m_copy (x) (a) (o9)).2).2 1) (a).toNat) ((0 : Int)) ((0 : Int))) else ((0 : Int), (F_m_reduceAt ((F_m_copy (x) (a) (o9)).2) (o9)).2)) else ((-3 : Int), x)) else (if (((F_m_copy (x) (a) (o9)).2).1 27) = (0) then (if (((F_m_copy (x) (a) (o9)).2).1 0) ≤ ((1 : Int)) then F_m_reduced_s 300 1 ((F_m_copy (x) (a) (o9)).2) (a) (o9) ((((F_m_copy (x) (a) (o9)).2).2 1) (a).toNat) (0) (0) else F_m_reduced_s 300 0 ((F_m_copy (x) (a) (o9)).2) (a) (o9) ((((F_m_copy (x) (a) (o9)).2).2 1) (a).toNat) ((0 : Int)) ((0 : Int))) else ((0 : Int), (F_m_reduceAt ((F_m_copy (x) (a) (o9)).2) (o9)).2))))
set_option maxHeartbeats 4000000 in
set_option maxRecDepth 100000 in
/-- reduced -/
theorem c_m_reduced (l : Launch) (dC : Nat → ClassId) (dI : Nat → Nat → Nat) (h : Nat) (ad : Nat → Nat) (cI cJ cZ : ClassId) (sz : Nat) (x : MS) (a : Int) (o9 : Int) (a0 : 0 ≤ a) (a1 : a ≤ 7) (ho : o9 = 9 ∨ o9 = 10) (lt : 1 ≤ x.1 0 ∧ x.1 0 ≤ 4) (sn : iR (x.1 6)) (ic : x.1 27 = 0 ∨ x.1 27 = 1) (hrw : rwR x) (ha : slH x a.toNat) (mz : ¬ x.1 6 = -9 → ¬ x.1 27 = 0 → mzH x) (sh : ¬ x.1 6 = -9 → snH x) : Met l yX12_reduced wsX12_reduced ({ frames := 2, cells := 0, slots := 0, locals := 48 }) (mPc dC dI h ad cI cJ cZ sz x [.ref h, .int (iI a), .int (iI o9)]) (va_Qi (fun (r : Int32) (u : MS) => r = iI (F_m_reduced (x) (a) (o9)).1 ∧ u = (F_m_reduced (x) (a) (o9)).2) (mAt dC dI h ad cI cJ cZ (va_A (mW h ad cI cJ cZ (x)) sz)) (va_A (mW h ad cI cJ cZ (x)) sz)) 0 0 (va_A (mW h ad cI cJ cZ (x)) sz) := by
  refine Met.ofW (cc := cX12_reduced) (maxL := 6) (ret := (some .int)) (by decide) rfl ?_
  intro p e s m args below meth c s₁ B hml hv
  obtain ⟨rfl, hsz, hP, hK, hD0⟩ := hv
  have hx := B.exec
  have hb := B.bytes
  have hr := B.returns
  have hts := atoms_spec (ws := wsX12_reduced) B.pre
  have hown : s.vm.findClass RX12 = some m.cls := findClass_of_methodNamed B.named
  have hlocks := B.notSynchronized
  have hin : ∀ w ∈ u_ws RX12 TX12 34, w ∈ wsX12_reduced := by decide +kernel
  subst hsz
  have hD := hD0.self (sz := s.heap.size)
  generalize hAe : va_A (mW h ad cI cJ cZ (x)) s.heap.size = A at hD ⊢
  have hA : ∀ q : Nat, s.heap.size ≤ q → A q := fun q h => by rw [← hAe]; exact Or.inr h
  have hS : va_S A s.heap s.heap [] := va_S.rf
  have hl := lv_entry ([.ref h, .int (iI a), .int (iI o9)]) (n := 6) (Nat.le_of_ble_eq_true rfl)
  rw [lg_entry_eq]
  generalize (lg_sl ([.ref h, .int (iI a), .int (iI o9)]) ++ List.replicate (6 - (lg_sl ([.ref h, .int (iI a), .int (iI o9)])).length) Slot.unset).toArray = ls at hl ⊢
  have hl : lv_has ls 6 [(0, .ref (h)), (1, .int (iI (a))), (2, .int (iI (o9)))] := hl
  have za := ha.1
  have L : ∀ n : Nat, (∀ (y : MS) (w9 : Int) (v : Int) (i9 : Int), (slD x y o9.toNat) → (x.1 27 = 0) → (¬ x.1 6 = -9) → (x.2 1 a.toNat ≤ x.1 6) → (1 < x.1 0) → (v = ((vl (x.1 0).toNat ((slM x a.toNat).take i9.toNat) : Nat) : Int)) → (0 ≤ i9) → (i9 ≤ x.2 1 a.toNat) → (200 - i9 < n) → F_m_reduced_s n 0 y a o9 w9 v i9 = F_m_reduced (x) (a) (o9) → ∀ (H : Heap) (locs : List Loc) (ls : Array Slot), va_P (dC, dI) vwCl (mW h ad cI cJ cZ (y)) H → va_D A (mW h ad cI cJ cZ (y)) → va_S A s.heap H locs → lv_has ls 6 [(0, .ref (h)), (1, .int (iI (a))), (2, .int (iI (o9))), (3, .int (iI (w9))), (4, .int (iI (v))), (5, .int (iI (i9)))] → W p l e (headSpec wsX12_reduced ({ frames := 2, cells := 0, slots := 0, locals := 48 })).room s m ([.ref h, .int (iI a), .int (iI o9)] : List Value).toArray below meth c H locs 0 0 (MQ below (va_Qi (fun (r : Int32) (u : MS) => r = iI (F_m_reduced (x) (a) (o9)).1 ∧ u = (F_m_reduced (x) (a) (o9)).2) (mAt dC dI h ad cI cJ cZ A) A) ([.ref h, .int (iI a), .int (iI o9)] : List Value).toArray s 0 0 A) (F0 m 73 ls [])) ∧ (∀ (y : MS) (w9 : Int), (slD x y o9.toNat) → (x.1 27 = 0) → (¬ x.1 6 = -9) → (x.2 1 a.toNat ≤ x.1 6) → (w9 = num (x.1 0).toNat (slM x a.toNat)) → (100 < n) → F_m_reduced_s n 1 y a o9 w9 0 0 = F_m_reduced (x) (a) (o9) → ∀ (H : Heap) (locs : List Loc) (ls : Array Slot), va_P (dC, dI) vwCl (mW h ad cI cJ cZ (y)) H → va_D A (mW h ad cI cJ cZ (y)) → va_S A s.heap H locs → lv_has ls 6 [(0, .ref (h)), (1, .int (iI (a))), (2, .int (iI (o9))), (3, .int (iI (w9)))] → W p l e (headSpec wsX12_reduced ({ frames := 2, cells := 0, slots := 0, locals := 48 })).room s m ([.ref h, .int (iI a), .int (iI o9)] : List Value).toArray below meth c H locs 0 0 (MQ below (va_Qi (fun (r : Int32) (u : MS) => r = iI (F_m_reduced (x) (a) (o9)).1 ∧ u = (F_m_reduced (x) (a) (o9)).2) (mAt dC dI h ad cI cJ cZ A) A) ([.ref h, .int (iI a), .int (iI o9)] : List Value).toArray s 0 0 A) (F0 m 128 ls [])) ∧ (∀ (y : MS) (w9 : Int) (i9 : Int), (rcE x y a.toNat o9.toNat i9.toNat) → (x.1 27 = 0) → (¬ x.1 6 = -9) → (x.2 1 a.toNat ≤ x.1 6) → (0 ≤ i9) → (i9 ≤ 20) → (30 - i9 < n) → F_m_reduced_s n 2 y a o9 w9 i9 0 = F_m_reduced (x) (a) (o9) → ∀ (H : Heap) (locs : List Loc) (ls : Array Slot), va_P (dC, dI) vwCl (mW h ad cI cJ cZ (y)) H → va_D A (mW h ad cI cJ cZ (y)) → va_S A s.heap H locs → lv_has ls 6 [(0, .ref (h)), (1, .int (iI (a))), (2, .int (iI (o9))), (3, .int (iI (w9))), (4, .int (iI (i9)))] → W p l e (headSpec wsX12_reduced ({ frames := 2, cells := 0, slots := 0, locals := 48 })).room s m ([.ref h, .int (iI a), .int (iI o9)] : List Value).toArray below meth c H locs 0 0 (MQ below (va_Qi (fun (r : Int32) (u : MS) => r = iI (F_m_reduced (x) (a) (o9)).1 ∧ u = (F_m_reduced (x) (a) (o9)).2) (mAt dC dI h ad cI cJ cZ A) A) ([.ref h, .int (iI a), .int (iI o9)] : List Value).toArray s 0 0 A) (F0 m 150 ls [])) := by
    intro n
    induction n with
    | zero =>
      refine ⟨?_, ?_, ?_⟩
      · intro y w9 v i9 d1 nc ns sz l2 vv i0 i1 fu hres
        exact absurd fu (by omega)
      · intro y w9 d1 nc ns sz hw9 fu hres
        exact absurd fu (by omega)
      · intro y w9 i9 ex nc ns sz i0 i1 fu hres
        exact absurd fu (by omega)
    | succ n ih =>
      refine ⟨?_, ?_, ?_⟩
      · intro y w9 v i9 d1 nc ns sz l2 vv i0 i1 fu hres H locs ls hP hD hS hl
        rw [F_m_reduced_e0] at hres
        have e1a : y.2 1 a.toNat = x.2 1 a.toNat := d1.2.2.1 a.toNat (by omega)
        have e2a : ∀ i : Nat, i < 128 → y.2 2 (128 * a.toNat + i) = x.2 2 (128 * a.toNat + i) := fun i hi => d1.2.2.2 _ (by omega) (by omega)
        have e0y : y.1 0 = x.1 0 := d1.1.1 0 List.not_mem_nil
        have e8y : y.2 8 = x.2 8 := d1.1.2 8 (by decide)
        have za := ha.1
        obtain ⟨m9, q6, q1, q20, q7, q7b, qfx, qj, qf, qh⟩ := id (sh ns)
        refine lv_iload hx hb dX12_reduced_73 (lv_at hl 5 rfl) ?_
        refine lv_aload_n hx hb dX12_reduced_75 rfl (lv_at hl 0 rfl) ?_
        refine va_get (D := (dC, dI)) (ci := 12) (v := .ref (ad 1)) (C := RX12) (T := TX12) (N := 34) hx hb hts hin hown hK hP 0 rfl rfl 1 (by decide) (hts (.fieldLink RX12 13 "LikeWordsModel" "size" "[I") (by decide +kernel)) (fun _ h9 => h9) rfl dX12_reduced_76 ?_
        refine lv_iload_n hx hb dX12_reduced_79 rfl (lv_at hl 1 rfl) ?_
        refine wi_iald (f := (y).2 1) hx hb hK hP 1 0 rfl rfl (i := a) (by omega) (by omega) (by decide) dX12_reduced_80 ?_
        refine wi_icmp_ge (tgt := 113) hx hb (by first | assumption | (unfold iR; omega) | exact F_R01 (by assumption)) (by first | assumption | (unfold iR; omega) | exact F_R01 (by assumption)) dX12_reduced_81 (by decide) (fun c_81 => ?_) (fun c_81 => ?_)
        · skip
          rw [if_pos c_81] at hres
          refine lv_aload_n hx hb dX12_reduced_113 rfl (lv_at hl 0 rfl) ?_
          refine va_get (D := (dC, dI)) (ci := 12) (v := .ref (ad 8)) (C := RX12) (T := TX12) (N := 34) hx hb hts hin hown hK hP 0 rfl rfl 8 (by decide) (hts (.fieldLink RX12 29 "LikeWordsModel" "first" "[I") (by decide +kernel)) (fun _ h9 => h9) rfl dX12_reduced_114 ?_
          refine lv_aload_n hx hb dX12_reduced_117 rfl (lv_at hl 0 rfl) ?_
          refine va_get (D := (dC, dI)) (ci := 12) (v := .ref (ad 1)) (C := RX12) (T := TX12) (N := 34) hx hb hts hin hown hK hP 0 rfl rfl 1 (by decide) (hts (.fieldLink RX12 13 "LikeWordsModel" "size" "[I") (by decide +kernel)) (fun _ h9 => h9) rfl dX12_reduced_118 ?_
          refine lv_iload_n hx hb dX12_reduced_121 rfl (lv_at hl 1 rfl) ?_
          refine wi_iald (f := (y).2 1) hx hb hK hP 1 0 rfl rfl (i := a) (by omega) (by omega) (by decide) dX12_reduced_122 ?_
          refine wi_iald (f := (y).2 8) hx hb hK hP 5 0 rfl rfl (i := ((y).2 1) (a).toNat) (by omega) (by omega) (by decide) dX12_reduced_123 ?_
          refine lv_iload hx hb dX12_reduced_124 (lv_at hl 4 rfl) ?_
          refine wi_iadd hx hb dX12_reduced_126 ?_
          refine lv_istore_n (lv' := [(3, .int (iI ((((y).2 8) (((y).2 1) (a).toNat).toNat) + (v)))), (0, .ref (h)), (1, .int (iI (a))), (2, .int (iI (o9))), (4, .int (iI (v))), (5, .int (iI (i9)))]) hx hb dX12_reduced_127 rfl hl (by decide) rfl (fun ls hl => ?_)
          exact ih.2.1 (y) ((((y).2 8) (((y).2 1) (a).toNat).toNat) + (v)) (d1) (nc) (ns) (sz) (by unfold num; rw [slM_len, show (((x.1 0).toNat : Nat) : Int) = x.1 0 by omega, ← qfx (by omega) _ (by omega), vv, e8y, e1a, show i9.toNat = (slM x a.toNat).length by rw [slM_len]; omega, List.take_length]) (by omega) hres _ _ ls hP hD hS (lv_sub hl [1, 2, 3, 0] rfl)
        · skip
          rw [if_neg c_81] at hres
          refine lv_iload hx hb dX12_reduced_84 (lv_at hl 4 rfl) ?_
          refine lv_aload_n hx hb dX12_reduced_86 rfl (lv_at hl 0 rfl) ?_
          refine va_get (D := (dC, dI)) (ci := 12) (v := .int (iI ((y).1 0))) (C := RX12) (T := TX12) (N := 34) hx hb hts hin hown hK hP 0 rfl rfl 0 (by decide) (hts (.fieldLink RX12 7 "LikeWordsModel" "letters" "I") (by decide +kernel)) (fun _ h9 => h9) rfl dX12_reduced_87 ?_
          refine wi_imul hx hb dX12_reduced_90 ?_
          refine lv_aload_n hx hb dX12_reduced_91 rfl (lv_at hl 0 rfl) ?_
          refine va_get (D := (dC, dI)) (ci := 12) (v := .ref (ad 2)) (C := RX12) (T := TX12) (N := 34) hx hb hts hin hown hK hP 0 rfl rfl 2 (by decide) (hts (.fieldLink RX12 17 "LikeWordsModel" "row" "[I") (by decide +kernel)) (fun _ h9 => h9) rfl dX12_reduced_92 ?_
          refine lv_sipush (v := iI (128 : Int)) hx hb dX12_reduced_95 (by decide) ?_
          refine lv_iload_n hx hb dX12_reduced_98 rfl (lv_at hl 1 rfl) ?_
          refine wi_imul hx hb dX12_reduced_99 ?_
          refine lv_iload hx hb dX12_reduced_100 (lv_at hl 5 rfl) ?_
          refine wi_iadd hx hb dX12_reduced_102 ?_
          refine wi_iald (f := (y).2 2) hx hb hK hP 2 0 rfl rfl (i := (((128 : Int)) * (a)) + (i9)) (by omega) (by omega) (by decide) dX12_reduced_103 ?_
          refine wi_iadd hx hb dX12_reduced_104 ?_
          refine lv_istore (lv' := [(4, .int (iI (((v) * ((y).1 0)) + (((y).2 2) ((((128 : Int)) * (a)) + (i9)).toNat)))), (0, .ref (h)), (1, .int (iI (a))), (2, .int (iI (o9))), (3, .int (iI (w9))), (5, .int (iI (i9)))]) hx hb dX12_reduced_105 hl (by decide) rfl (fun ls hl => ?_)
          refine lv_iinc (v := iI ((i9) + (1 : Int))) (lv' := [(5, .int (iI ((i9) + (1 : Int)))), (4, .int (iI (((v) * ((y).1 0)) + (((y).2 2) ((((128 : Int)) * (a)) + (i9)).toNat)))), (0, .ref (h)), (1, .int (iI (a))), (2, .int (iI (o9))), (3, .int (iI (w9)))]) hx hb dX12_reduced_107 hl (k := 5) rfl (iI_add _ _) (by decide) rfl (fun ls hl => ?_)
          refine lv_goto (tgt := 73) hx hb dX12_reduced_110 (by decide) ?_
          exact ih.1 (y) (w9) (((v) * ((y).1 0)) + (((y).2 2) ((((128 : Int)) * (a)) + (i9)).toNat)) ((i9) + (1 : Int)) (d1) (nc) (ns) (sz) (l2) (by rw [e0y, show ((128 : Int) * a + i9).toNat = 128 * a.toNat + i9.toNat by omega]; exact rc_v lt.1 ha i0 (by omega) (e2a _ (by omega)) vv) (by omega) (by omega) (by omega) hres _ _ ls hP hD hS (lv_sub hl [2, 3, 4, 5, 1, 0] rfl)
      · intro y w9 d1 nc ns sz hw9 fu hres H locs ls hP hD hS hl
        rw [F_m_reduced_e1] at hres
        have e1a : y.2 1 a.toNat = x.2 1 a.toNat := d1.2.2.1 a.toNat (by omega)
        have e2a : ∀ i : Nat, i < 128 → y.2 2 (128 * a.toNat + i) = x.2 2 (128 * a.toNat + i) := fun i hi => d1.2.2.2 _ (by omega) (by omega)
        have e0y : y.1 0 = x.1 0 := d1.1.1 0 List.not_mem_nil
        have e8y : y.2 8 = x.2 8 := d1.1.2 8 (by decide)
        have za := ha.1
        obtain ⟨m9, q6, q1, q20, q7, q7b, qfx, qj, qf, qh⟩ := id (sh ns)
        refine lv_aload_n hx hb dX12_reduced_128 rfl (lv_at hl 0 rfl) ?_
        refine lv_aload_n hx hb dX12_reduced_129 rfl (lv_at hl 0 rfl) ?_
        refine lv_iload_n hx hb dX12_reduced_130 rfl (lv_at hl 3 rfl) ?_
        have R0 := rc_0 (sh ns) lt ha sz d1 hw9 (show o9.toNat < 13 by omega)
        obtain ⟨⟨w0, w1, jy⟩, ⟨p0, p1, pf, pl⟩, _⟩ := id R0
        have hFc : ∀ q, va_A (mW h ad cI cJ cZ (y)) H.size q → A q := fun q hq => Or.elim hq (fun ⟨k, e, hk⟩ => hD.2 k (q, e) hk) (fun hk => hA q (Nat.le_trans hS.1 hk))
        refine va_calli (va_runV (As := [.int (iI (w9))]) (rest := [.ref (h)]) ⟨hx, hb, hml, hown, hts⟩ (c_m_root l dC dI h ad cI cJ cZ H.size (y) (w9) w0 w1 jy) (cwV 1 hts gX12_reduced_X12_root rfl rfl rfl (by decide +kernel) ⟨Nat.le_of_ble_eq_true rfl, Nat.le_of_ble_eq_true rfl⟩) ⟨fun a U g mk q => by obtain ⟨q0, q1, qP, qK, qD⟩ := q; exact ⟨q0, q1, qP, va_K.moved (u := U) (U := U.calling g mk a) (Vm.Alike.refl U.vm) qK, qD⟩, va_recv hK hP (ci := 12) (q0 := 0) rfl rfl, fun U hU hW => ⟨rfl, by rw [hU], by rw [hU]; exact hP, va_K.moved hW.alike hK, hD.weaken (fun _ _ _ _ => trivial)⟩⟩ rfl rfl hl.1 rfl (lv_room (Nat.le_of_ble_eq_true rfl)) dX12_reduced_131 ⟨Nat.le_of_ble_eq_true rfl, Nat.le_of_ble_eq_true rfl⟩) hS (fun q _ h => hFc q h) hFc (fun r9 u9 t H1 locs ht hvm hw hB hz1 hk1 hS => ?_)
        obtain ⟨hP1, hK1, hD1⟩ := hB
        rw [ht] at hP1
        obtain ⟨hw1, hw2⟩ := hw
        rw [hw2] at hP1 hD1
        rw [hw1]
        have hD2 := hD1.weaken (B := A) (fun _ q _ h => hFc q.1 h)
        have hP := hP1
        have hD := hD2
        generalize H1 = H at hP hS ⊢
        have hFc : ∀ q, va_A (mW h ad cI cJ cZ ((F_m_root (y) (w9)).2)) H.size q → A q := fun q hq => Or.elim hq (fun ⟨k, e, hk⟩ => hD.2 k (q, e) hk) (fun hk => hA q (Nat.le_trans hS.1 hk))
        refine va_callv (va_runV (As := [.int (iI ((F_m_root (y) (w9)).1))]) (rest := []) ⟨hx, hb, hml, hown, hts⟩ (c_m_layAny l dC dI h ad cI cJ cZ H.size ((F_m_root (y) (w9)).2) ((F_m_root (y) (w9)).1) p0 p1 pf pl) (cwV 1 hts gX12_reduced_X12_layAny rfl rfl rfl (by decide +kernel) ⟨Nat.le_of_ble_eq_true rfl, Nat.le_of_ble_eq_true rfl⟩) ⟨fun a U g mk q => by obtain ⟨q0, q1, qP, qK, qD⟩ := q; exact ⟨q0, q1, qP, va_K.moved (u := U) (U := U.calling g mk a) (Vm.Alike.refl U.vm) qK, qD⟩, va_recv hK hP (ci := 12) (q0 := 0) rfl rfl, fun U hU hW => ⟨rfl, by rw [hU], by rw [hU]; exact hP, va_K.moved hW.alike hK, hD.weaken (fun _ _ _ _ => trivial)⟩⟩ rfl rfl hl.1 rfl (lv_room (Nat.le_of_ble_eq_true rfl)) dX12_reduced_134 ⟨Nat.le_of_ble_eq_true rfl, Nat.le_of_ble_eq_true rfl⟩) hS (fun q _ h => hFc q h) hFc (fun u9 t H1 locs ht hvm hw hB hz1 hk1 hS => ?_)
        obtain ⟨hP1, hK1, hD1⟩ := hB
        rw [ht] at hP1
        rw [hw] at hP1 hD1
        have hD2 := hD1.weaken (B := A) (fun _ q _ h => hFc q.1 h)
        have hP := hP1
        have hD := hD2
        generalize H1 = H at hP hS ⊢
        refine lv_aload_n hx hb dX12_reduced_137 rfl (lv_at hl 0 rfl) ?_
        refine va_get (D := (dC, dI)) (ci := 12) (v := .ref (ad 1)) (C := RX12) (T := TX12) (N := 34) hx hb hts hin hown hK hP 0 rfl rfl 1 (by decide) (hts (.fieldLink RX12 13 "LikeWordsModel" "size" "[I") (by decide +kernel)) (fun _ h9 => h9) rfl dX12_reduced_138 ?_
        refine lv_iload_n hx hb dX12_reduced_141 rfl (lv_at hl 2 rfl) ?_
        refine lv_aload_n hx hb dX12_reduced_142 rfl (lv_at hl 0 rfl) ?_
        refine va_get (D := (dC, dI)) (ci := 12) (v := .int (iI (((F_m_layAny ((F_m_root (y) (w9)).2) ((F_m_root (y) (w9)).1)).2).1 10))) (C := RX12) (T := TX12) (N := 34) hx hb hts hin hown hK hP 0 rfl rfl 10 (by decide) (hts (.fieldLink RX12 119 "LikeWordsModel" "handSize" "I") (by decide +kernel)) (fun _ h9 => h9) rfl dX12_reduced_143 ?_
        refine wi_iast (f := ((F_m_layAny ((F_m_root (y) (w9)).2) ((F_m_root (y) (w9)).1)).2).2 1) hx hb hK hP hD hS 1 0 rfl rfl (i := o9) (x := ((F_m_layAny ((F_m_root (y) (w9)).2) ((F_m_root (y) (w9)).1)).2).1 10) (by omega) (by omega) (by decide) dX12_reduced_146 (fun H locs hP hD hS => ?_)
        rw [mW_a1] at hP hD
        refine lv_iconst (v := iI (0 : Int)) hx hb dX12_reduced_147 (by decide) ?_
        refine lv_istore (lv' := [(4, .int (iI ((0 : Int)))), (0, .ref (h)), (1, .int (iI (a))), (2, .int (iI (o9))), (3, .int (iI (w9)))]) hx hb dX12_reduced_148 hl (by decide) rfl (fun ls hl => ?_)
        exact ih.2.2 (aU ((F_m_layAny ((F_m_root (y) (w9)).2) ((F_m_root (y) (w9)).1)).2) 1 (o9).toNat (((F_m_layAny ((F_m_root (y) (w9)).2) ((F_m_root (y) (w9)).1)).2).1 10)) (w9) ((0 : Int)) (R0.2.2) (nc) (ns) (sz) (by omega) (by omega) (by omega) hres _ _ ls hP hD hS (lv_sub hl [1, 2, 3, 4, 0] rfl)
      · intro y w9 i9 ex nc ns sz i0 i1 fu hres H locs ls hP hD hS hl
        rw [F_m_reduced_e2] at hres
        obtain ⟨u0, jj⟩ := id ex
        have g10 := jj.2.2.1
        have g20 := jj.2.2.2.2.2.2.2.1
        refine lv_iload hx hb dX12_reduced_150 (lv_at hl 4 rfl) ?_
        refine lv_aload_n hx hb dX12_reduced_152 rfl (lv_at hl 0 rfl) ?_
        refine va_get (D := (dC, dI)) (ci := 12) (v := .int (iI ((y).1 10))) (C := RX12) (T := TX12) (N := 34) hx hb hts hin hown hK hP 0 rfl rfl 10 (by decide) (hts (.fieldLink RX12 119 "LikeWordsModel" "handSize" "I") (by decide +kernel)) (fun _ h9 => h9) rfl dX12_reduced_153 ?_
        refine wi_icmp_ge (tgt := 185) hx hb (by first | assumption | (unfold iR; omega) | exact F_R01 (by assumption)) (by first | assumption | (unfold iR; omega) | exact F_R01 (by assumption)) dX12_reduced_156 (by decide) (fun c_156 => ?_) (fun c_156 => ?_)
        · skip
          rw [if_pos c_156] at hres
          refine lv_iconst (v := iI (0 : Int)) hx hb dX12_reduced_185 (by decide) ?_
          exact W.iret (v := iI ((0 : Int))) hx hb hr (fun t ht hW => ⟨⟨iI ((0 : Int)), y, rfl, ⟨(by have h9 := congrArg (fun z : Int × MS => iI z.1) hres; exact h9), (by have h9 := congrArg (fun z : Int × MS => z.2) hres; exact h9)⟩, by rw [ht]; exact hP, va_K.moved hW.alike hK, hD⟩, hS.F ht⟩) hS.2.2 dX12_reduced_186
        · skip
          rw [if_neg c_156] at hres
          refine lv_aload_n hx hb dX12_reduced_159 rfl (lv_at hl 0 rfl) ?_
          refine va_get (D := (dC, dI)) (ci := 12) (v := .ref (ad 2)) (C := RX12) (T := TX12) (N := 34) hx hb hts hin hown hK hP 0 rfl rfl 2 (by decide) (hts (.fieldLink RX12 17 "LikeWordsModel" "row" "[I") (by decide +kernel)) (fun _ h9 => h9) rfl dX12_reduced_160 ?_
          refine lv_sipush (v := iI (128 : Int)) hx hb dX12_reduced_163 (by decide) ?_
          refine lv_iload_n hx hb dX12_reduced_166 rfl (lv_at hl 2 rfl) ?_
          refine wi_imul hx hb dX12_reduced_167 ?_
          refine lv_iload hx hb dX12_reduced_168 (lv_at hl 4 rfl) ?_
          refine wi_iadd hx hb dX12_reduced_170 ?_
          refine lv_aload_n hx hb dX12_reduced_171 rfl (lv_at hl 0 rfl) ?_
          refine va_get (D := (dC, dI)) (ci := 12) (v := .ref (ad 11)) (C := RX12) (T := TX12) (N := 34) hx hb hts hin hown hK hP 0 rfl rfl 11 (by decide) (hts (.fieldLink RX12 35 "LikeWordsModel" "hand" "[I") (by decide +kernel)) (fun _ h9 => h9) rfl dX12_reduced_172 ?_
          refine lv_iload hx hb dX12_reduced_175 (lv_at hl 4 rfl) ?_
          refine wi_iald (f := (y).2 11) hx hb hK hP 7 0 rfl rfl (i := i9) (by omega) (by omega) (by decide) dX12_reduced_177 ?_
          refine wi_iast (f := (y).2 2) hx hb hK hP hD hS 2 0 rfl rfl (i := (((128 : Int)) * (o9)) + (i9)) (x := ((y).2 11) (i9).toNat) (by omega) (by omega) (by decide) dX12_reduced_178 (fun H locs hP hD hS => ?_)
          rw [mW_a2] at hP hD
          refine lv_iinc (v := iI ((i9) + (1 : Int))) (lv' := [(4, .int (iI ((i9) + (1 : Int)))), (0, .ref (h)), (1, .int (iI (a))), (2, .int (iI (o9))), (3, .int (iI (w9)))]) hx hb dX12_reduced_179 hl (k := 4) rfl (iI_add _ _) (by decide) rfl (fun ls hl => ?_)
          refine lv_goto (tgt := 150) hx hb dX12_reduced_182 (by decide) ?_
          exact ih.2.2 (aU (y) 2 ((((128 : Int)) * (o9)) + (i9)).toNat (((y).2 11) (i9).toNat)) (w9) ((i9) + (1 : Int)) (rcE_s i0 (by omega) (by omega) ex) (nc) (ns) (sz) (by omega) (by omega) (by omega) hres _ _ ls hP hD hS (lv_sub hl [1, 2, 3, 4, 0] rfl)
  have key : ∀ (H : Heap) (locs : List Loc), va_P (dC, dI) vwCl (mW h ad cI cJ cZ (x)) H → va_S A s.heap H locs → W p l e (headSpec wsX12_reduced ({ frames := 2, cells := 0, slots := 0, locals := 48 })).room s m ([.ref h, .int (iI a), .int (iI o9)] : List Value).toArray below meth c H locs 0 0 (MQ below (va_Qi (fun (r : Int32) (u : MS) => r = iI (F_m_reduced (x) (a) (o9)).1 ∧ u = (F_m_reduced (x) (a) (o9)).2) (mAt dC dI h ad cI cJ cZ A) A) ([.ref h, .int (iI a), .int (iI o9)] : List Value).toArray s 0 0 A) (F0 m 0 ls []) := by
    intro H locs hP hS
    have hres : (if ((x).1 6) = ((-9 : Int)) then ((-3 : Int), x) else (if ((x).1 27) = (0) then (if (((x).2 1) (a).toNat) ≤ ((x).1 6) then (if (((F_m_copy (x) (a) (o9)).2).1 27) = (0) then (if (((F_m_copy (x) (a) (o9)).2).1 0) ≤ ((1 : Int)) then F_m_reduced_s 300 1 ((F_m_copy (x) (a) (o9)).2) (a) (o9) ((((F_m_copy (x) (a) (o9)).2).2 1) (a).toNat) (0) (0) else F_m_reduced_s 300 0 ((F_m_copy (x) (a) (o9)).2) (a) (o9) ((((F_m_copy (x) (a) (o9)).2).2 1) (a).toNat) ((0 : Int)) ((0 : Int))) else ((0 : Int), (F_m_reduceAt ((F_m_copy (x) (a) (o9)).2) (o9)).2)) else ((-3 : Int), x)) else (if (((F_m_copy (x) (a) (o9)).2).1 27) = (0) then (if (((F_m_copy (x) (a) (o9)).2).1 0) ≤ ((1 : Int)) then F_m_reduced_s 300 1 ((F_m_copy (x) (a) (o9)).2) (a) (o9) ((((F_m_copy (x) (a) (o9)).2).2 1) (a).toNat) (0) (0) else F_m_reduced_s 300 0 ((F_m_copy (x) (a) (o9)).2) (a) (o9) ((((F_m_copy (x) (a) (o9)).2).2 1) (a).toNat) ((0 : Int)) ((0 : Int))) else ((0 : Int), (F_m_reduceAt ((F_m_copy (x) (a) (o9)).2) (o9)).2)))) = F_m_reduced (x) (a) (o9) := rfl
    have za := ha.1
    refine lv_aload_n hx hb dX12_reduced_0 rfl (lv_at hl 0 rfl) ?_
    refine va_get (D := (dC, dI)) (ci := 12) (v := .int (iI ((x).1 6))) (C := RX12) (T := TX12) (N := 34) hx hb hts hin hown hK hP 0 rfl rfl 6 (by decide) (hts (.fieldLink RX12 26 "LikeWordsModel" "seen" "I") (by decide +kernel)) (fun _ h9 => h9) rfl dX12_reduced_1 ?_
    refine lv_bipush (v := iI (-9 : Int)) hx hb dX12_reduced_4 (by decide) ?_
    refine wi_icmp_eq (tgt := 29) hx hb (by first | exact sn | exact ⟨by decide, by decide⟩) (by first | exact sn | exact ⟨by decide, by decide⟩) dX12_reduced_6 (by decide) (fun c_6 => ?_) (fun c_6 => ?_)
    · skip
      rw [if_pos c_6] at hres
      refine lv_bipush (v := iI (-3 : Int)) hx hb dX12_reduced_29 (by decide) ?_
      exact W.iret (v := iI ((-3 : Int))) hx hb hr (fun t ht hW => ⟨⟨iI ((-3 : Int)), x, rfl, ⟨(by have h9 := congrArg (fun z : Int × MS => iI z.1) hres; exact h9), (by have h9 := congrArg (fun z : Int × MS => z.2) hres; exact h9)⟩, by rw [ht]; exact hP, va_K.moved hW.alike hK, hD⟩, hS.F ht⟩) hS.2.2 dX12_reduced_31
    · skip
      rw [if_neg c_6] at hres
      refine lv_aload_n hx hb dX12_reduced_9 rfl (lv_at hl 0 rfl) ?_
      refine va_get (D := (dC, dI)) (ci := 12) (v := .int (iI ((x).1 27))) (C := RX12) (T := TX12) (N := 34) hx hb hts hin hown hK hP 0 rfl rfl 27 (by decide) (hts (.fieldLink RX12 215 "LikeWordsModel" "isClosed" "Z") (by decide +kernel)) (fun _ h9 => h9) rfl dX12_reduced_10 ?_
      refine wi_if_ne (tgt := 32) hx hb (by unfold iR; omega) dX12_reduced_13 (by decide) (fun c_13 => ?_) (fun c_13 => ?_)
      · skip
        rw [if_neg c_13] at hres
        refine lv_aload_n hx hb dX12_reduced_32 rfl (lv_at hl 0 rfl) ?_
        refine lv_iload_n hx hb dX12_reduced_33 rfl (lv_at hl 1 rfl) ?_
        refine lv_iload_n hx hb dX12_reduced_34 rfl (lv_at hl 2 rfl) ?_
        have hFc : ∀ q, va_A (mW h ad cI cJ cZ (x)) H.size q → A q := fun q hq => Or.elim hq (fun ⟨k, e, hk⟩ => hD.2 k (q, e) hk) (fun hk => hA q (Nat.le_trans hS.1 hk))
        refine va_callv (va_runV (As := [.int (iI (a)), .int (iI (o9))]) (rest := []) ⟨hx, hb, hml, hown, hts⟩ (c_m_copy l dC dI h ad cI cJ cZ H.size (x) (a) (o9) (by omega) (by omega) (by omega) (by omega) (by omega) (by omega)) (cwV 2 hts gX12_reduced_X12_copy rfl rfl rfl (by decide +kernel) ⟨Nat.le_of_ble_eq_true rfl, Nat.le_of_ble_eq_true rfl⟩) ⟨fun a U g mk q => by obtain ⟨q0, q1, qP, qK, qD⟩ := q; exact ⟨q0, q1, qP, va_K.moved (u := U) (U := U.calling g mk a) (Vm.Alike.refl U.vm) qK, qD⟩, va_recv hK hP (ci := 12) (q0 := 0) rfl rfl, fun U hU hW => ⟨rfl, by rw [hU], by rw [hU]; exact hP, va_K.moved hW.alike hK, hD.weaken (fun _ _ _ _ => trivial)⟩⟩ rfl rfl hl.1 rfl (lv_room (Nat.le_of_ble_eq_true rfl)) dX12_reduced_35 ⟨Nat.le_of_ble_eq_true rfl, Nat.le_of_ble_eq_true rfl⟩) hS (fun q _ h => hFc q h) hFc (fun u9 t H1 locs ht hvm hw hB hz1 hk1 hS => ?_)
        obtain ⟨hP1, hK1, hD1⟩ := hB
        rw [ht] at hP1
        rw [hw] at hP1 hD1
        have hD2 := hD1.weaken (B := A) (fun _ q _ h => hFc q.1 h)
        have hP := hP1
        have hD := hD2
        generalize H1 = H at hP hS ⊢
        have d1 : slD x ((F_m_copy (x) (a) (o9)).2) o9.toNat ∧ slK x ((F_m_copy (x) (a) (o9)).2) o9.toNat (slM x a.toNat) := by
          have h9 := copy_D (x := x) (a := a.toNat) (b := o9.toNat) hrw (slH_K ha) (by omega) (by omega)
          rw [show (a.toNat : Int) = a by omega, show (o9.toNat : Int) = o9 by omega] at h9
          exact h9
        have e27 : ((F_m_copy (x) (a) (o9)).2).1 27 = x.1 27 := d1.1.1.1 27 List.not_mem_nil
        have e0c : ((F_m_copy (x) (a) (o9)).2).1 0 = x.1 0 := d1.1.1.1 0 List.not_mem_nil
        have e1c : ((F_m_copy (x) (a) (o9)).2).2 1 a.toNat = x.2 1 a.toNat := d1.1.2.2.1 a.toNat (by omega)
        have f1 := slD_F (slF_0 hrw) d1.1 (by omega)
        refine lv_aload_n hx hb dX12_reduced_38 rfl (lv_at hl 0 rfl) ?_
        refine va_get (D := (dC, dI)) (ci := 12) (v := .int (iI (((F_m_copy (x) (a) (o9)).2).1 27))) (C := RX12) (T := TX12) (N := 34) hx hb hts hin hown hK hP 0 rfl rfl 27 (by decide) (hts (.fieldLink RX12 215 "LikeWordsModel" "isClosed" "Z") (by decide +kernel)) (fun _ h9 => h9) rfl dX12_reduced_39 ?_
        refine wi_if_eq (tgt := 52) hx hb (by unfold iR; omega) dX12_reduced_42 (by decide) (fun c_42 => ?_) (fun c_42 => ?_)
        · skip
          rw [if_pos c_42] at hres
          refine lv_aload_n hx hb dX12_reduced_52 rfl (lv_at hl 0 rfl) ?_
          refine va_get (D := (dC, dI)) (ci := 12) (v := .ref (ad 1)) (C := RX12) (T := TX12) (N := 34) hx hb hts hin hown hK hP 0 rfl rfl 1 (by decide) (hts (.fieldLink RX12 13 "LikeWordsModel" "size" "[I") (by decide +kernel)) (fun _ h9 => h9) rfl dX12_reduced_53 ?_
          refine lv_iload_n hx hb dX12_reduced_56 rfl (lv_at hl 1 rfl) ?_
          refine wi_iald (f := ((F_m_copy (x) (a) (o9)).2).2 1) hx hb hK hP 1 0 rfl rfl (i := a) (by omega) (by omega) (by decide) dX12_reduced_57 ?_
          refine lv_istore_n (lv' := [(3, .int (iI ((((F_m_copy (x) (a) (o9)).2).2 1) (a).toNat))), (0, .ref (h)), (1, .int (iI (a))), (2, .int (iI (o9)))]) hx hb dX12_reduced_58 rfl hl (by decide) rfl (fun ls hl => ?_)
          refine lv_aload_n hx hb dX12_reduced_59 rfl (lv_at hl 1 rfl) ?_
          refine va_get (D := (dC, dI)) (ci := 12) (v := .int (iI (((F_m_copy (x) (a) (o9)).2).1 0))) (C := RX12) (T := TX12) (N := 34) hx hb hts hin hown hK hP 0 rfl rfl 0 (by decide) (hts (.fieldLink RX12 7 "LikeWordsModel" "letters" "I") (by decide +kernel)) (fun _ h9 => h9) rfl dX12_reduced_60 ?_
          refine lv_iconst (v := iI (1 : Int)) hx hb dX12_reduced_63 (by decide) ?_
          refine wi_icmp_le (tgt := 128) hx hb (by unfold iR; omega) (by unfold iR; omega) dX12_reduced_64 (by decide) (fun c_64 => ?_) (fun c_64 => ?_)
          · skip
            rw [if_pos c_64] at hres
            exact (L (300)).2.1 ((F_m_copy (x) (a) (o9)).2) ((((F_m_copy (x) (a) (o9)).2).2 1) (a).toNat) (d1.1) (by omega) (by omega) (by omega) (by (have l1 : x.1 0 = 1 := by omega); rw [show (x.1 0).toNat = 1 by omega, num_1 (by have h9 := ha.2; rw [show (x.1 0).toNat = 1 by omega] at h9; exact h9), slM_len]; omega) (by omega) hres _ _ ls hP hD hS (lv_sub hl [1, 2, 3, 0] rfl)
          · skip
            rw [if_neg c_64] at hres
            refine lv_iconst (v := iI (0 : Int)) hx hb dX12_reduced_67 (by decide) ?_
            refine lv_istore (lv' := [(4, .int (iI ((0 : Int)))), (3, .int (iI ((((F_m_copy (x) (a) (o9)).2).2 1) (a).toNat))), (0, .ref (h)), (1, .int (iI (a))), (2, .int (iI (o9)))]) hx hb dX12_reduced_68 hl (by decide) rfl (fun ls hl => ?_)
            refine lv_iconst (v := iI (0 : Int)) hx hb dX12_reduced_70 (by decide) ?_
            refine lv_istore (lv' := [(5, .int (iI ((0 : Int)))), (4, .int (iI ((0 : Int)))), (3, .int (iI ((((F_m_copy (x) (a) (o9)).2).2 1) (a).toNat))), (0, .ref (h)), (1, .int (iI (a))), (2, .int (iI (o9)))]) hx hb dX12_reduced_71 hl (by decide) rfl (fun ls hl => ?_)
            exact (L (300)).1 ((F_m_copy (x) (a) (o9)).2) ((((F_m_copy (x) (a) (o9)).2).2 1) (a).toNat) ((0 : Int)) ((0 : Int)) (d1.1) (by omega) (by omega) (by omega) (by omega) (by rfl) (by omega) (by omega) (by omega) hres _ _ ls hP hD hS (lv_sub hl [3, 4, 5, 2, 1, 0] rfl)
        · skip
          rw [if_neg c_42] at hres
          have r1 := slH_r f1 (mz (by omega) (by omega)) d1.2 (by omega) (by omega)
          refine lv_aload_n hx hb dX12_reduced_45 rfl (lv_at hl 0 rfl) ?_
          refine lv_iload_n hx hb dX12_reduced_46 rfl (lv_at hl 2 rfl) ?_
          have hFc : ∀ q, va_A (mW h ad cI cJ cZ ((F_m_copy (x) (a) (o9)).2)) H.size q → A q := fun q hq => Or.elim hq (fun ⟨k, e, hk⟩ => hD.2 k (q, e) hk) (fun hk => hA q (Nat.le_trans hS.1 hk))
          refine va_callv (va_runV (As := [.int (iI (o9))]) (rest := []) ⟨hx, hb, hml, hown, hts⟩ (c_m_reduceAt l dC dI h ad cI cJ cZ H.size ((F_m_copy (x) (a) (o9)).2) (o9) (by omega) (by omega) (by omega) r1.1.2.1.1 r1.1.2.1.2 r1.1.2.2.1 r1.1.2.2.2.1 r1.1.2.2.2.2) (cwV 1 hts gX12_reduced_X12_reduceAt rfl rfl rfl (by decide +kernel) ⟨Nat.le_of_ble_eq_true rfl, Nat.le_of_ble_eq_true rfl⟩) ⟨fun a U g mk q => by obtain ⟨q0, q1, qP, qK, qD⟩ := q; exact ⟨q0, q1, qP, va_K.moved (u := U) (U := U.calling g mk a) (Vm.Alike.refl U.vm) qK, qD⟩, va_recv hK hP (ci := 12) (q0 := 0) rfl rfl, fun U hU hW => ⟨rfl, by rw [hU], by rw [hU]; exact hP, va_K.moved hW.alike hK, hD.weaken (fun _ _ _ _ => trivial)⟩⟩ rfl rfl hl.1 rfl (lv_room (Nat.le_of_ble_eq_true rfl)) dX12_reduced_47 ⟨Nat.le_of_ble_eq_true rfl, Nat.le_of_ble_eq_true rfl⟩) hS (fun q _ h => hFc q h) hFc (fun u9 t H1 locs ht hvm hw hB hz1 hk1 hS => ?_)
          obtain ⟨hP1, hK1, hD1⟩ := hB
          rw [ht] at hP1
          rw [hw] at hP1 hD1
          have hD2 := hD1.weaken (B := A) (fun _ q _ h => hFc q.1 h)
          have hP := hP1
          have hD := hD2
          generalize H1 = H at hP hS ⊢
          refine lv_iconst (v := iI (0 : Int)) hx hb dX12_reduced_50 (by decide) ?_
          exact W.iret (v := iI ((0 : Int))) hx hb hr (fun t ht hW => ⟨⟨iI ((0 : Int)), (F_m_reduceAt ((F_m_copy (x) (a) (o9)).2) (o9)).2, rfl, ⟨(by have h9 := congrArg (fun z : Int × MS => iI z.1) hres; exact h9), (by have h9 := congrArg (fun z : Int × MS => z.2) hres; exact h9)⟩, by rw [ht]; exact hP, va_K.moved hW.alike hK, hD⟩, hS.F ht⟩) hS.2.2 dX12_reduced_51
      · skip
        rw [if_pos c_13] at hres
        refine lv_aload_n hx hb dX12_reduced_16 rfl (lv_at hl 0 rfl) ?_
        refine va_get (D := (dC, dI)) (ci := 12) (v := .ref (ad 1)) (C := RX12) (T := TX12) (N := 34) hx hb hts hin hown hK hP 0 rfl rfl 1 (by decide) (hts (.fieldLink RX12 13 "LikeWordsModel" "size" "[I") (by decide +kernel)) (fun _ h9 => h9) rfl dX12_reduced_17 ?_
        refine lv_iload_n hx hb dX12_reduced_20 rfl (lv_at hl 1 rfl) ?_
        refine wi_iald (f := (x).2 1) hx hb hK hP 1 0 rfl rfl (i := a) (by omega) (by omega) (by decide) dX12_reduced_21 ?_
        refine lv_aload_n hx hb dX12_reduced_22 rfl (lv_at hl 0 rfl) ?_
        refine va_get (D := (dC, dI)) (ci := 12) (v := .int (iI ((x).1 6))) (C := RX12) (T := TX12) (N := 34) hx hb hts hin hown hK hP 0 rfl rfl 6 (by decide) (hts (.fieldLink RX12 26 "LikeWordsModel" "seen" "I") (by decide +kernel)) (fun _ h9 => h9) rfl dX12_reduced_23 ?_
        refine wi_icmp_le (tgt := 32) hx hb (by first | exact sn | (unfold iR; omega)) (by first | exact sn | (unfold iR; omega)) dX12_reduced_26 (by decide) (fun c_26 => ?_) (fun c_26 => ?_)
        · skip
          rw [if_pos c_26] at hres
          refine lv_aload_n hx hb dX12_reduced_32 rfl (lv_at hl 0 rfl) ?_
          refine lv_iload_n hx hb dX12_reduced_33 rfl (lv_at hl 1 rfl) ?_
          refine lv_iload_n hx hb dX12_reduced_34 rfl (lv_at hl 2 rfl) ?_
          have hFc : ∀ q, va_A (mW h ad cI cJ cZ (x)) H.size q → A q := fun q hq => Or.elim hq (fun ⟨k, e, hk⟩ => hD.2 k (q, e) hk) (fun hk => hA q (Nat.le_trans hS.1 hk))
          refine va_callv (va_runV (As := [.int (iI (a)), .int (iI (o9))]) (rest := []) ⟨hx, hb, hml, hown, hts⟩ (c_m_copy l dC dI h ad cI cJ cZ H.size (x) (a) (o9) (by omega) (by omega) (by omega) (by omega) (by omega) (by omega)) (cwV 2 hts gX12_reduced_X12_copy rfl rfl rfl (by decide +kernel) ⟨Nat.le_of_ble_eq_true rfl, Nat.le_of_ble_eq_true rfl⟩) ⟨fun a U g mk q => by obtain ⟨q0, q1, qP, qK, qD⟩ := q; exact ⟨q0, q1, qP, va_K.moved (u := U) (U := U.calling g mk a) (Vm.Alike.refl U.vm) qK, qD⟩, va_recv hK hP (ci := 12) (q0 := 0) rfl rfl, fun U hU hW => ⟨rfl, by rw [hU], by rw [hU]; exact hP, va_K.moved hW.alike hK, hD.weaken (fun _ _ _ _ => trivial)⟩⟩ rfl rfl hl.1 rfl (lv_room (Nat.le_of_ble_eq_true rfl)) dX12_reduced_35 ⟨Nat.le_of_ble_eq_true rfl, Nat.le_of_ble_eq_true rfl⟩) hS (fun q _ h => hFc q h) hFc (fun u9 t H1 locs ht hvm hw hB hz1 hk1 hS => ?_)
          obtain ⟨hP1, hK1, hD1⟩ := hB
          rw [ht] at hP1
          rw [hw] at hP1 hD1
          have hD2 := hD1.weaken (B := A) (fun _ q _ h => hFc q.1 h)
          have hP := hP1
          have hD := hD2
          generalize H1 = H at hP hS ⊢
          have d1 : slD x ((F_m_copy (x) (a) (o9)).2) o9.toNat ∧ slK x ((F_m_copy (x) (a) (o9)).2) o9.toNat (slM x a.toNat) := by
            have h9 := copy_D (x := x) (a := a.toNat) (b := o9.toNat) hrw (slH_K ha) (by omega) (by omega)
            rw [show (a.toNat : Int) = a by omega, show (o9.toNat : Int) = o9 by omega] at h9
            exact h9
          have e27 : ((F_m_copy (x) (a) (o9)).2).1 27 = x.1 27 := d1.1.1.1 27 List.not_mem_nil
          have e0c : ((F_m_copy (x) (a) (o9)).2).1 0 = x.1 0 := d1.1.1.1 0 List.not_mem_nil
          have e1c : ((F_m_copy (x) (a) (o9)).2).2 1 a.toNat = x.2 1 a.toNat := d1.1.2.2.1 a.toNat (by omega)
          have f1 := slD_F (slF_0 hrw) d1.1 (by omega)
          refine lv_aload_n hx hb dX12_reduced_38 rfl (lv_at hl 0 rfl) ?_
          refine va_get (D := (dC, dI)) (ci := 12) (v := .int (iI (((F_m_copy (x) (a) (o9)).2).1 27))) (C := RX12) (T := TX12) (N := 34) hx hb hts hin hown hK hP 0 rfl rfl 27 (by decide) (hts (.fieldLink RX12 215 "LikeWordsModel" "isClosed" "Z") (by decide +kernel)) (fun _ h9 => h9) rfl dX12_reduced_39 ?_
          refine wi_if_eq (tgt := 52) hx hb (by unfold iR; omega) dX12_reduced_42 (by decide) (fun c_42 => ?_) (fun c_42 => ?_)
          · skip
            rw [if_pos c_42] at hres
            refine lv_aload_n hx hb dX12_reduced_52 rfl (lv_at hl 0 rfl) ?_
            refine va_get (D := (dC, dI)) (ci := 12) (v := .ref (ad 1)) (C := RX12) (T := TX12) (N := 34) hx hb hts hin hown hK hP 0 rfl rfl 1 (by decide) (hts (.fieldLink RX12 13 "LikeWordsModel" "size" "[I") (by decide +kernel)) (fun _ h9 => h9) rfl dX12_reduced_53 ?_
            refine lv_iload_n hx hb dX12_reduced_56 rfl (lv_at hl 1 rfl) ?_
            refine wi_iald (f := ((F_m_copy (x) (a) (o9)).2).2 1) hx hb hK hP 1 0 rfl rfl (i := a) (by omega) (by omega) (by decide) dX12_reduced_57 ?_
            refine lv_istore_n (lv' := [(3, .int (iI ((((F_m_copy (x) (a) (o9)).2).2 1) (a).toNat))), (0, .ref (h)), (1, .int (iI (a))), (2, .int (iI (o9)))]) hx hb dX12_reduced_58 rfl hl (by decide) rfl (fun ls hl => ?_)
            refine lv_aload_n hx hb dX12_reduced_59 rfl (lv_at hl 1 rfl) ?_
            refine va_get (D := (dC, dI)) (ci := 12) (v := .int (iI (((F_m_copy (x) (a) (o9)).2).1 0))) (C := RX12) (T := TX12) (N := 34) hx hb hts hin hown hK hP 0 rfl rfl 0 (by decide) (hts (.fieldLink RX12 7 "LikeWordsModel" "letters" "I") (by decide +kernel)) (fun _ h9 => h9) rfl dX12_reduced_60 ?_
            refine lv_iconst (v := iI (1 : Int)) hx hb dX12_reduced_63 (by decide) ?_
            refine wi_icmp_le (tgt := 128) hx hb (by unfold iR; omega) (by unfold iR; omega) dX12_reduced_64 (by decide) (fun c_64 => ?_) (fun c_64 => ?_)
            · skip
              rw [if_pos c_64] at hres
              exact (L (300)).2.1 ((F_m_copy (x) (a) (o9)).2) ((((F_m_copy (x) (a) (o9)).2).2 1) (a).toNat) (d1.1) (by omega) (by omega) (by omega) (by (have l1 : x.1 0 = 1 := by omega); rw [show (x.1 0).toNat = 1 by omega, num_1 (by have h9 := ha.2; rw [show (x.1 0).toNat = 1 by omega] at h9; exact h9), slM_len]; omega) (by omega) hres _ _ ls hP hD hS (lv_sub hl [1, 2, 3, 0] rfl)
            · skip
              rw [if_neg c_64] at hres
              refine lv_iconst (v := iI (0 : Int)) hx hb dX12_reduced_67 (by decide) ?_
              refine lv_istore (lv' := [(4, .int (iI ((0 : Int)))), (3, .int (iI ((((F_m_copy (x) (a) (o9)).2).2 1) (a).toNat))), (0, .ref (h)), (1, .int (iI (a))), (2, .int (iI (o9)))]) hx hb dX12_reduced_68 hl (by decide) rfl (fun ls hl => ?_)
              refine lv_iconst (v := iI (0 : Int)) hx hb dX12_reduced_70 (by decide) ?_
              refine lv_istore (lv' := [(5, .int (iI ((0 : Int)))), (4, .int (iI ((0 : Int)))), (3, .int (iI ((((F_m_copy (x) (a) (o9)).2).2 1) (a).toNat))), (0, .ref (h)), (1, .int (iI (a))), (2, .int (iI (o9)))]) hx hb dX12_reduced_71 hl (by decide) rfl (fun ls hl => ?_)
              exact (L (300)).1 ((F_m_copy (x) (a) (o9)).2) ((((F_m_copy (x) (a) (o9)).2).2 1) (a).toNat) ((0 : Int)) ((0 : Int)) (d1.1) (by omega) (by omega) (by omega) (by omega) (by rfl) (by omega) (by omega) (by omega) hres _ _ ls hP hD hS (lv_sub hl [3, 4, 5, 2, 1, 0] rfl)
          · skip
            rw [if_neg c_42] at hres
            have r1 := slH_r f1 (mz (by omega) (by omega)) d1.2 (by omega) (by omega)
            refine lv_aload_n hx hb dX12_reduced_45 rfl (lv_at hl 0 rfl) ?_
            refine lv_iload_n hx hb dX12_reduced_46 rfl (lv_at hl 2 rfl) ?_
            have hFc : ∀ q, va_A (mW h ad cI cJ cZ ((F_m_copy (x) (a) (o9)).2)) H.size q → A q := fun q hq => Or.elim hq (fun ⟨k, e, hk⟩ => hD.2 k (q, e) hk) (fun hk => hA q (Nat.le_trans hS.1 hk))
            refine va_callv (va_runV (As := [.int (iI (o9))]) (rest := []) ⟨hx, hb, hml, hown, hts⟩ (c_m_reduceAt l dC dI h ad cI cJ cZ H.size ((F_m_copy (x) (a) (o9)).2) (o9) (by omega) (by omega) (by omega) r1.1.2.1.1 r1.1.2.1.2 r1.1.2.2.1 r1.1.2.2.2.1 r1.1.2.2.2.2) (cwV 1 hts gX12_reduced_X12_reduceAt rfl rfl rfl (by decide +kernel) ⟨Nat.le_of_ble_eq_true rfl, Nat.le_of_ble_eq_true rfl⟩) ⟨fun a U g mk q => by obtain ⟨q0, q1, qP, qK, qD⟩ := q; exact ⟨q0, q1, qP, va_K.moved (u := U) (U := U.calling g mk a) (Vm.Alike.refl U.vm) qK, qD⟩, va_recv hK hP (ci := 12) (q0 := 0) rfl rfl, fun U hU hW => ⟨rfl, by rw [hU], by rw [hU]; exact hP, va_K.moved hW.alike hK, hD.weaken (fun _ _ _ _ => trivial)⟩⟩ rfl rfl hl.1 rfl (lv_room (Nat.le_of_ble_eq_true rfl)) dX12_reduced_47 ⟨Nat.le_of_ble_eq_true rfl, Nat.le_of_ble_eq_true rfl⟩) hS (fun q _ h => hFc q h) hFc (fun u9 t H1 locs ht hvm hw hB hz1 hk1 hS => ?_)
            obtain ⟨hP1, hK1, hD1⟩ := hB
            rw [ht] at hP1
            rw [hw] at hP1 hD1
            have hD2 := hD1.weaken (B := A) (fun _ q _ h => hFc q.1 h)
            have hP := hP1
            have hD := hD2
            generalize H1 = H at hP hS ⊢
            refine lv_iconst (v := iI (0 : Int)) hx hb dX12_reduced_50 (by decide) ?_
            exact W.iret (v := iI ((0 : Int))) hx hb hr (fun t ht hW => ⟨⟨iI ((0 : Int)), (F_m_reduceAt ((F_m_copy (x) (a) (o9)).2) (o9)).2, rfl, ⟨(by have h9 := congrArg (fun z : Int × MS => iI z.1) hres; exact h9), (by have h9 := congrArg (fun z : Int × MS => z.2) hres; exact h9)⟩, by rw [ht]; exact hP, va_K.moved hW.alike hK, hD⟩, hS.F ht⟩) hS.2.2 dX12_reduced_51
        · skip
          rw [if_neg c_26] at hres
          refine lv_bipush (v := iI (-3 : Int)) hx hb dX12_reduced_29 (by decide) ?_
          exact W.iret (v := iI ((-3 : Int))) hx hb hr (fun t ht hW => ⟨⟨iI ((-3 : Int)), x, rfl, ⟨(by have h9 := congrArg (fun z : Int × MS => iI z.1) hres; exact h9), (by have h9 := congrArg (fun z : Int × MS => z.2) hres; exact h9)⟩, by rw [ht]; exact hP, va_K.moved hW.alike hK, hD⟩, hS.F ht⟩) hS.2.2 dX12_reduced_31
  exact key _ _ hP hS
theorem F_m_reduced_sfr : ∀ n : Nat, (∀ (y : MS) (v0 : Int) (v1 : Int) (v2 : Int) (v3 : Int) (v4 : Int), same [10] [1, 2, 9, 11, 26] y (F_m_reduced_s n 0 y v0 v1 v2 v3 v4).2) ∧ (∀ (y : MS) (v0 : Int) (v1 : Int) (v2 : Int) (v3 : Int) (v4 : Int), same [10] [1, 2, 9, 11, 26] y (F_m_reduced_s n 1 y v0 v1 v2 v3 v4).2) ∧ (∀ (y : MS) (v0 : Int) (v1 : Int) (v2 : Int) (v3 : Int) (v4 : Int), same [10] [1, 2, 9, 11, 26] y (F_m_reduced_s n 2 y v0 v1 v2 v3 v4).2) := by
  intro n
  induction n with
  | zero => exact ⟨fun y _ _ _ _ _ => sm_rf _ _ _, fun y _ _ _ _ _ => sm_rf _ _ _, fun y _ _ _ _ _ => sm_rf _ _ _⟩
  | succ n ih =>
    refine ⟨?_, ?_, ?_⟩
    · intro y a o9 w9 v i9
      rw [F_m_reduced_e0]
      by_cases hc : (((y).2 1) (a).toNat) ≤ (i9)
      · rw [if_pos hc]
        exact sm_tr ((sm_rf _ _ _)) (ih.2.1 (y) (a) (o9) ((((y).2 8) (((y).2 1) (a).toNat).toNat) + (v)) (0) (0))
      · rw [if_neg hc]
        exact sm_tr ((sm_rf _ _ _)) (ih.1 (y) (a) (o9) (w9) (((v) * ((y).1 0)) + (((y).2 2) ((((128 : Int)) * (a)) + (i9)).toNat)) ((i9) + (1 : Int)))
    · intro y a o9 w9 q0 q1
      rw [F_m_reduced_e1]
      exact sm_tr ((sm_a (by decide) (sm_tr (sm_tr (sm_rf _ _ _) (sm_mono (by decide) (by decide) (F_m_root_fr (y) (w9)))) (sm_mono (by decide) (by decide) (F_m_layAny_fr ((F_m_root (y) (w9)).2) ((F_m_root (y) (w9)).1)))))) (ih.2.2 (aU ((F_m_layAny ((F_m_root (y) (w9)).2) ((F_m_root (y) (w9)).1)).2) 1 (o9).toNat (((F_m_layAny ((F_m_root (y) (w9)).2) ((F_m_root (y) (w9)).1)).2).1 10)) (a) (o9) (w9) ((0 : Int)) (0))
    · intro y a o9 w9 i9 q0
      rw [F_m_reduced_e2]
      by_cases hc : ((y).1 10) ≤ (i9)
      · rw [if_pos hc]
        exact (sm_rf _ _ _)
      · rw [if_neg hc]
        exact sm_tr ((sm_a (by decide) (sm_rf _ _ _))) (ih.2.2 (aU (y) 2 ((((128 : Int)) * (o9)) + (i9)).toNat (((y).2 11) (i9).toNat)) (a) (o9) (w9) ((i9) + (1 : Int)) (0))
theorem F_m_reduced_fr (x : MS) (a : Int) (o9 : Int) : same [10] [1, 2, 9, 11, 26] x (F_m_reduced (x) (a) (o9)).2 := by
  unfold F_m_reduced
  by_cases hc : ((x).1 6) = ((-9 : Int))
  · rw [if_pos hc]
    exact (sm_rf _ _ _)
  · rw [if_neg hc]
    by_cases hc : ((x).1 27) = (0)
    · rw [if_pos hc]
      by_cases hc : (((x).2 1) (a).toNat) ≤ ((x).1 6)
      · rw [if_pos hc]
        by_cases hc : (((F_m_copy (x) (a) (o9)).2).1 27) = (0)
        · rw [if_pos hc]
          by_cases hc : (((F_m_copy (x) (a) (o9)).2).1 0) ≤ ((1 : Int))
          · rw [if_pos hc]
            exact sm_tr ((sm_tr (sm_rf _ _ _) (sm_mono (by decide) (by decide) (F_m_copy_fr (x) (a) (o9))))) ((F_m_reduced_sfr 300).2.1 ((F_m_copy (x) (a) (o9)).2) (a) (o9) ((((F_m_copy (x) (a) (o9)).2).2 1) (a).toNat) (0) (0))
          · rw [if_neg hc]
            exact sm_tr ((sm_tr (sm_rf _ _ _) (sm_mono (by decide) (by decide) (F_m_copy_fr (x) (a) (o9))))) ((F_m_reduced_sfr 300).1 ((F_m_copy (x) (a) (o9)).2) (a) (o9) ((((F_m_copy (x) (a) (o9)).2).2 1) (a).toNat) ((0 : Int)) ((0 : Int)))
        · rw [if_neg hc]
          exact (sm_tr (sm_tr (sm_rf _ _ _) (sm_mono (by decide) (by decide) (F_m_copy_fr (x) (a) (o9)))) (sm_mono (by decide) (by decide) (F_m_reduceAt_fr ((F_m_copy (x) (a) (o9)).2) (o9))))
      · rw [if_neg hc]
        exact (sm_rf _ _ _)
    · rw [if_neg hc]
      by_cases hc : (((F_m_copy (x) (a) (o9)).2).1 27) = (0)
      · rw [if_pos hc]
        by_cases hc : (((F_m_copy (x) (a) (o9)).2).1 0) ≤ ((1 : Int))
        · rw [if_pos hc]
          exact sm_tr ((sm_tr (sm_rf _ _ _) (sm_mono (by decide) (by decide) (F_m_copy_fr (x) (a) (o9))))) ((F_m_reduced_sfr 300).2.1 ((F_m_copy (x) (a) (o9)).2) (a) (o9) ((((F_m_copy (x) (a) (o9)).2).2 1) (a).toNat) (0) (0))
        · rw [if_neg hc]
          exact sm_tr ((sm_tr (sm_rf _ _ _) (sm_mono (by decide) (by decide) (F_m_copy_fr (x) (a) (o9))))) ((F_m_reduced_sfr 300).1 ((F_m_copy (x) (a) (o9)).2) (a) (o9) ((((F_m_copy (x) (a) (o9)).2).2 1) (a).toNat) ((0 : Int)) ((0 : Int)))
      · rw [if_neg hc]
        exact (sm_tr (sm_tr (sm_rf _ _ _) (sm_mono (by decide) (by decide) (F_m_copy_fr (x) (a) (o9)))) (sm_mono (by decide) (by decide) (F_m_reduceAt_fr ((F_m_copy (x) (a) (o9)).2) (o9))))
set_option maxHeartbeats 4000000 in
theorem F_m_reduced_p (x : MS) (a : Int) (o9 : Int) (a0 : 0 ≤ a) (a1 : a ≤ 7) (ho : o9 = 9 ∨ o9 = 10) (lt : 1 ≤ x.1 0 ∧ x.1 0 ≤ 4) (sn : iR (x.1 6)) (ic : x.1 27 = 0 ∨ x.1 27 = 1) (hrw : rwR x) (ha : slH x a.toNat) (mz : ¬ x.1 6 = -9 → ¬ x.1 27 = 0 → mzH x) (sh : ¬ x.1 6 = -9 → snH x) : rcQ x a.toNat o9.toNat (F_m_reduced (x) (a) (o9)) := by
  have za := ha.1
  have L : ∀ n : Nat, (∀ (y : MS) (w9 : Int) (v : Int) (i9 : Int), (slD x y o9.toNat) → (x.1 27 = 0) → (¬ x.1 6 = -9) → (x.2 1 a.toNat ≤ x.1 6) → (1 < x.1 0) → (v = ((vl (x.1 0).toNat ((slM x a.toNat).take i9.toNat) : Nat) : Int)) → (0 ≤ i9) → (i9 ≤ x.2 1 a.toNat) → (200 - i9 < n) → rcQ x a.toNat o9.toNat (F_m_reduced_s n 0 y a o9 w9 v i9)) ∧ (∀ (y : MS) (w9 : Int), (slD x y o9.toNat) → (x.1 27 = 0) → (¬ x.1 6 = -9) → (x.2 1 a.toNat ≤ x.1 6) → (w9 = num (x.1 0).toNat (slM x a.toNat)) → (100 < n) → rcQ x a.toNat o9.toNat (F_m_reduced_s n 1 y a o9 w9 0 0)) ∧ (∀ (y : MS) (w9 : Int) (i9 : Int), (rcE x y a.toNat o9.toNat i9.toNat) → (x.1 27 = 0) → (¬ x.1 6 = -9) → (x.2 1 a.toNat ≤ x.1 6) → (0 ≤ i9) → (i9 ≤ 20) → (30 - i9 < n) → rcQ x a.toNat o9.toNat (F_m_reduced_s n 2 y a o9 w9 i9 0)) := by
    intro n
    induction n with
    | zero =>
      refine ⟨?_, ?_, ?_⟩
      · intro y w9 v i9 d1 nc ns sz l2 vv i0 i1 fu
        exact absurd fu (by omega)
      · intro y w9 d1 nc ns sz hw9 fu
        exact absurd fu (by omega)
      · intro y w9 i9 ex nc ns sz i0 i1 fu
        exact absurd fu (by omega)
    | succ n ih =>
      refine ⟨?_, ?_, ?_⟩
      · intro y w9 v i9 d1 nc ns sz l2 vv i0 i1 fu
        rw [F_m_reduced_e0]
        have e1a : y.2 1 a.toNat = x.2 1 a.toNat := d1.2.2.1 a.toNat (by omega)
        have e2a : ∀ i : Nat, i < 128 → y.2 2 (128 * a.toNat + i) = x.2 2 (128 * a.toNat + i) := fun i hi => d1.2.2.2 _ (by omega) (by omega)
        have e0y : y.1 0 = x.1 0 := d1.1.1 0 List.not_mem_nil
        have e8y : y.2 8 = x.2 8 := d1.1.2 8 (by decide)
        have za := ha.1
        obtain ⟨m9, q6, q1, q20, q7, q7b, qfx, qj, qf, qh⟩ := id (sh ns)
        by_cases c_81 : (((y).2 1) (a).toNat) ≤ (i9)
        · rw [if_pos c_81]
          exact ih.2.1 (y) ((((y).2 8) (((y).2 1) (a).toNat).toNat) + (v)) (d1) (nc) (ns) (sz) (by unfold num; rw [slM_len, show (((x.1 0).toNat : Nat) : Int) = x.1 0 by omega, ← qfx (by omega) _ (by omega), vv, e8y, e1a, show i9.toNat = (slM x a.toNat).length by rw [slM_len]; omega, List.take_length]) (by omega)
        · rw [if_neg c_81]
          exact ih.1 (y) (w9) (((v) * ((y).1 0)) + (((y).2 2) ((((128 : Int)) * (a)) + (i9)).toNat)) ((i9) + (1 : Int)) (d1) (nc) (ns) (sz) (l2) (by rw [e0y, show ((128 : Int) * a + i9).toNat = 128 * a.toNat + i9.toNat by omega]; exact rc_v lt.1 ha i0 (by omega) (e2a _ (by omega)) vv) (by omega) (by omega) (by omega)
      · intro y w9 d1 nc ns sz hw9 fu
        rw [F_m_reduced_e1]
        have e1a : y.2 1 a.toNat = x.2 1 a.toNat := d1.2.2.1 a.toNat (by omega)
        have e2a : ∀ i : Nat, i < 128 → y.2 2 (128 * a.toNat + i) = x.2 2 (128 * a.toNat + i) := fun i hi => d1.2.2.2 _ (by omega) (by omega)
        have e0y : y.1 0 = x.1 0 := d1.1.1 0 List.not_mem_nil
        have e8y : y.2 8 = x.2 8 := d1.1.2 8 (by decide)
        have za := ha.1
        obtain ⟨m9, q6, q1, q20, q7, q7b, qfx, qj, qf, qh⟩ := id (sh ns)
        have R0 := rc_0 (sh ns) lt ha sz d1 hw9 (show o9.toNat < 13 by omega)
        obtain ⟨⟨w0, w1, jy⟩, ⟨p0, p1, pf, pl⟩, _⟩ := id R0
        exact ih.2.2 (aU ((F_m_layAny ((F_m_root (y) (w9)).2) ((F_m_root (y) (w9)).1)).2) 1 (o9).toNat (((F_m_layAny ((F_m_root (y) (w9)).2) ((F_m_root (y) (w9)).1)).2).1 10)) (w9) ((0 : Int)) (R0.2.2) (nc) (ns) (sz) (by omega) (by omega) (by omega)
      · intro y w9 i9 ex nc ns sz i0 i1 fu
        rw [F_m_reduced_e2]
        obtain ⟨u0, jj⟩ := id ex
        have g10 := jj.2.2.1
        have g20 := jj.2.2.2.2.2.2.2.1
        by_cases c_156 : ((y).1 10) ≤ (i9)
        · rw [if_pos c_156]
          exact rc_r1 nc ns sz ex (by omega)
        · rw [if_neg c_156]
          exact ih.2.2 (aU (y) 2 ((((128 : Int)) * (o9)) + (i9)).toNat (((y).2 11) (i9).toNat)) (w9) ((i9) + (1 : Int)) (rcE_s i0 (by omega) (by omega) ex) (nc) (ns) (sz) (by omega) (by omega) (by omega)
  unfold F_m_reduced
  have za := ha.1
  by_cases c_6 : ((x).1 6) = ((-9 : Int))
  · rw [if_pos c_6]
    exact Or.inl ⟨rfl, by unfold stM; omega⟩
  · rw [if_neg c_6]
    by_cases c_13 : ((x).1 27) = (0)
    · rw [if_pos c_13]
      by_cases c_26 : (((x).2 1) (a).toNat) ≤ ((x).1 6)
      · rw [if_pos c_26]
        have d1 : slD x ((F_m_copy (x) (a) (o9)).2) o9.toNat ∧ slK x ((F_m_copy (x) (a) (o9)).2) o9.toNat (slM x a.toNat) := by
          have h9 := copy_D (x := x) (a := a.toNat) (b := o9.toNat) hrw (slH_K ha) (by omega) (by omega)
          rw [show (a.toNat : Int) = a by omega, show (o9.toNat : Int) = o9 by omega] at h9
          exact h9
        have e27 : ((F_m_copy (x) (a) (o9)).2).1 27 = x.1 27 := d1.1.1.1 27 List.not_mem_nil
        have e0c : ((F_m_copy (x) (a) (o9)).2).1 0 = x.1 0 := d1.1.1.1 0 List.not_mem_nil
        have e1c : ((F_m_copy (x) (a) (o9)).2).2 1 a.toNat = x.2 1 a.toNat := d1.1.2.2.1 a.toNat (by omega)
        have f1 := slD_F (slF_0 hrw) d1.1 (by omega)
        by_cases c_42 : (((F_m_copy (x) (a) (o9)).2).1 27) = (0)
        · rw [if_pos c_42]
          by_cases c_64 : (((F_m_copy (x) (a) (o9)).2).1 0) ≤ ((1 : Int))
          · rw [if_pos c_64]
            exact (L (300)).2.1 ((F_m_copy (x) (a) (o9)).2) ((((F_m_copy (x) (a) (o9)).2).2 1) (a).toNat) (d1.1) (by omega) (by omega) (by omega) (by (have l1 : x.1 0 = 1 := by omega); rw [show (x.1 0).toNat = 1 by omega, num_1 (by have h9 := ha.2; rw [show (x.1 0).toNat = 1 by omega] at h9; exact h9), slM_len]; omega) (by omega)
          · rw [if_neg c_64]
            exact (L (300)).1 ((F_m_copy (x) (a) (o9)).2) ((((F_m_copy (x) (a) (o9)).2).2 1) (a).toNat) ((0 : Int)) ((0 : Int)) (d1.1) (by omega) (by omega) (by omega) (by omega) (by rfl) (by omega) (by omega) (by omega)
        · rw [if_neg c_42]
          have r1 := slH_r f1 (mz (by omega) (by omega)) d1.2 (by omega) (by omega)
          exact rc_r2 (by omega) (by omega) ho f1 (mz (by omega) (by omega)) d1.1 d1.2
      · rw [if_neg c_26]
        exact Or.inl ⟨rfl, by unfold stM; omega⟩
    · rw [if_neg c_13]
      have d1 : slD x ((F_m_copy (x) (a) (o9)).2) o9.toNat ∧ slK x ((F_m_copy (x) (a) (o9)).2) o9.toNat (slM x a.toNat) := by
        have h9 := copy_D (x := x) (a := a.toNat) (b := o9.toNat) hrw (slH_K ha) (by omega) (by omega)
        rw [show (a.toNat : Int) = a by omega, show (o9.toNat : Int) = o9 by omega] at h9
        exact h9
      have e27 : ((F_m_copy (x) (a) (o9)).2).1 27 = x.1 27 := d1.1.1.1 27 List.not_mem_nil
      have e0c : ((F_m_copy (x) (a) (o9)).2).1 0 = x.1 0 := d1.1.1.1 0 List.not_mem_nil
      have e1c : ((F_m_copy (x) (a) (o9)).2).2 1 a.toNat = x.2 1 a.toNat := d1.1.2.2.1 a.toNat (by omega)
      have f1 := slD_F (slF_0 hrw) d1.1 (by omega)
      by_cases c_42 : (((F_m_copy (x) (a) (o9)).2).1 27) = (0)
      · rw [if_pos c_42]
        by_cases c_64 : (((F_m_copy (x) (a) (o9)).2).1 0) ≤ ((1 : Int))
        · rw [if_pos c_64]
          exact (L (300)).2.1 ((F_m_copy (x) (a) (o9)).2) ((((F_m_copy (x) (a) (o9)).2).2 1) (a).toNat) (d1.1) (by omega) (by omega) (by omega) (by (have l1 : x.1 0 = 1 := by omega); rw [show (x.1 0).toNat = 1 by omega, num_1 (by have h9 := ha.2; rw [show (x.1 0).toNat = 1 by omega] at h9; exact h9), slM_len]; omega) (by omega)
        · rw [if_neg c_64]
          exact (L (300)).1 ((F_m_copy (x) (a) (o9)).2) ((((F_m_copy (x) (a) (o9)).2).2 1) (a).toNat) ((0 : Int)) ((0 : Int)) (d1.1) (by omega) (by omega) (by omega) (by omega) (by rfl) (by omega) (by omega) (by omega)
      · rw [if_neg c_42]
        have r1 := slH_r f1 (mz (by omega) (by omega)) d1.2 (by omega) (by omega)
        exact rc_r2 (by omega) (by omega) ho f1 (mz (by omega) (by omega)) d1.1 d1.2
