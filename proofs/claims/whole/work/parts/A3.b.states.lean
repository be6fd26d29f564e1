-- deps: A3.a
/-! the same RULES: the same STATES, the same steps -/
theorem ahd_knm {u v : List Int} (h : ahd u v) : knm u < knm v := by
  rcases h with h | h
  · exact knm_short h
  · exact h.2
theorem bgn_c {L M : Nat → List Int} {n : Nat} (e : ∀ r, r < n → L r = M r) {p : List Int} (h : bgn L n p) : bgn M n p := by
  rcases h with h | ⟨r, q, hr, hq, e2⟩
  · exact Or.inl h
  · exact Or.inr ⟨r, q, hr, hq, by rw [← e r hr]; exact e2⟩
theorem lsx_c {L M : Nat → List Int} {n : Nat} (e : ∀ r, r < n → L r = M r) {w p : List Int} (h : lsx L n w p) : lsx M n w p := ⟨h.1, bgn_c e h.2.1, fun a q h1 h2 => h.2.2 a q h1 (bgn_c (fun r hr => (e r hr).symm) h2)⟩
theorem noL_c {L M : Nat → List Int} {n : Nat} (e : ∀ r, r < n → L r = M r) {w : List Int} (h : noL L n w) : noL M n w := fun r hr a b => by rw [← e r hr]; exact h r hr a b
theorem st1_c {L R L2 R2 : Nat → List Int} {n : Nat} (e : ∀ r, r < n → L r = L2 r ∧ R r = R2 r) {u v : List Int} (h : st1 L R n u v) : st1 L2 R2 n u v := by
  obtain ⟨a, b, r, hr, e1, e2⟩ := h
  exact ⟨a, b, r, hr, by rw [← (e r hr).1]; exact e1, by rw [← (e r hr).2]; exact e2⟩
theorem rch_c {L R L2 R2 : Nat → List Int} {n : Nat} (e : ∀ r, r < n → L r = L2 r ∧ R r = R2 r) {u v : List Int} (h : rch L R n u v) : rch L2 R2 n u v := by
  obtain ⟨k, h⟩ := h
  refine ⟨k, ?_⟩
  induction k generalizing u with
  | zero => exact h
  | succ k ih =>
    obtain ⟨w, h1, h2⟩ := h
    exact ⟨w, st1_c e h1, ih h2⟩
theorem jnb_c {L R L2 R2 : Nat → List Int} {n : Nat} (e : ∀ r, r < n → L r = L2 r ∧ R r = R2 r) {u v : List Int} (h : jnb L R n u v) : jnb L2 R2 n u v := by
  obtain ⟨w, h1, h2⟩ := h
  exact ⟨w, rch_c e h1, rch_c e h2⟩
theorem stS_num {X : KS} (m : mcX X) {i : Nat} (hi : (i : Int) < X.1 64 7) : num (nL X) (stS X i) = X.2 65 i ∧ okL (nL X) (stS X i) := by
  obtain ⟨sx, _, _, _, _, nm, nx, _⟩ := m
  have nb := nL_b sx
  obtain ⟨h1, h2, h3, _⟩ := nmX_st sx nx hi
  refine ⟨?_, dl_ok nb.1 _ _⟩
  unfold num stS
  rw [dl_len, vl_dl nb.1 _ _ h2, h1, scX_gS sx _ (by omega)]
theorem st_same {X : KS} {Y : MS} (m : mcX X) (p : plX Y) (eL : ∀ r, r < nR X → lS X r = lM Y r) (en : nR X = (Y.1 12).toNat) (e0 : X.1 1 2 = Y.1 0) : stE X Y := by
  obtain ⟨pr, str, N, S, hN⟩ := p
  obtain ⟨sx, ru, re, so, ma, nm, nx, h1, s0, hb1, hb2, hst⟩ := id m
  have nb := nL_b sx
  have ni := nL_i sx
  have nxt := fun (s l : Nat) (hs : s < S) (hl : l < (Y.1 0).toNat) => plN_next hN hs hl
  obtain ⟨⟨e17, n8, n0, e24, sN⟩, z0, K1, K2, G, E, J, S1, S2, S3, S4⟩ := hN
  have eL2 : ∀ r, r < (Y.1 12).toNat → lM Y r = lS X r := fun r hr => (eL r (by rw [en]; exact hr)).symm
  have hf : ∀ i j : Nat, i < j → j < (X.1 64 7).toNat → ((knm (stS X i) : Nat) : Int) < ((knm (stS X j) : Nat) : Int) := by
    intro i j hij hj
    have a := stS_num m (i := i) (by omega)
    have b := stS_num m (i := j) (by omega)
    have k := ahd_knm (num_ahd nb.1 nb.2 a.2 b.2 (by rw [a.1, b.1]; exact nm.2 i j hij (by omega)))
    omega
  have hg : ∀ i j : Nat, i < j → j < S → ((knm (str (Y.2 25 i).toNat) : Nat) : Int) < ((knm (str (Y.2 25 j).toNat) : Nat) : Int) := fun i j hij hj => by
    have := S2 i j hij hj
    omega
  have to : ∀ i : Nat, i < (X.1 64 7).toNat → ∃ j, j < S ∧ stS X i = str (Y.2 25 j).toNat := by
    intro i hi
    have b := hb1 i (by omega)
    rw [en] at b
    have b2 := bgn_c (fun r hr => eL r (by rw [en]; exact hr)) b
    have nd9 : nd (lM Y) (Y.1 12).toNat (stS X i) := by
      rcases b2 with h | ⟨r, q, hr, _, e⟩
      · exact Or.inl h
      · exact Or.inr ⟨r, q, hr, e⟩
    obtain ⟨n, n9, e⟩ := K2 _ nd9
    obtain ⟨s, s1, s2, _⟩ := S3 n n9 (by rw [e]; exact b2)
    exact ⟨s, s1, by rw [s2, Int.toNat_natCast, e]⟩
  have fro : ∀ j : Nat, j < S → ∃ i, i < (X.1 64 7).toNat ∧ str (Y.2 25 j).toNat = stS X i := by
    intro j hj
    obtain ⟨n, n9, e1, e2, b⟩ := S1 j hj
    have b2 := bgn_c eL2 b
    rw [← en] at b2
    obtain ⟨i, i1, i2⟩ := hb2 _ b2
    exact ⟨i, by omega, by rw [e1, Int.toNat_natCast, i2]⟩
  obtain ⟨q1, q2⟩ := enum_eq hf hg (fun i hi => by obtain ⟨j, j1, j2⟩ := to i hi; exact ⟨j, j1, by rw [j2]⟩) (fun i hi => by obtain ⟨j, j1, j2⟩ := fro i hi; exact ⟨j, j1, by rw [j2]⟩)
  have one : ∀ i j : Nat, i < S → j < S → knm (str (Y.2 25 i).toNat) = knm (str (Y.2 25 j).toNat) → i = j := by
    intro i j hi hj e
    rcases Nat.lt_trichotomy i j with c | c | c
    · have := S2 i j c hj; omega
    · exact c
    · have := S2 j i c hi; omega
  have li : ∀ i : Nat, i < S → stS X i = str (Y.2 25 i).toNat := by
    intro i hi
    obtain ⟨j, j1, j2⟩ := to i (by omega)
    have e := q2 i (by omega)
    rw [j2] at e
    have eij := one j i j1 hi (by omega)
    rw [j2, eij]
  have l4 := pr.2.1
  refine ⟨⟨by omega, e0, by omega, l4⟩, fun g l g0 g1 l0 l1 => ?_⟩
  obtain ⟨_, ms, _⟩ := mc_step m (s := g) (l := l) g0 (by omega) l0 (by omega)
  have N9 := nxt g.toNat l.toNat (by omega) (by omega)
  rw [show ((g.toNat : Nat) : Int) = g by omega, show ((l.toNat : Nat) : Int) = l by omega, ← li g.toNat (by omega)] at N9
  obtain ⟨m1, m2⟩ := ms
  rw [show ((l.toNat : Nat) : Int) = l by omega] at m1 m2
  by_cases c : (F_a_step X g l).1 < 0
  · obtain ⟨r, r1, _, a, ea⟩ := m1 c
    have hr : r < nR X := by unfold nR; omega
    rcases N9 with ⟨h9, _⟩ | ⟨t, _, _, h9, _⟩
    · exact Or.inl ⟨c, h9⟩
    · exact absurd (by rw [← eL r hr]; exact ea) (h9 r (by rw [← en]; exact hr) a)
  · obtain ⟨k1, k2, k3⟩ := m2 (by omega)
    rcases N9 with ⟨_, r, r1, a, ea⟩ | ⟨t, t1, t2, _, t3⟩
    · have hr : r < nR X := by rw [en]; exact r1
      exact absurd (by rw [eL r hr]; exact ea) (k2 r hr a)
    · have t4 := lsx_c eL2 t3
      rw [← en] at t4
      have e9 := lsx_one k3 t4
      rw [li _ (by omega)] at e9
      have e8 := one (F_a_step X g l).1.toNat t (by omega) t1 (congrArg knm e9)
      refine Or.inr ⟨by omega, by omega, by omega⟩
