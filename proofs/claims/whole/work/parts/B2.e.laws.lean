-- deps: B2.d
/-! free, law -/
def unS (p : Nat × Nat) : Prop := p ∈ [(0, 14), (0, 15), (0, 16)] ∨ (24 ≤ p.1 ∧ p.1 ≤ 55)
theorem Rel_un {S : List (Nat × Nat)} {A : List Nat} {X X' : KS} {Y Y' : MS} (h : Rel X Y) (f : ksame S A X X') (hS : ∀ p ∈ S, unS p) (hA : ∀ a ∈ A, 24 ≤ a ∧ a ≤ 55) (e15 : X'.1 0 15 = 0) (e16 : X'.1 0 16 = 0) (kc : KC X') (kr : KR X') (mv : MV Y') (e6 : Y'.1 6 = -9) (sw : swE X' Y') (s0 : same [3, 6] [4, 5] Y Y') : Rel X' Y' := by
  have kI := h.1
  have f2 := gm_of f
  have ne : ∀ {p : Nat × Nat}, p ∈ S → ∀ {c : Nat}, p.1 = c → c = 0 ∨ 23 < c ∧ c < 56 := fun {p} hp {c} e => by
    rcases hS p hp with h9 | h9
    · left
      simp only [List.mem_cons, List.not_mem_nil, or_false] at h9
      rcases h9 with h9 | h9 | h9 <;> rw [h9] at e <;> exact e.symm
    · right; omega
  have nf : ∀ {p : Nat × Nat}, p ∈ S → ∀ {c k : Nat}, p = (c, k) → ¬ (c = 0 ∨ 23 < c ∧ c < 56) → False := fun {p} hp {c k} e hc => hc (ne hp (c := c) (by rw [e]))
  have na : ∀ {a : Nat}, a ∈ A → (a < 24 ∨ 55 < a) → False := fun {a} ha h9 => by have := hA a ha; omega
  have wdx : wdE X' Y := by
    have k : ∀ w : Nat, 4 ≤ w → w ≤ 22 → wS X' w = wS X w := fun w h1 h2 => wS_fr f (fun h9 => nf h9 rfl (by omega)) (fun h9 => na h9 (by omega))
    exact ⟨fun j hj => (k _ (by omega) (by omega)).trans (h.2.2.2.1.1 j hj), (k 4 (by omega) (by omega)).trans h.2.2.2.1.2⟩
  have sM1 : ∀ j, slM Y' j = slM Y j := fun j => by unfold slM ltM; rw [s0.2 1 (by decide), s0.2 2 (by decide)]
  refine ⟨⟨?_, ?_, kc, ?_, ?_, ?_, ?_, kr⟩, mv, sw, ⟨fun j hj => by rw [sM1]; exact wdx.1 j hj, by rw [sM1]; exact wdx.2⟩, Or.inl ⟨e15, e6⟩⟩
  · refine KA_g f2 (fun p hp => ⟨fun e => by have := ne hp e; omega, fun h9 => ?_⟩) (fun a ha h9 => na ha (by simp only [List.mem_cons, List.not_mem_nil, or_false] at h9; omega)) kI.1
    simp only [List.mem_cons, List.not_mem_nil, or_false] at h9
    rcases h9 with h9 | h9 | h9 <;> exact nf hp h9 (by omega)
  · exact KB_k f (fun p hp => ⟨fun e => nf hp e (by omega), fun e => by have := ne hp e; omega⟩) (fun a ha h9 => na ha (by simp only [List.mem_cons, List.not_mem_nil, or_false] at h9; omega)) kI.2.1
  · exact KD_g f2 (fun a ha h9 => na ha (by simp only [List.mem_cons, List.not_mem_nil, or_false] at h9; omega)) kI.2.2.2.1
  · refine ⟨by rw [e15]; decide, ?_, Or.inl e16, fun h9 => by rw [e16] at h9; exact absurd h9 (by decide)⟩
    rw [e15, f.1 1 3 (fun h9 => nf h9 rfl (by omega))]
    exact kI.1.1.1.2.1.1
  · refine ⟨fun j hj => ?_, ?_⟩
    · exact wG_fr f (fun h9 => nf h9 rfl (by omega)) (fun h9 => na h9 (by omega)) (fun h9 => nf h9 rfl (by omega)) (kI.2.2.2.2.2.1.1 j hj)
    · exact wG_fr f (fun h9 => nf h9 rfl (by omega)) (fun h9 => na h9 (by omega)) (fun h9 => nf h9 rfl (by omega)) kI.2.2.2.2.2.1.2
  · refine KJ_g f2 (fun p hp h9 => ?_) (fun a ha h9 => na ha (by simp only [List.mem_cons, List.not_mem_nil, or_false] at h9; omega)) kI.2.2.2.2.2.2.1
    simp only [List.mem_cons, List.not_mem_nil, or_false] at h9
    rcases h9 with h9 | h9 | h9 | h9 | h9 <;> exact nf hp h9 (by omega)
theorem MV_un {Y Z : MS} (f : same [3, 6] [4, 5] Y Z) (lh : lwH Z) (lz : lzR Z) (lw : lwR Z) (e6 : Z.1 6 = -9) (h : MV Y) : MV Z := by
  obtain ⟨⟨h1, h2, h3, h4, h5, h6, h7, h8, h9, h10, h11⟩, k2, k3, k4, k5, k6⟩ := h
  refine ⟨⟨by rw [f.1 0 (by decide)]; exact h1, lh, lz, lw, by unfold fR; rw [f.2 8 (by decide)]; exact h5, by unfold hdR; rw [f.2 11 (by decide)]; exact h6, by unfold jOK; rw [f.2 9 (by decide)]; exact h7, by unfold lfR; rw [f.2 14 (by decide)]; exact h8, by unfold rtR; rw [f.2 16 (by decide)]; exact h9, by unfold rwR; rw [f.2 2 (by decide)]; exact h10, by unfold wyR; rw [f.2 28 (by decide)]; exact h11⟩, fun k hk => ?_, by rw [f.2 29 (by decide), f.2 30 (by decide)]; exact k3, by rw [f.2 32 (by decide), f.2 33 (by decide)]; exact k4, by rw [e6]; exact ⟨by decide, by decide⟩, by rw [f.1 27 (by decide)]; exact k6⟩
  unfold slH slM ltM
  rw [f.1 0 (by decide), f.2 1 (by decide), f.2 2 (by decide)]
  exact k2 k hk
theorem free_R {X : KS} {Y : MS} (h : Rel X Y) : (F_t_free X).1 = (F_m_free Y).1 ∧ Rel (F_t_free X).2 (F_m_free Y).2 := by
  obtain ⟨ki, mv, sw, wd, sn⟩ := id h
  have f : ksame [(0, 14), (0, 15), (0, 16)] [] X (F_t_free X).2 := km_s (by decide) (km_s (by decide) (km_s (by decide) (km_rf _ _ _)))
  have e14 : (F_t_free X).2.1 0 14 = 0 := by
    show (kS (kS (kS X 0 14 0) 0 15 0) 0 16 0).1 0 14 = 0
    rw [kS_k (by decide), kS_k (by decide), kS_s]
  have e15 : (F_t_free X).2.1 0 15 = 0 := by
    show (kS (kS (kS X 0 14 0) 0 15 0) 0 16 0).1 0 15 = 0
    rw [kS_k (by decide), kS_s]
  have e16 : (F_t_free X).2.1 0 16 = 0 := by
    show (kS (kS (kS X 0 14 0) 0 15 0) 0 16 0).1 0 16 = 0
    rw [kS_s]
  have y3 : (F_m_free Y).2.1 3 = 0 := by show (sU (sU Y 3 0) 6 (-9)).1 3 = 0; rw [yS_n (by decide), yS_s]
  have y6 : (F_m_free Y).2.1 6 = -9 := by show (sU (sU Y 3 0) 6 (-9)).1 6 = -9; rw [yS_s]
  have g : same [3, 6] [4, 5] Y (F_m_free Y).2 := sm_s (by decide) (sm_s (by decide) (sm_rf _ _ _))
  refine ⟨sw.2.1, Rel_un h f (by unfold unS; decide) nil_a e15 e16 ⟨by rw [e14]; decide, fun j hj => by rw [e14] at hj; exfalso; omega⟩ (fun j hj => ki.2.2.2.2.2.2.2 j hj) (MV_un g ⟨by rw [y3]; decide, fun l hl => by rw [y3] at hl; exfalso; omega⟩ mv.1.2.2.1 mv.1.2.2.2.1 y6 mv) y6 ⟨sw.1, by rw [e14, y3], fun l hl => by rw [y3] at hl; exfalso; omega⟩ g⟩
/-- one side of a LAW, copied by the reference -/
theorem mlaw_1 {Y : MS} {a b k : Int} {q s base : Nat} (hs : s ≤ 60) (eb : ∀ z : MS, z.1 3 = Y.1 3 → (12 * (2 * z.1 3 + k)).toNat = base ∧ 0 ≤ 12 * (2 * z.1 3 + k)) : ∀ (N i : Nat) (y : MS), y.1 = Y.1 → y.2 1 = Y.2 1 → y.2 2 = Y.2 2 → Y.2 1 q = (s : Int) → i ≤ s → s - i < N → ∃ (N' : Nat) (z : MS), F_m_law_s N 1 y a b k (q : Int) (i : Int) = F_m_law_s N' 0 z a b (k + 1) 0 0 ∧ N ≤ N' + (s - i) + 1 ∧ z.1 = Y.1 ∧ z.2 1 = Y.2 1 ∧ z.2 2 = Y.2 2 ∧ same [] [5] y z ∧ ∀ t, z.2 5 t = if base + i ≤ t ∧ t < base + s then Y.2 2 (128 * q + (t - base)) else y.2 5 t := by
  intro N
  induction N with
  | zero => intro i y _ _ _ _ _ h; exfalso; omega
  | succ N ih =>
    intro i y e1 e2 e3 hq hi fu
    rw [F_m_law_e1, e2, Int.toNat_natCast, hq]
    by_cases c : (s : Int) ≤ (i : Int)
    · rw [if_pos c]
      refine ⟨N, y, rfl, by omega, e1, e2, e3, sm_rf _ _ _, fun t => ?_⟩
      rw [if_neg (by omega)]
    · rw [if_neg c]
      have E := eb y (by rw [e1])
      have b1 : (12 * (2 * y.1 3 + k) + (i : Int)).toNat = base + i := by omega
      have b2 : (128 * (q : Int) + (i : Int)).toNat = 128 * q + i := by omega
      rw [b1, b2]
      obtain ⟨N', z, z1, z2, z3, z4, z5, z6, z7⟩ := ih (i + 1) (aU y 5 (base + i) (y.2 2 (128 * q + i))) e1 e2 e3 hq (by omega) (by omega)
      have z1' : F_m_law_s N 1 (aU y 5 (base + i) (y.2 2 (128 * q + i))) a b k (q : Int) ((i : Int) + 1) = F_m_law_s N' 0 z a b (k + 1) 0 0 := z1
      refine ⟨N', z, z1', by omega, z3, z4, z5, sm_tr (sm_a (by decide) (sm_rf _ _ _)) z6, fun t => ?_⟩
      rw [z7 t]
      have y5 : (aU y 5 (base + i) (y.2 2 (128 * q + i))).2 5 t = iU (y.2 5) (base + i) (y.2 2 (128 * q + i)) t := rfl
      rw [y5, yU_if]
      by_cases d1 : base + (i + 1) ≤ t ∧ t < base + s
      · rw [if_pos d1, if_pos (by omega)]
      · rw [if_neg d1]
        by_cases d2 : t = base + i
        · rw [if_pos d2, if_pos (by omega), e3, d2, show base + i - base = i by omega]
        · rw [if_neg d2, if_neg (by omega)]
theorem mlaw_x {Y : MS} {a b n sa sb : Nat} (e3 : Y.1 3 = (n : Int)) (ha : Y.2 1 a = (sa : Int)) (hb : Y.2 1 b = (sb : Int)) (la : sa ≤ 12) (lb : sb ≤ 12) : ∃ z : MS, F_m_law_s 300 0 Y (a : Int) (b : Int) 0 0 0 = ((n : Int) + 1, sU (sU z 3 ((n : Int) + 1)) 6 (-9)) ∧ same [] [4, 5] Y z ∧ z.2 4 = iU (iU (Y.2 4) (2 * n) (sa : Int)) (2 * n + 1) (sb : Int) ∧ ∀ t, z.2 5 t = if 24 * n + 12 ≤ t ∧ t < 24 * n + 12 + sb then Y.2 2 (128 * b + (t - (24 * n + 12))) else if 24 * n ≤ t ∧ t < 24 * n + sa then Y.2 2 (128 * a + (t - 24 * n)) else Y.2 5 t := by
  have T0 : (2 * Y.1 3 + 0).toNat = 2 * n := by omega
  rw [F_m_law_e0, if_neg (by decide), if_pos rfl, T0, Int.toNat_natCast, ha]
  obtain ⟨N1, z1, p1, p2, p3, p4, p5, p6, p7⟩ := mlaw_1 (Y := aU Y 4 (2 * n) (sa : Int)) (a := (a : Int)) (b := (b : Int)) (k := 0) (q := a) (s := sa) (base := 24 * n) (by omega) (fun z hz => by have : z.1 3 = (n : Int) := hz.trans e3; omega) 299 0 (aU Y 4 (2 * n) (sa : Int)) rfl rfl rfl ha (by omega) (by omega)
  have p1' : F_m_law_s 299 1 (aU Y 4 (2 * n) (sa : Int)) (a : Int) (b : Int) 0 (a : Int) 0 = F_m_law_s N1 0 z1 (a : Int) (b : Int) (0 + 1) 0 0 := p1
  rw [p1']
  obtain ⟨M1, hM⟩ : ∃ M1, N1 = M1 + 1 := ⟨N1 - 1, by omega⟩
  have z3 : z1.1 3 = (n : Int) := by rw [p3]; exact e3
  have T1 : (2 * z1.1 3 + (0 + 1)).toNat = 2 * n + 1 := by omega
  have zb : z1.2 1 ((b : Nat) : Int).toNat = (sb : Int) := by rw [p4, Int.toNat_natCast]; exact hb
  rw [hM, F_m_law_e0, if_neg (by decide), if_neg (by decide), T1, zb]
  obtain ⟨N2, z2, q1, q2, q3, q4, q5, q6, q7⟩ := mlaw_1 (Y := aU z1 4 (2 * n + 1) (sb : Int)) (a := (a : Int)) (b := (b : Int)) (k := 0 + 1) (q := b) (s := sb) (base := 24 * n + 12) (by omega) (fun z hz => by have : z.1 3 = (n : Int) := hz.trans z3; omega) M1 0 (aU z1 4 (2 * n + 1) (sb : Int)) rfl rfl rfl (by show z1.2 1 b = _; rw [p4]; exact hb) (by omega) (by omega)
  have q1' : F_m_law_s M1 1 (aU z1 4 (2 * n + 1) (sb : Int)) (a : Int) (b : Int) (0 + 1) (b : Int) 0 = F_m_law_s N2 0 z2 (a : Int) (b : Int) (0 + 1 + 1) 0 0 := q1
  rw [q1']
  obtain ⟨M2, hM2⟩ : ∃ M2, N2 = M2 + 1 := ⟨N2 - 1, by omega⟩
  have w3 : z2.1 3 = (n : Int) := by rw [q3]; exact z3
  rw [hM2, F_m_law_e0, if_pos (by decide), w3]
  refine ⟨z2, rfl, ?_, ?_, fun t => ?_⟩
  · refine sm_tr (sm_tr (sm_a (by decide) (sm_rf _ _ _)) (sm_mono nil_a (by decide) p6)) (sm_tr (sm_a (by decide) (sm_rf _ _ _)) (sm_mono nil_a (by decide) q6))
  · rw [q6.2 4 (by decide)]
    show iU (z1.2 4) (2 * n + 1) (sb : Int) = _
    rw [p6.2 4 (by decide)]
    rfl
  · rw [q7 t]
    have g2 : (aU z1 4 (2 * n + 1) (sb : Int)).2 2 = Y.2 2 := p5
    have g5 : (aU z1 4 (2 * n + 1) (sb : Int)).2 5 = z1.2 5 := rfl
    rw [g2, g5, p7 t]
    have h2 : (aU Y 4 (2 * n) (sa : Int)).2 2 = Y.2 2 := rfl
    have h5 : (aU Y 4 (2 * n) (sa : Int)).2 5 = Y.2 5 := rfl
    rw [h2, h5, Nat.add_zero]
    rfl
