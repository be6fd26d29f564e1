-- deps: 30 31 32 33 34 35 36 37 38 39 40 41 42 43 46 70 71 72 73 74 75 76 77 78 79 80 81 82 83 84 85 86 87 88 89 90 91 92 93 94 95.a 95.b 95.c 95.d 95.e 95.f 95.g 95.h
/-! what replace may take for granted, loop by loop -/
def gFk (wl : Nat) (x : KS) (b : Int) (x0 : KS) (src Ah P B : List Int) (q : Nat) : Prop := mcX x0 ∧ grL x0 x src Ah P B ∧ knR x wl ∧ q < nR x0 ∧ x.1 64 8 = (q : Int) ∧ (lS x0 q).length ≤ P.length ∧ ori (bM b) ((bQ b P).take (lS x0 q).length) = lS x0 q ∧ (b = 0 ∨ b = 1)
def gF (wl : Nat) (x : KS) (b : Int) : Prop := ∃ x0 src Ah P B q, gFk wl x b x0 src Ah P B q
def gKy (wl : Nat) (x : KS) (b : Int) (y : KS) (i : Int) : Prop := ∃ x0 src Ah P B q K Z, gFk wl x b x0 src Ah P B q ∧ ksame [(101, 5), (101, 6)] [] x y ∧ bQ b P = K ++ Z ∧ kKy y (bM b) K ∧ i = ((Ah.length + K.length : Nat) : Int)
def gVy (wl : Nat) (x : KS) (b : Int) (y : KS) (m v : Int) : Prop := ∃ x0 src Ah P B q K T, gFk wl x b x0 src Ah P B q ∧ ksame [(101, 5), (101, 6)] [] x y ∧ bQ b P = K ++ T ∧ kKy y (bM b) K ∧ m = ((P.length - (lS x0 q).length : Nat) : Int) ∧ v = (T.length : Int) ∧ T.length ≤ P.length - (lS x0 q).length + 1
theorem gT_k {x y : KS} {wl : Nat} {x0 : KS} {src Ah P B : List Int} {q : Nat} {b : Int} (g : gFk wl x b x0 src Ah P B q) (f : ksame [(101, 5), (101, 6)] [] x y) : gT y ∧ knR y wl ∧ (0 ≤ y.1 64 8 ∧ y.1 64 8 < 40) ∧ y.1 88 1 = ((Ah.length + P.length : Nat) : Int) ∧ y.1 87 12 = (Ah.length : Int) ∧ Ah.length + P.length ≤ 60 := by
  obtain ⟨m, gl, kn, hq, h8, hl, ho, b01⟩ := g
  have t := gS_T (gS_of m gl kn)
  have ru := m.2.1.1
  obtain ⟨sm, w88, w90, fr, ok1, ok2, h60, lv, st, low, ki, gw⟩ := gl
  refine ⟨gT_fr t f (by decide) (by decide) (grW_of f (by decide) gw), knR_of f (by decide) (by decide) (by decide) (by decide) (by decide) kn, ?_, by rw [f.1 88 1 (by decide), w88.1, List.length_append], by rw [f.1 87 12 (by decide), fr], by omega⟩
  rw [f.1 64 8 (by decide), h8]
  unfold nR at hq
  omega
theorem gF_begin {wl : Nat} {x : KS} {b : Int} (g : gF wl x b) : (b = 0 → gKy wl x b (F_k_begin x 1).2 ((F_k_begin x 1).2.1 87 12)) ∧ (¬ b = 0 → gKy wl x b (F_k_begin x 0).2 ((F_k_begin x 0).2.1 87 12)) := by
  obtain ⟨x0, src, Ah, P, B, q, g⟩ := g
  have fb : ∀ d, ksame [(101, 5), (101, 6)] [] x (F_k_begin x d).2 := fun d => by
    unfold F_k_begin
    split
    · exact km_s (by decide) (km_s (by decide) (km_rf _ _ _))
    · exact km_s (by decide) (km_s (by decide) (km_rf _ _ _))
  refine ⟨fun c => ⟨x0, src, Ah, P, B, q, [], bQ b P, g, fb 1, rfl, ?_, ?_⟩, fun c => ⟨x0, src, Ah, P, B, q, [], bQ b P, g, fb 0, rfl, ?_, ?_⟩⟩
  · have := F_k_begin_x x 1
    unfold bM
    rw [if_pos c]
    exact this
  · rw [(fb 1).1 87 12 (by decide), g.2.1.2.2.2.1]; rfl
  · have := F_k_begin_x x 0
    unfold bM
    rw [if_neg c]
    exact this
  · rw [(fb 0).1 87 12 (by decide), g.2.1.2.2.2.1]; rfl
theorem gKy_s {wl : Nat} {x y : KS} {b i : Int} (h : gKy wl x b y i) : gT y ∧ knR y wl ∧ iRL (y.1 101 5) ∧ iRL (y.1 101 6) ∧ (0 ≤ y.1 64 8 ∧ y.1 64 8 < 40) ∧ y.1 87 12 ≤ i ∧ i ≤ y.1 88 1 ∧ (b = 0 ∨ b = 1) := by
  obtain ⟨x0, src, Ah, P, B, q, K, Z, g, f, e, hk, ei⟩ := h
  obtain ⟨t, kn, h8, u, fr, h60⟩ := gT_k g f
  have hl : K.length + Z.length = P.length := by rw [← bQ_len b P, e, List.length_append]
  have okP := (okL_app.mp g.2.1.2.2.2.2.1).2
  have okK : okL (nL x0) K := by have := bQ_ok b okP; rw [e] at this; exact (okL_app.mp this).1
  exact ⟨t, kn, by rw [hk.1]; exact iRL_n (kH_b (okL4 g.1 okK) (bM_b b).2), by rw [hk.2]; exact iRL_n (Nat.lt_of_lt_of_le (kT_b (okL4 g.1 okK) (by omega)) (by decide)), h8, by rw [fr, ei]; omega, by rw [u, ei]; omega, g.2.2.2.2.2.2.2⟩
theorem gKy_push {wl : Nat} {x y : KS} {b i : Int} (h : gKy wl x b y i) (hi : ¬ y.1 88 1 ≤ i) : (b = 0 → gKy wl x b (F_k_push y (y.2 89 (y.1 88 1 - 1 - (i - y.1 87 12)).toNat)).2 (i + 1)) ∧ (¬ b = 0 → gKy wl x b (F_k_push y (y.2 89 i.toNat)).2 (i + 1)) := by
  obtain ⟨x0, src, Ah, P, B, q, K, Z, g, f, e, hk, ei⟩ := h
  obtain ⟨t, kn, h8, u, fr, h60⟩ := gT_k g f
  have hl : K.length + Z.length = P.length := by rw [← bQ_len b P, e, List.length_append]
  have okP := (okL_app.mp g.2.1.2.2.2.2.1).2
  have okQ := bQ_ok b okP
  obtain ⟨l, Z', eZ⟩ : ∃ l Z', Z = l :: Z' := by
    cases Z with
    | nil => exfalso; apply hi; rw [u, ei]; simp at hl; omega
    | cons l Z' => exact ⟨l, Z', rfl⟩
  subst eZ
  have w : wL y 88 (Ah ++ P) := wL_fr f (by decide) (by decide) g.2.1.2.1
  have at9 := bQ_at w e
  rw [e] at okQ
  have okK := (okL_app.mp okQ).1
  have okl := okQ l (List.mem_append_right _ List.mem_cons_self)
  have hp := F_k_push_x (l := l) hk (okL4 g.1 okK) (bM_b b).1 (bM_b b).2 okl.1
  have res : gKy wl x b (F_k_push y l).2 (i + 1) := ⟨x0, src, Ah, P, B, q, K ++ [l], Z', g, km_tr f (F_k_push_fr2 y l), by rw [e]; simp, hp, by rw [ei, List.length_append, List.length_singleton]; push_cast; omega⟩
  rw [fr, ei]
  refine ⟨fun c => ?_, fun c => ?_⟩
  · rw [if_pos c] at at9
    rw [at9, ← ei]
    exact res
  · rw [if_neg c] at at9
    rw [at9, ← ei]
    exact res
theorem gKy_end {wl : Nat} {x y : KS} {b i : Int} (h : gKy wl x b y i) (hi : y.1 88 1 ≤ i) : gVy wl x b y (max (y.1 88 1 - y.1 87 12 - (F_u_spanOf y (y.1 64 8) 1).1) 0) 0 := by
  obtain ⟨x0, src, Ah, P, B, q, K, Z, g, f, e, hk, ei⟩ := h
  obtain ⟨t, kn, h8, u, fr, h60⟩ := gT_k g f
  have hl : K.length + Z.length = P.length := by rw [← bQ_len b P, e, List.length_append]
  have eZ : Z = [] := List.length_eq_zero_iff.mp (by rw [u, ei] at hi; omega)
  subst eZ
  have sm : sM x0 y := sM_tr g.2.1.1 (sM_of f (by unfold sMs; decide) (by unfold sMa; decide))
  have ru := g.1.2.1
  have e8 : y.1 64 8 = (q : Int) := by rw [f.1 64 8 (by decide)]; exact g.2.2.2.2.1
  have hq := g.2.2.2.1
  have hsp : (F_u_spanOf y (y.1 64 8) 1).1 = ((lS x0 q).length : Int) := by
    have b58 := ru.1
    have q40 : q < 40 := by unfold nR at hq; omega
    unfold F_u_spanOf
    rw [e8, if_neg (by omega), if_pos (by omega), if_neg (by decide), Int.toNat_natCast, sm.2.1.2.2.1, lS_len]
    have := ru.2.2.1 q
    omega
  refine ⟨x0, src, Ah, P, B, q, K, [], g, f, e, hk, ?_, rfl, by simp⟩
  have hlq := g.2.2.2.2.2.1
  rw [hsp, u, fr]
  push_cast
  omega
theorem gVy_s {wl : Nat} {x y : KS} {b m v : Int} (h : gVy wl x b y m v) : gT y ∧ knR y wl ∧ iRL (y.1 101 5) ∧ iRL (y.1 101 6) ∧ (0 ≤ y.1 64 8 ∧ y.1 64 8 < 40) ∧ (0 ≤ m ∧ m ≤ 60) ∧ (0 ≤ v ∧ v ≤ m + 1) ∧ (b = 0 ∨ b = 1) := by
  obtain ⟨x0, src, Ah, P, B, q, K, T, g, f, e, hk, em, ev, hT⟩ := h
  obtain ⟨t, kn, h8, u, fr, h60⟩ := gT_k g f
  have hl : K.length + T.length = P.length := by rw [← bQ_len b P, e, List.length_append]
  have okP := (okL_app.mp g.2.1.2.2.2.2.1).2
  have okK : okL (nL x0) K := by have := bQ_ok b okP; rw [e] at this; exact (okL_app.mp this).1
  exact ⟨t, kn, by rw [hk.1]; exact iRL_n (kH_b (okL4 g.1 okK) (bM_b b).2), by rw [hk.2]; exact iRL_n (Nat.lt_of_lt_of_le (kT_b (okL4 g.1 okK) (by omega)) (by decide)), h8, by omega, by omega, g.2.2.2.2.2.2.2⟩
/-- what the two calls at the end need -/
def gRp (u : KS) (v : Int) : Prop := gT u ∧ 0 ≤ v ∧ u.1 87 12 + v ≤ 60 ∧ v ≤ u.1 88 1 ∧ 0 ≤ u.1 92 1 ∧ u.1 92 1 ≤ 60 ∧ u.1 87 12 + u.1 92 1 + v ≤ 60
theorem gRp_of {wl : Nat} {x y u : KS} {b v : Int} {x0 : KS} {src Ah P B : List Int} {q : Nat} {K T V : List Int} (g : gFk wl x b x0 src Ah P B q) (f : ksame [(101, 5), (101, 6)] [] x y) (e : bQ b P = K ++ T) (ev : v = (T.length : Int)) (fu : ksame [(92, 1)] [93] y u) (r : r03 (u.2 93)) (w : wL u 92 V) (hl : led x0 (ori (bM b) K) V) : gRp u v := by
  obtain ⟨t, kn, h8, u8, fr, h60⟩ := gT_k g f
  have hKT : K.length + T.length = P.length := by rw [← bQ_len b P, e, List.length_append]
  have lV := led_len g.1 hl
  rw [ori_len] at lV
  have gw := t.2.2.1
  have gwu : grW u := by
    unfold grW
    rw [fu.2 89 (by decide), fu.2 91 (by decide), fu.2 94 (by decide), fu.2 95 (by decide), fu.2 96 (by decide), fu.2 97 (by decide), fu.2 98 (by decide), fu.2 99 (by decide), fu.2 100 (by decide)]
    exact ⟨gw.1, gw.2.1, r, gw.2.2.2⟩
  refine ⟨gT_fr t fu (by decide) (by decide) gwu, by omega, ?_, ?_, ?_, ?_, ?_⟩
  · rw [fu.1 87 12 (by decide), fr]; omega
  · rw [fu.1 88 1 (by decide), u8]; omega
  · rw [w.1]; omega
  · rw [w.1]; omega
  · rw [fu.1 87 12 (by decide), fr, w.1]; omega
theorem gVy_found {wl : Nat} {x y : KS} {b m v : Int} (h : gVy wl x b y m v) (hf : ¬ (F_k_find y).1 = 0) : gRp (F_k_find y).2 v := by
  obtain ⟨x0, src, Ah, P, B, q, K, T, g, f, e, hk, em, ev, hT⟩ := h
  obtain ⟨t, kn, h8, u, fr, h60⟩ := gT_k g f
  have hl : K.length + T.length = P.length := by rw [← bQ_len b P, e, List.length_append]
  have okP := (okL_app.mp g.2.1.2.2.2.2.1).2
  have okK : okL (nL x0) K := by have := bQ_ok b okP; rw [e] at this; exact (okL_app.mp this).1
  have ki : knI x0 y := knI_of f (by decide) (by decide) (by decide) (by decide) (by decide) g.2.1.2.2.2.2.2.2.2.2.2.2.1
  have z93 := t.2.2.1.2.2.1
  rcases F_k_find_x g.1 kn ki (bM_o b) okK (by omega) hk with hh | ⟨_, V, okV, hV, hw⟩
  · rw [hh] at hf; exact absurd rfl hf
  · refine gRp_of g f e ev (F_k_find_fr y) ?_ hw hV
    rcases F_k_find_s_x (y := y) 10 (F_k_firstPlace y).1 (F_k_firstPlace y).1 (F_k_firstPlace_0 kn) with hh | ⟨j, hj, e1, e2, hh⟩
    · have hF : F_k_find y = (0, y) := hh
      rw [hF]
      exact z93
    · have hF : F_k_find y = (1, (F_w_unpack y 92 (y.2 104 j) (y.2 105 j)).2) := hh
      rw [hF]
      exact F_w_unpack_93 (w := 92) z93
theorem gVy_right {wl : Nat} {x y : KS} {b m v : Int} (h : gVy wl x b y m v) : gRp (F_w_unpack y 92 (F_u_packedRight y (y.1 64 8)).1 1).2 m := by
  obtain ⟨x0, src, Ah, P, B, q, K, T, g, f, e, hk, em, ev, hT⟩ := h
  obtain ⟨t, kn, h8, u, fr, h60⟩ := gT_k g f
  have sm : sM x0 y := sM_tr g.2.1.1 (sM_of f (by unfold sMs; decide) (by unfold sMa; decide))
  have e8 : y.1 64 8 = (q : Int) := by rw [f.1 64 8 (by decide)]; exact g.2.2.2.2.1
  have hq := g.2.2.2.1
  have hlq := g.2.2.2.2.2.1
  have pr := F_u_packedRight_x (mcX_sM sm g.1) (r := q) (by rw [sM_nR sm]; exact hq)
  rw [sM_rS sm] at pr
  have ah := mc_ahd g.1 hq
  have rl : (rS x0 q).length ≤ (lS x0 q).length := by rcases ah.1 with h | h <;> omega
  have up := F_w_unpack_x (x := y) (w := 92) (u := rS x0 q) (v := []) (okL4 g.1 ah.2.2.2) (fun l hl => absurd hl List.not_mem_nil) (by omega) (by simp) (by rw [List.append_nil]; show _ ≤ 60; omega)
  rw [List.append_nil] at up
  rw [e8, pr, show (1 : Int) = ((pk 1 ([] : List Int) : Nat) : Int) from rfl]
  refine gRp_of (K := (bQ b P).take (lS x0 q).length) (T := (bQ b P).drop (lS x0 q).length) g f (List.take_append_drop _ _).symm ?_ (F_w_unpack_fr _ _ _ _) (F_w_unpack_93 (w := 92) t.2.2.1.2.2.1) up ?_
  · rw [em, List.length_drop, bQ_len]
  · rw [g.2.2.2.2.2.2.1]
    exact led_st g.1 ⟨[], [], q, hq, by simp, by simp⟩
theorem gVy_drop {wl : Nat} {x y : KS} {b m v : Int} (h : gVy wl x b y m v) (c : ¬ m < v) (hf : (F_k_find y).1 = 0) : gVy wl x b (F_k_drop (F_k_find y).2).2 m (v + 1) := by
  obtain ⟨x0, src, Ah, P, B, q, K, T, g, f, e, hk, em, ev, hT⟩ := h
  obtain ⟨t, kn, h8, u, fr, h60⟩ := gT_k g f
  have hKT : K.length + T.length = P.length := by rw [← bQ_len b P, e, List.length_append]
  have okP := (okL_app.mp g.2.1.2.2.2.2.1).2
  have okK : okL (nL x0) K := by have := bQ_ok b okP; rw [e] at this; exact (okL_app.mp this).1
  have ki : knI x0 y := knI_of f (by decide) (by decide) (by decide) (by decide) (by decide) g.2.1.2.2.2.2.2.2.2.2.2.2.1
  have l0 : 1 ≤ (lS x0 q).length := List.length_pos_iff.mpr (mc_left0 g.1 q g.2.2.2.1)
  have hlq := g.2.2.2.2.2.1
  rcases F_k_find_x g.1 kn ki (bM_o b) okK (by omega) hk with hh | ⟨h1, _⟩
  · rw [hh]
    obtain ⟨K', l, eK⟩ := snoc_of K (by intro hK; rw [hK] at hKT; simp at hKT; omega)
    subst eK
    have hd := F_k_drop_x hk (okL4 g.1 okK) (by rw [List.length_append, List.length_singleton] at hKT; omega) (bM_b b).1 (bM_b b).2
    exact ⟨x0, src, Ah, P, B, q, K', l :: T, g, km_tr f (F_k_drop_fr2 y), by rw [e]; simp, hd, em, by rw [ev, List.length_cons]; push_cast; rfl, by rw [List.length_cons]; omega⟩
  · rw [hf] at h1; exact absurd h1 (by decide)
theorem F_u_packedRight_RL (x : KS) (r : Int) : iRL (F_u_packedRight x r).1 := by
  unfold F_u_packedRight
  repeat' split
  all_goals first | exact iO_RL _ _ | exact ⟨by show _ ≤ (1 : Int); decide, by show (1 : Int) < _; decide⟩
