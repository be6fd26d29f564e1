-- deps: 30 31 32 33 34 35 36 37 38 39 40 41 42 43 46 70 71 72 73 74 75 76 77 78 79 80 81 82 83 84 85 86 87 88 89 90 91 92 93 94
/-! replace: the longest known beginning or end of the part, or else the LEFT side itself -/
def bQ (b : Int) (P : List Int) : List Int := if b = 0 then P.reverse else P
def bM (b : Int) : Nat := if b = 0 then 2 else 1
theorem F_k_push_fr2 (x : KS) (l : Int) : ksame [(101, 5), (101, 6)] [] x (F_k_push x l).2 := by
  unfold F_k_push
  split
  · exact km_s (by decide) (km_rf _ _ _)
  · exact km_s (by decide) (km_rf _ _ _)
theorem F_k_drop_fr2 (x : KS) : ksame [(101, 5), (101, 6)] [] x (F_k_drop x).2 := by
  unfold F_k_drop
  split
  · exact km_s (by decide) (km_rf _ _ _)
  · exact km_s (by decide) (km_rf _ _ _)
theorem bM_b (b : Int) : 1 ≤ bM b ∧ bM b ≤ 2 := by unfold bM; split <;> decide
theorem bM_o (b : Int) : bM b = 1 ∨ bM b = 2 := by unfold bM; split <;> decide
theorem bQ_len (b : Int) (P : List Int) : (bQ b P).length = P.length := by unfold bQ; split <;> simp
theorem bQ_ok {n : Nat} (b : Int) {P : List Int} (h : okL n P) : okL n (bQ b P) := by
  unfold bQ
  split
  · exact fun l hl => h l (List.mem_reverse.mp hl)
  · exact h
/-- the LETTER that is pushed next -/
theorem bQ_at {y : KS} {b : Int} {Ah P K Z : List Int} {l : Int} (h : wL y 88 (Ah ++ P)) (e : bQ b P = K ++ l :: Z) : (if b = 0 then y.2 89 (y.1 88 1 - 1 - (((Ah.length + K.length : Nat) : Int) - (Ah.length : Int))).toNat else y.2 89 ((Ah.length + K.length : Nat) : Int).toNat) = l := by
  unfold bQ at e
  by_cases c : b = 0
  · rw [if_pos c] at e ⊢
    have eP : P = Z.reverse ++ l :: K.reverse := by
      have := congrArg List.reverse e
      rw [List.reverse_reverse] at this
      rw [this]
      simp
    have h2 := h.2
    rw [eP, ← List.append_assoc] at h2
    have := tk_at h2
    rw [List.length_append, List.length_reverse] at this
    have ei : (y.1 88 1 - 1 - (((Ah.length + K.length : Nat) : Int) - (Ah.length : Int))).toNat = Ah.length + Z.length := by
      rw [h.1, eP, List.length_append, List.length_append, List.length_cons, List.length_reverse, List.length_reverse]
      push_cast
      omega
    rw [ei]
    exact this
  · rw [if_neg c] at e ⊢
    rw [Int.toNat_natCast]
    have h2 := h.2
    rw [e, ← List.append_assoc] at h2
    have := tk_at h2
    rw [List.length_append] at this
    exact this
theorem F_g_replace_s_0 {x y : KS} (mx : mcX x) {b : Int} {Ah P : List Int} (okP : okL (nL x) P) : ∀ (n : Nat) (z : KS) (K Z : List Int), ksame [(101, 5), (101, 6)] [] y z → wL z 88 (Ah ++ P) → z.1 87 12 = (Ah.length : Int) → bQ b P = K ++ Z → kKy z (bM b) K → Z.length < n → ∃ (m : Nat) (u : KS), m + Z.length + 1 = n ∧ ksame [(101, 5), (101, 6)] [] y u ∧ kKy u (bM b) (bQ b P) ∧ F_g_replace_s n 0 z b ((Ah.length + K.length : Nat) : Int) 0 0 0 = F_g_replace_s m 1 u b ((kH (bM b) (bQ b P) : Nat) : Int) ((kT (bQ b P) : Nat) : Int) (max (u.1 88 1 - u.1 87 12 - (F_u_spanOf u (u.1 64 8) 1).1) 0) 0 := by
  intro n
  induction n with
  | zero => intro z K Z _ _ _ _ _ h; exfalso; omega
  | succ n ih =>
    intro z K Z fz w fr e hk hn
    rw [F_g_replace_e0, w.1]
    have hl : (Ah ++ P).length = Ah.length + K.length + Z.length := by rw [List.length_append, ← bQ_len b P, e, List.length_append]; omega
    cases Z with
    | nil =>
      rw [if_pos (by rw [hl]; push_cast; simp)]
      rw [List.append_nil] at e
      rw [← e] at hk
      refine ⟨n, z, by simp, fz, hk, ?_⟩
      rw [hk.1, hk.2, w.1]
    | cons l Z =>
      rw [if_neg (by rw [hl, List.length_cons]; push_cast; omega)]
      have at9 := bQ_at w e
      have okQ := bQ_ok b okP
      rw [e] at okQ
      have okK := (okL_app.mp okQ).1
      have okl := okQ l (List.mem_append_right _ List.mem_cons_self)
      have hp := F_k_push_x (l := l) hk (okL4 mx okK) (bM_b b).1 (bM_b b).2 okl.1
      have fp := F_k_push_fr2 z l
      obtain ⟨m, u, q1, q2, q3, q4⟩ := ih (F_k_push z l).2 (K ++ [l]) Z (km_tr fz fp) (wL_fr fp (by decide) (by decide) w) (by rw [fp.1 87 12 (by decide)]; exact fr) (by rw [e]; simp) hp (by rw [List.length_cons] at hn; omega)
      refine ⟨m, u, by rw [List.length_cons]; omega, q2, q3, ?_⟩
      rw [← q4]
      have ei : ((Ah.length + K.length : Nat) : Int) + 1 = ((Ah.length + (K ++ [l]).length : Nat) : Int) := by rw [List.length_append, List.length_singleton]; push_cast; omega
      rw [← ei]
      by_cases c : b = 0
      · rw [if_pos c] at at9 ⊢
        rw [w.1] at at9
        rw [fr, at9]
      · rw [if_neg c] at at9 ⊢
        rw [at9]
/-- what is replaced: part of it, led on to the end -/
def rpC (x y z : KS) (b : Int) (P : List Int) (v : Int) : Prop := ksame [(101, 5), (101, 6), (92, 1)] [93] y z ∧ ∃ (K T V : List Int), bQ b P = K ++ T ∧ v = (T.length : Int) ∧ okL (nL x) V ∧ led x (ori (bM b) K) V ∧ wL z 92 V ∧ (∀ j : Nat, 0 ≤ z.2 93 j ∧ z.2 93 j ≤ 3) ∧ ∀ q : Nat, y.1 64 8 = (q : Int) → (lS x q).length ≤ K.length
theorem iN_3b (a : Int) : 0 ≤ iN a 3 ∧ iN a 3 ≤ 3 := by
  obtain ⟨k, e⟩ : ∃ k : Nat, iL a = lN k := ⟨(iL a).toBitVec.toNat, wb_inj (by rw [wb_tb]; simp)⟩
  unfold iN
  rw [e, show iL 3 = lN 3 from rfl, wx_and, show (3 : Nat) = 2 ^ 2 - 1 from rfl, Nat.and_two_pow_sub_one_eq_mod]
  have h : k % 2 ^ 2 < 4 := Nat.mod_lt _ (by decide)
  rw [pf_lI (by omega)]
  omega
theorem F_w_unpack_s_93 {w : Nat} : ∀ (n : Nat), (∀ (y : KS) (h t g q i : Int), (∀ j : Nat, 0 ≤ y.2 (w + 1) j ∧ y.2 (w + 1) j ≤ 3) → ∀ j : Nat, 0 ≤ (F_w_unpack_s w n 0 y h t g q i).2.2 (w + 1) j ∧ (F_w_unpack_s w n 0 y h t g q i).2.2 (w + 1) j ≤ 3) ∧ (∀ (y : KS) (h t g q i : Int), (∀ j : Nat, 0 ≤ y.2 (w + 1) j ∧ y.2 (w + 1) j ≤ 3) → ∀ j : Nat, 0 ≤ (F_w_unpack_s w n 1 y h t g q i).2.2 (w + 1) j ∧ (F_w_unpack_s w n 1 y h t g q i).2.2 (w + 1) j ≤ 3) ∧ (∀ (y : KS) (h t g q i : Int), (∀ j : Nat, 0 ≤ y.2 (w + 1) j ∧ y.2 (w + 1) j ≤ 3) → ∀ j : Nat, 0 ≤ (F_w_unpack_s w n 2 y h t g q i).2.2 (w + 1) j ∧ (F_w_unpack_s w n 2 y h t g q i).2.2 (w + 1) j ≤ 3) := by
  intro n
  induction n with
  | zero => exact ⟨fun y h t g q i r => r, fun y h t g q i r => r, fun y h t g q i r => r⟩
  | succ n ih =>
    obtain ⟨i0, i1, i2⟩ := ih
    refine ⟨fun y h t g q i r => ?_, fun y h t g q i r => ?_, fun y h t g q i r => ?_⟩
    · rw [F_w_unpack_e0]
      repeat' split
      all_goals first | exact r | exact i1 _ _ _ _ _ _ r
    · rw [F_w_unpack_e1]
      repeat' split
      all_goals first | exact i2 _ _ _ _ _ _ r | exact i1 _ _ _ _ _ _ r
    · rw [F_w_unpack_e2]
      repeat' split
      all_goals first | exact i0 _ _ _ _ _ _ r | skip
      refine i2 _ _ _ _ _ _ ?_
      rw [kA_s, kS_2]
      exact iU_all (P := fun z => 0 ≤ z ∧ z ≤ 3) (iN_3b _) r
theorem F_w_unpack_93 {y : KS} {w : Nat} {h t : Int} (r : ∀ j : Nat, 0 ≤ y.2 (w + 1) j ∧ y.2 (w + 1) j ≤ 3) : ∀ j : Nat, 0 ≤ (F_w_unpack y w h t).2.2 (w + 1) j ∧ (F_w_unpack y w h t).2.2 (w + 1) j ≤ 3 := (F_w_unpack_s_93 300).1 _ _ _ _ _ _ r
theorem rpC_fr {x y z : KS} {b : Int} {P : List Int} {v : Int} (h : rpC x y z b P v) : ksame [(101, 5), (101, 6), (92, 1)] [93] y z := h.1
/-- the call at the end of replace -/
def rpF (b : Int) (z : KS) (v h t : Int) : Int × KS := if b = 0 then (0, (F_g_replaceLast z v h t).2) else (0, (F_g_replaceFirst z v h t).2)
theorem F_g_replace_s_1 {x y : KS} (mx : mcX x) {wl : Nat} {b : Int} {Ah P : List Int} (okP : okL (nL x) P) (h60 : P.length ≤ 60) (sm : sM x y) (kn : knR y wl) (ki : knI x y) (r93 : ∀ j : Nat, 0 ≤ y.2 93 j ∧ y.2 93 j ≤ 3) {q : Nat} (hq : q < nR x) (h8 : y.1 64 8 = (q : Int)) {M0 : Nat} (hM : M0 + (lS x q).length = P.length) (hL : ori (bM b) ((bQ b P).take (lS x q).length) = lS x q) (h t : Int) : ∀ (n : Nat) (z : KS) (K T : List Int), ksame [(101, 5), (101, 6)] [] y z → bQ b P = K ++ T → kKy z (bM b) K → T.length ≤ M0 + 1 → M0 + 1 - T.length < n → ∃ (u : KS) (v : Int), F_g_replace_s n 1 z b h t (M0 : Int) (T.length : Int) = rpF b u v h t ∧ rpC x y u b P v := by
  intro n
  induction n with
  | zero => intro z K T _ _ _ _ h; exfalso; omega
  | succ n ih =>
    intro z K T fz e hk hT hn
    have smz : sM x z := sM_tr sm (sM_of fz (by unfold sMs; decide) (by unfold sMa; decide))
    have knz : knR z wl := knR_of fz (by decide) (by decide) (by decide) (by decide) (by decide) kn
    have kiz : knI x z := knI_of fz (by decide) (by decide) (by decide) (by decide) (by decide) ki
    have okQ := bQ_ok b okP
    have hQl := bQ_len b P
    have hKT : K.length + T.length = P.length := by rw [← hQl, e, List.length_append]
    have l0 : 1 ≤ (lS x q).length := List.length_pos_iff.mpr (mc_left0 mx q hq)
    have okK : okL (nL x) K := by rw [e] at okQ; exact (okL_app.mp okQ).1
    have z93 : ∀ j : Nat, 0 ≤ z.2 93 j ∧ z.2 93 j ≤ 3 := by rw [fz.2 93 (by decide)]; exact r93
    rw [F_g_replace_e1]
    by_cases c1 : (M0 : Int) < (T.length : Int)
    · rw [if_pos c1, if_neg (by omega)]
      refine ⟨(F_w_unpack z 92 (F_u_packedRight z (z.1 64 8)).1 1).2, (M0 : Int), ?_, ?_⟩
      · unfold rpF
        split <;> rfl
      · have e8 : z.1 64 8 = (q : Int) := by rw [fz.1 64 8 (by decide)]; exact h8
        have pr := F_u_packedRight_x (mcX_sM smz mx) (r := q) (by rw [sM_nR smz]; exact hq)
        rw [sM_rS smz] at pr
        have ah := mc_ahd mx hq
        have rl : (rS x q).length ≤ (lS x q).length := by rcases ah.1 with h | h <;> omega
        have fu := F_w_unpack_fr z 92 ((pk 1 (rS x q) : Nat) : Int) ((pk 1 ([] : List Int) : Nat) : Int)
        have up := F_w_unpack_x (x := z) (w := 92) (u := rS x q) (v := []) (okL4 mx ah.2.2.2) (fun l hl => absurd hl List.not_mem_nil) (by omega) (by simp) (by rw [List.append_nil]; show _ ≤ 60; omega)
        rw [List.append_nil] at up
        rw [e8, pr, show (1 : Int) = ((pk 1 ([] : List Int) : Nat) : Int) from rfl]
        refine ⟨km_tr (km_mono (by decide) (by decide) fz) (km_mono (by decide) (by decide) fu), (bQ b P).take (lS x q).length, (bQ b P).drop (lS x q).length, rS x q, (List.take_append_drop _ _).symm, ?_, ah.2.2.2, ?_, up, F_w_unpack_93 (w := 92) z93, fun q' h' => ?_⟩
        · rw [List.length_drop, hQl]; omega
        · rw [hL]
          exact led_st mx ⟨[], [], q, hq, by simp, by simp⟩
        · have : q' = q := by omega
          rw [this, List.length_take, hQl]
          omega
    · rw [if_neg c1]
      rcases F_k_find_x mx knz kiz (bM_o b) okK (by omega) hk with hf | ⟨hf, V, okV, hl, hw⟩
      · rw [hf, if_pos rfl]
        obtain ⟨K', l, eK⟩ := snoc_of K (by intro hK; rw [hK] at hKT; simp at hKT; omega)
        subst eK
        have fd := F_k_drop_fr2 z
        have hd := F_k_drop_x hk (okL4 mx okK) (by rw [List.length_append, List.length_singleton] at hKT; omega) (bM_b b).1 (bM_b b).2
        have := ih (F_k_drop z).2 K' (l :: T) (km_tr fz fd) (by rw [e]; simp) hd (by rw [List.length_cons]; omega) (by rw [List.length_cons]; omega)
        rw [show (((l :: T).length : Nat) : Int) = (T.length : Int) + 1 by rw [List.length_cons]; push_cast; rfl] at this
        exact this
      · rw [if_neg (by rw [hf]; decide), if_pos (by omega)]
        refine ⟨(F_k_find z).2, (T.length : Int), ?_, ?_⟩
        · unfold rpF
          split <;> rfl
        · have ff := F_k_find_fr z
          have hKq : ∀ q' : Nat, y.1 64 8 = (q' : Int) → (lS x q').length ≤ K.length := fun q' h' => by
            have eq9 : q' = q := by omega
            rw [eq9]
            omega
          refine ⟨km_tr (km_mono (by decide) (by decide) fz) (km_mono (by decide) (by decide) ff), K, T, V, e, rfl, okV, hl, hw, ?_, hKq⟩
          rcases F_k_find_s_x (y := z) 10 (F_k_firstPlace z).1 (F_k_firstPlace z).1 (F_k_firstPlace_0 knz) with hh | ⟨j, hj, e1, e2, hh⟩
          · have hF : F_k_find z = (0, z) := hh
            rw [hF]
            exact z93
          · have hF : F_k_find z = (1, (F_w_unpack z 92 (z.2 104 j) (z.2 105 j)).2) := hh
            rw [hF]
            exact F_w_unpack_93 (w := 92) z93
/-- replace is one of its two calls, with what is replaced -/
theorem F_g_replace_x {x y : KS} (mx : mcX x) {wl : Nat} {b : Int} {src Ah P B : List Int} (g : grL x y src Ah P B) (kn : knR y wl) {q : Nat} (hq : q < nR x) (h8 : y.1 64 8 = (q : Int)) (hq2 : (lS x q).length ≤ P.length) (hL : ori (bM b) ((bQ b P).take (lS x q).length) = lS x q) : ∃ (u : KS) (v : Int), F_g_replace y b = rpF b u v ((kH (bM b) (bQ b P) : Nat) : Int) ((kT (bQ b P) : Nat) : Int) ∧ rpC x y u b P v := by
  obtain ⟨sm, w88, w90, fr, ok1, ok2, h60, lv, st, low, ki, gw⟩ := g
  have okP := (okL_app.mp ok1).2
  have hb : ∃ z : KS, ksame [(101, 5), (101, 6)] [] y z ∧ kKy z (bM b) [] ∧ F_g_replace y b = F_g_replace_s 200 0 z b (z.1 87 12) 0 0 0 := by
    have fb : ∀ d, ksame [(101, 5), (101, 6)] [] y (F_k_begin y d).2 := fun d => by
      unfold F_k_begin
      split
      · exact km_s (by decide) (km_s (by decide) (km_rf _ _ _))
      · exact km_s (by decide) (km_s (by decide) (km_rf _ _ _))
    unfold F_g_replace bM
    by_cases c : b = 0
    · rw [if_pos c, if_pos c]
      exact ⟨_, fb 1, F_k_begin_x y 1, rfl⟩
    · rw [if_neg c, if_neg c]
      exact ⟨_, fb 0, F_k_begin_x y 0, rfl⟩
  obtain ⟨z, fz, kz, ez⟩ := hb
  obtain ⟨m, u, hm, fu, ku, eu⟩ := F_g_replace_s_0 (y := y) mx (b := b) (Ah := Ah) okP 200 z [] (bQ b P) fz (wL_fr fz (by decide) (by decide) w88) (by rw [fz.1 87 12 (by decide)]; exact fr) rfl kz (by rw [bQ_len]; omega)
  rw [bQ_len] at hm
  have e12 : z.1 87 12 = ((Ah.length + ([] : List Int).length : Nat) : Int) := by rw [fz.1 87 12 (by decide), fr]; rfl
  rw [ez, e12, eu]
  have e88 : u.1 88 1 = (((Ah ++ P).length : Nat) : Int) := by rw [fu.1 88 1 (by decide), w88.1]
  have ef : u.1 87 12 = (Ah.length : Int) := by rw [fu.1 87 12 (by decide), fr]
  have e8 : u.1 64 8 = (q : Int) := by rw [fu.1 64 8 (by decide), h8]
  have ru := mx.2.1
  have hsp : (F_u_spanOf u (u.1 64 8) 1).1 = ((lS x q).length : Int) := by
    have b58 := ru.1
    have q40 : q < 40 := by unfold nR at hq; omega
    have e60 : u.2 60 = x.2 60 := by rw [fu.2 60 (by decide)]; exact sm.2.1.2.2.1
    unfold F_u_spanOf
    rw [e8, if_neg (by omega), if_pos (by omega), if_neg (by decide), Int.toNat_natCast, e60, lS_len]
    have := ru.2.2.1 q
    omega
  have eM : max (u.1 88 1 - u.1 87 12 - (F_u_spanOf u (u.1 64 8) 1).1) 0 = ((P.length - (lS x q).length : Nat) : Int) := by
    rw [hsp, e88, ef, List.length_append]
    push_cast
    omega
  rw [eM]
  have := F_g_replace_s_1 (y := y) (Ah := Ah) mx okP (by omega) sm kn ki gw.2.2.1 hq h8 (M0 := P.length - (lS x q).length) (by omega) hL ((kH (bM b) (bQ b P) : Nat) : Int) ((kT (bQ b P) : Nat) : Int) m u (bQ b P) [] fu (by rw [List.append_nil]) ku (by simp) (by simp; omega)
  exact this
