-- deps: 30 31 32 33 34 35 36 37 38 39 40 41 42 43 70 71 72 73 74 75 76 77 78 79 80 81 82 83 84 85 86
/-! lists as longs: behind a mark, two bits a LETTER -/
def pk (b : Nat) (u : List Int) : Nat := u.foldl (fun a l => a * 4 + l.toNat) b
theorem pk_s (b : Nat) (u : List Int) (l : Int) : pk b (u ++ [l]) = pk b u * 4 + l.toNat := by unfold pk; rw [List.foldl_append]; rfl
theorem pk_b {b : Nat} : ∀ (k : Nat) (u : List Int), u.length = k → okL 4 u → b * 4 ^ k ≤ pk b u ∧ pk b u < (b + 1) * 4 ^ k := by
  intro k
  induction k with
  | zero =>
    intro u hu _
    have : u = [] := List.length_eq_zero_iff.mp hu
    subst this
    rw [Nat.pow_zero]
    show b * 1 ≤ b ∧ b < (b + 1) * 1
    omega
  | succ k ih =>
    intro u hu ho
    obtain ⟨t, l, e⟩ := snoc_of u (by intro h; rw [h] at hu; simp at hu)
    subst e
    rw [List.length_append, List.length_singleton] at hu
    obtain ⟨h1, h2⟩ := ih t (by omega) (okL_app.mp ho).1
    have hl := ho l (List.mem_append_right _ (List.mem_singleton.mpr rfl))
    rw [pk_s, Nat.pow_succ, ← Nat.mul_assoc, ← Nat.mul_assoc]
    omega
theorem pk_inj : ∀ (k : Nat) (u v : List Int) (b c : Nat), u.length = k → okL 4 u → okL 4 v → 1 ≤ b → b ≤ 3 → 1 ≤ c → c ≤ 3 → pk b u = pk c v → b = c ∧ u = v := by
  have big : ∀ (b c : Nat) (t : List Int) (l : Int), okL 4 t → 1 ≤ c → b ≤ 3 → b = pk c (t ++ [l]) → False := by
    intro b c t l ht h1 h2 h
    have := (pk_b (b := c) t.length t rfl ht).1
    rw [pk_s] at h
    have h4 : 1 ≤ 4 ^ t.length := Nat.one_le_pow _ _ (by decide)
    have h5 : 1 * 1 ≤ c * 4 ^ t.length := Nat.mul_le_mul h1 h4
    omega
  intro k
  induction k with
  | zero =>
    intro u v b c hu ou ov b1 b3 c1 c3 h
    have : u = [] := List.length_eq_zero_iff.mp hu
    subst this
    by_cases hv : v = []
    · subst hv; exact ⟨h, rfl⟩
    · obtain ⟨t, l, e⟩ := snoc_of v hv
      subst e
      exact absurd h (fun h => big b c t l (okL_app.mp ov).1 c1 b3 h)
  | succ k ih =>
    intro u v b c hu ou ov b1 b3 c1 c3 h
    obtain ⟨t, l, e⟩ := snoc_of u (by intro h; rw [h] at hu; simp at hu)
    subst e
    rw [List.length_append, List.length_singleton] at hu
    by_cases hv : v = []
    · subst hv
      exact absurd h.symm (fun h => big c b t l (okL_app.mp ou).1 b1 c3 h)
    · obtain ⟨t', l', e⟩ := snoc_of v hv
      subst e
      rw [pk_s, pk_s] at h
      have hl := ou l (List.mem_append_right _ (List.mem_singleton.mpr rfl))
      have hl' := ov l' (List.mem_append_right _ (List.mem_singleton.mpr rfl))
      obtain ⟨e1, e2⟩ := ih t t' b c (by omega) (okL_app.mp ou).1 (okL_app.mp ov).1 b1 b3 c1 c3 (by omega)
      have e3 : l = l' := by omega
      rw [e1, e2, e3]
      exact ⟨rfl, rfl⟩
theorem pk_vl : ∀ (k : Nat) (u : List Int), u.length = k → pk 1 u = 4 ^ k + vl 4 u := by
  intro k
  induction k with
  | zero =>
    intro u hu
    have : u = [] := List.length_eq_zero_iff.mp hu
    subst this
    rfl
  | succ k ih =>
    intro u hu
    obtain ⟨t, l, e⟩ := snoc_of u (by intro h; rw [h] at hu; simp at hu)
    subst e
    rw [List.length_append, List.length_singleton] at hu
    rw [pk_s, vl_snoc, ih t (by omega), Nat.pow_succ]
    omega
/-- a key: its first thirty LETTERS behind a mark, the others behind a 1 -/
def kH (b : Nat) (K : List Int) : Nat := pk b (K.take 30)
def kT (K : List Int) : Nat := pk 1 (K.drop 30)
theorem okL_take {n : Nat} {u : List Int} (h : okL n u) (k : Nat) : okL n (u.take k) := fun l hl => h l (List.mem_of_mem_take hl)
theorem okL_drop {n : Nat} {u : List Int} (h : okL n u) (k : Nat) : okL n (u.drop k) := fun l hl => h l (List.mem_of_mem_drop hl)
theorem key_inj {b c : Nat} {u v : List Int} (ou : okL 4 u) (ov : okL 4 v) (b1 : 1 ≤ b) (b3 : b ≤ 3) (c1 : 1 ≤ c) (c3 : c ≤ 3) (h1 : kH b u = kH c v) (h2 : kT u = kT v) : b = c ∧ u = v := by
  obtain ⟨e1, e2⟩ := pk_inj _ _ _ b c rfl (okL_take ou 30) (okL_take ov 30) b1 b3 c1 c3 h1
  obtain ⟨_, e3⟩ := pk_inj _ _ _ 1 1 rfl (okL_drop ou 30) (okL_drop ov 30) (by decide) (by decide) (by decide) (by decide) h2
  refine ⟨e1, ?_⟩
  rw [← List.take_append_drop 30 u, e2, e3, List.take_append_drop]
theorem p4_30 : (4 : Nat) ^ 30 = 1152921504606846976 := by decide
theorem p4_m {a b : Nat} (h : a ≤ b) : 4 ^ a ≤ 4 ^ b := Nat.pow_le_pow_right (by decide) h
theorem kH_b {b : Nat} {u : List Int} (ou : okL 4 u) (b2 : b ≤ 2) : kH b u < 2 ^ 62 := by
  have h := (pk_b (b := b) _ (u.take 30) rfl (okL_take ou 30)).2
  have h2 : (u.take 30).length ≤ 30 := by rw [List.length_take]; omega
  have h3 := p4_m h2
  rw [p4_30] at h3
  have h4 : (b + 1) * 4 ^ (u.take 30).length ≤ 3 * 1152921504606846976 := Nat.mul_le_mul (by omega) h3
  have h5 : (2 : Nat) ^ 62 = 4611686018427387904 := by decide
  unfold kH
  omega
theorem kT_b {u : List Int} (ou : okL 4 u) (hu : u.length ≤ 60) : kT u < 2 ^ 61 := by
  have h := (pk_b (b := 1) _ (u.drop 30) rfl (okL_drop ou 30)).2
  have h2 : (u.drop 30).length ≤ 30 := by rw [List.length_drop]; omega
  have h3 := p4_m h2
  rw [p4_30] at h3
  have h5 : (2 : Nat) ^ 61 = 2305843009213693952 := by decide
  unfold kT
  omega
theorem kH_1 {b : Nat} (u : List Int) (ou : okL 4 u) (b1 : 1 ≤ b) : 1 ≤ kH b u := by
  have h := (pk_b (b := b) _ (u.take 30) rfl (okL_take ou 30)).1
  have h4 : 1 ≤ 4 ^ (u.take 30).length := Nat.one_le_pow _ _ (by decide)
  have h5 : 1 * 1 ≤ b * 4 ^ (u.take 30).length := Nat.mul_le_mul b1 h4
  unfold kH
  omega
/-- the key of a state is that of a list -/
def kKy (y : KS) (b : Nat) (K : List Int) : Prop := y.1 101 5 = ((kH b K : Nat) : Int) ∧ y.1 101 6 = ((kT K : Nat) : Int)
theorem F_k_begin_x (x : KS) (d : Int) : kKy (F_k_begin x d).2 (if d = 0 then 1 else 2) [] := by
  unfold F_k_begin kKy
  by_cases c : d = 0
  · rw [if_pos c, if_pos c]
    exact ⟨by rw [kS_k (by decide), kS_s]; rfl, by rw [kS_s]; rfl⟩
  · rw [if_neg c, if_neg c]
    exact ⟨by rw [kS_k (by decide), kS_s]; rfl, by rw [kS_s]; rfl⟩
theorem F_k_push_x {x : KS} {b : Nat} {K : List Int} {l : Int} (h : kKy x b K) (ok : okL 4 K) (b1 : 1 ≤ b) (b2 : b ≤ 2) (l0 : 0 ≤ l) : kKy (F_k_push x l).2 b (K ++ [l]) := by
  have hp := pk_b (b := b) _ (K.take 30) rfl (okL_take ok 30)
  unfold F_k_push
  by_cases c : K.length < 30
  · have hlt : kH b K < 1152921504606846976 := by
      have h2 : (K.take 30).length ≤ 29 := by rw [List.length_take]; omega
      have h3 := p4_m h2
      rw [show (4 : Nat) ^ 29 = 288230376151711744 by decide] at h3
      have h4 : (b + 1) * 4 ^ (K.take 30).length ≤ 3 * 288230376151711744 := Nat.mul_le_mul (by omega) h3
      unfold kH
      omega
    rw [if_neg (by rw [Int.not_le, kiC_lt, h.1]; omega)]
    refine ⟨?_, ?_⟩
    · rw [kS_s, h.1]
      unfold kH
      rw [List.take_of_length_le (by omega : K.length ≤ 30), List.take_of_length_le (by rw [List.length_append, List.length_singleton]; omega), pk_s]
      push_cast
      rw [Int.toNat_of_nonneg l0]
    · rw [kS_k (by decide), h.2]
      unfold kT
      rw [List.drop_of_length_le (by omega), List.drop_of_length_le (by rw [List.length_append, List.length_singleton]; omega)]
  · have hge : 1152921504606846976 ≤ kH b K := by
      have h2 : (K.take 30).length = 30 := by rw [List.length_take]; omega
      rw [h2, p4_30] at hp
      unfold kH
      have : 1 * 1152921504606846976 ≤ b * 1152921504606846976 := Nat.mul_le_mul_right _ b1
      omega
    rw [if_pos (by have := (kiC_lt (a := x.1 101 5) (b := 1152921504606846976)); rw [h.1] at this ⊢; omega)]
    refine ⟨?_, ?_⟩
    · rw [kS_k (by decide), h.1]
      unfold kH
      rw [List.take_append_of_le_length (by omega)]
    · rw [kS_s, h.2]
      unfold kT
      rw [List.drop_append_of_le_length (by omega), pk_s]
      push_cast
      rw [Int.toNat_of_nonneg l0]
theorem F_k_drop_x {x : KS} {b : Nat} {K : List Int} {l : Int} (h : kKy x b (K ++ [l])) (ok : okL 4 (K ++ [l])) (hK : K.length < 60) (b1 : 1 ≤ b) (b2 : b ≤ 2) : kKy (F_k_drop x).2 b K := by
  have hl := ok l (List.mem_append_right _ (List.mem_singleton.mpr rfl))
  have okK := (okL_app.mp ok).1
  unfold F_k_drop
  by_cases c : K.length < 30
  · have ht : kT (K ++ [l]) = 1 := by
      unfold kT
      rw [List.drop_of_length_le (by rw [List.length_append, List.length_singleton]; omega)]
      rfl
    rw [if_pos (by have := kiC_gt (a := x.1 101 6) (b := 1); rw [h.2, ht] at this ⊢; omega)]
    refine ⟨?_, ?_⟩
    · rw [kS_s, h.1, show (2 : Int) = ((2 : Nat) : Int) from rfl, iSr_v (k := 2) (by decide) (kH_b ok b2)]
      unfold kH
      rw [List.take_of_length_le (by omega : K.length ≤ 30), List.take_of_length_le (by rw [List.length_append, List.length_singleton]; omega), pk_s]
      congr 1
      omega
    · rw [kS_k (by decide), h.2, ht]
      unfold kT
      rw [List.drop_of_length_le (by omega)]
      rfl
  · have e : (K ++ [l]).drop 30 = K.drop 30 ++ [l] := List.drop_append_of_le_length (by omega)
    have hg : 1 < kT (K ++ [l]) := by
      have h1 := (pk_b (b := 1) _ (K.drop 30) rfl (okL_drop okK 30)).1
      have h4 : 1 ≤ 4 ^ (K.drop 30).length := Nat.one_le_pow _ _ (by decide)
      unfold kT
      rw [e, pk_s]
      omega
    rw [if_neg (by have := kiC_gt (a := x.1 101 6) (b := 1); rw [h.2] at this ⊢; omega)]
    refine ⟨?_, ?_⟩
    · rw [kS_k (by decide), h.1]
      unfold kH
      rw [List.take_append_of_le_length (by omega)]
    · have hb := kT_b ok (by rw [List.length_append, List.length_singleton]; omega)
      rw [kS_s, h.2, show (2 : Int) = ((2 : Nat) : Int) from rfl, iSr_v (k := 2) (by decide) (Nat.lt_of_lt_of_le hb (by decide))]
      unfold kT
      rw [e, pk_s]
      congr 1
      omega
/-- a key without the LETTERS that were read last -/
theorem F_k_take_s_x {b : Nat} (b1 : 1 ≤ b) (b2 : b ≤ 2) (h9 t9 : Int) (v : Nat) : ∀ (n : Nat) (y : KS) (i : Nat) (K T : List Int), i ≤ v → v - i < n → T.length = v - i → okL 4 (K ++ T) → (K ++ T).length ≤ 60 → kKy y b (K ++ T) → kKy (F_k_take_s n 0 y h9 t9 (v : Int) (i : Int)).2 b K := by
  intro n
  induction n with
  | zero => intro y i K T h1 h2; exfalso; omega
  | succ n ih =>
    intro y i K T h1 h2 h3 ok h60 hk
    rw [F_k_take_e0]
    by_cases c : (v : Int) ≤ (i : Int)
    · rw [if_pos c]
      have : T = [] := List.length_eq_zero_iff.mp (by omega)
      rw [this, List.append_nil] at hk
      exact hk
    · rw [if_neg c]
      obtain ⟨t, l, e⟩ := snoc_of T (by intro h; rw [h] at h3; simp at h3; omega)
      subst e
      rw [← List.append_assoc] at ok hk h60
      rw [List.length_append, List.length_singleton] at h60 h3
      exact ih _ (i + 1) K t (by omega) (by omega) (by omega) (okL_app.mp ok).1 (by omega) (F_k_drop_x hk ok (by omega) b1 b2)
theorem F_k_take_x {x : KS} {b : Nat} (b1 : 1 ≤ b) (b2 : b ≤ 2) {K T : List Int} (ok : okL 4 (K ++ T)) (h60 : (K ++ T).length ≤ 60) : kKy (F_k_take x ((kH b (K ++ T) : Nat) : Int) ((kT (K ++ T) : Nat) : Int) (T.length : Int)).2 b K := by
  unfold F_k_take
  refine F_k_take_s_x b1 b2 _ _ T.length 1010 _ 0 K T (Nat.zero_le _) ?_ rfl ok h60 ⟨?_, ?_⟩
  · rw [List.length_append] at h60; omega
  · rw [kS_k (by decide), kS_s]
  · rw [kS_s]
theorem wx_and (a b : Nat) : lN a &&& lN b = lN (a &&& b) := by
  apply Int64.toBitVec_inj.1
  show BitVec.ofNat 64 a &&& BitVec.ofNat 64 b = BitVec.ofNat 64 (a &&& b)
  apply BitVec.eq_of_getLsbD_eq
  intro i hi
  simp [hi]
theorem iN_3 (a : Nat) : iN (a : Int) 3 = ((a % 4 : Nat) : Int) := by
  unfold iN
  rw [iL_n, show iL 3 = lN 3 from rfl, wx_and, show (3 : Nat) = 2 ^ 2 - 1 from rfl, Nat.and_two_pow_sub_one_eq_mod]
  have h : a % 2 ^ 2 < 4 := Nat.mod_lt _ (by decide)
  rw [pf_lI (by omega)]
/-- LETTERS of a STRING from a place on, behind a 1 -/
theorem F_w_pack_s_x {x : KS} {w : Nat} (hr : ∀ j : Nat, 0 ≤ x.2 (w + 1) j) {f t : Int} : ∀ (n : Nat) (i q : Nat) (m : Nat), m + i = (min (min (x.1 w 1) t) (f + 30)).toNat → m < n → (F_w_pack_s w n 0 x f t (q : Int) (i : Int)).1 = ((pk q ((List.range m).map (fun j => x.2 (w + 1) (i + j))) : Nat) : Int) := by
  intro n
  induction n with
  | zero => intro i q m h1 h2; exfalso; omega
  | succ n ih =>
    intro i q m h1 h2
    rw [F_w_pack_e0]
    cases m with
    | zero =>
      have key : x.1 w 1 ≤ (i : Int) ∨ t ≤ (i : Int) ∨ f + 30 ≤ (i : Int) := by omega
      have e : ∀ z : Int × KS, z.1 = (q : Int) → (if x.1 w 1 ≤ (i : Int) then ((q : Int), x) else (if t ≤ (i : Int) then ((q : Int), x) else (if f + 30 ≤ (i : Int) then ((q : Int), x) else z))).1 = (q : Int) := by
        intro z hz
        repeat' split
        all_goals first | rfl | exact hz
      by_cases c1 : x.1 w 1 ≤ (i : Int)
      · rw [if_pos c1]; rfl
      · rw [if_neg c1]
        by_cases c2 : t ≤ (i : Int)
        · rw [if_pos c2]; rfl
        · rw [if_neg c2, if_pos (by omega)]; rfl
    | succ m =>
      rw [if_neg (by omega), if_neg (by omega), if_neg (by omega), Int.toNat_natCast]
      have e : (q : Int) * 4 + x.2 (w + 1) i = ((q * 4 + (x.2 (w + 1) i).toNat : Nat) : Int) := by
        have := hr i
        push_cast
        rw [Int.toNat_of_nonneg this]
      rw [e, show (i : Int) + 1 = ((i + 1 : Nat) : Int) by push_cast; rfl, ih (i + 1) _ m (by omega) (by omega)]
      rw [List.range_succ_eq_map, List.map_cons, List.map_map]
      show _ = ((pk (q * 4 + (x.2 (w + 1) (i + 0)).toNat) _ : Nat) : Int)
      rw [Nat.add_zero]
      congr 2
      apply List.map_congr_left
      intro j _
      show x.2 (w + 1) (i + 1 + j) = x.2 (w + 1) (i + (j + 1))
      rw [show i + 1 + j = i + (j + 1) by omega]
theorem sl_tk (f : Nat → Int) (i m : Nat) : (List.range m).map (fun j => f (i + j)) = (tk f (i + m)).drop i := by
  induction m with
  | zero => rw [Nat.add_zero, List.drop_of_length_le (by rw [tk_len]; exact Nat.le_refl _)]; rfl
  | succ m ih =>
    rw [List.range_succ, List.map_append, ih, show i + (m + 1) = (i + m) + 1 by omega, tk_s, List.drop_append_of_le_length (by rw [tk_len]; omega)]
    rfl
theorem F_w_pack_x {x : KS} {w : Nat} (hr : ∀ j : Nat, 0 ≤ x.2 (w + 1) j) {f t : Nat} (h1 : (t : Int) ≤ x.1 w 1) (h0 : x.1 w 1 ≤ 1000) : (F_w_pack x w (f : Int) (t : Int)).1 = ((pk 1 (((tk (x.2 (w + 1)) t).drop f).take 30) : Nat) : Int) := by
  unfold F_w_pack
  rw [if_pos (show (0 : Int) ≤ (f : Int) by omega)]
  by_cases c : f ≤ min t (f + 30)
  · rw [show (1 : Int) = ((1 : Nat) : Int) from rfl, F_w_pack_s_x hr 1100 f 1 (min t (f + 30) - f) (by omega) (by omega), sl_tk]
    congr 2
    rw [show f + (min t (f + 30) - f) = min t (f + 30) by omega, ← tk_take (x.2 (w + 1)) (show min t (f + 30) ≤ t by omega), List.drop_take]
    by_cases c2 : t ≤ f + 30
    · rw [Nat.min_eq_left c2, List.take_of_length_le (by rw [List.length_drop, tk_len]; omega), List.take_of_length_le (by rw [List.length_drop, tk_len]; omega)]
    · rw [Nat.min_eq_right (by omega), show f + 30 - f = 30 by omega]
  · rw [List.drop_of_length_le (by rw [tk_len]; omega), F_w_pack_e0]
    by_cases c1 : x.1 w 1 ≤ (f : Int)
    · rw [if_pos c1]; rfl
    · rw [if_neg c1, if_pos (by omega)]; rfl
