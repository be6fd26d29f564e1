-- deps: 30 31 32 33 34 35 36 37 38 39 40 41 42 43 70 71 72 73 74 75 76 77 78 79 80 81 82 83 84 85 86 88 89
/-! what is known: each key leads by RULES to its end, and the end is ahead -/
def ori (b : Nat) (K : List Int) : List Int := if b = 1 then K else K.reverse
theorem ori_len (b : Nat) (K : List Int) : (ori b K).length = K.length := by unfold ori; split <;> simp
def led (x : KS) (u v : List Int) : Prop := rch (lS x) (rS x) (nR x) u v ∧ knm v < knm u
theorem led_len {x : KS} (m : mcX x) {u v : List Int} (h : led x u v) : v.length ≤ u.length := rch_len (fun r hr => (mc_ahd m hr).1) h.1
theorem rch_le {x : KS} (m : mcX x) {u v : List Int} (h : rch (lS x) (rS x) (nR x) u v) : knm v ≤ knm u := by
  obtain ⟨k, hk⟩ := h
  revert u
  induction k with
  | zero => intro u hk; have e : u = v := hk; rw [e]; exact Nat.le_refl _
  | succ k ih =>
    intro u hk
    obtain ⟨w, h1, h2⟩ := hk
    have := st1_dec (fun r hr => (mc_ahd m hr).1) u w h1
    have := ih h2
    omega
theorem led_st {x : KS} (m : mcX x) {u v : List Int} (h : st1 (lS x) (rS x) (nR x) u v) : led x u v := ⟨rch_1 h, st1_dec (fun r hr => (mc_ahd m hr).1) u v h⟩
theorem led_tr {x : KS} (m : mcX x) {u v w : List Int} (h1 : led x u v) (h2 : rch (lS x) (rS x) (nR x) v w) : led x u w := ⟨rch_tr h1.1 h2, Nat.lt_of_le_of_lt (rch_le m h2) h1.2⟩
/-- LETTERS on both sides -/
theorem led_ctx {x : KS} (m : mcX x) {u v : List Int} (a b : List Int) (h : led x u v) : led x (a ++ (u ++ b)) (a ++ (v ++ b)) := by
  refine ⟨rch_ctx a b h.1, ?_⟩
  have hl := led_len m h
  by_cases c : v.length = u.length
  · exact knm_ahd a b (Or.inr ⟨c, h.2⟩)
  · exact knm_ahd a b (Or.inl (by omega))
theorem rch_okL {x : KS} (m : mcX x) {u v : List Int} (h : rch (lS x) (rS x) (nR x) u v) (ok : okL (nL x) u) : okL (nL x) v := by
  obtain ⟨k, hk⟩ := h
  revert u
  induction k with
  | zero => intro u ok hk; have e : u = v := hk; rw [← e]; exact ok
  | succ k ih =>
    intro u ok hk
    obtain ⟨w, ⟨a, b, r, hr, e1, e2⟩, h2⟩ := hk
    refine ih ?_ h2
    rw [e1] at ok
    have o1 := okL_app.mp ok
    have o2 := okL_app.mp o1.2
    rw [e2]
    exact okL_app.mpr ⟨o1.1, okL_app.mpr ⟨(mc_ahd m hr).2.2.2, o2.2⟩⟩
/-- one place of what is known -/
def knE (x : KS) (h t eh et : Int) : Prop := ∃ (b : Nat) (K V : List Int), (b = 1 ∨ b = 2) ∧ okL (nL x) K ∧ K.length ≤ 60 ∧ okL (nL x) V ∧ V.length ≤ 60 ∧ h = ((kH b K : Nat) : Int) ∧ t = ((kT K : Nat) : Int) ∧ eh = ((pk 1 (V.take 30) : Nat) : Int) ∧ et = ((pk 1 (V.drop 30) : Nat) : Int) ∧ led x (ori b K) V
def knI (x y : KS) : Prop := ∀ i : Nat, (i : Int) < y.1 101 9 → y.2 102 i ≠ 0 → knE x (y.2 102 i) (y.2 103 i) (y.2 104 i) (y.2 105 i)
/-- if nothing is kept all heads are 0 -/
def keI (y : KS) : Prop := (y.1 101 4 = 0 ∨ y.1 101 4 = 1) ∧ (y.1 101 4 = 1 → ∀ i : Nat, (i : Int) < y.1 101 9 → y.2 102 i = 0)
theorem okL4 {x : KS} (m : mcX x) {u : List Int} (h : okL (nL x) u) : okL 4 u := okL_4 (nL_b m.1).2 h
theorem F_k_find_s_x {y : KS} : ∀ (n : Nat) (f i : Int), 0 ≤ i → F_k_find_s n 0 y f i = (0, y) ∨ ∃ j : Nat, (j : Int) < y.1 101 9 ∧ y.2 102 j = y.1 101 5 ∧ y.2 103 j = y.1 101 6 ∧ F_k_find_s n 0 y f i = (1, (F_w_unpack y 92 (y.2 104 j) (y.2 105 j)).2) := by
  intro n
  induction n with
  | zero => intro f i _; exact Or.inl rfl
  | succ n ih =>
    intro f i h0
    rw [F_k_find_e0]
    by_cases c1 : f + 4 ≤ i
    · rw [if_pos c1]; exact Or.inl rfl
    · rw [if_neg c1]
      by_cases c2 : y.1 101 9 ≤ i
      · rw [if_pos c2]; exact Or.inl rfl
      · rw [if_neg c2]
        by_cases c3 : iC (y.2 102 i.toNat) (y.1 101 5) = 0
        · rw [if_pos c3]
          by_cases c4 : iC (y.2 103 i.toNat) (y.1 101 6) = 0
          · rw [if_pos c4]
            exact Or.inr ⟨i.toNat, by omega, kiC_eq.mp c3, kiC_eq.mp c4, rfl⟩
          · rw [if_neg c4]; exact ih f (i + 1) (by omega)
        · rw [if_neg c3]; exact ih f (i + 1) (by omega)
theorem F_k_firstPlace_0 {y : KS} {wl : Nat} (kn : knR y wl) : 0 ≤ (F_k_firstPlace y).1 := by
  unfold F_k_firstPlace
  refine (iNI_b ?_ ?_).1
  · rw [kn.1]; rcases kn.2.1 with h | h <;> subst h <;> decide
  · rw [kn.1]; rcases kn.2.1 with h | h <;> subst h <;> decide
theorem F_k_find_x {x y : KS} {wl : Nat} (m : mcX x) (kn : knR y wl) (ki : knI x y) {b : Nat} {K : List Int} (hb : b = 1 ∨ b = 2) (ok : okL (nL x) K) (hK : K.length ≤ 60) (hk : kKy y b K) : F_k_find y = (0, y) ∨ ((F_k_find y).1 = 1 ∧ ∃ V : List Int, okL (nL x) V ∧ led x (ori b K) V ∧ wL (F_k_find y).2 92 V) := by
  rcases F_k_find_s_x (y := y) 10 (F_k_firstPlace y).1 (F_k_firstPlace y).1 (F_k_firstPlace_0 kn) with h | ⟨j, hj, e1, e2, h⟩
  · exact Or.inl h
  · right
    have hF : F_k_find y = (1, (F_w_unpack y 92 (y.2 104 j) (y.2 105 j)).2) := h
    rw [hF]
    have h1 := kH_1 (b := b) K (okL4 m ok) (by omega)
    obtain ⟨b', K', V, hb', ok', hK', okV, hV, f1, f2, f3, f4, fl⟩ := ki j hj (by rw [e1, hk.1]; omega)
    rw [e1, hk.1] at f1
    rw [e2, hk.2] at f2
    obtain ⟨g1, g2⟩ := key_inj (okL4 m ok) (okL4 m ok') (by omega) (by omega) (by omega) (by omega) (Int.ofNat.inj f1) (Int.ofNat.inj f2)
    subst g1; subst g2
    refine ⟨rfl, V, okV, fl, ?_⟩
    show wL (F_w_unpack y 92 (y.2 104 j) (y.2 105 j)).2 92 V
    rw [f3, f4]
    have := F_w_unpack_x (x := y) (w := 92) (okL_take (okL4 m okV) 30) (okL_drop (okL4 m okV) 30) (by rw [List.length_take]; omega) (by rw [List.length_drop]; omega) (by rw [List.take_append_drop]; exact hV)
    rw [List.take_append_drop] at this
    exact this
/-- what keep lays, at a place -/
def kpW (x : KS) (f0 t0 : Int) (p : Nat) : KS := kS (kA (kA (kA (kA x 102 p (x.1 101 5)) 103 p (x.1 101 6)) 104 p (F_w_pack x 88 f0 t0).1) 105 p (F_w_pack x 88 (f0 + 30) t0).1) 101 4 0
theorem F_w_pack_s_cg {x y : KS} {w : Nat} (h1 : y.1 w 1 = x.1 w 1) (h2 : y.2 (w + 1) = x.2 (w + 1)) : ∀ (n : Nat) (f t q i : Int), (F_w_pack_s w n 0 y f t q i).1 = (F_w_pack_s w n 0 x f t q i).1 := by
  intro n
  induction n with
  | zero => intro f t q i; rfl
  | succ n ih =>
    intro f t q i
    rw [F_w_pack_e0, F_w_pack_e0, h1, h2]
    repeat' split
    all_goals first | rfl | exact ih _ _ _ _
theorem F_w_pack_cg {x y : KS} {w : Nat} (h1 : y.1 w 1 = x.1 w 1) (h2 : y.2 (w + 1) = x.2 (w + 1)) (f t : Int) : (F_w_pack y w f t).1 = (F_w_pack x w f t).1 := by
  unfold F_w_pack
  by_cases c : (0 : Int) ≤ f
  · rw [if_pos c, if_pos c]; exact F_w_pack_s_cg h1 h2 _ _ _ _ _
  · rw [if_neg c, if_neg c]; exact F_w_pack_s_cg h1 h2 _ _ _ _ _
theorem kpW_eq (x : KS) (f0 t0 : Int) (p : Nat) : kS (kA (kA (kA (kA x 102 p (x.1 101 5)) 103 p (x.1 101 6)) 104 p (F_w_pack (kA (kA x 102 p (x.1 101 5)) 103 p (x.1 101 6)) 88 f0 t0).1) 105 p (F_w_pack (kA (kA (kA x 102 p (x.1 101 5)) 103 p (x.1 101 6)) 104 p (F_w_pack (kA (kA x 102 p (x.1 101 5)) 103 p (x.1 101 6)) 88 f0 t0).1) 88 (f0 + 30) t0).1) 101 4 0 = kpW x f0 t0 p := by
  have e1 : ∀ f t, (F_w_pack (kA (kA x 102 p (x.1 101 5)) 103 p (x.1 101 6)) 88 f t).1 = (F_w_pack x 88 f t).1 := fun f t => F_w_pack_cg (by rw [kA_1, kA_1]) (by rw [kA_c (by decide), kA_c (by decide)]) f t
  have e2 : ∀ f t v, (F_w_pack (kA (kA (kA x 102 p (x.1 101 5)) 103 p (x.1 101 6)) 104 p v) 88 f t).1 = (F_w_pack x 88 f t).1 := fun f t v => F_w_pack_cg (by rw [kA_1, kA_1, kA_1]) (by rw [kA_c (by decide), kA_c (by decide), kA_c (by decide)]) f t
  rw [e1, e2]
  rfl
theorem F_k_keep_s_x {y : KS} (f0 t0 : Int) : ∀ (n : Nat) (f b i : Int), 0 ≤ i → f + 4 - i < n → 0 < n → ∃ p : Nat, (F_k_keep_s n 0 y f0 t0 f b i).2 = kpW y f0 t0 p := by
  intro n
  induction n with
  | zero => intro f b i h0 h1 h2; exfalso; omega
  | succ n ih =>
    intro f b i h0 h1 h2
    rw [F_k_keep_e0]
    by_cases c1 : f + 4 ≤ i
    · rw [if_pos c1]; exact ⟨b.toNat, kpW_eq y f0 t0 b.toNat⟩
    · rw [if_neg c1]
      have on : ∀ b', ∃ p : Nat, (F_k_keep_s n 0 y f0 t0 f b' (i + 1)).2 = kpW y f0 t0 p := fun b' => ih f b' (i + 1) (by omega) (by omega) (by omega)
      by_cases c2 : y.1 101 9 ≤ i
      · rw [if_pos c2]; exact ⟨b.toNat, kpW_eq y f0 t0 b.toNat⟩
      · rw [if_neg c2]
        by_cases c3 : iC (y.2 102 i.toNat) 0 = 0
        · rw [if_pos c3]; exact ⟨i.toNat, kpW_eq y f0 t0 i.toNat⟩
        · rw [if_neg c3]
          by_cases c4 : iC (y.2 102 i.toNat) (y.1 101 5) = 0
          · rw [if_pos c4]
            by_cases c5 : iC (y.2 103 i.toNat) (y.1 101 6) = 0
            · rw [if_pos c5]; exact ⟨i.toNat, kpW_eq y f0 t0 i.toNat⟩
            · rw [if_neg c5]
              repeat' split
              all_goals exact on _
          · rw [if_neg c4]
            repeat' split
            all_goals exact on _
theorem F_k_keep_p {y : KS} {wl : Nat} (kn : knR y wl) (f0 t0 : Int) : ∃ p : Nat, (F_k_keep y f0 t0).2 = kpW y f0 t0 p := F_k_keep_s_x f0 t0 10 _ _ _ (F_k_firstPlace_0 kn) (by omega) (by omega)
theorem iU_if (f : Nat → Int) (p i : Nat) (v : Int) : iU f p v i = if i = p then v else f i := by
  by_cases c : i = p
  · rw [if_pos c, c, iU_s]
  · rw [if_neg c, iU_n c]
theorem F_k_keep_x {x y : KS} {wl : Nat} (kn : knR y wl) (ki : knI x y) {b : Nat} {K V : List Int} (hb : b = 1 ∨ b = 2) (ok : okL (nL x) K) (hK : K.length ≤ 60) (hk : kKy y b K) {f t : Nat} (h89 : ∀ j : Nat, 0 ≤ y.2 89 j) (h1 : (t : Int) ≤ y.1 88 1) (h0 : y.1 88 1 ≤ 60) (hV : (tk (y.2 89) t).drop f = V) (okV : okL (nL x) V) (hl : led x (ori b K) V) : knI x (F_k_keep y (f : Int) (t : Int)).2 := by
  obtain ⟨p, e⟩ := F_k_keep_p kn (f : Int) (t : Int)
  rw [e]
  intro i hi hne
  have e102 : (kpW y (f : Int) (t : Int) p).2 102 i = if i = p then y.1 101 5 else y.2 102 i := by
    unfold kpW
    rw [kS_2, kA_c (by decide), kA_c (by decide), kA_c (by decide), kA_s, iU_if]
  have e103 : (kpW y (f : Int) (t : Int) p).2 103 i = if i = p then y.1 101 6 else y.2 103 i := by
    unfold kpW
    rw [kS_2, kA_c (by decide), kA_c (by decide), kA_s, kA_c (by decide), iU_if]
  have e104 : (kpW y (f : Int) (t : Int) p).2 104 i = if i = p then (F_w_pack y 88 (f : Int) (t : Int)).1 else y.2 104 i := by
    unfold kpW
    rw [kS_2, kA_c (by decide), kA_s, kA_c (by decide), kA_c (by decide), iU_if]
  have e105 : (kpW y (f : Int) (t : Int) p).2 105 i = if i = p then (F_w_pack y 88 ((f : Int) + 30) (t : Int)).1 else y.2 105 i := by
    unfold kpW
    rw [kS_2, kA_s, kA_c (by decide), kA_c (by decide), kA_c (by decide), iU_if]
  rw [e102] at hne
  rw [e102, e103, e104, e105]
  by_cases c : i = p
  · rw [if_pos c, if_pos c, if_pos c, if_pos c]
    have hVl : V.length ≤ 60 := by rw [← hV, List.length_drop, tk_len]; omega
    refine ⟨b, K, V, hb, ok, hK, okV, hVl, hk.1, hk.2, ?_, ?_, hl⟩
    · rw [F_w_pack_x h89 h1 (by omega), hV]
    · rw [show (f : Int) + 30 = ((f + 30 : Nat) : Int) by push_cast; rfl, F_w_pack_x h89 h1 (by omega), ← List.drop_drop, hV, List.take_of_length_le (by rw [List.length_drop]; omega)]
  · rw [if_neg c] at hne
    rw [if_neg c, if_neg c, if_neg c, if_neg c]
    refine ki i ?_ hne
    have : (kpW y (f : Int) (t : Int) p).1 101 9 = y.1 101 9 := by unfold kpW; rw [kS_k (by decide), kA_1, kA_1, kA_1, kA_1]
    rw [this] at hi
    exact hi
theorem F_k_keep_e {y : KS} {wl : Nat} (kn : knR y wl) (f0 t0 : Int) : (F_k_keep y f0 t0).2.1 101 4 = 0 := by
  obtain ⟨p, e⟩ := F_k_keep_p kn f0 t0
  rw [e]
  unfold kpW
  rw [kS_s]
theorem keI_0 {y : KS} (h : y.1 101 4 = 0) : keI y := ⟨Or.inl h, fun h1 => by rw [h] at h1; exact absurd h1 (by decide)⟩
/-- after wipe all heads are 0 -/
theorem F_k_wipe_s_x : ∀ (n : Nat) (y : KS) (i : Nat), y.1 101 4 = 0 → y.1 101 9 - i < n → (i : Int) ≤ y.1 101 9 → (∀ j : Nat, j < i → y.2 102 j = 0) → ∀ j : Nat, (j : Int) < y.1 101 9 → (F_k_wipe_s n 0 y (i : Int)).2.2 102 j = 0 := by
  intro n
  induction n with
  | zero => intro y i _ h1 h2; exfalso; omega
  | succ n ih =>
    intro y i h4 h1 h2 h3 j hj
    rw [F_k_wipe_e0]
    by_cases c : y.1 101 9 ≤ (i : Int)
    · rw [if_pos c]
      exact h3 j (by omega)
    · rw [if_neg c, if_pos h4, Int.toNat_natCast, show (i : Int) + 1 = ((i + 1 : Nat) : Int) by push_cast; rfl]
      refine ih (kA y 102 i 0) (i + 1) h4 (by rw [kA_1]; omega) (by rw [kA_1]; omega) (fun k hk => ?_) j (by rw [kA_1]; exact hj)
      rw [kA_s]
      by_cases c2 : k = i
      · rw [c2, iU_s]
      · rw [iU_n c2]; exact h3 k (by omega)
theorem F_k_wipe_x {y : KS} {wl : Nat} (kn : knR y wl) (ke : keI y) : ∀ j : Nat, (j : Int) < y.1 101 9 → (F_k_wipe y).2.2 102 j = 0 := by
  have hw : y.1 101 9 ≤ 262144 ∧ 0 ≤ y.1 101 9 := by rw [kn.1]; rcases kn.2.1 with h | h <;> subst h <;> decide
  rcases ke.1 with h | h
  · exact F_k_wipe_s_x 262200 y 0 h (by omega) (by omega) (fun j hj => by omega)
  · intro j hj
    have := ke.2 h j hj
    unfold F_k_wipe
    rw [show (262200 : Nat) = 262199 + 1 from rfl, F_k_wipe_e0]
    by_cases c : y.1 101 9 ≤ 0
    · rw [if_pos c]; exact this
    · rw [if_neg c, if_neg (by rw [h]; decide)]; exact this
/-- the RIGHT side as a long -/
theorem F_u_packedRight_x {x : KS} (m : mcX x) {r : Nat} (hr : r < nR x) : (F_u_packedRight x (r : Int)).1 = ((pk 1 (rS x r) : Nat) : Int) := by
  obtain ⟨sx, ru, re, _⟩ := m
  have hn := nL_b sx
  have hr' : (r : Int) < x.1 58 6 := by unfold nR at hr; omega
  have r40 : r < 40 := by have := ru.1; omega
  obtain ⟨G, C, G', C', g3, g2, g4, g1, c1, f2, f4, f1, c2, hlt⟩ := re r hr'
  have l3 := sx.1.2.1
  have hR := rS_v r40 hn.1 hn.2 f1 (by omega) c2
  have hl : vl 4 (dl (nL x) G' C') < 4 ^ G' := (vl_lt G' _ (dl_len _ _ _) (okL_4 hn.2 (dl_ok hn.1 G' C'))).resolve_right (by decide)
  have hp := p4_m (show G' ≤ 20 by omega)
  rw [show (4 : Nat) ^ 20 = 1099511627776 by decide] at hp
  unfold F_u_packedRight
  rw [if_neg (by omega), if_neg (by omega), Int.toNat_natCast, f1, c2, hR]
  have e1 : iSl 1 (2 * (G' : Int)) = ((1 * 2 ^ (2 * G') : Nat) : Int) := by
    rw [show (1 : Int) = ((1 : Nat) : Int) from rfl, show 2 * (G' : Int) = ((2 * G' : Nat) : Int) by push_cast; rfl]
    refine iSl_v (by omega) ?_
    rw [k4_2]
    omega
  rw [e1]
  show iO _ _ = _
  rw [iO_v (k := 2 * G') (by rw [k4_2]; exact hl) (by rw [k4_2]; omega), k4_2, pk_vl G' _ (dl_len _ _ _)]
  congr 1
  omega
