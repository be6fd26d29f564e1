-- deps: A0.g
/-! the reference: keepRule, findRules -/
theorem kr_1 (w : Int) : ∀ (n : Nat) (y : MS) (c h i : Nat), y.1 12 = (c : Int) → y.1 10 = (h : Int) → i ≤ h → h - i < n → same [12] [16] y (F_m_keepRule_s n 1 y w (i : Int)).2 ∧ (F_m_keepRule_s n 1 y w (i : Int)).2.1 12 = (c : Int) + 1 ∧ ∀ q : Nat, (F_m_keepRule_s n 1 y w (i : Int)).2.2 16 q = if 24 * c + i ≤ q ∧ q < 24 * c + h then y.2 11 (q - 24 * c) else y.2 16 q := by
  intro n
  induction n with
  | zero => intro y c h i _ _ _ fu; omega
  | succ n ih =>
    intro y c h i e12 e10 hi fu
    rw [F_m_keepRule_e1]
    by_cases d : y.1 10 ≤ (i : Int)
    · rw [if_pos d]
      refine ⟨sm_s (by decide) (sm_rf _ _ _), (yS_s (x := y) (k := 12) (v := y.1 12 + (1 : Int))).trans (by rw [e12]), fun q => ?_⟩
      rw [if_neg (by omega)]
      rfl
    · rw [if_neg d, e12, show ((24 : Int) * (c : Int) + (i : Int)).toNat = 24 * c + i by omega, Int.toNat_natCast]
      obtain ⟨a, b, g⟩ := ih (aU y 16 (24 * c + i) (y.2 11 i)) c h (i + 1) e12 e10 (by omega) (by omega)
      refine ⟨sm_tr (sm_a (by decide) (sm_rf _ _ _)) a, b, fun q => ?_⟩
      have g9 := g q
      rw [show (aU y 16 (24 * c + i) (y.2 11 i)).2 11 = y.2 11 from yU_n (by decide), yU_s, yU_if] at g9
      rw [show ((i : Int) + (1 : Int)) = ((i + 1 : Nat) : Int) by omega, g9]
      by_cases e : q = 24 * c + i
      · rw [if_neg (by omega), if_pos e, if_pos (by omega), e, show 24 * c + i - 24 * c = i by omega]
      · by_cases e2 : 24 * c + i ≤ q ∧ q < 24 * c + h
        · rw [if_pos (by omega), if_pos e2]
        · rw [if_neg (by omega), if_neg e, if_neg e2]
theorem kr_0 (w : Int) : ∀ (n : Nat) (y : MS) (c h i : Nat), y.1 12 = (c : Int) → y.1 10 = (h : Int) → i ≤ h → h - i + 100 < n → ∃ (y2 : MS) (k : Nat), same [] [14] y y2 ∧ (∀ q : Nat, y2.2 14 q = if 24 * c + i ≤ q ∧ q < 24 * c + h then y.2 11 (q - 24 * c) else y.2 14 q) ∧ 99 < k ∧ F_m_keepRule_s n 0 y w (i : Int) = F_m_keepRule_s k 1 (aU (F_m_layAny (F_m_root y2 w).2 (F_m_root y2 w).1).2 15 ((F_m_layAny (F_m_root y2 w).2 (F_m_root y2 w).1).2.1 12).toNat ((F_m_layAny (F_m_root y2 w).2 (F_m_root y2 w).1).2.1 10)) w ((0 : Nat) : Int) := by
  intro n
  induction n with
  | zero => intro y c h i _ _ _ fu; omega
  | succ n ih =>
    intro y c h i e12 e10 hi fu
    rw [F_m_keepRule_e0]
    by_cases d : y.1 10 ≤ (i : Int)
    · rw [if_pos d]
      exact ⟨y, n, sm_rf _ _ _, fun q => by rw [if_neg (by omega)], by omega, rfl⟩
    · rw [if_neg d, e12, show ((24 : Int) * (c : Int) + (i : Int)).toNat = 24 * c + i by omega, Int.toNat_natCast]
      obtain ⟨y2, k, a, b, g1, g2⟩ := ih (aU y 14 (24 * c + i) (y.2 11 i)) c h (i + 1) e12 e10 (by omega) (by omega)
      refine ⟨y2, k, sm_tr (sm_a (by decide) (sm_rf _ _ _)) a, fun q => ?_, g1, by rw [show ((i : Int) + (1 : Int)) = ((i + 1 : Nat) : Int) by omega]; exact g2⟩
      rw [b q, show (aU y 14 (24 * c + i) (y.2 11 i)).2 11 = y.2 11 from yU_n (by decide), yU_s, yU_if]
      by_cases e : q = 24 * c + i
      · rw [if_neg (by omega), if_pos e, if_pos (by omega), e, show 24 * c + i - 24 * c = i by omega]
      · by_cases e2 : 24 * c + i ≤ q ∧ q < 24 * c + h
        · rw [if_pos (by omega), if_pos e2]
        · rw [if_neg (by omega), if_neg e, if_neg e2]
theorem map_e {f g : Nat → Int} {k : Nat} (h : ∀ j, j < k → f j = g j) : (List.range k).map f = (List.range k).map g := List.map_congr_left (fun j hj => h j (List.mem_range.mp hj))
theorem hM_r {x : MS} (hd : hdR x) (h : x.1 10 ≤ 64) {i : Nat} (hi : (i : Int) < x.1 10) : 0 ≤ x.2 11 i ∧ x.2 11 i ≤ 3 := hd i (by omega)
theorem layAny_hd {x : MS} {w : Int} (l0 : 1 ≤ x.1 0) (l4 : x.1 0 ≤ 4) {M : Nat} (hM9 : M ≤ 20) (fx : x.1 0 ≠ 1 → ∀ k : Nat, k ≤ M + 1 → x.2 8 k = gS (x.1 0) k) (w0 : 0 ≤ w) (w1 : w < gS (x.1 0) (M + 1)) (hd : hdR x) : hdR (F_m_layAny x w).2 := by
  unfold F_m_layAny
  by_cases c : x.1 0 = 1
  · rw [if_pos c]
    have key : ∀ (n : Nat) (y : MS) (i : Int), hdR y → hdR (F_m_layAny_s n 0 y w i).2 := by
      intro n
      induction n with
      | zero => intro y i h; exact h
      | succ n ih =>
        intro y i h
        rw [F_m_layAny_e0]
        by_cases c1 : w ≤ i
        · rw [if_pos c1]; exact h
        · rw [if_neg c1]
          by_cases c2 : (64 : Int) ≤ i
          · rw [if_pos c2]; exact h
          · rw [if_neg c2]
            refine ih _ _ (fun k hk => ?_)
            rw [yU_s, yU_if]
            by_cases e : k = i.toNat
            · rw [if_pos e]; omega
            · rw [if_neg e]; exact h k hk
    exact key 100 _ _ hd
  · rw [if_neg c]
    exact (F_m_lay_h (K := M + 1) (by omega) (by omega) (by rw [fx c _ (Nat.le_refl _)]; exact w1) l0 l4 hd).1
theorem keepRule_x {x : MS} {w : Int} {M : Nat} (l0 : 1 ≤ x.1 0) (l4 : x.1 0 ≤ 4) (hM9 : M ≤ 20) (fx : x.1 0 ≠ 1 → ∀ k : Nat, k ≤ M + 1 → x.2 8 k = gS (x.1 0) k) (hB : gS (x.1 0) (M + 1) ≤ 10001) (hj : jOK x) (w0 : 0 ≤ w) (w1 : w < gS (x.1 0) (M + 1)) (e10 : x.1 10 = ((hM x).length : Int)) (h20 : (hM x).length ≤ 20) {c : Nat} (e12 : x.1 12 = (c : Int)) (c40 : c < 40) (hs : ∀ r : Nat, r < c → x.2 13 r ≤ 24 ∧ x.2 15 r ≤ 24) (hd : hdR x) (lf : lfR x) (rt : rtR x) :
    (F_m_keepRule x w).2.1 12 = (c : Int) + 1 ∧ jOK (F_m_keepRule x w).2 ∧ (∀ v : Int, 0 ≤ v → v < 10001 → rp ((F_m_keepRule x w).2.2 9) v = rp (x.2 9) v) ∧ (∀ r : Nat, r < c → (lM (F_m_keepRule x w).2 r = lM x r ∧ rM (F_m_keepRule x w).2 r = rM x r) ∧ (F_m_keepRule x w).2.2 13 r = x.2 13 r ∧ (F_m_keepRule x w).2.2 15 r = x.2 15 r) ∧ (lM (F_m_keepRule x w).2 c = hM x ∧ (F_m_keepRule x w).2.2 13 c = ((hM x).length : Int)) ∧ (okL (x.1 0).toNat (rM (F_m_keepRule x w).2 c) ∧ num (x.1 0).toNat (rM (F_m_keepRule x w).2 c) = rp (x.2 9) w ∧ (F_m_keepRule x w).2.2 15 c = ((rM (F_m_keepRule x w).2 c).length : Int) ∧ (rM (F_m_keepRule x w).2 c).length ≤ M) ∧ hdR (F_m_keepRule x w).2 ∧ lfR (F_m_keepRule x w).2 ∧ rtR (F_m_keepRule x w).2 := by
  obtain ⟨y2, k, a, b, g1, g2⟩ := kr_0 w 300 (aU x 13 (x.1 12).toNat (x.1 10)) c (hM x).length 0 e12 e10 (Nat.zero_le _) (by omega)
  have E : F_m_keepRule x w = F_m_keepRule_s k 1 (aU (F_m_layAny (F_m_root y2 w).2 (F_m_root y2 w).1).2 15 ((F_m_layAny (F_m_root y2 w).2 (F_m_root y2 w).1).2.1 12).toNat ((F_m_layAny (F_m_root y2 w).2 (F_m_root y2 w).1).2.1 10)) w ((0 : Nat) : Int) := g2
  have y9 : y2.2 9 = x.2 9 := (a.2 9 (by decide)).trans (yU_n (by decide))
  have y11 : y2.2 11 = x.2 11 := (a.2 11 (by decide)).trans (yU_n (by decide))
  have y13 : y2.2 13 = iU (x.2 13) c (x.1 10) := by rw [a.2 13 (by decide), yU_s, e12, Int.toNat_natCast]
  have ys : ∀ q, y2.1 q = x.1 q := fun q => a.1 q List.not_mem_nil
  have j2 : jOK y2 := fun j hj9 => by rw [y9]; exact hj j hj9
  obtain ⟨r1, r2, r3⟩ := root_x j2 w0 (by omega)
  have fr := F_m_root_fr y2 w
  have h0 : ldn (x.2 9) 10001 := fun q hq => hj q (by omega)
  have kb := rp_ok h0 w.toNat w w0 (by omega) (Nat.le_refl _)
  rw [y9] at r1 r3
  have rs : ∀ q, (F_m_root y2 w).2.1 q = x.1 q := fun q => (fr.1 q List.not_mem_nil).trans (ys q)
  have r8 : (F_m_root y2 w).2.2 8 = x.2 8 := (fr.2 8 (by decide)).trans ((a.2 8 (by decide)).trans (yU_n (by decide)))
  have r11 : (F_m_root y2 w).2.2 11 = x.2 11 := (fr.2 11 (by decide)).trans y11
  have LA := layAny_x (x := (F_m_root y2 w).2) (M := M) (by rw [rs]; exact l0) (by omega) (by rw [rs, r8]; exact fx) (w := (F_m_root y2 w).1) (by rw [r1]; exact kb.1) (by rw [r1, rs]; omega)
  have HD := layAny_hd (x := (F_m_root y2 w).2) (M := M) (w := (F_m_root y2 w).1) (by rw [rs]; exact l0) (by rw [rs]; exact l4) hM9 (by rw [rs, r8]; exact fx) (by rw [r1]; exact kb.1) (by rw [r1, rs]; omega) (by unfold hdR; rw [r11]; exact hd)
  have fl := F_m_layAny_fr (F_m_root y2 w).2 (F_m_root y2 w).1
  rw [rs, r1] at LA
  have z12 : (F_m_layAny (F_m_root y2 w).2 (F_m_root y2 w).1).2.1 12 = (c : Int) := by rw [fl.1 12 (by decide), rs, e12]
  have zk : ∀ q, q ≠ 11 → q ≠ 9 → q ≠ 13 → q ≠ 14 → (F_m_layAny (F_m_root y2 w).2 (F_m_root y2 w).1).2.2 q = x.2 q := fun q h1 h2 h3 h4 => by
    rw [fl.2 q (by simp [h1]), fr.2 q (by simp [h2]), a.2 q (by simp [h4])]
    exact yU_n h3
  have z9 : (F_m_layAny (F_m_root y2 w).2 (F_m_root y2 w).1).2.2 9 = (F_m_root y2 w).2.2 9 := fl.2 9 (by decide)
  have z13 : (F_m_layAny (F_m_root y2 w).2 (F_m_root y2 w).1).2.2 13 = iU (x.2 13) c (x.1 10) := by rw [fl.2 13 (by decide), fr.2 13 (by decide), y13]
  have z14 : (F_m_layAny (F_m_root y2 w).2 (F_m_root y2 w).1).2.2 14 = y2.2 14 := by rw [fl.2 14 (by decide), fr.2 14 (by decide)]
  rw [z12, Int.toNat_natCast, r1] at E
  rw [r1] at z12 zk z9 z13 z14 HD
  generalize (F_m_layAny (F_m_root y2 w).2 (rp (x.2 9) w)).2 = z at E LA HD z12 zk z9 z13 z14
  obtain ⟨ok, nu, len, le⟩ := LA
  obtain ⟨p1, p2, p3⟩ := kr_1 w k (aU z 15 c (z.1 10)) c (hM z).length 0 z12 len (Nat.zero_le _) (by omega)
  rw [E]
  generalize F_m_keepRule_s k 1 (aU z 15 c (z.1 10)) w ((0 : Nat) : Int) = R at p1 p2 p3
  have q9 : R.2.2 9 = (F_m_root y2 w).2.2 9 := (p1.2 9 (by decide)).trans ((yU_n (by decide)).trans z9)
  have q11 : R.2.2 11 = z.2 11 := (p1.2 11 (by decide)).trans (yU_n (by decide))
  have q13 : R.2.2 13 = iU (x.2 13) c (x.1 10) := (p1.2 13 (by decide)).trans ((yU_n (by decide)).trans z13)
  have q14 : R.2.2 14 = y2.2 14 := (p1.2 14 (by decide)).trans ((yU_n (by decide)).trans z14)
  have q15 : R.2.2 15 = iU (x.2 15) c (z.1 10) := by rw [p1.2 15 (by decide), yU_s, zk 15 (by decide) (by decide) (by decide) (by decide)]
  have z16 : z.2 16 = x.2 16 := zk 16 (by decide) (by decide) (by decide) (by decide)
  have b9 : ∀ q : Nat, R.2.2 14 q = if 24 * c ≤ q ∧ q < 24 * c + (hM x).length then x.2 11 (q - 24 * c) else x.2 14 q := fun q => by
    rw [q14, b q, show (aU x 13 (x.1 12).toNat (x.1 10)).2 11 = x.2 11 from yU_n (by decide), show (aU x 13 (x.1 12).toNat (x.1 10)).2 14 = x.2 14 from yU_n (by decide), Nat.add_zero]
  have p9 : ∀ q : Nat, R.2.2 16 q = if 24 * c ≤ q ∧ q < 24 * c + (hM z).length then z.2 11 (q - 24 * c) else x.2 16 q := fun q => by
    rw [p3 q, show (aU z 15 c (z.1 10)).2 11 = z.2 11 from yU_n (by decide), show (aU z 15 c (z.1 10)).2 16 = z.2 16 from yU_n (by decide), Nat.add_zero, z16]
  have lx := hM_len x
  have lz := hM_len z
  have rc : rM R.2 c = hM z := by
    unfold rM hM
    rw [q15, iU_s]
    refine map_e (fun j hj => ?_)
    rw [p9 (24 * c + j), if_pos (by omega), show 24 * c + j - 24 * c = j by omega]
  refine ⟨p2, fun j hj9 => by rw [q9]; exact r2 j hj9, fun v v0 v1 => by rw [q9]; exact r3 v v0 v1, fun r hr => ⟨⟨?_, ?_⟩, by rw [q13, iU_n (by omega)], by rw [q15, iU_n (by omega)]⟩, ⟨?_, by rw [q13, iU_s]; exact e10⟩, ⟨by rw [rc]; exact ok, by rw [rc]; exact nu, by rw [rc, q15, iU_s]; exact len, by rw [rc]; exact le⟩, by unfold hdR; rw [q11]; exact HD, fun q hq => ?_, fun q hq => ?_⟩
  · unfold lM
    rw [q13, iU_n (by omega)]
    refine map_e (fun j hj => ?_)
    have h9 := (hs r hr).1
    rw [b9 (24 * r + j), if_neg (by omega)]
  · unfold rM
    rw [q15, iU_n (by omega)]
    refine map_e (fun j hj => ?_)
    have h9 := (hs r hr).2
    rw [p9 (24 * r + j), if_neg (by omega)]
  · unfold lM hM
    rw [q13, iU_s]
    refine map_e (fun j hj => ?_)
    rw [b9 (24 * c + j), if_pos (by omega), show 24 * c + j - 24 * c = j by omega]
  · rw [b9 q]
    by_cases e : 24 * c ≤ q ∧ q < 24 * c + (hM x).length
    · rw [if_pos e]; exact hM_r hd (by omega) (by omega)
    · rw [if_neg e]; exact lf q hq
  · rw [p9 q]
    by_cases e : 24 * c ≤ q ∧ q < 24 * c + (hM z).length
    · rw [if_pos e]; exact hM_r HD (by omega) (by omega)
    · rw [if_neg e]; exact rt q hq
/-- while RULES are found: all LEFT sides below c are kept, in ORDER -/
def frI (x : MS) (m : Nat) (f : Int → Int) (y : MS) (c : Int) : Prop :=
  (same [10, 12] [9, 11, 13, 14, 15, 16] x y ∧ jOK y ∧ (∀ w : Int, 0 ≤ w → w < 10001 → rp (y.2 9) w = f w) ∧ hdR y ∧ lfR y ∧ rtR y) ∧ (0 ≤ y.1 12 ∧ y.1 12 ≤ 40) ∧ (∀ r : Nat, (r : Int) < y.1 12 → (okL (x.1 0).toNat (lM y r) ∧ rulN (x.1 0).toNat m f (num (x.1 0).toNat (lM y r)) ∧ num (x.1 0).toNat (lM y r) < c) ∧ (okL (x.1 0).toNat (rM y r) ∧ num (x.1 0).toNat (rM y r) = f (num (x.1 0).toNat (lM y r))) ∧ (y.2 13 r = ((lM y r).length : Int) ∧ y.2 15 r = ((rM y r).length : Int) ∧ y.2 13 r ≤ 20 ∧ y.2 15 r ≤ 20)) ∧ (∀ i j : Nat, i < j → (j : Int) < y.1 12 → num (x.1 0).toNat (lM y i) < num (x.1 0).toNat (lM y j)) ∧ ∀ w : Int, rulN (x.1 0).toNat m f w → w < c → ∃ r : Nat, (r : Int) < y.1 12 ∧ num (x.1 0).toNat (lM y r) = w
theorem fr_skip {x : MS} {m : Nat} {f : Int → Int} {y : MS} {c : Int} (h : frI x m f y c) (hn : ¬ rulN (x.1 0).toNat m f c) : frI x m f y (c + 1) := by
  obtain ⟨h1, h2, h3, h4, h5⟩ := h
  refine ⟨h1, h2, fun r hr => ?_, h4, fun w hw hc => ?_⟩
  · obtain ⟨⟨a, b, e⟩, d⟩ := h3 r hr
    exact ⟨⟨a, b, by omega⟩, d⟩
  · by_cases e : w = c
    · rw [e] at hw; exact absurd hw hn
    · exact h5 w hw (by omega)
theorem fr_lay {x : MS} {m : Nat} {f : Int → Int} {y : MS} {c w : Int} (l0 : 1 ≤ x.1 0) (l4 : x.1 0 ≤ 4) (m20 : m ≤ 20) (fx : x.1 0 ≠ 1 → ∀ k : Nat, k ≤ m + 1 → x.2 8 k = gS (x.1 0) k) (w0 : 0 ≤ w) (w1 : w < gS (x.1 0) (m + 1)) (h : frI x m f y c) : frI x m f (F_m_layAny y w).2 c ∧ okL (x.1 0).toNat (hM (F_m_layAny y w).2) ∧ num (x.1 0).toNat (hM (F_m_layAny y w).2) = w ∧ (F_m_layAny y w).2.1 10 = ((hM (F_m_layAny y w).2).length : Int) ∧ (hM (F_m_layAny y w).2).length ≤ m := by
  obtain ⟨⟨sm, jy, rf, hd, lf, rt⟩, h2, h3, h4, h5⟩ := h
  have fl := F_m_layAny_fr y w
  have s0 : y.1 0 = x.1 0 := sm.1 0 (by decide)
  have t8 : y.2 8 = x.2 8 := sm.2 8 (by decide)
  have LA := layAny_x (x := y) (M := m) (w := w) (by rw [s0]; exact l0) (by omega) (by rw [s0, t8]; exact fx) w0 (by rw [s0]; exact w1)
  have HD := layAny_hd (x := y) (M := m) (w := w) (by rw [s0]; exact l0) (by rw [s0]; exact l4) m20 (by rw [s0, t8]; exact fx) w0 (by rw [s0]; exact w1) hd
  rw [s0] at LA
  have e12 : (F_m_layAny y w).2.1 12 = y.1 12 := fl.1 12 (by decide)
  have eL : ∀ r, lM (F_m_layAny y w).2 r = lM y r := fun r => by unfold lM; rw [fl.2 13 (by decide), fl.2 14 (by decide)]
  have eR : ∀ r, rM (F_m_layAny y w).2 r = rM y r := fun r => by unfold rM; rw [fl.2 15 (by decide), fl.2 16 (by decide)]
  refine ⟨⟨⟨sm_tr sm (sm_mono (by decide) (by decide) fl), fun j hj => by rw [fl.2 9 (by decide)]; exact jy j hj, fun v v0 v1 => by rw [fl.2 9 (by decide)]; exact rf v v0 v1, HD, by unfold lfR; rw [fl.2 14 (by decide)]; exact lf, by unfold rtR; rw [fl.2 16 (by decide)]; exact rt⟩, by rw [e12]; exact h2, fun r hr => ?_, fun i j hij hj => ?_, fun v hv hc => ?_⟩, LA⟩
  · rw [e12] at hr
    rw [eL, eR, fl.2 13 (by decide), fl.2 15 (by decide)]
    exact h3 r hr
  · rw [e12] at hj
    rw [eL, eL]
    exact h4 i j hij hj
  · obtain ⟨r, r1, r2⟩ := h5 v hv hc
    exact ⟨r, by rw [e12]; exact r1, by rw [eL]; exact r2⟩
theorem fr_keep {x : MS} {m : Nat} {f : Int → Int} {y : MS} {w : Int} (l0 : 1 ≤ x.1 0) (l4 : x.1 0 ≤ 4) (m20 : m ≤ 20) (hB : gS (x.1 0) (m + 1) ≤ 10001) (fx : x.1 0 ≠ 1 → ∀ k : Nat, k ≤ m + 1 → x.2 8 k = gS (x.1 0) k) (w0 : 0 ≤ w) (w1 : w < gS (x.1 0) (m + 1)) (h : frI x m f y w) (q1 : okL (x.1 0).toNat (hM y)) (q2 : num (x.1 0).toNat (hM y) = w) (q3 : y.1 10 = ((hM y).length : Int)) (q4 : (hM y).length ≤ m) (hr : rulN (x.1 0).toNat m f w) (h40 : y.1 12 < 40) : frI x m f (F_m_keepRule y w).2 (w + 1) := by
  obtain ⟨⟨sm, jy, rf, hd, lf, rt⟩, h2, h3, h4, h5⟩ := h
  have s0 : y.1 0 = x.1 0 := sm.1 0 (by decide)
  have t8 : y.2 8 = x.2 8 := sm.2 8 (by decide)
  have e12 : y.1 12 = (((y.1 12).toNat : Nat) : Int) := by omega
  obtain ⟨k1, k2, k3, k4, ⟨k5, k6⟩, ⟨k7, k8, k9, k10⟩, k11, k12, k13⟩ := keepRule_x (x := y) (w := w) (M := m) (by rw [s0]; exact l0) (by rw [s0]; exact l4) m20 (by rw [s0, t8]; exact fx) (by rw [s0]; exact hB) jy w0 (by rw [s0]; exact w1) q3 (by omega) e12 (by omega) (fun r hr9 => by have h9 := (h3 r (by omega)).2.2; omega) hd lf rt
  rw [s0] at k7 k8
  have fk := F_m_keepRule_fr y w
  have nf : f w = rp (y.2 9) w := (rf w w0 (by omega)).symm
  refine ⟨⟨sm_tr sm (sm_mono (by decide) (by decide) fk), k2, fun v v0 v1 => (k3 v v0 v1).trans (rf v v0 v1), k11, k12, k13⟩, by rw [k1]; omega, fun r hr9 => ?_, fun i j hij hj => ?_, fun v hv hc => ?_⟩
  · rw [k1] at hr9
    by_cases e : r = (y.1 12).toNat
    · rw [e, k5, k6]
      exact ⟨⟨q1, by rw [q2]; exact hr, by omega⟩, ⟨k7, by rw [k8, q2, nf]⟩, rfl, k9, by omega, by rw [k9]; omega⟩
    · obtain ⟨⟨a1, a2⟩, a3, a4⟩ := k4 r (by omega)
      obtain ⟨⟨b1, b2, b3⟩, b4⟩ := h3 r (by omega)
      rw [a1, a2, a3, a4]
      exact ⟨⟨b1, b2, by omega⟩, b4⟩
  · rw [k1] at hj
    rw [(k4 i (by omega)).1.1]
    by_cases e : j = (y.1 12).toNat
    · rw [e, k5, q2]
      exact (h3 i (by omega)).1.2.2
    · rw [(k4 j (by omega)).1.1]
      exact h4 i j hij (by omega)
  · rw [k1]
    by_cases e : v = w
    · exact ⟨(y.1 12).toNat, by omega, by rw [k5, q2, e]⟩
    · obtain ⟨r, r1, r2⟩ := h5 v hv (by omega)
      exact ⟨r, by omega, by rw [(k4 r (by omega)).1.1]; exact r2⟩
/-- what findRules answers -/
def frR (x : MS) (m : Nat) (f : Int → Int) (q : Int × MS) : Prop := same [10, 12] [9, 11, 13, 14, 15, 16] x q.2 ∧ jOK q.2 ∧ (∀ w : Int, 0 ≤ w → w < 10001 → rp (q.2.2 9) w = f w) ∧ hdR q.2 ∧ lfR q.2 ∧ rtR q.2 ∧ ((q.1 = 1 ∧ frI x m f q.2 (gS (x.1 0) (m + 1))) ∨ (q.1 = 0 ∧ ∃ h : Nat → Int, (∀ i j : Nat, i < j → j < 41 → h i < h j) ∧ ∀ i : Nat, i < 41 → rulN (x.1 0).toNat m f (h i)))
theorem mLeast_x {y : MS} {f : Int → Int} (jy : jOK y) (rf : ∀ w : Int, 0 ≤ w → w < 10001 → rp (y.2 9) w = f w) {w : Int} (w0 : 0 ≤ w) (w1 : w < 10001) : (F_m_isLeast y w).1 = if f w = w then 1 else 0 := by
  have h : ldn (y.2 9) 10001 := fun k hk => jy k (by omega)
  have ii := rp_is h w0 w1
  rw [rf w w0 w1] at ii
  unfold F_m_isLeast
  by_cases c : y.2 9 w.toNat = w
  · rw [if_pos c, if_pos (ii.mp c)]
  · rw [if_neg c, if_neg (fun e => c (ii.mpr e))]
theorem wk_ex {n : Nat} (hn : 1 ≤ n) {m : Nat} {w : Int} (w1 : 1 ≤ w) (w2 : w < gS (n : Int) (m + 1)) : ∃ k v : Nat, k < m ∧ v < n ^ (k + 1) ∧ w = gS (n : Int) (k + 1) + (v : Int) := by
  obtain ⟨u, a, b, e⟩ := num_ex hn (m + 1) w (by omega) w2
  have lt := (vl_lt u.length u rfl a).resolve_right (by omega)
  cases u with
  | nil => rw [num_nil] at e; exfalso; omega
  | cons l t =>
    rw [List.length_cons] at b lt
    exact ⟨t.length, vl n (l :: t), by omega, lt, e.symm⟩
theorem wo_x {z : MS} {w : Int} {m k v : Nat} (l0 : 1 ≤ z.1 0) (m20 : m ≤ 20) (fz : z.1 0 ≠ 1 → ∀ j : Nat, j ≤ m + 1 → z.2 8 j = gS (z.1 0) j) (hk : k < m) (hv : v < (z.1 0).toNat ^ (k + 1)) (ew : w = gS (z.1 0) (k + 1) + (v : Int)) (q1 : okL (z.1 0).toNat (hM z)) (q2 : num (z.1 0).toNat (hM z) = w) (q3 : z.1 10 = ((hM z).length : Int)) : (F_m_withoutFirst z w).1 = gS (z.1 0) k + ((v % (z.1 0).toNat ^ k : Nat) : Int) ∧ (F_m_withoutLast z w).1 = gS (z.1 0) k + ((v / (z.1 0).toNat : Nat) : Int) := by
  have eL : (((z.1 0).toNat : Nat) : Int) = z.1 0 := by omega
  have lt := (vl_lt (hM z).length (hM z) rfl q1).resolve_right (by omega)
  have len : (hM z).length = k + 1 := by
    unfold num at q2
    rw [ew, eL] at q2
    rw [← eL] at q2
    exact (gS_one (by omega) lt hv q2).1
  unfold F_m_withoutFirst F_m_withoutLast
  by_cases c : z.1 0 = 1
  · rw [if_pos c, if_pos c]
    have n1 : (z.1 0).toNat = 1 := by omega
    rw [n1, Nat.one_pow] at hv
    have v0 : v = 0 := by omega
    rw [n1, v0, c, gS_1]
    rw [v0, c, gS_1] at ew
    rw [Nat.zero_mod, Nat.zero_div]
    exact ⟨by show w - 1 = _; omega, by show w - 1 = _; omega⟩
  · rw [if_neg c, if_neg c]
    have e1 : (z.1 10 - (1 : Int)).toNat = k := by omega
    have e2 : (z.1 10).toNat = k + 1 := by omega
    have pw : (F_m_powerOf z (z.1 10 - (1 : Int))).1 = (((z.1 0).toNat ^ k : Nat) : Int) := by
      rw [F_m_powerOf_v z (by omega) (by omega), e1, ← gP_pow, eL]
    rw [pw, e1, e2, fz c k (by omega), fz c (k + 1) (by omega), show w - gS (z.1 0) (k + 1) = (v : Int) by omega]
    refine ⟨by show gS (z.1 0) k + (v : Int) % _ = _; rw [Int.natCast_emod], ?_⟩
    show gS (z.1 0) k + (v : Int) / z.1 0 = _
    rw [Int.natCast_ediv, eL]
theorem find_s {x : MS} {m : Nat} {f : Int → Int} (l0 : 1 ≤ x.1 0) (l4 : x.1 0 ≤ 4) (m20 : m ≤ 20) (e7 : x.1 7 = gS (x.1 0) (m + 1)) (hB : x.1 7 ≤ 10000) (fx : x.1 0 ≠ 1 → ∀ k : Nat, k ≤ m + 1 → x.2 8 k = gS (x.1 0) k) : ∀ (n : Nat) (y : MS) (w : Int), 1 ≤ w → w ≤ x.1 7 → frI x m f y w → x.1 7 - w < n → frR x m f (F_m_findRules_s n 0 y w) := by
  have eL : (((x.1 0).toNat : Nat) : Int) = x.1 0 := by omega
  intro n
  induction n with
  | zero => intro y w _ _ _ h; exfalso; omega
  | succ n ih =>
    intro y w w1 w2 h fu
    rw [F_m_findRules_e0]
    obtain ⟨sm, jy, rf, hd, lf, rt⟩ := h.1
    have s7 : y.1 7 = x.1 7 := sm.1 7 (by decide)
    by_cases c : y.1 7 ≤ w
    · rw [if_pos c]
      have ew : w = gS (x.1 0) (m + 1) := by omega
      rw [ew] at h
      exact ⟨sm, jy, rf, hd, lf, rt, Or.inl ⟨rfl, h⟩⟩
    · rw [if_neg c]
      obtain ⟨k, v, hk, hv, ew⟩ := wk_ex (n := (x.1 0).toNat) (by omega) (m := m) w1 (by rw [eL, ← e7]; omega)
      have ra := rulN_at (n := (x.1 0).toNat) (m := m) (by omega) (f := f) hk hv
      rw [← ew, eL] at ra
      have i1 := gS_in (n := (x.1 0).toNat) (by omega) (show k ≤ m by omega) (div_lt' (by omega) hv)
      have i2 := gS_in (n := (x.1 0).toNat) (by omega) (show k ≤ m by omega) (Nat.mod_lt v (show 0 < (x.1 0).toNat ^ k from Nat.pow_pos (by omega)))
      rw [eL, ← e7] at i1 i2
      rw [mLeast_x jy rf (by omega) (by omega)]
      by_cases c2 : f w = w
      · rw [if_pos c2, if_neg (by decide)]
        exact ih y (w + 1) (by omega) (by omega) (fr_skip h (fun e => (ra.mp e).1 c2)) (by omega)
      · rw [if_neg c2, if_pos rfl]
        obtain ⟨hz, z1, z2, z3, z4⟩ := fr_lay (w := w) l0 l4 m20 fx (by omega) (by omega) h
        obtain ⟨smz, jz, rfz, hdz, lfz, rtz⟩ := hz.1
        have s0 : (F_m_layAny y w).2.1 0 = x.1 0 := smz.1 0 (by decide)
        have t8 : (F_m_layAny y w).2.2 8 = x.2 8 := smz.2 8 (by decide)
        have wo := wo_x (z := (F_m_layAny y w).2) (w := w) (m := m) (k := k) (v := v) (by rw [s0]; exact l0) m20 (by rw [s0, t8]; exact fx) hk (by rw [s0]; exact hv) (by rw [s0, ← eL]; exact ew) (by rw [s0]; exact z1) (by rw [s0]; exact z2) z3
        rw [s0] at wo
        rw [wo.1, wo.2, mLeast_x jz rfz i2.1 (by omega), mLeast_x jz rfz i1.1 (by omega)]
        generalize (F_m_layAny y w).2 = z at hz z1 z2 z3 z4 smz jz rfz hdz lfz rtz
        by_cases c3 : f (gS (x.1 0) k + ((v % (x.1 0).toNat ^ k : Nat) : Int)) = gS (x.1 0) k + ((v % (x.1 0).toNat ^ k : Nat) : Int)
        · rw [if_pos c3, if_neg (by decide)]
          by_cases c4 : f (gS (x.1 0) k + ((v / (x.1 0).toNat : Nat) : Int)) = gS (x.1 0) k + ((v / (x.1 0).toNat : Nat) : Int)
          · rw [if_pos c4, if_neg (by decide)]
            have hr : rulN (x.1 0).toNat m f w := ra.mpr ⟨c2, c4, c3⟩
            by_cases c5 : z.1 12 = (40 : Int)
            · rw [if_pos c5]
              refine ⟨smz, jz, rfz, hdz, lfz, rtz, Or.inr ⟨rfl, fun i => if i < 40 then num (x.1 0).toNat (lM z i) else w, fun i j hij hj => ?_, fun i hi => ?_⟩⟩
              · show (if i < 40 then num (x.1 0).toNat (lM z i) else w) < (if j < 40 then num (x.1 0).toNat (lM z j) else w)
                rw [if_pos (show i < 40 by omega)]
                by_cases cj : j < 40
                · rw [if_pos cj]; exact hz.2.2.2.1 i j hij (by omega)
                · rw [if_neg cj]; exact (hz.2.2.1 i (by omega)).1.2.2
              · show rulN _ _ _ (if i < 40 then num (x.1 0).toNat (lM z i) else w)
                by_cases ci : i < 40
                · rw [if_pos ci]; exact (hz.2.2.1 i (by omega)).1.2.1
                · rw [if_neg ci]; exact hr
            · rw [if_neg c5]
              have h40 := hz.2.1
              exact ih _ (w + 1) (by omega) (by omega) (fr_keep l0 l4 m20 (by omega) fx (by omega) (by omega) hz z1 z2 z3 z4 hr (by omega)) (by omega)
          · rw [if_neg c4, if_pos rfl]
            exact ih z (w + 1) (by omega) (by omega) (fr_skip hz (fun e => c4 (ra.mp e).2.1)) (by omega)
        · rw [if_neg c3, if_pos rfl]
          exact ih z (w + 1) (by omega) (by omega) (fr_skip hz (fun e => c3 (ra.mp e).2.2)) (by omega)
theorem find_x {x : MS} {m : Nat} (l0 : 1 ≤ x.1 0) (l4 : x.1 0 ≤ 4) (m20 : m ≤ 20) (e7 : x.1 7 = gS (x.1 0) (m + 1)) (hB : x.1 7 ≤ 10000) (fx : x.1 0 ≠ 1 → ∀ k : Nat, k ≤ m + 1 → x.2 8 k = gS (x.1 0) k) (jx : jOK x) (hd : hdR x) (lf : lfR x) (rt : rtR x) : frR x m (rp (x.2 9)) (F_m_findRules x) := by
  have g1 := gS_mono l0 (show 1 ≤ m + 1 by omega)
  have g0 : gS (x.1 0) 1 = 1 := rfl
  refine find_s l0 l4 m20 e7 hB fx 10010 (sU x 12 ((0 : Int))) 1 (Int.le_refl _) (by omega) ⟨⟨sm_s (by decide) (sm_rf _ _ _), jx, fun _ _ _ => rfl, hd, lf, rt⟩, by rw [yS_s]; omega, fun r hr => by rw [yS_s] at hr; exfalso; omega, fun i j _ hj => by rw [yS_s] at hj; exfalso; omega, fun w hw hc => by have := rulN_b (by omega) hw; exfalso; omega⟩ (by omega)
