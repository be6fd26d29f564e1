-- deps: 98.m 98.l
/-! write, bringDown, makeFrom: what they do -/
theorem dl_cons4 (k C : Nat) : dl 4 (k + 1) C = ((C / 4 ^ k % 4 : Nat) : Int) :: dl 4 k C := by
  rw [dl_get, dl_get, List.range_succ_eq_map, List.map_cons, List.map_map]
  congr 1
  apply List.map_congr_left
  intro i hi
  have := List.mem_range.mp hi
  show ((C / 4 ^ (k + 1 - 1 - (i + 1)) % 4 : Nat) : Int) = _
  rw [show k + 1 - 1 - (i + 1) = k - 1 - i by omega]
theorem F_s_write_s_x {w : Nat} (hw : kW w = true) (hL : kL w = 60) {C : Nat} (hC : C < 2 ^ 62) (v : Int) : ∀ (n : Nat) (y : KS) (P : List Int) (k : Nat), wL y w P → P.length + k ≤ 60 → k ≤ 30 → k < n → r03 (y.2 (w + 1)) → wL (F_s_write_s w n 0 y v (C : Int) ((k : Int) - 1)).2 w (P ++ dl 4 k C) ∧ r03 ((F_s_write_s w n 0 y v (C : Int) ((k : Int) - 1)).2.2 (w + 1)) := by
  intro n
  induction n with
  | zero => intro y P k _ _ _ h; exfalso; omega
  | succ n ih =>
    intro y P k h h1 h2 h3 r
    rw [F_s_write_e0]
    cases k with
    | zero =>
      rw [if_pos (by show ((0 : Nat) : Int) - 1 < 0; decide)]
      have e : dl 4 0 C = [] := rfl
      rw [e, List.append_nil]
      exact ⟨h, r⟩
    | succ k =>
      have e1 : ((k + 1 : Nat) : Int) - 1 = (k : Int) := by push_cast; omega
      rw [e1, if_neg (by omega), iSr_4 hC (by omega), iNI_3, show (k : Int) + -1 = (k : Int) - 1 by omega]
      have pu := push_x (v := ((C / 4 ^ k % 4 : Nat) : Int)) hL h (by omega)
      have r2 : r03 ((F_w_push y w ((C / 4 ^ k % 4 : Nat) : Int)).2.2 (w + 1)) := by
        have hm : C / 4 ^ k % 4 < 4 := Nat.mod_lt _ (by decide)
        unfold F_w_push
        repeat' split
        all_goals first | exact r | (rw [kA_s, kS_2]; exact r03_U r (by omega) (by omega))
      have := ih _ _ k pu.2 (by rw [List.length_append, List.length_singleton]; omega) (by omega) (by omega) r2
      rw [dl_cons4, show P ++ ((C / 4 ^ k % 4 : Nat) : Int) :: dl 4 k C = P ++ [((C / 4 ^ k % 4 : Nat) : Int)] ++ dl 4 k C by simp]
      exact this
theorem write_x {x : KS} (sx : scX x) {v : Int} (h0 : 0 ≤ v) (h1 : v < x.2 3 (x.1 1 3 + 1).toNat) {w : Nat} (hw : kW w = true) (hL : kL w = 60) (r : r03 (x.2 (w + 1))) : r03 ((F_s_write x w v).2.2 (w + 1)) ∧ ∃ G B : Nat, v = x.2 3 G + B ∧ (G : Int) ≤ x.1 1 3 ∧ B < nL x ^ G ∧ wL (F_s_write x w v).2 w (dl (nL x) G B) := by
  obtain ⟨G, B, eS, hG, ev, hB⟩ := F_s_spanOf_x sx h0 h1
  have nb := nL_b sx
  have h20 := sx.1.2.1
  have eC := F_s_codeOf_v sx h0 eS (show v - x.2 3 G = (B : Int) by omega)
  have o4 : okL 4 (dl (nL x) G B) := okL_4 nb.2 (dl_ok nb.1 G B)
  have lC := vl4_lt o4
  rw [dl_len] at lC
  have p20 : 4 ^ G ≤ 4 ^ 20 := Nat.pow_le_pow_right (by decide) (by omega)
  have n20 : (4 : Nat) ^ 20 < 2 ^ 62 := by decide
  have eS2 : (F_s_spanOf (F_w_wipe x w).2 v).1 = (G : Int) := (F_s_spanOf_cg (x := x) (y := (F_w_wipe x w).2) (kS_c (w_ne hw rfl)) rfl v).trans eS
  have k := F_s_write_s_x hw hL (C := vl 4 (dl (nL x) G B)) (by omega) v 30 (F_w_wipe x w).2 [] G ⟨kS_s, rfl⟩ (by show 0 + G ≤ 60; omega) (by omega) (by omega) r
  rw [dl_vl G _ (dl_len _ _ _) o4, List.nil_append, ← eC, ← eS2] at k
  exact ⟨k.2, G, B, ev, hG, hB, k.1⟩
/-- what bringDown needs, and keeps -/
def bdP (x : KS) : Prop := (0 ≤ x.1 0 15 ∧ x.1 0 15 ≤ 20) ∧ (x.1 0 16 = 0 ∨ x.1 0 16 = 1) ∧ scX x ∧ jnR x ∧ (x.1 0 16 = 1 → rOK x) ∧ x.1 0 15 ≤ x.1 1 3
theorem isSeen_v {x : KS} (s : 0 ≤ x.1 0 15) : ((F_t_isSeen x).1 = 0 ∧ x.1 0 15 = 0) ∨ ((F_t_isSeen x).1 = 1 ∧ 0 < x.1 0 15) := by
  unfold F_t_isSeen
  split
  · exact Or.inl ⟨rfl, by omega⟩
  · exact Or.inr ⟨rfl, by omega⟩
theorem number_lt {x : KS} {w : Nat} (sx : scX x) (g : wG x w) (h : x.1 w 1 ≤ x.1 1 3) : (F_s_numberOf x w).1 < x.2 3 (x.1 1 3 + 1).toNat := by
  obtain ⟨e, b⟩ := numberOf_v sx g h
  have l : ((wS x w).length : Int) = x.1 w 1 := by rw [wS_len]; have := g.1; omega
  have hp := scX_pow sx (wS x w).length (by omega)
  have f1 := sx.2.2.2.1 (wS x w).length (by omega)
  have mo := sc_first_mono sx ((wS x w).length + 1) ((x.1 1 3 + 1).toNat - ((wS x w).length + 1)) (by omega)
  rw [show (wS x w).length + 1 + ((x.1 1 3 + 1).toNat - ((wS x w).length + 1)) = (x.1 1 3 + 1).toNat by omega] at mo
  omega
theorem bringDown_x {x : KS} (p : bdP x) {w1 w2 : Nat} (hw1 : kW w1 = true) (hw2 : kW w2 = true) (l2 : w2 + 1 < 87) (hL1 : kL w1 = 60) (hL2 : kL w2 = 60) (nw : w1 ≠ w2) (g1 : wG x w1) (r2 : r03 (x.2 (w2 + 1))) :
    bdP (F_t_bringDown x w1 w2).2 ∧ r03 ((F_t_bringDown x w1 w2).2.2 (w2 + 1)) ∧ (x.1 0 15 = 0 → F_t_bringDown x w1 w2 = (-3, x)) ∧ (x.1 0 16 = 0 → x.1 0 15 < x.1 w1 1 → F_t_bringDown x w1 w2 = (-3, x)) ∧
    (0 < x.1 0 15 → x.1 0 16 = 0 → x.1 w1 1 ≤ x.1 0 15 → ∃ G B : Nat, (F_j_leastOf x (F_s_numberOf x w1).1).1 = x.2 3 G + B ∧ (G : Int) ≤ x.1 1 3 ∧ B < nL x ^ G ∧ wL (F_t_bringDown x w1 w2).2 w2 (dl (nL x) G B) ∧ (F_t_bringDown x w1 w2).1 = (G : Int) ∧ wG (F_t_bringDown x w1 w2).2 w2) ∧
    (0 < x.1 0 15 → x.1 0 16 = 1 → ∃ V : List Int, rch (lS x) (rS x) (nR x) (wS x w1) V ∧ noL (lS x) (nR x) V ∧ wL (F_t_bringDown x w1 w2).2 w2 V ∧ (F_t_bringDown x w1 w2).1 = (V.length : Int) ∧ wG (F_t_bringDown x w1 w2).2 w2) := by
  obtain ⟨s, p01, sx, jr, okp, sl⟩ := id p
  have f := F_t_bringDown_fr x w1 w2
  have n0 : w2 ≠ 0 := kW_ne hw2 rfl
  have n1 : w2 ≠ 1 := kW_ne hw2 rfl
  have v16 : 70 ≠ w2 := w_ne hw2 rfl
  rcases isSeen_v s.1 with ⟨e1, e2⟩ | ⟨e1, e2⟩
  · have key : F_t_bringDown x w1 w2 = (-3, x) := by unfold F_t_bringDown; rw [if_pos e1]
    rw [key]
    exact ⟨p, r2, fun _ => rfl, fun _ _ => rfl, fun h => by omega, fun h => by omega⟩
  · rcases p01 with p0 | p1
    · by_cases c : x.1 w1 1 ≤ x.1 0 15
      · have key : F_t_bringDown x w1 w2 = ((F_s_write (F_j_leastOf x (F_s_numberOf x w1).1).2 w2 (F_j_leastOf x (F_s_numberOf x w1).1).1).2.1 w2 1, (F_s_write (F_j_leastOf x (F_s_numberOf x w1).1).2 w2 (F_j_leastOf x (F_s_numberOf x w1).1).1).2) := by
          unfold F_t_bringDown
          rw [if_neg (by rw [e1]; decide), if_pos p0, if_pos c, if_pos p0]
        have nb := numberOf_b sx g1 (by omega)
        have nl := number_lt sx g1 (by omega)
        have ol := F_j_leastOf_ok (v := (F_s_numberOf x w1).1) jr
        have fl := F_j_leastOf_fr x (F_s_numberOf x w1).1
        have sy := scX_of fl (by decide) (by decide) (by decide) sx
        have le := ol.2.2.1 nb.1
        have wx := write_x sy (v := (F_j_leastOf x (F_s_numberOf x w1).1).1) ol.2.1 (by rw [fl.2 3 (by decide), fl.1 1 3 (by decide)]; omega) hw2 hL2 (by rw [fl.2 (w2 + 1) (by intro h9; rw [List.mem_singleton] at h9; exact kR_ne hw2 (d := 57) rfl h9)]; exact r2)
        rw [key]
        have fw := F_s_write_fr (F_j_leastOf x (F_s_numberOf x w1).1).2 w2 (F_j_leastOf x (F_s_numberOf x w1).1).1
        generalize F_s_write (F_j_leastOf x (F_s_numberOf x w1).1).2 w2 (F_j_leastOf x (F_s_numberOf x w1).1).1 = z at wx fw
        have enl : nL (F_j_leastOf x (F_s_numberOf x w1).1).2 = nL x := by unfold nL; rw [fl.1 1 2 (by decide)]
        rw [fl.2 3 (by decide), fl.1 1 3 (by decide), enl] at wx
        obtain ⟨rr, G, B, ev, hG, hB, wl9⟩ := wx
        have m0 : ∀ k, (0, k) ∉ [(w2, 1)] := fun k h9 => by simp at h9; omega
        have m1 : ∀ k, (1, k) ∉ [(w2, 1)] := fun k h9 => by simp at h9; omega
        have e15 : z.2.1 0 15 = x.1 0 15 := (fw.1 0 15 (m0 _)).trans (fl.1 0 15 (by decide))
        have e16 : z.2.1 0 16 = x.1 0 16 := (fw.1 0 16 (m0 _)).trans (fl.1 0 16 (by decide))
        have e13 : z.2.1 1 3 = x.1 1 3 := (fw.1 1 3 (m1 _)).trans (fl.1 1 3 (by decide))
        have sz : scX z.2 := scX_same (funext fun k => fw.1 1 k (m1 k)) (fw.2 2 (by intro h9; rw [List.mem_singleton] at h9; exact kR_ne hw2 (d := 2) rfl h9.symm)) (fw.2 3 (by intro h9; rw [List.mem_singleton] at h9; exact kR_ne hw2 (d := 3) rfl h9.symm)) sy
        have jz : jnR z.2 := by
          unfold jnR
          rw [fw.1 56 1 (by intro h9; simp at h9; exact kW_ne hw2 (d := 56) rfl h9.symm), fw.2 57 (by intro h9; rw [List.mem_singleton] at h9; exact kR_ne hw2 (d := 57) rfl h9.symm)]
          exact ol.1
        have znl : nL z.2 = nL x := by unfold nL; rw [fw.1 1 2 (m1 _), fl.1 1 2 (by decide)]
        have lG : (dl (nL x) G B).length = G := dl_len _ _ _
        have gz : wG z.2 w2 := wG_of wl9 (by rw [lG]; have := sx.1.2.1; omega) rr (by rw [znl]; exact dl_ok (nL_b sx).1 G B)
        refine ⟨⟨by rw [e15]; exact s, by rw [e16]; exact Or.inl p0, sz, jz, fun h => by rw [e16, p0] at h; exact absurd h (by decide), by rw [e15, e13]; exact sl⟩, rr, fun h => by omega, fun _ h => by omega, fun _ _ _ => ⟨G, B, ev, hG, hB, wl9, ?_, gz⟩, fun _ h => by omega⟩
        show z.2.1 w2 1 = (G : Int)
        rw [wl9.1, lG]
      · have key : F_t_bringDown x w1 w2 = (-3, x) := by
          unfold F_t_bringDown
          rw [if_neg (by rw [e1]; decide), if_pos p0, if_neg c]
        rw [key]
        exact ⟨p, r2, fun _ => rfl, fun _ _ => rfl, fun _ _ h => absurd h c, fun _ h => by omega⟩
    · have ok := okp p1
      have rg := run_G ok hw1 hw2 hL2 l2 g1 r2
      obtain ⟨_, k2, k3, V, v1, v2, v3, v4, v5⟩ := rOK_run ok hw1 hw2 hL2 l2 g1 r2
      have key : F_t_bringDown x w1 w2 = ((F_r_run x w1 w2).2.1 w2 1, (F_r_run x w1 w2).2) := by
        unfold F_t_bringDown
        rw [if_neg (by rw [e1]; decide), if_neg (by omega), if_neg (by omega), rg.2.2.2, if_neg (by decide)]
      rw [key]
      have fr := F_r_run_fr x w1 w2
      have m0 : ∀ k, (0, k) ∉ [(70, 4), (70, 5), (64, 8), (w2, 1)] := fun k h9 => by simp at h9; omega
      have m1 : ∀ k, (1, k) ∉ [(70, 4), (70, 5), (64, 8), (w2, 1)] := fun k h9 => by simp at h9; omega
      have ma : ∀ a, a < 87 → kW (a - 1) = false → a ≠ 71 → a ≠ 72 → (F_r_run x w1 w2).2.2 a = x.2 a := fun a ha hk h1 h2 => fr.2 a ha (by intro h9; simp at h9; have := kR_ne hw2 (d := a) hk; omega)
      have e15 : (F_r_run x w1 w2).2.1 0 15 = x.1 0 15 := fr.1 0 15 (by decide) (m0 _)
      have e16 : (F_r_run x w1 w2).2.1 0 16 = x.1 0 16 := fr.1 0 16 (by decide) (m0 _)
      have e13 : (F_r_run x w1 w2).2.1 1 3 = x.1 1 3 := fr.1 1 3 (by decide) (m1 _)
      refine ⟨⟨by rw [e15]; exact s, by rw [e16]; exact Or.inr p1, rg.1.1.1, ?_, fun _ => rg.1, by rw [e15, e13]; exact sl⟩, k2, fun h => by omega, fun h => by omega, fun _ h => by omega, fun _ _ => ⟨V, v4, v5, v1, v1.1, rg.2.1⟩⟩
      unfold jnR
      rw [fr.1 56 1 (by decide) (by intro h9; simp at h9; exact kW_ne hw2 (d := 56) rfl h9.symm), ma 57 (by decide) rfl (by decide) (by decide)]
      exact jr
theorem bringDown_b {x : KS} (p : bdP x) {w1 w2 : Nat} (hw1 : kW w1 = true) (hw2 : kW w2 = true) (l2 : w2 + 1 < 87) (hL1 : kL w1 = 60) (hL2 : kL w2 = 60) (nw : w1 ≠ w2) (g1 : wG x w1) (r2 : r03 (x.2 (w2 + 1))) : -3 ≤ (F_t_bringDown x w1 w2).1 ∧ (F_t_bringDown x w1 w2).1 ≤ 60 ∧ (0 ≤ (F_t_bringDown x w1 w2).1 → wG (F_t_bringDown x w1 w2).2 w2 ∧ (F_t_bringDown x w1 w2).1 = (F_t_bringDown x w1 w2).2.1 w2 1) := by
  obtain ⟨_, _, b3, b4, b5, b6⟩ := bringDown_x p hw1 hw2 l2 hL1 hL2 nw g1 r2
  have s := p.1
  by_cases c1 : x.1 0 15 = 0
  · rw [b3 c1]; exact ⟨by show (-3 : Int) ≤ -3; decide, by show (-3 : Int) ≤ 60; decide, fun h => absurd h (by show ¬ (0 : Int) ≤ -3; decide)⟩
  · rcases p.2.1 with p0 | p1
    · by_cases c2 : x.1 w1 1 ≤ x.1 0 15
      · obtain ⟨G, B, _, hG, _, w9, e, g⟩ := b5 (by omega) p0 c2
        have := p.2.2.1.1.2.1
        have wl1 := w9.1
        rw [dl_len] at wl1
        exact ⟨by omega, by omega, fun _ => ⟨g, by rw [e, wl1]⟩⟩
      · rw [b4 p0 (by omega)]; exact ⟨by show (-3 : Int) ≤ -3; decide, by show (-3 : Int) ≤ 60; decide, fun h => absurd h (by show ¬ (0 : Int) ≤ -3; decide)⟩
    · obtain ⟨V, _, _, w9, e, g⟩ := b6 (by omega) p1
      have := g.1
      have wl1 := w9.1
      exact ⟨by omega, by omega, fun _ => ⟨g, by rw [e, wl1]⟩⟩
/-- another STRING stays -/
theorem bringDown_G {x : KS} {w1 w2 w : Nat} (hw : kW w = true) (l : w + 1 < 87) (ne : w ≠ w2) (g : wG x w) (hw2 : kW w2 = true) : wG (F_t_bringDown x w1 w2).2 w := by
  have h1 : w + 1 ≠ 71 := kR_ne hw rfl
  have h2 : w + 1 ≠ 72 := kR_ne hw rfl
  have h3 : w + 1 ≠ 57 := kR_ne hw rfl
  have n1 : w2 ≠ 1 := kW_ne hw2 rfl
  have n70 : w ≠ 70 := kW_ne hw rfl
  have n64 : w ≠ 64 := kW_ne hw rfl
  exact wG_g (F_t_bringDown_fr x w1 w2) l (by intro h9; simp only [List.mem_cons, List.not_mem_nil, or_false, Prod.mk.injEq] at h9; omega) (by intro h9; simp only [List.mem_cons, List.not_mem_nil, or_false] at h9; omega) (by intro h9; simp only [List.mem_cons, List.not_mem_nil, or_false, Prod.mk.injEq] at h9; omega) g
theorem mdR_add {x : KS} (md : mdR x) {k : Nat} {V : List Int} (oV : okL 4 V) (lV : V.length ≤ 60) (hk : k < 300) : mdR (kS (kA (kA x 85 k ((pk 1 (V.take 30) : Nat) : Int)) 86 k ((pk 1 (V.drop 30) : Nat) : Int)) 84 2 ((k : Int) + 1)) := by
  have b1 := pk_61 (okL_take oV 30) (by rw [List.length_take]; omega)
  have b2 := pk_61 (okL_drop oV 30) (by rw [List.length_drop]; omega)
  have r : ∀ q : Nat, q < 2 ^ 62 → iRL (q : Int) := fun q hq => ⟨by omega, by omega⟩
  refine ⟨by rw [kS_s]; omega, ?_, ?_⟩
  · rw [kS_2, kA_c (by decide), kA_s]; exact iU_all (P := iRL) (r _ b1) md.2.1
  · rw [kS_2, kA_s, kA_c (by decide)]; exact iU_all (P := iRL) (r _ b2) md.2.2
theorem makeFrom_x {x : KS} (ok : rOK x) (r77 : r03 (x.2 78)) {w1 : Nat} (hw : kW w1 = true) (hc : w1 + 1 < 87) (nw : w1 ≠ 77) (g1 : wG x w1) (md : mdR x) {Ls : List (List Int)} (ml : mdL x Ls) {i0 : Int} (h0 : 0 ≤ i0) (h1 : i0 < x.1 84 2) {V0 : List Int} (hV : Ls[i0.toNat]? = some V0) :
    rOK (F_t_makeFrom x w1 i0).2 ∧ r03 ((F_t_makeFrom x w1 i0).2.2 78) ∧ mdR (F_t_makeFrom x w1 i0).2 ∧ (∀ w, kW w = true → w + 1 < 87 → w ≠ 77 → wG x w → wG (F_t_makeFrom x w1 i0).2 w) ∧
    ((60 < V0.length + (wS x w1).length ∧ (F_t_makeFrom x w1 i0).1 = 0 ∧ mdL (F_t_makeFrom x w1 i0).2 Ls) ∨ (V0.length + (wS x w1).length ≤ 60 ∧ ∃ V : List Int, okL (nL x) V ∧ V.length ≤ 60 ∧ rch (lS x) (rS x) (nR x) (V0 ++ wS x w1) V ∧ noL (lS x) (nR x) V ∧ ((V ∈ Ls ∧ (F_t_makeFrom x w1 i0).1 = 1 ∧ mdL (F_t_makeFrom x w1 i0).2 Ls) ∨ (V ∉ Ls ∧ Ls.length < 300 ∧ (F_t_makeFrom x w1 i0).1 = 1 ∧ mdL (F_t_makeFrom x w1 i0).2 (Ls ++ [V])) ∨ (V ∉ Ls ∧ ¬ Ls.length < 300 ∧ (F_t_makeFrom x w1 i0).1 = 0 ∧ mdL (F_t_makeFrom x w1 i0).2 Ls)))) := by
  obtain ⟨o1, g77, gw, ml1, V9, hV9, wl9⟩ := readG ok ml h0 h1 r77
  have e9 : V9 = V0 := by rw [hV] at hV9; exact (Option.some.inj hV9).symm
  subst e9
  have fd := F_d_read_fr x 77 i0
  have g19 := gw w1 hw hc nw g1
  have sw1 : wS (F_d_read x 77 i0).2 w1 = wS x w1 := by
    unfold wS
    rw [fd.1 w1 1 (by intro h9; simp at h9; omega), fd.2 (w1 + 1) (by intro h9; simp at h9; omega)]
  have smd : sM x (F_d_read x 77 i0).2 := sM_of fd (fun p hp => by rw [List.mem_singleton] at hp; rw [hp]; exact sMs_w rfl) (fun a ha => by rw [List.mem_singleton] at ha; rw [ha]; exact sMa_w (c := 77) rfl)
  obtain ⟨p1, p2, p3, p4, p5⟩ := putBehind_x o1 g77 hw nw g19
  have fz := F_t_putBehind_fr (F_d_read x 77 i0).2 w1
  have md8 : mdR (F_t_putBehind (F_d_read x 77 i0).2 w1).2 := mdR_eq (fz.1 84 2 (by decide) (by decide)) (fz.2 85 (by decide) (by decide)) (fz.2 86 (by decide) (by decide)) (mdR_eq (fd.1 84 2 (by decide)) (fd.2 85 (by decide)) (fd.2 86 (by decide)) md)
  have ml8 : mdL (F_t_putBehind (F_d_read x 77 i0).2 w1).2 Ls := mdL_eq (fz.1 84 2 (by decide) (by decide)) (fz.2 85 (by decide) (by decide)) (fz.2 86 (by decide) (by decide)) (fz.1 1 2 (by decide) (by decide)) ml1
  have l77 := wl9.1
  have lw1 : ((wS x w1).length : Int) = (F_d_read x 77 i0).2.1 w1 1 := by rw [← sw1, wS_len]; have := g19.1; omega
  have gfar : ∀ w, kW w = true → w + 1 < 87 → w ≠ 77 → wG x w → wG (F_t_putBehind (F_d_read x 77 i0).2 w1).2 w := fun w hw2 l ne g => p3 w hw2 l ne (gw w hw2 l ne g)
  have nz : nL (F_t_putBehind (F_d_read x 77 i0).2 w1).2 = nL x := by
    unfold nL
    rw [fz.1 1 2 (by decide) (by decide), fd.1 1 2 (by decide)]
  by_cases c : (F_d_read x 77 i0).2.1 77 1 + (F_d_read x 77 i0).2.1 w1 1 ≤ 60
  · obtain ⟨q1, V, v1, v2, v3, v4, v5⟩ := p5 c
    rw [sM_nL smd] at v2
    rw [sM_lS smd, sM_rS smd, sM_nR smd, wL_S wl9, sw1] at v4
    rw [sM_lS smd, sM_nR smd] at v5
    have n4 := (nL_b p1.1.1).2
    have ad := add_x ml8 n4 v1 (by rw [nz]; exact v2) v3 p2.2.1
    have key : ∀ (a : Int) (z : KS), F_d_add (F_t_putBehind (F_d_read x 77 i0).2 w1).2 77 = (a, z) → F_t_makeFrom x w1 i0 = (if a = 0 then (0, z) else (1, z)) := fun a z h => by
      unfold F_t_makeFrom
      rw [q1, if_neg (by decide), h]
    have same : rOK (F_t_putBehind (F_d_read x 77 i0).2 w1).2 ∧ r03 ((F_t_putBehind (F_d_read x 77 i0).2 w1).2.2 78) ∧ mdR (F_t_putBehind (F_d_read x 77 i0).2 w1).2 ∧ (∀ w, kW w = true → w + 1 < 87 → w ≠ 77 → wG x w → wG (F_t_putBehind (F_d_read x 77 i0).2 w1).2 w) := ⟨p1, p2.2.1, md8, gfar⟩
    by_cases cm : V ∈ Ls
    · rw [if_pos cm] at ad
      rw [key 1 _ ad, if_neg (by decide)]
      exact ⟨same.1, same.2.1, same.2.2.1, same.2.2.2, Or.inr ⟨by omega, V, v2, v3, v4, v5, Or.inl ⟨cm, rfl, ml8⟩⟩⟩
    · rw [if_neg cm] at ad
      by_cases c3 : Ls.length < 300
      · rw [if_pos c3] at ad
        rw [key 1 _ ad, if_neg (by decide)]
        have fa : ksame [(84, 2)] [85, 86] (F_t_putBehind (F_d_read x 77 i0).2 w1).2 (kS (kA (kA (F_t_putBehind (F_d_read x 77 i0).2 w1).2 85 Ls.length ((pk 1 (V.take 30) : Nat) : Int)) 86 Ls.length ((pk 1 (V.drop 30) : Nat) : Int)) 84 2 ((Ls.length : Int) + 1)) := km_s (by decide) (km_a (by decide) (km_a (by decide) (km_rf _ _ _)))
        refine ⟨rOK_fr fa ?_ ?_ p1, by rw [fa.2 78 (by decide)]; exact p2.2.1, mdR_add md8 (okL_4 (by rw [← nz]; exact n4) v2) v3 c3, fun w hw2 l ne g => wG_fr fa ?_ ?_ (by decide) (gfar w hw2 l ne g), Or.inr ⟨by omega, V, v2, v3, v4, v5, Or.inr (Or.inl ⟨cm, c3, rfl, mdL_add ml8 c3 (by rw [nz]; exact v2) v3⟩)⟩⟩
        · intro p hp
          rw [List.mem_singleton] at hp
          rw [hp]
          unfold rSs sMs
          decide
        · intro p hp
          simp only [List.mem_cons, List.not_mem_nil, or_false] at hp
          rcases hp with e | e <;> subst e
          · unfold rAs sMa; decide
          · unfold rAs sMa; decide
        · intro h9
          rw [List.mem_singleton] at h9
          exact kW_ne hw2 (d := 84) rfl (congrArg Prod.fst h9)
        · intro h9
          simp only [List.mem_cons, List.not_mem_nil, or_false] at h9
          have a1 : w + 1 ≠ 85 := kR_ne hw2 rfl
          have a2 : w + 1 ≠ 86 := kR_ne hw2 rfl
          omega
      · rw [if_neg c3] at ad
        rw [key 0 _ ad, if_pos rfl]
        exact ⟨same.1, same.2.1, same.2.2.1, same.2.2.2, Or.inr ⟨by omega, V, v2, v3, v4, v5, Or.inr (Or.inr ⟨cm, c3, rfl, ml8⟩)⟩⟩
  · have e := p4 (by omega)
    have key : F_t_makeFrom x w1 i0 = (0, (F_d_read x 77 i0).2) := by
      unfold F_t_makeFrom
      rw [e, if_pos rfl]
    rw [key]
    exact ⟨o1, g77.2.1, mdR_eq (fd.1 84 2 (by decide)) (fd.2 85 (by decide)) (fd.2 86 (by decide)) md, gw, Or.inl ⟨by omega, rfl, ml1⟩⟩
