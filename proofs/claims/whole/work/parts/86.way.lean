-- deps: 30 31 32 33 34 35 36 37 38 39 40 41 70 71 72 73 74 75 76 77 78 79 80 81 82 83 84 85
/-! the plain way: what is read has no LEFT side in it, and the STRING is led on by RULES -/
def tk (f : Nat → Int) (k : Nat) : List Int := (List.range k).map f
theorem tk_len (f : Nat → Int) (k : Nat) : (tk f k).length = k := by unfold tk; rw [List.length_map, List.length_range]
theorem tk_s (f : Nat → Int) (k : Nat) : tk f (k + 1) = tk f k ++ [f k] := by
  unfold tk
  rw [List.range_succ, List.map_append]
  rfl
theorem tk_cg {f g : Nat → Int} : ∀ {k : Nat}, (∀ j, j < k → f j = g j) → tk f k = tk g k := by
  intro k h
  unfold tk
  exact List.map_congr_left fun j hj => h j (List.mem_range.mp hj)
theorem tk_iU {f : Nat → Int} {k j : Nat} {v : Int} (h : k ≤ j) : tk (iU f j v) k = tk f k := tk_cg fun i hi => iU_n (by omega)
theorem tk_take (f : Nat → Int) {j k : Nat} (h : j ≤ k) : (tk f k).take j = tk f j := by
  unfold tk
  rw [← List.map_take, List.take_range, Nat.min_eq_left h]
theorem tk_mem {f : Nat → Int} {k : Nat} {v : Int} (h : v ∈ tk f k) : ∃ j, j < k ∧ f j = v := by
  unfold tk at h
  obtain ⟨j, hj, e⟩ := List.mem_map.mp h
  exact ⟨j, List.mem_range.mp hj, e⟩
theorem tk_app {f : Nat → Int} {k : Nat} {a b : List Int} (h : tk f k = a ++ b) : a = tk f a.length := by
  have hl := congrArg List.length h
  rw [tk_len, List.length_append] at hl
  have := congrArg (List.take a.length) h
  rw [tk_take f (by omega), List.take_left] at this
  exact this.symm
theorem wS_tk (x : KS) (c : Nat) : wS x c = tk (x.2 (c + 1)) (x.1 c 1).toNat := rfl
theorem okL_app {n : Nat} {a b : List Int} : okL n (a ++ b) ↔ okL n a ∧ okL n b := by
  unfold okL
  constructor
  · intro h
    exact ⟨fun l hl => h l (List.mem_append_left _ hl), fun l hl => h l (List.mem_append_right _ hl)⟩
  · rintro ⟨h1, h2⟩ l hl
    rcases List.mem_append.mp hl with h | h
    · exact h1 l h
    · exact h2 l h
theorem okL_1 {n : Nat} {l : Int} (h0 : 0 ≤ l) (h1 : l < (n : Int)) : okL n [l] := fun k hk => by rw [List.mem_singleton] at hk; subst hk; exact ⟨h0, h1⟩
/-- Scale, RULES, STATES and steps are the same -/
def sM (x y : KS) : Prop := (y.1 1 = x.1 1 ∧ y.2 2 = x.2 2 ∧ y.2 3 = x.2 3) ∧ (y.1 58 6 = x.1 58 6 ∧ y.2 59 = x.2 59 ∧ y.2 60 = x.2 60 ∧ y.2 61 = x.2 61 ∧ y.2 62 = x.2 62 ∧ y.2 63 = x.2 63) ∧ y.1 64 7 = x.1 64 7 ∧ y.2 65 = x.2 65 ∧ y.2 66 = x.2 66
theorem sM_rf (x : KS) : sM x x := ⟨⟨rfl, rfl, rfl⟩, ⟨rfl, rfl, rfl, rfl, rfl, rfl⟩, rfl, rfl, rfl⟩
theorem sM_tr {x y z : KS} (h : sM x y) (g : sM y z) : sM x z := ⟨⟨g.1.1.trans h.1.1, g.1.2.1.trans h.1.2.1, g.1.2.2.trans h.1.2.2⟩, ⟨g.2.1.1.trans h.2.1.1, g.2.1.2.1.trans h.2.1.2.1, g.2.1.2.2.1.trans h.2.1.2.2.1, g.2.1.2.2.2.1.trans h.2.1.2.2.2.1, g.2.1.2.2.2.2.1.trans h.2.1.2.2.2.2.1, g.2.1.2.2.2.2.2.trans h.2.1.2.2.2.2.2⟩, g.2.2.1.trans h.2.2.1, g.2.2.2.1.trans h.2.2.2.1, g.2.2.2.2.trans h.2.2.2.2⟩
theorem sM_sy {x y : KS} (h : sM x y) : sM y x := ⟨⟨h.1.1.symm, h.1.2.1.symm, h.1.2.2.symm⟩, ⟨h.2.1.1.symm, h.2.1.2.1.symm, h.2.1.2.2.1.symm, h.2.1.2.2.2.1.symm, h.2.1.2.2.2.2.1.symm, h.2.1.2.2.2.2.2.symm⟩, h.2.2.1.symm, h.2.2.2.1.symm, h.2.2.2.2.symm⟩
/-- a scalar that is none of theirs -/
def sMs (p : Nat × Nat) : Prop := p.1 ≠ 1 ∧ p ≠ (58, 6) ∧ p ≠ (64, 7)
def sMa (a : Nat) : Prop := a ∉ [2, 3, 59, 60, 61, 62, 63, 65, 66]
theorem sMs_w {c k : Nat} (h : kW c = true) : sMs (c, k) := ⟨kW_ne h rfl, fun e => kW_ne h (d := 58) rfl (congrArg Prod.fst e), fun e => kW_ne h (d := 64) rfl (congrArg Prod.fst e)⟩
theorem sMa_w {c : Nat} (h : kW c = true) : sMa (c + 1) := by
  intro hm
  have e : ∀ q : Nat, q ∈ [2, 3, 59, 60, 61, 62, 63, 65, 66] → kW (q - 1) = false := by decide
  have := e _ hm
  rw [Nat.add_sub_cancel, h] at this
  cases this
theorem sM_of {S : List (Nat × Nat)} {A : List Nat} {x y : KS} (h : ksame S A x y) (hS : ∀ p ∈ S, sMs p) (hA : ∀ a ∈ A, sMa a) : sM x y := by
  have s1 : ∀ k, (1, k) ∉ S := fun k hk => (hS _ hk).1 rfl
  have s2 : (58, 6) ∉ S := fun hk => (hS _ hk).2.1 rfl
  have s3 : (64, 7) ∉ S := fun hk => (hS _ hk).2.2 rfl
  have a1 : ∀ a, a ∈ [2, 3, 59, 60, 61, 62, 63, 65, 66] → a ∉ A := fun a ha hb => hA a hb ha
  exact ⟨⟨funext fun k => h.1 1 k (s1 k), h.2 2 (a1 2 (by decide)), h.2 3 (a1 3 (by decide))⟩, ⟨h.1 58 6 s2, h.2 59 (a1 59 (by decide)), h.2 60 (a1 60 (by decide)), h.2 61 (a1 61 (by decide)), h.2 62 (a1 62 (by decide)), h.2 63 (a1 63 (by decide))⟩, h.1 64 7 s3, h.2 65 (a1 65 (by decide)), h.2 66 (a1 66 (by decide))⟩
theorem sM_s {x y : KS} {c k : Nat} {v : Int} (h : sM x y) (hc : sMs (c, k)) : sM x (kS y c k v) := sM_tr h (sM_of (S := [(c, k)]) (A := []) (km_s (List.Mem.head _) (km_rf _ _ _)) (fun p hp => by rw [List.mem_singleton] at hp; rw [hp]; exact hc) (fun a ha => absurd ha List.not_mem_nil))
theorem sM_a {x y : KS} {c j : Nat} {v : Int} (h : sM x y) (hc : sMa c) : sM x (kA y c j v) := sM_tr h (sM_of (S := []) (A := [c]) (km_a (List.Mem.head _) (km_rf _ _ _)) (fun a ha => absurd ha List.not_mem_nil) (fun p hp => by rw [List.mem_singleton] at hp; rw [hp]; exact hc))
theorem sM_nL {x y : KS} (h : sM x y) : nL y = nL x := by unfold nL; rw [h.1.1]
theorem sM_nR {x y : KS} (h : sM x y) : nR y = nR x := by unfold nR; rw [h.2.1.1]
theorem sM_sg {x y : KS} (h : sM x y) (r b i : Int) : (F_u_signAt y r b i).1 = (F_u_signAt x r b i).1 := by
  unfold F_u_signAt
  rw [h.2.1.2.2.1, h.2.1.2.2.2.1, h.2.1.2.2.2.2.1, h.2.1.2.2.2.2.2]
  repeat' split
  all_goals rfl
theorem sM_lS {x y : KS} (h : sM x y) : lS y = lS x := by
  funext r
  unfold lS
  rw [h.2.1.2.2.1]
  exact List.map_congr_left fun i _ => sM_sg h _ _ _
theorem sM_rS {x y : KS} (h : sM x y) : rS y = rS x := by
  funext r
  unfold rS
  rw [h.2.1.2.2.2.1]
  exact List.map_congr_left fun i _ => sM_sg h _ _ _
theorem sM_stS {x y : KS} (h : sM x y) : stS y = stS x := by
  funext i
  have e1 : stG y i = stG x i := by unfold stG; rw [h.2.2.2.1, F_s_spanOf_cg h.1.1 h.1.2.2]
  have e2 : stB y i = stB x i := by unfold stB; rw [h.2.2.2.1, h.1.2.2, e1]
  unfold stS
  rw [e1, e2, sM_nL h]
/-- RULES and MACHINE stand -/
def mcX (x : KS) : Prop := scX x ∧ ruR x ∧ ruE x ∧ (∃ q, soI x q) ∧ maR x ∧ maL x
theorem mcX_sM {x y : KS} (h : sM x y) (m : mcX x) : mcX y := by
  obtain ⟨sx, ru, re, ⟨q, so⟩, ma, nm, nx, h1, s0, hb, ob, st⟩ := m
  have sy := scX_same h.1.1 h.1.2.1 h.1.2.2 sx
  have ruy : ruR y := ruR_cg h.2.1.1 h.2.1.2.1 h.2.1.2.2.1 h.2.1.2.2.2.1 h.2.1.2.2.2.2.1 h.2.1.2.2.2.2.2 ru
  refine ⟨sy, ruy, ?_, ⟨q, ?_⟩, ?_, ?_, ?_, ?_, ?_, ?_, ?_, ?_⟩
  · unfold ruE
    rw [h.2.1.1, h.2.1.2.1, h.2.1.2.2.1, h.2.1.2.2.2.1, h.2.1.2.2.2.2.1, h.2.1.2.2.2.2.2, h.1.1, h.1.2.2, sM_nL h]
    exact re
  · unfold soI; rw [h.2.1.1, h.2.1.2.1]; exact so
  · unfold maR; rw [h.2.2.1, h.2.2.2.1, h.2.2.2.2]; exact ma
  · unfold nmI; rw [h.2.2.1, h.2.2.2.1]; exact nm
  · intro w hw
    rw [inN_cg h.2.2.1 h.2.2.2.1] at hw
    rw [h.1.2.2, h.1.1, sM_nL h]
    exact nx w hw
  · rw [h.2.2.1]; exact h1
  · rw [sM_stS h]; exact s0
  · rw [h.2.2.1, sM_lS h, sM_nR h, sM_stS h]; exact hb
  · rw [h.2.2.1, sM_lS h, sM_nR h, sM_stS h]; exact ob
  · intro i l hi hl
    rw [h.2.2.1] at hi
    rw [sM_nL h] at hl ⊢
    rw [h.2.2.2.2]
    unfold mst
    rw [h.2.1.1, h.2.2.1, sM_lS h, sM_nR h, sM_stS h]
    exact st i l hi hl
theorem mc_left0 {x : KS} (m : mcX x) : ∀ r, r < nR x → lS x r ≠ [] := fun r hr => lS_ne m.1 m.2.1 m.2.2.1 (by unfold nR at hr; omega)
theorem mc_ahd {x : KS} (m : mcX x) {r : Nat} (hr : r < nR x) : ahd (rS x r) (lS x r) ∧ (lS x r).length ≤ 20 ∧ okL (nL x) (lS x r) ∧ okL (nL x) (rS x r) := ruE_ahd m.1 m.2.1 m.2.2.1 r (by unfold nR at hr; omega)
theorem lS_len (x : KS) (r : Nat) : (lS x r).length = (x.2 60 r).toNat := by unfold lS; rw [List.length_map, List.length_range]
theorem rS_len (x : KS) (r : Nat) : (rS x r).length = (x.2 61 r).toNat := by unfold rS; rw [List.length_map, List.length_range]
/-- a step by a LETTER, from a STATE -/
theorem mc_ix {x : KS} (m : mcX x) {s l : Int} (h0 : 0 ≤ s) (h1 : s < x.1 64 7) (l0 : 0 ≤ l) (l1 : l < (nL x : Int)) : 0 ≤ s * x.1 1 2 + l ∧ s * x.1 1 2 + l < 640 ∧ (s * x.1 1 2 + l).toNat = s.toNat * nL x + l.toNat ∧ mst x s.toNat l.toNat (x.2 66 (s * x.1 1 2 + l).toNat) := by
  obtain ⟨sx, ru, re, _, ma, nm, nx, k1, s0, hb, ob, st⟩ := m
  have ni := nL_i sx
  have hn := nL_b sx
  have e : s * x.1 1 2 + l = ((s.toNat * nL x + l.toNat : Nat) : Int) := by
    rw [← ni]
    push_cast
    rw [Int.toNat_of_nonneg h0, Int.toNat_of_nonneg l0]
  have rm := bg_room sx ru re nm (d := x.1 58 6) (k0 := 1) (fun w hw => by
    obtain ⟨i, hi, ei⟩ := hw
    obtain ⟨t1, t2, t3, t4⟩ := nmX_st sx nx hi
    have := (bgn_P sx ru re (hb i hi)).1
    have e1 : (stS x i).length = stG x i := by unfold stS; rw [dl_len]
    have e2 : vl (nL x) (stS x i) = stB x i := by unfold stS; exact vl_dl hn.1 _ _ t2
    rw [e1, e2, ← t1] at this
    rw [← ei]
    exact this)
  have hlt : s.toNat * nL x + l.toNat < 640 := by
    have a1 : s.toNat * nL x + nL x ≤ (x.1 64 7).toNat * nL x := by
      have := Nat.mul_le_mul_right (nL x) (show s.toNat + 1 ≤ (x.1 64 7).toNat by omega)
      rw [Nat.succ_mul] at this
      exact this
    have a2 : (((x.1 64 7).toNat * nL x : Nat) : Int) ≤ 640 := by
      have n0 := nm.1.1
      have := rm.2
      push_cast
      rw [Int.toNat_of_nonneg n0, ni]
      have e3 : (x.1 64 7 + 1) * x.1 1 2 = x.1 64 7 * x.1 1 2 + x.1 1 2 := by rw [Int.add_mul, Int.one_mul]
      omega
    omega
  have et : (s * x.1 1 2 + l).toNat = s.toNat * nL x + l.toNat := by rw [e, Int.toNat_natCast]
  refine ⟨by omega, by omega, et, ?_⟩
  rw [et]
  exact st _ _ (by omega) (by omega)
theorem mc_step {x : KS} (m : mcX x) {s l : Int} (h0 : 0 ≤ s) (h1 : s < x.1 64 7) (l0 : 0 ≤ l) (l1 : l < (nL x : Int)) : (F_a_step x s l).1 = x.2 66 (s.toNat * nL x + l.toNat) ∧ mst x s.toNat l.toNat (F_a_step x s l).1 ∧ -1000 ≤ (F_a_step x s l).1 := by
  obtain ⟨i0, i1, i2, i3⟩ := mc_ix m h0 h1 l0 l1
  have ev : (F_a_step x s l).1 = x.2 66 (s.toNat * nL x + l.toNat) := by
    unfold F_a_step
    rw [if_neg (by omega), if_neg (by omega), if_neg (by omega), if_neg (by omega), i2]
  rw [i2] at i3
  rw [ev]
  exact ⟨rfl, i3, (m.2.2.2.2.1.2.2 _).1⟩
/-- the STATES along a list -/
def plc (x : KS) (P : Nat → Int) (u : List Int) : Prop := ∀ j, j ≤ u.length → (0 ≤ P j ∧ P j < x.1 64 7) ∧ lsx (lS x) (nR x) (u.take j) (stS x (P j).toNat)
theorem plc_app {x : KS} {P : Nat → Int} {u v : List Int} (h : plc x P (u ++ v)) : plc x P u := by
  intro j hj
  have := h j (by rw [List.length_append]; omega)
  rw [List.take_append_of_le_length hj] at this
  exact this
theorem plc_on {x : KS} {P : Nat → Int} {u : List Int} {l s : Int} (h : plc x P u) (hs0 : 0 ≤ s) (hs : mst x (P u.length).toNat l.toNat s) (l0 : 0 ≤ l) : plc x (iU P (u.length + 1) s) (u ++ [l]) := by
  intro j hj
  rw [List.length_append, List.length_singleton] at hj
  by_cases c : j = u.length + 1
  · subst c
    rw [iU_s, List.take_of_length_le (by rw [List.length_append, List.length_singleton]; omega)]
    obtain ⟨a1, _, a3⟩ := hs.2 hs0
    refine ⟨⟨hs0, a1⟩, au_next (p := stS x (P u.length).toNat) ?_ (by rw [Int.toNat_of_nonneg l0] at a3; exact a3)⟩
    have := (h u.length (Nat.le_refl _)).2
    rw [List.take_length] at this
    exact this
  · rw [iU_n c, List.take_append_of_le_length (by omega)]
    exact h j (by omega)
theorem plc_cg {x : KS} {P Q : Nat → Int} {u : List Int} (h : plc x P u) (e : ∀ j, j ≤ u.length → Q j = P j) : plc x Q u := fun j hj => by rw [e j hj]; exact h j hj
/-- what is to be read, its first LETTER first -/
def rL (x : KS) : List Int := (tk (x.2 71) (x.1 70 4).toNat).reverse
/-- between two turns -/
def roI (x y : KS) (w : Nat) (src : List Int) : Prop := sM x y ∧ (0 ≤ y.1 w 1 ∧ 0 ≤ y.1 70 4 ∧ y.1 w 1 + y.1 70 4 ≤ 60) ∧ okL (nL x) (wS y w) ∧ okL (nL x) (rL y) ∧ plc x (y.2 72) (wS y w) ∧ noL (lS x) (nR x) (wS y w) ∧ rch (lS x) (rS x) (nR x) src (wS y w ++ rL y)
theorem rL_len (y : KS) : (rL y).length = (y.1 70 4).toNat := by unfold rL; rw [List.length_reverse, tk_len]
theorem rL_pop {y : KS} (h : 0 < y.1 70 4) : rL y = y.2 71 (y.1 70 4 - 1).toNat :: rL (kS y 70 4 (y.1 70 4 - 1)) := by
  have e : (y.1 70 4).toNat = (y.1 70 4 - 1).toNat + 1 := by omega
  unfold rL
  rw [kS_s, kS_2, e, tk_s, List.reverse_append]
  rfl
/-- RIGHT sides come ahead of what is to be read -/
theorem F_r_replace_s_x {w : Nat} (hw : kW w = true) {r : Nat} {G : Nat} : ∀ (n : Nat) (y : KS) (i : Int), -1 ≤ i → i < (G : Int) → i + 1 < n → 0 ≤ y.1 70 4 →
    (F_r_replace_s w n 0 y (r : Int) i).1 = 1 ∧ sM y (F_r_replace_s w n 0 y (r : Int) i).2 ∧ ksame [(70, 4)] [71] y (F_r_replace_s w n 0 y (r : Int) i).2 ∧ (F_r_replace_s w n 0 y (r : Int) i).2.1 70 4 = y.1 70 4 + i + 1 ∧ rL (F_r_replace_s w n 0 y (r : Int) i).2 = tk (fun j => (F_u_signAt y (r : Int) 0 (j : Int)).1) (i + 1).toNat ++ rL y := by
  intro n
  induction n with
  | zero => intro y i h1 h2 h3; exfalso; omega
  | succ n ih =>
    intro y i h1 h2 h3 h4
    rw [F_r_replace_e0]
    by_cases c : i < 0
    · rw [if_pos c]
      have e : i = -1 := by omega
      subst e
      refine ⟨rfl, sM_rf _, km_rf _ _ _, ?_, rfl⟩
      show y.1 70 4 = y.1 70 4 + -1 + 1
      omega
    · rw [if_neg c]
      have ks : sM y (kS y 70 4 (y.1 70 4 + 1)) := sM_s (sM_rf _) (by unfold sMs; decide)
      have kk : sM y (kA (kS y 70 4 (y.1 70 4 + 1)) 71 (y.1 70 4).toNat (F_u_signAt (kS y 70 4 (y.1 70 4 + 1)) (r : Int) 0 i).1) := sM_a ks (by unfold sMa; decide)
      have hi := ih (kA (kS y 70 4 (y.1 70 4 + 1)) 71 (y.1 70 4).toNat (F_u_signAt (kS y 70 4 (y.1 70 4 + 1)) (r : Int) 0 i).1) (i + -1) (by omega) (by omega) (by omega) (by show 0 ≤ (kS y 70 4 (y.1 70 4 + 1)).1 70 4; rw [kS_s]; omega)
      refine ⟨hi.1, sM_tr kk hi.2.1, km_tr (km_a (by decide) (km_s (by decide) (km_rf _ _ _))) hi.2.2.1, ?_, ?_⟩
      · rw [hi.2.2.2.1]
        show (kS y 70 4 (y.1 70 4 + 1)).1 70 4 + (i + -1) + 1 = _
        rw [kS_s]
        omega
      · rw [hi.2.2.2.2]
        have sg2 : ∀ (z : KS) (k : Nat), sM y z → tk (fun j => (F_u_signAt z (r : Int) 0 (j : Int)).1) k = tk (fun j => (F_u_signAt y (r : Int) 0 (j : Int)).1) k := fun z k hz2 => tk_cg fun j _ => sM_sg hz2 _ _ _
        rw [sg2 _ _ kk, sM_sg ks]
        have e1 : (i + 1).toNat = (i + -1 + 1).toNat + 1 := by omega
        have e2 : (((i + -1 + 1).toNat : Nat) : Int) = i := by omega
        rw [e1, tk_s]
        show _ = (tk _ _ ++ [(F_u_signAt y (r : Int) 0 (((i + -1 + 1).toNat : Nat) : Int)).1]) ++ _
        rw [e2, List.append_assoc]
        congr 1
        unfold rL
        rw [kA_1, kS_s, kA_s, kS_2]
        have e3 : (y.1 70 4 + 1).toNat = (y.1 70 4).toNat + 1 := by omega
        rw [e3, tk_s, iU_s, tk_iU (Nat.le_refl _), List.reverse_append]
        rfl
