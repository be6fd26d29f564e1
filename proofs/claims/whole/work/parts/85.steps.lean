-- deps: 30 31 32 33 34 35 36 37 38 39 40 70 71 72 73 74 75 76 77 78 79 80 81 82 83 84
/-! THE MACHINE's STATES and steps as lists -/
theorem sfn_cg {x y : KS} (h1 : y.1 1 = x.1 1) (h2 : y.2 2 = x.2 2) (h3 : y.2 3 = x.2 3) (v k : Int) : sfn y v k = sfn x v k := by
  unfold sfn
  rw [F_s_firstOf_cg h1 h3, F_s_powerOf_cg h1 h2]
theorem inL_cg {x y : KS} (h1 : y.1 58 6 = x.1 58 6) (h2 : y.2 59 = x.2 59) (w : Int) : inL y w = inL x w := by unfold inL; rw [h1, h2]
theorem inN_cg {x y : KS} (h1 : y.1 64 7 = x.1 64 7) (h2 : y.2 65 = x.2 65) (w : Int) : inN y w = inN x w := by unfold inN; rw [h1, h2]
theorem enA_cg {x y : KS} (h1 : y.1 1 = x.1 1) (h2 : y.2 2 = x.2 2) (h3 : y.2 3 = x.2 3) (h58 : y.1 58 6 = x.1 58 6) (h59 : y.2 59 = x.2 59) (h7 : y.1 64 7 = x.1 64 7) (h65 : y.2 65 = x.2 65) (g v r : Int) : enA y g v r = enA x g v r := by
  unfold enA
  simp only [sfn_cg h1 h2 h3, inL_cg h58 h59, inN_cg h7 h65, h58, h59, h7, h65]
theorem ruR_cg {x y : KS} (h58 : y.1 58 6 = x.1 58 6) (h59 : y.2 59 = x.2 59) (h60 : y.2 60 = x.2 60) (h61 : y.2 61 = x.2 61) (h62 : y.2 62 = x.2 62) (h63 : y.2 63 = x.2 63) (ru : ruR x) : ruR y := by
  unfold ruR
  rw [h58, h59, h60, h61, h62, h63]
  exact ru
def stG (x : KS) (i : Nat) : Nat := (F_s_spanOf x (x.2 65 i)).1.toNat
def stB (x : KS) (i : Nat) : Nat := (x.2 65 i - x.2 3 (stG x i)).toNat
/-- the LETTERS of a STATE -/
def stS (x : KS) (i : Nat) : List Int := dl (nL x) (stG x i) (stB x i)
/-- each number is the first of its length and some more, and that length has one more below the longest -/
def nmX (x : KS) : Prop := ∀ w, inN x w → ∃ k b : Nat, w = x.2 3 k + (b : Int) ∧ b < nL x ^ k ∧ (k : Int) < x.1 1 3
theorem nmX_st {x : KS} (sx : scX x) (nx : nmX x) {i : Nat} (hi : (i : Int) < x.1 64 7) : x.2 65 i = x.2 3 (stG x i) + (stB x i : Int) ∧ stB x i < nL x ^ stG x i ∧ (stG x i : Int) < x.1 1 3 ∧ (F_s_spanOf x (x.2 65 i)).1 = (stG x i : Int) := by
  obtain ⟨k, b, e, hb, hk⟩ := nx _ ⟨i, hi, rfl⟩
  have f0 : ∀ j : Nat, (j : Int) ≤ x.1 1 3 → 0 ≤ x.2 3 j := fun j hj => by rw [sc_gsm sx j (by omega)]; omega
  have m := sc_first_mono sx (k + 1) ((x.1 1 3).toNat - k) (by omega)
  rw [show k + 1 + ((x.1 1 3).toNat - k) = (x.1 1 3 + 1).toNat by omega, sx.2.2.2.1 k (by omega), scX_pow sx k (by omega)] at m
  obtain ⟨G, B, hG, g1, ev, hB⟩ := F_s_spanOf_x sx (v := x.2 65 i) (by rw [e]; have := f0 k (by omega); omega) (by rw [e]; omega)
  obtain ⟨e1, e2⟩ := sc_one sx (by omega) g1 hb hB (e.symm.trans ev)
  have hg : stG x i = G := by unfold stG; rw [hG]; rfl
  have hbb : stB x i = B := by unfold stB; rw [hg, ev]; omega
  rw [hg, hbb]
  exact ⟨ev, hB, by omega, hG⟩
/-- while the steps are laid -/
def spI (x y : KS) (i c : Nat) : Prop := ksame [] [66] x y ∧ ∀ j l : Nat, (j < i ∨ (j = i ∧ l < c)) → (j : Int) < x.1 64 7 → l < nL x → enA x ((stG x j : Int) + 1) ((stB x j : Int) * (nL x : Int) + (l : Int)) (y.2 66 (j * nL x + l))
theorem nl_ne {n i j c l : Nat} (hc : c < n) (hl : l < n) (h : j < i ∨ (j = i ∧ l < c)) : j * n + l ≠ i * n + c := by
  rcases h with h | ⟨h, h2⟩
  · have := Nat.mul_le_mul_right n h
    rw [Nat.succ_mul] at this
    omega
  · subst h; omega
theorem F_a_build_s_2 {x : KS} (sx : scX x) (ru : ruR x) {q : Int} (so : soI x q) (nm : nmI x) (nx : nmX x) : ∀ n : Nat,
    (∀ (y : KS) (i : Nat), spI x y i 0 → (i : Int) ≤ x.1 64 7 → (320 - i) * 6 < n → spI x (F_a_build_s n 2 y (i : Int) 0 0 0).2 (x.1 64 7).toNat 0) ∧
    (∀ (y : KS) (i c : Nat), spI x y i c → (i : Int) < x.1 64 7 → c ≤ nL x → (320 - i) * 6 - c - 1 < n → spI x (F_a_build_s n 3 y (i : Int) (stG x i : Int) ((stB x i : Int) * (nL x : Int)) (c : Int)).2 (x.1 64 7).toNat 0) := by
  have hn := nL_b sx
  have ni := nL_i sx
  have l3 := sx.1.2.1
  have n7 := nm.1
  intro n
  induction n with
  | zero => exact ⟨fun _ _ _ _ h => by omega, fun _ _ _ _ _ _ h => by omega⟩
  | succ n ih =>
    refine ⟨fun y i sp hi hf => ?_, fun y i c sp hi hc hf => ?_⟩
    · have e7 : y.1 64 7 = x.1 64 7 := sp.1.1 64 7 (by decide)
      have e1 : y.1 1 = x.1 1 := funext fun j => sp.1.1 1 j (by simp)
      have e3 : y.2 3 = x.2 3 := sp.1.2 3 (by decide)
      have e65 : y.2 65 = x.2 65 := sp.1.2 65 (by decide)
      rw [F_a_build_e2, e7, e65, Int.toNat_natCast, e1, F_s_spanOf_cg e1 e3]
      by_cases c : x.1 64 7 ≤ (i : Int)
      · rw [if_pos c]
        have e : i = (x.1 64 7).toNat := by omega
        rw [← e]
        exact sp
      · rw [if_neg c]
        obtain ⟨s1, s2, s3, s4⟩ := nmX_st sx nx (i := i) (by omega)
        rw [s4, F_s_firstOf_cg e1 e3, F_s_firstOf_v (by omega) (by omega), Int.toNat_natCast, s1, ← ni]
        rw [show x.2 3 (stG x i) + (stB x i : Int) - x.2 3 (stG x i) = (stB x i : Int) by omega]
        exact ih.2 y i 0 ⟨sp.1, fun j l h => sp.2 j l (by omega)⟩ (by omega) (by omega) (by omega)
    · have e7 : y.1 64 7 = x.1 64 7 := sp.1.1 64 7 (by decide)
      have e1 : y.1 1 = x.1 1 := funext fun j => sp.1.1 1 j (by simp)
      rw [F_a_build_e3, e1, ← ni]
      by_cases cc : (nL x : Int) ≤ (c : Int)
      · rw [if_pos cc]
        refine ih.1 y (i + 1) ⟨sp.1, fun j l h hj hl => sp.2 j l ?_ hj hl⟩ (by omega) (by omega)
        by_cases cj : j = i
        · exact Or.inr ⟨cj, by omega⟩
        · exact Or.inl (by omega)
      · rw [if_neg cc]
        obtain ⟨s1, s2, s3, s4⟩ := nmX_st sx nx (i := i) (by omega)
        have ruy : ruR y := ruR_cg (sp.1.1 58 6 (by decide)) (sp.1.2 59 (by decide)) (sp.1.2 60 (by decide)) (sp.1.2 61 (by decide)) (sp.1.2 62 (by decide)) (sp.1.2 63 (by decide)) ru
        have soy : soI y q := soI_of sp.1 (by decide) (by decide) so
        have nmy : nmI y := by unfold nmI; rw [e7, sp.1.2 65 (by decide)]; exact nm
        have en := F_a_endOf_x ruy soy nmy (g := (stG x i : Int) + 1) ((stB x i : Int) * (nL x : Int) + (c : Int)) (by omega) (by omega)
        rw [enA_cg e1 (sp.1.2 2 (by decide)) (sp.1.2 3 (by decide)) (sp.1.1 58 6 (by decide)) (sp.1.2 59 (by decide)) e7 (sp.1.2 65 (by decide))] at en
        have ei : ((i : Int) * (nL x : Int) + (c : Int)).toNat = i * nL x + c := by
          rw [show (i : Int) * (nL x : Int) + (c : Int) = ((i * nL x + c : Nat) : Int) by push_cast; rfl, Int.toNat_natCast]
        rw [ei]
        refine ih.2 (kA y 66 (i * nL x + c) _) i (c + 1) ⟨km_a (by decide) sp.1, fun j l h hj hl => ?_⟩ hi (by omega) (by omega)
        show enA x _ _ (iU (y.2 66) (i * nL x + c) _ (j * nL x + l))
        by_cases cj : j = i ∧ l = c
        · obtain ⟨f1, f2⟩ := cj
          subst f1; subst f2
          rw [iU_s]
          exact en
        · rw [iU_n (nl_ne (by omega) hl (by omega))]
          exact sp.2 j l (by omega) hj hl
def nR (x : KS) : Nat := (x.1 58 6).toNat
theorem bgP_cg {x y : KS} (h1 : y.1 1 = x.1 1) (h2 : y.2 2 = x.2 2) (h3 : y.2 3 = x.2 3) (h58 : y.1 58 6 = x.1 58 6) (h59 : y.2 59 = x.2 59) (h60 : y.2 60 = x.2 60) (d k w : Int) : bgP y d k w = bgP x d k w := by
  unfold bgP
  simp only [F_u_numberOfBeginning_cg h1 h2 h3 h59 h60, h58, h60]
theorem bgP_l {x : KS} (sx : scX x) (ru : ruR x) (re : ruE x) {d k0 w : Int} (h : bgP x d k0 w) : ∃ k b : Nat, w = x.2 3 k + (b : Int) ∧ b < nL x ^ k ∧ (k : Int) < x.1 1 3 ∧ bgn (lS x) (nR x) (dl (nL x) k b) := by
  have hn := nL_b sx
  rcases h with h | ⟨r, k, _, hr, h1, hk, hw⟩
  · exact ⟨0, 0, by rw [h, sx.1.2.2.2.2]; rfl, by rw [Nat.pow_zero]; exact Nat.one_pos, by have := sc_long sx; omega, Or.inl rfl⟩
  · obtain ⟨G, C, g1, g2, g3, g4, hv⟩ := F_u_numberOfBeginning_v sx ru re hr
    obtain ⟨v1, v2⟩ := hv k (by omega)
    have hlt : C / nL x ^ (G - k) < nL x ^ k := by
      rw [Nat.div_lt_iff_lt_mul (Nat.pow_pos (by omega)), ← Nat.pow_add, show k + (G - k) = G by omega]
      exact g2
    refine ⟨k, C / nL x ^ (G - k), by rw [hw, v1], hlt, by omega, Or.inr ⟨r, _, by unfold nR; omega, ?_, v2⟩⟩
    intro e
    have := congrArg List.length e
    rw [dl_len] at this
    simp only [List.length_nil] at this
    omega
theorem bgn_P {x : KS} (sx : scX x) (ru : ruR x) (re : ruE x) {p : List Int} (h : bgn (lS x) (nR x) p) : bgP x (x.1 58 6) 1 (x.2 3 p.length + (vl (nL x) p : Int)) ∧ okL (nL x) p ∧ (p.length : Int) < x.1 1 3 := by
  have hn := nL_b sx
  rcases h with h | ⟨r, e, hr, he, hL⟩
  · subst h
    exact ⟨Or.inl (by rw [List.length_nil, sx.1.2.2.2.2]; rfl), fun l hl => absurd hl List.not_mem_nil, by have := sc_long sx; rw [List.length_nil]; omega⟩
  · have hr' : (r : Int) < x.1 58 6 := by unfold nR at hr; omega
    obtain ⟨G, C, g1, g2, g3, g4, hv⟩ := F_u_numberOfBeginning_v sx ru re hr'
    have hlen := congrArg List.length hL
    rw [g4, dl_len, List.length_append] at hlen
    have he1 : 1 ≤ e.length := List.length_pos_iff.mpr he
    have hok : okL (nL x) p := fun l hl => dl_ok hn.1 G C l (by rw [← g4, hL]; exact List.mem_append_left _ hl)
    refine ⟨?_, hok, by omega⟩
    obtain ⟨v1, v2⟩ := hv p.length (by omega)
    rw [hL] at v2
    have hp := (List.append_inj v2 (by rw [dl_len])).1
    by_cases c : p.length = 0
    · have : p = [] := List.length_eq_zero_iff.mp c
      subst this
      exact Or.inl (by rw [List.length_nil, sx.1.2.2.2.2]; rfl)
    · refine Or.inr ⟨r, p.length, Or.inl hr', hr', by omega, by omega, ?_⟩
      rw [v1]
      have hlt : C / nL x ^ (G - p.length) < nL x ^ p.length := by
        rw [Nat.div_lt_iff_lt_mul (Nat.pow_pos (by omega)), ← Nat.pow_add, show p.length + (G - p.length) = G by omega]
        exact g2
      have := vl_dl hn.1 _ _ hlt
      rw [← hp] at this
      rw [this]
/-- a LETTER's step -/
def mst (x : KS) (i l : Nat) (s : Int) : Prop := (s < 0 → ∃ r : Nat, (r : Int) < x.1 58 6 ∧ s = -1 - (r : Int) ∧ ∃ a, stS x i ++ [(l : Int)] = a ++ lS x r) ∧ (0 ≤ s → s < x.1 64 7 ∧ (∀ r : Nat, r < nR x → ∀ a, stS x i ++ [(l : Int)] ≠ a ++ lS x r) ∧ lsx (lS x) (nR x) (stS x i ++ [(l : Int)]) (stS x s.toNat))
/-- THE MACHINE reads as it should -/
def maL (x : KS) : Prop := nmI x ∧ nmX x ∧ 1 ≤ x.1 64 7 ∧ stS x 0 = [] ∧ (∀ i : Nat, (i : Int) < x.1 64 7 → bgn (lS x) (nR x) (stS x i)) ∧ (∀ p, bgn (lS x) (nR x) p → ∃ i : Nat, (i : Int) < x.1 64 7 ∧ stS x i = p) ∧ (∀ i l : Nat, (i : Int) < x.1 64 7 → l < nL x → mst x i l (x.2 66 (i * nL x + l)))
theorem suf_one {n g k B : Nat} (hk : k ≤ g) {a u : List Int} (hu : u.length = k) (h : dl n g B = a ++ u) : u = dl n k (B % n ^ k) := by
  obtain ⟨b, e⟩ := dl_suf n hk B
  rw [e] at h
  have h1 := congrArg List.length h
  rw [List.length_append, List.length_append, dl_len, hu] at h1
  exact ((List.append_inj h (by omega)).2).symm
theorem lS_ne {x : KS} (sx : scX x) (ru : ruR x) (re : ruE x) {r : Nat} (hr : (r : Int) < x.1 58 6) : lS x r ≠ [] := by
  intro e
  have rv := ruE_V sx re r hr
  have hl : (lS x r).length = (x.2 60 r).toNat := by unfold lS; rw [List.length_map, List.length_range]
  rw [e, List.length_nil] at hl
  omega
theorem mst_of {x : KS} (sx : scX x) (ru : ruR x) (re : ruE x) (nm : nmI x) (nx : nmX x) (s0 : stS x 0 = []) (h1 : 1 ≤ x.1 64 7) (hb : ∀ i : Nat, (i : Int) < x.1 64 7 → bgn (lS x) (nR x) (stS x i)) (hN : ∀ w, bgP x (x.1 58 6) 1 w → inN x w) {i l : Nat} (hi : (i : Int) < x.1 64 7) (hl : l < nL x) {s : Int} (h : enA x ((stG x i : Int) + 1) ((stB x i : Int) * (nL x : Int) + (l : Int)) s) : mst x i l s := by
  have hn := nL_b sx
  obtain ⟨s1, s2, s3, s4⟩ := nmX_st sx nx hi
  have eB : (stB x i : Int) * (nL x : Int) + (l : Int) = ((stB x i * nL x + l : Nat) : Int) := by push_cast; rfl
  have eg : (stG x i : Int) + 1 = ((stG x i + 1 : Nat) : Int) := by push_cast; rfl
  rw [eB, eg] at h
  have ed : stS x i ++ [(l : Int)] = dl (nL x) (stG x i + 1) (stB x i * nL x + l) := by
    show _ = dl (nL x) (stG x i) ((stB x i * nL x + l) / nL x) ++ [(((stB x i * nL x + l) % nL x : Nat) : Int)]
    rw [Nat.mul_comm (stB x i), Nat.mul_add_div (by omega), Nat.div_eq_of_lt hl, Nat.mul_add_mod, Nat.mod_eq_of_lt hl]
    rfl
  rw [show ((stG x i + 1 : Nat) : Int) = ((stG x i + 1 : Nat) : Int) from rfl] at h
  have hg : ((stG x i + 1 : Nat) : Int) ≤ x.1 1 3 := by omega
  generalize hB : stB x i * nL x + l = B at h ed
  generalize hG : stG x i + 1 = g at h ed hg
  refine ⟨fun hs => ?_, fun hs => ?_⟩
  · obtain ⟨k, k1, k2, k3, k4, _⟩ := h.1 hs
    refine ⟨(-1 - s).toNat, by omega, by omega, ?_⟩
    have ek : k = ((k.toNat : Nat) : Int) := by omega
    rw [ek] at k4
    have := (inL_suf sx ru re hg (by omega) (r := (-1 - s).toNat) (by omega)).mp k4
    obtain ⟨a, ha⟩ := dl_suf (nL x) (g := g) (k := k.toNat) (by omega) B
    exact ⟨a, by rw [ed, ha, this]⟩
  · obtain ⟨h2, h3⟩ := h.2 hs
    have noL : ∀ r : Nat, r < nR x → ∀ a, stS x i ++ [(l : Int)] ≠ a ++ lS x r := by
      intro r hr a e
      have hr' : (r : Int) < x.1 58 6 := by unfold nR at hr; omega
      rw [ed] at e
      have hlen := congrArg List.length e
      rw [dl_len, List.length_append] at hlen
      have h0 : 1 ≤ (lS x r).length := List.length_pos_iff.mpr (lS_ne sx ru re hr')
      have := suf_one (by omega) rfl e
      exact h2 ((lS x r).length : Int) (by omega) (by omega) ⟨r, hr', (inL_suf sx ru re hg (by omega) hr').mpr this⟩
    -- a beginning that ends it has its number among the STATES
    have bg : ∀ a p, dl (nL x) g B = a ++ p → bgn (lS x) (nR x) p → p.length ≤ g ∧ inN x (sfn x (B : Int) (p.length : Int)) := by
      intro a p e hp
      have hlen := congrArg List.length e
      rw [dl_len, List.length_append] at hlen
      refine ⟨by omega, ?_⟩
      have := hN _ (bgn_P sx ru re hp).1
      have e2 := suf_one (by omega) rfl e
      rw [sfn_v sx hg (by omega)]
      have e3 : vl (nL x) p = B % nL x ^ p.length := by
        have := vl_dl hn.1 p.length (B % nL x ^ p.length) (Nat.mod_lt _ (Nat.pow_pos (by omega)))
        rw [← e2] at this
        exact this
      rw [← e3]
      exact this
    rcases h3 with ⟨k, k1, k2, k3, k4, k5⟩ | ⟨e, k5⟩
    · refine ⟨k3, noL, ?_⟩
      have ek : k = ((k.toNat : Nat) : Int) := by omega
      rw [ek] at k4
      rw [sfn_v sx hg (by omega)] at k4
      obtain ⟨t1, t2, t3, t4⟩ := nmX_st sx nx (i := s.toNat) (by omega)
      obtain ⟨e1, e2⟩ := sc_one sx (by omega) (by omega) t2 (Nat.mod_lt _ (Nat.pow_pos (by omega))) (t1.symm.trans k4)
      have es : stS x s.toNat = dl (nL x) k.toNat (B % nL x ^ k.toNat) := by unfold stS; rw [e1, e2]
      obtain ⟨a, ha⟩ := dl_suf (nL x) (g := g) (k := k.toNat) (by omega) B
      rw [ed]
      refine ⟨⟨a, by rw [es]; exact ha⟩, hb _ (by omega), fun b p hp hq => ?_⟩
      rw [es, dl_len]
      obtain ⟨q1, q2⟩ := bg b p hp hq
      by_cases c : p.length ≤ k.toNat
      · exact c
      · exact absurd q2 (k5 _ (by omega) (by omega))
    · subst e
      refine ⟨by omega, noL, ?_⟩
      rw [ed, show (0 : Int).toNat = 0 from rfl, s0]
      refine ⟨⟨dl (nL x) g B, (List.append_nil _).symm⟩, bgn_nil _ _, fun b p hp hq => ?_⟩
      obtain ⟨q1, q2⟩ := bg b p hp hq
      by_cases c : p.length ≤ 0
      · exact c
      · exact absurd q2 (k5 _ (by omega) (by omega))
theorem F_a_build_L {x : KS} (sx : scX x) (ru : ruR x) (re : ruE x) {q : Int} (so : soI x q) : maL (F_a_build x).2 := by
  obtain ⟨z, m, hm, hz, kz, nm, hw⟩ := F_a_build_1 sx ru re
  have e1 : z.1 1 = x.1 1 := funext fun j => kz.1 1 j (by simp)
  have cg := bgP_cg e1 (kz.2 2 (by decide)) (kz.2 3 (by decide)) (kz.1 58 6 (by decide)) (kz.2 59 (by decide)) (kz.2 60 (by decide))
  have sz : scX z := scX_same e1 (kz.2 2 (by decide)) (kz.2 3 (by decide)) sx
  have ruz : ruR z := ruR_cg (kz.1 58 6 (by decide)) (kz.2 59 (by decide)) (kz.2 60 (by decide)) (kz.2 61 (by decide)) (kz.2 62 (by decide)) (kz.2 63 (by decide)) ru
  have rez : ruE z := ruE_of kz (by decide) (by decide) (by decide) (by decide) (by decide) (by decide) (by decide) (by decide) (by decide) re
  have soz : soI z q := soI_of kz (by decide) (by decide) so
  have hwz : ∀ w, inN z w ↔ bgP z (z.1 58 6) 1 w := fun w => by rw [cg, kz.1 58 6 (by decide)]; exact hw w
  have nxz : nmX z := fun w h => by obtain ⟨k, b, q1, q2, q3, _⟩ := bgP_l sz ruz rez ((hwz w).mp h); exact ⟨k, b, q1, q2, q3⟩
  have sp := (F_a_build_s_2 sz ruz soz nm nxz m).1 z 0 ⟨km_rf _ _ _, fun j l h => by omega⟩ nm.1.1 (by omega)
  rw [show ((0 : Nat) : Int) = 0 from rfl, ← hz] at sp
  generalize (F_a_build x).2 = y at sp
  have k := sp.1
  have y1 : y.1 1 = z.1 1 := funext fun j => k.1 1 j (by simp)
  have y7 : y.1 64 7 = z.1 64 7 := k.1 64 7 (by decide)
  have y65 := k.2 65 (by decide)
  have y2 := k.2 2 (by decide)
  have y3 := k.2 3 (by decide)
  have y58 : y.1 58 6 = z.1 58 6 := k.1 58 6 (by decide)
  have sy : scX y := scX_same y1 y2 y3 sz
  have ruy : ruR y := ruR_cg y58 (k.2 59 (by decide)) (k.2 60 (by decide)) (k.2 61 (by decide)) (k.2 62 (by decide)) (k.2 63 (by decide)) ruz
  have rey : ruE y := ruE_of k (by decide) (by decide) (by decide) (by decide) (by decide) (by decide) (by decide) (by decide) (by decide) rez
  have nmy : nmI y := by unfold nmI; rw [y7, y65]; exact nm
  have hwy : ∀ w, inN y w ↔ bgP y (y.1 58 6) 1 w := fun w => by
    rw [inN_cg y7 y65, bgP_cg y1 y2 y3 y58 (k.2 59 (by decide)) (k.2 60 (by decide)), y58]
    exact hwz w
  have nxy : nmX y := fun w h => by obtain ⟨k, b, q1, q2, q3, _⟩ := bgP_l sy ruy rey ((hwy w).mp h); exact ⟨k, b, q1, q2, q3⟩
  have hn := nL_b sy
  obtain ⟨j0, hj0, ej0⟩ := (hwy 0).mpr (Or.inl rfl)
  have h1 : 1 ≤ y.1 64 7 := by omega
  have num : ∀ (i k b : Nat), (i : Int) < y.1 64 7 → y.2 65 i = y.2 3 k + (b : Int) → b < nL y ^ k → (k : Int) ≤ y.1 1 3 → stS y i = dl (nL y) k b := by
    intro i k b hi e hb hk
    obtain ⟨t1, t2, t3, t4⟩ := nmX_st sy nxy hi
    obtain ⟨e1, e2⟩ := sc_one sy (by omega) hk t2 hb (t1.symm.trans e)
    unfold stS
    rw [e1, e2]
  have hbg : ∀ i : Nat, (i : Int) < y.1 64 7 → bgn (lS y) (nR y) (stS y i) := by
    intro i hi
    obtain ⟨k, b, q1, q2, q3, q4⟩ := bgP_l sy ruy rey ((hwy _).mp ⟨i, hi, rfl⟩)
    rw [num i k b hi q1 q2 (by omega)]
    exact q4
  have s0 : stS y 0 = [] := by
    obtain ⟨t1, t2, t3, t4⟩ := nmX_st sy nxy (i := 0) (by omega)
    have f0 : 0 ≤ y.2 3 (stG y 0) := by rw [sc_gsm sy _ (by omega)]; omega
    have ez : y.2 65 0 = 0 := by
      by_cases c : j0 = 0
      · rw [c] at ej0; exact ej0
      · have := nmy.2 0 j0 (by omega) hj0
        omega
    rw [num 0 0 0 (by omega) (by rw [ez, sy.1.2.2.2.2]; rfl) (by rw [Nat.pow_zero]; exact Nat.one_pos) (by have := sy.1.2.1; omega)]
    rfl
  have ob : ∀ p, bgn (lS y) (nR y) p → ∃ i : Nat, (i : Int) < y.1 64 7 ∧ stS y i = p := by
    intro p hp
    obtain ⟨b1, b2, b3⟩ := bgn_P sy ruy rey hp
    obtain ⟨i, hi, ei⟩ := (hwy _).mpr b1
    refine ⟨i, hi, ?_⟩
    rw [num i p.length (vl (nL y) p) hi ei ((vl_lt p.length p rfl b2).resolve_right (by omega)) (by omega)]
    exact dl_vl p.length p rfl b2
  refine ⟨nmy, nxy, h1, s0, hbg, ob, fun i l hi hl => ?_⟩
  have nl : nL y = nL z := by unfold nL; rw [y1]
  have en := sp.2 i l (Or.inl (by rw [y7] at hi; omega)) (by rw [← y7]; exact hi) (by rw [← nl]; exact hl)
  have eg : stG z i = stG y i := by unfold stG; rw [y65, F_s_spanOf_cg y1 y3]
  have eb : stB z i = stB y i := by unfold stB; rw [y65, y3, eg]
  rw [← enA_cg y1 y2 y3 y58 (k.2 59 (by decide)) y7 y65, eg, eb, ← nl] at en
  exact mst_of sy ruy rey nmy nxy s0 h1 hbg (fun w h => (hwy w).mpr h) hi hl en
