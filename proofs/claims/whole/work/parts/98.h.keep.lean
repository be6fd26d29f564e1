-- deps: 98.e 98.f
/-! What keeps the Rewriter ready, and STRINGS good -/
def rSs (p : Nat × Nat) : Prop := sMs p ∧ p ≠ (70, 5) ∧ p.1 ≠ 101
def rAs (a : Nat) : Prop := sMa a ∧ a ∉ [71, 72, 89, 91, 93, 94, 95, 96, 97, 98, 99, 100, 102, 103, 104, 105]
theorem rOK_fr {S : List (Nat × Nat)} {A : List Nat} {x y : KS} (f : ksame S A x y) (hS : ∀ p ∈ S, rSs p) (hA : ∀ a ∈ A, rAs a) (ok : rOK x) : rOK y := by
  obtain ⟨mx, sv, pp, r71, gk⟩ := ok
  have sm : sM x y := sM_of f (fun p hp => (hS p hp).1) (fun a ha => (hA a ha).1)
  have nA : ∀ q, q ∈ [71, 72, 89, 91, 93, 94, 95, 96, 97, 98, 99, 100, 102, 103, 104, 105] → q ∉ A := fun q hq ha => (hA q ha).2 hq
  have n1 : ∀ k, (101, k) ∉ S := fun k hk => (hS _ hk).2.2 rfl
  have e5 : y.1 70 5 = x.1 70 5 := f.1 70 5 (fun hk => (hS _ hk).2.1 rfl)
  refine ⟨mcX_sM sm mx, stV_M sm sv, p72_fr f (nA 72 (by decide)) pp, by rw [f.2 71 (nA 71 (by decide))]; exact r71, fun h5 => ?_⟩
  rw [e5] at h5
  obtain ⟨g, k⟩ := gk h5
  refine ⟨gR0_mv sm (gR0_fr g f sm (n1 9) (fun q hq => nA q ?_)), keI_fr f (n1 4) (n1 9) (nA 102 (by decide)) k⟩
  revert hq
  revert q
  decide
theorem rSs_w {w k : Nat} (hw : kW w = true) : rSs (w, k) := ⟨sMs_w hw, fun e => kW_ne hw (d := 70) rfl (congrArg Prod.fst e), kW_ne hw (d := 101) rfl⟩
theorem rAs_w {w : Nat} (hw : kW w = true) (h : w + 1 < 87) : rAs (w + 1) := by
  refine ⟨sMa_w hw, fun e => ?_⟩
  have h1 : w + 1 ≠ 71 := kR_ne hw rfl
  have h2 : w + 1 ≠ 72 := kR_ne hw rfl
  simp at e
  omega
theorem rOK_w {w : Nat} (hw : kW w = true) (h : w + 1 < 87) {x y : KS} (f : ksame [(w, 1)] [w + 1] x y) (ok : rOK x) : rOK y := rOK_fr f (fun p hp => by rw [List.mem_singleton] at hp; rw [hp]; exact rSs_w hw) (fun p hp => by rw [List.mem_singleton] at hp; rw [hp]; exact rAs_w hw h) ok
theorem wG_eq {x y : KS} {w : Nat} (e1 : y.1 w 1 = x.1 w 1) (e2 : y.2 (w + 1) = x.2 (w + 1)) (e3 : y.1 1 2 = x.1 1 2) (g : wG x w) : wG y w := by
  unfold wG wS nL
  rw [e1, e2, e3]
  exact g
theorem wG_fr {S : List (Nat × Nat)} {A : List Nat} {x y : KS} {w : Nat} (f : ksame S A x y) (h1 : (w, 1) ∉ S) (h2 : w + 1 ∉ A) (h3 : (1, 2) ∉ S) (g : wG x w) : wG y w := wG_eq (f.1 w 1 h1) (f.2 _ h2) (f.1 1 2 h3) g
theorem wG_g {S : List (Nat × Nat)} {A : List Nat} {x y : KS} {w : Nat} (f : gfr S A x y) (l : w + 1 < 87) (h1 : (w, 1) ∉ S) (h2 : w + 1 ∉ A) (h3 : (1, 2) ∉ S) (g : wG x w) : wG y w := wG_eq (f.1 w 1 (by omega) h1) (f.2 _ l h2) (f.1 1 2 (by decide) h3) g
theorem wG_of {x : KS} {w : Nat} {V : List Int} (h : wL x w V) (l : V.length ≤ 60) (r : r03 (x.2 (w + 1))) (ok : okL (nL x) V) : wG x w := ⟨⟨by rw [h.1]; omega, by rw [h.1]; omega⟩, r, by rw [wL_S h]; exact ok⟩
theorem kW_ne1 {w : Nat} (hw : kW w = true) : w ≠ 1 := kW_ne hw rfl
theorem nL_w {w : Nat} (hw : kW w = true) {A : List Nat} {x y : KS} (f : ksame [(w, 1)] A x y) : nL y = nL x := by
  unfold nL
  rw [f.1 1 2 (by intro h9; simp at h9)]
theorem take_G {x : KS} {w q : Nat} (hw : kW w = true) (hq : kW q = true) (ne : w ≠ q) (g : wG x q) (r : r03 (x.2 (w + 1))) (hl : x.1 q 1 ≤ kL w) : wG (F_w_take x w q).2 w ∧ wL (F_w_take x w q).2 w (wS x q) := by
  obtain ⟨h, l⟩ := wL_G g
  have t := F_w_take_x hw hq ne h (by have := h.1; omega)
  exact ⟨wG_of t l (F_w_take_r r g.2.1) (by rw [nL_w hw (F_w_take_fr x w q)]; exact g.2.2), t⟩
theorem wipe_G {x : KS} {w : Nat} (r : r03 (x.2 (w + 1))) : wG (F_w_wipe x w).2 w ∧ wL (F_w_wipe x w).2 w [] := by
  have h : wL (F_w_wipe x w).2 w [] := ⟨kS_s, rfl⟩
  exact ⟨wG_of h (by decide) r (fun l hl => absurd hl List.not_mem_nil), h⟩
theorem app_s_r {w q : Nat} : ∀ (n : Nat) (y : KS) (i : Int), r03 (y.2 (w + 1)) → r03 (y.2 (q + 1)) → r03 ((F_w_append_s w q n 0 y i).2.2 (w + 1)) := by
  intro n
  induction n with
  | zero => intro y i h _; exact h
  | succ n ih =>
    intro y i h1 h2
    rw [F_w_append_e0]
    split
    · exact h1
    · have e1 : r03 ((kA (kS y w 1 (y.1 w 1 + 1)) (w + 1) (y.1 w 1).toNat (y.2 (q + 1) i.toNat)).2 (w + 1)) := by rw [kA_s, kS_2]; exact r03_U h1 (h2 _).1 (h2 _).2
      refine ih _ _ e1 ?_
      by_cases c : q + 1 = w + 1
      · have c2 : q = w := by omega
        subst c2
        exact e1
      · rw [kA_c c, kS_2]; exact h2
theorem append_no {x : KS} {w q : Nat} (h : (kL w : Int) < x.1 w 1 + x.1 q 1) : F_w_append x w q = (0, x) := by
  unfold F_w_append
  rw [if_neg (by omega)]
theorem append_G {x : KS} {w q : Nat} (hw : kW w = true) (hq : kW q = true) (ne : w ≠ q) (hL : kL w = 60) (gw : wG x w) (gq : wG x q) : wG (F_w_append x w q).2 w ∧ (x.1 w 1 + x.1 q 1 ≤ 60 → (F_w_append x w q).1 = 1 ∧ wL (F_w_append x w q).2 w (wS x w ++ wS x q)) ∧ (60 < x.1 w 1 + x.1 q 1 → F_w_append x w q = (0, x)) := by
  obtain ⟨h1, l1⟩ := wL_G gw
  obtain ⟨h2, l2⟩ := wL_G gq
  have no : 60 < x.1 w 1 + x.1 q 1 → F_w_append x w q = (0, x) := fun h => append_no (by rw [hL]; exact h)
  have ys : x.1 w 1 + x.1 q 1 ≤ 60 → (F_w_append x w q).1 = 1 ∧ wL (F_w_append x w q).2 w (wS x w ++ wS x q) := fun h => F_w_append_x hw hq ne h1 h2 (by rw [hL]; have := h1.1; have := h2.1; omega)
  refine ⟨?_, ys, no⟩
  by_cases c : x.1 w 1 + x.1 q 1 ≤ 60
  · have y := (ys c).2
    refine wG_of y (by rw [List.length_append]; have := h1.1; have := h2.1; omega) ?_ (by rw [nL_w hw (F_w_append_fr x w q)]; exact okL_app.mpr ⟨gw.2.2, gq.2.2⟩)
    unfold F_w_append
    rw [if_pos (by rw [hL]; exact c)]
    exact app_s_r _ _ _ gw.2.1 gq.2.1
  · rw [no (by omega)]
    exact gw
theorem run_G {x : KS} (ok : rOK x) {w1 w2 : Nat} (hw1 : kW w1 = true) (hw2 : kW w2 = true) (h60 : kL w2 = 60) (l2 : w2 + 1 < 87) (g1 : wG x w1) (r2 : r03 (x.2 (w2 + 1))) : rOK (F_r_run x w1 w2).2 ∧ wG (F_r_run x w1 w2).2 w2 ∧ (∀ w, kW w = true → w + 1 < 87 → w ≠ w2 → wG x w → wG (F_r_run x w1 w2).2 w) ∧ (F_r_run x w1 w2).1 = 1 := by
  obtain ⟨k1, k2, k3, V, v1, v2, v3, v4, v5⟩ := rOK_run ok hw1 hw2 h60 l2 g1 r2
  have f := F_r_run_fr x w1 w2
  have e2 : (F_r_run x w1 w2).2.1 1 2 = x.1 1 2 := f.1 1 2 (by decide) (by intro h9; simp at h9)
  refine ⟨k1, wG_of v1 v3 k2 (by unfold nL; rw [e2]; exact v2), fun w hw l ne g => wG_g f l ?_ ?_ (by intro h9; simp at h9) g, k3⟩
  · intro h9
    simp only [List.mem_cons, List.not_mem_nil, or_false, Prod.mk.injEq] at h9
    omega
  · intro h9
    have h1 : w + 1 ≠ 71 := kR_ne hw rfl
    have h2 : w + 1 ≠ 72 := kR_ne hw rfl
    simp only [List.mem_cons, List.not_mem_nil, or_false] at h9
    omega
theorem r03_R {f : Nat → Int} (h : r03 f) : ∀ j : Nat, iR (f j) := fun j => by have := h j; unfold iR; omega
