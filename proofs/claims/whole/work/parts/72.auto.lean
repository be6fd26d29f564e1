-- deps: 02 70 71
/-! reading a list with the beginnings of the LEFT sides -/
/-- a beginning of a LEFT side that is not all of it, or nothing -/
def bgn (L : Nat → List Int) (n : Nat) (p : List Int) : Prop := p = [] ∨ ∃ r e, r < n ∧ e ≠ [] ∧ L r = p ++ e
/-- no LEFT side is in it -/
def noL (L : Nat → List Int) (n : Nat) (w : List Int) : Prop := ∀ r, r < n → ∀ a b, w ≠ a ++ (L r ++ b)
/-- the longest such beginning that ends it -/
def lsx (L : Nat → List Int) (n : Nat) (w p : List Int) : Prop := (∃ a, w = a ++ p) ∧ bgn L n p ∧ ∀ a q, w = a ++ q → bgn L n q → q.length ≤ p.length
theorem sfx_sfx {w a p b q : List Int} (h1 : w = a ++ p) (h2 : w = b ++ q) (h : q.length ≤ p.length) : ∃ c, p = c ++ q := by
  rw [h1] at h2
  rcases List.append_eq_append_iff.mp h2 with ⟨c, e1, e2⟩ | ⟨c, e1, e2⟩
  · exact ⟨c, e2⟩
  · have hl := congrArg List.length e2
    rw [List.length_append] at hl
    have hc : c = [] := List.eq_nil_of_length_eq_zero (by omega)
    subst hc
    exact ⟨[], by rw [List.nil_append]; rw [List.nil_append] at e2; exact e2.symm⟩
theorem bgn_nil (L : Nat → List Int) (n : Nat) : bgn L n [] := Or.inl rfl
theorem bgn_init {L : Nat → List Int} {n : Nat} {s : List Int} {l : Int} (h : bgn L n (s ++ [l])) : bgn L n s := by
  rcases h with h | ⟨r, e, hr, he, hL⟩
  · exact absurd (congrArg List.length h) (by simp)
  · refine Or.inr ⟨r, [l] ++ e, hr, by simp, ?_⟩
    rw [hL, List.append_assoc]
theorem lsx_nil (L : Nat → List Int) (n : Nat) : lsx L n [] [] := by
  refine ⟨⟨[], rfl⟩, bgn_nil L n, fun a q h _ => ?_⟩
  have hl := congrArg List.length h
  rw [List.length_append] at hl
  simp only [List.length_nil] at hl
  omega
/-- what ends a list with a LETTER more, and is not nothing, ends with that LETTER -/
theorem sfx_last {w a q : List Int} {l : Int} (h : w ++ [l] = a ++ q) (hq : q ≠ []) : ∃ s, q = s ++ [l] ∧ w = a ++ s := by
  rcases List.append_eq_append_iff.mp h with ⟨c, e1, e2⟩ | ⟨c, e1, e2⟩
  · -- a = w ++ c, [l] = c ++ q
    have hl := congrArg List.length e2
    rw [List.length_append] at hl
    simp only [List.length_cons, List.length_nil] at hl
    have hq1 : q.length ≠ 0 := fun h0 => hq (List.eq_nil_of_length_eq_zero h0)
    have hc : c = [] := List.eq_nil_of_length_eq_zero (by omega)
    subst hc
    rw [List.nil_append] at e2
    rw [List.append_nil] at e1
    exact ⟨[], by rw [List.nil_append]; exact e2.symm, by rw [List.append_nil]; exact e1.symm⟩
  · exact ⟨c, e2, e1⟩
section AU
variable {L : Nat → List Int} {n : Nat}
/-- a LEFT side that ends the list with a LETTER more ends the beginning with that LETTER -/
theorem au_left {w p : List Int} {l : Int} (hp : lsx L n w p) {r : Nat} (hr : r < n) (h0 : L r ≠ []) {a : List Int} (h : w ++ [l] = a ++ L r) : ∃ b, p ++ [l] = b ++ L r := by
  obtain ⟨s, e1, e2⟩ := sfx_last h h0
  have hb : bgn L n s := Or.inr ⟨r, [l], hr, by simp, e1⟩
  obtain ⟨⟨c, hc⟩, _, hmax⟩ := hp
  obtain ⟨d, hd⟩ := sfx_sfx hc e2 (hmax _ _ e2 hb)
  exact ⟨d, by rw [hd, e1, List.append_assoc]⟩
theorem au_no {w p : List Int} {l : Int} (hw : noL L n w) (hp : lsx L n w p) (h0 : ∀ r, r < n → L r ≠ []) (h : ∀ r, r < n → ∀ b, p ++ [l] ≠ b ++ L r) : noL L n (w ++ [l]) := by
  intro r hr a b hE
  by_cases hb : b = []
  · subst hb
    rw [List.append_nil] at hE
    obtain ⟨d, hd⟩ := au_left hp hr (h0 r hr) hE
    exact h r hr d hd
  · rw [← List.append_assoc] at hE
    obtain ⟨s, e1, e2⟩ := sfx_last hE hb
    exact hw r hr a s (by rw [e2, List.append_assoc])
theorem au_next {w p q : List Int} {l : Int} (hp : lsx L n w p) (hq : lsx L n (p ++ [l]) q) : lsx L n (w ++ [l]) q := by
  obtain ⟨⟨c, hc⟩, _, hmax⟩ := hp
  obtain ⟨⟨d, hd⟩, hb, hm2⟩ := hq
  refine ⟨⟨c ++ d, by rw [hc, List.append_assoc, hd, List.append_assoc]⟩, hb, fun a z hz hbz => ?_⟩
  by_cases hn : z = []
  · subst hn; exact Nat.zero_le _
  · obtain ⟨s, e1, e2⟩ := sfx_last hz hn
    rw [e1] at hbz
    obtain ⟨f, hf⟩ := sfx_sfx hc e2 (hmax _ _ e2 (bgn_init hbz))
    exact hm2 f z (by rw [e1, hf, List.append_assoc]) (by rw [e1]; exact hbz)
end AU
theorem noL_irr {L R : Nat → List Int} {n : Nat} {w : List Int} (h : noL L n w) : irr L R n w := by
  intro v hv
  obtain ⟨a, b, r, hr, e1, _⟩ := hv
  exact h r hr a b e1
theorem irr_noL {L R : Nat → List Int} {n : Nat} {w : List Int} (h : irr L R n w) : noL L n w := fun r hr a b e => h _ ⟨a, b, r, hr, e, rfl⟩
