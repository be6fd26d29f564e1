-- deps: B1.b
/-! the two sides: what holds of each, and what is alike -/
def KA (X : KS) : Prop := scX X ∧ jnR X ∧ ruR X ∧ maR X
def KB (X : KS) : Prop := stV X ∧ p72 X ∧ r03 (X.2 71) ∧ (¬ X.1 70 5 = 0 → (grW X ∧ knR X (kWl X)) ∧ keI X)
def KC (X : KS) : Prop := (0 ≤ X.1 0 14 ∧ X.1 0 14 ≤ 8) ∧ ∀ j : Nat, (j : Int) < 2 * X.1 0 14 → wG X (24 + 2 * j) ∧ X.1 (24 + 2 * j) 1 ≤ 12
def KD (X : KS) : Prop := r03 (X.2 74) ∧ r03 (X.2 76) ∧ r03 (X.2 78)
def KE (X : KS) : Prop := (0 ≤ X.1 0 15 ∧ X.1 0 15 ≤ 20) ∧ X.1 0 15 ≤ X.1 1 3 ∧ (X.1 0 16 = 0 ∨ X.1 0 16 = 1) ∧ (X.1 0 16 = 1 → rOK X)
def KH (X : KS) : Prop := (∀ j : Nat, j < 8 → wG X (7 + 2 * j)) ∧ wG X 4
def KJ (X : KS) : Prop := mdR X ∧ waR X ∧ dz X ∧ (∀ j : Nat, 0 ≤ X.2 69 j ∧ X.2 69 j ≤ 4611686018427387904) ∧ (X.1 64 9 = 0 ∨ X.1 64 9 = 1)
def KR (X : KS) : Prop := ∀ j : Nat, j < 16 → r03 (X.2 (25 + 2 * j))
def KI (X : KS) : Prop := KA X ∧ KB X ∧ KC X ∧ KD X ∧ KE X ∧ KH X ∧ KJ X ∧ KR X
theorem KI_bd {X : KS} (h : KI X) : bdP X := ⟨h.2.2.2.2.1.1, h.2.2.2.2.1.2.2.1, h.1.1, h.1.2.1, h.2.2.2.2.1.2.2.2, h.2.2.2.2.1.2.1⟩
theorem KI_se {X : KS} (h : KI X) (w7 : ∀ j : Nat, iRL (X.2 67 j)) (w8 : ∀ j : Nat, iRL (X.2 68 j)) (k : keI X) : seP X := ⟨h.1.1, h.1.2.1, h.1.2.2.1, h.1.2.2.2, h.2.1.1, h.2.1.2.1, h.2.1.2.2.1, h.2.2.1.1, h.2.2.1.2, h.2.2.2.1.1, h.2.2.2.1.2.1, w7, w8, fun q => (h.2.1.2.2.2 q).1, k⟩
theorem KI_su {X : KS} (h : KI X) : ∀ j : Int, 0 ≤ j → j < 8 → wG X (7 + 2 * j.toNat) := fun j a b => h.2.2.2.2.2.1.1 j.toNat (by omega)
theorem KI_su2 {X : KS} (h : KI X) : ∀ j : Int, 0 ≤ j → j < 8 → 0 ≤ X.1 (7 + 2 * j.toNat) 1 ∧ X.1 (7 + 2 * j.toNat) 1 ≤ 60 := fun j a b => (KI_su h j a b).1
def MV (Y : MS) : Prop := seH Y ∧ (∀ k : Nat, k < 9 → slH Y k) ∧ ((∀ j : Nat, j < 850 → Y.2 29 j = 0 ∨ Y.2 29 j = 1) ∧ ∀ j : Nat, j < 850 → Y.2 30 j = 0 ∨ Y.2 30 j = 1) ∧ ((∀ k : Nat, k < 301 → 0 ≤ Y.2 32 k ∧ Y.2 32 k ≤ 60) ∧ ∀ k : Nat, k < 18060 → 0 ≤ Y.2 33 k ∧ Y.2 33 k ≤ 3) ∧ iR (Y.1 6) ∧ (Y.1 27 = 0 ∨ Y.1 27 = 1)
/-- STRINGS alike -/
def wdE (X : KS) (Y : MS) : Prop := (∀ k : Nat, k < 8 → wS X (7 + 2 * k) = slM Y k) ∧ wS X 4 = slM Y 8
def Rel (X : KS) (Y : MS) : Prop := KI X ∧ MV Y ∧ swE X Y ∧ wdE X Y ∧ snR X Y
/-! the parts of the class's side, by what changed -/
theorem r_c1 {S : List (Nat × Nat)} {A : List Nat} {X Z : KS} (f : gfr S A X Z) (h : ∀ p ∈ S, p.1 ≠ 1) : Z.1 1 = X.1 1 := funext fun k => f.1 1 k (by decide) (fun h9 => h _ h9 rfl)
theorem KA_g {S : List (Nat × Nat)} {A : List Nat} {X Z : KS} (f : gfr S A X Z) (hS : ∀ p ∈ S, p.1 ≠ 1 ∧ p ∉ [(56, 1), (58, 6), (64, 7)]) (hA : ∀ a ∈ A, a ∉ [2, 3, 57, 59, 60, 61, 62, 63, 65, 66]) (h : KA X) : KA Z := by
  have e1 := r_c1 f (fun p hp => (hS p hp).1)
  have cS : ∀ c k : Nat, c < 87 → (c, k) ∈ [(56, 1), (58, 6), (64, 7)] → Z.1 c k = X.1 c k := fun c k h1 h2 => f.1 c k h1 (fun h9 => (hS _ h9).2 h2)
  have cA : ∀ a : Nat, a < 87 → a ∈ [2, 3, 57, 59, 60, 61, 62, 63, 65, 66] → Z.2 a = X.2 a := fun a h1 h2 => f.2 a h1 (fun h9 => hA _ h9 h2)
  obtain ⟨h1, h2, h3, h4⟩ := h
  refine ⟨?_, ?_, ?_, ?_⟩
  · unfold scX scR
    rw [e1, cA 2 (by decide) (by decide), cA 3 (by decide) (by decide)]
    exact h1
  · unfold jnR
    rw [cS 56 1 (by decide) (by decide), cA 57 (by decide) (by decide)]
    exact h2
  · unfold ruR
    rw [cS 58 6 (by decide) (by decide), cA 59 (by decide) (by decide), cA 60 (by decide) (by decide), cA 61 (by decide) (by decide), cA 62 (by decide) (by decide), cA 63 (by decide) (by decide)]
    exact h3
  · unfold maR
    rw [cS 64 7 (by decide) (by decide), cA 65 (by decide) (by decide), cA 66 (by decide) (by decide)]
    exact h4
theorem KB_k {S : List (Nat × Nat)} {A : List Nat} {X Z : KS} (f : ksame S A X Z) (hS : ∀ p ∈ S, p ≠ (70, 5) ∧ p.1 ≠ 101) (hA : ∀ a ∈ A, a ∉ [60, 66, 71, 72, 89, 91, 93, 94, 95, 96, 97, 98, 99, 100, 102, 103, 104, 105]) (h : KB X) : KB Z := by
  have cA : ∀ a : Nat, a ∈ [60, 66, 71, 72, 89, 91, 93, 94, 95, 96, 97, 98, 99, 100, 102, 103, 104, 105] → Z.2 a = X.2 a := fun a h2 => f.2 a (fun h9 => hA _ h9 h2)
  have nS : ∀ k, (101, k) ∉ S := fun k h9 => (hS _ h9).2 rfl
  have nA : ∀ a : Nat, a ∈ [60, 66, 71, 72, 89, 91, 93, 94, 95, 96, 97, 98, 99, 100, 102, 103, 104, 105] → a ∉ A := fun a h2 h9 => hA _ h9 h2
  obtain ⟨h1, h2, h3, h4⟩ := h
  refine ⟨?_, ?_, ?_, fun h9 => ?_⟩
  · unfold stV
    rw [cA 66 (by decide), cA 60 (by decide)]
    exact h1
  · unfold p72
    rw [cA 72 (by decide)]
    exact h2
  · rw [cA 71 (by decide)]; exact h3
  · rw [f.1 70 5 (fun h8 => (hS _ h8).1 rfl)] at h9
    obtain ⟨⟨a, b⟩, c⟩ := h4 h9
    refine ⟨⟨grW_of f (fun a ha hb => hA a ha (by simp only [List.mem_cons, List.not_mem_nil, or_false] at hb ⊢; omega)) a, ?_⟩, keI_fr f (nS 4) (nS 9) (nA 102 (by decide)) c⟩
    rw [kWl_fr f (nS 9)]
    exact knR_of f (nS 9) (nA 102 (by decide)) (nA 103 (by decide)) (nA 104 (by decide)) (nA 105 (by decide)) b
theorem KB_ok {X : KS} (h : rOK X) : KB X := ⟨h.2.1, h.2.2.1, h.2.2.2.1, fun h9 => ⟨⟨(h.2.2.2.2 h9).1.2.1, (h.2.2.2.2 h9).1.2.2.2⟩, (h.2.2.2.2 h9).2⟩⟩
theorem KC_g {S : List (Nat × Nat)} {A : List Nat} {X Z : KS} (f : gfr S A X Z) (hS : ∀ p ∈ S, p ≠ (0, 14) ∧ p.1 ≠ 1 ∧ (p.1 < 24 ∨ 55 < p.1)) (hA : ∀ a ∈ A, a < 24 ∨ 55 < a) (h : KC X) : KC Z := by
  have e14 : Z.1 0 14 = X.1 0 14 := f.1 0 14 (by decide) (fun h9 => (hS _ h9).1 rfl)
  have h8 := h.1
  refine ⟨by rw [e14]; exact h.1, fun j hj => ?_⟩
  rw [e14] at hj
  have k1 : (24 + 2 * j, 1) ∉ S := fun h9 => by have := (hS _ h9).2.2; simp only at this; omega
  have k2 : 24 + 2 * j + 1 ∉ A := fun h9 => by have := hA _ h9; omega
  obtain ⟨g, l⟩ := h.2 j hj
  exact ⟨wG_g f (by omega) k1 k2 (fun h9 => (hS _ h9).2.1 rfl) g, by rw [f.1 (24 + 2 * j) 1 (by omega) k1]; exact l⟩
theorem KD_g {S : List (Nat × Nat)} {A : List Nat} {X Z : KS} (f : gfr S A X Z) (hA : ∀ a ∈ A, a ∉ [74, 76, 78]) (h : KD X) : KD Z := by
  have cA : ∀ a : Nat, a < 87 → a ∈ [74, 76, 78] → Z.2 a = X.2 a := fun a h1 h2 => f.2 a h1 (fun h9 => hA _ h9 h2)
  unfold KD
  rw [cA 74 (by decide) (by decide), cA 76 (by decide) (by decide), cA 78 (by decide) (by decide)]
  exact h
theorem KE_g {S : List (Nat × Nat)} {A : List Nat} {X Z : KS} (f : gfr S A X Z) (hS : ∀ p ∈ S, p.1 ≠ 1 ∧ p ∉ [(0, 15), (0, 16)]) (ok : X.1 0 16 = 1 → rOK X → rOK Z) (h : KE X) : KE Z := by
  have e15 : Z.1 0 15 = X.1 0 15 := f.1 0 15 (by decide) (fun h9 => (hS _ h9).2 (by decide))
  have e16 : Z.1 0 16 = X.1 0 16 := f.1 0 16 (by decide) (fun h9 => (hS _ h9).2 (by decide))
  have e13 : Z.1 1 3 = X.1 1 3 := f.1 1 3 (by decide) (fun h9 => (hS _ h9).1 rfl)
  unfold KE
  rw [e15, e16, e13]
  exact ⟨h.1, h.2.1, h.2.2.1, fun h9 => ok h9 (h.2.2.2 h9)⟩
theorem KJ_g {S : List (Nat × Nat)} {A : List Nat} {X Z : KS} (f : gfr S A X Z) (hS : ∀ p ∈ S, p ∉ [(84, 2), (82, 1), (64, 4), (64, 5), (64, 9)]) (hA : ∀ a ∈ A, a ∉ [69, 81, 83, 85, 86]) (h : KJ X) : KJ Z := by
  have cS : ∀ c k : Nat, c < 87 → (c, k) ∈ [(84, 2), (82, 1), (64, 4), (64, 5), (64, 9)] → Z.1 c k = X.1 c k := fun c k h1 h2 => f.1 c k h1 (fun h9 => hS _ h9 h2)
  have cA : ∀ a : Nat, a < 87 → a ∈ [69, 81, 83, 85, 86] → Z.2 a = X.2 a := fun a h1 h2 => f.2 a h1 (fun h9 => hA _ h9 h2)
  unfold KJ mdR waR dz
  rw [cS 84 2 (by decide) (by decide), cS 82 1 (by decide) (by decide), cS 64 4 (by decide) (by decide), cS 64 5 (by decide) (by decide), cS 64 9 (by decide) (by decide), cA 69 (by decide) (by decide), cA 81 (by decide) (by decide), cA 83 (by decide) (by decide), cA 85 (by decide) (by decide), cA 86 (by decide) (by decide)]
  exact h
theorem KR_g {S : List (Nat × Nat)} {A : List Nat} {X Z : KS} (f : gfr S A X Z) (hA : ∀ a ∈ A, a < 24 ∨ 55 < a) (h : KR X) : KR Z := fun j hj => by
  rw [f.2 (25 + 2 * j) (by omega) (fun h9 => by have := hA _ h9; omega)]
  exact h j hj
/-- STRINGS untouched -/
theorem KH_g {S : List (Nat × Nat)} {A : List Nat} {X Z : KS} (f : gfr S A X Z) (hS : ∀ p ∈ S, p.1 ≠ 1 ∧ (p.1 < 4 ∨ 22 < p.1)) (hA : ∀ a ∈ A, a < 4 ∨ 23 < a) (h : KH X) : KH Z := by
  refine ⟨fun j hj => ?_, ?_⟩
  · exact wG_g f (by omega) (fun h9 => by have := (hS _ h9).2; simp only at this; omega) (fun h9 => by have := hA _ h9; omega) (fun h9 => (hS _ h9).1 rfl) (h.1 j hj)
  · exact wG_g f (by omega) (fun h9 => by have := (hS _ h9).2; simp only at this; omega) (fun h9 => by have := hA _ h9; omega) (fun h9 => (hS _ h9).1 rfl) h.2
theorem wdE_g {S : List (Nat × Nat)} {A : List Nat} {X Z : KS} {Y : MS} (f : gfr S A X Z) (hS : ∀ p ∈ S, p.1 < 4 ∨ 22 < p.1) (hA : ∀ a ∈ A, a < 4 ∨ 23 < a) (h : wdE X Y) : wdE Z Y := by
  have k : ∀ w : Nat, 4 ≤ w → w ≤ 22 → wS Z w = wS X w := fun w h1 h2 => by
    unfold wS
    rw [f.1 w 1 (by omega) (fun h9 => by have := hS _ h9; simp only at this; omega), f.2 (w + 1) (by omega) (fun h9 => by have := hA _ h9; omega)]
  exact ⟨fun j hj => (k _ (by omega) (by omega)).trans (h.1 j hj), (k 4 (by omega) (by omega)).trans h.2⟩
theorem swE_g {S : List (Nat × Nat)} {A : List Nat} {X Z : KS} {Y : MS} (f : gfr S A X Z) (hS : ∀ p ∈ S, p ≠ (0, 14) ∧ p.1 ≠ 1 ∧ (p.1 < 24 ∨ 55 < p.1)) (hA : ∀ a ∈ A, a < 24 ∨ 55 < a) (l8 : Y.1 3 ≤ 8) (h : swE X Y) : swE Z Y := by
  have e14 : Z.1 0 14 = X.1 0 14 := f.1 0 14 (by decide) (fun h9 => (hS _ h9).1 rfl)
  have e12 : Z.1 1 2 = X.1 1 2 := f.1 1 2 (by decide) (fun h9 => (hS _ h9).2.1 rfl)
  have k := fun j hj => wS_fr24 f (fun p hp => (hS p hp).2.2) hA (j := j) hj
  refine ⟨by rw [e12]; exact h.1, by rw [e14]; exact h.2.1, fun l hl => ?_⟩
  have a := h.2.2 l hl
  exact ⟨(k (2 * l) (by omega)).trans a.1, (k (2 * l + 1) (by omega)).trans a.2⟩
/-- the same long, in range -/
def cvL (v : Int) : Int := (v + 9223372036854775808) % 18446744073709551616 - 9223372036854775808
theorem cvL_R (v : Int) : iRL (cvL v) := by unfold iRL cvL; omega
/-- without a Grower the cells behind are free, and rows of longs are the same by what they say: the same object as see wants it -/
def nr1 (X : KS) : KS := if X.1 70 5 = 0 then kS X 101 4 0 else X
def nrm (X : KS) : KS := ((nr1 X).1, fun c => if c = 67 ∨ c = 68 then (fun j => cvL ((nr1 X).2 c j)) else (nr1 X).2 c)
theorem nr1_g (X : KS) : gfr [] [67, 68] X (nr1 X) := by
  unfold nr1
  split
  · exact ⟨fun c k h1 _ => by rw [kS_c (by omega)], fun c _ _ => rfl⟩
  · exact gm_rf _ _ _
theorem nr1_k (X : KS) : ksame [] [67, 68] (nr1 X) (nrm X) := ⟨fun c k _ => rfl, fun c hc => if_neg (fun h9 => hc (by simp only [List.mem_cons, List.not_mem_nil, or_false]; exact h9))⟩
theorem nrm_g (X : KS) : gfr [] [67, 68] X (nrm X) := gm_tr (nr1_g X) (gm_of (nr1_k X))
theorem nrm_7 (X : KS) : (∀ j : Nat, iRL ((nrm X).2 67 j)) ∧ ∀ j : Nat, iRL ((nrm X).2 68 j) := ⟨fun j => cvL_R _, fun j => cvL_R _⟩
theorem nrm_ke {X : KS} (h : KB X) : keI (nrm X) := by
  refine keI_fr (nr1_k X) List.not_mem_nil List.not_mem_nil (by decide) ?_
  unfold nr1
  split
  · exact keI_0 kS_s
  · rename_i h9
    exact (h.2.2.2 h9).2
theorem nrm_5 (X : KS) : (nrm X).1 70 5 = X.1 70 5 := (nrm_g X).1 70 5 (by decide) List.not_mem_nil
theorem nrm_rOK {X : KS} (h : rOK X) : rOK (nrm X) := by
  by_cases c : X.1 70 5 = 0
  · have g := nrm_g X
    have sm : sM X (nrm X) := gm_M g (fun p hp => absurd hp List.not_mem_nil) (by unfold sMa; decide)
    refine ⟨mcX_sM sm h.1, stV_M sm h.2.1, ?_, ?_, fun h9 => absurd ((nrm_5 X).trans c) h9⟩
    · unfold p72; rw [g.2 72 (by decide) (by decide)]; exact h.2.2.1
    · rw [g.2 71 (by decide) (by decide)]; exact h.2.2.2.1
  · have e : nr1 X = X := if_neg c
    have k := nr1_k X
    rw [e] at k
    exact rOK_fr k (fun p hp => absurd hp List.not_mem_nil) (by unfold rAs sMa; decide) h
theorem nrm_KB {X : KS} (h : KB X) : KB (nrm X) := by
  by_cases c : X.1 70 5 = 0
  · have g := nrm_g X
    refine ⟨?_, ?_, ?_, fun h9 => absurd ((nrm_5 X).trans c) h9⟩
    · unfold stV; rw [g.2 66 (by decide) (by decide), g.2 60 (by decide) (by decide)]; exact h.1
    · unfold p72; rw [g.2 72 (by decide) (by decide)]; exact h.2.1
    · rw [g.2 71 (by decide) (by decide)]; exact h.2.2.1
  · have e : nr1 X = X := if_neg c
    have k := nr1_k X
    rw [e] at k
    exact KB_k k (fun p hp => absurd hp List.not_mem_nil) (by decide) h
theorem nil_p {P : Nat × Nat → Prop} : ∀ p ∈ ([] : List (Nat × Nat)), P p := fun p hp => absurd hp List.not_mem_nil
theorem nil_a {P : Nat → Prop} : ∀ p ∈ ([] : List Nat), P p := fun p hp => absurd hp List.not_mem_nil
theorem nrm_Rel {X : KS} {Y : MS} (h : Rel X Y) : Rel (nrm X) Y ∧ seP (nrm X) ∧ kM (nrm X) = kM X := by
  have g := nrm_g X
  obtain ⟨⟨a, b, c, d, e, f, j, r⟩, mv, sw, wd, sn⟩ := h
  have K : KI (nrm X) := ⟨KA_g g nil_p (by decide) a, nrm_KB b, KC_g g nil_p (by decide) c, KD_g g (by decide) d, KE_g g nil_p (fun _ => nrm_rOK) e, KH_g g nil_p (by decide) f, KJ_g g nil_p (by decide) j, KR_g g (by decide) r⟩
  refine ⟨⟨K, mv, swE_g g nil_p (by decide) mv.1.2.1.1.2 sw, wdE_g g nil_p (by decide) wd, snR_k g nil_p (by unfold sAs; decide) (fun _ _ h1 => ?_) (fun _ => nrm_rOK) sn⟩, KI_se K (nrm_7 X).1 (nrm_7 X).2 (nrm_ke b), ?_⟩
  · rw [g.2 57 (by decide) (by decide)]
    exact ⟨h1, fun _ _ _ => rfl⟩
  · unfold kM
    rw [nrm_5]
