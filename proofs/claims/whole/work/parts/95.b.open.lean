-- deps: 30 31 32 33 34 35 36 37 38 39 40 41 42 43 46 70 71 72 73 74 75 76 77 78 79 80 81 82 83 84 85 86 87 88 89 90 91 92 93 94 95.a
/-! a level is opened, or goes on with its last LETTER -/
/-- what opening does to the levels -/
def lvO (y z : KS) (h t o : Int) : Prop := (o = 0 ∧ (lvl y = 0 ∨ 0 < y.2 97 (lvl y)) ∧ lvl z = lvl y + 1 ∧ z.2 95 = iU (y.2 95) (lvl y + 1) h ∧ z.2 96 = iU (y.2 96) (lvl y + 1) t) ∨ (o = 1 ∧ 1 ≤ lvl y ∧ y.2 97 (lvl y) ≤ 0 ∧ lvl z = lvl y ∧ z.2 95 = y.2 95 ∧ z.2 96 = y.2 96)
theorem F_g_open_x {y : KS} {h t : Int} (l0 : 0 ≤ y.1 87 13) (l1 : lvl y = 0 ∨ 0 < y.2 97 (lvl y) → y.1 87 13 ≤ 60) : lvO y (F_g_open y h t).2 h t (F_g_open y h t).1 ∧ ((F_g_open y h t).1 = 0 → (F_g_open y h t).2.1 87 13 = y.1 87 13 + 1) ∧ ((F_g_open y h t).1 = 1 → (F_g_open y h t).2 = y) := by
  have new : y.1 87 13 ≤ 60 → (lvl y = 0 ∨ 0 < y.2 97 (lvl y)) → lvO y (kA (kA (kS y 87 13 (y.1 87 13 + 1)) 95 (y.1 87 13 + 1).toNat h) 96 (y.1 87 13 + 1).toNat t) h t 0 ∧ (kA (kA (kS y 87 13 (y.1 87 13 + 1)) 95 (y.1 87 13 + 1).toNat h) 96 (y.1 87 13 + 1).toNat t).1 87 13 = y.1 87 13 + 1 := by
    intro h60 hc
    have e2 : (y.1 87 13 + 1).toNat = lvl y + 1 := by unfold lvl; omega
    rw [e2]
    refine ⟨Or.inl ⟨rfl, hc, ?_, ?_, ?_⟩, by rw [kA_1, kA_1, kS_s]⟩
    · show ((kS y 87 13 (y.1 87 13 + 1)).1 87 13).toNat = lvl y + 1
      rw [kS_s, e2]
    · rw [kA_c (by decide), kA_s, kS_2]
    · rw [kA_s, kA_c (by decide), kS_2]
  unfold F_g_open
  by_cases c1 : y.1 87 13 ≤ 0
  · rw [if_pos c1, if_neg (show ¬ ((62 : Int) - 1) ≤ y.1 87 13 by omega)]
    have h0 : lvl y = 0 := by unfold lvl; omega
    have := new (by omega) (Or.inl h0)
    exact ⟨this.1, fun _ => this.2, fun e => absurd e (show ¬ (0 : Int) = 1 by decide)⟩
  · rw [if_neg c1]
    by_cases c2 : 0 < y.2 97 (y.1 87 13).toNat
    · have l2 := l1 (Or.inr c2)
      rw [if_pos c2, if_neg (show ¬ ((62 : Int) - 1) ≤ y.1 87 13 by omega)]
      have := new (l1 (Or.inr c2)) (Or.inr c2)
      exact ⟨this.1, fun _ => this.2, fun e => absurd e (show ¬ (0 : Int) = 1 by decide)⟩
    · rw [if_neg c2]
      refine ⟨Or.inr ⟨rfl, by unfold lvl; omega, ?_, rfl, rfl, rfl⟩, fun e => absurd e (show ¬ (1 : Int) = 0 by decide), fun _ => rfl⟩
      show y.2 97 (y.1 87 13).toNat ≤ 0
      omega
/-- opened, and then what waits -/
def lvN (y z : KS) (h t o a m w : Int) : Prop := lvO y z h t o ∧ z.2 97 = iU (y.2 97) (lvl z) m ∧ z.2 98 = iU (y.2 98) (lvl z) 0 ∧ z.2 99 = iU (y.2 99) (lvl z) a ∧ z.2 100 = iU (y.2 100) (lvl z) w
theorem lvN_of {S : List (Nat × Nat)} {A : List Nat} {y y' : KS} {h t o a m w : Int} (ho : lvO y y' h t o) (f97 : y'.2 97 = y.2 97) (f98 : y'.2 98 = y.2 98) (f99 : y'.2 99 = y.2 99) (f100 : y'.2 100 = y.2 100) {u : KS} (f : ksame S A y' u) (hS : (87, 13) ∉ S) (hA : ∀ q ∈ A, q ∉ [95, 96, 97, 98, 99, 100]) : lvN y (F_g_await u a m w).2 h t o a m w := by
  have a1 : ∀ q, q ∈ [95, 96, 97, 98, 99, 100] → q ∉ A := fun q hq hb => hA q hb hq
  have el : lvl u = lvl y' := lvl_fr f hS
  have ez : lvl (F_g_await u a m w).2 = lvl y' := el
  have e0 : (u.1 87 13).toNat = lvl y' := el
  have z95 : (F_g_await u a m w).2.2 95 = y'.2 95 := by unfold F_g_await; rw [kA_c (by decide), kA_c (by decide), kA_c (by decide), kA_c (by decide), f.2 95 (a1 95 (by decide))]
  have z96 : (F_g_await u a m w).2.2 96 = y'.2 96 := by unfold F_g_await; rw [kA_c (by decide), kA_c (by decide), kA_c (by decide), kA_c (by decide), f.2 96 (a1 96 (by decide))]
  refine ⟨?_, ?_, ?_, ?_, ?_⟩
  · unfold lvO at ho ⊢
    rw [ez, z95, z96]
    exact ho
  · rw [ez, ← f97, ← f.2 97 (a1 97 (by decide)), ← e0]
    unfold F_g_await
    rw [kA_c (by decide), kA_c (by decide), kA_s, kA_c (by decide)]
  · rw [ez, ← f98, ← f.2 98 (a1 98 (by decide)), ← e0]
    unfold F_g_await
    rw [kA_s, kA_c (by decide), kA_c (by decide), kA_c (by decide)]
  · rw [ez, ← f99, ← f.2 99 (a1 99 (by decide)), ← e0]
    unfold F_g_await
    rw [kA_c (by decide), kA_c (by decide), kA_c (by decide), kA_s]
  · rw [ez, ← f100, ← f.2 100 (a1 100 (by decide)), ← e0]
    unfold F_g_await
    rw [kA_c (by decide), kA_s, kA_c (by decide), kA_c (by decide)]
theorem lvN_S {y z : KS} {h t o a m w : Int} (n : lvN y z h t o a m w) {j : Nat} (hj : j < lvl z) : lvS y z j := by
  obtain ⟨ho, e97, e98, e99, e100⟩ := n
  unfold lvS
  rw [e97, e98, e99, e100, iU_n (by omega), iU_n (by omega), iU_n (by omega), iU_n (by omega)]
  rcases ho with ⟨_, _, hl, e95, e96⟩ | ⟨_, _, _, hl, e95, e96⟩
  · rw [e95, e96, iU_n (by omega), iU_n (by omega)]
    exact ⟨rfl, rfl, rfl, rfl, rfl, rfl⟩
  · rw [e95, e96]
    exact ⟨rfl, rfl, rfl, rfl, rfl, rfl⟩
/-- a level that goes on: its key leads to the part -/
theorem stk_last {x y : KS} {src : List Int} {i : Nat} {Ah P Bh : List Int} (w0 : y.2 97 (i + 1) = 0) (i0 : y.2 98 (i + 1) = 0) (w01 : y.2 100 (i + 1) = 0 ∨ y.2 100 (i + 1) = 1) (s : stk x y src (i + 1) Ah P Bh) : stk x y src i Ah P Bh ∧ ∃ (b : Nat) (K : List Int), (b = 1 ∨ b = 2) ∧ okL (nL x) K ∧ K.length ≤ 60 ∧ y.2 95 (i + 1) = ((kH b K : Nat) : Int) ∧ y.2 96 (i + 1) = ((kT K : Nat) : Int) ∧ led x (ori b K) P := by
  rcases s with ⟨s1, Wt, Bh', e, s2, s3, s4⟩ | ⟨s1, Wt, Ah', e, s2, s3, s4⟩
  · have eW : Wt = [] := List.length_eq_zero_iff.mp (by omega)
    subst eW
    rw [List.append_nil] at s3 s4
    rw [List.nil_append] at e
    subst e
    obtain ⟨b, K, hb, ok, hK, k1, k2, f1, f2, f3⟩ := s3
    refine ⟨s4, b, K, hb, ok, hK, k1, k2, ?_⟩
    rcases w01 with w | w
    · obtain ⟨g1, A, I, B, m1, m2, m3, m4⟩ := f2 w s1
      have eI : I = [] := List.length_eq_zero_iff.mp (by omega)
      subst eI
      rw [List.append_nil] at m1 m2
      rw [List.append_nil] at m1
      rw [g1, m1, m2]
      exact m4
    · exact f1 w
  · have eW : Wt = [] := List.length_eq_zero_iff.mp (by omega)
    subst eW
    rw [List.nil_append] at s3 s4
    rw [List.append_nil] at e
    subst e
    obtain ⟨b, K, hb, ok, hK, k1, k2, f1, f2, f3⟩ := s3
    refine ⟨s4, b, K, hb, ok, hK, k1, k2, ?_⟩
    rcases w01 with w | w
    · obtain ⟨g1, A, I, B, m1, m2, m3, m4⟩ := f3 w s1
      have eI : I = [] := List.length_eq_zero_iff.mp (by omega)
      subst eI
      rw [List.nil_append] at m1 m2
      rw [List.nil_append] at m1
      rw [g1, m2]
      unfold ori
      rw [if_neg (by decide), m1]
      exact m4
    · exact f1 w
/-- the levels, when the part has been led on and LETTERS wait -/
theorem stk_new {x y z : KS} (mx : mcX x) {src Ah P Bh Q C Wt : List Int} {b : Nat} {K : List Int} {o a m w : Int} (gw : grW y) (st : stk x y src (lvl y) Ah P Bh) (id0 : ∀ j, j ≤ lvl y → y.2 98 j = 0) (hPQ : led x P Q) (hb : b = 1 ∨ b = 2) (ok : okL (nL x) K) (hK : K.length ≤ 60) (hKP : ori b K = P) (n : lvN y z ((kH b K : Nat) : Int) ((kT K : Nat) : Int) o a m w) (hm : m = (Wt.length : Int))
    (hw : w = 1 ∨ (w = 0 ∧ o = 0 ∧ ((a = 0 ∧ b = 1 ∧ ∃ A, K = A ++ Wt ∧ led x A C) ∨ (a = 1 ∧ b = 2 ∧ ∃ A, K.reverse = Wt ++ A ∧ led x A C)))) :
    (a = 0 → Q = C ++ Wt → stk x z src (lvl z) Ah C (Wt ++ Bh)) ∧ (a = 1 → Q = Wt ++ C → stk x z src (lvl z) (Ah ++ Wt) C Bh) := by
  have nS := fun j hj => lvN_S n (j := j) hj
  obtain ⟨ho, e97, e98, e99, e100⟩ := n
  have stQ := stk_mono mx (lvl y) Ah P Q Bh hPQ.1 (fun j _ hj => id0 j hj) st
  have z97 : z.2 97 (lvl z) = m := by rw [e97, iU_s]
  have z98 : z.2 98 (lvl z) = 0 := by rw [e98, iU_s]
  have z99 : z.2 99 (lvl z) = a := by rw [e99, iU_s]
  have z100 : z.2 100 (lvl z) = w := by rw [e100, iU_s]
  -- the level below, and the top level's fact
  have key : ∃ i, lvl z = i + 1 ∧ stk x y src i Ah Q Bh ∧ (∀ D : List Int, (a = 0 → Q = C ++ Wt → D = C ++ Wt → lvF x z (i + 1) C Wt D) ∧ (a = 1 → Q = Wt ++ C → D = Wt ++ C → lvF x z (i + 1) C Wt D)) := by
    rcases ho with ⟨o0, _, hl, e95, e96⟩ | ⟨o1, l1, w0, hl, e95, e96⟩
    · refine ⟨lvl y, hl, stQ, fun D => ⟨fun a0 hQ hD => ?_, fun a0 hQ hD => ?_⟩⟩
      · rw [← hl]
        refine ⟨b, K, hb, ok, hK, by rw [hl, e95, iU_s], by rw [hl, e96, iU_s], fun _ => by rw [hKP, hD, ← hQ]; exact hPQ, fun q1 _ => ?_, fun _ q2 => by rw [z99, a0] at q2; exact absurd q2 (by decide)⟩
        rcases hw with hw | ⟨_, _, ⟨_, b1, A, eA, lA⟩ | ⟨a1, _⟩⟩
        · rw [z100, hw] at q1; exact absurd q1 (by decide)
        · exact ⟨b1, A, [], C, by rw [eA]; rfl, by simp, by rw [z98]; rfl, lA⟩
        · rw [a0] at a1; exact absurd a1 (by decide)
      · rw [← hl]
        refine ⟨b, K, hb, ok, hK, by rw [hl, e95, iU_s], by rw [hl, e96, iU_s], fun _ => by rw [hKP, hD, ← hQ]; exact hPQ, fun _ q2 => by rw [z99, a0] at q2; exact absurd q2 (by decide), fun q1 _ => ?_⟩
        rcases hw with hw | ⟨_, _, ⟨a1, _⟩ | ⟨_, b1, A, eA, lA⟩⟩
        · rw [z100, hw] at q1; exact absurd q1 (by decide)
        · rw [a0] at a1; exact absurd a1 (by decide)
        · exact ⟨b1, A, [], C, by rw [eA]; rfl, by simp, by rw [z98]; rfl, lA⟩
    · obtain ⟨i, hi⟩ : ∃ i, lvl y = i + 1 := ⟨lvl y - 1, by omega⟩
      have hw1 : w = 1 := by
        rcases hw with hw | ⟨_, o0, _⟩
        · exact hw
        · rw [o1] at o0; exact absurd o0 (by decide)
      rw [hi] at st w0
      have w97 := (gw.2.2.2.2.2.2.1 (i + 1)).1
      obtain ⟨st', b', K', hb', ok', hK', k1, k2, lK⟩ := stk_last (by omega) (id0 (i + 1) (by omega)) (gw.2.2.2.2.2.2.2.2.2 (i + 1)) st
      have stQ' := stk_mono mx i Ah P Q Bh hPQ.1 (fun j _ hj => id0 j (by omega)) st'
      refine ⟨i, by omega, stQ', fun D => ⟨fun a0 hQ hD => ?_, fun a0 hQ hD => ?_⟩⟩
      · refine ⟨b', K', hb', ok', hK', by rw [e95]; exact k1, by rw [e96]; exact k2, fun _ => by rw [hD, ← hQ]; exact led_tr mx lK hPQ.1, fun q1 _ => ?_, fun q1 _ => ?_⟩
        · rw [show i + 1 = lvl z by omega, z100, hw1] at q1; exact absurd q1 (by decide)
        · rw [show i + 1 = lvl z by omega, z100, hw1] at q1; exact absurd q1 (by decide)
      · refine ⟨b', K', hb', ok', hK', by rw [e95]; exact k1, by rw [e96]; exact k2, fun _ => by rw [hD, ← hQ]; exact led_tr mx lK hPQ.1, fun q1 _ => ?_, fun q1 _ => ?_⟩
        · rw [show i + 1 = lvl z by omega, z100, hw1] at q1; exact absurd q1 (by decide)
        · rw [show i + 1 = lvl z by omega, z100, hw1] at q1; exact absurd q1 (by decide)
  obtain ⟨i, hl, sti, hf⟩ := key
  have stz := stk_cg (z := z) i Ah Q Bh (fun j hj => nS j (by omega)) sti
  rw [hl] at z97 z99
  rw [hl]
  refine ⟨fun a0 hQ => ?_, fun a0 hQ => ?_⟩
  · exact Or.inl ⟨by rw [z99, a0], Wt, Bh, rfl, by rw [z97, hm], (hf _).1 a0 hQ rfl, by rw [← hQ]; exact stz⟩
  · exact Or.inr ⟨by rw [z99, a0], Wt, Ah, rfl, by rw [z97, hm], (hf _).2 a0 hQ rfl, by rw [← hQ]; exact stz⟩
/-- the levels stay few, and the lower ones wait -/
theorem lvN_low {y z : KS} {h t o a m w : Int} (n : lvN y z h t o a m w) (low : ∀ j, 1 ≤ j → j < lvl y → 1 ≤ y.2 97 j ∧ y.2 98 j = 0) (id0 : ∀ j, j ≤ lvl y → y.2 98 j = 0) : (∀ j, 1 ≤ j → j < lvl z → 1 ≤ z.2 97 j ∧ z.2 98 j = 0) ∧ (∀ j, j ≤ lvl z → z.2 98 j = 0) := by
  have nS := fun j hj => lvN_S n (j := j) hj
  obtain ⟨ho, e97, e98, e99, e100⟩ := n
  have i0 : ∀ j, j < lvl z → y.2 98 j = 0 := fun j hj => by
    rcases ho with ⟨_, _, hl, _⟩ | ⟨_, _, _, hl, _⟩
    · exact id0 j (by omega)
    · exact id0 j (by omega)
  refine ⟨fun j h1 hj => ?_, fun j hj => ?_⟩
  · have s := nS j hj
    rw [s.2.2.1, s.2.2.2.1]
    refine ⟨?_, i0 j hj⟩
    rcases ho with ⟨_, hc, hl, _⟩ | ⟨_, _, _, hl, _⟩
    · by_cases c : j < lvl y
      · exact (low j h1 c).1
      · have : j = lvl y := by omega
        subst this
        rcases hc with hc | hc <;> omega
    · exact (low j h1 (by omega)).1
  · by_cases c : j = lvl z
    · rw [c, e98, iU_s]
    · rw [(nS j (by omega)).2.2.2.1]; exact i0 j (by omega)
