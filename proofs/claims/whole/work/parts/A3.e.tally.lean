-- deps: A3.d
/-! the class: counts, whether they are ENDLESS -/
theorem kW_eq {X : KS} {Y : MS} (hs : stE X Y) : ∀ (k s : Nat), (s : Int) < Y.1 24 → kWn X k s = wN Y k (s : Int) := by
  intro k
  induction k with
  | zero => intro s _; rfl
  | succ k ih =>
    intro s h
    have key : ∀ c : Nat, (c : Int) ≤ Y.1 0 → kSm (kf X (kWn X k) s) c = wsm Y (wN Y k) (s : Int) c := by
      intro c
      induction c with
      | zero => intro _; rfl
      | succ c ihc =>
        intro hc
        show kSm (kf X (kWn X k) s) c + kf X (kWn X k) s c = _
        rw [ihc (by omega), wsm_s]
        congr 1
        unfold kf
        rcases hs.2 (s : Int) (c : Int) (by omega) h (by omega) (by omega) with ⟨h1, h2⟩ | ⟨h1, h2, h3⟩
        · rw [if_pos h1, if_pos h2]
        · rw [if_neg (by omega), if_neg (by omega), h2, ih _ (by omega), show (((F_m_next Y (s : Int) (c : Int)).1.toNat : Nat) : Int) = (F_m_next Y (s : Int) (c : Int)).1 by omega]
    show kSm (kf X (kWn X k) s) (X.1 1 2).toNat = wsm Y (wN Y k) (s : Int) (Y.1 0).toNat
    rw [hs.1.2.1]
    have := hs.1.2.2.2
    exact key _ (by omega)
theorem stE_ms {X : KS} {Y : MS} (hs : stE X Y) : maS X := by
  intro s z s0 s1 z0 z1
  have e1 := hs.1.1
  have e2 := hs.1.2.1
  have e3 := hs.1.2.2.1
  rcases hs.2 s z s0 (by omega) z0 (by omega) with ⟨h1, h2⟩ | ⟨h1, h2, h3⟩
  · omega
  · omega
theorem stE_l {X : KS} {Y : MS} (hs : stE X Y) : 1 ≤ X.1 1 2 ∧ X.1 1 2 ≤ 4 := by rw [hs.1.2.1]; exact hs.1.2.2.2
theorem tally_1 {X : KS} (l2 : 1 ≤ X.1 1 2 ∧ X.1 1 2 ≤ 4) (ms : maS X) (h1 : 1 ≤ X.1 64 7) : ∀ (n : Nat) (y : KS) (i : Nat), wyK X y → maR y → (∀ j : Nat, (j : Int) < X.1 64 7 → y.2 (kWs (y.1 64 4)) j = kWn X i j) → (∀ k, k < i → y.2 69 k = kWn X k 0) → i ≤ 32 → 32 - i < n → dz (F_a_tally_s n 1 y (i : Int)).2 ∧ ∀ k, k < 32 → (F_a_tally_s n 1 y (i : Int)).2.2 69 k = kWn X k 0 := by
  intro n
  induction n with
  | zero => intro y i _ _ _ _ _ h; omega
  | succ n ih =>
    intro y i wy ma row cn i32 fu
    rw [F_a_tally_e1]
    by_cases c : (31 : Int) < (i : Int)
    · rw [if_pos c]; exact ⟨wy.2.2.2, fun k hk => cn k (by omega)⟩
    · rw [if_neg c, Int.toNat_natCast, show ((0 : Int)).toNat = 0 from rfl]
      have k69 : kWs (y.1 64 4) ≠ 69 := Ne.symm (kWs_ne (by decide) (by decide))
      have wy1 : wyK X (kA y 69 i (y.2 (kWs (y.1 64 4)) 0)) := ⟨wy.1, wy.2.1, by rw [kA_c (by decide)]; exact wy.2.2.1, wy.2.2.2⟩
      have ma1 : maR (kA y 69 i (y.2 (kWs (y.1 64 4)) 0)) := by unfold maR; rw [kA_c (by decide), kA_c (by decide)]; exact ma
      have r1 : (kA y 69 i (y.2 (kWs (y.1 64 4)) 0)).2 (kWs (y.1 64 4)) = y.2 (kWs (y.1 64 4)) := kA_c k69
      have c1 : (kA y 69 i (y.2 (kWs (y.1 64 4)) 0)).2 69 = iU (y.2 69) i (y.2 (kWs (y.1 64 4)) 0) := kA_s
      have s4 : (kA y 69 i (y.2 (kWs (y.1 64 4)) 0)).1 64 4 = y.1 64 4 := rfl
      have l21 : 1 ≤ (kA y 69 i (y.2 (kWs (y.1 64 4)) 0)).1 1 2 ∧ (kA y 69 i (y.2 (kWs (y.1 64 4)) 0)).1 1 2 ≤ 4 := by rw [wy1.1]; exact l2
      generalize kA y 69 i (y.2 (kWs (y.1 64 4)) 0) = z at wy1 ma1 r1 c1 s4 l21
      obtain ⟨a1, a2, a3⟩ := F_a_lengthen_x wy1.2.2.2 ma1 l21
      have fr := F_a_lengthen_fr z
      have wy2 := F_a_lengthen_k wy1.2.2.2 ma1 l21
      have ma2 := maR_k fr ma1
      refine ih (F_a_lengthen z).2 (i + 1) ⟨wy2.1.trans wy1.1, wy2.2.1.trans wy1.2.1, wy2.2.2.1.trans wy1.2.2.1, wy2.2.2.2⟩ ma2 (fun j hj => ?_) (fun k hk => ?_) (by omega) (by omega)
      · rw [a1, a3 j (by rw [wy1.2.1]; exact hj), s4, r1, wy1.1]
        show kSm _ _ = kSm (kf X (kWn X i) j) (X.1 1 2).toNat
        refine kSm_cg _ (fun c hc => ?_)
        rw [kf_cg wy1.1 wy1.2.1 wy1.2.2.1]
        exact kf_g ms row hj (by omega)
      · rw [fr.2 69 (by decide), c1, yU_if]
        by_cases e : k = i
        · rw [if_pos e, e]; exact row 0 (by omega)
        · rw [if_neg e]; exact cn k (by omega)
theorem tally_0 {X : KS} (l2 : 1 ≤ X.1 1 2 ∧ X.1 1 2 ≤ 4) (ms : maS X) (h1 : 1 ≤ X.1 64 7) (h320 : X.1 64 7 ≤ 320) : ∀ (n : Nat) (y : KS) (i : Nat), wyK X y → maR y → (∀ j : Nat, j < i → y.2 (kWs (y.1 64 4)) j = 1) → (i : Int) ≤ X.1 64 7 → X.1 64 7 - (i : Int) + 40 < n → dz (F_a_tally_s n 0 y (i : Int)).2 ∧ ∀ k, k < 32 → (F_a_tally_s n 0 y (i : Int)).2.2 69 k = kWn X k 0 := by
  intro n
  induction n with
  | zero => intro y i _ _ _ _ h; exfalso; omega
  | succ n ih =>
    intro y i wy ma row hi fu
    rw [F_a_tally_e0, wy.2.1]
    by_cases c : X.1 64 7 ≤ (i : Int)
    · rw [if_pos c]
      have := tally_1 l2 ms h1 n y 0 wy ma (fun j hj => by rw [row j (by omega)]; rfl) (fun k hk => by omega) (by omega) (by omega)
      exact this
    · rw [if_neg c, Int.toNat_natCast]
      have k66 : 66 ≠ kWs (y.1 64 4) := kWs_ne (by decide) (by decide)
      have k65 : 65 ≠ kWs (y.1 64 4) := kWs_ne (by decide) (by decide)
      have := ih (kA y (kWs (y.1 64 4)) i ((1 : Int))) (i + 1) ⟨wy.1, wy.2.1, by rw [kA_c k66]; exact wy.2.2.1, wy.2.2.2⟩ (by unfold maR; rw [kA_c k65, kA_c k66]; exact ma) (fun j hj => by
        show (kA y (kWs (y.1 64 4)) i ((1 : Int))).2 (kWs (y.1 64 4)) j = 1
        rw [kA_s, yU_if]
        by_cases e : j = i
        · rw [if_pos e]
        · rw [if_neg e]; exact row j (by omega)) (by omega) (by omega)
      exact this
/-! whether STATES go on -/
theorem goesOn_s {y : KS} {Y : MS} (hs : stE y Y) {s : Nat} (h : (s : Int) < Y.1 24) : ∀ (n c : Nat), (c : Int) ≤ Y.1 0 → Y.1 0 - (c : Int) < n → ((F_a_goesOn_s n 0 y (s : Int) (c : Int)).1 = 1 ∧ ∃ l : Nat, c ≤ l ∧ (l : Int) < Y.1 0 ∧ ¬ (F_m_next Y (s : Int) (l : Int)).1 = -9 ∧ 0 < y.2 (kWs (y.1 64 4)) (F_m_next Y (s : Int) (l : Int)).1.toNat) ∨ ((F_a_goesOn_s n 0 y (s : Int) (c : Int)).1 = 0 ∧ ∀ l : Nat, c ≤ l → (l : Int) < Y.1 0 → ¬ (F_m_next Y (s : Int) (l : Int)).1 = -9 → y.2 (kWs (y.1 64 4)) (F_m_next Y (s : Int) (l : Int)).1.toNat ≤ 0) := by
  intro n
  induction n with
  | zero => intro c h1 h2; exfalso; omega
  | succ n ih =>
    intro c h1 h2
    rw [F_a_goesOn_e0, hs.1.2.1]
    by_cases d : Y.1 0 ≤ (c : Int)
    · rw [if_pos d]; exact Or.inr ⟨rfl, fun l l1 l2 => by exfalso; omega⟩
    · rw [if_neg d]
      have go : (¬ (F_m_next Y (s : Int) (c : Int)).1 = -9 → y.2 (kWs (y.1 64 4)) (F_m_next Y (s : Int) (c : Int)).1.toNat ≤ 0) → ((F_a_goesOn_s n 0 y (s : Int) ((c : Int) + (1 : Int))).1 = 1 ∧ ∃ l : Nat, c ≤ l ∧ (l : Int) < Y.1 0 ∧ ¬ (F_m_next Y (s : Int) (l : Int)).1 = -9 ∧ 0 < y.2 (kWs (y.1 64 4)) (F_m_next Y (s : Int) (l : Int)).1.toNat) ∨ ((F_a_goesOn_s n 0 y (s : Int) ((c : Int) + (1 : Int))).1 = 0 ∧ ∀ l : Nat, c ≤ l → (l : Int) < Y.1 0 → ¬ (F_m_next Y (s : Int) (l : Int)).1 = -9 → y.2 (kWs (y.1 64 4)) (F_m_next Y (s : Int) (l : Int)).1.toNat ≤ 0) := fun hz => by
        rcases ih (c + 1) (by omega) (by omega) with ⟨a, l, b1, b2⟩ | ⟨a, b⟩
        · exact Or.inl ⟨a, l, by omega, b2⟩
        · refine Or.inr ⟨a, fun l l1 l2 l3 => ?_⟩
          by_cases e : l = c
          · rw [e] at l3 ⊢; exact hz l3
          · exact b l (by omega) l2 l3
      rcases hs.2 (s : Int) (c : Int) (by omega) h (by omega) (by omega) with ⟨k1, k2⟩ | ⟨k1, k2, k3⟩
      · rw [if_pos k1]
        exact go (fun h9 => absurd k2 h9)
      · rw [if_neg (by omega), k2]
        by_cases e : iC (y.2 (kWs (y.1 64 4)) (F_m_next Y (s : Int) (c : Int)).1.toNat) ((0 : Int)) ≤ 0
        · rw [if_pos e]
          have := iC_gt (a := y.2 (kWs (y.1 64 4)) (F_m_next Y (s : Int) (c : Int)).1.toNat) (b := (0 : Int))
          exact go (fun _ => by
            rcases Int.lt_or_le 0 (y.2 (kWs (y.1 64 4)) (F_m_next Y (s : Int) (c : Int)).1.toNat) with p | p
            · have := this.mpr p; omega
            · exact p)
        · rw [if_neg e]
          exact Or.inl ⟨rfl, c, Nat.le_refl _, by omega, by omega, iC_gt.mp (by omega)⟩
/-- how many of a row are struck out -/
def czN (f : Nat → Int) : Nat → Nat
  | 0 => 0
  | n + 1 => czN f n + (if f n ≤ 0 then 1 else 0)
theorem czN_le (f : Nat → Int) : ∀ n, czN f n ≤ n := by
  intro n
  induction n with
  | zero => exact Nat.le_refl _
  | succ n ih => unfold czN; split <;> omega
theorem czN_u {f : Nat → Int} {i : Nat} (hi : 0 < f i) : ∀ n, czN (iU f i 0) n = czN f n + (if i < n then 1 else 0) := by
  intro n
  induction n with
  | zero => rfl
  | succ n ih =>
    unfold czN
    rw [ih, yU_if]
    by_cases e : n = i
    · rw [if_pos e, if_pos (Int.le_refl 0), if_neg (show ¬ i < n by omega), if_pos (show i < n + 1 by omega), e, if_neg (show ¬ f i ≤ 0 by omega)]
    · rw [if_neg e]
      by_cases c : i < n
      · rw [if_pos c, if_pos (show i < n + 1 by omega)]; omega
      · rw [if_neg c, if_neg (show ¬ i < n + 1 by omega)]; rfl
/-- while STATES are struck out: W is the row -/
def enI (Y : MS) (S : Nat) (W : Nat → Int) : Prop := ∀ s : Nat, s < S → W s ≤ 0 → wN Y (czN W S) (s : Int) = 0
theorem wN_stop2 {Y : MS} (h4 : Y.1 0 ≤ 4) {m : Nat} {g : Int} (h : wN Y m g = 0) : ∀ k, m ≤ k → wN Y k g = 0 := by
  intro k hk
  induction hk with
  | refl => exact h
  | @step k _ ih =>
    have a := wN_4 h4 k g
    have b := wN_nn (x := Y) (k + 1) g
    show wN Y (k + 1) g = 0
    omega
theorem wN_z {Y : MS} {k : Nat} {g : Int} (h : ∀ l : Nat, (l : Int) < Y.1 0 → ¬ (F_m_next Y g (l : Int)).1 = -9 → wN Y k (F_m_next Y g (l : Int)).1 = 0) : wN Y (k + 1) g = 0 := by
  rw [wN_s]
  have key : ∀ c : Nat, c ≤ (Y.1 0).toNat → wsm Y (wN Y k) g c = 0 := by
    intro c
    induction c with
    | zero => intro _; rfl
    | succ c ih =>
      intro hc
      rw [wsm_s, ih (by omega)]
      by_cases e : (F_m_next Y g (c : Int)).1 = -9
      · rw [if_pos e]; rfl
      · rw [if_neg e, h c (by omega) e]; rfl
  exact key _ (Nat.le_refl _)
theorem wN_z2 {Y : MS} {k : Nat} {g : Int} (h : wN Y (k + 1) g = 0) {l : Nat} (hl : (l : Int) < Y.1 0) (hn : ¬ (F_m_next Y g (l : Int)).1 = -9) : wN Y k (F_m_next Y g (l : Int)).1 = 0 := by
  rw [wN_s] at h
  have a := wsm_at (x := Y) (f := wN Y k) (g := g) (l := (l : Int)) (by omega) hn
  rw [Int.toNat_natCast] at a
  have b := wsm_m (x := Y) (wN_nn (x := Y) k) g (show l + 1 ≤ (Y.1 0).toNat by omega)
  have c := wsm_nn (x := Y) (wN_nn (x := Y) k) g l
  have d := wN_nn (x := Y) k (F_m_next Y g (l : Int)).1
  omega
def enQ (Y : MS) (S : Nat) (q : Int) : Prop := (q = 1 ∧ 0 < wN Y (S + 1) 0) ∨ (q = 0 ∧ wN Y (S + 1) 0 = 0)
theorem enQ_of {Y : MS} (h4 : Y.1 0 ≤ 4) {S : Nat} (hS : (S : Int) = Y.1 24) (s1 : 1 ≤ Y.1 24) {W : Nat → Int} (h : enI Y S W) (h2 : (∀ s : Nat, s < S → wN Y (S + 1) (s : Int) = 0 → W s ≤ 0) ∨ (∀ s : Nat, s < S → 0 < W s → ∃ l : Nat, (l : Int) < Y.1 0 ∧ ¬ (F_m_next Y (s : Int) (l : Int)).1 = -9 ∧ (F_m_next Y (s : Int) (l : Int)).1.toNat < S ∧ 0 ≤ (F_m_next Y (s : Int) (l : Int)).1 ∧ 0 < W (F_m_next Y (s : Int) (l : Int)).1.toNat)) (z : KS) : enQ Y S (if iC (W 0) ((0 : Int)) ≤ 0 then ((0 : Int), z) else ((1 : Int), z)).1 := by
  have ic := iC_gt (a := W 0) (b := (0 : Int))
  by_cases c : iC (W 0) ((0 : Int)) ≤ 0
  · rw [if_pos c]
    have w0 : W 0 ≤ 0 := by
      rcases Int.lt_or_le 0 (W 0) with p | p
      · have := ic.mpr p; omega
      · exact p
    exact Or.inr ⟨rfl, wN_stop2 h4 (h 0 (by omega) w0) _ (by have := czN_le W S; omega)⟩
  · rw [if_neg c]
    have w0 := ic.mp (by omega)
    refine Or.inl ⟨rfl, ?_⟩
    rcases h2 with h2 | h2
    · rcases Int.lt_or_eq_of_le (wN_nn (x := Y) (S + 1) 0) with p | p
      · exact p
      · have := h2 0 (by omega) p.symm; omega
    · have key : ∀ (k s : Nat), s < S → 0 < W s → 0 < wN Y k (s : Int) := by
        intro k
        induction k with
        | zero => intro s _ _; show (0 : Int) < 1; decide
        | succ k ih =>
          intro s hs hw
          obtain ⟨l, l1, l2, l3, l4, l5⟩ := h2 s hs hw
          have q := ih _ l3 l5
          rw [show (((F_m_next Y (s : Int) (l : Int)).1.toNat : Nat) : Int) = (F_m_next Y (s : Int) (l : Int)).1 by omega] at q
          rcases Int.lt_or_eq_of_le (wN_nn (x := Y) (k + 1) (s : Int)) with p | p
          · exact p
          · have := wN_z2 p.symm l1 l2; omega
      exact key _ 0 (by omega) w0
theorem endless_s {X : KS} {Y : MS} (hs : stE X Y) {S : Nat} (hS : (S : Int) = Y.1 24) (S9 : S ≤ 320) : ∀ n : Nat,
    (∀ (y : KS) (i : Nat), ksame [] [67, 68] X y → i ≤ S → (∀ j, j < i → y.2 (kWs (y.1 64 4)) j = 1) → 200000 + ((S : Int) - (i : Int)) < n → enQ Y S (F_a_isEndless_s n 0 y (i : Int) 0 0).1) ∧
    (∀ (y : KS) (b : Int) (d : Nat), ksame [] [67, 68] X y → d ≤ S + 1 → enI Y S (y.2 (kWs (y.1 64 4))) → (∀ s : Nat, s < S → wN Y d (s : Int) = 0 → y.2 (kWs (y.1 64 4)) s ≤ 0) → (b = 0 → ∀ s : Nat, s < S → 0 < y.2 (kWs (y.1 64 4)) s → ∃ l : Nat, (l : Int) < Y.1 0 ∧ ¬ (F_m_next Y (s : Int) (l : Int)).1 = -9 ∧ (F_m_next Y (s : Int) (l : Int)).1.toNat < S ∧ 0 ≤ (F_m_next Y (s : Int) (l : Int)).1 ∧ 0 < y.2 (kWs (y.1 64 4)) (F_m_next Y (s : Int) (l : Int)).1.toNat) → (321 - (d : Int)) * 400 + 5 < n → enQ Y S (F_a_isEndless_s n 1 y b (d : Int) 0).1) ∧
    (∀ (y : KS) (b : Int) (d i : Nat), ksame [] [67, 68] X y → d ≤ S → i ≤ S → (b = 0 ∨ b = 1) → enI Y S (y.2 (kWs (y.1 64 4))) → (∀ s : Nat, s < S → wN Y d (s : Int) = 0 → y.2 (kWs (y.1 64 4)) s ≤ 0) → (∀ s : Nat, s < i → wN Y (d + 1) (s : Int) = 0 → y.2 (kWs (y.1 64 4)) s ≤ 0) → (b = 0 → ∀ s : Nat, s < i → 0 < y.2 (kWs (y.1 64 4)) s → ∃ l : Nat, (l : Int) < Y.1 0 ∧ ¬ (F_m_next Y (s : Int) (l : Int)).1 = -9 ∧ (F_m_next Y (s : Int) (l : Int)).1.toNat < S ∧ 0 ≤ (F_m_next Y (s : Int) (l : Int)).1 ∧ 0 < y.2 (kWs (y.1 64 4)) (F_m_next Y (s : Int) (l : Int)).1.toNat) → (320 - (d : Int)) * 400 + (325 - (i : Int)) + 5 < n → enQ Y S (F_a_isEndless_s n 2 y b (d : Int) (i : Int)).1) := by
  have n1 := hs.1.2.2.2.1
  have n4 := hs.1.2.2.2.2
  have s1 := hs.1.2.2.1
  have nb : ∀ s l : Nat, s < S → (l : Int) < Y.1 0 → ¬ (F_m_next Y (s : Int) (l : Int)).1 = -9 → (F_m_next Y (s : Int) (l : Int)).1.toNat < S ∧ 0 ≤ (F_m_next Y (s : Int) (l : Int)).1 := fun s l h1 h2 h3 => by
    rcases hs.2 (s : Int) (l : Int) (by omega) (by omega) (by omega) h2 with ⟨_, k⟩ | ⟨k1, k2, k3⟩
    · exact absurd k h3
    · omega
  intro n
  induction n with
  | zero =>
    refine ⟨fun y i _ _ _ h => ?_, fun y b d _ _ _ _ _ h => ?_, fun y b d i _ _ _ _ _ _ _ _ h => ?_⟩
    all_goals omega
  | succ n ih =>
    obtain ⟨i0, i1, i2⟩ := ih
    refine ⟨fun y i fr hi row fu => ?_, fun y b d fr hd en ed ec fu => ?_, fun y b d i fr hd hi b01 en ed ei ec fu => ?_⟩
    · have e7 : y.1 64 7 = (S : Int) := by rw [fr.1 64 7 List.not_mem_nil, hs.1.1, hS]
      rw [F_a_isEndless_e0, e7]
      by_cases c : (S : Int) ≤ (i : Int)
      · rw [if_pos c]
        have r1 : ∀ j, j < S → y.2 (kWs (y.1 64 4)) j = 1 := fun j hj => row j (by omega)
        have := i1 y 1 0 fr (by omega) (fun s hs9 hz => by rw [r1 s hs9] at hz; exfalso; omega) (fun s hs9 hz => by have h9 : wN Y 0 (s : Int) = 1 := rfl; omega) (fun h9 => by exfalso; omega) (by omega)
        exact this
      · rw [if_neg c, Int.toNat_natCast]
        have := i0 (kA y (kWs (y.1 64 4)) i ((1 : Int))) (i + 1) (km_a (kWs_in (by decide) (by decide)) fr) (by omega) (fun j hj => by
          show (kA y (kWs (y.1 64 4)) i ((1 : Int))).2 (kWs (y.1 64 4)) j = 1
          rw [kA_s, yU_if]
          by_cases e : j = i
          · rw [if_pos e]
          · rw [if_neg e]; exact row j (by omega)) (by omega)
        exact this
    · have e7 : y.1 64 7 = (S : Int) := by rw [fr.1 64 7 List.not_mem_nil, hs.1.1, hS]
      rw [F_a_isEndless_e1, e7]
      by_cases c : (S : Int) < (d : Int)
      · rw [if_pos c]
        exact enQ_of n4 hS s1 en (Or.inl (fun s hs9 hz => ed s hs9 (by rw [show d = S + 1 by omega]; exact hz))) y
      · rw [if_neg c]
        by_cases c2 : b = 0
        · rw [if_pos c2]
          exact enQ_of n4 hS s1 en (Or.inr (ec c2)) y
        · rw [if_neg c2]
          have := i2 y 0 d 0 fr (by omega) (Nat.zero_le _) (Or.inl rfl) en ed (fun s hs9 => absurd hs9 (Nat.not_lt_zero _)) (fun _ s hs9 => absurd hs9 (Nat.not_lt_zero _)) (by omega)
          exact this
    · have e7 : y.1 64 7 = (S : Int) := by rw [fr.1 64 7 List.not_mem_nil, hs.1.1, hS]
      rw [F_a_isEndless_e2, e7]
      by_cases c : (S : Int) ≤ (i : Int)
      · rw [if_pos c]
        have := i1 y b (d + 1) fr (by omega) en (fun s hs9 hz => ei s (Nat.lt_of_lt_of_le hs9 (Int.ofNat_le.mp c)) hz) (fun h9 s hs9 => ec h9 s (Nat.lt_of_lt_of_le hs9 (Int.ofNat_le.mp c))) (by omega)
        exact this
      · rw [if_neg c, Int.toNat_natCast]
        have hsy : stE y Y := stE_fr fr List.not_mem_nil List.not_mem_nil (by decide) hs
        by_cases c2 : iC (y.2 (kWs (y.1 64 4)) i) ((0 : Int)) ≤ 0
        · rw [if_pos c2]
          have w0 : y.2 (kWs (y.1 64 4)) i ≤ 0 := by
            rcases Int.lt_or_le 0 (y.2 (kWs (y.1 64 4)) i) with p | p
            · have := (iC_gt (a := y.2 (kWs (y.1 64 4)) i) (b := (0 : Int))).mpr p; omega
            · exact p
          have := i2 y b d (i + 1) fr hd (by omega) b01 en ed (fun s hs9 hz => by
            by_cases e : s = i
            · rw [e]; exact w0
            · exact ei s (Nat.lt_of_le_of_ne (Nat.lt_succ_iff.mp hs9) e) hz) (fun h9 s hs9 hw => by
            by_cases e : s = i
            · rw [e] at hw; exfalso; omega
            · exact ec h9 s (Nat.lt_of_le_of_ne (Nat.lt_succ_iff.mp hs9) e) hw) (by omega)
          exact this
        · rw [if_neg c2]
          have w0 := (iC_gt (a := y.2 (kWs (y.1 64 4)) i) (b := (0 : Int))).mp (by omega)
          have G : ((F_a_goesOn y (i : Int)).1 = 1 ∧ _) ∨ ((F_a_goesOn y (i : Int)).1 = 0 ∧ _) := goesOn_s hsy (s := i) (by omega) 10 0 (by omega) (by omega)
          rcases G with ⟨g1, l, _, l2, l3, l4⟩ | ⟨g1, g2⟩
          · rw [g1, if_neg (by decide)]
            have nl := nb i l (by omega) l2 l3
            have := i2 y b d (i + 1) fr hd (by omega) b01 en ed (fun s hs9 hz => by
              by_cases e : s = i
              · rw [e] at hz
                have z := wN_z2 hz l2 l3
                have := ed _ nl.1 (by rw [show (((F_m_next Y (i : Int) (l : Int)).1.toNat : Nat) : Int) = (F_m_next Y (i : Int) (l : Int)).1 by omega]; exact z)
                exfalso; omega
              · exact ei s (Nat.lt_of_le_of_ne (Nat.lt_succ_iff.mp hs9) e) hz) (fun h9 s hs9 hw => by
              by_cases e : s = i
              · rw [e]; exact ⟨l, l2, l3, nl.1, nl.2, l4⟩
              · exact ec h9 s (Nat.lt_of_le_of_ne (Nat.lt_succ_iff.mp hs9) e) hw) (by omega)
            exact this
          · rw [g1, if_pos rfl]
            have rw9 : (kA y (kWs (y.1 64 4)) i ((0 : Int))).2 (kWs ((kA y (kWs (y.1 64 4)) i ((0 : Int))).1 64 4)) = iU (y.2 (kWs (y.1 64 4))) i 0 := kA_s
            have le : ∀ s, iU (y.2 (kWs (y.1 64 4))) i 0 s ≤ 0 ∨ (s ≠ i ∧ iU (y.2 (kWs (y.1 64 4))) i 0 s = y.2 (kWs (y.1 64 4)) s) := fun s => by
              rw [yU_if]
              by_cases e : s = i
              · rw [if_pos e]; exact Or.inl (Int.le_refl _)
              · rw [if_neg e]; exact Or.inr ⟨e, rfl⟩
            have cz := czN_u w0 S
            rw [if_pos (show i < S by omega)] at cz
            have mono : ∀ s, y.2 (kWs (y.1 64 4)) s ≤ 0 → iU (y.2 (kWs (y.1 64 4))) i 0 s ≤ 0 := fun s h9 => by
              rcases le s with h8 | ⟨_, h8⟩
              · exact h8
              · rw [h8]; exact h9
            have := i2 (kA y (kWs (y.1 64 4)) i ((0 : Int))) 1 d (i + 1) (km_a (kWs_in (by decide) (by decide)) fr) hd (by omega) (Or.inr rfl) (by
              rw [rw9]
              intro s hs9 hz
              rw [cz]
              by_cases e : s = i
              · rw [e]
                refine wN_z (fun l l1 l2 => ?_)
                have nl := nb i l (by omega) l1 l2
                have z := en _ nl.1 (g2 l (Nat.zero_le _) l1 l2)
                rw [show (((F_m_next Y (i : Int) (l : Int)).1.toNat : Nat) : Int) = (F_m_next Y (i : Int) (l : Int)).1 by omega] at z
                exact z
              · rw [iU_n e] at hz
                exact wN_stop2 n4 (en s hs9 hz) _ (by omega)) (by
              rw [rw9]
              exact fun s hs9 hz => mono s (ed s hs9 hz)) (by
              rw [rw9]
              intro s hs9 hz
              by_cases e : s = i
              · rw [e, iU_s]; exact Int.le_refl _
              · exact mono s (ei s (by omega) hz)) (fun h9 => by exfalso; omega) (by omega)
            exact this
theorem endless_x {X : KS} {Y : MS} (hs : stE X Y) (h320 : X.1 64 7 ≤ 320) : enQ Y (Y.1 24).toNat (F_a_isEndless X).1 := by
  have e1 := hs.1.1
  have s1 := hs.1.2.2.1
  exact (endless_s hs (S := (Y.1 24).toNat) (by omega) (by omega) 201000).1 X 0 (km_rf _ _ _) (Nat.zero_le _) (fun j hj => by omega) (by omega)
/-- tally: the counts, and ENDLESS -/
theorem tally_x {X : KS} {Y : MS} (hs : stE X Y) (ma : maR X) (d : dz X) : dz (F_a_tally X).2 ∧ (∀ k : Nat, k < 32 → (F_a_tally X).2.2 69 k = wN Y k 0) ∧ enQ Y (Y.1 24).toNat ((F_a_tally X).2.1 64 9) := by
  have l2 := stE_l hs
  have ms := stE_ms hs
  have e1 := hs.1.1
  have s1 := hs.1.2.2.1
  have h320 := ma.1.2
  have fe := F_a_isEndless_fr X
  have wy : wyK X (kS (F_a_isEndless X).2 64 9 (F_a_isEndless X).1) := by
    refine ⟨?_, ?_, ?_, ?_⟩
    · rw [kS_c (by decide)]; exact fe.1 1 2 List.not_mem_nil
    · rw [kS_k (by decide)]; exact fe.1 64 7 List.not_mem_nil
    · rw [kS_2]; exact fe.2 66 (by decide)
    · unfold dz
      rw [kS_k (by decide), kS_k (by decide), fe.1 64 4 List.not_mem_nil, fe.1 64 5 List.not_mem_nil]
      exact d
  have ma2 : maR (kS (F_a_isEndless X).2 64 9 (F_a_isEndless X).1) := by
    unfold maR
    rw [kS_k (by decide), kS_2, fe.1 64 7 List.not_mem_nil, fe.2 65 (by decide), fe.2 66 (by decide)]
    exact ma
  have T := tally_0 l2 ms (by omega) h320 500 (kS (F_a_isEndless X).2 64 9 (F_a_isEndless X).1) 0 wy ma2 (fun j hj => by omega) (by omega) (by omega)
  refine ⟨T.1, fun k hk => ?_, ?_⟩
  · have e : (F_a_tally X).2.2 69 k = kWn X k 0 := T.2 k hk
    rw [e, kW_eq hs k 0 (by omega)]
    rfl
  · have key : ∀ (n t : Nat) (y : KS) (i : Int), (F_a_tally_s n t y i).2.1 64 9 = y.1 64 9 := by
      intro n
      induction n with
      | zero => intro t y i; rfl
      | succ n ih =>
        intro t y i
        match t with
        | 0 =>
          rw [F_a_tally_e0]
          split
          · exact ih _ _ _
          · rw [ih]; rfl
        | 1 =>
          rw [F_a_tally_e1]
          split
          · rfl
          · rw [ih, (F_a_lengthen_fr _).1 64 9 (by decide)]; rfl
        | t + 2 => rfl
    have e : (F_a_tally X).2.1 64 9 = (F_a_isEndless X).1 := (key 500 0 _ 0).trans kS_s
    rw [e]
    exact endless_x hs h320
