-- deps: A0.m
/-! ways through THE MACHINE, their numbers; one number, one way -/
theorem wsm_nn {x : MS} {f : Int → Int} (hf : ∀ g, 0 ≤ f g) (g : Int) : ∀ c : Nat, 0 ≤ wsm x f g c := by
  intro c
  induction c with
  | zero => exact Int.le_refl 0
  | succ c ih =>
    unfold wsm
    by_cases h : (F_m_next x g (c : Int)).1 = -9
    · rw [if_pos h]; omega
    · rw [if_neg h]; have := hf (F_m_next x g (c : Int)).1; omega
theorem wsm_s (x : MS) (f : Int → Int) (g : Int) (c : Nat) : wsm x f g (c + 1) = wsm x f g c + (if (F_m_next x g (c : Int)).1 = -9 then 0 else f (F_m_next x g (c : Int)).1) := rfl
theorem wsm_m {x : MS} {f : Int → Int} (hf : ∀ g, 0 ≤ f g) (g : Int) {c d : Nat} (h : c ≤ d) : wsm x f g c ≤ wsm x f g d := by
  induction h with
  | refl => exact Int.le_refl _
  | @step d _ ih =>
    rw [wsm_s]
    by_cases h : (F_m_next x g (d : Int)).1 = -9
    · rw [if_pos h]; omega
    · rw [if_neg h]; have := hf (F_m_next x g (d : Int)).1; omega
theorem wsm_le {x : MS} {f h : Int → Int} (hf : ∀ g, f g ≤ h g) (g : Int) : ∀ c : Nat, wsm x f g c ≤ wsm x h g c := by
  intro c
  induction c with
  | zero => exact Int.le_refl 0
  | succ c ih =>
    rw [wsm_s, wsm_s]
    by_cases h9 : (F_m_next x g (c : Int)).1 = -9
    · rw [if_pos h9, if_pos h9]; omega
    · rw [if_neg h9, if_neg h9]; have := hf (F_m_next x g (c : Int)).1; omega
theorem wsm_a {x : MS} {f h k : Int → Int} (hf : ∀ g, k g = f g + h g) (g : Int) : ∀ c : Nat, wsm x k g c = wsm x f g c + wsm x h g c := by
  intro c
  induction c with
  | zero => rfl
  | succ c ih =>
    rw [wsm_s, wsm_s, wsm_s, ih]
    by_cases h9 : (F_m_next x g (c : Int)).1 = -9
    · rw [if_pos h9, if_pos h9, if_pos h9]; omega
    · rw [if_neg h9, if_neg h9, if_neg h9, hf]; omega
theorem wsm_k {x : MS} {f h : Int → Int} {m : Int} (hf : ∀ g, h g = m * f g) (g : Int) : ∀ c : Nat, wsm x h g c = m * wsm x f g c := by
  intro c
  induction c with
  | zero => show (0 : Int) = m * 0; omega
  | succ c ih =>
    rw [wsm_s, wsm_s, ih, Int.mul_add]
    by_cases h9 : (F_m_next x g (c : Int)).1 = -9
    · rw [if_pos h9, if_pos h9]; omega
    · rw [if_neg h9, if_neg h9, hf]
theorem wN_nn {x : MS} : ∀ (j : Nat) (g : Int), 0 ≤ wN x j g := by
  intro j
  induction j with
  | zero => intro g; show (0 : Int) ≤ 1; decide
  | succ j ih => intro g; exact wsm_nn ih g _
theorem wN_s (x : MS) (j : Nat) (g : Int) : wN x (j + 1) g = wsm x (wN x j) g (x.1 0).toNat := rfl
theorem wN_4 {x : MS} (h4 : x.1 0 ≤ 4) : ∀ (j : Nat) (g : Int), wN x (j + 1) g ≤ 4 * wN x j g := by
  intro j
  induction j with
  | zero =>
    intro g
    have h := (wsm_b (x := x) (f := wN x 0) (B := 1) (fun g => ⟨by show (0 : Int) ≤ 1; decide, Int.le_refl 1⟩) g (x.1 0).toNat).2
    rw [wN_s]
    show _ ≤ 4 * (1 : Int)
    omega
  | succ j ih =>
    intro g
    rw [wN_s x (j + 1), wN_s x j]
    have h1 := wsm_le (x := x) (f := wN x (j + 1)) (h := fun q => 4 * wN x j q) ih g (x.1 0).toNat
    have h2 := wsm_k (x := x) (f := wN x j) (h := fun q => 4 * wN x j q) (m := 4) (fun _ => rfl) g (x.1 0).toNat
    omega
/-- u leads on from STATE g -/
def pth (x : MS) : Int → List Int → Prop
  | _, [] => True
  | g, l :: t => (0 ≤ l ∧ l < x.1 0) ∧ ¬ (F_m_next x g l).1 = -9 ∧ pth x (F_m_next x g l).1 t
theorem wsm_at {x : MS} {f : Int → Int} {g l : Int} (l0 : 0 ≤ l) (h : ¬ (F_m_next x g l).1 = -9) : wsm x f g (l.toNat + 1) = wsm x f g l.toNat + f (F_m_next x g l).1 := by
  rw [wsm_s, show ((l.toNat : Nat) : Int) = l by omega, if_neg h]
theorem rk2_b {x : MS} : ∀ (u : List Int) (g : Int), pth x g u → 0 ≤ rk2 x g u ∧ rk2 x g u < wN x u.length g := by
  intro u
  induction u with
  | nil => intro g _; exact ⟨by show (0 : Int) ≤ 0; decide, by show (0 : Int) < 1; decide⟩
  | cons l t ih =>
    intro g h
    obtain ⟨⟨l0, l1⟩, hn, hp⟩ := h
    have b := ih _ hp
    have e : rk2 x g (l :: t) = wsm x (wN x t.length) g l.toNat + rk2 x (F_m_next x g l).1 t := rfl
    have a := wsm_at (f := wN x t.length) l0 hn
    have m := wsm_m (x := x) (wN_nn (x := x) t.length) g (show l.toNat + 1 ≤ (x.1 0).toNat by omega)
    have z := wsm_nn (x := x) (wN_nn (x := x) t.length) g l.toNat
    rw [List.length_cons, wN_s, e]
    omega
theorem rk2_one {x : MS} : ∀ (u v : List Int) (g : Int), u.length = v.length → pth x g u → pth x g v → rk2 x g u = rk2 x g v → u = v := by
  intro u
  induction u with
  | nil => intro v g hl _ _ _; exact (List.eq_nil_of_length_eq_zero hl.symm).symm
  | cons l t ih =>
    intro v g hl hu hv e
    cases v with
    | nil => exact absurd hl (by simp)
    | cons k s =>
      obtain ⟨⟨l0, l1⟩, hn, hp⟩ := hu
      obtain ⟨⟨k0, k1⟩, kn, kp⟩ := hv
      have ls : t.length = s.length := by rw [List.length_cons, List.length_cons] at hl; omega
      have e1 : rk2 x g (l :: t) = wsm x (wN x t.length) g l.toNat + rk2 x (F_m_next x g l).1 t := rfl
      have e2 : rk2 x g (k :: s) = wsm x (wN x s.length) g k.toNat + rk2 x (F_m_next x g k).1 s := rfl
      rw [← ls] at e2
      have b1 := rk2_b t _ hp
      have b2 := rk2_b s _ kp
      rw [← ls] at b2
      have a1 := wsm_at (f := wN x t.length) l0 hn
      have a2 := wsm_at (f := wN x t.length) k0 kn
      rcases Nat.lt_trichotomy l.toNat k.toNat with c | c | c
      · have m := wsm_m (x := x) (wN_nn (x := x) t.length) g (show l.toNat + 1 ≤ k.toNat by omega)
        exfalso; omega
      · have elk : l = k := by omega
        subst elk
        rw [ih s _ ls hp kp (by omega)]
      · have m := wsm_m (x := x) (wN_nn (x := x) t.length) g (show k.toNat + 1 ≤ l.toNat by omega)
        exfalso; omega
theorem rk1_s (x : MS) (m : Nat) : rk1 x (m + 1) = rk1 x m + wN x m 0 := rfl
theorem rk1_m {x : MS} {a b : Nat} (h : a ≤ b) : rk1 x a ≤ rk1 x b := by
  induction h with
  | refl => exact Int.le_refl _
  | @step b _ ih => rw [rk1_s]; have := wN_nn (x := x) b 0; omega
theorem rkV_b {x : MS} {u : List Int} (h : pth x 0 u) : rk1 x u.length ≤ rkV x u ∧ rkV x u < rk1 x (u.length + 1) := by
  have b := rk2_b u 0 h
  unfold rkV
  rw [rk1_s]
  omega
/-- one number, one STRING -/
theorem rkV_one {x : MS} {u v : List Int} (hu : pth x 0 u) (hv : pth x 0 v) (e : rkV x u = rkV x v) : u = v := by
  have b1 := rkV_b hu
  have b2 := rkV_b hv
  have l : u.length = v.length := by
    rcases Nat.lt_trichotomy u.length v.length with c | c | c
    · have m := rk1_m (x := x) (show u.length + 1 ≤ v.length by omega); exfalso; omega
    · exact c
    · have m := rk1_m (x := x) (show v.length + 1 ≤ u.length by omega); exfalso; omega
  refine rk2_one u v 0 l hu hv ?_
  unfold rkV at e
  rw [l] at e
  omega
/-- what has no LEFT side in it is a way from STATE 0 -/
theorem pth_of {x : MS} {u : List Int} (hp : plX x) (l0 : 0 ≤ x.1 0) (hu : noL (lM x) (x.1 12).toNat u) (ok : okL (x.1 0).toNat u) : pth x 0 u := by
  have key : ∀ (n k : Nat) (g : Int), u.length - k ≤ n → k ≤ u.length → rkA x u k g → pth x g (u.drop k) := by
    intro n
    induction n with
    | zero =>
      intro k g h1 h2 _
      rw [List.drop_eq_nil_of_le (by omega)]
      trivial
    | succ n ih =>
      intro k g h1 h2 ha
      by_cases c : k < u.length
      · have o := ok _ (List.getElem_mem c)
        have s := rkA_s (k9 := (k : Int)) (g := g) (l := u[k]) (by omega) ha hu (by rw [Int.toNat_natCast]; exact c) (by simp) o.1 (by omega)
        rw [show ((k : Int) + (1 : Int)).toNat = k + 1 by omega] at s
        have b := rkA_b s
        rw [List.drop_eq_getElem_cons c]
        exact ⟨⟨o.1, by omega⟩, by omega, ih (k + 1) _ (by omega) (by omega) s⟩
      · rw [List.drop_eq_nil_of_le (by omega)]
        trivial
  have h := key u.length 0 0 (by omega) (Nat.zero_le _) (rkA_0 hp u)
  rw [List.drop_zero] at h
  exact h
/-! how many turns a search takes at most -/
def tE (x : MS) : Nat → Int → Int
  | 0, _ => 0
  | r + 1, g => 1 + wsm x (fun q => 1 + tE x r q) g (x.1 0).toNat
def sN (x : MS) : Nat → Int → Int
  | 0, _ => 1
  | r + 1, g => 1 + wsm x (sN x r) g (x.1 0).toNat
theorem tE_nn {x : MS} : ∀ (r : Nat) (g : Int), 0 ≤ tE x r g := by
  intro r
  induction r with
  | zero => intro g; exact Int.le_refl 0
  | succ r ih =>
    intro g
    have h := wsm_nn (x := x) (f := fun q => 1 + tE x r q) (fun q => by have := ih q; show 0 ≤ 1 + tE x r q; omega) g (x.1 0).toNat
    show 0 ≤ 1 + wsm x (fun q => 1 + tE x r q) g (x.1 0).toNat
    omega
theorem tE_s {x : MS} : ∀ (r : Nat) (g : Int), tE x r g ≤ 2 * sN x r g - 1 := by
  intro r
  induction r with
  | zero => intro g; show (0 : Int) ≤ 2 * 1 - 1; decide
  | succ r ih =>
    intro g
    have h1 := wsm_le (x := x) (f := fun q => 1 + tE x r q) (h := fun q => 2 * sN x r q) (fun q => by have := ih q; show 1 + tE x r q ≤ 2 * sN x r q; omega) g (x.1 0).toNat
    have h2 := wsm_k (x := x) (f := sN x r) (h := fun q => 2 * sN x r q) (m := 2) (fun _ => rfl) g (x.1 0).toNat
    show 1 + wsm x (fun q => 1 + tE x r q) g (x.1 0).toNat ≤ 2 * (1 + wsm x (sN x r) g (x.1 0).toNat) - 1
    omega
theorem sN_a {x : MS} : ∀ (r : Nat) (g : Int), sN x (r + 1) g = sN x r g + wN x (r + 1) g := by
  intro r
  induction r with
  | zero => intro g; rfl
  | succ r ih =>
    intro g
    have h := wsm_a (x := x) (f := sN x r) (h := wN x (r + 1)) (k := sN x (r + 1)) ih g (x.1 0).toNat
    show 1 + wsm x (sN x (r + 1)) g (x.1 0).toNat = (1 + wsm x (sN x r) g (x.1 0).toNat) + wsm x (wN x (r + 1)) g (x.1 0).toNat
    omega
theorem sN_k {x : MS} : ∀ r : Nat, sN x r 0 = rk1 x (r + 1) := by
  intro r
  induction r with
  | zero => rfl
  | succ r ih => rw [sN_a, ih, rk1_s x (r + 1)]
theorem tE_b {x : MS} (h4 : x.1 0 ≤ 4) {m : Nat} (hm : 1 ≤ m) : tE x m 0 ≤ 10 * rk1 x m := by
  have h := tE_s (x := x) m 0
  rw [sN_k, rk1_s] at h
  obtain ⟨k, rfl⟩ : ∃ k, m = k + 1 := ⟨m - 1, by omega⟩
  have h2 := wN_4 h4 k 0
  have h3 := rk1_s x k
  have h4 := rk1_m (x := x) (Nat.zero_le k)
  have h5 : rk1 x 0 = 0 := rfl
  omega
