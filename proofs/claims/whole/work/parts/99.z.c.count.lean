-- deps: 99.z.b
def wsm (x : MS) (f : Int → Int) (g : Int) : Nat → Int
  | 0 => 0
  | c + 1 => wsm x f g c + (if (F_m_next x g (c : Int)).1 = -9 then 0 else f (F_m_next x g (c : Int)).1)
/-- how many STRINGS of j LETTERS lead on from STATE g -/
def wN (x : MS) : Nat → Int → Int
  | 0, _ => 1
  | j + 1, g => wsm x (wN x j) g (x.1 0).toNat
theorem wsm_b {x : MS} {f : Int → Int} {B : Int} (hf : ∀ g, 0 ≤ f g ∧ f g ≤ B) (g : Int) : ∀ c : Nat, 0 ≤ wsm x f g c ∧ wsm x f g c ≤ (c : Int) * B := by
  intro c
  induction c with
  | zero => exact ⟨Int.le_refl 0, by show (0 : Int) ≤ ((0 : Nat) : Int) * B; rw [Int.natCast_zero, Int.zero_mul]; exact Int.le_refl 0⟩
  | succ c ih =>
    have h9 := hf (F_m_next x g (c : Int)).1
    have e : ((c + 1 : Nat) : Int) * B = (c : Int) * B + B := by rw [Int.natCast_add, Int.add_mul]; show _ + 1 * B = _; rw [Int.one_mul]
    unfold wsm
    rw [e]
    by_cases h : (F_m_next x g (c : Int)).1 = -9
    · rw [if_pos h]; omega
    · rw [if_neg h]; omega
theorem wN_b {x : MS} (h4 : x.1 0 ≤ 4) : ∀ (j : Nat) (g : Int), 0 ≤ wN x j g ∧ wN x j g ≤ (4 : Int) ^ j := by
  intro j
  induction j with
  | zero => intro g; exact ⟨by show (0 : Int) ≤ 1; decide, by show (1 : Int) ≤ 4 ^ 0; decide⟩
  | succ j ih =>
    intro g
    have h := wsm_b (x := x) ih g (x.1 0).toNat
    refine ⟨h.1, Int.le_trans h.2 ?_⟩
    rw [Int.pow_succ, Int.mul_comm]
    have hp : (0 : Int) ≤ 4 ^ j := Int.le_trans (ih 0).1 (ih 0).2
    exact Int.mul_le_mul_of_nonneg_left (by omega) hp
theorem wN_62 {x : MS} (h4 : x.1 0 ≤ 4) {j : Nat} (hj : j ≤ 30) (g : Int) : 0 ≤ wN x j g ∧ wN x j g ≤ 4611686018427387904 := by
  have h := wN_b h4 j g
  refine ⟨h.1, Int.le_trans h.2 ?_⟩
  have e : (4 : Nat) ^ j ≤ 4 ^ 30 := Nat.pow_le_pow_right (by decide) hj
  have e2 : ((4 ^ j : Nat) : Int) ≤ ((4 ^ 30 : Nat) : Int) := Int.ofNat_le.mpr e
  rw [Int.natCast_pow] at e2
  exact Int.le_trans e2 (by decide)
def cyI (x y : MS) (k : Int) : Prop := ∀ j g : Nat, (j : Int) < k → (g : Int) < x.1 24 → y.2 28 (31 * g + j) = wN x j (g : Int)
def cyG (x y : MS) (k g : Int) : Prop := ∀ a : Nat, (a : Int) < g → (a : Int) < x.1 24 → y.2 28 (31 * a + k.toNat) = wN x k.toNat (a : Int)
def cyV (x : MS) (k g c : Int) : Int := if k = 0 then 1 else wsm x (wN x (k - 1).toNat) g c.toNat
theorem cyI_s {x y : MS} {k g : Int} (k0 : 0 ≤ k) (h : cyI x y k) (hg : cyG x y k g) (hs : x.1 24 ≤ g) : cyI x y (k + (1 : Int)) := by
  intro j a hj ha
  by_cases e : (j : Int) = k
  · have h9 := hg a (by omega) ha
    rw [show k.toNat = j by omega] at h9; exact h9
  · exact h j a (by omega) ha
theorem cyI_u {x y : MS} {k g v : Int} (k0 : 0 ≤ k) (k1 : k ≤ 30) (g0 : 0 ≤ g) (h : cyI x y k) : cyI x (aU y 28 ((31 : Int) * g + k).toNat v) k := by
  intro j a hj ha
  rw [yU_s, iU_n (by omega)]; exact h j a hj ha
theorem cyG_u {x y : MS} {k g v : Int} (k0 : 0 ≤ k) (k1 : k ≤ 30) (g0 : 0 ≤ g) (h : cyG x y k g) (hv : v = wN x k.toNat g) : cyG x (aU y 28 ((31 : Int) * g + k).toNat v) k (g + (1 : Int)) := by
  intro a ha ha2
  rw [yU_s]
  by_cases e : (a : Int) = g
  · rw [show 31 * a + k.toNat = ((31 : Int) * g + k).toNat by omega, iU_s, hv, e]
  · rw [iU_n (by omega)]; exact h a (by omega) ha2
theorem cyV_1 {x : MS} {k g : Int} (e : k = 0) : (1 : Int) = cyV x k g ((0 : Int)) := by unfold cyV; rw [if_pos e]
theorem cyV_0 {x : MS} {k g : Int} (e : ¬ k = 0) : (0 : Int) = cyV x k g ((0 : Int)) := by unfold cyV; rw [if_neg e]; rfl
theorem cyV_e {x : MS} {k g c q : Int} (k0 : 0 ≤ k) (h : q = cyV x k g c) (hc : x.1 0 ≤ c ∨ k ≤ 0) (hc2 : c ≤ x.1 0) : q = wN x k.toNat g := by
  rw [h]; unfold cyV
  by_cases e : k = 0
  · rw [if_pos e, e]; rfl
  · rw [if_neg e, show k.toNat = (k - 1).toNat + 1 by omega, show c.toNat = (x.1 0).toNat by omega]; rfl
theorem cyV_s {x : MS} {k g c q v : Int} (c1 : 0 ≤ c) (k0 : ¬ k ≤ 0) (h : q = cyV x k g c) (hv : v = if (F_m_next x g c).1 = -9 then 0 else wN x (k - 1).toNat (F_m_next x g c).1) : q + v = cyV x k g (c + (1 : Int)) := by
  have hk : ¬ k = 0 := by omega
  rw [h, hv]; unfold cyV
  rw [if_neg hk, if_neg hk, show (c + (1 : Int)).toNat = c.toNat + 1 by omega]
  show _ = wsm x _ g c.toNat + _
  rw [show ((c.toNat : Nat) : Int) = c by omega]
theorem wyR_up {y : MS} {i : Nat} {v : Int} (h : wyR y) (hv : 0 ≤ v ∧ v ≤ 4611686018427387904) : wyR (aU y 28 i v) := by
  intro k hk
  rw [yU_s, yU_if]
  by_cases e : k = i
  · rw [if_pos e]; exact hv
  · rw [if_neg e]; exact h k hk
def cyQ (x : MS) (q : Int × MS) : Prop := same [] [28] x q.2 ∧ wyR q.2 ∧ cyI x q.2 31
theorem cyQ_1 {x y : MS} {k v : Int} (sm : same [] [28] x y) (wr : wyR y) (h : cyI x y k) (hk : 30 < k) : cyQ x (v, y) := ⟨sm, wr, fun j g h1 h2 => h j g (by omega) h2⟩
theorem cy_nx {x y : MS} (sm : same [] [28] x y) (a c : Int) : (F_m_next y a c).1 = (F_m_next x a c).1 := nx_same sm (by decide) (by decide) (by decide) (by decide) a c
theorem cy_wv {x y : MS} {k g c : Int} (sm : same [] [28] x y) (h : cyI x y k) (k0 : ¬ k ≤ 0) (hn : (F_m_next y g c).1 = -9 ∨ (0 ≤ (F_m_next y g c).1 ∧ (F_m_next y g c).1 < y.1 24)) (h9 : ¬ (F_m_next y g c).1 = -9) : y.2 28 (((31 : Int) * (F_m_next y g c).1 + k) - (1 : Int)).toNat = if (F_m_next x g c).1 = -9 then 0 else wN x (k - 1).toNat (F_m_next x g c).1 := by
  have e24 : y.1 24 = x.1 24 := sm.1 24 List.not_mem_nil
  rw [cy_nx sm] at *
  rw [if_neg h9]
  have h8 := hn.resolve_left h9
  have hh := h (k - 1).toNat (F_m_next x g c).1.toNat (by omega) (by omega)
  rw [show (((31 : Int) * (F_m_next x g c).1 + k) - (1 : Int)).toNat = 31 * (F_m_next x g c).1.toNat + (k - 1).toNat by omega, hh, show (((F_m_next x g c).1.toNat : Nat) : Int) = (F_m_next x g c).1 by omega]
theorem cy_w0 {x y : MS} {k g c : Int} (sm : same [] [28] x y) (h9 : (F_m_next y g c).1 = -9) : (0 : Int) = if (F_m_next x g c).1 = -9 then 0 else wN x (k - 1).toNat (F_m_next x g c).1 := by
  rw [cy_nx sm] at h9; rw [if_pos h9]
set_option maxHeartbeats 4000000 in
theorem F_m_countAll_p (x : MS)  (au : auOK x) (hwy : wyR x) : cyQ x (F_m_countAll (x)) := by
  have L : ∀ n : Nat, (∀ (y : MS) (k : Int), (same [] [28] x y) → (wyR y) → (cyI x y k) → (0 ≤ k) → (k ≤ 31) → ((31 - k) * 6000 + 10 < n) → cyQ x (F_m_countAll_s n 0 y k 0 0 0)) ∧ (∀ (y : MS) (k : Int) (g : Int), (same [] [28] x y) → (wyR y) → (cyI x y k) → (cyG x y k g) → (0 ≤ k) → (k ≤ 30) → (0 ≤ g) → (g ≤ 850) → ((30 - k) * 6000 + (850 - g) * 7 + 20 < n) → cyQ x (F_m_countAll_s n 1 y k g 0 0)) ∧ (∀ (y : MS) (k : Int) (g : Int) (q : Int) (c0 : Int), (same [] [28] x y) → (wyR y) → (cyI x y k) → (cyG x y k g) → (q = cyV x k g c0) → (0 ≤ k) → (k ≤ 30) → (0 ≤ g) → (g < y.1 24) → (g < 850) → (0 ≤ c0) → (c0 ≤ 4) → (c0 ≤ x.1 0) → ((30 - k) * 6000 + (849 - g) * 7 + (4 - c0) + 21 < n) → cyQ x (F_m_countAll_s n 2 y k g q c0)) := by
    intro n
    induction n with
    | zero =>
      refine ⟨?_, ?_, ?_⟩
      · intro y k sm wr cy k0 k1 fu
        exact absurd fu (by omega)
      · intro y k g sm wr cy cg k0 k1 g0 g1 fu
        exact absurd fu (by omega)
      · intro y k g q c0 sm wr cy cg cq k0 k1 g0 g1 g2 c1 c2 c3 fu
        exact absurd fu (by omega)
    | succ n ih =>
      refine ⟨?_, ?_, ?_⟩
      · intro y k sm wr cy k0 k1 fu
        rw [F_m_countAll_e0]
        by_cases c_5 : ((30 : Int)) < (k)
        · rw [if_pos c_5]
          exact cyQ_1 sm wr cy (by omega)
        · rw [if_neg c_5]
          exact ih.2.1 (y) (k) ((0 : Int)) (sm) (wr) (cy) (fun a ha _ => by omega) (by omega) (by omega) (by omega) (by omega) (by omega)
      · intro y k g sm wr cy cg k0 k1 g0 g1 fu
        rw [F_m_countAll_e1]
        have auy := auOK_same au sm (by decide) (by decide) (by decide) (by decide)
        have u0 := auy.1.1
        have u1 := auy.1.2.1
        have u2 := auy.1.2.2.1
        have u3 := auy.1.2.2.2
        have y24 : y.1 24 = x.1 24 := sm.1 24 List.not_mem_nil
        have y00 : y.1 0 = x.1 0 := sm.1 0 List.not_mem_nil
        have x4 := au.1.2.2.2
        by_cases c_15 : ((y).1 24) ≤ (g)
        · rw [if_pos c_15]
          exact ih.1 (y) ((k) + (1 : Int)) (sm) (wr) (cyI_s k0 cy cg (by omega)) (by omega) (by omega) (by omega)
        · rw [if_neg c_15]
          by_cases c_19 : (k) = (0)
          · rw [if_pos c_19]
            exact ih.2.2 (y) (k) (g) ((1 : Int)) ((0 : Int)) (sm) (wr) (cy) (cg) (cyV_1 (by assumption)) (by omega) (by omega) (by omega) (by first | assumption | omega) (by omega) (by omega) (by omega) (by omega) (by omega)
          · rw [if_neg c_19]
            exact ih.2.2 (y) (k) (g) ((0 : Int)) ((0 : Int)) (sm) (wr) (cy) (cg) (cyV_0 (by assumption)) (by omega) (by omega) (by omega) (by first | assumption | omega) (by omega) (by omega) (by omega) (by omega) (by omega)
      · intro y k g q c0 sm wr cy cg cq k0 k1 g0 g1 g2 c1 c2 c3 fu
        rw [F_m_countAll_e2]
        have auy := auOK_same au sm (by decide) (by decide) (by decide) (by decide)
        have u0 := auy.1.1
        have u1 := auy.1.2.1
        have u2 := auy.1.2.2.1
        have u3 := auy.1.2.2.2
        have y24 : y.1 24 = x.1 24 := sm.1 24 List.not_mem_nil
        have y00 : y.1 0 = x.1 0 := sm.1 0 List.not_mem_nil
        have x4 := au.1.2.2.2
        by_cases c_37 : ((y).1 0) ≤ (c0)
        · rw [if_pos c_37]
          exact ih.2.1 (aU (y) 28 ((((31 : Int)) * (g)) + (k)).toNat (q)) (k) ((g) + (1 : Int)) (sm_a (by decide) sm) (wyR_up wr (by rw [cyV_e k0 cq (by omega) c3]; exact wN_62 x4 (by omega) g)) (cyI_u k0 k1 g0 cy) (cyG_u k0 k1 g0 cg (cyV_e k0 cq (by omega) c3)) (by omega) (by omega) (by omega) (by omega) (by omega)
        · rw [if_neg c_37]
          by_cases c_41 : (k) ≤ (0)
          · rw [if_pos c_41]
            exact ih.2.1 (aU (y) 28 ((((31 : Int)) * (g)) + (k)).toNat (q)) (k) ((g) + (1 : Int)) (sm_a (by decide) sm) (wyR_up wr (by rw [cyV_e k0 cq (by omega) c3]; exact wN_62 x4 (by omega) g)) (cyI_u k0 k1 g0 cy) (cyG_u k0 k1 g0 cg (cyV_e k0 cq (by omega) c3)) (by omega) (by omega) (by omega) (by omega) (by omega)
          · rw [if_neg c_41]
            have hn9 := auy.2 g c0 (by omega) (by omega) (by omega) (by omega)
            have hn8 := hn9.2
            by_cases c_58 : ((F_m_next (y) (g) (c0)).1) = ((-9 : Int))
            · rw [if_pos c_58]
              exact ih.2.2 (y) (k) (g) ((q) + ((0 : Int))) ((c0) + (1 : Int)) (sm) (wr) (cy) (cg) (cyV_s c1 (by assumption) cq (cy_w0 sm (by assumption))) (by omega) (by omega) (by omega) (by first | assumption | omega) (by omega) (by omega) (by omega) (by omega) (by omega)
            · rw [if_neg c_58]
              exact ih.2.2 (y) (k) (g) ((q) + (((y).2 28) (((((31 : Int)) * ((F_m_next (y) (g) (c0)).1)) + (k)) - ((1 : Int))).toNat)) ((c0) + (1 : Int)) (sm) (wr) (cy) (cg) (cyV_s c1 (by assumption) cq (cy_wv sm cy (by assumption) hn8 (by assumption))) (by omega) (by omega) (by omega) (by first | assumption | omega) (by omega) (by omega) (by omega) (by omega) (by omega)
  unfold F_m_countAll
  exact (L (190000)).1 (x) ((0 : Int)) (sm_rf _ _ _) (hwy) (fun j g h1 _ => by omega) (by omega) (by omega) (by omega)
