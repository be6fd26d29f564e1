-- deps: 99.z.j
/-! which numbers are joined: a relation, and its least ones -/
def ufR (f : Nat → Int) (B : Int) (R : Int → Int → Prop) : Prop := ldn f B ∧ ∀ u v : Int, 0 ≤ u → u < B → 0 ≤ v → v < B → (rp f u = rp f v ↔ R u v)
theorem uf_least {f : Nat → Int} {B : Int} {R : Int → Int → Prop} (h : ufR f B R) {v : Int} (v0 : 0 ≤ v) (v1 : v < B) : 0 ≤ rp f v ∧ rp f v < B ∧ R (rp f v) v ∧ ∀ w : Int, 0 ≤ w → w < B → R w v → rp f v ≤ w := by
  have k := rp_ok h.1 v.toNat v v0 v1 (Nat.le_refl _)
  have b : rp f v < B := by omega
  refine ⟨k.1, b, (h.2 _ v k.1 b v0 v1).mp (rp_fix k.2.2), fun w w0 w1 hw => ?_⟩
  have e := (h.2 w v w0 w1 v0 v1).mpr hw
  have kw := rp_ok h.1 w.toNat w w0 w1 (Nat.le_refl _)
  omega
/-- two that join the same have the same least ones -/
theorem uf_one {f g : Nat → Int} {B : Int} {R : Int → Int → Prop} (hf : ufR f B R) (hg : ufR g B R) {v : Int} (v0 : 0 ≤ v) (v1 : v < B) : rp f v = rp g v := by
  obtain ⟨a1, a2, a3, a4⟩ := uf_least hf v0 v1
  obtain ⟨b1, b2, b3, b4⟩ := uf_least hg v0 v1
  have := a4 _ b1 b2 b3
  have := b4 _ a1 a2 a3
  omega
theorem uf_0 {f : Nat → Int} {B : Int} (h : ∀ k : Nat, (k : Int) < B → f k = (k : Int)) : ufR f B (fun u v => u = v) := by
  refine ⟨fun k hk => by rw [h k hk]; omega, fun u v u0 u1 v0 v1 => ?_⟩
  have fu : f u.toNat = u := by rw [h u.toNat (by omega)]; omega
  have fv : f v.toNat = v := by rw [h v.toNat (by omega)]; omega
  rw [rp_fix fu, rp_fix fv]
/-- one pair more -/
def adR (R : Int → Int → Prop) (a b : Int) (u v : Int) : Prop := R u v ∨ (R u a ∧ R b v) ∨ (R u b ∧ R a v)
theorem uf_add {f g : Nat → Int} {B : Int} {R : Int → Int → Prop} (h : ufR f B R) (hg : ldn g B) {a b : Int} (a0 : 0 ≤ a) (a1 : a < B) (b0 : 0 ≤ b) (b1 : b < B) (hv : ∀ v : Int, 0 ≤ v → v < B → rp g v = if rp f v = max (rp f a) (rp f b) then min (rp f a) (rp f b) else rp f v) : ufR g B (adR R a b) := by
  refine ⟨hg, fun u v u0 u1 v0 v1 => ?_⟩
  rw [hv u u0 u1, hv v v0 v1]
  unfold adR
  rw [← h.2 u v u0 u1 v0 v1, ← h.2 u a u0 u1 a0 a1, ← h.2 b v b0 b1 v0 v1, ← h.2 u b u0 u1 b0 b1, ← h.2 a v a0 a1 v0 v1]
  generalize rp f u = p
  generalize rp f v = q
  generalize rp f a = s
  generalize rp f b = t
  by_cases c1 : p = max s t
  · rw [if_pos c1]
    by_cases c2 : q = max s t
    · rw [if_pos c2]; omega
    · rw [if_neg c2]; omega
  · rw [if_neg c1]
    by_cases c2 : q = max s t
    · rw [if_pos c2]; omega
    · rw [if_neg c2]; omega
theorem uf_join {x : MS} {R : Int → Int → Prop} (h : ufR (x.2 9) 10001 R) {a b : Int} (a0 : 0 ≤ a) (a1 : a < 10001) (b0 : 0 ≤ b) (b1 : b < 10001) : ufR ((F_m_join x a b).2.2 9) 10001 (adR R a b) := by
  have hj : jOK x := fun k hk => h.1 k (by omega)
  obtain ⟨j, r⟩ := join_x hj a0 a1 b0 b1
  exact uf_add h (fun k hk => j k (by omega)) a0 a1 b0 b1 r
