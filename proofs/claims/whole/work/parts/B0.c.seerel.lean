-- deps: B0.b
/-! see answers alike on both sides, and leaves alike what it leaves -/
/-- the LAWS are the same -/
def swE (X : KS) (Y : MS) : Prop := X.1 1 2 = Y.1 0 ∧ X.1 0 14 = Y.1 3 ∧ ∀ l : Nat, (l : Int) < Y.1 3 → lwA1 X l = lwA2 Y l ∧ lwB1 X l = lwB2 Y l
theorem lwP_c {n m k : Nat} {A B A2 B2 : Nat → List Int} (e : ∀ l, l < k → A l = A2 l ∧ B l = B2 l) {a b : Int} (h : lwP n m k A B a b) : lwP n m k A2 B2 a b := by
  obtain ⟨l, u, v, h1, h2, h3, h4, h5, h6, h7⟩ := h
  rw [(e l h1).1] at h4 h6
  rw [(e l h1).2] at h5 h7
  exact ⟨l, u, v, h1, h2, h3, h4, h5, h6, h7⟩
theorem kP_mP {X : KS} {Y : MS} (h : swE X Y) (m : Nat) : kP X m = mP Y m := by
  unfold kP mP nL
  rw [h.1, h.2.1]
  funext a b
  have e : ∀ l : Nat, l < (Y.1 3).toNat → lwA1 X l = lwA2 Y l ∧ lwB1 X l = lwB2 Y l := fun l hl => h.2.2 l (by omega)
  exact propext ⟨lwP_c e, lwP_c (fun l hl => ⟨(e l hl).1.symm, (e l hl).2.symm⟩)⟩
/-- what was seen is the same -/
def pvR (X : KS) (Y : MS) : Prop := (X.1 0 16 = 0 ∧ Y.1 27 = 0) ∨ ((X.1 0 16 = 1 ∧ Y.1 27 = 1) ∧ cfl Y ∧ rOK X ∧ stE X Y ∧ cnE X Y ∧ enQ Y (Y.1 24).toNat (X.1 64 9) ∧ cyI Y Y 31)
def snE (X : KS) (Y : MS) (m : Nat) : Prop := (1 ≤ m ∧ X.1 0 15 = (m : Int) ∧ Y.1 6 = (m : Int)) ∧ (snH Y ∧ mzH Y ∧ mcX X) ∧ (X.1 56 1 = gS (Y.1 0) (m + 1) ∧ ldn (X.2 57) (gS (Y.1 0) (m + 1)) ∧ (∀ w : Int, 0 ≤ w → w < gS (Y.1 0) (m + 1) → rp (X.2 57) w = rp (Y.2 9) w) ∧ X.1 56 2 = cnF (rp (Y.2 9)) (gS (Y.1 0) (m + 1)).toNat) ∧ (X.1 58 6 = Y.1 12 ∧ nR X = (Y.1 12).toNat ∧ ∀ r, r < nR X → lS X r = lM Y r ∧ rS X r = rM Y r) ∧ pvR X Y
def snR (X : KS) (Y : MS) : Prop := (X.1 0 15 = 0 ∧ Y.1 6 = -9) ∨ ∃ m : Nat, snE X Y m
theorem cfl_cK {X : KS} {Y : MS} (n0 : 0 ≤ Y.1 3) (en : nR X = (Y.1 12).toNat) (e : ∀ r, r < nR X → lS X r = lM Y r ∧ rS X r = rM Y r) (h : ∀ l : Nat, (l : Int) < Y.1 3 → lwA1 X l = lwA2 Y l ∧ lwB1 X l = lwB2 Y l) : cK X (Y.1 3) ↔ cfl Y := by
  have e2 : ∀ r, r < nR X → lM Y r = lS X r ∧ rM Y r = rS X r := fun r hr => ⟨(e r hr).1.symm, (e r hr).2.symm⟩
  unfold cK cfK cfl
  rw [← en]
  constructor
  · rintro ⟨a, b⟩
    refine ⟨fun u v w p q => jnb_c e (a u v w (rch_c e2 p) (rch_c e2 q)), fun l hl => ?_⟩
    have h9 := jnb_c e (b l hl)
    rw [(h l hl).1, (h l hl).2] at h9
    exact h9
  · rintro ⟨a, b⟩
    refine ⟨fun u v w p q => jnb_c e2 (a u v w (rch_c e p) (rch_c e q)), fun l hl => ?_⟩
    rw [(h l hl).1, (h l hl).2]
    exact jnb_c e2 (b l hl)
theorem see_rng {X : KS} {Y : MS} (sp : seP X) (e0 : X.1 1 2 = Y.1 0) (m0 : Int) : (1 ≤ m0 ∧ m0 ≤ X.1 1 3) ↔ (1 ≤ m0 ∧ m0 ≤ 20 ∧ gS (Y.1 0) (m0.toNat + 1) ≤ 10000) := by
  have sx := sp.1
  have nb := nL_i sx
  have l3 := sx.1.2.1
  have l2 := sx.1.1
  have eG : ∀ k : Nat, (k : Int) ≤ X.1 1 3 + 1 → X.2 3 k = gS (Y.1 0) k := fun k hk => by rw [← e0, ← nb]; exact scX_gS sx k hk
  constructor
  · rintro ⟨a, b⟩
    have cn := se_cnt sp a b
    rw [show (m0 + 1).toNat = m0.toNat + 1 by omega, eG _ (by omega)] at cn
    exact ⟨a, by omega, cn.2.2⟩
  · rintro ⟨a, b, c⟩
    refine ⟨a, ?_⟩
    rcases Int.lt_or_le (X.1 1 3) m0 with h | h
    · exfalso
      have h5 := sx.2.2.2.2.resolve_left (by omega)
      have e1 : (X.1 1 3 + 1).toNat = (X.1 1 3).toNat + 1 := by omega
      rw [e1, eG _ (by omega), scX_pow sx _ (by omega)] at h5
      have e2 : gS (Y.1 0) ((X.1 1 3).toNat + 1 + 1) = gS (Y.1 0) ((X.1 1 3).toNat + 1) + gP (Y.1 0) ((X.1 1 3).toNat + 1) := gS_s _ _
      have e3 : gP (Y.1 0) ((X.1 1 3).toNat + 1) = ((nL X ^ (X.1 1 3).toNat : Nat) : Int) * X.1 1 2 := by
        show gP (Y.1 0) (X.1 1 3).toNat * Y.1 0 = _
        rw [← e0, ← nb, gP_pow]
      have g := gS_mono (L := Y.1 0) (by omega) (show (X.1 1 3).toNat + 1 + 1 ≤ m0.toNat + 1 by omega)
      rw [e2, e3] at g
      omega
    · exact h
theorem F_t_see_keep (X : KS) (m0 : Int) : (F_t_see X m0).2.1 1 2 = X.1 1 2 ∧ (F_t_see X m0).2.1 0 14 = X.1 0 14 ∧ ∀ j : Nat, j < 16 → wS (F_t_see X m0).2 (24 + 2 * j) = wS X (24 + 2 * j) := by
  have f := F_t_see_fr X m0
  exact ⟨f.1 1 2 (by decide) (by decide), f.1 0 14 (by decide) (by decide), fun j hj => wS_fr24 f (by decide) (by decide) hj⟩
theorem see_both {X : KS} {Y : MS} (sp : seP X) (d : dz X) (hH : seH Y) (sw : swE X Y) {m0 : Int} (rm : iR m0) : (F_t_see X m0).1 = (F_m_see Y m0).1 ∧ ((F_t_see X m0 = (-2, X) ∧ F_m_see Y m0 = (-2, Y)) ∨ (seS Y (F_m_see Y m0).2 ∧ (1 ≤ m0 ∧ m0 ≤ X.1 1 3) ∧ snR (F_t_see X m0).2 (F_m_see Y m0).2)) := by
  have rg := see_rng sp sw.1 m0
  have P := F_m_see_p Y m0 rm hH
  have sx := sp.1
  have nb := nL_i sx
  have nb2 := nL_b sx
  have l3 := sx.1.2.1
  unfold seQ at P
  rw [← rg] at P
  rcases P with ⟨c, e⟩ | ⟨c, ss, g2, u2, P⟩
  · have ex : F_t_see X m0 = (-2, X) := by
      unfold F_t_see
      by_cases c1 : m0 < 1
      · rw [if_pos c1]
      · rw [if_neg c1, if_neg (by omega)]
    rw [ex, e]
    exact ⟨rfl, Or.inl ⟨rfl, rfl⟩⟩
  · have em : m0 = ((m0.toNat : Nat) : Int) := by omega
    have C := csee_x sp d (m := m0.toNat) (by omega) (by omega)
    rw [← em] at C
    have ft := F_t_see_keep X m0
    generalize F_t_see X m0 = Q at C ft
    generalize F_m_see Y m0 = R at ss P
    generalize m0.toNat = m at *
    obtain ⟨g1, u1, C⟩ := C
    have eN : nL X = (Y.1 0).toNat := by unfold nL; rw [sw.1]
    have e0 : ((nL X : Nat) : Int) = Y.1 0 := by rw [nb]; exact sw.1
    have eN2 : (((Y.1 0).toNat : Nat) : Int) = Y.1 0 := by rw [← eN]; exact e0
    rw [e0, kP_mP sw m] at u1
    have ef : ∀ w : Int, 0 ≤ w → w < gS ((nL X : Nat) : Int) (m + 1) → rp g1 w = rp g2 w := fun w w0 w1 => uf_one u1 u2 w0 (by rw [← e0]; exact w1)
    have s0 : R.2.1 0 = Y.1 0 := ss.1.1 0 (by decide)
    have ruR2 : ∀ {z : MS}, z.1 0 = Y.1 0 → 0 ≤ z.1 12 → ruM z m (rp g2) → ruK (nL X) m (rp g2) (z.1 12).toNat (lM z) (rM z) := fun {z} ez z0 h => by
      unfold ruM at h
      rw [ez, ← eN] at h
      refine ⟨fun r hr => h.1 r (by omega), fun i j hij hj => h.2.1 i j hij (by omega), fun w hw => ?_⟩
      obtain ⟨r, r1, r2⟩ := h.2.2 w hw
      exact ⟨r, by omega, r2⟩
    rcases C with ⟨q1, q2, q3, q4⟩ | ⟨q1, q2⟩ <;> rcases P with ⟨p1, p2, p3⟩ | ⟨p1, p2, p3, p4, p5, p6, p7⟩
    · exact ⟨by rw [q1, p1], Or.inr ⟨ss, c, Or.inl ⟨q2, p2⟩⟩⟩
    · exfalso
      have pr := p6.1.1
      have pr1 := pr.1
      exact ruK_41 (ruR2 s0 pr.1.1 p5) (by omega) (ru41_e nb2.1 ef q4)
    · exfalso
      obtain ⟨k1, k2, k3, _⟩ := q2
      rw [← eN] at p3
      exact ruK_41 k2 (by unfold nR; omega) (ru41_e nb2.1 (fun w a b => (ef w a b).symm) p3)
    · obtain ⟨k1, k2, k3, k4, k5, k6, k7, k8, k9⟩ := q2
      have pr := p6.1.1
      have pr1 := pr.1
      obtain ⟨E1, E2⟩ := ruK_one nb2.1 ef k2 (ruR2 s0 pr.1.1 p5)
      have e12 : Q.2.1 58 6 = R.2.1 12 := by unfold nR at E1; omega
      have s3 : R.2.1 3 = Y.1 3 := ss.1.1 3 (by decide)
      have s4 : R.2.2 4 = Y.2 4 := ss.1.2 4 (by decide)
      have s5 : R.2.2 5 = Y.2 5 := ss.1.2 5 (by decide)
      have lw : ∀ l : Nat, (l : Int) < R.2.1 3 → lwA1 Q.2 l = lwA2 R.2 l ∧ lwB1 Q.2 l = lwB2 R.2 l := fun l hl => by
        rw [s3] at hl
        have l9 := hH.2.1.1
        have a := sw.2.2 l hl
        have b := lw_e s4 s5 l
        rw [b.1, b.2, ← a.1, ← a.2]
        exact ⟨ft.2.2 (2 * l) (by omega), ft.2.2 (2 * l + 1) (by omega)⟩
      have ck := cfl_cK (by rw [s3]; exact hH.2.1.1.1) E1 E2 lw
      rw [s3, ← sw.2.1] at ck
      have m2 : m ≤ 20 := by omega
      have B10 : gS ((nL X : Nat) : Int) (m + 1) ≤ 10000 := by
        obtain ⟨m', a1, a2, a3, a4, a5, _⟩ := p2
        have : m' = m := by omega
        rw [this, s0] at a4
        rw [e0, ← a4]
        exact a5
      have e12n : X.1 1 2 = Q.2.1 1 2 := ft.1.symm
      refine ⟨by rw [q1, p1, e12], Or.inr ⟨ss, c, Or.inr ⟨m, ⟨by omega, k1, by omega⟩, ⟨p2, p6, k8⟩, ⟨?_, ?_, ?_, ?_⟩, ⟨e12, E1, E2⟩, ?_⟩⟩⟩
      · rw [k4, e0, s0]
      · rw [s0, ← e0]; exact k5
      · rw [s0, ← e0]
        intro w w0 w1
        rw [k6 w w0 w1, p4 w w0 (by omega)]
        exact ef w w0 w1
      · rw [k7, s0, ← e0]
        refine cnF_e (fun j hj => ?_)
        rw [p4 _ (by omega) (by omega)]
        exact ef _ (by omega) (by omega)
      · rcases k9 with ⟨c1, c2⟩ | ⟨c1, c2, c3, c4⟩
        · refine Or.inl ⟨c1, ?_⟩
          rcases p7 with h9 | h9
          · exact absurd (ck.mpr h9.2.1) c2
          · exact h9.1
        · have h9 := p7.resolve_right (fun h9 => h9.2 (ck.mp c2))
          have hs : stE Q.2 R.2 := st_same k8 p6.1 (fun r hr => (E2 r hr).1) E1 (by rw [← e12n, s0]; exact sw.1)
          exact Or.inr ⟨⟨c1, h9.1⟩, h9.2.1, c3, hs, (c4 _ hs).1, (c4 _ hs).2, h9.2.2⟩
