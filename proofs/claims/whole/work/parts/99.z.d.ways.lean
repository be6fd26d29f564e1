-- deps: 99.z.c
/-! what pick and rank need of countAll -/
theorem cy_ow {x z : MS} (au : auOK x) (sm : same [] [28] x z) (h : cyI x z 31) {g c j : Int} (g0 : 0 ≤ g) (g1 : g < x.1 24) (c0 : 0 ≤ c) (c1 : c < x.1 0) (j0 : 0 ≤ j) (j1 : j ≤ 30) : (F_m_onward z g c j).1 = if (F_m_next x g c).1 = -9 then 0 else wN x j.toNat (F_m_next x g c).1 := by
  rw [F_m_onward_1, cy_nx sm]
  by_cases e : (F_m_next x g c).1 = -9
  · rw [if_pos e, if_pos e]
  · rw [if_neg e, if_neg e]
    have hn := (au.2 g c g0 g1 c0 c1).2.resolve_left e
    have hh := h j.toNat (F_m_next x g c).1.toNat (by omega) (by omega)
    rw [show ((31 : Int) * (F_m_next x g c).1 + j).toNat = 31 * (F_m_next x g c).1.toNat + j.toNat by omega, hh, show (((F_m_next x g c).1.toNat : Nat) : Int) = (F_m_next x g c).1 by omega]
theorem cy_sR {x z : MS} (au : auOK x) (sm : same [] [28] x z) (h : cyI x z 31) {g j : Int} (g0 : 0 ≤ g) (g1 : g < x.1 24) (j0 : 0 ≤ j) (j1 : j ≤ 30) : ∀ (r c : Nat), ((c + r : Nat) : Int) ≤ x.1 0 → wsm x (wN x j.toNat) g c + sR z g j (c : Int) r = wsm x (wN x j.toNat) g (c + r) := by
  intro r
  induction r with
  | zero => intro c _; show _ + 0 = _; rw [Int.add_zero]; rfl
  | succ r ih =>
    intro c hc
    show _ + ((F_m_onward z g (c : Int) j).1 + sR z g j ((c : Int) + 1) r) = _
    rw [cy_ow au sm h g0 g1 (by omega) (by omega) j0 j1, ← Int.add_assoc]
    have e := ih (c + 1) (by omega)
    rw [show c + 1 + r = c + (r + 1) by omega, show ((c + 1 : Nat) : Int) = (c : Int) + 1 by omega] at e
    exact e
theorem cy_wyOK {x z : MS} (au : auOK x) (sm : same [] [28] x z) (h : cyI x z 31) : wyOK z := by
  intro g j g0 g1 j0 j1
  have e24 : z.1 24 = x.1 24 := sm.1 24 List.not_mem_nil
  have e00 : z.1 0 = x.1 0 := sm.1 0 List.not_mem_nil
  have l0 := au.1.2.2.1
  have hh := h j.toNat g.toNat (by omega) (by omega)
  rw [show ((31 : Int) * g + j).toNat = 31 * g.toNat + j.toNat by omega, hh, show ((g.toNat : Nat) : Int) = g by omega, e00]
  have s := cy_sR au sm h (g := g) (j := j - 1) g0 (by omega) (by omega) (by omega) (x.1 0).toNat 0 (by omega)
  rw [Nat.zero_add] at s
  rw [show j.toNat = (j - 1).toNat + 1 by omega]
  have z0 : wsm x (wN x (j - 1).toNat) g 0 = 0 := rfl
  rw [z0, Int.zero_add] at s
  exact s.symm
