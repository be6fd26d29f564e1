-- deps: 03 30 31 32 33 34 35 36 37 38 39 40 41 42 44 60 63 64 66
theorem kX0_2 (Y : MS) (j : Nat) (v : Int) : kA (kX0 Y) 2 j v = kX0 (aU Y 0 j v) := by
  refine Prod.ext rfl (funext fun c => ?_)
  show (if c = 2 then iU ((kX0 Y).2 2) j v else (kX0 Y).2 c) = (kX0 (aU Y 0 j v)).2 c
  by_cases h : c = 2
  · subst h; rfl
  · rw [if_neg h]
    show (if c = 2 then Y.2 0 else if c = 3 then Y.2 1 else fun _ => 0) = (if c = 2 then (aU Y 0 j v).2 0 else if c = 3 then (aU Y 0 j v).2 1 else fun _ => 0)
    rw [if_neg h, if_neg h]
    rfl
theorem kX0_3 (Y : MS) (j : Nat) (v : Int) : kA (kX0 Y) 3 j v = kX0 (aU Y 1 j v) := by
  refine Prod.ext rfl (funext fun c => ?_)
  show (if c = 3 then iU ((kX0 Y).2 3) j v else (kX0 Y).2 c) = (kX0 (aU Y 1 j v)).2 c
  by_cases h : c = 3
  · subst h; rfl
  · rw [if_neg h]
    show (if c = 2 then Y.2 0 else if c = 3 then Y.2 1 else fun _ => 0) = (if c = 2 then (aU Y 1 j v).2 0 else if c = 3 then (aU Y 1 j v).2 1 else fun _ => 0)
    rw [if_neg h, if_neg h]
    rfl
theorem kX0_1 (Y : MS) (k : Nat) (v : Int) : kS (kX0 Y) 1 k v = kX0 (sU Y k v) := by
  refine Prod.ext (funext fun c => ?_) rfl
  show (if c = 1 then iU ((kX0 Y).1 1) k v else (kX0 Y).1 c) = (kX0 (sU Y k v)).1 c
  by_cases h : c = 1
  · subst h; rfl
  · rw [if_neg h]
    show (if c = 1 then Y.1 else if c = 64 then _ else _) = (if c = 1 then (sU Y k v).1 else if c = 64 then _ else _)
    rw [if_neg h, if_neg h]
theorem F_z_s_s : ∀ (n : Nat) (Y : MS) (n0 b q k : Int), (F_s_setLetters_s n 0 (kX0 Y) n0 b q k).2 = kX0 (F_z_setLetters_s n 0 Y n0 b q k).2 := by
  intro n
  induction n with
  | zero => intro Y n0 b q k; rfl
  | succ n ih =>
    intro Y n0 b q k
    rw [F_s_setLetters_e0, F_z_setLetters_e0]
    by_cases c1 : (20 : Int) < k
    · rw [if_pos c1, if_pos c1]
    · rw [if_neg c1, if_neg c1]
      by_cases c2 : (10000 : Int) < b + q
      · rw [if_pos c2, if_pos c2]
      · rw [if_neg c2, if_neg c2, kX0_2, kX0_3, kX0_1, kX0_3]
        exact ih _ _ _ _ _
theorem zY_s : (F_s_setLetters (kX0 z0) 2).2 = kX0 (zY 2) := by
  unfold F_s_setLetters zY F_z_setLetters
  rw [kX0_1]
  exact F_z_s_s _ _ _ _ _ _
theorem scO_0 : scO (kX0 z0) := ⟨fun k _ => ⟨by show (0 : Int) ≤ 0; decide, by show (0 : Int) ≤ 10000; decide⟩, fun k _ => ⟨by show (0 : Int) ≤ 0; decide, by show (0 : Int) ≤ 10000; decide⟩⟩
theorem zY_x : scX (kX0 (zY 2)) ∧ (kX0 (zY 2)).1 1 2 = 2 ∧ scO (kX0 (zY 2)) := by
  have h := F_s_setLetters_x (x := kX0 z0) (n0 := 2) (by decide) (by decide) scO_0
  rw [zY_s] at h
  exact h
/-- what holds of a new object -/
theorem jn_0 (Y : MS) : jnR (kX0 Y) := ⟨⟨by show (0 : Int) ≤ 0; decide, by show (0 : Int) ≤ 10000; decide⟩, fun j _ => ⟨by show (0 : Int) ≤ 0; decide, by show (0 : Int) ≤ (j : Int); omega⟩⟩
theorem ru_0 (Y : MS) : ruR (kX0 Y) := by
  refine ⟨⟨by show (0 : Int) ≤ 0; decide, by show (0 : Int) ≤ 40; decide⟩, fun j => ?_, fun j => ?_, fun j => ?_, fun j => ?_, fun j => ?_⟩
  · exact ⟨by show (0 : Int) ≤ 0; decide, by show (0 : Int) ≤ 20000; decide⟩
  · exact ⟨by show (0 : Int) ≤ 0; decide, by show (0 : Int) ≤ 20; decide⟩
  · exact ⟨by show (0 : Int) ≤ 0; decide, by show (0 : Int) ≤ 20; decide⟩
  · exact ⟨by show (-9223372036854775808 : Int) ≤ 0; decide, by show (0 : Int) < 9223372036854775808; decide⟩
  · exact ⟨by show (-9223372036854775808 : Int) ≤ 0; decide, by show (0 : Int) < 9223372036854775808; decide⟩
theorem ruV_0 (Y : MS) : ruV (kX0 Y) := fun j hj => absurd hj (by show ¬ (j : Int) < 0; omega)
theorem ma_0 (Y : MS) : maR (kX0 Y) := ⟨⟨by show (0 : Int) ≤ 0; decide, by show (0 : Int) ≤ 320; decide⟩, fun j => ⟨by show (0 : Int) ≤ 0; decide, by show (0 : Int) ≤ 40000; decide⟩, fun j => ⟨by show (-1000 : Int) ≤ 0; decide, by show (0 : Int) < 320; decide⟩⟩
theorem stV_0 (Y : MS) : stV (kX0 Y) := fun j hj => absurd hj (by show ¬ (0 : Int) < 0; decide)
theorem dz_0 (Y : MS) : dz (kX0 Y) := by show kWs 67 ≠ kWs 68; decide
theorem wa_0 (Y : MS) : waR (kX0 Y) := ⟨⟨by show (0 : Int) ≤ 0; decide, by show (0 : Int) ≤ 30; decide⟩, fun j => ⟨by show (-1 : Int) ≤ 0; decide, by show (0 : Int) ≤ 3; decide⟩, fun j => ⟨by show (-1000 : Int) ≤ 0; decide, by show (0 : Int) < 320; decide⟩⟩
theorem md_0 (Y : MS) : mdR (kX0 Y) := ⟨⟨by show (0 : Int) ≤ 0; decide, by show (0 : Int) ≤ 300; decide⟩, fun j => ⟨by show (-9223372036854775808 : Int) ≤ 0; decide, by show (0 : Int) < 9223372036854775808; decide⟩, fun j => ⟨by show (-9223372036854775808 : Int) ≤ 0; decide, by show (0 : Int) < 9223372036854775808; decide⟩⟩
