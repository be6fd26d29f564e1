-- deps: B4.a
/-! two new objects are alike -/
theorem kX0_s {Y : MS} {c k : Nat} (h1 : c ≠ 1) (h2 : c ≠ 64) : (kX0 Y).1 c k = 0 := by
  show (if c = 1 then Y.1 else if c = 64 then (fun k => if k = 4 then 67 else if k = 5 then 68 else 0) else fun _ => 0) k = 0
  rw [if_neg h1, if_neg h2]
theorem kX0_a {Y : MS} {c : Nat} (h1 : c ≠ 2) (h2 : c ≠ 3) : (kX0 Y).2 c = fun _ => 0 := by
  show (if c = 2 then Y.2 0 else if c = 3 then Y.2 1 else fun _ => 0) = _
  rw [if_neg h1, if_neg h2]
theorem r03_0 {Y : MS} {c : Nat} (h1 : c ≠ 2) (h2 : c ≠ 3) : r03 ((kX0 Y).2 c) := by
  rw [kX0_a h1 h2]
  exact fun j => ⟨by show (0 : Int) ≤ 0; decide, by show (0 : Int) ≤ 3; decide⟩
theorem Rel_0 : Rel (kX0 (zY 2)) mX0 := by
  have sc := zY_x.1
  have W : ∀ w : Nat, w ≠ 1 → w ≠ 64 → w + 1 ≠ 2 → w + 1 ≠ 3 → wG (kX0 (zY 2)) w ∧ wS (kX0 (zY 2)) w = [] := fun w h1 h2 h3 h4 => wG_0 (kX0_s h1 h2) (r03_0 h3 h4)
  have V : ∀ j : Nat, slM mX0 j = [] ∧ slH mX0 j := fun j => slM_0 rfl
  have z01 : ∀ k : Nat, (0 : Int) ≤ 0 ∧ (0 : Int) ≤ 3 := fun _ => ⟨by decide, by decide⟩
  refine ⟨⟨⟨sc, jn_0 _, ru_0 _, ma_0 _⟩, ⟨stV_0 _, ?_, r03_0 (by decide) (by decide), fun h9 => absurd (kX0_s (by decide) (by decide)) h9⟩, ⟨?_, fun j hj => ?_⟩, ⟨r03_0 (by decide) (by decide), r03_0 (by decide) (by decide), r03_0 (by decide) (by decide)⟩, ⟨?_, ?_, Or.inl (kX0_s (by decide) (by decide)), fun h9 => ?_⟩, ⟨fun j hj => (W (7 + 2 * j) (by omega) (by omega) (by omega) (by omega)).1, (W 4 (by decide) (by decide) (by decide) (by decide)).1⟩, ⟨md_0 _, wa_0 _, dz_0 _, ?_, Or.inl rfl⟩, fun j hj => r03_0 (by omega) (by omega)⟩, ⟨⟨⟨by decide, by decide⟩, ⟨⟨by decide, by decide⟩, fun l hl => absurd hl (by show ¬ (l : Int) < 0; omega)⟩, fun k _ => ⟨by show (0 : Int) ≤ 0; decide, by show (0 : Int) ≤ 12; decide⟩, fun k _ => z01 k, ⟨rfl, fun k _ => ⟨by show (0 : Int) ≤ 0; decide, by show (0 : Int) ≤ 20000; decide⟩⟩, fun k _ => z01 k, fun j _ => ⟨by show (0 : Int) ≤ 0; decide, by show (0 : Int) ≤ (j : Int); omega⟩, fun k _ => z01 k, fun k _ => z01 k, fun k _ => z01 k, fun k _ => ⟨by show (0 : Int) ≤ 0; decide, by show (0 : Int) ≤ 4611686018427387904; decide⟩⟩, fun j _ => (V j).2, ⟨fun j _ => Or.inl rfl, fun j _ => Or.inl rfl⟩, ⟨fun j _ => ⟨by show (0 : Int) ≤ 0; decide, by show (0 : Int) ≤ 60; decide⟩, fun k _ => z01 k⟩, ⟨by decide, by decide⟩, Or.inl rfl⟩, ⟨zY_x.2.1, kX0_s (by decide) (by decide), fun l hl => absurd hl (by show ¬ (l : Int) < 0; omega)⟩, ⟨fun j hj => by rw [(W (7 + 2 * j) (by omega) (by omega) (by omega) (by omega)).2, (V j).1], by rw [(W 4 (by decide) (by decide) (by decide) (by decide)).2, (V 8).1]⟩, Or.inl ⟨kX0_s (by decide) (by decide), rfl⟩⟩
  · unfold p72
    rw [kX0_a (by decide) (by decide)]
    exact ⟨rfl, fun j => ⟨by show (-1000 : Int) ≤ 0; decide, by show (0 : Int) < 320; decide⟩⟩
  · rw [kX0_s (by decide) (by decide)]; decide
  · rw [kX0_s (by decide) (by decide)] at hj; exfalso; omega
  · rw [kX0_s (by decide) (by decide)]; decide
  · rw [kX0_s (by decide) (by decide)]; exact sc.1.2.1.1
  · rw [kX0_s (by decide) (by decide)] at h9; exact absurd h9 (by decide)
  · rw [kX0_a (by decide) (by decide)]
    exact fun j => ⟨by show (0 : Int) ≤ 0; decide, by show (0 : Int) ≤ 4611686018427387904; decide⟩
