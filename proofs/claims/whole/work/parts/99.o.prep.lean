-- deps: 99.n
/-! preparing slots 9 and 10, then meets; what closes must find -/
def clI (x y : MS) : Prop := same [] [1, 2, 26] x y ∧ rwR y ∧ (∀ j, j ≠ 9 → j ≠ 10 → y.2 1 j = x.2 1 j) ∧ (∀ i, (i < 1152 ∨ 1536 ≤ i) → y.2 2 i = x.2 2 i)
def clH (x : MS) : Prop := plX x ∧ rlR x ∧ rtR x ∧ lfR x
theorem clI_0 {x : MS} (h : rwR x) : clI x x := ⟨sm_rf _ _ _, h, fun _ _ _ => rfl, fun _ _ => rfl⟩
theorem clI_e {x y : MS} (h : clI x y) {k : Nat} (h1 : k ≠ 1) (h2 : k ≠ 2) (h3 : k ≠ 26) : y.2 k = x.2 k := h.1.2 k (by simp [h1, h2, h3])
theorem clI_v {x y : MS} (h : clI x y) : y.2 4 = x.2 4 ∧ y.2 5 = x.2 5 ∧ y.2 13 = x.2 13 ∧ y.2 14 = x.2 14 ∧ y.2 15 = x.2 15 ∧ y.2 16 = x.2 16 ∧ y.1 3 = x.1 3 ∧ y.1 12 = x.1 12 ∧ y.1 0 = x.1 0 := ⟨clI_e h (by decide) (by decide) (by decide), clI_e h (by decide) (by decide) (by decide), clI_e h (by decide) (by decide) (by decide), clI_e h (by decide) (by decide) (by decide), clI_e h (by decide) (by decide) (by decide), clI_e h (by decide) (by decide) (by decide), h.1.1 3 List.not_mem_nil, h.1.1 12 List.not_mem_nil, h.1.1 0 List.not_mem_nil⟩
theorem sgM_A {x y : MS} {A : Nat} (h : y.2 A = x.2 A) (b g : Nat) : sgM y A b g = sgM x A b g := by unfold sgM; rw [h]
/-- slot 9 holds u, m LETTERS -/
def pz9 (x y : MS) (u : List Int) (m : Int) : Prop := clI x y ∧ slM y 9 = u ∧ y.2 1 9 = m ∧ (u.length : Int) = m ∧ okL (x.1 0).toNat u
def pz (x y : MS) (u : List Int) (m : Int) (v : List Int) (n : Int) : Prop := pz9 x y u m ∧ slM y 10 = v ∧ y.2 1 10 = n ∧ (v.length : Int) = n ∧ okL (x.1 0).toNat v
theorem clI_z {x y : MS} {k : Nat} {v : Int} (h : clI x y) (hk : k = 9 ∨ k = 10) : clI x (aU y 1 k v) := by
  obtain ⟨h1, h2, h3, h4⟩ := h
  refine ⟨sm_a (by decide) h1, rwR_n (by decide) h2, fun j j1 j2 => ?_, fun i hi => ?_⟩
  · rw [yU_s, iU_n (by omega)]; exact h3 j j1 j2
  · rw [yU_n (by decide)]; exact h4 i hi
theorem pz9_0 {x y : MS} (h : clI x y) : pz9 x (aU y 1 ((9 : Int)).toNat ((0 : Int))) [] 0 := by
  show pz9 x (aU y 1 9 0) [] 0
  have e : (aU y 1 9 0).2 1 9 = 0 := by rw [yU_s]; exact iU_s
  exact ⟨clI_z h (Or.inl rfl), by unfold slM; rw [e]; rfl, e, rfl, fun l hl => absurd hl List.not_mem_nil⟩
theorem pz_0 {x y : MS} {u : List Int} {m : Int} (h : pz9 x y u m) : pz x (aU y 1 ((10 : Int)).toNat ((0 : Int))) u m [] 0 := by
  show pz x (aU y 1 10 0) u m [] 0
  obtain ⟨h1, h2, h3, h4, h5⟩ := h
  have e : (aU y 1 10 0).2 1 10 = 0 := by rw [yU_s]; exact iU_s
  have e9 : (aU y 1 10 0).2 1 9 = y.2 1 9 := by rw [yU_s]; exact iU_n (by decide)
  exact ⟨⟨clI_z h1 (Or.inr rfl), by rw [slM_o e9 (fun i _ => by rw [yU_n (by decide)])]; exact h2, e9.trans h3, h4, h5⟩, by unfold slM; rw [e]; rfl, e, rfl, fun l hl => absurd hl List.not_mem_nil⟩
theorem slE_o {x z : MS} {k j : Nat} {u : List Int} (h : slE x z k u) (hj : j ≠ k) (h1 : (x.2 1 j).toNat ≤ 128) : slM z j = slM x j := slM_o (h.2.1 j hj) (fun i hi => h.2.2.1 _ (by omega))
theorem put5_w {x : MS} {o9 b g s : Nat} (hs : x.2 1 o9 = (s : Int)) (hg : g ≤ 128) (hw : rwR x) (hA : ∀ i, i < g → 0 ≤ x.2 5 (b + i) ∧ x.2 5 (b + i) ≤ 3) : rwR (F_m_put5 x (o9 : Int) (b : Int) (g : Int)).2 := by
  obtain ⟨_, a2⟩ := put5_s (b := b) (g := g) hs 200 0 x (Nat.zero_le _) (by omega) rfl rfl (fun q => (if_neg (by omega)).symm)
  intro k hk
  have a2 : (F_m_put5 x (o9 : Int) (b : Int) (g : Int)).2.2 2 k = _ := a2 k
  rw [a2]
  by_cases hc : 128 * o9 + s ≤ k ∧ k < 128 * o9 + s + g
  · rw [if_pos hc]; exact hA _ (by omega)
  · rw [if_neg hc]; exact hw k hk
theorem put5_c {x y : MS} {o9 b g s : Nat} (ho : o9 = 9 ∨ o9 = 10) (h : clI x y) (hs : y.2 1 o9 = (s : Int)) (h1 : s + g ≤ 128) (hA : ∀ i, i < g → 0 ≤ x.2 5 (b + i) ∧ x.2 5 (b + i) ≤ 3) : clI x (F_m_put5 y (o9 : Int) (b : Int) (g : Int)).2 := by
  have E := put5_x (b := b) (g := g) hs h1
  have eA : y.2 5 = x.2 5 := clI_e h (by decide) (by decide) (by decide)
  have w := put5_w (b := b) (g := g) hs (by omega) h.2.1 (by rw [eA]; exact hA)
  obtain ⟨f, r, j1, i1⟩ := h
  exact ⟨sm_tr f (sm_mono (by decide) (by decide) E.1), w, fun j h1 h2 => (E.2.1 j (by omega)).trans (j1 j h1 h2), fun i hi => (E.2.2.1 i (by omega)).trans (i1 i hi)⟩
theorem pz9_5 {x y : MS} {u : List Int} {m b g : Int} (l4 : x.1 0 ≤ 4) (h : pz9 x y u m) (b0 : 0 ≤ b) (g0 : 0 ≤ g) (h1 : m + g ≤ 128) (ok : okL (x.1 0).toNat (sgM x 5 b.toNat g.toNat)) : pz9 x (F_m_put5 y ((9 : Int)) b g).2 (u ++ sgM x 5 b.toNat g.toNat) (m + g) := by
  obtain ⟨c, h2, h3, h4, h5⟩ := h
  obtain ⟨B, rfl⟩ : ∃ B : Nat, b = (B : Int) := ⟨b.toNat, by omega⟩
  obtain ⟨G, rfl⟩ : ∃ G : Nat, g = (G : Int) := ⟨g.toNat, by omega⟩
  rw [Int.toNat_natCast, Int.toNat_natCast] at ok ⊢
  have hA : ∀ i, i < G → 0 ≤ x.2 5 (B + i) ∧ x.2 5 (B + i) ≤ 3 := fun i hi => by
    have h9 := ok (x.2 5 (B + i)) (by unfold sgM; exact List.mem_map.mpr ⟨i, List.mem_range.mpr hi, rfl⟩)
    omega
  have hs : y.2 1 9 = (u.length : Int) := by rw [h3, h4]
  have E := put5_x (b := B) (g := G) hs (by omega)
  have C := put5_c (o9 := 9) (b := B) (g := G) (Or.inl rfl) c hs (by omega) hA
  have eA : y.2 5 = x.2 5 := clI_e c (by decide) (by decide) (by decide)
  rw [h2, sgM_A eA] at E
  refine ⟨C, E.2.2.2.2, ?_, ?_, okL_a.mpr ⟨h5, ok⟩⟩
  · have e9 : (F_m_put5 y ((9 : Nat) : Int) (B : Int) (G : Int)).2.2 1 9 = _ := E.2.2.2.1
    exact e9.trans (by rw [List.length_append, sgM_len]; omega)
  · rw [List.length_append, sgM_len]; omega
theorem pz_5 {x y : MS} {u v : List Int} {m n b g : Int} (l4 : x.1 0 ≤ 4) (h : pz x y u m v n) (b0 : 0 ≤ b) (g0 : 0 ≤ g) (m8 : m ≤ 128) (h1 : n + g ≤ 128) (ok : okL (x.1 0).toNat (sgM x 5 b.toNat g.toNat)) : pz x (F_m_put5 y ((10 : Int)) b g).2 u m (v ++ sgM x 5 b.toNat g.toNat) (n + g) := by
  obtain ⟨⟨c, k2, k3, k4, k5⟩, h2, h3, h4, h5⟩ := h
  obtain ⟨B, rfl⟩ : ∃ B : Nat, b = (B : Int) := ⟨b.toNat, by omega⟩
  obtain ⟨G, rfl⟩ : ∃ G : Nat, g = (G : Int) := ⟨g.toNat, by omega⟩
  rw [Int.toNat_natCast, Int.toNat_natCast] at ok ⊢
  have hA : ∀ i, i < G → 0 ≤ x.2 5 (B + i) ∧ x.2 5 (B + i) ≤ 3 := fun i hi => by
    have h9 := ok (x.2 5 (B + i)) (by unfold sgM; exact List.mem_map.mpr ⟨i, List.mem_range.mpr hi, rfl⟩)
    omega
  have hs : y.2 1 10 = (v.length : Int) := by rw [h3, h4]
  have E := put5_x (b := B) (g := G) hs (by omega)
  have C := put5_c (o9 := 10) (b := B) (g := G) (Or.inr rfl) c hs (by omega) hA
  have eA : y.2 5 = x.2 5 := clI_e c (by decide) (by decide) (by decide)
  have e9 := slE_o E (j := 9) (by decide) (by omega)
  rw [h2, sgM_A eA] at E
  refine ⟨⟨C, e9.trans k2, (E.2.1 9 (by decide)).trans k3, k4, k5⟩, E.2.2.2.2, ?_, ?_, okL_a.mpr ⟨h5, ok⟩⟩
  · have e9 : (F_m_put5 y ((10 : Nat) : Int) (B : Int) (G : Int)).2.2 1 10 = _ := E.2.2.2.1
    exact e9.trans (by rw [List.length_append, sgM_len]; omega)
  · rw [List.length_append, sgM_len]; omega
theorem put14_w {x : MS} {o9 b g s : Nat} (hs : x.2 1 o9 = (s : Int)) (hg : g ≤ 128) (hw : rwR x) (hA : ∀ i, i < g → 0 ≤ x.2 14 (b + i) ∧ x.2 14 (b + i) ≤ 3) : rwR (F_m_put14 x (o9 : Int) (b : Int) (g : Int)).2 := by
  obtain ⟨_, a2⟩ := put14_s (b := b) (g := g) hs 200 0 x (Nat.zero_le _) (by omega) rfl rfl (fun q => (if_neg (by omega)).symm)
  intro k hk
  have a2 : (F_m_put14 x (o9 : Int) (b : Int) (g : Int)).2.2 2 k = _ := a2 k
  rw [a2]
  by_cases hc : 128 * o9 + s ≤ k ∧ k < 128 * o9 + s + g
  · rw [if_pos hc]; exact hA _ (by omega)
  · rw [if_neg hc]; exact hw k hk
theorem put14_c {x y : MS} {o9 b g s : Nat} (ho : o9 = 9 ∨ o9 = 10) (h : clI x y) (hs : y.2 1 o9 = (s : Int)) (h1 : s + g ≤ 128) (hA : ∀ i, i < g → 0 ≤ x.2 14 (b + i) ∧ x.2 14 (b + i) ≤ 3) : clI x (F_m_put14 y (o9 : Int) (b : Int) (g : Int)).2 := by
  have E := put14_x (b := b) (g := g) hs h1
  have eA : y.2 14 = x.2 14 := clI_e h (by decide) (by decide) (by decide)
  have w := put14_w (b := b) (g := g) hs (by omega) h.2.1 (by rw [eA]; exact hA)
  obtain ⟨f, r, j1, i1⟩ := h
  exact ⟨sm_tr f (sm_mono (by decide) (by decide) E.1), w, fun j h1 h2 => (E.2.1 j (by omega)).trans (j1 j h1 h2), fun i hi => (E.2.2.1 i (by omega)).trans (i1 i hi)⟩
theorem pz9_14 {x y : MS} {u : List Int} {m b g : Int} (l4 : x.1 0 ≤ 4) (h : pz9 x y u m) (b0 : 0 ≤ b) (g0 : 0 ≤ g) (h1 : m + g ≤ 128) (ok : okL (x.1 0).toNat (sgM x 14 b.toNat g.toNat)) : pz9 x (F_m_put14 y ((9 : Int)) b g).2 (u ++ sgM x 14 b.toNat g.toNat) (m + g) := by
  obtain ⟨c, h2, h3, h4, h5⟩ := h
  obtain ⟨B, rfl⟩ : ∃ B : Nat, b = (B : Int) := ⟨b.toNat, by omega⟩
  obtain ⟨G, rfl⟩ : ∃ G : Nat, g = (G : Int) := ⟨g.toNat, by omega⟩
  rw [Int.toNat_natCast, Int.toNat_natCast] at ok ⊢
  have hA : ∀ i, i < G → 0 ≤ x.2 14 (B + i) ∧ x.2 14 (B + i) ≤ 3 := fun i hi => by
    have h9 := ok (x.2 14 (B + i)) (by unfold sgM; exact List.mem_map.mpr ⟨i, List.mem_range.mpr hi, rfl⟩)
    omega
  have hs : y.2 1 9 = (u.length : Int) := by rw [h3, h4]
  have E := put14_x (b := B) (g := G) hs (by omega)
  have C := put14_c (o9 := 9) (b := B) (g := G) (Or.inl rfl) c hs (by omega) hA
  have eA : y.2 14 = x.2 14 := clI_e c (by decide) (by decide) (by decide)
  rw [h2, sgM_A eA] at E
  refine ⟨C, E.2.2.2.2, ?_, ?_, okL_a.mpr ⟨h5, ok⟩⟩
  · have e9 : (F_m_put14 y ((9 : Nat) : Int) (B : Int) (G : Int)).2.2 1 9 = _ := E.2.2.2.1
    exact e9.trans (by rw [List.length_append, sgM_len]; omega)
  · rw [List.length_append, sgM_len]; omega
theorem pz_14 {x y : MS} {u v : List Int} {m n b g : Int} (l4 : x.1 0 ≤ 4) (h : pz x y u m v n) (b0 : 0 ≤ b) (g0 : 0 ≤ g) (m8 : m ≤ 128) (h1 : n + g ≤ 128) (ok : okL (x.1 0).toNat (sgM x 14 b.toNat g.toNat)) : pz x (F_m_put14 y ((10 : Int)) b g).2 u m (v ++ sgM x 14 b.toNat g.toNat) (n + g) := by
  obtain ⟨⟨c, k2, k3, k4, k5⟩, h2, h3, h4, h5⟩ := h
  obtain ⟨B, rfl⟩ : ∃ B : Nat, b = (B : Int) := ⟨b.toNat, by omega⟩
  obtain ⟨G, rfl⟩ : ∃ G : Nat, g = (G : Int) := ⟨g.toNat, by omega⟩
  rw [Int.toNat_natCast, Int.toNat_natCast] at ok ⊢
  have hA : ∀ i, i < G → 0 ≤ x.2 14 (B + i) ∧ x.2 14 (B + i) ≤ 3 := fun i hi => by
    have h9 := ok (x.2 14 (B + i)) (by unfold sgM; exact List.mem_map.mpr ⟨i, List.mem_range.mpr hi, rfl⟩)
    omega
  have hs : y.2 1 10 = (v.length : Int) := by rw [h3, h4]
  have E := put14_x (b := B) (g := G) hs (by omega)
  have C := put14_c (o9 := 10) (b := B) (g := G) (Or.inr rfl) c hs (by omega) hA
  have eA : y.2 14 = x.2 14 := clI_e c (by decide) (by decide) (by decide)
  have e9 := slE_o E (j := 9) (by decide) (by omega)
  rw [h2, sgM_A eA] at E
  refine ⟨⟨C, e9.trans k2, (E.2.1 9 (by decide)).trans k3, k4, k5⟩, E.2.2.2.2, ?_, ?_, okL_a.mpr ⟨h5, ok⟩⟩
  · have e9 : (F_m_put14 y ((10 : Nat) : Int) (B : Int) (G : Int)).2.2 1 10 = _ := E.2.2.2.1
    exact e9.trans (by rw [List.length_append, sgM_len]; omega)
  · rw [List.length_append, sgM_len]; omega
theorem put16_w {x : MS} {o9 b g s : Nat} (hs : x.2 1 o9 = (s : Int)) (hg : g ≤ 128) (hw : rwR x) (hA : ∀ i, i < g → 0 ≤ x.2 16 (b + i) ∧ x.2 16 (b + i) ≤ 3) : rwR (F_m_put16 x (o9 : Int) (b : Int) (g : Int)).2 := by
  obtain ⟨_, a2⟩ := put16_s (b := b) (g := g) hs 200 0 x (Nat.zero_le _) (by omega) rfl rfl (fun q => (if_neg (by omega)).symm)
  intro k hk
  have a2 : (F_m_put16 x (o9 : Int) (b : Int) (g : Int)).2.2 2 k = _ := a2 k
  rw [a2]
  by_cases hc : 128 * o9 + s ≤ k ∧ k < 128 * o9 + s + g
  · rw [if_pos hc]; exact hA _ (by omega)
  · rw [if_neg hc]; exact hw k hk
theorem put16_c {x y : MS} {o9 b g s : Nat} (ho : o9 = 9 ∨ o9 = 10) (h : clI x y) (hs : y.2 1 o9 = (s : Int)) (h1 : s + g ≤ 128) (hA : ∀ i, i < g → 0 ≤ x.2 16 (b + i) ∧ x.2 16 (b + i) ≤ 3) : clI x (F_m_put16 y (o9 : Int) (b : Int) (g : Int)).2 := by
  have E := put16_x (b := b) (g := g) hs h1
  have eA : y.2 16 = x.2 16 := clI_e h (by decide) (by decide) (by decide)
  have w := put16_w (b := b) (g := g) hs (by omega) h.2.1 (by rw [eA]; exact hA)
  obtain ⟨f, r, j1, i1⟩ := h
  exact ⟨sm_tr f (sm_mono (by decide) (by decide) E.1), w, fun j h1 h2 => (E.2.1 j (by omega)).trans (j1 j h1 h2), fun i hi => (E.2.2.1 i (by omega)).trans (i1 i hi)⟩
theorem pz9_16 {x y : MS} {u : List Int} {m b g : Int} (l4 : x.1 0 ≤ 4) (h : pz9 x y u m) (b0 : 0 ≤ b) (g0 : 0 ≤ g) (h1 : m + g ≤ 128) (ok : okL (x.1 0).toNat (sgM x 16 b.toNat g.toNat)) : pz9 x (F_m_put16 y ((9 : Int)) b g).2 (u ++ sgM x 16 b.toNat g.toNat) (m + g) := by
  obtain ⟨c, h2, h3, h4, h5⟩ := h
  obtain ⟨B, rfl⟩ : ∃ B : Nat, b = (B : Int) := ⟨b.toNat, by omega⟩
  obtain ⟨G, rfl⟩ : ∃ G : Nat, g = (G : Int) := ⟨g.toNat, by omega⟩
  rw [Int.toNat_natCast, Int.toNat_natCast] at ok ⊢
  have hA : ∀ i, i < G → 0 ≤ x.2 16 (B + i) ∧ x.2 16 (B + i) ≤ 3 := fun i hi => by
    have h9 := ok (x.2 16 (B + i)) (by unfold sgM; exact List.mem_map.mpr ⟨i, List.mem_range.mpr hi, rfl⟩)
    omega
  have hs : y.2 1 9 = (u.length : Int) := by rw [h3, h4]
  have E := put16_x (b := B) (g := G) hs (by omega)
  have C := put16_c (o9 := 9) (b := B) (g := G) (Or.inl rfl) c hs (by omega) hA
  have eA : y.2 16 = x.2 16 := clI_e c (by decide) (by decide) (by decide)
  rw [h2, sgM_A eA] at E
  refine ⟨C, E.2.2.2.2, ?_, ?_, okL_a.mpr ⟨h5, ok⟩⟩
  · have e9 : (F_m_put16 y ((9 : Nat) : Int) (B : Int) (G : Int)).2.2 1 9 = _ := E.2.2.2.1
    exact e9.trans (by rw [List.length_append, sgM_len]; omega)
  · rw [List.length_append, sgM_len]; omega
theorem pz_16 {x y : MS} {u v : List Int} {m n b g : Int} (l4 : x.1 0 ≤ 4) (h : pz x y u m v n) (b0 : 0 ≤ b) (g0 : 0 ≤ g) (m8 : m ≤ 128) (h1 : n + g ≤ 128) (ok : okL (x.1 0).toNat (sgM x 16 b.toNat g.toNat)) : pz x (F_m_put16 y ((10 : Int)) b g).2 u m (v ++ sgM x 16 b.toNat g.toNat) (n + g) := by
  obtain ⟨⟨c, k2, k3, k4, k5⟩, h2, h3, h4, h5⟩ := h
  obtain ⟨B, rfl⟩ : ∃ B : Nat, b = (B : Int) := ⟨b.toNat, by omega⟩
  obtain ⟨G, rfl⟩ : ∃ G : Nat, g = (G : Int) := ⟨g.toNat, by omega⟩
  rw [Int.toNat_natCast, Int.toNat_natCast] at ok ⊢
  have hA : ∀ i, i < G → 0 ≤ x.2 16 (B + i) ∧ x.2 16 (B + i) ≤ 3 := fun i hi => by
    have h9 := ok (x.2 16 (B + i)) (by unfold sgM; exact List.mem_map.mpr ⟨i, List.mem_range.mpr hi, rfl⟩)
    omega
  have hs : y.2 1 10 = (v.length : Int) := by rw [h3, h4]
  have E := put16_x (b := B) (g := G) hs (by omega)
  have C := put16_c (o9 := 10) (b := B) (g := G) (Or.inr rfl) c hs (by omega) hA
  have eA : y.2 16 = x.2 16 := clI_e c (by decide) (by decide) (by decide)
  have e9 := slE_o E (j := 9) (by decide) (by omega)
  rw [h2, sgM_A eA] at E
  refine ⟨⟨C, e9.trans k2, (E.2.1 9 (by decide)).trans k3, k4, k5⟩, E.2.2.2.2, ?_, ?_, okL_a.mpr ⟨h5, ok⟩⟩
  · have e9 : (F_m_put16 y ((10 : Nat) : Int) (B : Int) (G : Int)).2.2 1 10 = _ := E.2.2.2.1
    exact e9.trans (by rw [List.length_append, sgM_len]; omega)
  · rw [List.length_append, sgM_len]; omega
theorem pz9_s {x y : MS} {u : List Int} {m : Int} (h : pz9 x y u m) : 0 ≤ y.2 1 ((9 : Int)).toNat ∧ y.2 1 ((9 : Int)).toNat = m ∧ 0 ≤ m := by
  have h3 : y.2 1 9 = m := h.2.2.1
  have h4 := h.2.2.2.1
  show 0 ≤ y.2 1 9 ∧ y.2 1 9 = m ∧ 0 ≤ m
  omega
theorem pz_s {x y : MS} {u v : List Int} {m n : Int} (h : pz x y u m v n) : 0 ≤ y.2 1 ((10 : Int)).toNat ∧ y.2 1 ((10 : Int)).toNat = n ∧ 0 ≤ n := by
  have h3 : y.2 1 10 = n := h.2.2.1
  have h4 := h.2.2.2.1
  show 0 ≤ y.2 1 10 ∧ y.2 1 10 = n ∧ 0 ≤ n
  omega
/-- then meets may be called, and this is what it says -/
theorem pz_h {x y : MS} {u v : List Int} {m n : Int} (H : clH x) (h : pz x y u m v n) (m7 : m ≤ 127) (n7 : n ≤ 127) : rdH y ((9 : Int)).toNat ∧ rdH y ((10 : Int)).toNat ∧ rwR y ∧ rtR y := by
  obtain ⟨⟨c, k2, k3, k4, k5⟩, h2, h3, h4, h5⟩ := h
  obtain ⟨pw, rl, rt, lf⟩ := H
  obtain ⟨R, eL, eR, e0, e12, rt2⟩ := rlR_eq c.1 (Or.inr rfl) rl
  refine ⟨⟨by decide, ?_, plX_eq c.1 (Or.inr rfl) pw, R, ?_⟩, ⟨by decide, ?_, plX_eq c.1 (Or.inr rfl) pw, R, ?_⟩, c.2.1, rt2 rt⟩
  · show 0 ≤ y.2 1 9 ∧ y.2 1 9 ≤ 127; omega
  · show okL _ (slM y 9); rw [k2, e0]; exact k5
  · show 0 ≤ y.2 1 10 ∧ y.2 1 10 ≤ 127; omega
  · show okL _ (slM y 10); rw [h2, e0]; exact h5
theorem pz_m {x y : MS} {u v : List Int} {m n : Int} (H : clH x) (h : pz x y u m v n) (m7 : m ≤ 127) (n7 : n ≤ 127) : clI x (F_m_meets y ((9 : Int)) ((10 : Int))).2 ∧ mtQ x u v (F_m_meets y ((9 : Int)) ((10 : Int))).1 := by
  obtain ⟨h1, h2, h3, h4⟩ := pz_h H h m7 n7
  obtain ⟨f, w, so, ro, q⟩ := meets_x (a := 9) (b := 10) h1 h2 (by decide) h3 h4
  obtain ⟨⟨c, k2, k3, k4, k5⟩, g2, g3, g4, g5⟩ := h
  obtain ⟨R, eL, eR, e0, e12, rt2⟩ := rlR_eq c.1 (Or.inr rfl) H.2.1
  unfold mtQ at q
  rw [k2, g2, eL, eR, e12] at q
  exact ⟨⟨sm_tr c.1 f, w, fun j j1 j2 => (so j j1 j2).trans (c.2.2.1 j j1 j2), fun i hi => (ro i (by omega) (by omega) (by omega)).trans (c.2.2.2 i hi)⟩, q⟩
/-- all meetings end alike, and the laws' sides too -/
def cfl (x : MS) : Prop := (∀ u a b, rch (lM x) (rM x) (x.1 12).toNat u a → rch (lM x) (rM x) (x.1 12).toNat u b → jnb (lM x) (rM x) (x.1 12).toNat a b) ∧ ∀ l : Nat, (l : Int) < x.1 3 → jnb (lM x) (rM x) (x.1 12).toNat (sgM x 5 (24 * l) (x.2 4 (2 * l)).toNat) (sgM x 5 (24 * l + 12) (x.2 4 (2 * l + 1)).toNat)
theorem mtQ_1 {x : MS} {u v : List Int} {w : Int} (h : mtQ x u v w) (hw : ¬ w = 0) : jnb (lM x) (rM x) (x.1 12).toNat u v := by
  obtain ⟨p, q, _, _, h1, h2, ⟨_, e⟩ | ⟨e, _⟩⟩ := h
  · rw [← e] at h2; exact ⟨p, h1, h2⟩
  · exact absurd e hw
theorem mtQ_0 {x : MS} {u v : List Int} {w : Int} (h : mtQ x u v w) (hw : w = 0) (hj : cfl x → jnb (lM x) (rM x) (x.1 12).toNat u v) : ¬ cfl x := by
  intro hc
  obtain ⟨p, q, n1, n2, h1, h2, ⟨e, _⟩ | ⟨_, e⟩⟩ := h
  · omega
  · obtain ⟨t, t1, t2⟩ := hj hc
    have g : ∀ {a b : List Int}, noL (lM x) (x.1 12).toNat b → rch (lM x) (rM x) (x.1 12).toNat a b → ∀ {c : List Int}, rch (lM x) (rM x) (x.1 12).toNat a c → rch (lM x) (rM x) (x.1 12).toNat c b := by
      intro a b nb hb c hcc
      obtain ⟨d, d1, d2⟩ := hc.1 a b c hb hcc
      rw [irr_rch (noL_irr nb) d1] at d2; exact d2
    exact e (nf_one hc.1 (noL_irr n1) (noL_irr n2) (g n1 h1 t1) (g n2 h2 t2))
theorem mtQ_01 {x : MS} {u v : List Int} {w : Int} (h : mtQ x u v w) : w = 0 ∨ w = 1 := by
  obtain ⟨p, q, _, _, _, _, ⟨e, _⟩ | ⟨e, _⟩⟩ := h
  · exact Or.inr e
  · exact Or.inl e
theorem jnb_w {x : MS} {w u v : List Int} (h : cfl x) (h1 : st1 (lM x) (rM x) (x.1 12).toNat w u) (h2 : st1 (lM x) (rM x) (x.1 12).toNat w v) : jnb (lM x) (rM x) (x.1 12).toNat u v := h.1 w u v (rch_1 h1) (rch_1 h2)
theorem sgM_ok {x : MS} {A b g n i m : Nat} (h : okL n (sgM x A b g)) (hi : i + m ≤ g) : okL n (sgM x A (b + i) m) := by
  intro l hl
  unfold sgM at hl
  obtain ⟨j, hj, e⟩ := List.mem_map.mp hl
  have hj := List.mem_range.mp hj
  exact h l (by unfold sgM; exact List.mem_map.mpr ⟨i + j, List.mem_range.mpr (by omega), by rw [← e, Nat.add_assoc]⟩)
