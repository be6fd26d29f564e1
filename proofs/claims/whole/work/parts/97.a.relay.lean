-- deps: 30 31 60 61
/-! the world, when what is known gets new rows -/
theorem kE_eq {cI cJ cZ cR : ClassId} {wl wl' : Nat} {ad ad' : Nat → Nat} (h : ∀ c, c < 102 → ad' c = ad c) {c : Nat} (hc : c < 101) (h6 : c ≠ 6) (h23 : c ≠ 23) (s f : Nat → Int) : kE cI cJ cZ cR wl' ad' c s f = kE cI cJ cZ cR wl ad c s f := by
  unfold kE
  by_cases hw : kW c = true
  · rw [if_pos hw, if_pos hw]
    unfold kFw
    rw [h (c + 1) (by have := kW_lt hw; omega)]
  · rw [if_neg hw, if_neg hw]
    by_cases hr : kW (c - 1) = true
    · rw [if_pos hr, if_pos hr]
    · rw [if_neg hr, if_neg hr]
      have g67 : ∀ z, ad' (kWs z) = ad (kWs z) := fun z => h _ (kWs_lt (M := 102) (by decide))
      split
      all_goals first | rfl | exact absurd hc (by decide) | exact absurd rfl h6 | exact absurd rfl h23 | simp [kF0, kF1, kF56, kF58, kF64, kF70, kF79, kF80, kF84, kF87, h, g67]
theorem kE_at {D : va_G} {cl : List vw_C} {H : Heap} {cI cJ cZ cR : ClassId} {wl wl' : Nat} {ad ad' : Nat → Nat} (h : ∀ c, c < 102 → ad' c = ad c) {c : Nat} (hc : c < 101) (s f : Nat → Int) (hv : va_at D cl (ad c, kE cI cJ cZ cR wl ad c s f) H) : va_at D cl (ad' c, kE cI cJ cZ cR wl' ad' c s f) H := by
  rw [h c (by omega)]
  by_cases h6 : c = 6
  · subst h6
    have e : vp_cell cR (8, .inr (.inr (.inr (.inr (fun j => some (ad' (7 + 2 * j))))))) = vp_cell cR (8, .inr (.inr (.inr (.inr (fun j => some (ad (7 + 2 * j))))))) := by
      rw [vp_cell_q, vp_cell_q]
      exact arrV_cg fun j hj => by rw [h (7 + 2 * j) (by omega)]
    show H[ad 6]? = some (vp_cell cR (8, .inr (.inr (.inr (.inr (fun j => some (ad' (7 + 2 * j))))))))
    rw [e]
    exact hv
  · by_cases h23 : c = 23
    · subst h23
      have e : vp_cell cR (16, .inr (.inr (.inr (.inr (fun j => some (ad' (24 + 2 * j))))))) = vp_cell cR (16, .inr (.inr (.inr (.inr (fun j => some (ad (24 + 2 * j))))))) := by
        rw [vp_cell_q, vp_cell_q]
        exact arrV_cg fun j hj => by rw [h (24 + 2 * j) (by omega)]
      show H[ad 23]? = some (vp_cell cR (16, .inr (.inr (.inr (.inr (fun j => some (ad' (24 + 2 * j))))))))
      rw [e]
      exact hv
    · rw [kE_eq (wl := wl) h hc h6 h23]
      exact hv
def adU (ad : Nat → Nat) (u : Nat → Nat) : Nat → Nat := fun c => if c = 102 then u 0 else if c = 103 then u 1 else if c = 104 then u 2 else if c = 105 then u 3 else ad c
theorem adU_lt {ad u : Nat → Nat} : ∀ c, c < 102 → adU ad u c = ad c := fun c hc => by
  unfold adU
  rw [if_neg (by omega), if_neg (by omega), if_neg (by omega), if_neg (by omega)]
/-- the rows of what is known, new -/
def kZa (x : KS) : KS := (x.1, fun q => if q = 102 then fun _ => 0 else if q = 103 then fun _ => 0 else if q = 104 then fun _ => 0 else if q = 105 then fun _ => 0 else x.2 q)
def kZw (x : KS) (w : Int) : KS := kS (kS (kZa x) 101 4 1) 101 9 w
theorem kZw_1 {x : KS} {w : Int} {c : Nat} (h : c ≠ 101) : (kZw x w).1 c = x.1 c := by unfold kZw; rw [kS_c h, kS_c h]; rfl
theorem kZw_2 {x : KS} {w : Int} {c : Nat} (h : c < 102) : (kZw x w).2 c = x.2 c := by
  show (if c = 102 then fun _ => 0 else if c = 103 then fun _ => 0 else if c = 104 then fun _ => 0 else if c = 105 then fun _ => 0 else x.2 c) = x.2 c
  rw [if_neg (by omega), if_neg (by omega), if_neg (by omega), if_neg (by omega)]
theorem va_D_adr {A : Nat → Prop} {ws ws' : va_W} (h : va_D A ws) (g : ∀ (k : Nat) (q : Nat × va_E), ws'[k]? = some q → ∃ q', ws[k]? = some q' ∧ q'.1 = q.1) : va_D A ws' := by
  refine ⟨fun i j p q hi hj e => ?_, fun k q hk => ?_⟩
  · obtain ⟨p', h1, e1⟩ := g i p hi
    obtain ⟨q', h2, e2⟩ := g j q hj
    exact h.1 i j p' q' h1 h2 (by rw [e1, e2]; exact e)
  · obtain ⟨q', h1, e1⟩ := g k q hk
    rw [← e1]
    exact h.2 k q' h1
theorem kWd_len {cI cJ cZ cR : ClassId} {wl : Nat} {ad : Nat → Nat} {M : Nat} {x : KS} : (kWd cI cJ cZ cR wl ad M x).length = M := by unfold kWd; rw [List.length_map, List.length_range]
theorem kW_relay {D : va_G} {A : Nat → Prop} {H H1 : Heap} {cI cJ cZ cR : ClassId} {wl zn : Nat} {ad u : Nat → Nat} {x : KS} {w : Int} {e0 : va_E}
    (hP : va_P D vwCl (kWd cI cJ cZ cR wl ad 106 x) H) (hD : va_D A (kWd cI cJ cZ cR wl ad 106 x)) (he : (kWd cI cJ cZ cR wl ad 106 x)[101]? = some (ad 101, e0))
    (hk : ∀ q : Nat, q < H.size → ¬ va_A [(ad 101, e0)] H.size q → H1[q]? = H[q]?) (hF : ∀ q, va_A [(ad 101, e0)] H.size q → A q)
    (hP1 : va_P D vwCl [(ad 101, .inr (2, [.ref (u 0), .ref (u 1), .ref (u 2), .ref (u 3), .int (iI 1), .long (iL (x.1 101 5)), .long (iL (x.1 101 6))])), (u 0, .inl (cJ, zn, .inr (.inl (iAL (fun _ => 0))))), (u 1, .inl (cJ, zn, .inr (.inl (iAL (fun _ => 0))))), (u 2, .inl (cJ, zn, .inr (.inl (iAL (fun _ => 0))))), (u 3, .inl (cJ, zn, .inr (.inl (iAL (fun _ => 0)))))] H1)
    (hD1 : va_D (va_A [(ad 101, e0)] H.size) [(ad 101, .inr (2, [.ref (u 0), .ref (u 1), .ref (u 2), .ref (u 3), .int (iI 1), .long (iL (x.1 101 5)), .long (iL (x.1 101 6))])), (u 0, .inl (cJ, zn, .inr (.inl (iAL (fun _ => 0))))), (u 1, .inl (cJ, zn, .inr (.inl (iAL (fun _ => 0))))), (u 2, .inl (cJ, zn, .inr (.inl (iAL (fun _ => 0))))), (u 3, .inl (cJ, zn, .inr (.inl (iAL (fun _ => 0)))))]) :
    va_P D vwCl (kWd cI cJ cZ cR zn (adU ad u) 106 (kZw x w)) H1 ∧ va_D A (kWd cI cJ cZ cR zn (adU ad u) 106 (kZw x w)) := by
  obtain ⟨j1, j2⟩ := va_join (wc := [(ad 101, e0)]) (wr := kWd cI cJ cZ cR wl ad 101 x) hP hD [101] (List.range 101) (by show [(kWd cI cJ cZ cR wl ad 106 x)[101]?] = [some (ad 101, e0)]; rw [he]) (by
    unfold kWd
    rw [List.map_map]
    exact List.map_congr_left fun i hi => by
      have := List.mem_range.mp hi
      exact kget (M := 106) (by omega)) (by decide +kernel) (fun i hi h9 => by have := List.mem_range.mp hi; rw [List.mem_singleton] at h9; omega) hk hF hP1 hD1
  have at9 : ∀ (i : Nat) (q : Nat × va_E), i < 5 → ([(ad 101, .inr (2, [.ref (u 0), .ref (u 1), .ref (u 2), .ref (u 3), .int (iI 1), .long (iL (x.1 101 5)), .long (iL (x.1 101 6))])), (u 0, .inl (cJ, zn, .inr (.inl (iAL (fun _ => 0))))), (u 1, .inl (cJ, zn, .inr (.inl (iAL (fun _ => 0))))), (u 2, .inl (cJ, zn, .inr (.inl (iAL (fun _ => 0))))), (u 3, .inl (cJ, zn, .inr (.inl (iAL (fun _ => 0)))))] : va_W)[i]? = some q → (kWd cI cJ cZ cR wl ad 101 x ++ [(ad 101, .inr (2, [.ref (u 0), .ref (u 1), .ref (u 2), .ref (u 3), .int (iI 1), .long (iL (x.1 101 5)), .long (iL (x.1 101 6))])), (u 0, .inl (cJ, zn, .inr (.inl (iAL (fun _ => 0))))), (u 1, .inl (cJ, zn, .inr (.inl (iAL (fun _ => 0))))), (u 2, .inl (cJ, zn, .inr (.inl (iAL (fun _ => 0))))), (u 3, .inl (cJ, zn, .inr (.inl (iAL (fun _ => 0)))))])[101 + i]? = some q := by
    intro i q hi hq
    rw [List.getElem?_append_right (by rw [kWd_len]; omega), kWd_len, show 101 + i - 101 = i by omega]
    exact hq
  have lo : ∀ c, c < 101 → (kWd cI cJ cZ cR wl ad 101 x ++ [(ad 101, .inr (2, [.ref (u 0), .ref (u 1), .ref (u 2), .ref (u 3), .int (iI 1), .long (iL (x.1 101 5)), .long (iL (x.1 101 6))])), (u 0, .inl (cJ, zn, .inr (.inl (iAL (fun _ => 0))))), (u 1, .inl (cJ, zn, .inr (.inl (iAL (fun _ => 0))))), (u 2, .inl (cJ, zn, .inr (.inl (iAL (fun _ => 0))))), (u 3, .inl (cJ, zn, .inr (.inl (iAL (fun _ => 0)))))])[c]? = some (ad c, kE cI cJ cZ cR wl ad c (x.1 c) (x.2 c)) := by
    intro c hc
    rw [List.getElem?_append_left (by rw [kWd_len]; exact hc)]
    exact kget hc
  -- the last five, as they stand in the new world
  have hi9 : ∀ (i : Nat) (q : Nat × va_E), i < 5 → (kWd cI cJ cZ cR zn (adU ad u) 106 (kZw x w))[101 + i]? = some q → ([(ad 101, .inr (2, [.ref (u 0), .ref (u 1), .ref (u 2), .ref (u 3), .int (iI 1), .long (iL (x.1 101 5)), .long (iL (x.1 101 6))])), (u 0, .inl (cJ, zn, .inr (.inl (iAL (fun _ => 0))))), (u 1, .inl (cJ, zn, .inr (.inl (iAL (fun _ => 0))))), (u 2, .inl (cJ, zn, .inr (.inl (iAL (fun _ => 0))))), (u 3, .inl (cJ, zn, .inr (.inl (iAL (fun _ => 0)))))] : va_W)[i]? = some q := by
    intro i q hi hq
    rw [kget (by omega)] at hq
    have s4 : (kZw x w).1 101 4 = 1 := by unfold kZw; rw [kS_k (by decide), kS_s]
    have s5 : (kZw x w).1 101 5 = x.1 101 5 := by unfold kZw; rw [kS_k (by decide), kS_k (by decide)]; rfl
    have s6 : (kZw x w).1 101 6 = x.1 101 6 := by unfold kZw; rw [kS_k (by decide), kS_k (by decide)]; rfl
    have hc : i = 0 ∨ i = 1 ∨ i = 2 ∨ i = 3 ∨ i = 4 := by omega
    rw [← hq]
    rcases hc with e | e | e | e | e <;> subst e
    · show some (ad 101, _) = some (adU ad u 101, Sum.inr (2, kF101 (adU ad u) ((kZw x w).1 101)))
      rw [adU_lt 101 (by decide)]
      unfold kF101
      rw [s4, s5, s6]
      rfl
    · rfl
    · rfl
    · rfl
    · rfl
  refine ⟨fun k q hk9 => ?_, va_D_adr j2 (fun k q hk9 => ?_)⟩
  · have k6 : k < 106 := by have := (List.getElem?_eq_some_iff.mp hk9).1; rw [kWd_len] at this; exact this
    by_cases c : k < 101
    · rw [kget k6] at hk9
      have hq := Option.some.inj hk9
      subst hq
      rw [kZw_1 (by omega), kZw_2 (by omega)]
      exact kE_at (wl := wl) adU_lt c _ _ (j1 k _ (lo k c))
    · obtain ⟨i, rfl⟩ : ∃ i, k = 101 + i := ⟨k - 101, by omega⟩
      exact j1 _ q (at9 i q (by omega) (hi9 i q (by omega) hk9))
  · have k6 : k < 106 := by have := (List.getElem?_eq_some_iff.mp hk9).1; rw [kWd_len] at this; exact this
    by_cases c : k < 101
    · rw [kget k6] at hk9
      have hq := Option.some.inj hk9
      subst hq
      exact ⟨_, lo k c, (adU_lt k (by omega)).symm⟩
    · obtain ⟨i, rfl⟩ : ∃ i, k = 101 + i := ⟨k - 101, by omega⟩
      exact ⟨q, at9 i q (by omega) (hi9 i q (by omega) hk9), rfl⟩
