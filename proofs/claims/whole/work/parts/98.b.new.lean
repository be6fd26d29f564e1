-- deps: 30 31 60 61 97.a
/-! the world, when a Grower is made -/
def gW1 (cI cJ cZ : ClassId) (ad : Nat → Nat) (h : Nat) (u : Nat → Nat) : va_W := [(h, .inr (0, [.ref (ad 58), .ref (ad 64), .ref (u 0), .ref (u 2), .ref (u 4), .ref (u 6), .ref (u 7), .ref (u 8), .ref (u 9), .ref (u 10), .ref (u 11), .ref (u 12), .int (iI 0), .int (iI 0), .ref (u 13)])), ((u 0), .inr (10, [.ref (u 1), .int (iI 0)])), ((u 1), .inl (cI, 60, .inl (iA (fun _ => 0)))), ((u 2), .inr (10, [.ref (u 3), .int (iI 0)])), ((u 3), .inl (cI, 60, .inl (iA (fun _ => 0)))), ((u 4), .inr (10, [.ref (u 5), .int (iI 0)])), ((u 5), .inl (cI, 60, .inl (iA (fun _ => 0)))), ((u 6), .inl (cI, 61, .inl (iA (fun _ => 0)))), ((u 7), .inl (cJ, 62, .inr (.inl (iAL (fun _ => 0))))), ((u 8), .inl (cJ, 62, .inr (.inl (iAL (fun _ => 0))))), ((u 9), .inl (cI, 62, .inl (iA (fun _ => 0)))), ((u 10), .inl (cI, 62, .inl (iA (fun _ => 0)))), ((u 11), .inl (cZ, 62, .inl (iA (fun _ => 0)))), ((u 12), .inl (cZ, 62, .inl (iA (fun _ => 0)))), ((u 13), .inr (2, [.ref (u 14), .ref (u 15), .ref (u 16), .ref (u 17), .int (iI ((1 : Int))), (.long (iL 0)), (.long (iL 0))])), ((u 14), .inl (cJ, 32768, .inr (.inl (iAL (fun _ => 0))))), ((u 15), .inl (cJ, 32768, .inr (.inl (iAL (fun _ => 0))))), ((u 16), .inl (cJ, 32768, .inr (.inl (iAL (fun _ => 0))))), ((u 17), .inl (cJ, 32768, .inr (.inl (iAL (fun _ => 0)))))]
def kNg (x : KS) : KS := (fun c => if c = 70 then iU (x.1 70) 5 1 else if c < 87 then x.1 c else if c = 101 then (fun k => if k = 4 then 1 else if k = 9 then 32768 else 0) else fun _ => 0, fun c => if c < 87 then x.2 c else fun _ => 0)
def adG (ad : Nat → Nat) (h : Nat) (u : Nat → Nat) : Nat → Nat := fun c => if c < 87 then ad c else if c = 87 then h else u (c - 88)
theorem adG_lt {ad u : Nat → Nat} {h : Nat} : ∀ c, c < 87 → adG ad h u c = ad c := fun c hc => if_pos hc
theorem kE_eq7 {cI cJ cZ cR : ClassId} {wl wl' : Nat} {ad ad' : Nat → Nat} (h : ∀ c, c < 87 → ad' c = ad c) {c : Nat} (hc : c < 87) (h6 : c ≠ 6) (h23 : c ≠ 23) (h70 : c ≠ 70) (s f : Nat → Int) : kE cI cJ cZ cR wl' ad' c s f = kE cI cJ cZ cR wl ad c s f := by
  unfold kE
  by_cases hw : kW c = true
  · rw [if_pos hw, if_pos hw]
    unfold kFw
    have h86 : c ≠ 86 := fun e => by rw [e] at hw; exact absurd hw (by decide)
    rw [h (c + 1) (by omega)]
  · rw [if_neg hw, if_neg hw]
    by_cases hr : kW (c - 1) = true
    · rw [if_pos hr, if_pos hr]
    · rw [if_neg hr, if_neg hr]
      have g67 : ∀ z, ad' (kWs z) = ad (kWs z) := fun z => h _ (kWs_lt (M := 87) (by decide))
      split
      all_goals first | rfl | exact absurd hc (by decide) | exact absurd rfl h6 | exact absurd rfl h23 | exact absurd rfl h70 | simp [kF0, kF1, kF56, kF58, kF64, kF79, kF80, kF84, h, g67]
theorem kE_at7 {D : va_G} {cl : List vw_C} {H : Heap} {cI cJ cZ cR : ClassId} {wl wl' : Nat} {ad ad' : Nat → Nat} (h : ∀ c, c < 87 → ad' c = ad c) {c : Nat} (hc : c < 87) (h70 : c ≠ 70) (s f : Nat → Int) (hv : va_at D cl (ad c, kE cI cJ cZ cR wl ad c s f) H) : va_at D cl (ad' c, kE cI cJ cZ cR wl' ad' c s f) H := by
  rw [h c (by omega)]
  by_cases h6 : c = 6
  · subst h6
    have e : vp_cell cR (8, .inr (.inr (.inr (.inr (fun j => some (ad' (7 + 2 * j))))))) = vp_cell cR (8, .inr (.inr (.inr (.inr (fun j => some (ad (7 + 2 * j))))))) := by
      rw [vp_cell_q, vp_cell_q]
      exact arrV_cg fun j hj => by rw [h (7 + 2 * j) (by omega)]
    show H[ad 6]? = some (vp_cell cR (8, .inr (.inr (.inr (.inr (fun j => some (ad' (7 + 2 * j))))))))
    rw [e]
    exact hv
  · by_cases h23 : c = 23
    · subst h23
      have e : vp_cell cR (16, .inr (.inr (.inr (.inr (fun j => some (ad' (24 + 2 * j))))))) = vp_cell cR (16, .inr (.inr (.inr (.inr (fun j => some (ad (24 + 2 * j))))))) := by
        rw [vp_cell_q, vp_cell_q]
        exact arrV_cg fun j hj => by rw [h (24 + 2 * j) (by omega)]
      show H[ad 23]? = some (vp_cell cR (16, .inr (.inr (.inr (.inr (fun j => some (ad' (24 + 2 * j))))))))
      rw [e]
      exact hv
    · rw [kE_eq7 (wl := wl) h hc h6 h23 h70]
      exact hv
theorem gW1_len {cI cJ cZ : ClassId} {ad u : Nat → Nat} {h : Nat} : (gW1 cI cJ cZ ad h u).length = 19 := rfl
/-- the Grower's cells are as the world has them -/
theorem gW1_at {cI cJ cZ cR : ClassId} {ad u : Nat → Nat} {h : Nat} {x : KS} (i : Nat) (hi : i < 19) : (kWd cI cJ cZ cR 32768 (adG ad h u) 106 (kNg x))[87 + i]? = (gW1 cI cJ cZ ad h u)[i]? := by
  rw [kget (by omega)]
  have hc : i = 0 ∨ i = 1 ∨ i = 2 ∨ i = 3 ∨ i = 4 ∨ i = 5 ∨ i = 6 ∨ i = 7 ∨ i = 8 ∨ i = 9 ∨ i = 10 ∨ i = 11 ∨ i = 12 ∨ i = 13 ∨ i = 14 ∨ i = 15 ∨ i = 16 ∨ i = 17 ∨ i = 18 := by omega
  rcases hc with e | e | e | e | e | e | e | e | e | e | e | e | e | e | e | e | e | e | e <;> subst e <;> rfl
theorem kW_grow {D : va_G} {A : Nat → Prop} {H : Heap} {cI cJ cZ cR : ClassId} {wl : Nat} {ad u : Nat → Nat} {h : Nat} {x : KS}
    (hP : va_P D vwCl ((kWd cI cJ cZ cR wl ad 87 x ++ gW1 cI cJ cZ ad h u).set 70 (ad 70, .inr (6, (kF70 ad (x.1 70)).set 5 (.ref h)))) H) (hD : va_D A ((kWd cI cJ cZ cR wl ad 87 x ++ gW1 cI cJ cZ ad h u).set 70 (ad 70, .inr (6, (kF70 ad (x.1 70)).set 5 (.ref h))))) :
    va_P D vwCl (kWd cI cJ cZ cR 32768 (adG ad h u) 106 (kNg x)) H ∧ va_D A (kWd cI cJ cZ cR 32768 (adG ad h u) 106 (kNg x)) := by
  have len : (kWd cI cJ cZ cR wl ad 87 x ++ gW1 cI cJ cZ ad h u).length = 106 := by rw [List.length_append, kWd_len]; rfl
  have at70 : ((kWd cI cJ cZ cR wl ad 87 x ++ gW1 cI cJ cZ ad h u).set 70 (ad 70, .inr (6, (kF70 ad (x.1 70)).set 5 (.ref h))))[70]? = some (ad 70, .inr (6, (kF70 ad (x.1 70)).set 5 (.ref h))) := by rw [List.getElem?_set, if_pos rfl, if_pos (by rw [len]; decide)]
  have lo : ∀ c, c < 87 → c ≠ 70 → ((kWd cI cJ cZ cR wl ad 87 x ++ gW1 cI cJ cZ ad h u).set 70 (ad 70, .inr (6, (kF70 ad (x.1 70)).set 5 (.ref h))))[c]? = some (ad c, kE cI cJ cZ cR wl ad c (x.1 c) (x.2 c)) := by
    intro c hc h70
    rw [List.getElem?_set, if_neg (fun e => h70 e.symm), List.getElem?_append_left (by rw [kWd_len]; exact hc)]
    exact kget hc
  have hi9 : ∀ (i : Nat) (q : Nat × va_E), i < 19 → (kWd cI cJ cZ cR 32768 (adG ad h u) 106 (kNg x))[87 + i]? = some q → ((kWd cI cJ cZ cR wl ad 87 x ++ gW1 cI cJ cZ ad h u).set 70 (ad 70, .inr (6, (kF70 ad (x.1 70)).set 5 (.ref h))))[87 + i]? = some q := by
    intro i q hi hq
    rw [gW1_at i hi] at hq
    rw [List.getElem?_set, if_neg (by omega), List.getElem?_append_right (by rw [kWd_len]; omega), kWd_len, show 87 + i - 87 = i by omega]
    exact hq
  have e70 : kE cI cJ cZ cR 32768 (adG ad h u) 70 ((kNg x).1 70) ((kNg x).2 70) = .inr (6, (kF70 ad (x.1 70)).set 5 (.ref h)) := rfl
  have n1 : ∀ c, c < 87 → c ≠ 70 → (kNg x).1 c = x.1 c := fun c hc h70 => by
    show (if c = 70 then iU (x.1 70) 5 1 else if c < 87 then x.1 c else _) = x.1 c
    rw [if_neg h70, if_pos hc]
  have n2 : ∀ c, c < 87 → (kNg x).2 c = x.2 c := fun c hc => if_pos hc
  refine ⟨fun k q hk9 => ?_, va_D_adr hD (fun k q hk9 => ?_)⟩
  · have k6 : k < 106 := by have := (List.getElem?_eq_some_iff.mp hk9).1; rw [kWd_len] at this; exact this
    by_cases c : k < 87
    · rw [kget k6] at hk9
      have hq := Option.some.inj hk9
      subst hq
      by_cases c7 : k = 70
      · subst c7
        rw [e70, adG_lt 70 (by decide)]
        exact hP 70 _ at70
      · rw [n1 k c c7, n2 k c]
        exact kE_at7 (wl := wl) adG_lt c c7 _ _ (hP k _ (lo k c c7))
    · obtain ⟨i, rfl⟩ : ∃ i, k = 87 + i := ⟨k - 87, by omega⟩
      exact hP _ q (hi9 i q (by omega) hk9)
  · have k6 : k < 106 := by have := (List.getElem?_eq_some_iff.mp hk9).1; rw [kWd_len] at this; exact this
    by_cases c : k < 87
    · rw [kget k6] at hk9
      have hq := Option.some.inj hk9
      subst hq
      by_cases c7 : k = 70
      · subst c7
        exact ⟨_, at70, (adG_lt (u := u) (h := h) 70 (by decide)).symm⟩
      · exact ⟨_, lo k c c7, (adG_lt (u := u) (h := h) k c).symm⟩
    · obtain ⟨i, rfl⟩ : ∃ i, k = 87 + i := ⟨k - 87, by omega⟩
      exact ⟨q, hi9 i q (by omega) hk9, rfl⟩
