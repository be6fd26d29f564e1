-- deps: 98.h 98.i 98.j
/-! What was made, as lists -/
def mdL (x : KS) (Ls : List (List Int)) : Prop := x.1 84 2 = (Ls.length : Int) ∧ Ls.length ≤ 300 ∧ ∀ (j : Nat) (V : List Int), Ls[j]? = some V → okL (nL x) V ∧ V.length ≤ 60 ∧ x.2 85 j = ((pk 1 (V.take 30) : Nat) : Int) ∧ x.2 86 j = ((pk 1 (V.drop 30) : Nat) : Int)
theorem mdL_eq {x y : KS} {Ls : List (List Int)} (e1 : y.1 84 2 = x.1 84 2) (e2 : y.2 85 = x.2 85) (e3 : y.2 86 = x.2 86) (e4 : y.1 1 2 = x.1 1 2) (md : mdL x Ls) : mdL y Ls := by
  unfold mdL nL
  rw [e1, e2, e3, e4]
  exact md
theorem mdR_eq {x y : KS} (e1 : y.1 84 2 = x.1 84 2) (e2 : y.2 85 = x.2 85) (e3 : y.2 86 = x.2 86) (md : mdR x) : mdR y := by
  unfold mdR
  rw [e1, e2, e3]
  exact md
theorem mdL_begin (x : KS) : mdL (F_d_begin x).2 [[]] := by
  have e : (F_d_begin x).2 = kS (kA (kA x 85 0 1) 86 0 1) 84 2 1 := rfl
  rw [e]
  refine ⟨kS_s, by decide, fun j V h => ?_⟩
  cases j with
  | zero =>
    have hV : V = [] := (Option.some.inj h).symm
    subst hV
    refine ⟨fun l hl => absurd hl List.not_mem_nil, by decide, ?_, ?_⟩
    · rw [kS_2, kA_c (by decide), kA_s, iU_s]; rfl
    · rw [kS_2, kA_s, iU_s]; rfl
  | succ j => cases h
theorem read_x {x : KS} {Ls : List (List Int)} (md : mdL x Ls) (n4 : nL x ≤ 4) {i : Nat} {V : List Int} (h : Ls[i]? = some V) {w : Nat} (hw : kW w = true) (hL : kL w = 60) : wL (F_d_read x w (i : Int)).2 w V := by
  obtain ⟨e1, e2, e3⟩ := md
  obtain ⟨oV, lV, h85, h86⟩ := e3 i V h
  have hi : i < Ls.length := (List.getElem?_eq_some_iff.mp h).1
  have o4 := okL_4 n4 oV
  have w84 : 84 ≠ w := w_ne hw rfl
  have ew : (F_w_wipe x w).2 = kS x w 1 0 := rfl
  unfold F_d_read
  rw [if_neg (by omega), ew, kS_c w84, e1, if_neg (by omega), Int.toNat_natCast, kS_2, h85, h86]
  have u := F_w_unpack_x (x := kS x w 1 0) (w := w) (okL_take o4 30) (okL_drop o4 30) (by rw [List.length_take]; omega) (by rw [List.length_drop]; omega) (by rw [List.take_append_drop, hL]; exact lV)
  rw [List.take_append_drop] at u
  exact u
theorem read_r {x : KS} {w : Nat} {i : Int} (r : r03 (x.2 (w + 1))) : r03 ((F_d_read x w i).2.2 (w + 1)) := by
  unfold F_d_read
  repeat' split
  all_goals first | exact r | exact F_w_unpack_93 (y := (F_w_wipe x w).2) r
theorem take_mem {V : List Int} {Ls : List (List Int)} {i : Nat} (h : V ∉ Ls.take i) {W : List Int} (hW : Ls[i]? = some W) (ne : W ≠ V) : V ∉ Ls.take (i + 1) := by
  rw [List.take_add_one, hW]
  intro hm
  rcases List.mem_append.mp hm with h1 | h1
  · exact h h1
  · have : V = W := by simpa using h1
    exact ne this.symm
theorem F_d_add_s_x {x : KS} {w : Nat} {Ls : List (List Int)} (md : mdL x Ls) (n4 : nL x ≤ 4) {V : List Int} (oV : okL 4 V) : ∀ (n i : Nat), i ≤ Ls.length → Ls.length - i < n → V ∉ Ls.take i → F_d_add_s w n 0 x ((pk 1 (V.take 30) : Nat) : Int) ((pk 1 (V.drop 30) : Nat) : Int) (i : Int) = if V ∈ Ls then (1, x) else if Ls.length < 300 then (1, kS (kA (kA x 85 Ls.length ((pk 1 (V.take 30) : Nat) : Int)) 86 Ls.length ((pk 1 (V.drop 30) : Nat) : Int)) 84 2 ((Ls.length : Int) + 1)) else (0, x) := by
  obtain ⟨e1, e2, e3⟩ := id md
  intro n
  induction n with
  | zero => intro i h1 h2; exfalso; omega
  | succ n ih =>
    intro i h1 h2 h3
    rw [F_d_add_e0, e1]
    by_cases c : Ls.length ≤ i
    · have ei : i = Ls.length := by omega
      rw [ei, List.take_length] at h3
      rw [if_pos (by omega), if_neg h3, Int.toNat_natCast]
      by_cases c3 : Ls.length < 300
      · rw [if_pos (by omega), if_pos c3]
      · rw [if_neg (by omega), if_neg c3]
    · obtain ⟨W, hW⟩ : ∃ W, Ls[i]? = some W := ⟨Ls[i], List.getElem?_eq_getElem (by omega)⟩
      obtain ⟨oW, lW, h85, h86⟩ := e3 i W hW
      have o4 := okL_4 n4 oW
      have up := ih (i + 1) (by omega) (by omega)
      have ec : ((i + 1 : Nat) : Int) = (i : Int) + 1 := by omega
      rw [ec] at up
      rw [if_neg (by omega), Int.toNat_natCast, h85, h86]
      by_cases ce : W = V
      · subst ce
        rw [if_pos (kiC_eq.mpr rfl), if_pos (kiC_eq.mpr rfl), if_pos (List.mem_of_getElem? hW)]
      · have go := up (take_mem h3 hW ce)
        by_cases c1 : iC ((pk 1 (W.take 30) : Nat) : Int) ((pk 1 (V.take 30) : Nat) : Int) = 0
        · rw [if_pos c1]
          by_cases c2 : iC ((pk 1 (W.drop 30) : Nat) : Int) ((pk 1 (V.drop 30) : Nat) : Int) = 0
          · exfalso
            have k1 := kiC_eq.mp c1
            have k2 := kiC_eq.mp c2
            exact ce (key_inj (b := 1) (c := 1) o4 oV (by decide) (by decide) (by decide) (by decide) (show kH 1 W = kH 1 V by unfold kH; omega) (show kT W = kT V by unfold kT; omega)).2
          · rw [if_neg c2]; exact go
        · rw [if_neg c1]; exact go
theorem tk_full {x : KS} {w : Nat} {V : List Int} (h : wL x w V) : tk (x.2 (w + 1)) V.length = V := h.2
theorem add_x {x : KS} {w : Nat} {Ls : List (List Int)} (md : mdL x Ls) (n4 : nL x ≤ 4) {V : List Int} (h : wL x w V) (oV : okL (nL x) V) (lV : V.length ≤ 60) (r : r03 (x.2 (w + 1))) : F_d_add x w = if V ∈ Ls then (1, x) else if Ls.length < 300 then (1, kS (kA (kA x 85 Ls.length ((pk 1 (V.take 30) : Nat) : Int)) 86 Ls.length ((pk 1 (V.drop 30) : Nat) : Int)) 84 2 ((Ls.length : Int) + 1)) else (0, x) := by
  have p1 := F_w_pack_x (x := x) (w := w) (fun j => (r j).1) (f := 0) (t := V.length) (by rw [h.1]; exact Int.le_refl _) (by rw [h.1]; omega)
  have p2 := F_w_pack_x (x := x) (w := w) (fun j => (r j).1) (f := 30) (t := V.length) (by rw [h.1]; exact Int.le_refl _) (by rw [h.1]; omega)
  rw [tk_full h, List.drop_zero] at p1
  rw [tk_full h, List.take_of_length_le (by rw [List.length_drop]; omega)] at p2
  unfold F_d_add
  rw [h.1]
  have p1' : (F_w_pack x w 0 (V.length : Int)).1 = ((pk 1 (V.take 30) : Nat) : Int) := p1
  have p2' : (F_w_pack x w 30 (V.length : Int)).1 = ((pk 1 (V.drop 30) : Nat) : Int) := p2
  rw [p1', p2']
  exact F_d_add_s_x md n4 (okL_4 n4 oV) 400 0 (by omega) (by have := md.2.1; omega) (by rw [List.take_zero]; exact List.not_mem_nil)
theorem mdL_add {x : KS} {Ls : List (List Int)} (md : mdL x Ls) (c : Ls.length < 300) {V : List Int} (oV : okL (nL x) V) (lV : V.length ≤ 60) : mdL (kS (kA (kA x 85 Ls.length ((pk 1 (V.take 30) : Nat) : Int)) 86 Ls.length ((pk 1 (V.drop 30) : Nat) : Int)) 84 2 ((Ls.length : Int) + 1)) (Ls ++ [V]) := by
  obtain ⟨e1, e2, e3⟩ := md
  refine ⟨by rw [kS_s, List.length_append, List.length_singleton]; push_cast; omega, by rw [List.length_append, List.length_singleton]; omega, fun j W hj => ?_⟩
  have n1 : nL (kS (kA (kA x 85 Ls.length ((pk 1 (V.take 30) : Nat) : Int)) 86 Ls.length ((pk 1 (V.drop 30) : Nat) : Int)) 84 2 ((Ls.length : Int) + 1)) = nL x := rfl
  rw [n1, kS_2, kA_s, kA_c (by decide), kA_s, kA_c (by decide)]
  by_cases c1 : j < Ls.length
  · rw [List.getElem?_append_left c1] at hj
    obtain ⟨a, b, c2, d⟩ := e3 j W hj
    exact ⟨a, b, by rw [iU_n (by omega)]; exact c2, by rw [iU_n (by omega)]; exact d⟩
  · have hl := (List.getElem?_eq_some_iff.mp hj).1
    rw [List.length_append, List.length_singleton] at hl
    have ej : j = Ls.length := by omega
    subst ej
    rw [List.getElem?_append_right (Nat.le_refl _), Nat.sub_self] at hj
    have : V = W := by simpa using hj
    subst this
    exact ⟨oV, lV, iU_s, iU_s⟩
theorem F_d_add_01 {x : KS} {w : Nat} {Ls : List (List Int)} (md : mdL x Ls) (n4 : nL x ≤ 4) {V : List Int} (h : wL x w V) (oV : okL (nL x) V) (lV : V.length ≤ 60) (r : r03 (x.2 (w + 1))) : (F_d_add x w).1 = 0 ∨ (F_d_add x w).1 = 1 := by
  rw [add_x md n4 h oV lV r]
  repeat' split
  all_goals first | exact Or.inl rfl | exact Or.inr rfl
