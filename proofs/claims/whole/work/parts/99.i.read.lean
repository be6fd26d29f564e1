-- deps: 99.h
/-! reading a STRING with the planted machine -/
def ltM (y : MS) (k n : Nat) : List Int := (List.range n).map (fun i => y.2 2 (128 * k + i))
def rsM (y : MS) : Nat → List Int
  | 0 => []
  | t + 1 => y.2 2 (1408 + t) :: rsM y t
theorem ltM_len (y : MS) (k n : Nat) : (ltM y k n).length = n := by unfold ltM; rw [List.length_map, List.length_range]
theorem rsM_len (y : MS) : ∀ t, (rsM y t).length = t
  | 0 => rfl
  | t + 1 => by show (_ :: rsM y t).length = _; rw [List.length_cons, rsM_len y t]
theorem ltM_s (y : MS) (k n : Nat) : ltM y k (n + 1) = ltM y k n ++ [y.2 2 (128 * k + n)] := by unfold ltM; rw [List.range_succ, List.map_append]; rfl
theorem ltM_eq {y z : MS} {k n : Nat} (h : ∀ i, i < n → z.2 2 (128 * k + i) = y.2 2 (128 * k + i)) : ltM z k n = ltM y k n := by
  unfold ltM; exact List.map_congr_left (fun i hi => h i (List.mem_range.mp hi))
theorem rsM_eq {y z : MS} : ∀ {t : Nat}, (∀ i, i < t → z.2 2 (1408 + i) = y.2 2 (1408 + i)) → rsM z t = rsM y t
  | 0, _ => rfl
  | t + 1, h => by show _ :: rsM z t = _ :: rsM y t; rw [h t (by omega), rsM_eq (fun i hi => h i (by omega))]
theorem ltM_take (y : MS) (k : Nat) {j n : Nat} (h : j ≤ n) : (ltM y k n).take j = ltM y k j := by
  unfold ltM; rw [← List.map_take, List.take_range, Nat.min_eq_left h]
theorem ltM_get {y : MS} {k n i : Nat} (h : i < (ltM y k n).length) : (ltM y k n)[i] = y.2 2 (128 * k + i) := by
  exact (List.getElem_map ..).trans (by rw [List.getElem_range])
theorem rM_len (x : MS) (r : Nat) : (rM x r).length = (x.2 15 r).toNat := by unfold rM; rw [List.length_map, List.length_range]
theorem rM_get {x : MS} {r i : Nat} (h : i < (rM x r).length) : (rM x r)[i] = x.2 16 (24 * r + i) := by
  exact (List.getElem_map ..).trans (by rw [List.getElem_range])
theorem okL_a {n : Nat} {u v : List Int} : okL n (u ++ v) ↔ okL n u ∧ okL n v := ⟨fun h => ⟨fun l hl => h l (List.mem_append.mpr (Or.inl hl)), fun l hl => h l (List.mem_append.mpr (Or.inr hl))⟩, fun h l hl => (List.mem_append.mp hl).elim (h.1 l) (h.2 l)⟩
theorem noL_snoc {L : Nat → List Int} {R : Nat} {w : List Int} {l : Int} (h : noL L R w) (he : ∀ r, r < R → ∀ a, w ++ [l] ≠ a ++ L r) : noL L R (w ++ [l]) := by
  intro r hr a b e
  by_cases hb : b = []
  · rw [hb, List.append_nil] at e; exact he r hr a e
  · rw [← List.append_assoc] at e
    obtain ⟨s, es, ew⟩ := sfx_last e hb
    exact h r hr a s (by rw [ew, List.append_assoc])
theorem noL_pfx {L : Nat → List Int} {R : Nat} {v e : List Int} (h : noL L R (v ++ e)) : noL L R v := by
  intro r hr a b e9
  exact h r hr a (b ++ e) (by rw [e9]; simp)
/-- the RULES: sides' LETTERS, and the RIGHT side ahead -/
def rlR (x : MS) : Prop := ∀ r : Nat, (r : Int) < x.1 12 → (0 ≤ x.2 15 r ∧ x.2 15 r ≤ 20) ∧ okL (x.1 0).toNat (rM x r) ∧ ahd (rM x r) (lM x r)
def rdJ (str : Nat → List Int) (Nn : Nat) (x y : MS) (k s0 d t : Nat) (W : List Int) : Prop := same [] [2, 26] x y ∧ (∀ q, q < 128 * k ∨ 128 * k + 128 ≤ q → q < 1408 ∨ 1536 ≤ q → y.2 2 q = x.2 2 q) ∧ okL (x.1 0).toNat (ltM y k d) ∧ okL (x.1 0).toNat (W ++ rsM y t) ∧ d + (W.length + t) ≤ s0 ∧ noL (lM x) (x.1 12).toNat (ltM y k d) ∧ (∀ j, j ≤ d → ∃ n : Nat, n < Nn ∧ y.2 26 j = (n : Int) ∧ lsy (lM x) (x.1 12).toNat (ltM y k j) (str n)) ∧ rch (lM x) (rM x) (x.1 12).toNat (ltM x k s0) (ltM y k d ++ (W ++ rsM y t))
def rdC (x y : MS) (k s0 t : Nat) : Prop := same [] [2] x y ∧ t ≤ s0 ∧ ∀ q, y.2 2 q = if 1408 ≤ q ∧ q < 1408 + t then x.2 2 (128 * k + (s0 - 1 - (q - 1408))) else x.2 2 q
theorem rdC_0 (x : MS) (k s0 : Nat) : rdC x x k s0 0 := ⟨sm_rf _ _ _, Nat.zero_le _, fun q => (if_neg (by omega)).symm⟩
theorem rdC_s {x y : MS} {k s0 t : Nat} (h : rdC x y k s0 t) (ht : t < s0) (s1 : s0 ≤ 127) (hk : k ≤ 12) (hk1 : k ≠ 11) : rdC x (aU y 2 (1408 + t) (y.2 2 (128 * k + (s0 - 1 - t)))) k s0 (t + 1) := by
  obtain ⟨f, h1, h2⟩ := h
  refine ⟨sm_a (by decide) f, by omega, fun q => ?_⟩
  have e0 : y.2 2 (128 * k + (s0 - 1 - t)) = x.2 2 (128 * k + (s0 - 1 - t)) := by rw [h2 (128 * k + (s0 - 1 - t)), if_neg (by omega)]
  rw [yU_s, yU_if, e0]
  by_cases hq : q = 1408 + t
  · rw [if_pos hq, if_pos (by omega), hq, show 1408 + t - 1408 = t by omega]
  · rw [if_neg hq, h2 q]
    by_cases hc : 1408 ≤ q ∧ q < 1408 + t
    · rw [if_pos hc, if_pos (by omega)]
    · rw [if_neg hc, if_neg (by omega)]
theorem rdC_rs {x y : MS} {k s0 : Nat} (h : rdC x y k s0 s0) : ∀ t, t ≤ s0 → rsM y t = (ltM x k s0).drop (s0 - t)
  | 0, _ => by rw [Nat.sub_zero, List.drop_eq_nil_of_le (by rw [ltM_len]; exact Nat.le_refl _)]; rfl
  | t + 1, ht => by
    show y.2 2 (1408 + t) :: rsM y t = _
    rw [rdC_rs h t (by omega), h.2.2 (1408 + t), if_pos (by omega)]
    have hi : s0 - (t + 1) < (ltM x k s0).length := by rw [ltM_len]; omega
    rw [List.drop_eq_getElem_cons hi, ltM_get hi, show s0 - 1 - (1408 + t - 1408) = s0 - (t + 1) by omega, show s0 - (t + 1) + 1 = s0 - t by omega]
theorem rdC_end {x y : MS} {str : Nat → List Int} {Nn Ss k s0 : Nat} (hN : plN x str Nn Ss) (h : rdC x y k s0 s0) (ok : okL (x.1 0).toNat (ltM x k s0)) (h0 : ∀ r, r < (x.1 12).toNat → lM x r ≠ []) (s1 : s0 ≤ 127) : rdJ str Nn x (aU y 26 0 0) k s0 0 s0 [] := by
  have er : rsM (aU y 26 0 0) s0 = ltM x k s0 := by
    rw [rsM_eq (y := y) (fun i _ => by rw [yU_n (by decide)]), rdC_rs h s0 (Nat.le_refl _), Nat.sub_self, List.drop_zero]
  refine ⟨sm_a (by decide) (sm_mono (by decide) (by decide) h.1), fun q h1 h2 => ?_, fun l hl => absurd hl (by unfold ltM; simp), ?_, by rw [List.length_nil]; omega, ?_, ?_, ?_⟩
  · rw [yU_n (by decide), h.2.2 q]
    by_cases hc : 1408 ≤ q ∧ q < 1408 + s0
    · exfalso; omega
    · rw [if_neg hc]
  · rw [List.nil_append, er]; exact ok
  · intro r hr a b e
    have e9 : ([] : List Int) = a ++ (lM x r ++ b) := e
    have := congrArg List.length e9
    rw [List.length_append, List.length_append, List.length_nil] at this
    exact h0 r hr (List.eq_nil_of_length_eq_zero (by omega))
  · intro j hj
    have ej : j = 0 := by omega
    subst ej
    refine ⟨0, hN.1.2.2.1, by rw [yU_s]; exact iU_s, ?_⟩
    rw [hN.2.1]; exact lsy_nil
  · show rch _ _ _ _ ([] ++ ([] ++ rsM (aU y 26 0 0) s0))
    rw [List.nil_append, List.nil_append, er]; exact rch_rf _
theorem rd_step {x y : MS} {str : Nat → List Int} {Nn Ss k s0 d t : Nat} (pr : plR x) (rl : rlR x) (hN : plN x str Nn Ss) (h : rdJ str Nn x y k s0 d (t + 1) []) (hk : k ≤ 12) (hk1 : k ≠ 11) (s1 : s0 ≤ 127) : ∃ l p q : Nat, y.2 2 (1408 + t) = (l : Int) ∧ l < (x.1 0).toNat ∧ y.2 26 d = (p : Int) ∧ p < Nn ∧ y.2 19 (4 * p + l) = (q : Int) ∧ q < Nn ∧ (y.2 21 q = -9 → rdJ str Nn x (aU (aU y 2 (128 * k + d) (l : Int)) 26 (d + 1) (q : Int)) k s0 (d + 1) t [] ∧ ltM (aU (aU y 2 (128 * k + d) (l : Int)) 26 (d + 1) (q : Int)) k (d + 1) ++ ([] ++ rsM (aU (aU y 2 (128 * k + d) (l : Int)) 26 (d + 1) (q : Int)) t) = ltM y k d ++ ([] ++ rsM y (t + 1))) ∧ (y.2 21 q ≠ -9 → ∃ r : Nat, r < (x.1 12).toNat ∧ y.2 21 q = (r : Int) ∧ 1 ≤ (lM x r).length ∧ (lM x r).length ≤ d + 1 ∧ rdJ str Nn x (aU (aU y 2 (128 * k + d) (l : Int)) 26 (d + 1) (q : Int)) k s0 (d + 1 - (lM x r).length) t (rM x r) ∧ knm (ltM (aU (aU y 2 (128 * k + d) (l : Int)) 26 (d + 1) (q : Int)) k (d + 1 - (lM x r).length) ++ (rM x r ++ rsM (aU (aU y 2 (128 * k + d) (l : Int)) 26 (d + 1) (q : Int)) t)) < knm (ltM y k d ++ ([] ++ rsM y (t + 1)))) := by
  obtain ⟨f, fr, ou, ov, len, nl9, ps, rc⟩ := h
  rw [List.length_nil] at len
  have e19 : y.2 19 = x.2 19 := f.2 19 (by decide)
  have e21 : y.2 21 = x.2 21 := f.2 21 (by decide)
  rw [List.nil_append] at ov rc
  have ol := ov (y.2 2 (1408 + t)) (List.mem_cons_self ..)
  have ov2 : okL (x.1 0).toNat (rsM y t) := fun z hz => ov z (List.mem_cons_of_mem _ hz)
  obtain ⟨p, p1, p2, p3⟩ := ps d (Nat.le_refl d)
  obtain ⟨A, z0, K1, K2, G, E, J, _⟩ := hN
  obtain ⟨l, hl⟩ : ∃ l : Nat, y.2 2 (1408 + t) = (l : Int) := ⟨(y.2 2 (1408 + t)).toNat, by omega⟩
  have er : rsM y (t + 1) = (l : Int) :: rsM y t := by rw [← hl]; rfl
  rw [hl] at ol
  rw [er] at rc
  obtain ⟨q, q1, q2, q3⟩ := G p l p1 (by omega)
  refine ⟨l, p, q, hl, by omega, p2, p1, by rw [e19]; exact q2, q1, ?_⟩
  generalize hz : aU (aU y 2 (128 * k + d) (l : Int)) 26 (d + 1) (q : Int) = z
  have zf : same [] [2, 26] x z := by rw [← hz]; exact sm_a (by decide) (sm_a (by decide) f)
  have z2 : ∀ i, z.2 2 i = if i = 128 * k + d then (l : Int) else y.2 2 i := fun i => by rw [← hz, yU_n (by decide), yU_s, yU_if]
  have z26 : ∀ i, z.2 26 i = if i = d + 1 then (q : Int) else y.2 26 i := fun i => by rw [← hz, yU_s, yU_if, yU_n (by decide)]
  have zl : ∀ j, j ≤ d → ltM z k j = ltM y k j := fun j hj => ltM_eq (fun i hi => by rw [z2, if_neg (by omega)])
  have zl1 : ltM z k (d + 1) = ltM y k d ++ [(l : Int)] := by rw [ltM_s, zl d (Nat.le_refl d), z2, if_pos rfl]
  have zr : rsM z t = rsM y t := rsM_eq (fun i hi => by rw [z2, if_neg (by omega)])
  have zo : ∀ i, i < 128 * k ∨ 128 * k + 128 ≤ i → i < 1408 ∨ 1536 ≤ i → z.2 2 i = x.2 2 i := fun i h1 h2 => by rw [z2, if_neg (by omega)]; exact fr i h1 h2
  have lq := lsy_next p3 q3
  refine ⟨fun h9 => ?_, fun h9 => ?_⟩
  · rw [e21] at h9
    rcases E q q1 with ⟨_, hn⟩ | ⟨r, _, e9, _⟩
    · have ew : ltM z k (d + 1) ++ ([] ++ rsM z t) = ltM y k d ++ ([] ++ rsM y (t + 1)) := by rw [zl1, zr, er]; simp
      refine ⟨⟨zf, zo, ?_, ?_, by rw [List.length_nil]; omega, ?_, ?_, ?_⟩, ew⟩
      · rw [zl1]; exact okL_a.mpr ⟨ou, fun w hw => by rw [List.mem_singleton.mp hw]; exact ol⟩
      · rw [List.nil_append, zr]; exact ov2
      · rw [zl1]; exact noL_snoc nl9 (lsy_eS lq hn)
      · intro j hj
        by_cases hj1 : j = d + 1
        · rw [hj1, zl1]; exact ⟨q, q1, by rw [z26, if_pos rfl], lq⟩
        · obtain ⟨n, n1, n2, n3⟩ := ps j (by omega)
          exact ⟨n, n1, by rw [z26, if_neg hj1]; exact n2, by rw [zl j (by omega)]; exact n3⟩
      · rw [ew, List.nil_append, er]; exact rc
    · exact absurd (e9.symm.trans h9) (by omega)
  · rw [e21] at h9
    rcases E q q1 with ⟨e9, _⟩ | ⟨r, r1, e9, a, ea⟩
    · exact absurd e9 h9
    · obtain ⟨b, eb⟩ := lq.1
      obtain ⟨n0, okl, _⟩ := lM_ok pr r1
      have l1 : 1 ≤ (lM x r).length := by
        rcases Nat.eq_zero_or_pos (lM x r).length with h0 | h0
        · exact absurd (List.eq_nil_of_length_eq_zero h0) n0
        · exact h0
      have ew : ltM y k d ++ [(l : Int)] = (b ++ a) ++ lM x r := by rw [eb, ea, List.append_assoc]
      have el := congrArg List.length ew
      rw [List.length_append, List.length_append, ltM_len, List.length_singleton] at el
      have et : ltM z k (d + 1 - (lM x r).length) = b ++ a := by
        rw [← ltM_take z k (show d + 1 - (lM x r).length ≤ d + 1 by omega), zl1, ew]
        rw [show d + 1 - (lM x r).length = (b ++ a).length by omega]
        exact List.take_left
      have ey : ltM y k (d + 1 - (lM x r).length) = b ++ a := by rw [← zl _ (by omega)]; exact et
      obtain ⟨⟨g0, g1⟩, g2, g3⟩ := rl r (by omega)
      have rle : (rM x r).length ≤ (lM x r).length := by rcases g3 with g3 | g3 <;> omega
      have s9 : st1 (lM x) (rM x) (x.1 12).toNat (ltM y k d ++ ((l : Int) :: rsM y t)) ((b ++ a) ++ (rM x r ++ rsM y t)) := by
        refine ⟨b ++ a, rsM y t, r, r1, ?_, rfl⟩
        rw [show ltM y k d ++ ((l : Int) :: rsM y t) = (ltM y k d ++ [(l : Int)]) ++ rsM y t by simp, ew, List.append_assoc]
      have dec := st1_dec (fun r hr => (rl r (by omega)).2.2) _ _ s9
      refine ⟨r, r1, by rw [e21]; exact e9, l1, by omega, ⟨zf, zo, ?_, ?_, by omega, ?_, ?_, ?_⟩, ?_⟩
      · rw [et, ← ey]; intro w hw
        refine ou w ?_
        rw [← ltM_take y k (show d + 1 - (lM x r).length ≤ d by omega)] at hw
        exact List.mem_of_mem_take hw
      · rw [zr]; exact okL_a.mpr ⟨g2, ov2⟩
      · rw [et, ← ey]
        refine noL_pfx (e := (ltM y k d).drop (d + 1 - (lM x r).length)) ?_
        rw [← ltM_take y k (show d + 1 - (lM x r).length ≤ d by omega), List.take_append_drop]; exact nl9
      · intro j hj
        obtain ⟨n, n1, n2, n3⟩ := ps j (by omega)
        exact ⟨n, n1, by rw [z26, if_neg (by omega)]; exact n2, by rw [zl j (by omega)]; exact n3⟩
      · rw [et, zr]; exact rch_tr rc (rch_1 s9)
      · rw [et, zr, List.nil_append, er]; exact dec
theorem rd_push {x y : MS} {str : Nat → List Int} {Nn k s0 d t r c : Nat} (hc : c < (rM x r).length) (h : rdJ str Nn x y k s0 d t ((rM x r).take (c + 1))) (hk : k ≤ 12) (hk1 : k ≠ 11) (s1 : s0 ≤ 127) : rdJ str Nn x (aU y 2 (1408 + t) (x.2 16 (24 * r + c))) k s0 d (t + 1) ((rM x r).take c) ∧ ltM (aU y 2 (1408 + t) (x.2 16 (24 * r + c))) k d ++ ((rM x r).take c ++ rsM (aU y 2 (1408 + t) (x.2 16 (24 * r + c))) (t + 1)) = ltM y k d ++ ((rM x r).take (c + 1) ++ rsM y t) := by
  obtain ⟨f, fr, ou, ov, len, nl9, ps, rc⟩ := h
  have e1 : (rM x r).take (c + 1) = (rM x r).take c ++ [x.2 16 (24 * r + c)] := by rw [take_get hc, rM_get hc]
  rw [List.length_take] at len
  generalize hz : aU y 2 (1408 + t) (x.2 16 (24 * r + c)) = z
  have zf : same [] [2, 26] x z := by rw [← hz]; exact sm_a (by decide) f
  have z2 : ∀ i, z.2 2 i = if i = 1408 + t then x.2 16 (24 * r + c) else y.2 2 i := fun i => by rw [← hz, yU_s, yU_if]
  have z26 : z.2 26 = y.2 26 := by rw [← hz, yU_n (by decide)]
  have zl : ∀ j, j ≤ d → ltM z k j = ltM y k j := fun j hj => ltM_eq (fun i hi => by rw [z2, if_neg (by omega)])
  have zr : rsM z (t + 1) = x.2 16 (24 * r + c) :: rsM y t := by
    show z.2 2 (1408 + t) :: rsM z t = _
    rw [z2, if_pos rfl, rsM_eq (y := y) (fun i hi => by rw [z2, if_neg (by omega)])]
  have ew : ltM z k d ++ ((rM x r).take c ++ rsM z (t + 1)) = ltM y k d ++ ((rM x r).take (c + 1) ++ rsM y t) := by rw [zl d (Nat.le_refl d), zr, e1]; simp
  have ow : (rM x r).take c ++ rsM z (t + 1) = (rM x r).take (c + 1) ++ rsM y t := by rw [zr, e1]; simp
  refine ⟨⟨zf, fun i h1 h2 => ?_, by rw [zl d (Nat.le_refl d)]; exact ou, by rw [ow]; exact ov, by rw [List.length_take]; omega, by rw [zl d (Nat.le_refl d)]; exact nl9, fun j hj => ?_, by rw [ew]; exact rc⟩, ew⟩
  · rw [z2, if_neg (by omega)]; exact fr i h1 h2
  · rw [z26, zl j hj]; exact ps j hj
