-- deps: A3.g
/-! both sides keep the same RULES -/
theorem num_dl {n : Nat} (hn : 1 ≤ n) {k v : Nat} (hv : v < n ^ k) : num n (dl n k v) = gS (n : Int) k + (v : Int) := by
  unfold num
  rw [dl_len, vl_dl hn k v hv]
theorem gx_sides {x y : KS} (sx : scX x) {m : Nat} (hm : (m : Int) ≤ x.1 1 3) {f : Int → Int} {c : Int} (h : gxI x m f y c) (re : ruE y) (hf : ∀ w : Int, 0 ≤ w → w < gS ((nL x : Nat) : Int) (m + 1) → 0 ≤ f w ∧ f w < gS ((nL x : Nat) : Int) (m + 1)) (r : Nat) (hr : (r : Int) < y.1 58 6) : (okL (nL x) (lS y r) ∧ num (nL x) (lS y r) = y.2 59 r) ∧ okL (nL x) (rS y r) ∧ num (nL x) (rS y r) = f (y.2 59 r) := by
  obtain ⟨⟨e1, e2, e3, _, _, _⟩, h2, h3, _, _⟩ := h
  have nb := nL_b sx
  have l3 := sx.1.2.1
  have ny : nL y = nL x := by unfold nL; rw [e1]
  have sy : scX y := by unfold scX scR; rw [e1, e2, e3]; exact sx
  obtain ⟨G, B, G', B', r1, r2, r3, r4, r5, _⟩ := re r hr
  rw [ny] at r3 r5
  rw [e1] at r2
  rw [e3, scX_gS sx G (by omega)] at r1
  have eL : lS y r = dl (nL x) G B := lS_v (by omega) nb.1 nb.2 r4 (by omega) r5
  obtain ⟨⟨q1, q2⟩, q3, q4⟩ := h3 r hr
  have wb := rulN_b nb.1 q1
  have fb := hf (y.2 59 r) (by omega) wb.2
  have g9 : x.2 3 (x.1 1 3 + 1).toNat = gS ((nL x : Nat) : Int) (x.1 1 3 + 1).toNat := scX_gS sx _ (by omega)
  have gm := gS_mono (L := ((nL x : Nat) : Int)) (by omega) (show m + 1 ≤ (x.1 1 3 + 1).toNat by omega)
  obtain ⟨G2, B2, s1, s2, s3, s4⟩ := F_s_spanOf_x sx (v := f (y.2 59 r)) fb.1 (by rw [g9]; omega)
  have s5 := F_s_codeOf_v sx fb.1 s1 (B := B2) (by omega)
  rw [s1] at q3
  rw [s5] at q4
  have eR : rS y r = dl (nL x) G2 B2 := rS_v (by omega) nb.1 nb.2 q3 (by omega) q4
  rw [scX_gS sx G2 (by omega)] at s3
  rw [eL, eR]
  exact ⟨⟨dl_ok nb.1 _ _, (num_dl nb.1 r3).trans r1.symm⟩, dl_ok nb.1 _ _, (num_dl nb.1 s4).trans s3.symm⟩
/-- the RULES of the class, as told by what is least -/
def ruK (n m : Nat) (f : Int → Int) (c : Nat) (L R : Nat → List Int) : Prop := (∀ r : Nat, r < c → (okL n (L r) ∧ rulN n m f (num n (L r))) ∧ okL n (R r) ∧ num n (R r) = f (num n (L r))) ∧ (∀ i j : Nat, i < j → j < c → num n (L i) < num n (L j)) ∧ ∀ w : Int, rulN n m f w → ∃ r : Nat, r < c ∧ num n (L r) = w
theorem rulN_e {n m : Nat} (hn : 1 ≤ n) {f g : Int → Int} (e : ∀ w : Int, 0 ≤ w → w < gS (n : Int) (m + 1) → f w = g w) {w : Int} (h : rulN n m f w) : rulN n m g w := by
  have wb := rulN_b hn h
  obtain ⟨k, v, h1, h2, h3, h4, h5, h6⟩ := h
  have i1 := gS_in hn (show k ≤ m by omega) (div_lt' hn h2)
  have i2 := gS_in hn (show k ≤ m by omega) (Nat.mod_lt v (show 0 < n ^ k from Nat.pow_pos (by omega)))
  exact ⟨k, v, h1, h2, h3, by rw [← e w (by omega) wb.2]; exact h4, by rw [← e _ i1.1 i1.2]; exact h5, by rw [← e _ i2.1 i2.2]; exact h6⟩
theorem ruK_one {n m : Nat} (hn : 1 ≤ n) {f g : Int → Int} (e : ∀ w : Int, 0 ≤ w → w < gS (n : Int) (m + 1) → f w = g w) {c d : Nat} {L R L' R' : Nat → List Int} (h : ruK n m f c L R) (k : ruK n m g d L' R') : c = d ∧ ∀ r, r < c → L r = L' r ∧ R r = R' r := by
  have e' : ∀ w : Int, 0 ≤ w → w < gS (n : Int) (m + 1) → g w = f w := fun w a b => (e w a b).symm
  obtain ⟨h1, h2, h3⟩ := h
  obtain ⟨k1, k2, k3⟩ := k
  obtain ⟨E1, E2⟩ := enum_eq (f := fun r => num n (L r)) (g := fun r => num n (L' r)) h2 k2 (fun i hi => by
    obtain ⟨r, r1, r2⟩ := k3 _ (rulN_e hn e (h1 i hi).1.2)
    exact ⟨r, r1, r2.symm⟩) (fun i hi => by
    obtain ⟨r, r1, r2⟩ := h3 _ (rulN_e hn e' (k1 i hi).1.2)
    exact ⟨r, r1, r2.symm⟩)
  refine ⟨E1, fun r hr => ?_⟩
  have el : L r = L' r := num_one hn (h1 r hr).1.1 (k1 r (by omega)).1.1 (E2 r hr)
  refine ⟨el, num_one hn (h1 r hr).2.1 (k1 r (by omega)).2.1 ?_⟩
  have wb := rulN_b hn (h1 r hr).1.2
  rw [(h1 r hr).2.2, (k1 r (by omega)).2.2, ← el]
  exact e _ (by omega) wb.2
theorem gx_ru {x y : KS} (sx : scX x) {m : Nat} (hm : (m : Int) ≤ x.1 1 3) {f : Int → Int} (h : gxI x m f y (gS ((nL x : Nat) : Int) (m + 1))) (re : ruE y) (hf : ∀ w : Int, 0 ≤ w → w < gS ((nL x : Nat) : Int) (m + 1) → 0 ≤ f w ∧ f w < gS ((nL x : Nat) : Int) (m + 1)) : ruK (nL x) m f (nR y) (lS y) (rS y) := by
  have S := fun r hr => gx_sides sx hm h re hf r hr
  have nb := nL_b sx
  obtain ⟨_, h2, h3, h4, h5⟩ := h
  have en : ∀ r : Nat, r < nR y → (r : Int) < y.1 58 6 := fun r hr => by unfold nR at hr; omega
  refine ⟨fun r hr => ?_, fun i j hij hj => ?_, fun w hw => ?_⟩
  · have s := S r (en r hr)
    exact ⟨⟨s.1.1, by rw [s.1.2]; exact (h3 r (en r hr)).1.1⟩, s.2.1, by rw [s.1.2]; exact s.2.2⟩
  · rw [(S i (en i (by omega))).1.2, (S j (en j hj)).1.2]
    exact h4 i j hij (en j hj)
  · obtain ⟨r, r1, r2⟩ := h5 w hw (rulN_b nb.1 hw).2
    exact ⟨r, by unfold nR; omega, by rw [(S r r1).1.2]; exact r2⟩
theorem fr_ru {x y : MS} {m : Nat} (l0 : 1 ≤ x.1 0) {f : Int → Int} (h : frI x m f y (gS (x.1 0) (m + 1))) : ruK (x.1 0).toNat m f (y.1 12).toNat (lM y) (rM y) := by
  obtain ⟨_, h2, h3, h4, h5⟩ := h
  have en : ∀ r : Nat, r < (y.1 12).toNat → (r : Int) < y.1 12 := fun r hr => by omega
  have ei : (((x.1 0).toNat : Nat) : Int) = x.1 0 := by omega
  refine ⟨fun r hr => ?_, fun i j hij hj => h4 i j hij (en j hj), fun w hw => ?_⟩
  · have s := h3 r (en r hr)
    exact ⟨⟨s.1.1, s.1.2.1⟩, s.2.1⟩
  · have wb := (rulN_b (n := (x.1 0).toNat) (by omega) hw).2
    rw [ei] at wb
    obtain ⟨r, r1, r2⟩ := h5 w hw wb
    exact ⟨r, by omega, r2⟩
/-- no row of 41 where 40 are all -/
theorem ruK_41 {n m : Nat} {f : Int → Int} {c : Nat} {L R : Nat → List Int} (h : ruK n m f c L R) (c40 : c ≤ 40) (k : ∃ h : Nat → Int, (∀ i j : Nat, i < j → j < 41 → h i < h j) ∧ ∀ i : Nat, i < 41 → rulN n m f (h i)) : False := by
  obtain ⟨g, g1, g2⟩ := k
  obtain ⟨h1, h2, h3⟩ := h
  have := enum_n (f := g) (g := fun r => num n (L r)) g1 h2 (fun i hi => by
    obtain ⟨r, r1, r2⟩ := h3 _ (g2 i hi)
    exact ⟨r, r1, r2.symm⟩)
  omega
