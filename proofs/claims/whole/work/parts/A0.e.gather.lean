-- deps: A0.d
/-! the class: which RULES gather keeps -/
theorem gS_one {n : Nat} (hn : 1 ≤ n) {a b v w : Nat} (hv : v < n ^ a) (hw : w < n ^ b) (e : gS (n : Int) a + (v : Int) = gS (n : Int) b + (w : Int)) : a = b ∧ v = w := by
  have key : ∀ {a b v w : Nat}, v < n ^ a → w < n ^ b → gS (n : Int) a + (v : Int) = gS (n : Int) b + (w : Int) → ¬ a < b := by
    intro a b v w hv hw e h
    have g := gS_lt hn h
    rw [gS_s, gP_pow] at g
    omega
  have h1 := key hv hw e
  have h2 := key hw hv e.symm
  have eab : a = b := by omega
  refine ⟨eab, ?_⟩
  rw [eab] at e
  omega
/-- w is a LEFT side: not least, its parts are; f says where a number leads -/
def rulN (n m : Nat) (f : Int → Int) (w : Int) : Prop := ∃ k v : Nat, k < m ∧ v < n ^ (k + 1) ∧ w = gS (n : Int) (k + 1) + (v : Int) ∧ f w ≠ w ∧ f (gS (n : Int) k + ((v / n : Nat) : Int)) = gS (n : Int) k + ((v / n : Nat) : Int) ∧ f (gS (n : Int) k + ((v % n ^ k : Nat) : Int)) = gS (n : Int) k + ((v % n ^ k : Nat) : Int)
theorem rulN_at {n m : Nat} (hn : 1 ≤ n) {f : Int → Int} {k v : Nat} (hk : k < m) (hv : v < n ^ (k + 1)) : rulN n m f (gS (n : Int) (k + 1) + (v : Int)) ↔ (f (gS (n : Int) (k + 1) + (v : Int)) ≠ gS (n : Int) (k + 1) + (v : Int) ∧ f (gS (n : Int) k + ((v / n : Nat) : Int)) = gS (n : Int) k + ((v / n : Nat) : Int) ∧ f (gS (n : Int) k + ((v % n ^ k : Nat) : Int)) = gS (n : Int) k + ((v % n ^ k : Nat) : Int)) := by
  constructor
  · rintro ⟨k', v', h1, h2, h3, h4, h5, h6⟩
    obtain ⟨e1, e2⟩ := gS_one hn hv h2 h3
    have e1 : k' = k := by omega
    subst e1
    subst e2
    exact ⟨h4, h5, h6⟩
  · exact fun h => ⟨k, v, hk, hv, rfl, h.1, h.2.1, h.2.2⟩
theorem rulN_b {n m : Nat} (hn : 1 ≤ n) {f : Int → Int} {w : Int} (h : rulN n m f w) : 1 ≤ w ∧ w < gS (n : Int) (m + 1) := by
  obtain ⟨k, v, h1, h2, h3, _⟩ := h
  have g1 := gS_mono (L := (n : Int)) (by omega) (show 1 ≤ k + 1 by omega)
  have g2 := gS_mono (L := (n : Int)) (by omega) (show k + 2 ≤ m + 1 by omega)
  have e1 : gS (n : Int) 1 = 1 := rfl
  have e2 : gS (n : Int) (k + 2) = gS (n : Int) (k + 1) + ((n ^ (k + 1) : Nat) : Int) := by rw [← gP_pow]; rfl
  generalize n ^ (k + 1) = p at h2 e2
  omega
theorem isLeast_x {y : KS} {B : Int} (eB : y.1 56 1 = B) (h : ldn (y.2 57) B) {v : Int} (v0 : 0 ≤ v) (v1 : v < B) : (F_j_isLeast y v).1 = if rp (y.2 57) v = v then 1 else 0 := by
  unfold F_j_isLeast
  rw [if_neg (by omega), if_neg (by omega)]
  by_cases c : y.2 57 v.toNat = v
  · rw [if_pos c, if_pos ((rp_is h v0 v1).mp c)]
  · rw [if_neg c, if_neg (fun e => c ((rp_is h v0 v1).mpr e))]
theorem div_lt' {n k v : Nat} (hn : 1 ≤ n) (hv : v < n ^ (k + 1)) : v / n < n ^ k := by
  rw [Nat.pow_succ] at hv
  exact Nat.div_lt_of_lt_mul (by rw [Nat.mul_comm]; exact hv)
theorem gS_in {n : Nat} (hn : 1 ≤ n) {k m v : Nat} (hk : k ≤ m) (hv : v < n ^ k) : 0 ≤ gS (n : Int) k + (v : Int) ∧ gS (n : Int) k + (v : Int) < gS (n : Int) (m + 1) := by
  have g1 := gS_nn (L := (n : Int)) (by omega) k
  have g2 := gS_mono (L := (n : Int)) (by omega) (show k + 1 ≤ m + 1 by omega)
  rw [gS_s, gP_pow] at g2
  generalize n ^ k = p at hv g2
  omega
theorem parts_x {x y : KS} (sx : scX x) (e1 : y.1 1 = x.1 1) (e2 : y.2 2 = x.2 2) (e3 : y.2 3 = x.2 3) {m : Nat} (hm : (m : Int) ≤ x.1 1 3) (eB : y.1 56 1 = gS ((nL x : Nat) : Int) (m + 1)) (h : ldn (y.2 57) (gS ((nL x : Nat) : Int) (m + 1))) {k v : Nat} (hk : k < m) (hv : v < nL x ^ (k + 1)) : (F_u_arePartsLeast y ((k : Int) + 1) (v : Int)).1 = if (rp (y.2 57) (gS ((nL x : Nat) : Int) k + ((v / nL x : Nat) : Int)) = gS ((nL x : Nat) : Int) k + ((v / nL x : Nat) : Int) ∧ rp (y.2 57) (gS ((nL x : Nat) : Int) k + ((v % nL x ^ k : Nat) : Int)) = gS ((nL x : Nat) : Int) k + ((v % nL x ^ k : Nat) : Int)) then 1 else 0 := by
  have nb := nL_b sx
  have sy : scX y := by unfold scX scR; rw [e1, e2, e3]; exact sx
  have p1 : 0 < nL x ^ k := Nat.pow_pos (by omega)
  have f1 : (F_s_firstOf y ((k : Int) + 1 - (1 : Int))).1 = gS ((nL x : Nat) : Int) k := by
    rw [show (k : Int) + 1 - (1 : Int) = (k : Int) by omega, F_s_firstOf_v (by omega) (by rw [e1]; omega), Int.toNat_natCast, e3, scX_gS sx k (by omega)]
  have f2 : (F_s_powerOf y ((k : Int) + 1 - (1 : Int))).1 = ((nL x ^ k : Nat) : Int) := by
    rw [show (k : Int) + 1 - (1 : Int) = (k : Int) by omega, F_s_powerOf_v (by omega) (by rw [e1]; omega), Int.toNat_natCast, e2, scX_pow sx k (by omega)]
  have f3 : y.1 1 2 = ((nL x : Nat) : Int) := by rw [e1]; exact (nL_i sx).symm
  have i1 := gS_in nb.1 (show k ≤ m by omega) (div_lt' nb.1 hv)
  have i2 := gS_in nb.1 (show k ≤ m by omega) (Nat.mod_lt v p1)
  unfold F_u_arePartsLeast
  rw [f1, f2, f3, ← Int.natCast_ediv, ← Int.natCast_emod, isLeast_x eB h i1.1 i1.2, isLeast_x eB h i2.1 i2.2]
  by_cases c1 : rp (y.2 57) (gS ((nL x : Nat) : Int) k + ((v / nL x : Nat) : Int)) = gS ((nL x : Nat) : Int) k + ((v / nL x : Nat) : Int)
  · rw [if_pos c1, if_neg (by decide)]
    by_cases c2 : rp (y.2 57) (gS ((nL x : Nat) : Int) k + ((v % nL x ^ k : Nat) : Int)) = gS ((nL x : Nat) : Int) k + ((v % nL x ^ k : Nat) : Int)
    · rw [if_pos c2, if_neg (by decide), if_pos ⟨c1, c2⟩]
    · rw [if_neg c2, if_pos rfl, if_neg (fun e => c2 e.2)]
  · rw [if_neg c1, if_pos rfl, if_neg (fun e => c1 e.1)]
/-- while RULES are gathered: all LEFT sides below c are kept, in ORDER -/
def gxI (x : KS) (m : Nat) (f : Int → Int) (y : KS) (c : Int) : Prop :=
  (y.1 1 = x.1 1 ∧ y.2 2 = x.2 2 ∧ y.2 3 = x.2 3 ∧ y.1 56 1 = gS ((nL x : Nat) : Int) (m + 1) ∧ ldn (y.2 57) (gS ((nL x : Nat) : Int) (m + 1)) ∧ ∀ w : Int, 0 ≤ w → w < gS ((nL x : Nat) : Int) (m + 1) → rp (y.2 57) w = f w) ∧ (0 ≤ y.1 58 6 ∧ y.1 58 6 ≤ 40) ∧ (∀ r : Nat, (r : Int) < y.1 58 6 → (rulN (nL x) m f (y.2 59 r) ∧ y.2 59 r < c) ∧ y.2 61 r = (F_s_spanOf x (f (y.2 59 r))).1 ∧ y.2 63 r = (F_s_codeOf x (f (y.2 59 r))).1) ∧ (∀ i j : Nat, i < j → (j : Int) < y.1 58 6 → y.2 59 i < y.2 59 j) ∧ ∀ w : Int, rulN (nL x) m f w → w < c → ∃ r : Nat, (r : Int) < y.1 58 6 ∧ y.2 59 r = w
theorem gx_skip {x : KS} {m : Nat} {f : Int → Int} {y : KS} {c : Int} (h : gxI x m f y c) (hn : ¬ rulN (nL x) m f c) : gxI x m f y (c + 1) := by
  obtain ⟨h1, h2, h3, h4, h5⟩ := h
  refine ⟨h1, h2, fun r hr => ?_, h4, fun w hw hc => ?_⟩
  · obtain ⟨⟨a, b⟩, d⟩ := h3 r hr
    exact ⟨⟨a, by omega⟩, d⟩
  · by_cases e : w = c
    · rw [e] at hw; exact absurd hw hn
    · exact h5 w hw (by omega)
theorem gx_keep {x : KS} (sx : scX x) {m : Nat} (hm : (m : Int) ≤ x.1 1 3) (B9 : gS ((nL x : Nat) : Int) (m + 1) ≤ 10000) {f : Int → Int} {y : KS} {c : Int} (h : gxI x m f y c) (hr : rulN (nL x) m f c) (h40 : y.1 58 6 < 40) : gxI x m f (F_u_keep (F_j_leastOf y c).2 c (F_j_leastOf y c).1).2 (c + 1) := by
  obtain ⟨⟨e1, e2, e3, eB, hl, hf⟩, h2, h3, h4, h5⟩ := h
  have nb := nL_b sx
  have cb := rulN_b nb.1 hr
  obtain ⟨l1, l2, l3⟩ := leastOf_x (x := y) (v := c) (by rw [eB]; exact hl) (by rw [eB]; exact B9) (by omega) (by rw [eB]; exact cb.2)
  rw [eB] at l2 l3
  have fl := F_j_leastOf_fr y c
  have g1 : (F_j_leastOf y c).2.1 1 = y.1 1 := funext fun k => fl.1 1 k List.not_mem_nil
  have g3 : (F_j_leastOf y c).2.2 3 = y.2 3 := fl.2 3 (by decide)
  have g2 : (F_j_leastOf y c).2.2 2 = y.2 2 := fl.2 2 (by decide)
  have g6 : (F_j_leastOf y c).2.1 58 6 = y.1 58 6 := fl.1 58 6 List.not_mem_nil
  have g59 : (F_j_leastOf y c).2.2 59 = y.2 59 := fl.2 59 (by decide)
  have g61 : (F_j_leastOf y c).2.2 61 = y.2 61 := fl.2 61 (by decide)
  have g63 : (F_j_leastOf y c).2.2 63 = y.2 63 := fl.2 63 (by decide)
  have fk := F_u_keep_fr (F_j_leastOf y c).2 c (F_j_leastOf y c).1
  obtain ⟨k6, k59, k60, k62, k61, k63⟩ := F_u_keep_v (x := (F_j_leastOf y c).2) (a := c) (b := (F_j_leastOf y c).1) (by rw [g6]; exact h40)
  have fc : (F_j_leastOf y c).1 = f c := by rw [l1]; exact hf c (by omega) cb.2
  rw [fc] at fk k6 k59 k61 k63 ⊢
  rw [F_s_spanOf_cg (x := x) (g1.trans e1) (g3.trans e3), g6, g61] at k61
  rw [F_s_codeOf_cg (x := x) (g1.trans e1) (g3.trans e3), g6, g63] at k63
  rw [g6, g59] at k59
  rw [g6] at k6
  refine ⟨⟨?_, ?_, ?_, ?_, ?_, ?_⟩, by rw [k6]; omega, fun r hr9 => ?_, fun i j hij hj => ?_, fun w hw hc => ?_⟩
  · exact (funext fun k => fk.1 1 k (by simp) : _ = (F_j_leastOf y c).2.1 1).trans (g1.trans e1)
  · exact (fk.2 2 (by decide)).trans (g2.trans e2)
  · exact (fk.2 3 (by decide)).trans (g3.trans e3)
  · exact (fk.1 56 1 (by decide)).trans ((fl.1 56 1 List.not_mem_nil).trans eB)
  · rw [fk.2 57 (by decide)]; exact l2
  · intro w w0 w1
    rw [fk.2 57 (by decide), l3 w w0 w1]
    exact hf w w0 w1
  · rw [k6] at hr9
    rw [k59, k61, k63]
    by_cases e : r = (y.1 58 6).toNat
    · rw [e, iU_s, iU_s, iU_s]
      exact ⟨⟨hr, by omega⟩, rfl, rfl⟩
    · rw [iU_n e, iU_n e, iU_n e]
      obtain ⟨⟨a, b⟩, d⟩ := h3 r (by omega)
      exact ⟨⟨a, by omega⟩, d⟩
  · rw [k6] at hj
    rw [k59, iU_n (show i ≠ (y.1 58 6).toNat by omega)]
    by_cases e : j = (y.1 58 6).toNat
    · rw [e, iU_s]
      exact (h3 i (by omega)).1.2
    · rw [iU_n e]
      exact h4 i j hij (by omega)
  · rw [k6]
    by_cases e : w = c
    · exact ⟨(y.1 58 6).toNat, by omega, by rw [k59, iU_s, e]⟩
    · obtain ⟨r, r1, r2⟩ := h5 w hw (by omega)
      exact ⟨r, by omega, by rw [k59, iU_n (show r ≠ (y.1 58 6).toNat by omega)]; exact r2⟩
/-- what gather answers -/
def gxR (x : KS) (m : Nat) (f : Int → Int) (q : Int × KS) : Prop := (q.1 = 1 ∧ gxI x m f q.2 (gS ((nL x : Nat) : Int) (m + 1))) ∨ (q.1 = 0 ∧ ∃ h : Nat → Int, (∀ i j : Nat, i < j → j < 41 → h i < h j) ∧ ∀ i : Nat, i < 41 → rulN (nL x) m f (h i))
theorem gather_s {x : KS} (sx : scX x) {m : Nat} (hm : (m : Int) ≤ x.1 1 3) (B9 : gS ((nL x : Nat) : Int) (m + 1) ≤ 10000) {f : Int → Int} : ∀ n : Nat,
    (∀ (y : KS) (k : Nat), k ≤ m → gxI x m f y (gS ((nL x : Nat) : Int) (k + 1)) → (gS ((nL x : Nat) : Int) (m + 1) - gS ((nL x : Nat) : Int) (k + 1)) + 2 * ((m : Int) - k) + 2 < n → gxR x m f (F_u_gather_s n 0 y (m : Int) ((k : Int) + 1) 0 0 0)) ∧
    (∀ (y : KS) (k v : Nat), k < m → v ≤ nL x ^ (k + 1) → gxI x m f y (gS ((nL x : Nat) : Int) (k + 1) + (v : Int)) → (gS ((nL x : Nat) : Int) (m + 1) - gS ((nL x : Nat) : Int) (k + 1) - (v : Int)) + 2 * ((m : Int) - k) + 1 < n → gxR x m f (F_u_gather_s n 1 y (m : Int) ((k : Int) + 1) (gS ((nL x : Nat) : Int) (k + 1)) ((nL x ^ (k + 1) : Nat) : Int) (v : Int))) := by
  have nb := nL_b sx
  intro n
  induction n with
  | zero =>
    refine ⟨fun y k hk _ fu => ?_, fun y k v hk hv _ fu => ?_⟩
    · exfalso
      have g := gS_mono (L := ((nL x : Nat) : Int)) (by omega) (show k + 1 ≤ m + 1 by omega)
      omega
    · exfalso
      have g := gS_mono (L := ((nL x : Nat) : Int)) (by omega) (show k + 2 ≤ m + 1 by omega)
      have e2 : gS ((nL x : Nat) : Int) (k + 2) = gS ((nL x : Nat) : Int) (k + 1) + ((nL x ^ (k + 1) : Nat) : Int) := by rw [← gP_pow]; rfl
      generalize nL x ^ (k + 1) = p at hv e2
      omega
  | succ n ih =>
    refine ⟨fun y k hk h fu => ?_, fun y k v hk hv h fu => ?_⟩
    · rw [F_u_gather_e0]
      obtain ⟨e1, e2, e3, eB, hl, hf⟩ := h.1
      by_cases c1 : (m : Int) < (k : Int) + 1
      · rw [if_pos c1]
        have ek : k = m := by omega
        rw [ek] at h
        exact Or.inl ⟨rfl, h⟩
      · rw [if_neg c1, F_s_firstOf_v (by omega) (by rw [e1]; omega), F_s_powerOf_v (by omega) (by rw [e1]; omega), e2, e3, show ((k : Int) + 1).toNat = k + 1 by omega, scX_gS sx _ (by omega), scX_pow sx _ (by omega)]
        have := ih.2 y k 0 (by omega) (Nat.zero_le _) (by rw [Int.natCast_zero, Int.add_zero]; exact h) (by omega)
        exact this
    · rw [F_u_gather_e1]
      obtain ⟨e1, e2, e3, eB, hl, hf⟩ := h.1
      by_cases c1 : ((nL x ^ (k + 1) : Nat) : Int) ≤ (v : Int)
      · rw [if_pos c1]
        have ev : v = nL x ^ (k + 1) := by omega
        have es : gS ((nL x : Nat) : Int) (k + 1) + (v : Int) = gS ((nL x : Nat) : Int) (k + 1 + 1) := by rw [ev, gS_s _ (k + 1), gP_pow]
        rw [es] at h
        have := ih.1 y (k + 1) (by omega) h (by omega)
        exact this
      · rw [if_neg c1]
        have hv1 : v < nL x ^ (k + 1) := by omega
        have ci := gS_in nb.1 (show k + 1 ≤ m by omega) hv1
        have go : gxI x m f y (gS ((nL x : Nat) : Int) (k + 1) + (v : Int) + 1) → gxR x m f (F_u_gather_s n 1 y (m : Int) ((k : Int) + 1) (gS ((nL x : Nat) : Int) (k + 1)) ((nL x ^ (k + 1) : Nat) : Int) ((v : Int) + (1 : Int))) := fun h9 => by
          have := ih.2 y k (v + 1) hk hv1 (by rw [Int.natCast_add, Int.natCast_one, ← Int.add_assoc]; exact h9) (by omega)
          exact this
        rw [isLeast_x eB hl ci.1 ci.2, hf _ ci.1 ci.2, parts_x sx e1 e2 e3 hm eB hl hk hv1]
        have i1 := gS_in nb.1 (show k ≤ m by omega) (div_lt' nb.1 hv1)
        have i2 := gS_in nb.1 (show k ≤ m by omega) (Nat.mod_lt v (show 0 < nL x ^ k from Nat.pow_pos (by omega)))
        rw [hf _ i1.1 i1.2, hf _ i2.1 i2.2]
        have ra := rulN_at nb.1 (f := f) hk hv1
        by_cases c2 : f (gS ((nL x : Nat) : Int) (k + 1) + (v : Int)) = gS ((nL x : Nat) : Int) (k + 1) + (v : Int)
        · rw [if_pos c2, if_neg (by decide)]
          exact go (gx_skip h (fun e => (ra.mp e).1 c2))
        · rw [if_neg c2, if_pos rfl]
          by_cases c3 : f (gS ((nL x : Nat) : Int) k + ((v / nL x : Nat) : Int)) = gS ((nL x : Nat) : Int) k + ((v / nL x : Nat) : Int) ∧ f (gS ((nL x : Nat) : Int) k + ((v % nL x ^ k : Nat) : Int)) = gS ((nL x : Nat) : Int) k + ((v % nL x ^ k : Nat) : Int)
          · rw [if_pos c3, if_neg (by decide)]
            have hr : rulN (nL x) m f (gS ((nL x : Nat) : Int) (k + 1) + (v : Int)) := ra.mpr ⟨c2, c3.1, c3.2⟩
            have g6 : (F_j_leastOf y (gS ((nL x : Nat) : Int) (k + 1) + (v : Int))).2.1 58 6 = y.1 58 6 := (F_j_leastOf_fr y _).1 58 6 List.not_mem_nil
            by_cases h40 : y.1 58 6 < 40
            · have k1 : (F_u_keep (F_j_leastOf y (gS ((nL x : Nat) : Int) (k + 1) + (v : Int))).2 (gS ((nL x : Nat) : Int) (k + 1) + (v : Int)) (F_j_leastOf y (gS ((nL x : Nat) : Int) (k + 1) + (v : Int))).1).1 = 1 := by unfold F_u_keep; rw [if_pos (by rw [g6]; exact h40)]
              rw [k1, if_neg (by decide)]
              have G := gx_keep sx hm B9 h hr h40
              have := ih.2 _ k (v + 1) hk hv1 (by rw [Int.natCast_add, Int.natCast_one, ← Int.add_assoc]; exact G) (by omega)
              exact this
            · have k1 : (F_u_keep (F_j_leastOf y (gS ((nL x : Nat) : Int) (k + 1) + (v : Int))).2 (gS ((nL x : Nat) : Int) (k + 1) + (v : Int)) (F_j_leastOf y (gS ((nL x : Nat) : Int) (k + 1) + (v : Int))).1).1 = 0 := by unfold F_u_keep; rw [if_neg (by rw [g6]; exact h40)]
              rw [k1, if_pos rfl]
              obtain ⟨_, h2, h3, h4, _⟩ := h
              refine Or.inr ⟨rfl, fun i => if i < 40 then y.2 59 i else gS ((nL x : Nat) : Int) (k + 1) + (v : Int), fun i j hij hj => ?_, fun i hi => ?_⟩
              · show (if i < 40 then y.2 59 i else _) < (if j < 40 then y.2 59 j else _)
                rw [if_pos (show i < 40 by omega)]
                by_cases cj : j < 40
                · rw [if_pos cj]; exact h4 i j hij (by omega)
                · rw [if_neg cj]; exact (h3 i (by omega)).1.2
              · show rulN _ _ _ (if i < 40 then y.2 59 i else _)
                by_cases ci : i < 40
                · rw [if_pos ci]; exact (h3 i (by omega)).1.1
                · rw [if_neg ci]; exact hr
          · rw [if_neg c3, if_pos rfl]
            exact go (gx_skip h (fun e => c3 (ra.mp e).2))
theorem gather_x {x : KS} (sx : scX x) {m : Nat} (m1 : 1 ≤ m) (hm : (m : Int) ≤ x.1 1 3) (eB : x.1 56 1 = gS ((nL x : Nat) : Int) (m + 1)) (B9 : x.1 56 1 ≤ 10000) (hl : ldn (x.2 57) (x.1 56 1)) : gxR x m (rp (x.2 57)) (F_u_gather x (m : Int)) := by
  have nb := nL_b sx
  have e1 : gS ((nL x : Nat) : Int) (0 + 1) = 1 := rfl
  have l3 := sx.1.2.1
  have G := (gather_s sx hm (by rw [← eB]; exact B9) (f := rp (x.2 57)) 300000).1 (kS x 58 6 ((0 : Int))) 0 (Nat.zero_le _) ⟨⟨kS_c (by decide), rfl, rfl, by rw [kS_c (by decide)]; exact eB, by rw [← eB]; exact hl, fun _ _ _ => rfl⟩, by rw [kS_s]; omega, fun r hr => by rw [kS_s] at hr; exfalso; omega, fun i j _ hj => by rw [kS_s] at hj; exfalso; omega, fun w hw hc => by have := rulN_b nb.1 hw; exfalso; omega⟩ (by rw [← eB]; omega)
  exact G
