-- deps: 30 31 32 33 34 36 70 71 72 73 74
/-! the Scale and codes, exactly -/
def nL (x : KS) : Nat := (x.1 1 2).toNat
/-- the LETTERS of a STRING -/
def wS (x : KS) (c : Nat) : List Int := (List.range (x.1 c 1).toNat).map (fun j => x.2 (c + 1) j)
theorem wS_len (x : KS) (c : Nat) : (wS x c).length = (x.1 c 1).toNat := by unfold wS; rw [List.length_map, List.length_range]
theorem nL_i {x : KS} (sx : scX x) : ((nL x : Nat) : Int) = x.1 1 2 := by unfold nL; have := sx.1.1; omega
theorem nL_b {x : KS} (sx : scX x) : 1 ≤ nL x ∧ nL x ≤ 4 := by unfold nL; have := sx.1.1; omega
theorem scX_pow {x : KS} (sx : scX x) : ∀ k : Nat, (k : Int) ≤ x.1 1 3 → x.2 2 k = ((nL x ^ k : Nat) : Int) := by
  intro k
  induction k with
  | zero => intro _; rw [sx.2.1]; rfl
  | succ k ih =>
    intro hk
    rw [sx.2.2.1 k (by omega), ih (by omega), Nat.pow_succ, Int.natCast_mul, nL_i sx]
theorem F_s_valueOf_s_v {x : KS} (sx : scX x) {w : Nat} (hl : wLt x w) (hu : x.1 w 1 ≤ 60) : ∀ (n i v : Nat), (i : Int) ≤ x.1 w 1 → x.1 w 1 - i < n → v = vl (nL x) ((List.range i).map (fun j => x.2 (w + 1) j)) → (F_s_valueOf_s w n 0 x (v : Int) (i : Int)).1 = ((vl (nL x) (wS x w) : Nat) : Int) := by
  intro n
  induction n with
  | zero => intro i v h1 h2; exfalso; omega
  | succ n ih =>
    intro i v h1 h2 hv
    rw [F_s_valueOf_e0]
    by_cases c1 : x.1 w 1 ≤ (i : Int)
    · rw [if_pos c1]
      have e : (x.1 w 1).toNat = i := by omega
      unfold wS
      rw [e, ← hv]
    · rw [if_neg c1]
      have hj := hl i (by omega)
      have e1 : (v : Int) * x.1 1 2 + x.2 (w + 1) (i : Int).toNat = ((v * nL x + (x.2 (w + 1) i).toNat : Nat) : Int) := by
        rw [Int.toNat_natCast, Int.natCast_add, Int.natCast_mul, nL_i sx]
        omega
      have e2 : (i : Int) + 1 = ((i + 1 : Nat) : Int) := by omega
      rw [e1, e2]
      refine ih (i + 1) _ (by omega) (by omega) ?_
      rw [List.range_succ, List.map_append, hv]
      exact (vl_snoc _ _ _).symm
theorem F_s_valueOf_v {x : KS} (sx : scX x) {w : Nat} (h0 : 0 ≤ x.1 w 1) (hu : x.1 w 1 ≤ 60) (hl : wLt x w) : (F_s_valueOf x w).1 = ((vl (nL x) (wS x w) : Nat) : Int) :=
  F_s_valueOf_s_v sx hl hu 100 0 0 h0 (by omega) rfl
theorem k4_2 (k : Nat) : 2 ^ (2 * k) = 4 ^ k := by rw [Nat.pow_mul]
theorem F_s_codeOf_s_v {x : KS} (sx : scX x) (v : Int) (G : Nat) (hG : G ≤ 20) : ∀ (n i b q : Nat), i ≤ G → q < 4 ^ i → G - i < n → (F_s_codeOf_s n 0 x v (G : Int) (b : Int) (q : Int) (i : Int)).1 = ((q + 4 ^ i * vl 4 (dl (nL x) (G - i) b) : Nat) : Int) := by
  intro n
  induction n with
  | zero => intro i b q h1 h2 h3; exfalso; omega
  | succ n ih =>
    intro i b q h1 h2 h3
    rw [F_s_codeOf_e0]
    by_cases c1 : (G : Int) ≤ (i : Int)
    · rw [if_pos c1]
      have e : G - i = 0 := by omega
      rw [e]
      show (q : Int) = ((q + 4 ^ i * 0 : Nat) : Int)
      rw [Nat.mul_zero, Nat.add_zero]
    · rw [if_neg c1]
      have hn := nL_b sx
      have hd : b % nL x < 4 := Nat.lt_of_lt_of_le (Nat.mod_lt _ (by omega)) hn.2
      have p20 : 4 ^ (i + 1) ≤ 4 ^ 20 := Nat.pow_le_pow_right (by decide) (by omega)
      have pe : (4 : Nat) ^ 20 = 1099511627776 := by decide
      have ps : 4 ^ (i + 1) = 4 * 4 ^ i := by rw [Nat.pow_succ, Nat.mul_comm]
      have hm : b % nL x * 4 ^ i ≤ 3 * 4 ^ i := Nat.mul_le_mul_right _ (by omega)
      have e1 : (b : Int) % x.1 1 2 = ((b % nL x : Nat) : Int) := by rw [← nL_i sx]; rfl
      have e2 : (b : Int) / x.1 1 2 = ((b / nL x : Nat) : Int) := by rw [← nL_i sx]; rfl
      have e3 : (2 : Int) * (i : Int) = ((2 * i : Nat) : Int) := by omega
      have e4 : (i : Int) + 1 = ((i + 1 : Nat) : Int) := by omega
      rw [e1, e2, e3, e4, iSl_v (by omega) (by rw [k4_2]; omega), iO_v (by rw [k4_2]; exact h2) (by rw [k4_2]; omega), k4_2, ih (i + 1) (b / nL x) _ (by omega) (by omega) (by omega)]
      congr 1
      have e5 : G - i = (G - (i + 1)) + 1 := by omega
      rw [e5]
      show _ = q + 4 ^ i * vl 4 (dl (nL x) (G - (i + 1)) (b / nL x) ++ [((b % nL x : Nat) : Int)])
      rw [vl_snoc, Int.toNat_natCast, ps, Nat.mul_add, Nat.add_assoc, Nat.mul_comm (b % nL x)]
      have e6 : 4 * 4 ^ i * vl 4 (dl (nL x) (G - (i + 1)) (b / nL x)) = 4 ^ i * (vl 4 (dl (nL x) (G - (i + 1)) (b / nL x)) * 4) := by
        rw [Nat.mul_comm 4 (4 ^ i), Nat.mul_assoc, Nat.mul_comm 4]
      omega
/-- the code of a number: its LETTERS to the base 4 -/
theorem F_s_codeOf_v {x : KS} (sx : scX x) {v : Int} (h0 : 0 ≤ v) {G B : Nat} (hG : (F_s_spanOf x v).1 = (G : Int)) (hB : v - x.2 3 G = (B : Int)) : (F_s_codeOf x v).1 = ((vl 4 (dl (nL x) G B) : Nat) : Int) := by
  have sb := F_s_spanOf_b sx.1 h0
  have l3 := sx.1.2.1
  have hG2 : G ≤ 20 := by omega
  have fv := F_s_firstOf_v (x := x) (k := (F_s_spanOf x v).1) sb.1 sb.2.1
  unfold F_s_codeOf
  rw [fv, hG, Int.toNat_natCast, hB]
  have := F_s_codeOf_s_v sx v G hG2 30 0 B 0 (by omega) (by decide) (by omega)
  rw [Nat.pow_zero, Nat.one_mul, Nat.zero_add, Nat.sub_zero] at this
  exact this
theorem dl_get (n : Nat) : ∀ k v : Nat, dl n k v = (List.range k).map (fun i => ((v / n ^ (k - 1 - i) % n : Nat) : Int)) := by
  intro k
  induction k with
  | zero => intro v; rfl
  | succ k ih =>
    intro v
    show dl n k (v / n) ++ [((v % n : Nat) : Int)] = _
    rw [ih, List.range_succ, List.map_append]
    congr 1
    · apply List.map_congr_left
      intro i hi
      have hi2 := List.mem_range.mp hi
      have e : k + 1 - 1 - i = (k - 1 - i) + 1 := by omega
      rw [e, Nat.pow_succ, Nat.mul_comm, ← Nat.div_div_eq_div_mul]
    · show _ = [((v / n ^ (k + 1 - 1 - k) % n : Nat) : Int)]
      have e : k + 1 - 1 - k = 0 := by omega
      rw [e, Nat.pow_zero, Nat.div_one]
/-- the LETTERS of a RULE's side -/
def lS (x : KS) (r : Nat) : List Int := (List.range (x.2 60 r).toNat).map (fun i : Nat => (F_u_signAt x (r : Int) 1 (i : Int)).1)
def rS (x : KS) (r : Nat) : List Int := (List.range (x.2 61 r).toNat).map (fun i : Nat => (F_u_signAt x (r : Int) 0 (i : Int)).1)
theorem F_u_signAt_v {x : KS} {r : Nat} (hr : r < 40) {G C : Nat} (hG : x.2 60 r = (G : Int)) (hG2 : G ≤ 20) (hC : x.2 62 r = (C : Int)) (hC2 : C < 4 ^ 20) {i : Nat} (hi : i < G) : (F_u_signAt x (r : Int) 1 (i : Int)).1 = ((C / 4 ^ (G - 1 - i) % 4 : Nat) : Int) := by
  unfold F_u_signAt
  rw [if_neg (by omega), if_pos (by omega), if_neg (by decide), if_neg (by decide), Int.toNat_natCast, hG, hC]
  have e : (2 : Int) * ((G : Int) - 1 - (i : Int)) = ((2 * (G - 1 - i) : Nat) : Int) := by omega
  have pe : (4 : Nat) ^ 20 = 1099511627776 := by decide
  show iNI (iSr (C : Int) ((2 : Int) * ((G : Int) - 1 - (i : Int)))) 3 = _
  rw [e, iSr_v (by omega) (by omega), iNI_3, k4_2]
theorem F_u_signAt_w {x : KS} {r : Nat} (hr : r < 40) {G C : Nat} (hG : x.2 61 r = (G : Int)) (hG2 : G ≤ 20) (hC : x.2 63 r = (C : Int)) (hC2 : C < 4 ^ 20) {i : Nat} (hi : i < G) : (F_u_signAt x (r : Int) 0 (i : Int)).1 = ((C / 4 ^ (G - 1 - i) % 4 : Nat) : Int) := by
  unfold F_u_signAt
  rw [if_neg (by omega), if_pos (by omega), if_pos rfl, if_pos rfl, Int.toNat_natCast, hG, hC]
  have e : (2 : Int) * ((G : Int) - 1 - (i : Int)) = ((2 * (G - 1 - i) : Nat) : Int) := by omega
  have pe : (4 : Nat) ^ 20 = 1099511627776 := by decide
  show iNI (iSr (C : Int) ((2 : Int) * ((G : Int) - 1 - (i : Int)))) 3 = _
  rw [e, iSr_v (by omega) (by omega), iNI_3, k4_2]
theorem okL_4 {n : Nat} (h : n ≤ 4) {u : List Int} (hu : okL n u) : okL 4 u := fun l hl => by have := hu l hl; omega
theorem lS_v {x : KS} {r : Nat} (hr : r < 40) {n G B : Nat} (hn : 1 ≤ n) (hn4 : n ≤ 4) (hG : x.2 60 r = (G : Int)) (hG2 : G ≤ 20) (hC : x.2 62 r = ((vl 4 (dl n G B) : Nat) : Int)) : lS x r = dl n G B := by
  have ok := okL_4 hn4 (dl_ok hn G B)
  have hb := (vl_lt G (dl n G B) (dl_len n G B) ok).resolve_right (by decide)
  have p20 : 4 ^ G ≤ 4 ^ 20 := Nat.pow_le_pow_right (by decide) hG2
  rw [← dl_vl G (dl n G B) (dl_len n G B) ok, dl_get]
  unfold lS
  rw [hG, Int.toNat_natCast]
  apply List.map_congr_left
  intro i hi
  exact F_u_signAt_v hr hG hG2 hC (by omega) (List.mem_range.mp hi)
theorem rS_v {x : KS} {r : Nat} (hr : r < 40) {n G B : Nat} (hn : 1 ≤ n) (hn4 : n ≤ 4) (hG : x.2 61 r = (G : Int)) (hG2 : G ≤ 20) (hC : x.2 63 r = ((vl 4 (dl n G B) : Nat) : Int)) : rS x r = dl n G B := by
  have ok := okL_4 hn4 (dl_ok hn G B)
  have hb := (vl_lt G (dl n G B) (dl_len n G B) ok).resolve_right (by decide)
  have p20 : 4 ^ G ≤ 4 ^ 20 := Nat.pow_le_pow_right (by decide) hG2
  rw [← dl_vl G (dl n G B) (dl_len n G B) ok, dl_get]
  unfold rS
  rw [hG, Int.toNat_natCast]
  apply List.map_congr_left
  intro i hi
  exact F_u_signAt_w hr hG hG2 hC (by omega) (List.mem_range.mp hi)
