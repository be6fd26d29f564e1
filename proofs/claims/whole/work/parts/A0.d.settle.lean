-- deps: A0.c
/-! the class: see's joins, settle -/
theorem rp_is {f : Nat → Int} {B : Int} (h : ldn f B) {w : Int} (w0 : 0 ≤ w) (w1 : w < B) : f w.toNat = w ↔ rp f w = w := by
  constructor
  · exact fun e => rp_fix e
  · intro e
    have k := (rp_ok h w.toNat w w0 w1 (Nat.le_refl _)).2.2
    rw [e] at k
    exact k
/-- how many below k are the same as where they lead -/
def cnF (f : Int → Int) : Nat → Int
  | 0 => 0
  | k + 1 => cnF f k + if f (k : Int) = (k : Int) then 1 else 0
theorem cnF_e {f g : Int → Int} : ∀ {k : Nat}, (∀ j : Nat, j < k → f (j : Int) = g (j : Int)) → cnF f k = cnF g k := by
  intro k
  induction k with
  | zero => intro _; rfl
  | succ k ih =>
    intro h
    unfold cnF
    rw [ih (fun j hj => h j (by omega)), h k (by omega)]
theorem begin_s : ∀ (n : Nat) (y : KS) (v i : Int), 0 ≤ i → y.1 56 1 - i < n → (∀ k : Nat, (k : Int) < i → y.2 57 k = (k : Int)) → ∀ k : Nat, (k : Int) < y.1 56 1 → (F_j_begin_s n 0 y v i).2.2 57 k = (k : Int) := by
  intro n
  induction n with
  | zero => intro y v i i0 h hk k hk2; exact hk k (by omega)
  | succ n ih =>
    intro y v i i0 h hk k hk2
    rw [F_j_begin_e0]
    by_cases c : y.1 56 1 ≤ i
    · rw [if_pos c]; exact hk k (by omega)
    · rw [if_neg c]
      refine ih (kA y 57 i.toNat i) v (i + 1) (by omega) (by show y.1 56 1 - _ < _; omega) (fun j hj => ?_) k hk2
      rw [kA_s, yU_if]
      by_cases e : j = i.toNat
      · rw [if_pos e]; omega
      · rw [if_neg e]; exact hk j (by omega)
theorem begin_x {x : KS} {v : Int} (v0 : 0 ≤ v) (v9 : v ≤ 10000) : (F_j_begin x v).2.1 56 1 = v ∧ ∀ k : Nat, (k : Int) < v → (F_j_begin x v).2.2 57 k = (k : Int) := by
  have e : (kS x 56 1 (min v ((10000 : Int)))).1 56 1 = v := by rw [kS_s]; omega
  have f : ∀ n i, (F_j_begin_s n 0 (kS x 56 1 (min v ((10000 : Int)))) v i).2.1 56 1 = (kS x 56 1 (min v ((10000 : Int)))).1 56 1 := by
    intro n
    have key : ∀ (n : Nat) (y : KS) (i : Int), (F_j_begin_s n 0 y v i).2.1 56 1 = y.1 56 1 := by
      intro n
      induction n with
      | zero => intro y i; rfl
      | succ n ih =>
        intro y i
        rw [F_j_begin_e0]
        by_cases c : y.1 56 1 ≤ i
        · rw [if_pos c]
        · rw [if_neg c, ih]; rfl
    exact fun i => key n _ i
  refine ⟨(f 10010 0).trans e, fun k hk => ?_⟩
  exact begin_s 10010 (kS x 56 1 (min v ((10000 : Int)))) v 0 (Int.le_refl _) (by rw [e]; omega) (fun j hj => by exfalso; omega) k (by rw [e]; exact hk)
theorem settle_s {B : Int} (B9 : B ≤ 10000) : ∀ (n : Nat) (y : KS) (i : Int), y.1 56 1 = B → ldn (y.2 57) B → 0 ≤ i → i ≤ B → B - i < n → ldn ((F_j_settle_s n 0 y i).2.2 57) B ∧ (∀ w : Int, 0 ≤ w → w < B → rp ((F_j_settle_s n 0 y i).2.2 57) w = rp (y.2 57) w) ∧ (F_j_settle_s n 0 y i).2.1 56 2 + cnF (rp (y.2 57)) i.toNat = y.1 56 2 + cnF (rp (y.2 57)) B.toNat := by
  intro n
  induction n with
  | zero => intro y i _ _ _ _ h; exfalso; omega
  | succ n ih =>
    intro y i eB h i0 i1 fu
    rw [F_j_settle_e0]
    by_cases c : y.1 56 1 ≤ i
    · rw [if_pos c]
      refine ⟨h, fun w _ _ => rfl, ?_⟩
      show y.1 56 2 + _ = _
      rw [show i = B by omega]
    · rw [if_neg c]
      obtain ⟨g1, g2⟩ := rp_half h (r := i.toNat) (by omega)
      have ii := rp_is h i0 (show i < B by omega)
      have es : (i + 1).toNat = i.toNat + 1 := by omega
      have ei : ((i.toNat : Nat) : Int) = i := by omega
      have cn : cnF (rp (y.2 57)) (i.toNat + 1) = cnF (rp (y.2 57)) i.toNat + if rp (y.2 57) i = i then 1 else 0 := by
        show cnF _ i.toNat + (if rp (y.2 57) ((i.toNat : Nat) : Int) = ((i.toNat : Nat) : Int) then 1 else 0) = _
        rw [ei]
      by_cases d : y.2 57 i.toNat = i
      · rw [if_pos d]
        rw [if_pos (ii.mp d)] at cn
        have e9 : (kA (kS y 56 2 (y.1 56 2 + (1 : Int))) 57 i.toNat (y.2 57 (y.2 57 i.toNat).toNat)).2 57 = iU (y.2 57) i.toNat (y.2 57 (y.2 57 i.toNat).toNat) := kA_s
        obtain ⟨r1, r2, r3⟩ := ih (kA (kS y 56 2 (y.1 56 2 + (1 : Int))) 57 i.toNat (y.2 57 (y.2 57 i.toNat).toNat)) (i + 1) ((kS_k (x := y) (c := 56) (k := 2) (j := 1) (v := y.1 56 2 + (1 : Int)) (by decide)).trans eB) (by rw [e9]; exact g1) (by omega) (by omega) (by omega)
        rw [e9] at r2 r3
        have m2 : (kA (kS y 56 2 (y.1 56 2 + (1 : Int))) 57 i.toNat (y.2 57 (y.2 57 i.toNat).toNat)).1 56 2 = y.1 56 2 + 1 := kS_s (x := y) (c := 56) (k := 2) (v := y.1 56 2 + (1 : Int))
        rw [m2, es, cnF_e (g := rp (y.2 57)) (fun j hj => g2 _ (Int.natCast_nonneg _) (by omega)), cnF_e (g := rp (y.2 57)) (k := B.toNat) (fun j hj => g2 _ (Int.natCast_nonneg _) (by omega)), cn] at r3
        exact ⟨r1, fun w w0 w1 => (r2 w w0 w1).trans (g2 w w0 w1), by omega⟩
      · rw [if_neg d]
        rw [if_neg (fun e => d (ii.mpr e))] at cn
        have e9 : (kA y 57 i.toNat (y.2 57 (y.2 57 i.toNat).toNat)).2 57 = iU (y.2 57) i.toNat (y.2 57 (y.2 57 i.toNat).toNat) := kA_s
        obtain ⟨r1, r2, r3⟩ := ih (kA y 57 i.toNat (y.2 57 (y.2 57 i.toNat).toNat)) (i + 1) eB (by rw [e9]; exact g1) (by omega) (by omega) (by omega)
        rw [e9] at r2 r3
        have m2 : (kA y 57 i.toNat (y.2 57 (y.2 57 i.toNat).toNat)).1 56 2 = y.1 56 2 := rfl
        rw [m2, es, cnF_e (g := rp (y.2 57)) (fun j hj => g2 _ (Int.natCast_nonneg _) (by omega)), cnF_e (g := rp (y.2 57)) (k := B.toNat) (fun j hj => g2 _ (Int.natCast_nonneg _) (by omega)), cn] at r3
        exact ⟨r1, fun w w0 w1 => (r2 w w0 w1).trans (g2 w w0 w1), by omega⟩
theorem settle_x {x : KS} {B : Int} (eB : x.1 56 1 = B) (B0 : 0 ≤ B) (B9 : B ≤ 10000) (h : ldn (x.2 57) B) : ldn ((F_j_settle x).2.2 57) B ∧ (∀ w : Int, 0 ≤ w → w < B → rp ((F_j_settle x).2.2 57) w = rp (x.2 57) w) ∧ (F_j_settle x).2.1 56 2 = cnF (rp (x.2 57)) B.toNat := by
  obtain ⟨r1, r2, r3⟩ := settle_s B9 10010 (kS x 56 2 ((0 : Int))) 0 (by rw [kS_k (by decide)]; exact eB) h (Int.le_refl _) B0 (by omega)
  rw [kS_s] at r3
  have z : cnF (rp ((kS x 56 2 ((0 : Int))).2 57)) ((0 : Int)).toNat = 0 := rfl
  refine ⟨r1, r2, ?_⟩
  have e : (F_j_settle x).2.1 56 2 = (F_j_settle_s 10010 0 (kS x 56 2 ((0 : Int))) 0).2.1 56 2 := rfl
  rw [e]
  have q : cnF (rp ((kS x 56 2 ((0 : Int))).2 57)) B.toNat = cnF (rp (x.2 57)) B.toNat := rfl
  omega
/-! see: the sides of the LAWS, the end of see -/
def lwA1 (x : KS) (l : Nat) : List Int := wS x (24 + 2 * (2 * l))
def lwB1 (x : KS) (l : Nat) : List Int := wS x (24 + 2 * (2 * l + 1))
def seT (z : KS) (m0 : Int) : Int × KS := (if (F_u_gather (F_j_settle z).2 m0).1 = 0 then (-4, (F_u_gather (F_j_settle z).2 m0).2) else (if (F_p_holds (F_r_forget (F_a_build (F_u_gather (F_j_settle z).2 m0).2).2).2 ((F_r_forget (F_a_build (F_u_gather (F_j_settle z).2 m0).2).2).2.1 0 14)).1 = 0 then ((F_p_holds (F_r_forget (F_a_build (F_u_gather (F_j_settle z).2 m0).2).2).2 ((F_r_forget (F_a_build (F_u_gather (F_j_settle z).2 m0).2).2).2.1 0 14)).2.1 58 6, kS (kS (F_p_holds (F_r_forget (F_a_build (F_u_gather (F_j_settle z).2 m0).2).2).2 ((F_r_forget (F_a_build (F_u_gather (F_j_settle z).2 m0).2).2).2.1 0 14)).2 0 16 (F_p_holds (F_r_forget (F_a_build (F_u_gather (F_j_settle z).2 m0).2).2).2 ((F_r_forget (F_a_build (F_u_gather (F_j_settle z).2 m0).2).2).2.1 0 14)).1) 0 15 m0) else ((F_a_tally (kS (F_p_holds (F_r_forget (F_a_build (F_u_gather (F_j_settle z).2 m0).2).2).2 ((F_r_forget (F_a_build (F_u_gather (F_j_settle z).2 m0).2).2).2.1 0 14)).2 0 16 (F_p_holds (F_r_forget (F_a_build (F_u_gather (F_j_settle z).2 m0).2).2).2 ((F_r_forget (F_a_build (F_u_gather (F_j_settle z).2 m0).2).2).2.1 0 14)).1)).2.1 58 6, kS (F_a_tally (kS (F_p_holds (F_r_forget (F_a_build (F_u_gather (F_j_settle z).2 m0).2).2).2 ((F_r_forget (F_a_build (F_u_gather (F_j_settle z).2 m0).2).2).2.1 0 14)).2 0 16 (F_p_holds (F_r_forget (F_a_build (F_u_gather (F_j_settle z).2 m0).2).2).2 ((F_r_forget (F_a_build (F_u_gather (F_j_settle z).2 m0).2).2).2.1 0 14)).1)).2 0 15 m0)))
theorem see_e (n : Nat) (x : KS) (m0 i : Int) : F_t_see_s (n + 1) 0 x m0 i = (if x.1 0 14 ≤ i then seT x m0 else F_t_see_s n 0 (F_j_joinByLaw x (24 + 2 * ((2 : Int) * i).toNat) (24 + 2 * ((2 : Int) * i + (1 : Int)).toNat) m0).2 m0 (i + (1 : Int))) := F_t_see_e0 n x m0 i
/-- the pairs that STEPS join, as the class has the LAWS -/
def kP (x : KS) (m : Nat) : Int → Int → Prop := lwP (nL x) m (x.1 0 14).toNat (lwA1 x) (lwB1 x)
theorem see_s {x : KS} (sp : seP x) {m : Nat} (m1 : 1 ≤ m) (m2 : (m : Int) ≤ x.1 1 3) : ∀ (n : Nat) (y : KS) (i : Int), seJ x (m : Int) y → sdJ (y.2 57) (gS ((nL x : Nat) : Int) (m + 1)) (kP x m) → 0 ≤ i → i ≤ x.1 0 14 → x.1 0 14 - i < n → (∀ l a b : Nat, (l : Int) < i → a + (lwA1 x l).length + b ≤ m → a + (lwB1 x l).length + b ≤ m → jnd (nL x) (lwA1 x l) (lwB1 x l) (y.2 57) a b) → ∃ z, seJ x (m : Int) z ∧ sdJ (z.2 57) (gS ((nL x : Nat) : Int) (m + 1)) (kP x m) ∧ (∀ l a b : Nat, (l : Int) < x.1 0 14 → a + (lwA1 x l).length + b ≤ m → a + (lwB1 x l).length + b ≤ m → jnd (nL x) (lwA1 x l) (lwB1 x l) (z.2 57) a b) ∧ F_t_see_s n 0 y (m : Int) i = seT z (m : Int) := by
  have sx := sp.1
  have nb := nL_b sx
  have l8 := sp.2.2.2.2.2.2.2.1
  intro n
  induction n with
  | zero => intro y i _ _ _ _ h; exfalso; omega
  | succ n ih =>
    intro y i jy sd i0 i1 fu dn
    rw [see_e]
    have e14 : y.1 0 14 = x.1 0 14 := jy.1.1 0 14 (by decide)
    by_cases c : y.1 0 14 ≤ i
    · rw [if_pos c]
      exact ⟨y, jy, sd, fun l a b hl => dn l a b (by omega), rfl⟩
    · rw [if_neg c]
      have sa := se_side sp jy (k := 2 * i.toNat) (by omega)
      have sb := se_side sp jy (k := 2 * i.toNat + 1) (by omega)
      have c1 : 24 + 2 * ((2 : Int) * i).toNat = 24 + 2 * (2 * i.toNat) := by omega
      have c2 : 24 + 2 * ((2 : Int) * i + (1 : Int)).toNat = 24 + 2 * (2 * i.toNat + 1) := by omega
      rw [c1, c2]
      have kA1 : kW (24 + 2 * (2 * i.toNat)) = true := by have h9 := kW_law (i := (2 : Int) * i) (by omega) (by omega); rw [c1] at h9; exact h9
      have kB1 : kW (24 + 2 * (2 * i.toNat + 1)) = true := by have h9 := kW_law (i := (2 : Int) * i + (1 : Int)) (by omega) (by omega); rw [c2] at h9; exact h9
      have n1 : nL y = nL x := by unfold nL; rw [jy.1.1 1 2 (by decide)]
      have t1 : ∀ k : Nat, k < 16 → wS y (24 + 2 * k) = wS x (24 + 2 * k) := fun k hk => by
        unfold wS
        rw [jy.1.1 (24 + 2 * k) 1 (by intro h9; simp at h9; omega), jy.1.2 (24 + 2 * k + 1) (by intro h9; simp at h9; omega)]
      have e56 : y.1 56 1 = gS ((nL x : Nat) : Int) (m + 1) := by
        rw [jy.2.2.1, show ((m : Int) + 1).toNat = m + 1 by omega]
        exact scX_gS sx _ (by omega)
      have J := jbl_x sa.2.2.2.1 kA1 kB1 sa.1 sb.1 (m := m) (by rw [jy.1.1 1 3 (by decide)]; exact m2) (by rw [n1]; exact e56) (by have h9 := jy.2.1.1; exact h9.2) (P := kP x m) (by
        rw [n1, t1 _ (by omega), t1 _ (by omega)]
        exact fun u v hu hv lu lv => ⟨i.toNat, u, v, by omega, hu, hv, lu, lv, rfl, rfl⟩) (by rw [e56]; exact sd)
      rw [n1, t1 _ (by omega), t1 _ (by omega), e56] at J
      obtain ⟨j1, j2, j3⟩ := J
      refine ih _ (i + 1) (se_law jy _ _) j1 (by omega) (by omega) (by omega) (fun l a b hl la lb => ?_)
      by_cases e : (l : Int) = i
      · have el : l = i.toNat := by omega
        rw [el] at la lb ⊢
        exact j3 a b la lb
      · have sal := se_side sp jy (k := 2 * l) (by omega)
        have sbl := se_side sp jy (k := 2 * l + 1) (by omega)
        have oa : okL (nL x) (lwA1 x l) := by have h9 := sal.1.2.2; rw [n1, t1 _ (by omega)] at h9; exact h9
        have ob : okL (nL x) (lwB1 x l) := by have h9 := sbl.1.2.2; rw [n1, t1 _ (by omega)] at h9; exact h9
        exact jnd_k nb.1 oa ob la lb j2 (dn l a b (by omega) la lb)
/-- see, from a length that is as told on: the joins z, then the rest -/
theorem see_z {x : KS} (sp : seP x) {m : Nat} (m1 : 1 ≤ m) (m2 : (m : Int) ≤ x.1 1 3) : ∃ z, seJ x (m : Int) z ∧ ufR (z.2 57) (gS ((nL x : Nat) : Int) (m + 1)) (eqG (kP x m)) ∧ F_t_see x (m : Int) = seT z (m : Int) := by
  have cn := se_cnt sp (m := (m : Int)) (by omega) m2
  have sx := sp.1
  have eg : x.2 3 ((m : Int) + 1).toNat = gS ((nL x : Nat) : Int) (m + 1) := by
    rw [show ((m : Int) + 1).toNat = m + 1 by omega]
    exact scX_gS sx _ (by omega)
  have B := begin_x (x := (F_t_forget x).2) (v := (F_s_countTo (F_t_forget x).2 (m : Int)).1) (by rw [cn.1]; exact cn.2.1) (by rw [cn.1]; exact cn.2.2)
  have l8 := sp.2.2.2.2.2.2.2.1
  obtain ⟨z, z1, z2, z3, z4⟩ := see_s sp m1 m2 20 (F_j_begin (F_t_forget x).2 (F_s_countTo (F_t_forget x).2 (m : Int)).1).2 0 (se_0 sp (by omega) m2) (sdJ_0 (fun k hk => B.2 k (by rw [cn.1, eg]; exact hk))) (Int.le_refl _) l8.1 (by omega) (fun l a b hl => by exfalso; omega)
  refine ⟨z, z1, sd_end z2 (fun a b h => ?_), ?_⟩
  · obtain ⟨l, u, v, hl, hu, hv, lu, lv, ea, eb⟩ := h
    rw [ea, eb]
    exact z3 l u.length v.length (by omega) lu lv u v hu hv rfl rfl
  · unfold F_t_see
    rw [if_neg (by omega), if_pos m2]
    exact z4
