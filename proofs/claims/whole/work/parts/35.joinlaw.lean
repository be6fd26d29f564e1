-- deps: 30 31 32 33 34
theorem kj_b {Pa Pu Pb p V q : Int} (hp0 : 0 ≤ p) (hp : p < Pa) (hV0 : 0 ≤ V) (hV : V < Pu) (hq0 : 0 ≤ q) (hq : q < Pb) : 0 ≤ V * Pb + p * (Pu * Pb) + q ∧ V * Pb + p * (Pu * Pb) + q < Pa * (Pu * Pb) := by
  have a1 : 0 ≤ V * Pb := Int.mul_nonneg hV0 (by omega)
  have a2 : (V + 1) * Pb ≤ Pu * Pb := Int.mul_le_mul_of_nonneg_right (by omega) (by omega)
  rw [Int.add_mul, Int.one_mul] at a2
  have a0 : 0 ≤ Pu * Pb := Int.mul_nonneg (by omega) (by omega)
  have a3 : 0 ≤ p * (Pu * Pb) := Int.mul_nonneg hp0 a0
  have a4 : (p + 1) * (Pu * Pb) ≤ Pa * (Pu * Pb) := Int.mul_le_mul_of_nonneg_right (by omega) a0
  rw [Int.add_mul, Int.one_mul] at a4
  omega
theorem kj_n {x : KS} (sx : scX x) {w : Nat} {a b p q : Int} (u0 : 0 ≤ x.1 w 1) (hl : wLt x w) (a0 : 0 ≤ a) (b0 : 0 ≤ b) (s : a + x.1 w 1 + b ≤ x.1 1 3) (hp0 : 0 ≤ p) (hp : p < (F_s_powerOf x a).1) (hq0 : 0 ≤ q) (hq : q < (F_s_powerOf x b).1) : 0 ≤ (F_s_valueOf x w).1 * (F_s_powerOf x b).1 + p * ((F_s_powerOf x (x.1 w 1)).1 * (F_s_powerOf x b).1) + q ∧ (F_s_valueOf x w).1 * (F_s_powerOf x b).1 + p * ((F_s_powerOf x (x.1 w 1)).1 * (F_s_powerOf x b).1) + q < x.2 2 (a + x.1 w 1 + b).toNat := by
  rw [F_s_powerOf_v a0 (by omega)] at hp
  rw [F_s_powerOf_v b0 (by omega)] at hq ⊢
  rw [F_s_powerOf_v u0 (by omega)]
  have hv := F_s_valueOf_b sx u0 (by omega) hl
  have e1 := scX_add sx (x.1 w 1).toNat b.toNat (by omega)
  have e2 := scX_add sx a.toNat ((x.1 w 1).toNat + b.toNat) (by omega)
  rw [e1] at e2
  have e3 : (a + x.1 w 1 + b).toNat = a.toNat + ((x.1 w 1).toNat + b.toNat) := by omega
  rw [e3, e2]
  exact kj_b hp0 hp hv.1 hv.2 hq0 hq
theorem kj_R {x : KS} (sx : scX x) {w : Nat} {a b : Int} (u0 : 0 ≤ x.1 w 1) (hl : wLt x w) (a0 : 0 ≤ a) (b0 : 0 ≤ b) (s : a + x.1 w 1 + b ≤ x.1 1 3) : ∀ p q : Int, 0 ≤ p → p < (F_s_powerOf x a).1 → 0 ≤ q → q < (F_s_powerOf x b).1 → iR (((F_s_firstOf x (a + x.1 w 1 + b)).1 + (F_s_valueOf x w).1 * (F_s_powerOf x b).1) + p * ((F_s_powerOf x (x.1 w 1)).1 * (F_s_powerOf x b).1) + q) := by
  intro p q h1 h2 h3 h4
  have k := kj_n sx u0 hl a0 b0 s h1 h2 h3 h4
  have l3 := sx.1.2.1
  have f := F_s_firstOf_b sx.1 (a + x.1 w 1 + b)
  have pw := sx.1.2.2.1 (a + x.1 w 1 + b).toNat (by omega)
  unfold iR
  omega
theorem ks57 {x y : KS} (sm : ksame [] [57] x y) : y.1 = x.1 ∧ ∀ q, q ≠ 57 → y.2 q = x.2 q := ⟨funext fun c => funext fun k => sm.1 c k List.not_mem_nil, fun q hq => sm.2 q (fun h => by rcases List.mem_cons.mp h with e | e; exact hq e; exact List.not_mem_nil e)⟩
theorem scX_same {x y : KS} (h1 : y.1 1 = x.1 1) (h2 : y.2 2 = x.2 2) (h3 : y.2 3 = x.2 3) (sc : scX x) : scX y := by unfold scX; rw [h1, h2, h3]; exact ⟨scR_same h1 h2 h3 sc.1, sc.2⟩
theorem wLt_same {x y : KS} {c : Nat} (h1 : y.1 1 2 = x.1 1 2) (h2 : y.1 c 1 = x.1 c 1) (h3 : y.2 (c + 1) = x.2 (c + 1)) (h : wLt x c) : wLt y c := by unfold wLt; rw [h1, h2, h3]; exact h
def F_j_joinBetween_s (w1 : Nat) (w2 : Nat) : Nat → Nat → KS → Int → Int → Int → Int → Int → Int → Int → Int → Int → Int → Int × KS
  | 0, _, x, _, _, _, _, _, _, _, _, _, _ => (0, x)
  | n + 1, t, x, p0, p1, p2, p3, p4, p5, p6, p7, p8, p9 => match t with
    | 0 => (fun (a0 : Int) (b0 : Int) (tl : Int) (hd : Int) (sA : Int) (sB : Int) (lA : Int) (lB : Int) (g : Int) => (if (hd) ≤ (g) then (0, x) else F_j_joinBetween_s w1 w2 n 1 (x) (a0) (b0) (tl) (hd) (sA) (sB) (lA) (lB) (g) ((0 : Int)))) p0 p1 p2 p3 p4 p5 p6 p7 p8
    | 1 => (fun (a0 : Int) (b0 : Int) (tl : Int) (hd : Int) (sA : Int) (sB : Int) (lA : Int) (lB : Int) (g : Int) (k : Int) => (if (tl) ≤ (k) then F_j_joinBetween_s w1 w2 n 0 (x) (a0) (b0) (tl) (hd) (sA) (sB) (lA) (lB) ((g) + (1 : Int)) (0) else F_j_joinBetween_s w1 w2 n 1 ((F_j_join (x) (((sA) + ((g) * (lA))) + (k)) (((sB) + ((g) * (lB))) + (k))).2) (a0) (b0) (tl) (hd) (sA) (sB) (lA) (lB) (g) ((k) + (1 : Int)))) p0 p1 p2 p3 p4 p5 p6 p7 p8 p9
    | _ => (0, x)
theorem F_j_joinBetween_e0 (w1 : Nat) (w2 : Nat) (n : Nat) (x : KS) (a0 : Int) (b0 : Int) (tl : Int) (hd : Int) (sA : Int) (sB : Int) (lA : Int) (lB : Int) (g : Int) (q0 : Int) : F_j_joinBetween_s w1 w2 (n + 1) 0 x a0 b0 tl hd sA sB lA lB g q0 = (if (hd) ≤ (g) then (0, x) else F_j_joinBetween_s w1 w2 n 1 (x) (a0) (b0) (tl) (hd) (sA) (sB) (lA) (lB) (g) ((0 : Int))) := rfl
theorem F_j_joinBetween_e1 (w1 : Nat) (w2 : Nat) (n : Nat) (x : KS) (a0 : Int) (b0 : Int) (tl : Int) (hd : Int) (sA : Int) (sB : Int) (lA : Int) (lB : Int) (g : Int) (k : Int) : F_j_joinBetween_s w1 w2 (n + 1) 1 x a0 b0 tl hd sA sB lA lB g k = (if (tl) ≤ (k) then F_j_joinBetween_s w1 w2 n 0 (x) (a0) (b0) (tl) (hd) (sA) (sB) (lA) (lB) ((g) + (1 : Int)) (0) else F_j_joinBetween_s w1 w2 n 1 ((F_j_join (x) (((sA) + ((g) * (lA))) + (k)) (((sB) + ((g) * (lB))) + (k))).2) (a0) (b0) (tl) (hd) (sA) (sB) (lA) (lB) (g) ((k) + (1 : Int))) := rfl
def F_j_joinBetween (x : KS) (w1 : Nat) (w2 : Nat) (a0 : Int) (b0 : Int) : Int × KS := F_j_joinBetween_s w1 w2 100200000 0 (x) (a0) (b0) ((F_s_powerOf (x) (b0)).1) ((F_s_powerOf (x) (a0)).1) (((F_s_firstOf (x) (((a0) + ((x).1 (w1) 1)) + (b0))).1) + (((F_s_valueOf (x) (w1)).1) * ((F_s_powerOf (x) (b0)).1))) (((F_s_firstOf (x) (((a0) + ((x).1 (w2) 1)) + (b0))).1) + (((F_s_valueOf (x) (w2)).1) * ((F_s_powerOf (x) (b0)).1))) (((F_s_powerOf (x) ((x).1 (w1) 1)).1) * ((F_s_powerOf (x) (b0)).1)) (((F_s_powerOf (x) ((x).1 (w2) 1)).1) * ((F_s_powerOf (x) (b0)).1)) ((0 : Int)) (0)
set_option maxHeartbeats 4000000 in
set_option maxRecDepth 100000 in
/-- LikeWords$Joins, joinBetween -/
theorem c_j_joinBetween (l : Launch) (dC : Nat → ClassId) (dI : Nat → Nat → Nat) (ad : Nat → Nat) (cI cJ cZ cR : ClassId) (M wl sz : Nat) (x : KS) (w1 : Nat) (w2 : Nat) (a0 : Int) (b0 : Int) (hM : 87 ≤ M) (hw_w1 : kW w1 = true) (hc_w1 : w1 + 1 < M) (hw_w2 : kW w2 = true) (hc_w2 : w2 + 1 < M) (sx : scX x) (jr : jnR x) (wa0 : 0 ≤ x.1 w1 1) (wa1 : x.1 w1 1 ≤ kL w1) (wal : wLt x w1) (wb0 : 0 ≤ x.1 w2 1) (wb1 : x.1 w2 1 ≤ kL w2) (wbl : wLt x w2) (pa : 0 ≤ a0) (pb : 0 ≤ b0) (sa : a0 + x.1 w1 1 + b0 ≤ x.1 1 3) (sb : a0 + x.1 w2 1 + b0 ≤ x.1 1 3) : Met l yX1_joinBetween wsX1_joinBetween ({ frames := 2, cells := 0, slots := 0, locals := 47 }) (kPc dC dI ad cI cJ cZ cR M wl sz x [.ref (ad 56), .ref (ad w1), .ref (ad w2), .ref (ad 1), .int (iI a0), .int (iI b0)]) (va_Qv (fun u : KS => u = (F_j_joinBetween x w1 w2 a0 b0).2) (kAt dC dI ad cI cJ cZ cR M wl (va_A (kWd cI cJ cZ cR wl ad M (x)) sz)) (va_A (kWd cI cJ cZ cR wl ad M (x)) sz)) 0 0 (va_A (kWd cI cJ cZ cR wl ad M (x)) sz) := by
  refine Met.ofW (cc := cX1_joinBetween) (maxL := 14) (ret := none) (by decide) rfl ?_
  intro p e s m args below meth c s₁ B hml hv
  obtain ⟨rfl, hsz, hP, hK, hD0, hNw⟩ := hv
  have hx := B.exec
  have hb := B.bytes
  have hr := B.returns
  have hts := atoms_spec (ws := wsX1_joinBetween) B.pre
  have hown : s.vm.findClass RX1 = some m.cls := findClass_of_methodNamed B.named
  have hlocks := B.notSynchronized
  have hinX10 : ∀ w ∈ u_ws RX10 TX10 2, w ∈ wsX1_joinBetween := by decide +kernel
  subst hsz
  have hD := hD0.self (sz := s.heap.size)
  generalize hAe : va_A (kWd cI cJ cZ cR wl ad M (x)) s.heap.size = A at hD ⊢
  have hA : ∀ q : Nat, s.heap.size ≤ q → A q := fun q h => by rw [← hAe]; exact Or.inr h
  have hS : va_S A s.heap s.heap [] := va_S.rf
  have hl := lv_entry ([.ref (ad 56), .ref (ad w1), .ref (ad w2), .ref (ad 1), .int (iI a0), .int (iI b0)]) (n := 14) (Nat.le_of_ble_eq_true rfl)
  rw [lg_entry_eq]
  generalize (lg_sl ([.ref (ad 56), .ref (ad w1), .ref (ad w2), .ref (ad 1), .int (iI a0), .int (iI b0)]) ++ List.replicate (14 - (lg_sl ([.ref (ad 56), .ref (ad w1), .ref (ad w2), .ref (ad 1), .int (iI a0), .int (iI b0)])).length) Slot.unset).toArray = ls at hl ⊢
  have hl : lv_has ls 14 [(0, .ref (ad (56))), (1, .ref (ad (w1))), (2, .ref (ad (w2))), (3, .ref (ad (1))), (4, .int (iI (a0))), (5, .int (iI (b0)))] := hl
  have sc := sx.1
  have l3 := sc.2.1
  have pw1 := F_s_powerOf_b sc b0
  have pw2 := F_s_powerOf_b sc a0
  have L : ∀ n : Nat, (∀ (y : KS) (tl : Int) (hd : Int) (sA : Int) (sB : Int) (lA : Int) (lB : Int) (g : Int), (ksame [] [57] x y) → (jnR y) → (0 ≤ tl) → (tl ≤ 10000) → (0 ≤ hd) → (hd ≤ 10000) → (∀ p q : Int, 0 ≤ p → p < hd → 0 ≤ q → q < tl → iR (sA + p * lA + q)) → (∀ p q : Int, 0 ≤ p → p < hd → 0 ≤ q → q < tl → iR (sB + p * lB + q)) → (0 ≤ g) → (g ≤ hd) → ((10000 - g) * 10010 + 10005 < n) → F_j_joinBetween_s w1 w2 n 0 y a0 b0 tl hd sA sB lA lB g 0 = F_j_joinBetween x w1 w2 a0 b0 → ∀ (H : Heap) (locs : List Loc) (ls : Array Slot), va_P (dC, dI) vwCl (kWd cI cJ cZ cR wl ad M (y)) H → va_D A (kWd cI cJ cZ cR wl ad M (y)) → va_S A s.heap H locs → lv_has ls 14 [(0, .ref (ad (56))), (1, .ref (ad (w1))), (2, .ref (ad (w2))), (3, .ref (ad (1))), (4, .int (iI (a0))), (5, .int (iI (b0))), (6, .int (iI (tl))), (7, .int (iI (hd))), (8, .int (iI (sA))), (9, .int (iI (sB))), (10, .int (iI (lA))), (11, .int (iI (lB))), (12, .int (iI (g)))] → W p l e (headSpec wsX1_joinBetween ({ frames := 2, cells := 0, slots := 0, locals := 47 })).room s m ([.ref (ad 56), .ref (ad w1), .ref (ad w2), .ref (ad 1), .int (iI a0), .int (iI b0)] : List Value).toArray below meth c H locs 0 0 (MQ below (va_Qv (fun u : KS => u = (F_j_joinBetween x w1 w2 a0 b0).2) (kAt dC dI ad cI cJ cZ cR M wl A) A) ([.ref (ad 56), .ref (ad w1), .ref (ad w2), .ref (ad 1), .int (iI a0), .int (iI b0)] : List Value).toArray s 0 0 A) (F0 m 95 ls [])) ∧ (∀ (y : KS) (tl : Int) (hd : Int) (sA : Int) (sB : Int) (lA : Int) (lB : Int) (g : Int) (k : Int), (ksame [] [57] x y) → (jnR y) → (0 ≤ tl) → (tl ≤ 10000) → (0 ≤ hd) → (hd ≤ 10000) → (∀ p q : Int, 0 ≤ p → p < hd → 0 ≤ q → q < tl → iR (sA + p * lA + q)) → (∀ p q : Int, 0 ≤ p → p < hd → 0 ≤ q → q < tl → iR (sB + p * lB + q)) → (0 ≤ g) → (g < hd) → (0 ≤ k) → (k ≤ tl) → ((10000 - g) * 10010 + 10001 - k < n) → F_j_joinBetween_s w1 w2 n 1 y a0 b0 tl hd sA sB lA lB g k = F_j_joinBetween x w1 w2 a0 b0 → ∀ (H : Heap) (locs : List Loc) (ls : Array Slot), va_P (dC, dI) vwCl (kWd cI cJ cZ cR wl ad M (y)) H → va_D A (kWd cI cJ cZ cR wl ad M (y)) → va_S A s.heap H locs → lv_has ls 14 [(0, .ref (ad (56))), (1, .ref (ad (w1))), (2, .ref (ad (w2))), (3, .ref (ad (1))), (4, .int (iI (a0))), (5, .int (iI (b0))), (6, .int (iI (tl))), (7, .int (iI (hd))), (8, .int (iI (sA))), (9, .int (iI (sB))), (10, .int (iI (lA))), (11, .int (iI (lB))), (12, .int (iI (g))), (13, .int (iI (k)))] → W p l e (headSpec wsX1_joinBetween ({ frames := 2, cells := 0, slots := 0, locals := 47 })).room s m ([.ref (ad 56), .ref (ad w1), .ref (ad w2), .ref (ad 1), .int (iI a0), .int (iI b0)] : List Value).toArray below meth c H locs 0 0 (MQ below (va_Qv (fun u : KS => u = (F_j_joinBetween x w1 w2 a0 b0).2) (kAt dC dI ad cI cJ cZ cR M wl A) A) ([.ref (ad 56), .ref (ad w1), .ref (ad w2), .ref (ad 1), .int (iI a0), .int (iI b0)] : List Value).toArray s 0 0 A) (F0 m 105 ls [])) := by
    intro n
    induction n with
    | zero =>
      refine ⟨?_, ?_⟩
      · intro y tl hd sA sB lA lB g sm jy t0 t1 d0 d1 rA rB g0 g1 fu hres
        exact absurd fu (by omega)
      · intro y tl hd sA sB lA lB g k sm jy t0 t1 d0 d1 rA rB g0 g1 k0 k1 fu hres
        exact absurd fu (by omega)
    | succ n ih =>
      refine ⟨?_, ?_⟩
      · intro y tl hd sA sB lA lB g sm jy t0 t1 d0 d1 rA rB g0 g1 fu hres H locs ls hP hD hS hl
        rw [F_j_joinBetween_e0] at hres
        refine lv_iload hx hb dX1_joinBetween_95 (lv_at hl 12 rfl) ?_
        refine lv_iload hx hb dX1_joinBetween_97 (lv_at hl 7 rfl) ?_
        refine wi_icmp_ge (tgt := 150) hx hb (by first | assumption | (unfold iR; omega) | exact kR01 (by assumption)) (by first | assumption | (unfold iR; omega) | exact kR01 (by assumption)) dX1_joinBetween_99 (by decide) (fun c_99 => ?_) (fun c_99 => ?_)
        · skip
          rw [if_pos c_99] at hres
          exact W.vret hx hb hr (fun t ht hW => ⟨⟨y, rfl, (by have h9 := congrArg (fun z : Int × KS => z.2) hres; exact h9), by rw [ht]; exact hP, va_K.moved hW.alike hK, hD⟩, hS.F ht⟩) hS.2.2 dX1_joinBetween_150
        · skip
          rw [if_neg c_99] at hres
          refine lv_iconst (v := iI (0 : Int)) hx hb dX1_joinBetween_102 (by decide) ?_
          refine lv_istore (lv' := [(13, .int (iI ((0 : Int)))), (0, .ref (ad (56))), (1, .ref (ad (w1))), (2, .ref (ad (w2))), (3, .ref (ad (1))), (4, .int (iI (a0))), (5, .int (iI (b0))), (6, .int (iI (tl))), (7, .int (iI (hd))), (8, .int (iI (sA))), (9, .int (iI (sB))), (10, .int (iI (lA))), (11, .int (iI (lB))), (12, .int (iI (g)))]) hx hb dX1_joinBetween_103 hl (by decide) rfl (fun ls hl => ?_)
          exact ih.2 (y) (tl) (hd) (sA) (sB) (lA) (lB) (g) ((0 : Int)) (sm) (jy) (t0) (t1) (d0) (d1) (rA) (rB) (by omega) (by omega) (by omega) (by omega) (by omega) hres _ _ ls hP hD hS (lv_sub hl [1, 2, 3, 4, 5, 6, 7, 8, 9, 10, 11, 12, 13, 0] rfl)
      · intro y tl hd sA sB lA lB g k sm jy t0 t1 d0 d1 rA rB g0 g1 k0 k1 fu hres H locs ls hP hD hS hl
        rw [F_j_joinBetween_e1] at hres
        refine lv_iload hx hb dX1_joinBetween_105 (lv_at hl 13 rfl) ?_
        refine lv_iload hx hb dX1_joinBetween_107 (lv_at hl 6 rfl) ?_
        refine wi_icmp_ge (tgt := 144) hx hb (by first | assumption | (unfold iR; omega) | exact kR01 (by assumption)) (by first | assumption | (unfold iR; omega) | exact kR01 (by assumption)) dX1_joinBetween_109 (by decide) (fun c_109 => ?_) (fun c_109 => ?_)
        · skip
          rw [if_pos c_109] at hres
          refine lv_iinc (v := iI ((g) + (1 : Int))) (lv' := [(12, .int (iI ((g) + (1 : Int)))), (0, .ref (ad (56))), (1, .ref (ad (w1))), (2, .ref (ad (w2))), (3, .ref (ad (1))), (4, .int (iI (a0))), (5, .int (iI (b0))), (6, .int (iI (tl))), (7, .int (iI (hd))), (8, .int (iI (sA))), (9, .int (iI (sB))), (10, .int (iI (lA))), (11, .int (iI (lB))), (13, .int (iI (k)))]) hx hb dX1_joinBetween_144 hl (k := 12) rfl (iI_add _ _) (by decide) rfl (fun ls hl => ?_)
          refine lv_goto (tgt := 95) hx hb dX1_joinBetween_147 (by decide) ?_
          exact ih.1 (y) (tl) (hd) (sA) (sB) (lA) (lB) ((g) + (1 : Int)) (sm) (jy) (t0) (t1) (d0) (d1) (rA) (rB) (by omega) (by omega) (by omega) hres _ _ ls hP hD hS (lv_sub hl [1, 2, 3, 4, 5, 6, 7, 8, 9, 10, 11, 12, 0] rfl)
        · skip
          rw [if_neg c_109] at hres
          refine lv_aload_n hx hb dX1_joinBetween_112 rfl (lv_at hl 0 rfl) ?_
          refine lv_iload hx hb dX1_joinBetween_113 (lv_at hl 8 rfl) ?_
          refine lv_iload hx hb dX1_joinBetween_115 (lv_at hl 12 rfl) ?_
          refine lv_iload hx hb dX1_joinBetween_117 (lv_at hl 10 rfl) ?_
          refine wi_imul hx hb dX1_joinBetween_119 ?_
          refine wi_iadd hx hb dX1_joinBetween_120 ?_
          refine lv_iload hx hb dX1_joinBetween_121 (lv_at hl 13 rfl) ?_
          refine wi_iadd hx hb dX1_joinBetween_123 ?_
          refine lv_iload hx hb dX1_joinBetween_124 (lv_at hl 9 rfl) ?_
          refine lv_iload hx hb dX1_joinBetween_126 (lv_at hl 12 rfl) ?_
          refine lv_iload hx hb dX1_joinBetween_128 (lv_at hl 11 rfl) ?_
          refine wi_imul hx hb dX1_joinBetween_130 ?_
          refine wi_iadd hx hb dX1_joinBetween_131 ?_
          refine lv_iload hx hb dX1_joinBetween_132 (lv_at hl 13 rfl) ?_
          refine wi_iadd hx hb dX1_joinBetween_134 ?_
          have hFc : ∀ q, va_A (kWd cI cJ cZ cR wl ad M (y)) H.size q → A q := fun q hq => Or.elim hq (fun ⟨k, e, hk⟩ => hD.2 k (q, e) hk) (fun hk => hA q (Nat.le_trans hS.1 hk))
          refine va_callv (va_runV (b := ad (56)) (As := [.int (iI (((sA) + ((g) * (lA))) + (k))), .int (iI (((sB) + ((g) * (lB))) + (k)))]) (rest := []) ⟨hx, hb, hml, hown, hts⟩ (c_j_join l dC dI ad cI cJ cZ cR M wl H.size (y)  (((sA) + ((g) * (lA))) + (k)) (((sB) + ((g) * (lB))) + (k)) hM (rA g k g0 (by omega) k0 (by omega)) (rB g k g0 (by omega) k0 (by omega)) jy) (cwV 2 hts gX1_joinBetween_X1_join rfl rfl rfl (by decide +kernel) ⟨Nat.le_of_ble_eq_true rfl, Nat.le_of_ble_eq_true rfl⟩) ⟨fun a U g mk q => by obtain ⟨q0, q1, qP, qK, qD, qN⟩ := q; exact ⟨q0, q1, qP, va_K.moved (u := U) (U := U.calling g mk a) (Vm.Alike.refl U.vm) qK, qD, kNw.same (u := U) (U := U.calling g mk a) rfl qN⟩, va_recv hK hP (ci := 1) (q0 := 56) rfl (kg56 (by omega)), fun U hU hW => ⟨rfl, by rw [hU], by rw [hU]; exact hP, va_K.moved hW.alike hK, hD.weaken (fun _ _ _ _ => trivial), kNw.warm hW hNw⟩⟩ rfl rfl hl.1 rfl (lv_room (Nat.le_of_ble_eq_true rfl)) dX1_joinBetween_135 ⟨Nat.le_of_ble_eq_true rfl, Nat.le_of_ble_eq_true rfl⟩) hS (fun q _ h => hFc q h) hFc (fun u9 t H1 locs ht hvm hw hB hz1 hk1 hS => ?_)
          obtain ⟨hP1, hK1, hD1⟩ := hB
          rw [ht] at hP1
          rw [hw] at hP1 hD1
          have hD2 := hD1.weaken (B := A) (fun _ q _ h => hFc q.1 h)
          have hP := hP1
          have hD := hD2
          generalize H1 = H at hP hS ⊢
          refine lv_iinc (v := iI ((k) + (1 : Int))) (lv' := [(13, .int (iI ((k) + (1 : Int)))), (0, .ref (ad (56))), (1, .ref (ad (w1))), (2, .ref (ad (w2))), (3, .ref (ad (1))), (4, .int (iI (a0))), (5, .int (iI (b0))), (6, .int (iI (tl))), (7, .int (iI (hd))), (8, .int (iI (sA))), (9, .int (iI (sB))), (10, .int (iI (lA))), (11, .int (iI (lB))), (12, .int (iI (g)))]) hx hb dX1_joinBetween_138 hl (k := 13) rfl (iI_add _ _) (by decide) rfl (fun ls hl => ?_)
          refine lv_goto (tgt := 105) hx hb dX1_joinBetween_141 (by decide) ?_
          exact ih.2 ((F_j_join (y) (((sA) + ((g) * (lA))) + (k)) (((sB) + ((g) * (lB))) + (k))).2) (tl) (hd) (sA) (sB) (lA) (lB) (g) ((k) + (1 : Int)) ((km_tr sm (F_j_join_fr _ _ _))) ((F_j_join_ok jy)) (t0) (t1) (d0) (d1) (rA) (rB) (by omega) (by omega) (by omega) (by omega) (by omega) hres _ _ ls hP hD hS (lv_sub hl [1, 2, 3, 4, 5, 6, 7, 8, 9, 10, 11, 12, 13, 0] rfl)
  have key : ∀ (H : Heap) (locs : List Loc), va_P (dC, dI) vwCl (kWd cI cJ cZ cR wl ad M (x)) H → va_S A s.heap H locs → W p l e (headSpec wsX1_joinBetween ({ frames := 2, cells := 0, slots := 0, locals := 47 })).room s m ([.ref (ad 56), .ref (ad w1), .ref (ad w2), .ref (ad 1), .int (iI a0), .int (iI b0)] : List Value).toArray below meth c H locs 0 0 (MQ below (va_Qv (fun u : KS => u = (F_j_joinBetween x w1 w2 a0 b0).2) (kAt dC dI ad cI cJ cZ cR M wl A) A) ([.ref (ad 56), .ref (ad w1), .ref (ad w2), .ref (ad 1), .int (iI a0), .int (iI b0)] : List Value).toArray s 0 0 A) (F0 m 0 ls []) := by
    intro H locs hP hS
    have hres : F_j_joinBetween_s w1 w2 100200000 0 (x) (a0) (b0) ((F_s_powerOf (x) (b0)).1) ((F_s_powerOf (x) (a0)).1) (((F_s_firstOf (x) (((a0) + ((x).1 (w1) 1)) + (b0))).1) + (((F_s_valueOf (x) (w1)).1) * ((F_s_powerOf (x) (b0)).1))) (((F_s_firstOf (x) (((a0) + ((x).1 (w2) 1)) + (b0))).1) + (((F_s_valueOf (x) (w2)).1) * ((F_s_powerOf (x) (b0)).1))) (((F_s_powerOf (x) ((x).1 (w1) 1)).1) * ((F_s_powerOf (x) (b0)).1)) (((F_s_powerOf (x) ((x).1 (w2) 1)).1) * ((F_s_powerOf (x) (b0)).1)) ((0 : Int)) (0) = F_j_joinBetween x w1 w2 a0 b0 := rfl
    refine lv_aload_n hx hb dX1_joinBetween_0 rfl (lv_at hl 3 rfl) ?_
    refine lv_iload hx hb dX1_joinBetween_1 (lv_at hl 5 rfl) ?_
    have hFc : ∀ q, va_A (kWd cI cJ cZ cR wl ad M (x)) H.size q → A q := fun q hq => Or.elim hq (fun ⟨k, e, hk⟩ => hD.2 k (q, e) hk) (fun hk => hA q (Nat.le_trans hS.1 hk))
    refine va_calli (va_runV (b := ad (1)) (As := [.int (iI (b0))]) (rest := []) ⟨hx, hb, hml, hown, hts⟩ (c_s_powerOf l dC dI ad cI cJ cZ cR M wl H.size (x)  (b0) hM sc (by unfold iR; omega)) (cwV 1 hts gX1_joinBetween_X8_powerOf rfl rfl rfl (by decide +kernel) ⟨Nat.le_of_ble_eq_true rfl, Nat.le_of_ble_eq_true rfl⟩) ⟨fun a U g mk q => by obtain ⟨q0, q1, qP, qK, qD, qN⟩ := q; exact ⟨q0, q1, qP, va_K.moved (u := U) (U := U.calling g mk a) (Vm.Alike.refl U.vm) qK, qD, kNw.same (u := U) (U := U.calling g mk a) rfl qN⟩, va_recv hK hP (ci := 8) (q0 := 1) rfl (kg1 (by omega)), fun U hU hW => ⟨rfl, by rw [hU], by rw [hU]; exact hP, va_K.moved hW.alike hK, hD.weaken (fun _ _ _ _ => trivial), kNw.warm hW hNw⟩⟩ rfl rfl hl.1 rfl (lv_room (Nat.le_of_ble_eq_true rfl)) dX1_joinBetween_3 ⟨Nat.le_of_ble_eq_true rfl, Nat.le_of_ble_eq_true rfl⟩) hS (fun q _ h => hFc q h) hFc (fun r9 u9 t H1 locs ht hvm hw hB hz1 hk1 hS => ?_)
    obtain ⟨hP1, hK1, hD1⟩ := hB
    rw [ht] at hP1
    obtain ⟨hw1, hw2⟩ := hw
    rw [hw2] at hP1 hD1
    rw [hw1]
    rw [F_s_powerOf_2] at hP1 hD1
    have hD2 := hD1.weaken (B := A) (fun _ q _ h => hFc q.1 h)
    have hP := hP1
    have hD := hD2
    generalize H1 = H at hP hS ⊢
    refine lv_istore (lv' := [(6, .int (iI ((F_s_powerOf (x) (b0)).1))), (0, .ref (ad (56))), (1, .ref (ad (w1))), (2, .ref (ad (w2))), (3, .ref (ad (1))), (4, .int (iI (a0))), (5, .int (iI (b0)))]) hx hb dX1_joinBetween_6 hl (by decide) rfl (fun ls hl => ?_)
    refine lv_aload_n hx hb dX1_joinBetween_8 rfl (lv_at hl 4 rfl) ?_
    refine lv_iload hx hb dX1_joinBetween_9 (lv_at hl 5 rfl) ?_
    have hFc : ∀ q, va_A (kWd cI cJ cZ cR wl ad M (x)) H.size q → A q := fun q hq => Or.elim hq (fun ⟨k, e, hk⟩ => hD.2 k (q, e) hk) (fun hk => hA q (Nat.le_trans hS.1 hk))
    refine va_calli (va_runV (b := ad (1)) (As := [.int (iI (a0))]) (rest := []) ⟨hx, hb, hml, hown, hts⟩ (c_s_powerOf l dC dI ad cI cJ cZ cR M wl H.size (x)  (a0) hM sc (by unfold iR; omega)) (cwV 1 hts gX1_joinBetween_X8_powerOf rfl rfl rfl (by decide +kernel) ⟨Nat.le_of_ble_eq_true rfl, Nat.le_of_ble_eq_true rfl⟩) ⟨fun a U g mk q => by obtain ⟨q0, q1, qP, qK, qD, qN⟩ := q; exact ⟨q0, q1, qP, va_K.moved (u := U) (U := U.calling g mk a) (Vm.Alike.refl U.vm) qK, qD, kNw.same (u := U) (U := U.calling g mk a) rfl qN⟩, va_recv hK hP (ci := 8) (q0 := 1) rfl (kg1 (by omega)), fun U hU hW => ⟨rfl, by rw [hU], by rw [hU]; exact hP, va_K.moved hW.alike hK, hD.weaken (fun _ _ _ _ => trivial), kNw.warm hW hNw⟩⟩ rfl rfl hl.1 rfl (lv_room (Nat.le_of_ble_eq_true rfl)) dX1_joinBetween_11 ⟨Nat.le_of_ble_eq_true rfl, Nat.le_of_ble_eq_true rfl⟩) hS (fun q _ h => hFc q h) hFc (fun r9 u9 t H1 locs ht hvm hw hB hz1 hk1 hS => ?_)
    obtain ⟨hP1, hK1, hD1⟩ := hB
    rw [ht] at hP1
    obtain ⟨hw1, hw2⟩ := hw
    rw [hw2] at hP1 hD1
    rw [hw1]
    rw [F_s_powerOf_2] at hP1 hD1
    have hD2 := hD1.weaken (B := A) (fun _ q _ h => hFc q.1 h)
    have hP := hP1
    have hD := hD2
    generalize H1 = H at hP hS ⊢
    refine lv_istore (lv' := [(7, .int (iI ((F_s_powerOf (x) (a0)).1))), (6, .int (iI ((F_s_powerOf (x) (b0)).1))), (0, .ref (ad (56))), (1, .ref (ad (w1))), (2, .ref (ad (w2))), (3, .ref (ad (1))), (4, .int (iI (a0))), (5, .int (iI (b0)))]) hx hb dX1_joinBetween_14 hl (by decide) rfl (fun ls hl => ?_)
    refine lv_aload_n hx hb dX1_joinBetween_16 rfl (lv_at hl 5 rfl) ?_
    refine lv_iload hx hb dX1_joinBetween_17 (lv_at hl 6 rfl) ?_
    refine lv_aload_n hx hb dX1_joinBetween_19 rfl (lv_at hl 3 rfl) ?_
    refine va_get (D := (dC, dI)) (ci := 10) (v := .int (iI ((x).1 (w1) 1))) (C := RX10) (T := TX10) (N := 2) hx hb hts hinX10 hown hK hP (w1) (kgw hw_w1 (by omega)) rfl 1 (by decide) (hts (.fieldLink RX1 25 "LikeWords$Word" "used" "I") (by decide +kernel)) (fun _ h9 => h9) rfl dX1_joinBetween_20 ?_
    refine wi_iadd hx hb dX1_joinBetween_23 ?_
    refine lv_iload hx hb dX1_joinBetween_24 (lv_at hl 7 rfl) ?_
    refine wi_iadd hx hb dX1_joinBetween_26 ?_
    have hFc : ∀ q, va_A (kWd cI cJ cZ cR wl ad M (x)) H.size q → A q := fun q hq => Or.elim hq (fun ⟨k, e, hk⟩ => hD.2 k (q, e) hk) (fun hk => hA q (Nat.le_trans hS.1 hk))
    refine va_calli (va_runV (b := ad (1)) (As := [.int (iI (((a0) + ((x).1 (w1) 1)) + (b0)))]) (rest := []) ⟨hx, hb, hml, hown, hts⟩ (c_s_firstOf l dC dI ad cI cJ cZ cR M wl H.size (x)  (((a0) + ((x).1 (w1) 1)) + (b0)) hM sc (by unfold iR; omega)) (cwV 1 hts gX1_joinBetween_X8_firstOf rfl rfl rfl (by decide +kernel) ⟨Nat.le_of_ble_eq_true rfl, Nat.le_of_ble_eq_true rfl⟩) ⟨fun a U g mk q => by obtain ⟨q0, q1, qP, qK, qD, qN⟩ := q; exact ⟨q0, q1, qP, va_K.moved (u := U) (U := U.calling g mk a) (Vm.Alike.refl U.vm) qK, qD, kNw.same (u := U) (U := U.calling g mk a) rfl qN⟩, va_recv hK hP (ci := 8) (q0 := 1) rfl (kg1 (by omega)), fun U hU hW => ⟨rfl, by rw [hU], by rw [hU]; exact hP, va_K.moved hW.alike hK, hD.weaken (fun _ _ _ _ => trivial), kNw.warm hW hNw⟩⟩ rfl rfl hl.1 rfl (lv_room (Nat.le_of_ble_eq_true rfl)) dX1_joinBetween_27 ⟨Nat.le_of_ble_eq_true rfl, Nat.le_of_ble_eq_true rfl⟩) hS (fun q _ h => hFc q h) hFc (fun r9 u9 t H1 locs ht hvm hw hB hz1 hk1 hS => ?_)
    obtain ⟨hP1, hK1, hD1⟩ := hB
    rw [ht] at hP1
    obtain ⟨hw1, hw2⟩ := hw
    rw [hw2] at hP1 hD1
    rw [hw1]
    rw [F_s_firstOf_2] at hP1 hD1
    have hD2 := hD1.weaken (B := A) (fun _ q _ h => hFc q.1 h)
    have hP := hP1
    have hD := hD2
    generalize H1 = H at hP hS ⊢
    refine lv_aload_n hx hb dX1_joinBetween_30 rfl (lv_at hl 5 rfl) ?_
    refine lv_aload_n hx hb dX1_joinBetween_31 rfl (lv_at hl 3 rfl) ?_
    have hFc : ∀ q, va_A (kWd cI cJ cZ cR wl ad M (x)) H.size q → A q := fun q hq => Or.elim hq (fun ⟨k, e, hk⟩ => hD.2 k (q, e) hk) (fun hk => hA q (Nat.le_trans hS.1 hk))
    refine va_calli (va_runV (b := ad (1)) (As := [.ref (ad (w1))]) (rest := [.int (iI ((F_s_firstOf (x) (((a0) + ((x).1 (w1) 1)) + (b0))).1))]) ⟨hx, hb, hml, hown, hts⟩ (c_s_valueOf l dC dI ad cI cJ cZ cR M wl H.size (x) (w1)  hM hw_w1 (by omega) wa0 wa1) (cwV 1 hts gX1_joinBetween_X8_valueOf rfl rfl rfl (by decide +kernel) ⟨Nat.le_of_ble_eq_true rfl, Nat.le_of_ble_eq_true rfl⟩) ⟨fun a U g mk q => by obtain ⟨q0, q1, qP, qK, qD, qN⟩ := q; exact ⟨q0, q1, qP, va_K.moved (u := U) (U := U.calling g mk a) (Vm.Alike.refl U.vm) qK, qD, kNw.same (u := U) (U := U.calling g mk a) rfl qN⟩, va_recv hK hP (ci := 8) (q0 := 1) rfl (kg1 (by omega)), fun U hU hW => ⟨rfl, by rw [hU], by rw [hU]; exact hP, va_K.moved hW.alike hK, hD.weaken (fun _ _ _ _ => trivial), kNw.warm hW hNw⟩⟩ rfl rfl hl.1 rfl (lv_room (Nat.le_of_ble_eq_true rfl)) dX1_joinBetween_32 ⟨Nat.le_of_ble_eq_true rfl, Nat.le_of_ble_eq_true rfl⟩) hS (fun q _ h => hFc q h) hFc (fun r9 u9 t H1 locs ht hvm hw hB hz1 hk1 hS => ?_)
    obtain ⟨hP1, hK1, hD1⟩ := hB
    rw [ht] at hP1
    obtain ⟨hw1, hw2⟩ := hw
    rw [hw2] at hP1 hD1
    rw [hw1]
    rw [F_s_valueOf_2] at hP1 hD1
    have hD2 := hD1.weaken (B := A) (fun _ q _ h => hFc q.1 h)
    have hP := hP1
    have hD := hD2
    generalize H1 = H at hP hS ⊢
    refine lv_iload hx hb dX1_joinBetween_35 (lv_at hl 1 rfl) ?_
    refine wi_imul hx hb dX1_joinBetween_37 ?_
    refine wi_iadd hx hb dX1_joinBetween_38 ?_
    refine lv_istore (lv' := [(8, .int (iI (((F_s_firstOf (x) (((a0) + ((x).1 (w1) 1)) + (b0))).1) + (((F_s_valueOf (x) (w1)).1) * ((F_s_powerOf (x) (b0)).1))))), (7, .int (iI ((F_s_powerOf (x) (a0)).1))), (6, .int (iI ((F_s_powerOf (x) (b0)).1))), (0, .ref (ad (56))), (1, .ref (ad (w1))), (2, .ref (ad (w2))), (3, .ref (ad (1))), (4, .int (iI (a0))), (5, .int (iI (b0)))]) hx hb dX1_joinBetween_39 hl (by decide) rfl (fun ls hl => ?_)
    refine lv_aload_n hx hb dX1_joinBetween_41 rfl (lv_at hl 6 rfl) ?_
    refine lv_iload hx hb dX1_joinBetween_42 (lv_at hl 7 rfl) ?_
    refine lv_aload_n hx hb dX1_joinBetween_44 rfl (lv_at hl 5 rfl) ?_
    refine va_get (D := (dC, dI)) (ci := 10) (v := .int (iI ((x).1 (w2) 1))) (C := RX10) (T := TX10) (N := 2) hx hb hts hinX10 hown hK hP (w2) (kgw hw_w2 (by omega)) rfl 1 (by decide) (hts (.fieldLink RX1 25 "LikeWords$Word" "used" "I") (by decide +kernel)) (fun _ h9 => h9) rfl dX1_joinBetween_45 ?_
    refine wi_iadd hx hb dX1_joinBetween_48 ?_
    refine lv_iload hx hb dX1_joinBetween_49 (lv_at hl 8 rfl) ?_
    refine wi_iadd hx hb dX1_joinBetween_51 ?_
    have hFc : ∀ q, va_A (kWd cI cJ cZ cR wl ad M (x)) H.size q → A q := fun q hq => Or.elim hq (fun ⟨k, e, hk⟩ => hD.2 k (q, e) hk) (fun hk => hA q (Nat.le_trans hS.1 hk))
    refine va_calli (va_runV (b := ad (1)) (As := [.int (iI (((a0) + ((x).1 (w2) 1)) + (b0)))]) (rest := []) ⟨hx, hb, hml, hown, hts⟩ (c_s_firstOf l dC dI ad cI cJ cZ cR M wl H.size (x)  (((a0) + ((x).1 (w2) 1)) + (b0)) hM sc (by unfold iR; omega)) (cwV 1 hts gX1_joinBetween_X8_firstOf rfl rfl rfl (by decide +kernel) ⟨Nat.le_of_ble_eq_true rfl, Nat.le_of_ble_eq_true rfl⟩) ⟨fun a U g mk q => by obtain ⟨q0, q1, qP, qK, qD, qN⟩ := q; exact ⟨q0, q1, qP, va_K.moved (u := U) (U := U.calling g mk a) (Vm.Alike.refl U.vm) qK, qD, kNw.same (u := U) (U := U.calling g mk a) rfl qN⟩, va_recv hK hP (ci := 8) (q0 := 1) rfl (kg1 (by omega)), fun U hU hW => ⟨rfl, by rw [hU], by rw [hU]; exact hP, va_K.moved hW.alike hK, hD.weaken (fun _ _ _ _ => trivial), kNw.warm hW hNw⟩⟩ rfl rfl hl.1 rfl (lv_room (Nat.le_of_ble_eq_true rfl)) dX1_joinBetween_52 ⟨Nat.le_of_ble_eq_true rfl, Nat.le_of_ble_eq_true rfl⟩) hS (fun q _ h => hFc q h) hFc (fun r9 u9 t H1 locs ht hvm hw hB hz1 hk1 hS => ?_)
    obtain ⟨hP1, hK1, hD1⟩ := hB
    rw [ht] at hP1
    obtain ⟨hw1, hw2⟩ := hw
    rw [hw2] at hP1 hD1
    rw [hw1]
    rw [F_s_firstOf_2] at hP1 hD1
    have hD2 := hD1.weaken (B := A) (fun _ q _ h => hFc q.1 h)
    have hP := hP1
    have hD := hD2
    generalize H1 = H at hP hS ⊢
    refine lv_aload_n hx hb dX1_joinBetween_55 rfl (lv_at hl 6 rfl) ?_
    refine lv_aload_n hx hb dX1_joinBetween_56 rfl (lv_at hl 5 rfl) ?_
    have hFc : ∀ q, va_A (kWd cI cJ cZ cR wl ad M (x)) H.size q → A q := fun q hq => Or.elim hq (fun ⟨k, e, hk⟩ => hD.2 k (q, e) hk) (fun hk => hA q (Nat.le_trans hS.1 hk))
    refine va_calli (va_runV (b := ad (1)) (As := [.ref (ad (w2))]) (rest := [.int (iI ((F_s_firstOf (x) (((a0) + ((x).1 (w2) 1)) + (b0))).1))]) ⟨hx, hb, hml, hown, hts⟩ (c_s_valueOf l dC dI ad cI cJ cZ cR M wl H.size (x) (w2)  hM hw_w2 (by omega) wb0 wb1) (cwV 1 hts gX1_joinBetween_X8_valueOf rfl rfl rfl (by decide +kernel) ⟨Nat.le_of_ble_eq_true rfl, Nat.le_of_ble_eq_true rfl⟩) ⟨fun a U g mk q => by obtain ⟨q0, q1, qP, qK, qD, qN⟩ := q; exact ⟨q0, q1, qP, va_K.moved (u := U) (U := U.calling g mk a) (Vm.Alike.refl U.vm) qK, qD, kNw.same (u := U) (U := U.calling g mk a) rfl qN⟩, va_recv hK hP (ci := 8) (q0 := 1) rfl (kg1 (by omega)), fun U hU hW => ⟨rfl, by rw [hU], by rw [hU]; exact hP, va_K.moved hW.alike hK, hD.weaken (fun _ _ _ _ => trivial), kNw.warm hW hNw⟩⟩ rfl rfl hl.1 rfl (lv_room (Nat.le_of_ble_eq_true rfl)) dX1_joinBetween_57 ⟨Nat.le_of_ble_eq_true rfl, Nat.le_of_ble_eq_true rfl⟩) hS (fun q _ h => hFc q h) hFc (fun r9 u9 t H1 locs ht hvm hw hB hz1 hk1 hS => ?_)
    obtain ⟨hP1, hK1, hD1⟩ := hB
    rw [ht] at hP1
    obtain ⟨hw1, hw2⟩ := hw
    rw [hw2] at hP1 hD1
    rw [hw1]
    rw [F_s_valueOf_2] at hP1 hD1
    have hD2 := hD1.weaken (B := A) (fun _ q _ h => hFc q.1 h)
    have hP := hP1
    have hD := hD2
    generalize H1 = H at hP hS ⊢
    refine lv_iload hx hb dX1_joinBetween_60 (lv_at hl 2 rfl) ?_
    refine wi_imul hx hb dX1_joinBetween_62 ?_
    refine wi_iadd hx hb dX1_joinBetween_63 ?_
    refine lv_istore (lv' := [(9, .int (iI (((F_s_firstOf (x) (((a0) + ((x).1 (w2) 1)) + (b0))).1) + (((F_s_valueOf (x) (w2)).1) * ((F_s_powerOf (x) (b0)).1))))), (8, .int (iI (((F_s_firstOf (x) (((a0) + ((x).1 (w1) 1)) + (b0))).1) + (((F_s_valueOf (x) (w1)).1) * ((F_s_powerOf (x) (b0)).1))))), (7, .int (iI ((F_s_powerOf (x) (a0)).1))), (6, .int (iI ((F_s_powerOf (x) (b0)).1))), (0, .ref (ad (56))), (1, .ref (ad (w1))), (2, .ref (ad (w2))), (3, .ref (ad (1))), (4, .int (iI (a0))), (5, .int (iI (b0)))]) hx hb dX1_joinBetween_64 hl (by decide) rfl (fun ls hl => ?_)
    refine lv_aload_n hx hb dX1_joinBetween_66 rfl (lv_at hl 7 rfl) ?_
    refine lv_aload_n hx hb dX1_joinBetween_67 rfl (lv_at hl 5 rfl) ?_
    refine va_get (D := (dC, dI)) (ci := 10) (v := .int (iI ((x).1 (w1) 1))) (C := RX10) (T := TX10) (N := 2) hx hb hts hinX10 hown hK hP (w1) (kgw hw_w1 (by omega)) rfl 1 (by decide) (hts (.fieldLink RX1 25 "LikeWords$Word" "used" "I") (by decide +kernel)) (fun _ h9 => h9) rfl dX1_joinBetween_68 ?_
    have hFc : ∀ q, va_A (kWd cI cJ cZ cR wl ad M (x)) H.size q → A q := fun q hq => Or.elim hq (fun ⟨k, e, hk⟩ => hD.2 k (q, e) hk) (fun hk => hA q (Nat.le_trans hS.1 hk))
    refine va_calli (va_runV (b := ad (1)) (As := [.int (iI ((x).1 (w1) 1))]) (rest := []) ⟨hx, hb, hml, hown, hts⟩ (c_s_powerOf l dC dI ad cI cJ cZ cR M wl H.size (x)  ((x).1 (w1) 1) hM sc (by unfold iR; omega)) (cwV 1 hts gX1_joinBetween_X8_powerOf rfl rfl rfl (by decide +kernel) ⟨Nat.le_of_ble_eq_true rfl, Nat.le_of_ble_eq_true rfl⟩) ⟨fun a U g mk q => by obtain ⟨q0, q1, qP, qK, qD, qN⟩ := q; exact ⟨q0, q1, qP, va_K.moved (u := U) (U := U.calling g mk a) (Vm.Alike.refl U.vm) qK, qD, kNw.same (u := U) (U := U.calling g mk a) rfl qN⟩, va_recv hK hP (ci := 8) (q0 := 1) rfl (kg1 (by omega)), fun U hU hW => ⟨rfl, by rw [hU], by rw [hU]; exact hP, va_K.moved hW.alike hK, hD.weaken (fun _ _ _ _ => trivial), kNw.warm hW hNw⟩⟩ rfl rfl hl.1 rfl (lv_room (Nat.le_of_ble_eq_true rfl)) dX1_joinBetween_71 ⟨Nat.le_of_ble_eq_true rfl, Nat.le_of_ble_eq_true rfl⟩) hS (fun q _ h => hFc q h) hFc (fun r9 u9 t H1 locs ht hvm hw hB hz1 hk1 hS => ?_)
    obtain ⟨hP1, hK1, hD1⟩ := hB
    rw [ht] at hP1
    obtain ⟨hw1, hw2⟩ := hw
    rw [hw2] at hP1 hD1
    rw [hw1]
    rw [F_s_powerOf_2] at hP1 hD1
    have hD2 := hD1.weaken (B := A) (fun _ q _ h => hFc q.1 h)
    have hP := hP1
    have hD := hD2
    generalize H1 = H at hP hS ⊢
    refine lv_iload hx hb dX1_joinBetween_74 (lv_at hl 3 rfl) ?_
    refine wi_imul hx hb dX1_joinBetween_76 ?_
    refine lv_istore (lv' := [(10, .int (iI (((F_s_powerOf (x) ((x).1 (w1) 1)).1) * ((F_s_powerOf (x) (b0)).1)))), (9, .int (iI (((F_s_firstOf (x) (((a0) + ((x).1 (w2) 1)) + (b0))).1) + (((F_s_valueOf (x) (w2)).1) * ((F_s_powerOf (x) (b0)).1))))), (8, .int (iI (((F_s_firstOf (x) (((a0) + ((x).1 (w1) 1)) + (b0))).1) + (((F_s_valueOf (x) (w1)).1) * ((F_s_powerOf (x) (b0)).1))))), (7, .int (iI ((F_s_powerOf (x) (a0)).1))), (6, .int (iI ((F_s_powerOf (x) (b0)).1))), (0, .ref (ad (56))), (1, .ref (ad (w1))), (2, .ref (ad (w2))), (3, .ref (ad (1))), (4, .int (iI (a0))), (5, .int (iI (b0)))]) hx hb dX1_joinBetween_77 hl (by decide) rfl (fun ls hl => ?_)
    refine lv_aload_n hx hb dX1_joinBetween_79 rfl (lv_at hl 8 rfl) ?_
    refine lv_aload_n hx hb dX1_joinBetween_80 rfl (lv_at hl 7 rfl) ?_
    refine va_get (D := (dC, dI)) (ci := 10) (v := .int (iI ((x).1 (w2) 1))) (C := RX10) (T := TX10) (N := 2) hx hb hts hinX10 hown hK hP (w2) (kgw hw_w2 (by omega)) rfl 1 (by decide) (hts (.fieldLink RX1 25 "LikeWords$Word" "used" "I") (by decide +kernel)) (fun _ h9 => h9) rfl dX1_joinBetween_81 ?_
    have hFc : ∀ q, va_A (kWd cI cJ cZ cR wl ad M (x)) H.size q → A q := fun q hq => Or.elim hq (fun ⟨k, e, hk⟩ => hD.2 k (q, e) hk) (fun hk => hA q (Nat.le_trans hS.1 hk))
    refine va_calli (va_runV (b := ad (1)) (As := [.int (iI ((x).1 (w2) 1))]) (rest := []) ⟨hx, hb, hml, hown, hts⟩ (c_s_powerOf l dC dI ad cI cJ cZ cR M wl H.size (x)  ((x).1 (w2) 1) hM sc (by unfold iR; omega)) (cwV 1 hts gX1_joinBetween_X8_powerOf rfl rfl rfl (by decide +kernel) ⟨Nat.le_of_ble_eq_true rfl, Nat.le_of_ble_eq_true rfl⟩) ⟨fun a U g mk q => by obtain ⟨q0, q1, qP, qK, qD, qN⟩ := q; exact ⟨q0, q1, qP, va_K.moved (u := U) (U := U.calling g mk a) (Vm.Alike.refl U.vm) qK, qD, kNw.same (u := U) (U := U.calling g mk a) rfl qN⟩, va_recv hK hP (ci := 8) (q0 := 1) rfl (kg1 (by omega)), fun U hU hW => ⟨rfl, by rw [hU], by rw [hU]; exact hP, va_K.moved hW.alike hK, hD.weaken (fun _ _ _ _ => trivial), kNw.warm hW hNw⟩⟩ rfl rfl hl.1 rfl (lv_room (Nat.le_of_ble_eq_true rfl)) dX1_joinBetween_84 ⟨Nat.le_of_ble_eq_true rfl, Nat.le_of_ble_eq_true rfl⟩) hS (fun q _ h => hFc q h) hFc (fun r9 u9 t H1 locs ht hvm hw hB hz1 hk1 hS => ?_)
    obtain ⟨hP1, hK1, hD1⟩ := hB
    rw [ht] at hP1
    obtain ⟨hw1, hw2⟩ := hw
    rw [hw2] at hP1 hD1
    rw [hw1]
    rw [F_s_powerOf_2] at hP1 hD1
    have hD2 := hD1.weaken (B := A) (fun _ q _ h => hFc q.1 h)
    have hP := hP1
    have hD := hD2
    generalize H1 = H at hP hS ⊢
    refine lv_iload hx hb dX1_joinBetween_87 (lv_at hl 4 rfl) ?_
    refine wi_imul hx hb dX1_joinBetween_89 ?_
    refine lv_istore (lv' := [(11, .int (iI (((F_s_powerOf (x) ((x).1 (w2) 1)).1) * ((F_s_powerOf (x) (b0)).1)))), (10, .int (iI (((F_s_powerOf (x) ((x).1 (w1) 1)).1) * ((F_s_powerOf (x) (b0)).1)))), (9, .int (iI (((F_s_firstOf (x) (((a0) + ((x).1 (w2) 1)) + (b0))).1) + (((F_s_valueOf (x) (w2)).1) * ((F_s_powerOf (x) (b0)).1))))), (8, .int (iI (((F_s_firstOf (x) (((a0) + ((x).1 (w1) 1)) + (b0))).1) + (((F_s_valueOf (x) (w1)).1) * ((F_s_powerOf (x) (b0)).1))))), (7, .int (iI ((F_s_powerOf (x) (a0)).1))), (6, .int (iI ((F_s_powerOf (x) (b0)).1))), (0, .ref (ad (56))), (1, .ref (ad (w1))), (2, .ref (ad (w2))), (3, .ref (ad (1))), (4, .int (iI (a0))), (5, .int (iI (b0)))]) hx hb dX1_joinBetween_90 hl (by decide) rfl (fun ls hl => ?_)
    refine lv_iconst (v := iI (0 : Int)) hx hb dX1_joinBetween_92 (by decide) ?_
    refine lv_istore (lv' := [(12, .int (iI ((0 : Int)))), (11, .int (iI (((F_s_powerOf (x) ((x).1 (w2) 1)).1) * ((F_s_powerOf (x) (b0)).1)))), (10, .int (iI (((F_s_powerOf (x) ((x).1 (w1) 1)).1) * ((F_s_powerOf (x) (b0)).1)))), (9, .int (iI (((F_s_firstOf (x) (((a0) + ((x).1 (w2) 1)) + (b0))).1) + (((F_s_valueOf (x) (w2)).1) * ((F_s_powerOf (x) (b0)).1))))), (8, .int (iI (((F_s_firstOf (x) (((a0) + ((x).1 (w1) 1)) + (b0))).1) + (((F_s_valueOf (x) (w1)).1) * ((F_s_powerOf (x) (b0)).1))))), (7, .int (iI ((F_s_powerOf (x) (a0)).1))), (6, .int (iI ((F_s_powerOf (x) (b0)).1))), (0, .ref (ad (56))), (1, .ref (ad (w1))), (2, .ref (ad (w2))), (3, .ref (ad (1))), (4, .int (iI (a0))), (5, .int (iI (b0)))]) hx hb dX1_joinBetween_93 hl (by decide) rfl (fun ls hl => ?_)
    exact (L (100200000)).1 (x) ((F_s_powerOf (x) (b0)).1) ((F_s_powerOf (x) (a0)).1) (((F_s_firstOf (x) (((a0) + ((x).1 (w1) 1)) + (b0))).1) + (((F_s_valueOf (x) (w1)).1) * ((F_s_powerOf (x) (b0)).1))) (((F_s_firstOf (x) (((a0) + ((x).1 (w2) 1)) + (b0))).1) + (((F_s_valueOf (x) (w2)).1) * ((F_s_powerOf (x) (b0)).1))) (((F_s_powerOf (x) ((x).1 (w1) 1)).1) * ((F_s_powerOf (x) (b0)).1)) (((F_s_powerOf (x) ((x).1 (w2) 1)).1) * ((F_s_powerOf (x) (b0)).1)) ((0 : Int)) (km_rf _ _ _) (jr) (pw1.1) (pw1.2) (pw2.1) (pw2.2) (kj_R sx wa0 wal pa pb sa) (kj_R sx wb0 wbl pa pb sb) (by omega) (by omega) (by omega) hres _ _ ls hP hD hS (lv_sub hl [7, 8, 9, 10, 11, 12, 6, 5, 4, 3, 2, 1, 0] rfl)
  exact key _ _ hP hS
theorem F_j_joinBetween_sfr (w1 : Nat) (w2 : Nat) : ∀ n : Nat, (∀ (y : KS) (v0 : Int) (v1 : Int) (v2 : Int) (v3 : Int) (v4 : Int) (v5 : Int) (v6 : Int) (v7 : Int) (v8 : Int) (v9 : Int), ksame [] [57] y (F_j_joinBetween_s w1 w2 n 0 y v0 v1 v2 v3 v4 v5 v6 v7 v8 v9).2) ∧ (∀ (y : KS) (v0 : Int) (v1 : Int) (v2 : Int) (v3 : Int) (v4 : Int) (v5 : Int) (v6 : Int) (v7 : Int) (v8 : Int) (v9 : Int), ksame [] [57] y (F_j_joinBetween_s w1 w2 n 1 y v0 v1 v2 v3 v4 v5 v6 v7 v8 v9).2) := by
  intro n
  induction n with
  | zero => exact ⟨fun y _ _ _ _ _ _ _ _ _ _ => km_rf _ _ _, fun y _ _ _ _ _ _ _ _ _ _ => km_rf _ _ _⟩
  | succ n ih =>
    refine ⟨?_, ?_⟩
    · intro y a0 b0 tl hd sA sB lA lB g q0
      rw [F_j_joinBetween_e0]
      by_cases hc : (hd) ≤ (g)
      · rw [if_pos hc]
        exact (km_rf _ _ _)
      · rw [if_neg hc]
        exact km_tr ((km_rf _ _ _)) (ih.2 (y) (a0) (b0) (tl) (hd) (sA) (sB) (lA) (lB) (g) ((0 : Int)))
    · intro y a0 b0 tl hd sA sB lA lB g k
      rw [F_j_joinBetween_e1]
      by_cases hc : (tl) ≤ (k)
      · rw [if_pos hc]
        exact km_tr ((km_rf _ _ _)) (ih.1 (y) (a0) (b0) (tl) (hd) (sA) (sB) (lA) (lB) ((g) + (1 : Int)) (0))
      · rw [if_neg hc]
        exact km_tr ((km_tr (km_rf _ _ _) (km_mono km0 (km1 (List.Mem.head _) km0) (F_j_join_fr (y) (((sA) + ((g) * (lA))) + (k)) (((sB) + ((g) * (lB))) + (k)))))) (ih.2 ((F_j_join (y) (((sA) + ((g) * (lA))) + (k)) (((sB) + ((g) * (lB))) + (k))).2) (a0) (b0) (tl) (hd) (sA) (sB) (lA) (lB) (g) ((k) + (1 : Int)))
theorem F_j_joinBetween_fr (x : KS) (w1 : Nat) (w2 : Nat) (a0 : Int) (b0 : Int) : ksame [] [57] x (F_j_joinBetween x w1 w2 a0 b0).2 := by
  unfold F_j_joinBetween
  exact km_tr ((km_rf _ _ _)) ((F_j_joinBetween_sfr w1 w2 (100200000)).1 (x) (a0) (b0) ((F_s_powerOf (x) (b0)).1) ((F_s_powerOf (x) (a0)).1) (((F_s_firstOf (x) (((a0) + ((x).1 (w1) 1)) + (b0))).1) + (((F_s_valueOf (x) (w1)).1) * ((F_s_powerOf (x) (b0)).1))) (((F_s_firstOf (x) (((a0) + ((x).1 (w2) 1)) + (b0))).1) + (((F_s_valueOf (x) (w2)).1) * ((F_s_powerOf (x) (b0)).1))) (((F_s_powerOf (x) ((x).1 (w1) 1)).1) * ((F_s_powerOf (x) (b0)).1)) (((F_s_powerOf (x) ((x).1 (w2) 1)).1) * ((F_s_powerOf (x) (b0)).1)) ((0 : Int)) (0))
theorem F_j_joinBetween_q (x : KS) (w1 : Nat) (w2 : Nat) (a0 : Int) (b0 : Int) (hw_w1 : kW w1 = true) (hw_w2 : kW w2 = true) : kq [] [57] x (F_j_joinBetween x w1 w2 a0 b0).2 := kq_of (F_j_joinBetween_fr x w1 w2 a0 b0) kq_m (kq_c (Or.inr (by decide)) kq_n)
theorem F_j_joinBetween_s_ok (w1 w2 : Nat) : ∀ n : Nat, (∀ (y : KS) (a b c d e f g h i : Int), jnR y → jnR (F_j_joinBetween_s w1 w2 n 0 y a b c d e f g h i 0).2) ∧ (∀ (y : KS) (a b c d e f g h i j : Int), jnR y → jnR (F_j_joinBetween_s w1 w2 n 1 y a b c d e f g h i j).2) := by
  intro n
  induction n with
  | zero => exact ⟨fun _ _ _ _ _ _ _ _ _ _ hj => hj, fun _ _ _ _ _ _ _ _ _ _ _ hj => hj⟩
  | succ n ih =>
    refine ⟨?_, ?_⟩
    · intro y a b c d e f g h i hj
      rw [F_j_joinBetween_e0]
      split
      · exact hj
      · exact ih.2 _ _ _ _ _ _ _ _ _ _ _ hj
    · intro y a b c d e f g h i j hj
      rw [F_j_joinBetween_e1]
      split
      · exact ih.1 _ _ _ _ _ _ _ _ _ _ hj
      · exact ih.2 _ _ _ _ _ _ _ _ _ _ _ (F_j_join_ok hj)
theorem F_j_joinBetween_ok {x : KS} {w1 w2 : Nat} {a b : Int} (hj : jnR x) : jnR (F_j_joinBetween x w1 w2 a b).2 := (F_j_joinBetween_s_ok w1 w2 _).1 _ _ _ _ _ _ _ _ _ _ hj
def F_j_joinByLaw_s (w1 : Nat) (w2 : Nat) : Nat → Nat → KS → Int → Int → Int → Int → Int × KS
  | 0, _, x, _, _, _, _ => (0, x)
  | n + 1, t, x, p0, p1, p2, p3 => match t with
    | 0 => (fun (m0 : Int) (v : Int) (b : Int) => (if (v) < (b) then (0, x) else F_j_joinByLaw_s w1 w2 n 1 (x) (m0) (v) (b) ((0 : Int)))) p0 p1 p2
    | 1 => (fun (m0 : Int) (v : Int) (b : Int) (a : Int) => (if (v) < ((a) + (b)) then F_j_joinByLaw_s w1 w2 n 0 (x) (m0) (v) ((b) + (1 : Int)) (0) else F_j_joinByLaw_s w1 w2 n 1 ((F_j_joinBetween (x) (w1) (w2) (a) (b)).2) (m0) (v) (b) ((a) + (1 : Int)))) p0 p1 p2 p3
    | _ => (0, x)
theorem F_j_joinByLaw_e0 (w1 : Nat) (w2 : Nat) (n : Nat) (x : KS) (m0 : Int) (v : Int) (b : Int) (q0 : Int) : F_j_joinByLaw_s w1 w2 (n + 1) 0 x m0 v b q0 = (if (v) < (b) then (0, x) else F_j_joinByLaw_s w1 w2 n 1 (x) (m0) (v) (b) ((0 : Int))) := rfl
theorem F_j_joinByLaw_e1 (w1 : Nat) (w2 : Nat) (n : Nat) (x : KS) (m0 : Int) (v : Int) (b : Int) (a : Int) : F_j_joinByLaw_s w1 w2 (n + 1) 1 x m0 v b a = (if (v) < ((a) + (b)) then F_j_joinByLaw_s w1 w2 n 0 (x) (m0) (v) ((b) + (1 : Int)) (0) else F_j_joinByLaw_s w1 w2 n 1 ((F_j_joinBetween (x) (w1) (w2) (a) (b)).2) (m0) (v) (b) ((a) + (1 : Int))) := rfl
def F_j_joinByLaw (x : KS) (w1 : Nat) (w2 : Nat) (m0 : Int) : Int × KS := (if ((F_w_isSame (x) (w1) (w2)).1) = (0) then F_j_joinByLaw_s w1 w2 2000 0 (x) (m0) ((m0) - (max ((x).1 (w1) 1) ((x).1 (w2) 1))) ((0 : Int)) (0) else (0, x))
set_option maxHeartbeats 4000000 in
set_option maxRecDepth 100000 in
/-- LikeWords$Joins, joinByLaw -/
theorem c_j_joinByLaw (l : Launch) (dC : Nat → ClassId) (dI : Nat → Nat → Nat) (ad : Nat → Nat) (cI cJ cZ cR : ClassId) (M wl sz : Nat) (x : KS) (w1 : Nat) (w2 : Nat) (m0 : Int) (hM : 87 ≤ M) (hw_w1 : kW w1 = true) (hc_w1 : w1 + 1 < M) (hw_w2 : kW w2 = true) (hc_w2 : w2 + 1 < M) (sx : scX x) (jr : jnR x) (wa0 : 0 ≤ x.1 w1 1) (wa1 : x.1 w1 1 ≤ kL w1) (wal : wLt x w1) (wb0 : 0 ≤ x.1 w2 1) (wb1 : x.1 w2 1 ≤ kL w2) (wbl : wLt x w2) (ma : 0 ≤ m0) (mb : m0 ≤ x.1 1 3) (ra : ∀ j : Nat, iR (x.2 (w1 + 1) j)) (rb : ∀ j : Nat, iR (x.2 (w2 + 1) j)) : Met l yX1_joinByLaw wsX1_joinByLaw ({ frames := 3, cells := 0, slots := 0, locals := 80 }) (kPc dC dI ad cI cJ cZ cR M wl sz x [.ref (ad 56), .ref (ad w1), .ref (ad w2), .ref (ad 1), .int (iI m0)]) (va_Qv (fun u : KS => u = (F_j_joinByLaw x w1 w2 m0).2) (kAt dC dI ad cI cJ cZ cR M wl (va_A (kWd cI cJ cZ cR wl ad M (x)) sz)) (va_A (kWd cI cJ cZ cR wl ad M (x)) sz)) 0 0 (va_A (kWd cI cJ cZ cR wl ad M (x)) sz) := by
  refine Met.ofW (cc := cX1_joinByLaw) (maxL := 8) (ret := none) (by decide) rfl ?_
  intro p e s m args below meth c s₁ B hml hv
  obtain ⟨rfl, hsz, hP, hK, hD0, hNw⟩ := hv
  have hx := B.exec
  have hb := B.bytes
  have hr := B.returns
  have hts := atoms_spec (ws := wsX1_joinByLaw) B.pre
  have hown : s.vm.findClass RX1 = some m.cls := findClass_of_methodNamed B.named
  have hlocks := B.notSynchronized
  have hinX10 : ∀ w ∈ u_ws RX10 TX10 2, w ∈ wsX1_joinByLaw := by decide +kernel
  subst hsz
  have hD := hD0.self (sz := s.heap.size)
  generalize hAe : va_A (kWd cI cJ cZ cR wl ad M (x)) s.heap.size = A at hD ⊢
  have hA : ∀ q : Nat, s.heap.size ≤ q → A q := fun q h => by rw [← hAe]; exact Or.inr h
  have hS : va_S A s.heap s.heap [] := va_S.rf
  have hl := lv_entry ([.ref (ad 56), .ref (ad w1), .ref (ad w2), .ref (ad 1), .int (iI m0)]) (n := 8) (Nat.le_of_ble_eq_true rfl)
  rw [lg_entry_eq]
  generalize (lg_sl ([.ref (ad 56), .ref (ad w1), .ref (ad w2), .ref (ad 1), .int (iI m0)]) ++ List.replicate (8 - (lg_sl ([.ref (ad 56), .ref (ad w1), .ref (ad w2), .ref (ad 1), .int (iI m0)])).length) Slot.unset).toArray = ls at hl ⊢
  have hl : lv_has ls 8 [(0, .ref (ad (56))), (1, .ref (ad (w1))), (2, .ref (ad (w2))), (3, .ref (ad (1))), (4, .int (iI (m0)))] := hl
  have sc := sx.1
  have l3 := sc.2.1
  have k61 := kL_le w1
  have k62 := kL_le w2
  have L : ∀ n : Nat, (∀ (y : KS) (v : Int) (b : Int), (ksame [] [57] x y) → (jnR y) → (v = m0 - max (x.1 w1 1) (x.1 w2 1)) → (0 ≤ b) → (b ≤ 30) → ((30 - b) * 50 + 45 < n) → F_j_joinByLaw_s w1 w2 n 0 y m0 v b 0 = F_j_joinByLaw x w1 w2 m0 → ∀ (H : Heap) (locs : List Loc) (ls : Array Slot), va_P (dC, dI) vwCl (kWd cI cJ cZ cR wl ad M (y)) H → va_D A (kWd cI cJ cZ cR wl ad M (y)) → va_S A s.heap H locs → lv_has ls 8 [(0, .ref (ad (56))), (1, .ref (ad (w1))), (2, .ref (ad (w2))), (3, .ref (ad (1))), (4, .int (iI (m0))), (5, .int (iI (v))), (6, .int (iI (b)))] → W p l e (headSpec wsX1_joinByLaw ({ frames := 3, cells := 0, slots := 0, locals := 80 })).room s m ([.ref (ad 56), .ref (ad w1), .ref (ad w2), .ref (ad 1), .int (iI m0)] : List Value).toArray below meth c H locs 0 0 (MQ below (va_Qv (fun u : KS => u = (F_j_joinByLaw x w1 w2 m0).2) (kAt dC dI ad cI cJ cZ cR M wl A) A) ([.ref (ad 56), .ref (ad w1), .ref (ad w2), .ref (ad 1), .int (iI m0)] : List Value).toArray s 0 0 A) (F0 m 28 ls [])) ∧ (∀ (y : KS) (v : Int) (b : Int) (a : Int), (ksame [] [57] x y) → (jnR y) → (v = m0 - max (x.1 w1 1) (x.1 w2 1)) → (0 ≤ b) → (b ≤ v) → (0 ≤ a) → (a ≤ 30) → ((30 - b) * 50 + 40 - a < n) → F_j_joinByLaw_s w1 w2 n 1 y m0 v b a = F_j_joinByLaw x w1 w2 m0 → ∀ (H : Heap) (locs : List Loc) (ls : Array Slot), va_P (dC, dI) vwCl (kWd cI cJ cZ cR wl ad M (y)) H → va_D A (kWd cI cJ cZ cR wl ad M (y)) → va_S A s.heap H locs → lv_has ls 8 [(0, .ref (ad (56))), (1, .ref (ad (w1))), (2, .ref (ad (w2))), (3, .ref (ad (1))), (4, .int (iI (m0))), (5, .int (iI (v))), (6, .int (iI (b))), (7, .int (iI (a)))] → W p l e (headSpec wsX1_joinByLaw ({ frames := 3, cells := 0, slots := 0, locals := 80 })).room s m ([.ref (ad 56), .ref (ad w1), .ref (ad w2), .ref (ad 1), .int (iI m0)] : List Value).toArray below meth c H locs 0 0 (MQ below (va_Qv (fun u : KS => u = (F_j_joinByLaw x w1 w2 m0).2) (kAt dC dI ad cI cJ cZ cR M wl A) A) ([.ref (ad 56), .ref (ad w1), .ref (ad w2), .ref (ad 1), .int (iI m0)] : List Value).toArray s 0 0 A) (F0 m 38 ls [])) := by
    intro n
    induction n with
    | zero =>
      refine ⟨?_, ?_⟩
      · intro y v b sm jy vv b0 b1 fu hres
        exact absurd fu (by omega)
      · intro y v b a sm jy vv b0 b1 a0 a1 fu hres
        exact absurd fu (by omega)
    | succ n ih =>
      refine ⟨?_, ?_⟩
      · intro y v b sm jy vv b0 b1 fu hres H locs ls hP hD hS hl
        rw [F_j_joinByLaw_e0] at hres
        refine lv_iload hx hb dX1_joinByLaw_28 (lv_at hl 6 rfl) ?_
        refine lv_iload hx hb dX1_joinByLaw_30 (lv_at hl 5 rfl) ?_
        refine wi_icmp_gt (tgt := 71) hx hb (by first | assumption | (unfold iR; omega) | exact kR01 (by assumption)) (by first | assumption | (unfold iR; omega) | exact kR01 (by assumption)) dX1_joinByLaw_32 (by decide) (fun c_32 => ?_) (fun c_32 => ?_)
        · skip
          rw [if_pos c_32] at hres
          exact W.vret hx hb hr (fun t ht hW => ⟨⟨y, rfl, (by have h9 := congrArg (fun z : Int × KS => z.2) hres; exact h9), by rw [ht]; exact hP, va_K.moved hW.alike hK, hD⟩, hS.F ht⟩) hS.2.2 dX1_joinByLaw_71
        · skip
          rw [if_neg c_32] at hres
          refine lv_iconst (v := iI (0 : Int)) hx hb dX1_joinByLaw_35 (by decide) ?_
          refine lv_istore (lv' := [(7, .int (iI ((0 : Int)))), (0, .ref (ad (56))), (1, .ref (ad (w1))), (2, .ref (ad (w2))), (3, .ref (ad (1))), (4, .int (iI (m0))), (5, .int (iI (v))), (6, .int (iI (b)))]) hx hb dX1_joinByLaw_36 hl (by decide) rfl (fun ls hl => ?_)
          exact ih.2 (y) (v) (b) ((0 : Int)) (sm) (jy) (vv) (b0) (by omega) (by omega) (by omega) (by omega) hres _ _ ls hP hD hS (lv_sub hl [1, 2, 3, 4, 5, 6, 7, 0] rfl)
      · intro y v b a sm jy vv b0 b1 a0 a1 fu hres H locs ls hP hD hS hl
        rw [F_j_joinByLaw_e1] at hres
        obtain ⟨q1, q2⟩ := ks57 sm
        refine lv_iload hx hb dX1_joinByLaw_38 (lv_at hl 7 rfl) ?_
        refine lv_iload hx hb dX1_joinByLaw_40 (lv_at hl 6 rfl) ?_
        refine wi_iadd hx hb dX1_joinByLaw_42 ?_
        refine lv_iload hx hb dX1_joinByLaw_43 (lv_at hl 5 rfl) ?_
        refine wi_icmp_gt (tgt := 65) hx hb (by first | assumption | (unfold iR; omega) | exact kR01 (by assumption)) (by first | assumption | (unfold iR; omega) | exact kR01 (by assumption)) dX1_joinByLaw_45 (by decide) (fun c_45 => ?_) (fun c_45 => ?_)
        · skip
          rw [if_pos c_45] at hres
          refine lv_iinc (v := iI ((b) + (1 : Int))) (lv' := [(6, .int (iI ((b) + (1 : Int)))), (0, .ref (ad (56))), (1, .ref (ad (w1))), (2, .ref (ad (w2))), (3, .ref (ad (1))), (4, .int (iI (m0))), (5, .int (iI (v))), (7, .int (iI (a)))]) hx hb dX1_joinByLaw_65 hl (k := 6) rfl (iI_add _ _) (by decide) rfl (fun ls hl => ?_)
          refine lv_goto (tgt := 28) hx hb dX1_joinByLaw_68 (by decide) ?_
          exact ih.1 (y) (v) ((b) + (1 : Int)) (sm) (jy) (vv) (by omega) (by omega) (by omega) hres _ _ ls hP hD hS (lv_sub hl [1, 2, 3, 4, 5, 6, 0] rfl)
        · skip
          rw [if_neg c_45] at hres
          refine lv_aload_n hx hb dX1_joinByLaw_48 rfl (lv_at hl 0 rfl) ?_
          refine lv_aload_n hx hb dX1_joinByLaw_49 rfl (lv_at hl 1 rfl) ?_
          refine lv_aload_n hx hb dX1_joinByLaw_50 rfl (lv_at hl 2 rfl) ?_
          refine lv_aload_n hx hb dX1_joinByLaw_51 rfl (lv_at hl 3 rfl) ?_
          refine lv_iload hx hb dX1_joinByLaw_52 (lv_at hl 7 rfl) ?_
          refine lv_iload hx hb dX1_joinByLaw_54 (lv_at hl 6 rfl) ?_
          have hFc : ∀ q, va_A (kWd cI cJ cZ cR wl ad M (y)) H.size q → A q := fun q hq => Or.elim hq (fun ⟨k, e, hk⟩ => hD.2 k (q, e) hk) (fun hk => hA q (Nat.le_trans hS.1 hk))
          refine va_callv (va_runV (b := ad (56)) (As := [.ref (ad (w1)), .ref (ad (w2)), .ref (ad (1)), .int (iI (a)), .int (iI (b))]) (rest := []) ⟨hx, hb, hml, hown, hts⟩ (c_j_joinBetween l dC dI ad cI cJ cZ cR M wl H.size (y) (w1) (w2) (a) (b) hM hw_w1 (by omega) hw_w2 (by omega) (scX_same (congrFun q1 1) (q2 2 (by decide)) (q2 3 (by decide)) sx) jy (by rw [q1]; exact wa0) (by rw [q1]; exact wa1) (wLt_same (by rw [q1]) (by rw [q1]) (q2 _ (kR_ne hw_w1 rfl)) wal) (by rw [q1]; exact wb0) (by rw [q1]; exact wb1) (wLt_same (by rw [q1]) (by rw [q1]) (q2 _ (kR_ne hw_w2 rfl)) wbl) a0 b0 (by rw [q1]; omega) (by rw [q1]; omega)) (cwV 5 hts gX1_joinByLaw_X1_joinBetween rfl rfl rfl (by decide +kernel) ⟨Nat.le_of_ble_eq_true rfl, Nat.le_of_ble_eq_true rfl⟩) ⟨fun a U g mk q => by obtain ⟨q0, q1, qP, qK, qD, qN⟩ := q; exact ⟨q0, q1, qP, va_K.moved (u := U) (U := U.calling g mk a) (Vm.Alike.refl U.vm) qK, qD, kNw.same (u := U) (U := U.calling g mk a) rfl qN⟩, va_recv hK hP (ci := 1) (q0 := 56) rfl (kg56 (by omega)), fun U hU hW => ⟨rfl, by rw [hU], by rw [hU]; exact hP, va_K.moved hW.alike hK, hD.weaken (fun _ _ _ _ => trivial), kNw.warm hW hNw⟩⟩ rfl rfl hl.1 rfl (lv_room (Nat.le_of_ble_eq_true rfl)) dX1_joinByLaw_56 ⟨Nat.le_of_ble_eq_true rfl, Nat.le_of_ble_eq_true rfl⟩) hS (fun q _ h => hFc q h) hFc (fun u9 t H1 locs ht hvm hw hB hz1 hk1 hS => ?_)
          obtain ⟨hP1, hK1, hD1⟩ := hB
          rw [ht] at hP1
          rw [hw] at hP1 hD1
          have hD2 := hD1.weaken (B := A) (fun _ q _ h => hFc q.1 h)
          have hP := hP1
          have hD := hD2
          generalize H1 = H at hP hS ⊢
          refine lv_iinc (v := iI ((a) + (1 : Int))) (lv' := [(7, .int (iI ((a) + (1 : Int)))), (0, .ref (ad (56))), (1, .ref (ad (w1))), (2, .ref (ad (w2))), (3, .ref (ad (1))), (4, .int (iI (m0))), (5, .int (iI (v))), (6, .int (iI (b)))]) hx hb dX1_joinByLaw_59 hl (k := 7) rfl (iI_add _ _) (by decide) rfl (fun ls hl => ?_)
          refine lv_goto (tgt := 38) hx hb dX1_joinByLaw_62 (by decide) ?_
          exact ih.2 ((F_j_joinBetween (y) (w1) (w2) (a) (b)).2) (v) (b) ((a) + (1 : Int)) ((km_tr sm (F_j_joinBetween_fr _ _ _ _ _))) ((F_j_joinBetween_ok jy)) (vv) (b0) (by omega) (by omega) (by omega) (by omega) hres _ _ ls hP hD hS (lv_sub hl [1, 2, 3, 4, 5, 6, 7, 0] rfl)
  have key : ∀ (H : Heap) (locs : List Loc), va_P (dC, dI) vwCl (kWd cI cJ cZ cR wl ad M (x)) H → va_S A s.heap H locs → W p l e (headSpec wsX1_joinByLaw ({ frames := 3, cells := 0, slots := 0, locals := 80 })).room s m ([.ref (ad 56), .ref (ad w1), .ref (ad w2), .ref (ad 1), .int (iI m0)] : List Value).toArray below meth c H locs 0 0 (MQ below (va_Qv (fun u : KS => u = (F_j_joinByLaw x w1 w2 m0).2) (kAt dC dI ad cI cJ cZ cR M wl A) A) ([.ref (ad 56), .ref (ad w1), .ref (ad w2), .ref (ad 1), .int (iI m0)] : List Value).toArray s 0 0 A) (F0 m 0 ls []) := by
    intro H locs hP hS
    have hres : (if ((F_w_isSame (x) (w1) (w2)).1) = (0) then F_j_joinByLaw_s w1 w2 2000 0 (x) (m0) ((m0) - (max ((x).1 (w1) 1) ((x).1 (w2) 1))) ((0 : Int)) (0) else (0, x)) = F_j_joinByLaw x w1 w2 m0 := rfl
    refine lv_iload hx hb dX1_joinByLaw_0 (lv_at hl 4 rfl) ?_
    refine lv_aload_n hx hb dX1_joinByLaw_2 rfl (lv_at hl 1 rfl) ?_
    refine va_get (D := (dC, dI)) (ci := 10) (v := .int (iI ((x).1 (w1) 1))) (C := RX10) (T := TX10) (N := 2) hx hb hts hinX10 hown hK hP (w1) (kgw hw_w1 (by omega)) rfl 1 (by decide) (hts (.fieldLink RX1 25 "LikeWords$Word" "used" "I") (by decide +kernel)) (fun _ h9 => h9) rfl dX1_joinByLaw_3 ?_
    refine lv_aload_n hx hb dX1_joinByLaw_6 rfl (lv_at hl 2 rfl) ?_
    refine va_get (D := (dC, dI)) (ci := 10) (v := .int (iI ((x).1 (w2) 1))) (C := RX10) (T := TX10) (N := 2) hx hb hts hinX10 hown hK hP (w2) (kgw hw_w2 (by omega)) rfl 1 (by decide) (hts (.fieldLink RX1 25 "LikeWords$Word" "used" "I") (by decide +kernel)) (fun _ h9 => h9) rfl dX1_joinByLaw_7 ?_
    refine va_mmax hx hb (by rw [hml]; exact hl.1.symm) hown (hts (.methodLink RX1 30 Lib.Math.max.name) (by decide +kernel)) (hts (.static Lib.Math.max.name) (by decide +kernel)) (hts (.initialized "java/lang/Math") (by decide +kernel)) (hts (.code Lib.Math.max.name Lib.Math.max.code 2 (some .int)) (by decide +kernel)) (Nat.le_of_ble_eq_true rfl) (Nat.le_of_ble_eq_true rfl) (Nat.le_of_ble_eq_true rfl) (Nat.le_of_ble_eq_true rfl) dX1_joinByLaw_10 ?_
    rw [iI_max (by first | assumption | (unfold iR; omega) | exact kR01 (by assumption)) (by first | assumption | (unfold iR; omega) | exact kR01 (by assumption))]
    refine wi_isub hx hb dX1_joinByLaw_13 ?_
    refine lv_istore (lv' := [(5, .int (iI ((m0) - (max ((x).1 (w1) 1) ((x).1 (w2) 1))))), (0, .ref (ad (56))), (1, .ref (ad (w1))), (2, .ref (ad (w2))), (3, .ref (ad (1))), (4, .int (iI (m0)))]) hx hb dX1_joinByLaw_14 hl (by decide) rfl (fun ls hl => ?_)
    refine lv_aload_n hx hb dX1_joinByLaw_16 rfl (lv_at hl 2 rfl) ?_
    refine lv_aload_n hx hb dX1_joinByLaw_17 rfl (lv_at hl 3 rfl) ?_
    have hFc : ∀ q, va_A (kWd cI cJ cZ cR wl ad M (x)) H.size q → A q := fun q hq => Or.elim hq (fun ⟨k, e, hk⟩ => hD.2 k (q, e) hk) (fun hk => hA q (Nat.le_trans hS.1 hk))
    refine va_calli (va_runV (b := ad (w1)) (As := [.ref (ad (w2))]) (rest := []) ⟨hx, hb, hml, hown, hts⟩ (c_w_isSame l dC dI ad cI cJ cZ cR M wl H.size (x) (w1) (w2)  hM hw_w1 (by omega) hw_w2 (by omega) wa0 wa1 wb0 wb1 ra rb) (cwV 1 hts gX1_joinByLaw_X10_isSame rfl rfl rfl (by decide +kernel) ⟨Nat.le_of_ble_eq_true rfl, Nat.le_of_ble_eq_true rfl⟩) ⟨fun a U g mk q => by obtain ⟨q0, q1, qP, qK, qD, qN⟩ := q; exact ⟨q0, q1, qP, va_K.moved (u := U) (U := U.calling g mk a) (Vm.Alike.refl U.vm) qK, qD, kNw.same (u := U) (U := U.calling g mk a) rfl qN⟩, va_recv hK hP (ci := 10) (q0 := w1) rfl (kgw hw_w1 (by omega)), fun U hU hW => ⟨rfl, by rw [hU], by rw [hU]; exact hP, va_K.moved hW.alike hK, hD.weaken (fun _ _ _ _ => trivial), kNw.warm hW hNw⟩⟩ rfl rfl hl.1 rfl (lv_room (Nat.le_of_ble_eq_true rfl)) dX1_joinByLaw_18 ⟨Nat.le_of_ble_eq_true rfl, Nat.le_of_ble_eq_true rfl⟩) hS (fun q _ h => hFc q h) hFc (fun r9 u9 t H1 locs ht hvm hw hB hz1 hk1 hS => ?_)
    obtain ⟨hP1, hK1, hD1⟩ := hB
    rw [ht] at hP1
    obtain ⟨hw1, hw2⟩ := hw
    rw [hw2] at hP1 hD1
    rw [hw1]
    rw [F_w_isSame_2] at hP1 hD1
    have hD2 := hD1.weaken (B := A) (fun _ q _ h => hFc q.1 h)
    have hP := hP1
    have hD := hD2
    generalize H1 = H at hP hS ⊢
    refine wi_if_eq (tgt := 25) hx hb (kR01 (F_w_isSame_01 _ _ _)) dX1_joinByLaw_21 (by decide) (fun c_21 => ?_) (fun c_21 => ?_)
    · skip
      rw [if_pos c_21] at hres
      refine lv_iconst (v := iI (0 : Int)) hx hb dX1_joinByLaw_25 (by decide) ?_
      refine lv_istore (lv' := [(6, .int (iI ((0 : Int)))), (5, .int (iI ((m0) - (max ((x).1 (w1) 1) ((x).1 (w2) 1))))), (0, .ref (ad (56))), (1, .ref (ad (w1))), (2, .ref (ad (w2))), (3, .ref (ad (1))), (4, .int (iI (m0)))]) hx hb dX1_joinByLaw_26 hl (by decide) rfl (fun ls hl => ?_)
      exact (L (2000)).1 (x) ((m0) - (max ((x).1 (w1) 1) ((x).1 (w2) 1))) ((0 : Int)) (km_rf _ _ _) (jr) (rfl) (by omega) (by omega) (by omega) hres _ _ ls hP hD hS (lv_sub hl [2, 3, 4, 5, 6, 1, 0] rfl)
    · skip
      rw [if_neg c_21] at hres
      exact W.vret hx hb hr (fun t ht hW => ⟨⟨x, rfl, (by have h9 := congrArg (fun z : Int × KS => z.2) hres; exact h9), by rw [ht]; exact hP, va_K.moved hW.alike hK, hD⟩, hS.F ht⟩) hS.2.2 dX1_joinByLaw_24
  exact key _ _ hP hS
theorem F_j_joinByLaw_sfr (w1 : Nat) (w2 : Nat) : ∀ n : Nat, (∀ (y : KS) (v0 : Int) (v1 : Int) (v2 : Int) (v3 : Int), ksame [] [57] y (F_j_joinByLaw_s w1 w2 n 0 y v0 v1 v2 v3).2) ∧ (∀ (y : KS) (v0 : Int) (v1 : Int) (v2 : Int) (v3 : Int), ksame [] [57] y (F_j_joinByLaw_s w1 w2 n 1 y v0 v1 v2 v3).2) := by
  intro n
  induction n with
  | zero => exact ⟨fun y _ _ _ _ => km_rf _ _ _, fun y _ _ _ _ => km_rf _ _ _⟩
  | succ n ih =>
    refine ⟨?_, ?_⟩
    · intro y m0 v b q0
      rw [F_j_joinByLaw_e0]
      by_cases hc : (v) < (b)
      · rw [if_pos hc]
        exact (km_rf _ _ _)
      · rw [if_neg hc]
        exact km_tr ((km_rf _ _ _)) (ih.2 (y) (m0) (v) (b) ((0 : Int)))
    · intro y m0 v b a
      rw [F_j_joinByLaw_e1]
      by_cases hc : (v) < ((a) + (b))
      · rw [if_pos hc]
        exact km_tr ((km_rf _ _ _)) (ih.1 (y) (m0) (v) ((b) + (1 : Int)) (0))
      · rw [if_neg hc]
        exact km_tr ((km_tr (km_rf _ _ _) (km_mono km0 (km1 (List.Mem.head _) km0) (F_j_joinBetween_fr (y) (w1) (w2) (a) (b))))) (ih.2 ((F_j_joinBetween (y) (w1) (w2) (a) (b)).2) (m0) (v) (b) ((a) + (1 : Int)))
theorem F_j_joinByLaw_fr (x : KS) (w1 : Nat) (w2 : Nat) (m0 : Int) : ksame [] [57] x (F_j_joinByLaw x w1 w2 m0).2 := by
  unfold F_j_joinByLaw
  by_cases hc : ((F_w_isSame (x) (w1) (w2)).1) = (0)
  · rw [if_pos hc]
    exact km_tr ((km_rf _ _ _)) ((F_j_joinByLaw_sfr w1 w2 (2000)).1 (x) (m0) ((m0) - (max ((x).1 (w1) 1) ((x).1 (w2) 1))) ((0 : Int)) (0))
  · rw [if_neg hc]
    exact (km_rf _ _ _)
theorem F_j_joinByLaw_q (x : KS) (w1 : Nat) (w2 : Nat) (m0 : Int) (hw_w1 : kW w1 = true) (hw_w2 : kW w2 = true) : kq [] [57] x (F_j_joinByLaw x w1 w2 m0).2 := kq_of (F_j_joinByLaw_fr x w1 w2 m0) kq_m (kq_c (Or.inr (by decide)) kq_n)
theorem F_j_joinByLaw_s_ok (w1 w2 : Nat) : ∀ n : Nat, (∀ (y : KS) (a b c : Int), jnR y → jnR (F_j_joinByLaw_s w1 w2 n 0 y a b c 0).2) ∧ (∀ (y : KS) (a b c d : Int), jnR y → jnR (F_j_joinByLaw_s w1 w2 n 1 y a b c d).2) := by
  intro n
  induction n with
  | zero => exact ⟨fun _ _ _ _ hj => hj, fun _ _ _ _ _ hj => hj⟩
  | succ n ih =>
    refine ⟨?_, ?_⟩
    · intro y a b c hj
      rw [F_j_joinByLaw_e0]
      split
      · exact hj
      · exact ih.2 _ _ _ _ _ hj
    · intro y a b c d hj
      rw [F_j_joinByLaw_e1]
      split
      · exact ih.1 _ _ _ _ hj
      · exact ih.2 _ _ _ _ _ (F_j_joinBetween_ok hj)
theorem F_j_joinByLaw_ok {x : KS} {w1 w2 : Nat} {m0 : Int} (hj : jnR x) : jnR (F_j_joinByLaw x w1 w2 m0).2 := by
  unfold F_j_joinByLaw
  split
  · exact (F_j_joinByLaw_s_ok w1 w2 _).1 _ _ _ _ hj
  · exact hj
