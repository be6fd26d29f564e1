-- deps: 30 31
/-- the row of powers and of firsts: small numbers -/
def scR (x : KS) : Prop := (1 ≤ x.1 1 2 ∧ x.1 1 2 ≤ 4) ∧ (0 ≤ x.1 1 3 ∧ x.1 1 3 ≤ 20) ∧ (∀ k : Nat, k < 21 → 0 ≤ x.2 2 k ∧ x.2 2 k ≤ 10000) ∧ (∀ k : Nat, k < 22 → 0 ≤ x.2 3 k ∧ x.2 3 k ≤ 10000) ∧ x.2 3 0 = 0
theorem kmod_R {a b : Int} (h : 1 ≤ b) (h4 : b ≤ 4) : iR (a % b) := by
  have h1 := Int.emod_nonneg a (show b ≠ 0 by omega)
  have h2 := Int.emod_lt_of_pos a (show 0 < b by omega)
  unfold iR; omega
theorem kdiv_b {a b : Int} (h : 1 ≤ b) (h0 : 0 ≤ a) : 0 ≤ a / b ∧ a / b ≤ a := ⟨Int.ediv_nonneg h0 (by omega), Int.ediv_le_self _ h0⟩
def F_s_setLetters_s  : Nat → Nat → KS → Int → Int → Int → Int → Int × KS
  | 0, _, x, _, _, _, _ => (0, x)
  | n + 1, t, x, p0, p1, p2, p3 => match t with
    | 0 => (fun (n0 : Int) (b : Int) (q : Int) (k : Int) => (if ((20 : Int)) < (k) then (0, x) else (if ((10000 : Int)) < ((b) + (q)) then (0, x) else F_s_setLetters_s n 0 (kA (kS (kA (kA (x) (2) (k).toNat (q)) (3) (k).toNat (b)) (1) 3 (k)) (3) ((k) + ((1 : Int))).toNat ((b) + (q))) (n0) ((b) + (q)) ((q) * ((x).1 (1) 2)) ((k) + (1 : Int))))) p0 p1 p2 p3
    | _ => (0, x)
theorem F_s_setLetters_e0  (n : Nat) (x : KS) (n0 : Int) (b : Int) (q : Int) (k : Int) : F_s_setLetters_s (n + 1) 0 x n0 b q k = (if ((20 : Int)) < (k) then (0, x) else (if ((10000 : Int)) < ((b) + (q)) then (0, x) else F_s_setLetters_s n 0 (kA (kS (kA (kA (x) (2) (k).toNat (q)) (3) (k).toNat (b)) (1) 3 (k)) (3) ((k) + ((1 : Int))).toNat ((b) + (q))) (n0) ((b) + (q)) ((q) * ((x).1 (1) 2)) ((k) + (1 : Int)))) := rfl
def F_s_setLetters (x : KS) (n0 : Int) : Int × KS := F_s_setLetters_s 30 0 (kS (x) (1) 2 (max (n0) ((1 : Int)))) (n0) ((0 : Int)) ((1 : Int)) ((0 : Int))
set_option maxHeartbeats 4000000 in
set_option maxRecDepth 100000 in
/-- LikeWords$Scale, setLetters -/
theorem c_s_setLetters (l : Launch) (dC : Nat → ClassId) (dI : Nat → Nat → Nat) (ad : Nat → Nat) (cI cJ cZ cR : ClassId) (M wl sz : Nat) (x : KS) (n0 : Int) (hM : 87 ≤ M) (n1 : 1 ≤ n0) (n4 : n0 ≤ 4) : Met l yX8_setLetters wsX8_setLetters ({ frames := 1, cells := 0, slots := 0, locals := 21 }) (kPc dC dI ad cI cJ cZ cR M wl sz x [.ref (ad 1), .int (iI n0)]) (va_Qv (fun u : KS => u = (F_s_setLetters x n0).2) (kAt dC dI ad cI cJ cZ cR M wl (va_A (kWd cI cJ cZ cR wl ad M (x)) sz)) (va_A (kWd cI cJ cZ cR wl ad M (x)) sz)) 0 0 (va_A (kWd cI cJ cZ cR wl ad M (x)) sz) := by
  refine Met.ofW (cc := cX8_setLetters) (maxL := 5) (ret := none) (by decide) rfl ?_
  intro p e s m args below meth c s₁ B hml hv
  obtain ⟨rfl, hsz, hP, hK, hD0, hNw⟩ := hv
  have hx := B.exec
  have hb := B.bytes
  have hr := B.returns
  have hts := atoms_spec (ws := wsX8_setLetters) B.pre
  have hown : s.vm.findClass RX8 = some m.cls := findClass_of_methodNamed B.named
  have hlocks := B.notSynchronized
  have hinX8 : ∀ w ∈ u_ws RX8 TX8 4, w ∈ wsX8_setLetters := by decide +kernel
  subst hsz
  have hD := hD0.self (sz := s.heap.size)
  generalize hAe : va_A (kWd cI cJ cZ cR wl ad M (x)) s.heap.size = A at hD ⊢
  have hA : ∀ q : Nat, s.heap.size ≤ q → A q := fun q h => by rw [← hAe]; exact Or.inr h
  have hS : va_S A s.heap s.heap [] := va_S.rf
  have hl := lv_entry ([.ref (ad 1), .int (iI n0)]) (n := 5) (Nat.le_of_ble_eq_true rfl)
  rw [lg_entry_eq]
  generalize (lg_sl ([.ref (ad 1), .int (iI n0)]) ++ List.replicate (5 - (lg_sl ([.ref (ad 1), .int (iI n0)])).length) Slot.unset).toArray = ls at hl ⊢
  have hl : lv_has ls 5 [(0, .ref (ad (1))), (1, .int (iI (n0)))] := hl
  have L : ∀ n : Nat, (∀ (y : KS) (b : Int) (q : Int) (k : Int), (0 ≤ k) → (k ≤ 21) → (0 ≤ b) → (b ≤ 10000) → (1 ≤ q) → (q ≤ 40000) → (y.1 1 2 = n0) → (21 - k < n) → F_s_setLetters_s n 0 y n0 b q k = F_s_setLetters x n0 → ∀ (H : Heap) (locs : List Loc) (ls : Array Slot), va_P (dC, dI) vwCl (kWd cI cJ cZ cR wl ad M (y)) H → va_D A (kWd cI cJ cZ cR wl ad M (y)) → va_S A s.heap H locs → lv_has ls 5 [(0, .ref (ad (1))), (1, .int (iI (n0))), (2, .int (iI (b))), (3, .int (iI (q))), (4, .int (iI (k)))] → W p l e (headSpec wsX8_setLetters ({ frames := 1, cells := 0, slots := 0, locals := 21 })).room s m ([.ref (ad 1), .int (iI n0)] : List Value).toArray below meth c H locs 0 0 (MQ below (va_Qv (fun u : KS => u = (F_s_setLetters x n0).2) (kAt dC dI ad cI cJ cZ cR M wl A) A) ([.ref (ad 1), .int (iI n0)] : List Value).toArray s 0 0 A) (F0 m 16 ls [])) := by
    intro n
    induction n with
    | zero =>
      skip
      · intro y b q k k0 k1 b0 b1 q0 q1 ly fu hres
        exact absurd fu (by omega)
    | succ n ih =>
      skip
      · intro y b q k k0 k1 b0 b1 q0 q1 ly fu hres H locs ls hP hD hS hl
        rw [F_s_setLetters_e0] at hres
        have m1 : q * 1 ≤ q * y.1 1 2 := Int.mul_le_mul_of_nonneg_left (by omega) (by omega)
        have m2 : q * y.1 1 2 ≤ q * 4 := Int.mul_le_mul_of_nonneg_left (by omega) (by omega)
        refine lv_iload hx hb dX8_setLetters_16 (lv_at hl 4 rfl) ?_
        refine lv_bipush (v := iI (20 : Int)) hx hb dX8_setLetters_18 (by decide) ?_
        refine wi_icmp_gt (tgt := 81) hx hb (by first | assumption | (unfold iR; omega) | exact kR01 (by assumption)) ⟨by decide, by decide⟩ dX8_setLetters_20 (by decide) (fun c_20 => ?_) (fun c_20 => ?_)
        · skip
          rw [if_pos c_20] at hres
          exact W.vret hx hb hr (fun t ht hW => ⟨⟨y, rfl, (by have h9 := congrArg (fun z : Int × KS => z.2) hres; exact h9), by rw [ht]; exact hP, va_K.moved hW.alike hK, hD⟩, hS.F ht⟩) hS.2.2 dX8_setLetters_81
        · skip
          rw [if_neg c_20] at hres
          refine lv_iload_n hx hb dX8_setLetters_23 rfl (lv_at hl 2 rfl) ?_
          refine lv_iload_n hx hb dX8_setLetters_24 rfl (lv_at hl 3 rfl) ?_
          refine wi_iadd hx hb dX8_setLetters_25 ?_
          refine lv_sipush (v := iI (10000 : Int)) hx hb dX8_setLetters_26 (by decide) ?_
          refine wi_icmp_gt (tgt := 81) hx hb (by first | assumption | (unfold iR; omega) | exact kR01 (by assumption)) ⟨by decide, by decide⟩ dX8_setLetters_29 (by decide) (fun c_29 => ?_) (fun c_29 => ?_)
          · skip
            rw [if_pos c_29] at hres
            exact W.vret hx hb hr (fun t ht hW => ⟨⟨y, rfl, (by have h9 := congrArg (fun z : Int × KS => z.2) hres; exact h9), by rw [ht]; exact hP, va_K.moved hW.alike hK, hD⟩, hS.F ht⟩) hS.2.2 dX8_setLetters_81
          · skip
            rw [if_neg c_29] at hres
            refine lv_aload_n hx hb dX8_setLetters_32 rfl (lv_at hl 0 rfl) ?_
            refine va_get (D := (dC, dI)) (ci := 8) (v := .ref (ad (2))) (C := RX8) (T := TX8) (N := 4) hx hb hts hinX8 hown hK hP (1) (kg1 (by omega)) rfl 0 (by decide) (hts (.fieldLink RX8 9 "LikeWords$Scale" "powers" "[I") (by decide +kernel)) (fun _ h9 => h9) rfl dX8_setLetters_33 ?_
            refine lv_iload hx hb dX8_setLetters_36 (lv_at hl 4 rfl) ?_
            refine lv_iload_n hx hb dX8_setLetters_38 rfl (lv_at hl 3 rfl) ?_
            refine wi_iast (f := (y).2 (2)) (n := kLen (2)) hx hb hK hP hD hS (2) 0 (kgi kC2 (by omega) rfl) rfl (i := k) (x := q) (by omega) (by show _ < ((21 : Nat) : Int); exact (by omega)) (kLen_lt _) dX8_setLetters_39 (fun H locs hP hD hS => ?_)
            rw [ksi kC2] at hP hD
            refine lv_aload_n hx hb dX8_setLetters_40 rfl (lv_at hl 0 rfl) ?_
            refine va_get (D := (dC, dI)) (ci := 8) (v := .ref (ad (3))) (C := RX8) (T := TX8) (N := 4) hx hb hts hinX8 hown hK hP (1) (kg1 (by omega)) rfl 1 (by decide) (hts (.fieldLink RX8 15 "LikeWords$Scale" "firsts" "[I") (by decide +kernel)) (fun _ h9 => h9) rfl dX8_setLetters_41 ?_
            refine lv_iload hx hb dX8_setLetters_44 (lv_at hl 4 rfl) ?_
            refine lv_iload_n hx hb dX8_setLetters_46 rfl (lv_at hl 2 rfl) ?_
            refine wi_iast (f := (kA (y) (2) (k).toNat (q)).2 (3)) (n := kLen (3)) hx hb hK hP hD hS (3) 0 (kgi kC3 (by omega) rfl) rfl (i := k) (x := b) (by omega) (by show _ < ((22 : Nat) : Int); exact (by omega)) (kLen_lt _) dX8_setLetters_47 (fun H locs hP hD hS => ?_)
            rw [ksi kC3] at hP hD
            refine lv_iload_n hx hb dX8_setLetters_48 rfl (lv_at hl 2 rfl) ?_
            refine lv_iload_n hx hb dX8_setLetters_49 rfl (lv_at hl 3 rfl) ?_
            refine wi_iadd hx hb dX8_setLetters_50 ?_
            refine lv_istore_n (lv' := [(2, .int (iI ((b) + (q)))), (0, .ref (ad (1))), (1, .int (iI (n0))), (3, .int (iI (q))), (4, .int (iI (k)))]) hx hb dX8_setLetters_51 rfl hl (by decide) rfl (fun ls hl => ?_)
            refine lv_iload_n hx hb dX8_setLetters_52 rfl (lv_at hl 3 rfl) ?_
            refine lv_aload_n hx hb dX8_setLetters_53 rfl (lv_at hl 1 rfl) ?_
            refine va_get (D := (dC, dI)) (ci := 8) (v := .int (iI ((y).1 (1) 2))) (C := RX8) (T := TX8) (N := 4) hx hb hts hinX8 hown hK hP (1) (kg1 (by omega)) rfl 2 (by decide) (hts (.fieldLink RX8 28 "LikeWords$Scale" "letterCount" "I") (by decide +kernel)) (fun _ h9 => h9) rfl dX8_setLetters_54 ?_
            refine wi_imul hx hb dX8_setLetters_57 ?_
            refine lv_istore_n (lv' := [(3, .int (iI ((q) * ((y).1 (1) 2)))), (2, .int (iI ((b) + (q)))), (0, .ref (ad (1))), (1, .int (iI (n0))), (4, .int (iI (k)))]) hx hb dX8_setLetters_58 rfl hl (by decide) rfl (fun ls hl => ?_)
            refine lv_aload_n hx hb dX8_setLetters_59 rfl (lv_at hl 2 rfl) ?_
            refine lv_iload hx hb dX8_setLetters_60 (lv_at hl 4 rfl) ?_
            refine va_put (D := (dC, dI)) (ci := 8) (v := .int (iI (k))) (ty := .int) (C := RX8) (T := TX8) (N := 4) hx hb hts hinX8 tyX8 tyX8_ok nmX8 hown hK hP hD hS (1) (kg1 (by omega)) rfl 3 (by decide) (hts (.fieldLink RX8 32 "LikeWords$Scale" "longest" "I") (by decide +kernel)) (fun _ h9 => h9) rfl (by decide +kernel) rfl rfl (Nat.le_of_ble_eq_true rfl) dX8_setLetters_62 (fun H locs hP hD hS => ?_)
            rw [ks1_3] at hP hD
            refine lv_aload_n hx hb dX8_setLetters_65 rfl (lv_at hl 2 rfl) ?_
            refine va_get (D := (dC, dI)) (ci := 8) (v := .ref (ad (3))) (C := RX8) (T := TX8) (N := 4) hx hb hts hinX8 hown hK hP (1) (kg1 (by omega)) rfl 1 (by decide) (hts (.fieldLink RX8 15 "LikeWords$Scale" "firsts" "[I") (by decide +kernel)) (fun _ h9 => h9) rfl dX8_setLetters_66 ?_
            refine lv_iload hx hb dX8_setLetters_69 (lv_at hl 4 rfl) ?_
            refine lv_iconst (v := iI (1 : Int)) hx hb dX8_setLetters_71 (by decide) ?_
            refine wi_iadd hx hb dX8_setLetters_72 ?_
            refine lv_iload_n hx hb dX8_setLetters_73 rfl (lv_at hl 1 rfl) ?_
            refine wi_iast (f := (kS (kA (kA (y) (2) (k).toNat (q)) (3) (k).toNat (b)) (1) 3 (k)).2 (3)) (n := kLen (3)) hx hb hK hP hD hS (3) 0 (kgi kC3 (by omega) rfl) rfl (i := (k) + ((1 : Int))) (x := (b) + (q)) (by omega) (by show _ < ((22 : Nat) : Int); exact (by omega)) (kLen_lt _) dX8_setLetters_74 (fun H locs hP hD hS => ?_)
            rw [ksi kC3] at hP hD
            refine lv_iinc (v := iI ((k) + (1 : Int))) (lv' := [(4, .int (iI ((k) + (1 : Int)))), (3, .int (iI ((q) * ((y).1 (1) 2)))), (2, .int (iI ((b) + (q)))), (0, .ref (ad (1))), (1, .int (iI (n0)))]) hx hb dX8_setLetters_75 hl (k := 4) rfl (iI_add _ _) (by decide) rfl (fun ls hl => ?_)
            refine lv_goto (tgt := 16) hx hb dX8_setLetters_78 (by decide) ?_
            exact ih (kA (kS (kA (kA (y) (2) (k).toNat (q)) (3) (k).toNat (b)) (1) 3 (k)) (3) ((k) + ((1 : Int))).toNat ((b) + (q))) ((b) + (q)) ((q) * ((y).1 (1) 2)) ((k) + (1 : Int)) (by omega) (by omega) (by omega) (by omega) (by omega) (by omega) (ly) (by omega) hres _ _ ls hP hD hS (lv_sub hl [3, 4, 2, 1, 0] rfl)
  have key : ∀ (H : Heap) (locs : List Loc), va_P (dC, dI) vwCl (kWd cI cJ cZ cR wl ad M (x)) H → va_S A s.heap H locs → W p l e (headSpec wsX8_setLetters ({ frames := 1, cells := 0, slots := 0, locals := 21 })).room s m ([.ref (ad 1), .int (iI n0)] : List Value).toArray below meth c H locs 0 0 (MQ below (va_Qv (fun u : KS => u = (F_s_setLetters x n0).2) (kAt dC dI ad cI cJ cZ cR M wl A) A) ([.ref (ad 1), .int (iI n0)] : List Value).toArray s 0 0 A) (F0 m 0 ls []) := by
    intro H locs hP hS
    have hres : F_s_setLetters_s 30 0 (kS (x) (1) 2 (max (n0) ((1 : Int)))) (n0) ((0 : Int)) ((1 : Int)) ((0 : Int)) = F_s_setLetters x n0 := rfl
    refine lv_aload_n hx hb dX8_setLetters_0 rfl (lv_at hl 0 rfl) ?_
    refine lv_iload_n hx hb dX8_setLetters_1 rfl (lv_at hl 1 rfl) ?_
    refine lv_iconst (v := iI (1 : Int)) hx hb dX8_setLetters_2 (by decide) ?_
    refine va_mmax hx hb (by rw [hml]; exact hl.1.symm) hown (hts (.methodLink RX8 22 Lib.Math.max.name) (by decide +kernel)) (hts (.static Lib.Math.max.name) (by decide +kernel)) (hts (.initialized "java/lang/Math") (by decide +kernel)) (hts (.code Lib.Math.max.name Lib.Math.max.code 2 (some .int)) (by decide +kernel)) (Nat.le_of_ble_eq_true rfl) (Nat.le_of_ble_eq_true rfl) (Nat.le_of_ble_eq_true rfl) (Nat.le_of_ble_eq_true rfl) dX8_setLetters_3 ?_
    rw [iI_max (by first | assumption | (unfold iR; omega) | exact kR01 (by assumption)) ⟨by decide, by decide⟩]
    refine va_put (D := (dC, dI)) (ci := 8) (v := .int (iI (max (n0) ((1 : Int))))) (ty := .int) (C := RX8) (T := TX8) (N := 4) hx hb hts hinX8 tyX8 tyX8_ok nmX8 hown hK hP hD hS (1) (kg1 (by omega)) rfl 2 (by decide) (hts (.fieldLink RX8 28 "LikeWords$Scale" "letterCount" "I") (by decide +kernel)) (fun _ h9 => h9) rfl (by decide +kernel) rfl rfl (Nat.le_of_ble_eq_true rfl) dX8_setLetters_6 (fun H locs hP hD hS => ?_)
    rw [ks1_2] at hP hD
    refine lv_iconst (v := iI (0 : Int)) hx hb dX8_setLetters_9 (by decide) ?_
    refine lv_istore_n (lv' := [(2, .int (iI ((0 : Int)))), (0, .ref (ad (1))), (1, .int (iI (n0)))]) hx hb dX8_setLetters_10 rfl hl (by decide) rfl (fun ls hl => ?_)
    refine lv_iconst (v := iI (1 : Int)) hx hb dX8_setLetters_11 (by decide) ?_
    refine lv_istore_n (lv' := [(3, .int (iI ((1 : Int)))), (2, .int (iI ((0 : Int)))), (0, .ref (ad (1))), (1, .int (iI (n0)))]) hx hb dX8_setLetters_12 rfl hl (by decide) rfl (fun ls hl => ?_)
    refine lv_iconst (v := iI (0 : Int)) hx hb dX8_setLetters_13 (by decide) ?_
    refine lv_istore (lv' := [(4, .int (iI ((0 : Int)))), (3, .int (iI ((1 : Int)))), (2, .int (iI ((0 : Int)))), (0, .ref (ad (1))), (1, .int (iI (n0)))]) hx hb dX8_setLetters_14 hl (by decide) rfl (fun ls hl => ?_)
    exact (L (30)) (kS (x) (1) 2 (max (n0) ((1 : Int)))) ((0 : Int)) ((1 : Int)) ((0 : Int)) (by omega) (by omega) (by omega) (by omega) (by omega) (by omega) (by show max n0 1 = n0; omega) (by omega) hres _ _ ls hP hD hS (lv_sub hl [3, 4, 2, 1, 0] rfl)
  exact key _ _ hP hS
theorem F_s_setLetters_sfr  : ∀ n : Nat, (∀ (y : KS) (v0 : Int) (v1 : Int) (v2 : Int) (v3 : Int), ksame [(1, 3), (1, 2)] [2, 3] y (F_s_setLetters_s n 0 y v0 v1 v2 v3).2) := by
  intro n
  induction n with
  | zero => exact fun y _ _ _ _ => km_rf _ _ _
  | succ n ih =>
    skip
    · intro y n0 b q k
      rw [F_s_setLetters_e0]
      by_cases hc : ((20 : Int)) < (k)
      · rw [if_pos hc]
        exact (km_rf _ _ _)
      · rw [if_neg hc]
        by_cases hc : ((10000 : Int)) < ((b) + (q))
        · rw [if_pos hc]
          exact (km_rf _ _ _)
        · rw [if_neg hc]
          exact km_tr ((km_a (List.Mem.tail _ (List.Mem.head _)) (km_s (List.Mem.head _) (km_a (List.Mem.tail _ (List.Mem.head _)) (km_a (List.Mem.head _) (km_rf _ _ _)))))) (ih (kA (kS (kA (kA (y) (2) (k).toNat (q)) (3) (k).toNat (b)) (1) 3 (k)) (3) ((k) + ((1 : Int))).toNat ((b) + (q))) (n0) ((b) + (q)) ((q) * ((y).1 (1) 2)) ((k) + (1 : Int)))
theorem F_s_setLetters_fr (x : KS) (n0 : Int) : ksame [(1, 3), (1, 2)] [2, 3] x (F_s_setLetters x n0).2 := by
  unfold F_s_setLetters
  exact km_tr ((km_s (List.Mem.tail _ (List.Mem.head _)) (km_rf _ _ _))) ((F_s_setLetters_sfr  (30)) (kS (x) (1) 2 (max (n0) ((1 : Int)))) (n0) ((0 : Int)) ((1 : Int)) ((0 : Int)))
theorem F_s_setLetters_q (x : KS) (n0 : Int)  : kq [1] [2, 3] x (F_s_setLetters x n0).2 := kq_of (F_s_setLetters_fr x n0) (kq_c (Or.inr (by decide)) (kq_c (Or.inr (by decide)) kq_m)) (kq_c (Or.inr (by decide)) (kq_c (Or.inr (by decide)) kq_n))
def F_s_powerOf (x : KS) (k : Int) : Int × KS := (if (k) < (0) then ((1 : Int), x) else (if ((x).1 (1) 3) < (k) then ((1 : Int), x) else (((x).2 (2)) (k).toNat, x)))
set_option maxHeartbeats 4000000 in
set_option maxRecDepth 100000 in
/-- LikeWords$Scale, powerOf -/
theorem c_s_powerOf (l : Launch) (dC : Nat → ClassId) (dI : Nat → Nat → Nat) (ad : Nat → Nat) (cI cJ cZ cR : ClassId) (M wl sz : Nat) (x : KS) (k : Int) (hM : 87 ≤ M) (sc : scR x) (rk : iR k) : Met l yX8_powerOf wsX8_powerOf ({ frames := 0, cells := 0, slots := 0, locals := 0 }) (kPc dC dI ad cI cJ cZ cR M wl sz x [.ref (ad 1), .int (iI k)]) (va_Qi (fun (r : Int32) (u : KS) => r = iI (F_s_powerOf x k).1 ∧ u = (F_s_powerOf x k).2) (kAt dC dI ad cI cJ cZ cR M wl (va_A (kWd cI cJ cZ cR wl ad M (x)) sz)) (va_A (kWd cI cJ cZ cR wl ad M (x)) sz)) 0 0 (va_A (kWd cI cJ cZ cR wl ad M (x)) sz) := by
  refine Met.ofW (cc := cX8_powerOf) (maxL := 2) (ret := (some .int)) (by decide) rfl ?_
  intro p e s m args below meth c s₁ B hml hv
  obtain ⟨rfl, hsz, hP, hK, hD0, hNw⟩ := hv
  have hx := B.exec
  have hb := B.bytes
  have hr := B.returns
  have hts := atoms_spec (ws := wsX8_powerOf) B.pre
  have hown : s.vm.findClass RX8 = some m.cls := findClass_of_methodNamed B.named
  have hlocks := B.notSynchronized
  have hinX8 : ∀ w ∈ u_ws RX8 TX8 4, w ∈ wsX8_powerOf := by decide +kernel
  subst hsz
  have hD := hD0.self (sz := s.heap.size)
  generalize hAe : va_A (kWd cI cJ cZ cR wl ad M (x)) s.heap.size = A at hD ⊢
  have hA : ∀ q : Nat, s.heap.size ≤ q → A q := fun q h => by rw [← hAe]; exact Or.inr h
  have hS : va_S A s.heap s.heap [] := va_S.rf
  have hl := lv_entry ([.ref (ad 1), .int (iI k)]) (n := 2) (Nat.le_of_ble_eq_true rfl)
  rw [lg_entry_eq]
  generalize (lg_sl ([.ref (ad 1), .int (iI k)]) ++ List.replicate (2 - (lg_sl ([.ref (ad 1), .int (iI k)])).length) Slot.unset).toArray = ls at hl ⊢
  have hl : lv_has ls 2 [(0, .ref (ad (1))), (1, .int (iI (k)))] := hl
  obtain ⟨⟨l0, l1⟩, ⟨g0, g1⟩, pw, fi, f00⟩ := sc
  have key : ∀ (H : Heap) (locs : List Loc), va_P (dC, dI) vwCl (kWd cI cJ cZ cR wl ad M (x)) H → va_S A s.heap H locs → W p l e (headSpec wsX8_powerOf ({ frames := 0, cells := 0, slots := 0, locals := 0 })).room s m ([.ref (ad 1), .int (iI k)] : List Value).toArray below meth c H locs 0 0 (MQ below (va_Qi (fun (r : Int32) (u : KS) => r = iI (F_s_powerOf x k).1 ∧ u = (F_s_powerOf x k).2) (kAt dC dI ad cI cJ cZ cR M wl A) A) ([.ref (ad 1), .int (iI k)] : List Value).toArray s 0 0 A) (F0 m 0 ls []) := by
    intro H locs hP hS
    have hres : (if (k) < (0) then ((1 : Int), x) else (if ((x).1 (1) 3) < (k) then ((1 : Int), x) else (((x).2 (2)) (k).toNat, x))) = F_s_powerOf x k := rfl
    refine lv_iload_n hx hb dX8_powerOf_0 rfl (lv_at hl 1 rfl) ?_
    refine wi_if_lt (tgt := 21) hx hb (by first | assumption | (unfold iR; omega) | exact kR01 (by assumption)) dX8_powerOf_1 (by decide) (fun c_1 => ?_) (fun c_1 => ?_)
    · skip
      rw [if_pos c_1] at hres
      refine lv_iconst (v := iI (1 : Int)) hx hb dX8_powerOf_21 (by decide) ?_
      exact W.iret (v := iI ((1 : Int))) hx hb hr (fun t ht hW => ⟨⟨iI ((1 : Int)), x, rfl, ⟨(by have h9 := congrArg (fun z : Int × KS => iI z.1) hres; exact h9), (by have h9 := congrArg (fun z : Int × KS => z.2) hres; exact h9)⟩, by rw [ht]; exact hP, va_K.moved hW.alike hK, hD⟩, hS.F ht⟩) hS.2.2 dX8_powerOf_22
    · skip
      rw [if_neg c_1] at hres
      refine lv_iload_n hx hb dX8_powerOf_4 rfl (lv_at hl 1 rfl) ?_
      refine lv_aload_n hx hb dX8_powerOf_5 rfl (lv_at hl 0 rfl) ?_
      refine va_get (D := (dC, dI)) (ci := 8) (v := .int (iI ((x).1 (1) 3))) (C := RX8) (T := TX8) (N := 4) hx hb hts hinX8 hown hK hP (1) (kg1 (by omega)) rfl 3 (by decide) (hts (.fieldLink RX8 32 "LikeWords$Scale" "longest" "I") (by decide +kernel)) (fun _ h9 => h9) rfl dX8_powerOf_6 ?_
      refine wi_icmp_gt (tgt := 21) hx hb (by first | assumption | (unfold iR; omega) | exact kR01 (by assumption)) (by first | assumption | (unfold iR; omega) | exact kR01 (by assumption)) dX8_powerOf_9 (by decide) (fun c_9 => ?_) (fun c_9 => ?_)
      · skip
        rw [if_pos c_9] at hres
        refine lv_iconst (v := iI (1 : Int)) hx hb dX8_powerOf_21 (by decide) ?_
        exact W.iret (v := iI ((1 : Int))) hx hb hr (fun t ht hW => ⟨⟨iI ((1 : Int)), x, rfl, ⟨(by have h9 := congrArg (fun z : Int × KS => iI z.1) hres; exact h9), (by have h9 := congrArg (fun z : Int × KS => z.2) hres; exact h9)⟩, by rw [ht]; exact hP, va_K.moved hW.alike hK, hD⟩, hS.F ht⟩) hS.2.2 dX8_powerOf_22
      · skip
        rw [if_neg c_9] at hres
        refine lv_aload_n hx hb dX8_powerOf_12 rfl (lv_at hl 0 rfl) ?_
        refine va_get (D := (dC, dI)) (ci := 8) (v := .ref (ad (2))) (C := RX8) (T := TX8) (N := 4) hx hb hts hinX8 hown hK hP (1) (kg1 (by omega)) rfl 0 (by decide) (hts (.fieldLink RX8 9 "LikeWords$Scale" "powers" "[I") (by decide +kernel)) (fun _ h9 => h9) rfl dX8_powerOf_13 ?_
        refine lv_iload_n hx hb dX8_powerOf_16 rfl (lv_at hl 1 rfl) ?_
        refine wi_iald (f := (x).2 (2)) (n := kLen (2)) hx hb hK hP (2) 0 (kgi kC2 (by omega) rfl) rfl (i := k) (by omega) (by show _ < ((21 : Nat) : Int); exact (by omega)) (kLen_lt _) dX8_powerOf_17 ?_
        refine lv_goto (tgt := 22) hx hb dX8_powerOf_18 (by decide) ?_
        exact W.iret (v := iI (((x).2 (2)) (k).toNat)) hx hb hr (fun t ht hW => ⟨⟨iI (((x).2 (2)) (k).toNat), x, rfl, ⟨(by have h9 := congrArg (fun z : Int × KS => iI z.1) hres; exact h9), (by have h9 := congrArg (fun z : Int × KS => z.2) hres; exact h9)⟩, by rw [ht]; exact hP, va_K.moved hW.alike hK, hD⟩, hS.F ht⟩) hS.2.2 dX8_powerOf_22
  exact key _ _ hP hS
theorem F_s_powerOf_fr (x : KS) (k : Int) : ksame [] [] x (F_s_powerOf x k).2 := by
  unfold F_s_powerOf
  by_cases hc : (k) < (0)
  · rw [if_pos hc]
    exact (km_rf _ _ _)
  · rw [if_neg hc]
    by_cases hc : ((x).1 (1) 3) < (k)
    · rw [if_pos hc]
      exact (km_rf _ _ _)
    · rw [if_neg hc]
      exact (km_rf _ _ _)
theorem F_s_powerOf_2 (x : KS) (k : Int) : (F_s_powerOf x k).2 = x := km_nil (F_s_powerOf_fr x k)
def F_s_firstOf (x : KS) (k : Int) : Int × KS := (if (k) < (0) then ((0 : Int), x) else (if ((x).1 (1) 3) < (k) then ((0 : Int), x) else (((x).2 (3)) (k).toNat, x)))
set_option maxHeartbeats 4000000 in
set_option maxRecDepth 100000 in
/-- LikeWords$Scale, firstOf -/
theorem c_s_firstOf (l : Launch) (dC : Nat → ClassId) (dI : Nat → Nat → Nat) (ad : Nat → Nat) (cI cJ cZ cR : ClassId) (M wl sz : Nat) (x : KS) (k : Int) (hM : 87 ≤ M) (sc : scR x) (rk : iR k) : Met l yX8_firstOf wsX8_firstOf ({ frames := 0, cells := 0, slots := 0, locals := 0 }) (kPc dC dI ad cI cJ cZ cR M wl sz x [.ref (ad 1), .int (iI k)]) (va_Qi (fun (r : Int32) (u : KS) => r = iI (F_s_firstOf x k).1 ∧ u = (F_s_firstOf x k).2) (kAt dC dI ad cI cJ cZ cR M wl (va_A (kWd cI cJ cZ cR wl ad M (x)) sz)) (va_A (kWd cI cJ cZ cR wl ad M (x)) sz)) 0 0 (va_A (kWd cI cJ cZ cR wl ad M (x)) sz) := by
  refine Met.ofW (cc := cX8_firstOf) (maxL := 2) (ret := (some .int)) (by decide) rfl ?_
  intro p e s m args below meth c s₁ B hml hv
  obtain ⟨rfl, hsz, hP, hK, hD0, hNw⟩ := hv
  have hx := B.exec
  have hb := B.bytes
  have hr := B.returns
  have hts := atoms_spec (ws := wsX8_firstOf) B.pre
  have hown : s.vm.findClass RX8 = some m.cls := findClass_of_methodNamed B.named
  have hlocks := B.notSynchronized
  have hinX8 : ∀ w ∈ u_ws RX8 TX8 4, w ∈ wsX8_firstOf := by decide +kernel
  subst hsz
  have hD := hD0.self (sz := s.heap.size)
  generalize hAe : va_A (kWd cI cJ cZ cR wl ad M (x)) s.heap.size = A at hD ⊢
  have hA : ∀ q : Nat, s.heap.size ≤ q → A q := fun q h => by rw [← hAe]; exact Or.inr h
  have hS : va_S A s.heap s.heap [] := va_S.rf
  have hl := lv_entry ([.ref (ad 1), .int (iI k)]) (n := 2) (Nat.le_of_ble_eq_true rfl)
  rw [lg_entry_eq]
  generalize (lg_sl ([.ref (ad 1), .int (iI k)]) ++ List.replicate (2 - (lg_sl ([.ref (ad 1), .int (iI k)])).length) Slot.unset).toArray = ls at hl ⊢
  have hl : lv_has ls 2 [(0, .ref (ad (1))), (1, .int (iI (k)))] := hl
  obtain ⟨⟨l0, l1⟩, ⟨g0, g1⟩, pw, fi, f00⟩ := sc
  have key : ∀ (H : Heap) (locs : List Loc), va_P (dC, dI) vwCl (kWd cI cJ cZ cR wl ad M (x)) H → va_S A s.heap H locs → W p l e (headSpec wsX8_firstOf ({ frames := 0, cells := 0, slots := 0, locals := 0 })).room s m ([.ref (ad 1), .int (iI k)] : List Value).toArray below meth c H locs 0 0 (MQ below (va_Qi (fun (r : Int32) (u : KS) => r = iI (F_s_firstOf x k).1 ∧ u = (F_s_firstOf x k).2) (kAt dC dI ad cI cJ cZ cR M wl A) A) ([.ref (ad 1), .int (iI k)] : List Value).toArray s 0 0 A) (F0 m 0 ls []) := by
    intro H locs hP hS
    have hres : (if (k) < (0) then ((0 : Int), x) else (if ((x).1 (1) 3) < (k) then ((0 : Int), x) else (((x).2 (3)) (k).toNat, x))) = F_s_firstOf x k := rfl
    refine lv_iload_n hx hb dX8_firstOf_0 rfl (lv_at hl 1 rfl) ?_
    refine wi_if_lt (tgt := 21) hx hb (by first | assumption | (unfold iR; omega) | exact kR01 (by assumption)) dX8_firstOf_1 (by decide) (fun c_1 => ?_) (fun c_1 => ?_)
    · skip
      rw [if_pos c_1] at hres
      refine lv_iconst (v := iI (0 : Int)) hx hb dX8_firstOf_21 (by decide) ?_
      exact W.iret (v := iI ((0 : Int))) hx hb hr (fun t ht hW => ⟨⟨iI ((0 : Int)), x, rfl, ⟨(by have h9 := congrArg (fun z : Int × KS => iI z.1) hres; exact h9), (by have h9 := congrArg (fun z : Int × KS => z.2) hres; exact h9)⟩, by rw [ht]; exact hP, va_K.moved hW.alike hK, hD⟩, hS.F ht⟩) hS.2.2 dX8_firstOf_22
    · skip
      rw [if_neg c_1] at hres
      refine lv_iload_n hx hb dX8_firstOf_4 rfl (lv_at hl 1 rfl) ?_
      refine lv_aload_n hx hb dX8_firstOf_5 rfl (lv_at hl 0 rfl) ?_
      refine va_get (D := (dC, dI)) (ci := 8) (v := .int (iI ((x).1 (1) 3))) (C := RX8) (T := TX8) (N := 4) hx hb hts hinX8 hown hK hP (1) (kg1 (by omega)) rfl 3 (by decide) (hts (.fieldLink RX8 32 "LikeWords$Scale" "longest" "I") (by decide +kernel)) (fun _ h9 => h9) rfl dX8_firstOf_6 ?_
      refine wi_icmp_gt (tgt := 21) hx hb (by first | assumption | (unfold iR; omega) | exact kR01 (by assumption)) (by first | assumption | (unfold iR; omega) | exact kR01 (by assumption)) dX8_firstOf_9 (by decide) (fun c_9 => ?_) (fun c_9 => ?_)
      · skip
        rw [if_pos c_9] at hres
        refine lv_iconst (v := iI (0 : Int)) hx hb dX8_firstOf_21 (by decide) ?_
        exact W.iret (v := iI ((0 : Int))) hx hb hr (fun t ht hW => ⟨⟨iI ((0 : Int)), x, rfl, ⟨(by have h9 := congrArg (fun z : Int × KS => iI z.1) hres; exact h9), (by have h9 := congrArg (fun z : Int × KS => z.2) hres; exact h9)⟩, by rw [ht]; exact hP, va_K.moved hW.alike hK, hD⟩, hS.F ht⟩) hS.2.2 dX8_firstOf_22
      · skip
        rw [if_neg c_9] at hres
        refine lv_aload_n hx hb dX8_firstOf_12 rfl (lv_at hl 0 rfl) ?_
        refine va_get (D := (dC, dI)) (ci := 8) (v := .ref (ad (3))) (C := RX8) (T := TX8) (N := 4) hx hb hts hinX8 hown hK hP (1) (kg1 (by omega)) rfl 1 (by decide) (hts (.fieldLink RX8 15 "LikeWords$Scale" "firsts" "[I") (by decide +kernel)) (fun _ h9 => h9) rfl dX8_firstOf_13 ?_
        refine lv_iload_n hx hb dX8_firstOf_16 rfl (lv_at hl 1 rfl) ?_
        refine wi_iald (f := (x).2 (3)) (n := kLen (3)) hx hb hK hP (3) 0 (kgi kC3 (by omega) rfl) rfl (i := k) (by omega) (by show _ < ((22 : Nat) : Int); exact (by omega)) (kLen_lt _) dX8_firstOf_17 ?_
        refine lv_goto (tgt := 22) hx hb dX8_firstOf_18 (by decide) ?_
        exact W.iret (v := iI (((x).2 (3)) (k).toNat)) hx hb hr (fun t ht hW => ⟨⟨iI (((x).2 (3)) (k).toNat), x, rfl, ⟨(by have h9 := congrArg (fun z : Int × KS => iI z.1) hres; exact h9), (by have h9 := congrArg (fun z : Int × KS => z.2) hres; exact h9)⟩, by rw [ht]; exact hP, va_K.moved hW.alike hK, hD⟩, hS.F ht⟩) hS.2.2 dX8_firstOf_22
  exact key _ _ hP hS
theorem F_s_firstOf_fr (x : KS) (k : Int) : ksame [] [] x (F_s_firstOf x k).2 := by
  unfold F_s_firstOf
  by_cases hc : (k) < (0)
  · rw [if_pos hc]
    exact (km_rf _ _ _)
  · rw [if_neg hc]
    by_cases hc : ((x).1 (1) 3) < (k)
    · rw [if_pos hc]
      exact (km_rf _ _ _)
    · rw [if_neg hc]
      exact (km_rf _ _ _)
theorem F_s_firstOf_2 (x : KS) (k : Int) : (F_s_firstOf x k).2 = x := km_nil (F_s_firstOf_fr x k)
def F_s_countTo (x : KS) (k : Int) : Int × KS := (if (k) < (0) then ((0 : Int), x) else (if ((x).1 (1) 3) < (k) then ((0 : Int), x) else (((x).2 (3)) ((k) + ((1 : Int))).toNat, x)))
set_option maxHeartbeats 4000000 in
set_option maxRecDepth 100000 in
/-- LikeWords$Scale, countTo -/
theorem c_s_countTo (l : Launch) (dC : Nat → ClassId) (dI : Nat → Nat → Nat) (ad : Nat → Nat) (cI cJ cZ cR : ClassId) (M wl sz : Nat) (x : KS) (k : Int) (hM : 87 ≤ M) (sc : scR x) (rk : iR k) : Met l yX8_countTo wsX8_countTo ({ frames := 0, cells := 0, slots := 0, locals := 0 }) (kPc dC dI ad cI cJ cZ cR M wl sz x [.ref (ad 1), .int (iI k)]) (va_Qi (fun (r : Int32) (u : KS) => r = iI (F_s_countTo x k).1 ∧ u = (F_s_countTo x k).2) (kAt dC dI ad cI cJ cZ cR M wl (va_A (kWd cI cJ cZ cR wl ad M (x)) sz)) (va_A (kWd cI cJ cZ cR wl ad M (x)) sz)) 0 0 (va_A (kWd cI cJ cZ cR wl ad M (x)) sz) := by
  refine Met.ofW (cc := cX8_countTo) (maxL := 2) (ret := (some .int)) (by decide) rfl ?_
  intro p e s m args below meth c s₁ B hml hv
  obtain ⟨rfl, hsz, hP, hK, hD0, hNw⟩ := hv
  have hx := B.exec
  have hb := B.bytes
  have hr := B.returns
  have hts := atoms_spec (ws := wsX8_countTo) B.pre
  have hown : s.vm.findClass RX8 = some m.cls := findClass_of_methodNamed B.named
  have hlocks := B.notSynchronized
  have hinX8 : ∀ w ∈ u_ws RX8 TX8 4, w ∈ wsX8_countTo := by decide +kernel
  subst hsz
  have hD := hD0.self (sz := s.heap.size)
  generalize hAe : va_A (kWd cI cJ cZ cR wl ad M (x)) s.heap.size = A at hD ⊢
  have hA : ∀ q : Nat, s.heap.size ≤ q → A q := fun q h => by rw [← hAe]; exact Or.inr h
  have hS : va_S A s.heap s.heap [] := va_S.rf
  have hl := lv_entry ([.ref (ad 1), .int (iI k)]) (n := 2) (Nat.le_of_ble_eq_true rfl)
  rw [lg_entry_eq]
  generalize (lg_sl ([.ref (ad 1), .int (iI k)]) ++ List.replicate (2 - (lg_sl ([.ref (ad 1), .int (iI k)])).length) Slot.unset).toArray = ls at hl ⊢
  have hl : lv_has ls 2 [(0, .ref (ad (1))), (1, .int (iI (k)))] := hl
  obtain ⟨⟨l0, l1⟩, ⟨g0, g1⟩, pw, fi, f00⟩ := sc
  have key : ∀ (H : Heap) (locs : List Loc), va_P (dC, dI) vwCl (kWd cI cJ cZ cR wl ad M (x)) H → va_S A s.heap H locs → W p l e (headSpec wsX8_countTo ({ frames := 0, cells := 0, slots := 0, locals := 0 })).room s m ([.ref (ad 1), .int (iI k)] : List Value).toArray below meth c H locs 0 0 (MQ below (va_Qi (fun (r : Int32) (u : KS) => r = iI (F_s_countTo x k).1 ∧ u = (F_s_countTo x k).2) (kAt dC dI ad cI cJ cZ cR M wl A) A) ([.ref (ad 1), .int (iI k)] : List Value).toArray s 0 0 A) (F0 m 0 ls []) := by
    intro H locs hP hS
    have hres : (if (k) < (0) then ((0 : Int), x) else (if ((x).1 (1) 3) < (k) then ((0 : Int), x) else (((x).2 (3)) ((k) + ((1 : Int))).toNat, x))) = F_s_countTo x k := rfl
    refine lv_iload_n hx hb dX8_countTo_0 rfl (lv_at hl 1 rfl) ?_
    refine wi_if_lt (tgt := 23) hx hb (by first | assumption | (unfold iR; omega) | exact kR01 (by assumption)) dX8_countTo_1 (by decide) (fun c_1 => ?_) (fun c_1 => ?_)
    · skip
      rw [if_pos c_1] at hres
      refine lv_iconst (v := iI (0 : Int)) hx hb dX8_countTo_23 (by decide) ?_
      exact W.iret (v := iI ((0 : Int))) hx hb hr (fun t ht hW => ⟨⟨iI ((0 : Int)), x, rfl, ⟨(by have h9 := congrArg (fun z : Int × KS => iI z.1) hres; exact h9), (by have h9 := congrArg (fun z : Int × KS => z.2) hres; exact h9)⟩, by rw [ht]; exact hP, va_K.moved hW.alike hK, hD⟩, hS.F ht⟩) hS.2.2 dX8_countTo_24
    · skip
      rw [if_neg c_1] at hres
      refine lv_iload_n hx hb dX8_countTo_4 rfl (lv_at hl 1 rfl) ?_
      refine lv_aload_n hx hb dX8_countTo_5 rfl (lv_at hl 0 rfl) ?_
      refine va_get (D := (dC, dI)) (ci := 8) (v := .int (iI ((x).1 (1) 3))) (C := RX8) (T := TX8) (N := 4) hx hb hts hinX8 hown hK hP (1) (kg1 (by omega)) rfl 3 (by decide) (hts (.fieldLink RX8 32 "LikeWords$Scale" "longest" "I") (by decide +kernel)) (fun _ h9 => h9) rfl dX8_countTo_6 ?_
      refine wi_icmp_gt (tgt := 23) hx hb (by first | assumption | (unfold iR; omega) | exact kR01 (by assumption)) (by first | assumption | (unfold iR; omega) | exact kR01 (by assumption)) dX8_countTo_9 (by decide) (fun c_9 => ?_) (fun c_9 => ?_)
      · skip
        rw [if_pos c_9] at hres
        refine lv_iconst (v := iI (0 : Int)) hx hb dX8_countTo_23 (by decide) ?_
        exact W.iret (v := iI ((0 : Int))) hx hb hr (fun t ht hW => ⟨⟨iI ((0 : Int)), x, rfl, ⟨(by have h9 := congrArg (fun z : Int × KS => iI z.1) hres; exact h9), (by have h9 := congrArg (fun z : Int × KS => z.2) hres; exact h9)⟩, by rw [ht]; exact hP, va_K.moved hW.alike hK, hD⟩, hS.F ht⟩) hS.2.2 dX8_countTo_24
      · skip
        rw [if_neg c_9] at hres
        refine lv_aload_n hx hb dX8_countTo_12 rfl (lv_at hl 0 rfl) ?_
        refine va_get (D := (dC, dI)) (ci := 8) (v := .ref (ad (3))) (C := RX8) (T := TX8) (N := 4) hx hb hts hinX8 hown hK hP (1) (kg1 (by omega)) rfl 1 (by decide) (hts (.fieldLink RX8 15 "LikeWords$Scale" "firsts" "[I") (by decide +kernel)) (fun _ h9 => h9) rfl dX8_countTo_13 ?_
        refine lv_iload_n hx hb dX8_countTo_16 rfl (lv_at hl 1 rfl) ?_
        refine lv_iconst (v := iI (1 : Int)) hx hb dX8_countTo_17 (by decide) ?_
        refine wi_iadd hx hb dX8_countTo_18 ?_
        refine wi_iald (f := (x).2 (3)) (n := kLen (3)) hx hb hK hP (3) 0 (kgi kC3 (by omega) rfl) rfl (i := (k) + ((1 : Int))) (by omega) (by show _ < ((22 : Nat) : Int); exact (by omega)) (kLen_lt _) dX8_countTo_19 ?_
        refine lv_goto (tgt := 24) hx hb dX8_countTo_20 (by decide) ?_
        exact W.iret (v := iI (((x).2 (3)) ((k) + ((1 : Int))).toNat)) hx hb hr (fun t ht hW => ⟨⟨iI (((x).2 (3)) ((k) + ((1 : Int))).toNat), x, rfl, ⟨(by have h9 := congrArg (fun z : Int × KS => iI z.1) hres; exact h9), (by have h9 := congrArg (fun z : Int × KS => z.2) hres; exact h9)⟩, by rw [ht]; exact hP, va_K.moved hW.alike hK, hD⟩, hS.F ht⟩) hS.2.2 dX8_countTo_24
  exact key _ _ hP hS
theorem F_s_countTo_fr (x : KS) (k : Int) : ksame [] [] x (F_s_countTo x k).2 := by
  unfold F_s_countTo
  by_cases hc : (k) < (0)
  · rw [if_pos hc]
    exact (km_rf _ _ _)
  · rw [if_neg hc]
    by_cases hc : ((x).1 (1) 3) < (k)
    · rw [if_pos hc]
      exact (km_rf _ _ _)
    · rw [if_neg hc]
      exact (km_rf _ _ _)
theorem F_s_countTo_2 (x : KS) (k : Int) : (F_s_countTo x k).2 = x := km_nil (F_s_countTo_fr x k)
def F_s_spanOf_s  : Nat → Nat → KS → Int → Int → Int × KS
  | 0, _, x, _, _ => (0, x)
  | n + 1, t, x, p0, p1 => match t with
    | 0 => (fun (v : Int) (g : Int) => (if ((x).1 (1) 3) ≤ (g) then (g, x) else (if (v) < (((x).2 (3)) ((g) + ((1 : Int))).toNat) then (g, x) else F_s_spanOf_s n 0 (x) (v) ((g) + (1 : Int))))) p0 p1
    | _ => (0, x)
theorem F_s_spanOf_e0  (n : Nat) (x : KS) (v : Int) (g : Int) : F_s_spanOf_s (n + 1) 0 x v g = (if ((x).1 (1) 3) ≤ (g) then (g, x) else (if (v) < (((x).2 (3)) ((g) + ((1 : Int))).toNat) then (g, x) else F_s_spanOf_s n 0 (x) (v) ((g) + (1 : Int)))) := rfl
def F_s_spanOf (x : KS) (v : Int) : Int × KS := F_s_spanOf_s 30 0 (x) (v) ((0 : Int))
set_option maxHeartbeats 4000000 in
set_option maxRecDepth 100000 in
/-- LikeWords$Scale, spanOf -/
theorem c_s_spanOf (l : Launch) (dC : Nat → ClassId) (dI : Nat → Nat → Nat) (ad : Nat → Nat) (cI cJ cZ cR : ClassId) (M wl sz : Nat) (x : KS) (v : Int) (hM : 87 ≤ M) (sc : scR x) (rv : iR v) : Met l yX8_spanOf wsX8_spanOf ({ frames := 0, cells := 0, slots := 0, locals := 0 }) (kPc dC dI ad cI cJ cZ cR M wl sz x [.ref (ad 1), .int (iI v)]) (va_Qi (fun (r : Int32) (u : KS) => r = iI (F_s_spanOf x v).1 ∧ u = (F_s_spanOf x v).2) (kAt dC dI ad cI cJ cZ cR M wl (va_A (kWd cI cJ cZ cR wl ad M (x)) sz)) (va_A (kWd cI cJ cZ cR wl ad M (x)) sz)) 0 0 (va_A (kWd cI cJ cZ cR wl ad M (x)) sz) := by
  refine Met.ofW (cc := cX8_spanOf) (maxL := 3) (ret := (some .int)) (by decide) rfl ?_
  intro p e s m args below meth c s₁ B hml hv
  obtain ⟨rfl, hsz, hP, hK, hD0, hNw⟩ := hv
  have hx := B.exec
  have hb := B.bytes
  have hr := B.returns
  have hts := atoms_spec (ws := wsX8_spanOf) B.pre
  have hown : s.vm.findClass RX8 = some m.cls := findClass_of_methodNamed B.named
  have hlocks := B.notSynchronized
  have hinX8 : ∀ w ∈ u_ws RX8 TX8 4, w ∈ wsX8_spanOf := by decide +kernel
  subst hsz
  have hD := hD0.self (sz := s.heap.size)
  generalize hAe : va_A (kWd cI cJ cZ cR wl ad M (x)) s.heap.size = A at hD ⊢
  have hA : ∀ q : Nat, s.heap.size ≤ q → A q := fun q h => by rw [← hAe]; exact Or.inr h
  have hS : va_S A s.heap s.heap [] := va_S.rf
  have hl := lv_entry ([.ref (ad 1), .int (iI v)]) (n := 3) (Nat.le_of_ble_eq_true rfl)
  rw [lg_entry_eq]
  generalize (lg_sl ([.ref (ad 1), .int (iI v)]) ++ List.replicate (3 - (lg_sl ([.ref (ad 1), .int (iI v)])).length) Slot.unset).toArray = ls at hl ⊢
  have hl : lv_has ls 3 [(0, .ref (ad (1))), (1, .int (iI (v)))] := hl
  obtain ⟨⟨l0, l1⟩, ⟨g0, g1⟩, pw, fi, f00⟩ := sc
  have L : ∀ n : Nat, (∀ (g : Int), (0 ≤ g) → (g ≤ x.1 1 3) → (x.1 1 3 - g < n) → F_s_spanOf_s n 0 x v g = F_s_spanOf x v → ∀ (H : Heap) (locs : List Loc) (ls : Array Slot), va_P (dC, dI) vwCl (kWd cI cJ cZ cR wl ad M (x)) H → va_D A (kWd cI cJ cZ cR wl ad M (x)) → va_S A s.heap H locs → lv_has ls 3 [(0, .ref (ad (1))), (1, .int (iI (v))), (2, .int (iI (g)))] → W p l e (headSpec wsX8_spanOf ({ frames := 0, cells := 0, slots := 0, locals := 0 })).room s m ([.ref (ad 1), .int (iI v)] : List Value).toArray below meth c H locs 0 0 (MQ below (va_Qi (fun (r : Int32) (u : KS) => r = iI (F_s_spanOf x v).1 ∧ u = (F_s_spanOf x v).2) (kAt dC dI ad cI cJ cZ cR M wl A) A) ([.ref (ad 1), .int (iI v)] : List Value).toArray s 0 0 A) (F0 m 2 ls [])) := by
    intro n
    induction n with
    | zero =>
      skip
      · intro g i0 i1 fu hres
        exact absurd fu (by omega)
    | succ n ih =>
      skip
      · intro g i0 i1 fu hres H locs ls hP hD hS hl
        rw [F_s_spanOf_e0] at hres
        refine lv_iload_n hx hb dX8_spanOf_2 rfl (lv_at hl 2 rfl) ?_
        refine lv_aload_n hx hb dX8_spanOf_3 rfl (lv_at hl 0 rfl) ?_
        refine va_get (D := (dC, dI)) (ci := 8) (v := .int (iI ((x).1 (1) 3))) (C := RX8) (T := TX8) (N := 4) hx hb hts hinX8 hown hK hP (1) (kg1 (by omega)) rfl 3 (by decide) (hts (.fieldLink RX8 32 "LikeWords$Scale" "longest" "I") (by decide +kernel)) (fun _ h9 => h9) rfl dX8_spanOf_4 ?_
        refine wi_icmp_ge (tgt := 28) hx hb (by first | assumption | (unfold iR; omega) | exact kR01 (by assumption)) (by first | assumption | (unfold iR; omega) | exact kR01 (by assumption)) dX8_spanOf_7 (by decide) (fun c_7 => ?_) (fun c_7 => ?_)
        · skip
          rw [if_pos c_7] at hres
          refine lv_iload_n hx hb dX8_spanOf_28 rfl (lv_at hl 2 rfl) ?_
          exact W.iret (v := iI (g)) hx hb hr (fun t ht hW => ⟨⟨iI (g), x, rfl, ⟨(by have h9 := congrArg (fun z : Int × KS => iI z.1) hres; exact h9), (by have h9 := congrArg (fun z : Int × KS => z.2) hres; exact h9)⟩, by rw [ht]; exact hP, va_K.moved hW.alike hK, hD⟩, hS.F ht⟩) hS.2.2 dX8_spanOf_29
        · skip
          rw [if_neg c_7] at hres
          refine lv_aload_n hx hb dX8_spanOf_10 rfl (lv_at hl 0 rfl) ?_
          refine va_get (D := (dC, dI)) (ci := 8) (v := .ref (ad (3))) (C := RX8) (T := TX8) (N := 4) hx hb hts hinX8 hown hK hP (1) (kg1 (by omega)) rfl 1 (by decide) (hts (.fieldLink RX8 15 "LikeWords$Scale" "firsts" "[I") (by decide +kernel)) (fun _ h9 => h9) rfl dX8_spanOf_11 ?_
          refine lv_iload_n hx hb dX8_spanOf_14 rfl (lv_at hl 2 rfl) ?_
          refine lv_iconst (v := iI (1 : Int)) hx hb dX8_spanOf_15 (by decide) ?_
          refine wi_iadd hx hb dX8_spanOf_16 ?_
          refine wi_iald (f := (x).2 (3)) (n := kLen (3)) hx hb hK hP (3) 0 (kgi kC3 (by omega) rfl) rfl (i := (g) + ((1 : Int))) (by omega) (by show _ < ((22 : Nat) : Int); exact (by omega)) (kLen_lt _) dX8_spanOf_17 ?_
          refine lv_iload_n hx hb dX8_spanOf_18 rfl (lv_at hl 1 rfl) ?_
          refine wi_icmp_gt (tgt := 28) hx hb (by have := fi (g + 1).toNat (by omega); unfold iR; omega) rv dX8_spanOf_19 (by decide) (fun c_19 => ?_) (fun c_19 => ?_)
          · skip
            rw [if_pos c_19] at hres
            refine lv_iload_n hx hb dX8_spanOf_28 rfl (lv_at hl 2 rfl) ?_
            exact W.iret (v := iI (g)) hx hb hr (fun t ht hW => ⟨⟨iI (g), x, rfl, ⟨(by have h9 := congrArg (fun z : Int × KS => iI z.1) hres; exact h9), (by have h9 := congrArg (fun z : Int × KS => z.2) hres; exact h9)⟩, by rw [ht]; exact hP, va_K.moved hW.alike hK, hD⟩, hS.F ht⟩) hS.2.2 dX8_spanOf_29
          · skip
            rw [if_neg c_19] at hres
            refine lv_iinc (v := iI ((g) + (1 : Int))) (lv' := [(2, .int (iI ((g) + (1 : Int)))), (0, .ref (ad (1))), (1, .int (iI (v)))]) hx hb dX8_spanOf_22 hl (k := 2) rfl (iI_add _ _) (by decide) rfl (fun ls hl => ?_)
            refine lv_goto (tgt := 2) hx hb dX8_spanOf_25 (by decide) ?_
            exact ih  ((g) + (1 : Int)) (by omega) (by omega) (by omega) hres _ _ ls hP hD hS (lv_sub hl [1, 2, 0] rfl)
  have key : ∀ (H : Heap) (locs : List Loc), va_P (dC, dI) vwCl (kWd cI cJ cZ cR wl ad M (x)) H → va_S A s.heap H locs → W p l e (headSpec wsX8_spanOf ({ frames := 0, cells := 0, slots := 0, locals := 0 })).room s m ([.ref (ad 1), .int (iI v)] : List Value).toArray below meth c H locs 0 0 (MQ below (va_Qi (fun (r : Int32) (u : KS) => r = iI (F_s_spanOf x v).1 ∧ u = (F_s_spanOf x v).2) (kAt dC dI ad cI cJ cZ cR M wl A) A) ([.ref (ad 1), .int (iI v)] : List Value).toArray s 0 0 A) (F0 m 0 ls []) := by
    intro H locs hP hS
    have hres : F_s_spanOf_s 30 0 (x) (v) ((0 : Int)) = F_s_spanOf x v := rfl
    refine lv_iconst (v := iI (0 : Int)) hx hb dX8_spanOf_0 (by decide) ?_
    refine lv_istore_n (lv' := [(2, .int (iI ((0 : Int)))), (0, .ref (ad (1))), (1, .int (iI (v)))]) hx hb dX8_spanOf_1 rfl hl (by decide) rfl (fun ls hl => ?_)
    exact (L (30))  ((0 : Int)) (by omega) (by omega) (by omega) hres _ _ ls hP hD hS (lv_sub hl [1, 2, 0] rfl)
  exact key _ _ hP hS
theorem F_s_spanOf_sfr  : ∀ n : Nat, (∀ (y : KS) (v0 : Int) (v1 : Int), ksame [] [] y (F_s_spanOf_s n 0 y v0 v1).2) := by
  intro n
  induction n with
  | zero => exact fun y _ _ => km_rf _ _ _
  | succ n ih =>
    skip
    · intro y v g
      rw [F_s_spanOf_e0]
      by_cases hc : ((y).1 (1) 3) ≤ (g)
      · rw [if_pos hc]
        exact (km_rf _ _ _)
      · rw [if_neg hc]
        by_cases hc : (v) < (((y).2 (3)) ((g) + ((1 : Int))).toNat)
        · rw [if_pos hc]
          exact (km_rf _ _ _)
        · rw [if_neg hc]
          exact km_tr ((km_rf _ _ _)) (ih (y) (v) ((g) + (1 : Int)))
theorem F_s_spanOf_fr (x : KS) (v : Int) : ksame [] [] x (F_s_spanOf x v).2 := by
  unfold F_s_spanOf
  exact km_tr ((km_rf _ _ _)) ((F_s_spanOf_sfr  (30)) (x) (v) ((0 : Int)))
theorem F_s_spanOf_2 (x : KS) (v : Int) : (F_s_spanOf x v).2 = x := km_nil (F_s_spanOf_fr x v)
theorem F_s_powerOf_b {x : KS} (sc : scR x) (k : Int) : 0 ≤ (F_s_powerOf x k).1 ∧ (F_s_powerOf x k).1 ≤ 10000 := by
  obtain ⟨⟨l0, l1⟩, ⟨g0, g1⟩, pw, fi, f00⟩ := sc
  unfold F_s_powerOf
  repeat' split
  · simp
  · simp
  · exact pw k.toNat (by omega)
theorem F_s_firstOf_b {x : KS} (sc : scR x) (k : Int) : 0 ≤ (F_s_firstOf x k).1 ∧ (F_s_firstOf x k).1 ≤ 10000 := by
  obtain ⟨⟨l0, l1⟩, ⟨g0, g1⟩, pw, fi, f00⟩ := sc
  unfold F_s_firstOf
  repeat' split
  · simp
  · simp
  · exact fi k.toNat (by omega)
theorem F_s_countTo_b {x : KS} (sc : scR x) (k : Int) : 0 ≤ (F_s_countTo x k).1 ∧ (F_s_countTo x k).1 ≤ 10000 := by
  obtain ⟨⟨l0, l1⟩, ⟨g0, g1⟩, pw, fi, f00⟩ := sc
  unfold F_s_countTo
  repeat' split
  · simp
  · simp
  · exact fi (k + 1).toNat (by omega)
theorem F_s_spanOf_s_b {x : KS} (sc : scR x) (v : Int) : ∀ (n : Nat) (g : Int), 0 ≤ g → g ≤ x.1 1 3 → x.2 3 g.toNat ≤ v → x.1 1 3 - g < n → 0 ≤ (F_s_spanOf_s n 0 x v g).1 ∧ (F_s_spanOf_s n 0 x v g).1 ≤ x.1 1 3 ∧ x.2 3 (F_s_spanOf_s n 0 x v g).1.toNat ≤ v := by
  intro n
  induction n with
  | zero => intro g _ _ _ h; exfalso; omega
  | succ n ih =>
    intro g h0 h1 h2 h3
    rw [F_s_spanOf_e0]
    split
    · exact ⟨h0, h1, h2⟩
    · split
      · exact ⟨h0, h1, h2⟩
      · rename_i c1 c2
        exact ih (g + 1) (by omega) (by omega) (by omega) (by omega)
theorem F_s_spanOf_b {x : KS} (sc : scR x) {v : Int} (h : 0 ≤ v) : 0 ≤ (F_s_spanOf x v).1 ∧ (F_s_spanOf x v).1 ≤ x.1 1 3 ∧ x.2 3 (F_s_spanOf x v).1.toNat ≤ v := by
  have h3 := sc.2.1
  exact F_s_spanOf_s_b sc v 30 0 (by omega) h3.1 (by show x.2 3 0 ≤ v; rw [sc.2.2.2.2]; exact h) (by omega)
theorem F_s_firstOf_v {x : KS} {k : Int} (h0 : 0 ≤ k) (h1 : k ≤ x.1 1 3) : (F_s_firstOf x k).1 = x.2 3 k.toNat := by
  unfold F_s_firstOf
  rw [if_neg (by omega), if_neg (by omega)]
theorem scR_same {x y : KS} (h1 : y.1 1 = x.1 1) (h2 : y.2 2 = x.2 2) (h3 : y.2 3 = x.2 3) (sc : scR x) : scR y := by unfold scR; rw [h1, h2, h3]; exact sc
theorem scR_wipe {x : KS} {w1 : Nat} (hw : kW w1 = true) (sc : scR x) : scR (F_w_wipe x w1).2 := scR_same (kS_c (Ne.symm (kW_ne hw rfl))) rfl rfl sc
def F_s_valueOf_s (w1 : Nat) : Nat → Nat → KS → Int → Int → Int × KS
  | 0, _, x, _, _ => (0, x)
  | n + 1, t, x, p0, p1 => match t with
    | 0 => (fun (v : Int) (i : Int) => (if ((x).1 (w1) 1) ≤ (i) then (v, x) else F_s_valueOf_s w1 n 0 (x) (((v) * ((x).1 (1) 2)) + (((x).2 ((w1) + 1)) (i).toNat)) ((i) + (1 : Int)))) p0 p1
    | _ => (0, x)
theorem F_s_valueOf_e0 (w1 : Nat) (n : Nat) (x : KS) (v : Int) (i : Int) : F_s_valueOf_s w1 (n + 1) 0 x v i = (if ((x).1 (w1) 1) ≤ (i) then (v, x) else F_s_valueOf_s w1 n 0 (x) (((v) * ((x).1 (1) 2)) + (((x).2 ((w1) + 1)) (i).toNat)) ((i) + (1 : Int))) := rfl
def F_s_valueOf (x : KS) (w1 : Nat) : Int × KS := F_s_valueOf_s w1 100 0 (x) ((0 : Int)) ((0 : Int))
set_option maxHeartbeats 4000000 in
set_option maxRecDepth 100000 in
/-- LikeWords$Scale, valueOf -/
theorem c_s_valueOf (l : Launch) (dC : Nat → ClassId) (dI : Nat → Nat → Nat) (ad : Nat → Nat) (cI cJ cZ cR : ClassId) (M wl sz : Nat) (x : KS) (w1 : Nat) (hM : 87 ≤ M) (hw_w1 : kW w1 = true) (hc_w1 : w1 + 1 < M) (u0 : 0 ≤ x.1 w1 1) (u1 : x.1 w1 1 ≤ kL w1) : Met l yX8_valueOf wsX8_valueOf ({ frames := 0, cells := 0, slots := 0, locals := 0 }) (kPc dC dI ad cI cJ cZ cR M wl sz x [.ref (ad 1), .ref (ad w1)]) (va_Qi (fun (r : Int32) (u : KS) => r = iI (F_s_valueOf x w1).1 ∧ u = (F_s_valueOf x w1).2) (kAt dC dI ad cI cJ cZ cR M wl (va_A (kWd cI cJ cZ cR wl ad M (x)) sz)) (va_A (kWd cI cJ cZ cR wl ad M (x)) sz)) 0 0 (va_A (kWd cI cJ cZ cR wl ad M (x)) sz) := by
  refine Met.ofW (cc := cX8_valueOf) (maxL := 4) (ret := (some .int)) (by decide) rfl ?_
  intro p e s m args below meth c s₁ B hml hv
  obtain ⟨rfl, hsz, hP, hK, hD0, hNw⟩ := hv
  have hx := B.exec
  have hb := B.bytes
  have hr := B.returns
  have hts := atoms_spec (ws := wsX8_valueOf) B.pre
  have hown : s.vm.findClass RX8 = some m.cls := findClass_of_methodNamed B.named
  have hlocks := B.notSynchronized
  have hinX10 : ∀ w ∈ u_ws RX10 TX10 2, w ∈ wsX8_valueOf := by decide +kernel
  have hinX8 : ∀ w ∈ u_ws RX8 TX8 4, w ∈ wsX8_valueOf := by decide +kernel
  subst hsz
  have hD := hD0.self (sz := s.heap.size)
  generalize hAe : va_A (kWd cI cJ cZ cR wl ad M (x)) s.heap.size = A at hD ⊢
  have hA : ∀ q : Nat, s.heap.size ≤ q → A q := fun q h => by rw [← hAe]; exact Or.inr h
  have hS : va_S A s.heap s.heap [] := va_S.rf
  have hl := lv_entry ([.ref (ad 1), .ref (ad w1)]) (n := 4) (Nat.le_of_ble_eq_true rfl)
  rw [lg_entry_eq]
  generalize (lg_sl ([.ref (ad 1), .ref (ad w1)]) ++ List.replicate (4 - (lg_sl ([.ref (ad 1), .ref (ad w1)])).length) Slot.unset).toArray = ls at hl ⊢
  have hl : lv_has ls 4 [(0, .ref (ad (1))), (1, .ref (ad (w1)))] := hl
  have k61 := kL_le w1
  have L : ∀ n : Nat, (∀ (v : Int) (i : Int), (0 ≤ i) → (i ≤ x.1 w1 1) → (x.1 w1 1 - i < n) → F_s_valueOf_s w1 n 0 x v i = F_s_valueOf x w1 → ∀ (H : Heap) (locs : List Loc) (ls : Array Slot), va_P (dC, dI) vwCl (kWd cI cJ cZ cR wl ad M (x)) H → va_D A (kWd cI cJ cZ cR wl ad M (x)) → va_S A s.heap H locs → lv_has ls 4 [(0, .ref (ad (1))), (1, .ref (ad (w1))), (2, .int (iI (v))), (3, .int (iI (i)))] → W p l e (headSpec wsX8_valueOf ({ frames := 0, cells := 0, slots := 0, locals := 0 })).room s m ([.ref (ad 1), .ref (ad w1)] : List Value).toArray below meth c H locs 0 0 (MQ below (va_Qi (fun (r : Int32) (u : KS) => r = iI (F_s_valueOf x w1).1 ∧ u = (F_s_valueOf x w1).2) (kAt dC dI ad cI cJ cZ cR M wl A) A) ([.ref (ad 1), .ref (ad w1)] : List Value).toArray s 0 0 A) (F0 m 4 ls [])) := by
    intro n
    induction n with
    | zero =>
      skip
      · intro v i i0 i1 fu hres
        exact absurd fu (by omega)
    | succ n ih =>
      skip
      · intro v i i0 i1 fu hres H locs ls hP hD hS hl
        rw [F_s_valueOf_e0] at hres
        refine lv_iload_n hx hb dX8_valueOf_4 rfl (lv_at hl 3 rfl) ?_
        refine lv_aload_n hx hb dX8_valueOf_5 rfl (lv_at hl 1 rfl) ?_
        refine va_get (D := (dC, dI)) (ci := 10) (v := .int (iI ((x).1 (w1) 1))) (C := RX10) (T := TX10) (N := 2) hx hb hts hinX10 hown hK hP (w1) (kgw hw_w1 (by omega)) rfl 1 (by decide) (hts (.fieldLink RX8 35 "LikeWords$Word" "used" "I") (by decide +kernel)) (fun _ h9 => h9) rfl dX8_valueOf_6 ?_
        refine wi_icmp_ge (tgt := 32) hx hb (by first | assumption | (unfold iR; omega) | exact kR01 (by assumption)) (by first | assumption | (unfold iR; omega) | exact kR01 (by assumption)) dX8_valueOf_9 (by decide) (fun c_9 => ?_) (fun c_9 => ?_)
        · skip
          rw [if_pos c_9] at hres
          refine lv_iload_n hx hb dX8_valueOf_32 rfl (lv_at hl 2 rfl) ?_
          exact W.iret (v := iI (v)) hx hb hr (fun t ht hW => ⟨⟨iI (v), x, rfl, ⟨(by have h9 := congrArg (fun z : Int × KS => iI z.1) hres; exact h9), (by have h9 := congrArg (fun z : Int × KS => z.2) hres; exact h9)⟩, by rw [ht]; exact hP, va_K.moved hW.alike hK, hD⟩, hS.F ht⟩) hS.2.2 dX8_valueOf_33
        · skip
          rw [if_neg c_9] at hres
          refine lv_iload_n hx hb dX8_valueOf_12 rfl (lv_at hl 2 rfl) ?_
          refine lv_aload_n hx hb dX8_valueOf_13 rfl (lv_at hl 0 rfl) ?_
          refine va_get (D := (dC, dI)) (ci := 8) (v := .int (iI ((x).1 (1) 2))) (C := RX8) (T := TX8) (N := 4) hx hb hts hinX8 hown hK hP (1) (kg1 (by omega)) rfl 2 (by decide) (hts (.fieldLink RX8 28 "LikeWords$Scale" "letterCount" "I") (by decide +kernel)) (fun _ h9 => h9) rfl dX8_valueOf_14 ?_
          refine wi_imul hx hb dX8_valueOf_17 ?_
          refine lv_aload_n hx hb dX8_valueOf_18 rfl (lv_at hl 1 rfl) ?_
          refine va_get (D := (dC, dI)) (ci := 10) (v := .ref (ad ((w1) + 1))) (C := RX10) (T := TX10) (N := 2) hx hb hts hinX10 hown hK hP (w1) (kgw hw_w1 (by omega)) rfl 0 (by decide) (hts (.fieldLink RX8 40 "LikeWords$Word" "signs" "[I") (by decide +kernel)) (fun _ h9 => h9) rfl dX8_valueOf_19 ?_
          refine lv_iload_n hx hb dX8_valueOf_22 rfl (lv_at hl 3 rfl) ?_
          refine wi_iald (f := (x).2 ((w1) + 1)) (n := kLen ((w1) + 1)) hx hb hK hP ((w1) + 1) 0 (kgi (kI_row hw_w1) (by omega) rfl) rfl (i := i) (by omega) (by rw [kLen_row hw_w1]; exact (by omega)) (kLen_lt _) dX8_valueOf_23 ?_
          refine wi_iadd hx hb dX8_valueOf_24 ?_
          refine lv_istore_n (lv' := [(2, .int (iI (((v) * ((x).1 (1) 2)) + (((x).2 ((w1) + 1)) (i).toNat)))), (0, .ref (ad (1))), (1, .ref (ad (w1))), (3, .int (iI (i)))]) hx hb dX8_valueOf_25 rfl hl (by decide) rfl (fun ls hl => ?_)
          refine lv_iinc (v := iI ((i) + (1 : Int))) (lv' := [(3, .int (iI ((i) + (1 : Int)))), (2, .int (iI (((v) * ((x).1 (1) 2)) + (((x).2 ((w1) + 1)) (i).toNat)))), (0, .ref (ad (1))), (1, .ref (ad (w1)))]) hx hb dX8_valueOf_26 hl (k := 3) rfl (iI_add _ _) (by decide) rfl (fun ls hl => ?_)
          refine lv_goto (tgt := 4) hx hb dX8_valueOf_29 (by decide) ?_
          exact ih  (((v) * ((x).1 (1) 2)) + (((x).2 ((w1) + 1)) (i).toNat)) ((i) + (1 : Int)) (by omega) (by omega) (by omega) hres _ _ ls hP hD hS (lv_sub hl [2, 3, 1, 0] rfl)
  have key : ∀ (H : Heap) (locs : List Loc), va_P (dC, dI) vwCl (kWd cI cJ cZ cR wl ad M (x)) H → va_S A s.heap H locs → W p l e (headSpec wsX8_valueOf ({ frames := 0, cells := 0, slots := 0, locals := 0 })).room s m ([.ref (ad 1), .ref (ad w1)] : List Value).toArray below meth c H locs 0 0 (MQ below (va_Qi (fun (r : Int32) (u : KS) => r = iI (F_s_valueOf x w1).1 ∧ u = (F_s_valueOf x w1).2) (kAt dC dI ad cI cJ cZ cR M wl A) A) ([.ref (ad 1), .ref (ad w1)] : List Value).toArray s 0 0 A) (F0 m 0 ls []) := by
    intro H locs hP hS
    have hres : F_s_valueOf_s w1 100 0 (x) ((0 : Int)) ((0 : Int)) = F_s_valueOf x w1 := rfl
    refine lv_iconst (v := iI (0 : Int)) hx hb dX8_valueOf_0 (by decide) ?_
    refine lv_istore_n (lv' := [(2, .int (iI ((0 : Int)))), (0, .ref (ad (1))), (1, .ref (ad (w1)))]) hx hb dX8_valueOf_1 rfl hl (by decide) rfl (fun ls hl => ?_)
    refine lv_iconst (v := iI (0 : Int)) hx hb dX8_valueOf_2 (by decide) ?_
    refine lv_istore_n (lv' := [(3, .int (iI ((0 : Int)))), (2, .int (iI ((0 : Int)))), (0, .ref (ad (1))), (1, .ref (ad (w1)))]) hx hb dX8_valueOf_3 rfl hl (by decide) rfl (fun ls hl => ?_)
    exact (L (100))  ((0 : Int)) ((0 : Int)) (by omega) (by omega) (by omega) hres _ _ ls hP hD hS (lv_sub hl [2, 3, 1, 0] rfl)
  exact key _ _ hP hS
theorem F_s_valueOf_sfr (w1 : Nat) : ∀ n : Nat, (∀ (y : KS) (v0 : Int) (v1 : Int), ksame [] [] y (F_s_valueOf_s w1 n 0 y v0 v1).2) := by
  intro n
  induction n with
  | zero => exact fun y _ _ => km_rf _ _ _
  | succ n ih =>
    skip
    · intro y v i
      rw [F_s_valueOf_e0]
      by_cases hc : ((y).1 (w1) 1) ≤ (i)
      · rw [if_pos hc]
        exact (km_rf _ _ _)
      · rw [if_neg hc]
        exact km_tr ((km_rf _ _ _)) (ih (y) (((v) * ((y).1 (1) 2)) + (((y).2 ((w1) + 1)) (i).toNat)) ((i) + (1 : Int)))
theorem F_s_valueOf_fr (x : KS) (w1 : Nat) : ksame [] [] x (F_s_valueOf x w1).2 := by
  unfold F_s_valueOf
  exact km_tr ((km_rf _ _ _)) ((F_s_valueOf_sfr w1 (100)) (x) ((0 : Int)) ((0 : Int)))
theorem F_s_valueOf_2 (x : KS) (w1 : Nat) : (F_s_valueOf x w1).2 = x := km_nil (F_s_valueOf_fr x w1)
def F_s_numberOf (x : KS) (w1 : Nat) : Int × KS := (((F_s_firstOf (x) ((x).1 (w1) 1)).1) + ((F_s_valueOf (x) (w1)).1), x)
set_option maxHeartbeats 4000000 in
set_option maxRecDepth 100000 in
/-- LikeWords$Scale, numberOf -/
theorem c_s_numberOf (l : Launch) (dC : Nat → ClassId) (dI : Nat → Nat → Nat) (ad : Nat → Nat) (cI cJ cZ cR : ClassId) (M wl sz : Nat) (x : KS) (w1 : Nat) (hM : 87 ≤ M) (hw_w1 : kW w1 = true) (hc_w1 : w1 + 1 < M) (sc : scR x) (u0 : 0 ≤ x.1 w1 1) (u1 : x.1 w1 1 ≤ kL w1) : Met l yX8_numberOf wsX8_numberOf ({ frames := 1, cells := 0, slots := 0, locals := 23 }) (kPc dC dI ad cI cJ cZ cR M wl sz x [.ref (ad 1), .ref (ad w1)]) (va_Qi (fun (r : Int32) (u : KS) => r = iI (F_s_numberOf x w1).1 ∧ u = (F_s_numberOf x w1).2) (kAt dC dI ad cI cJ cZ cR M wl (va_A (kWd cI cJ cZ cR wl ad M (x)) sz)) (va_A (kWd cI cJ cZ cR wl ad M (x)) sz)) 0 0 (va_A (kWd cI cJ cZ cR wl ad M (x)) sz) := by
  refine Met.ofW (cc := cX8_numberOf) (maxL := 2) (ret := (some .int)) (by decide) rfl ?_
  intro p e s m args below meth c s₁ B hml hv
  obtain ⟨rfl, hsz, hP, hK, hD0, hNw⟩ := hv
  have hx := B.exec
  have hb := B.bytes
  have hr := B.returns
  have hts := atoms_spec (ws := wsX8_numberOf) B.pre
  have hown : s.vm.findClass RX8 = some m.cls := findClass_of_methodNamed B.named
  have hlocks := B.notSynchronized
  have hinX10 : ∀ w ∈ u_ws RX10 TX10 2, w ∈ wsX8_numberOf := by decide +kernel
  subst hsz
  have hD := hD0.self (sz := s.heap.size)
  generalize hAe : va_A (kWd cI cJ cZ cR wl ad M (x)) s.heap.size = A at hD ⊢
  have hA : ∀ q : Nat, s.heap.size ≤ q → A q := fun q h => by rw [← hAe]; exact Or.inr h
  have hS : va_S A s.heap s.heap [] := va_S.rf
  have hl := lv_entry ([.ref (ad 1), .ref (ad w1)]) (n := 2) (Nat.le_of_ble_eq_true rfl)
  rw [lg_entry_eq]
  generalize (lg_sl ([.ref (ad 1), .ref (ad w1)]) ++ List.replicate (2 - (lg_sl ([.ref (ad 1), .ref (ad w1)])).length) Slot.unset).toArray = ls at hl ⊢
  have hl : lv_has ls 2 [(0, .ref (ad (1))), (1, .ref (ad (w1)))] := hl
  have k61 := kL_le w1
  have key : ∀ (H : Heap) (locs : List Loc), va_P (dC, dI) vwCl (kWd cI cJ cZ cR wl ad M (x)) H → va_S A s.heap H locs → W p l e (headSpec wsX8_numberOf ({ frames := 1, cells := 0, slots := 0, locals := 23 })).room s m ([.ref (ad 1), .ref (ad w1)] : List Value).toArray below meth c H locs 0 0 (MQ below (va_Qi (fun (r : Int32) (u : KS) => r = iI (F_s_numberOf x w1).1 ∧ u = (F_s_numberOf x w1).2) (kAt dC dI ad cI cJ cZ cR M wl A) A) ([.ref (ad 1), .ref (ad w1)] : List Value).toArray s 0 0 A) (F0 m 0 ls []) := by
    intro H locs hP hS
    have hres : (((F_s_firstOf (x) ((x).1 (w1) 1)).1) + ((F_s_valueOf (x) (w1)).1), x) = F_s_numberOf x w1 := rfl
    refine lv_aload_n hx hb dX8_numberOf_0 rfl (lv_at hl 0 rfl) ?_
    refine lv_aload_n hx hb dX8_numberOf_1 rfl (lv_at hl 1 rfl) ?_
    refine va_get (D := (dC, dI)) (ci := 10) (v := .int (iI ((x).1 (w1) 1))) (C := RX10) (T := TX10) (N := 2) hx hb hts hinX10 hown hK hP (w1) (kgw hw_w1 (by omega)) rfl 1 (by decide) (hts (.fieldLink RX8 35 "LikeWords$Word" "used" "I") (by decide +kernel)) (fun _ h9 => h9) rfl dX8_numberOf_2 ?_
    have hFc : ∀ q, va_A (kWd cI cJ cZ cR wl ad M (x)) H.size q → A q := fun q hq => Or.elim hq (fun ⟨k, e, hk⟩ => hD.2 k (q, e) hk) (fun hk => hA q (Nat.le_trans hS.1 hk))
    refine va_calli (va_runV (b := ad (1)) (As := [.int (iI ((x).1 (w1) 1))]) (rest := []) ⟨hx, hb, hml, hown, hts⟩ (c_s_firstOf l dC dI ad cI cJ cZ cR M wl H.size (x)  ((x).1 (w1) 1) hM sc (by unfold iR; omega)) (cwV 1 hts gX8_numberOf_X8_firstOf rfl rfl rfl (by decide +kernel) ⟨Nat.le_of_ble_eq_true rfl, Nat.le_of_ble_eq_true rfl⟩) ⟨fun a U g mk q => by obtain ⟨q0, q1, qP, qK, qD, qN⟩ := q; exact ⟨q0, q1, qP, va_K.moved (u := U) (U := U.calling g mk a) (Vm.Alike.refl U.vm) qK, qD, kNw.same (u := U) (U := U.calling g mk a) rfl qN⟩, va_recv hK hP (ci := 8) (q0 := 1) rfl (kg1 (by omega)), fun U hU hW => ⟨rfl, by rw [hU], by rw [hU]; exact hP, va_K.moved hW.alike hK, hD.weaken (fun _ _ _ _ => trivial), kNw.warm hW hNw⟩⟩ rfl rfl hl.1 rfl (lv_room (Nat.le_of_ble_eq_true rfl)) dX8_numberOf_5 ⟨Nat.le_of_ble_eq_true rfl, Nat.le_of_ble_eq_true rfl⟩) hS (fun q _ h => hFc q h) hFc (fun r9 u9 t H1 locs ht hvm hw hB hz1 hk1 hS => ?_)
    obtain ⟨hP1, hK1, hD1⟩ := hB
    rw [ht] at hP1
    obtain ⟨hw1, hw2⟩ := hw
    rw [hw2] at hP1 hD1
    rw [hw1]
    rw [F_s_firstOf_2] at hP1 hD1
    have hD2 := hD1.weaken (B := A) (fun _ q _ h => hFc q.1 h)
    have hP := hP1
    have hD := hD2
    generalize H1 = H at hP hS ⊢
    refine lv_aload_n hx hb dX8_numberOf_8 rfl (lv_at hl 0 rfl) ?_
    refine lv_aload_n hx hb dX8_numberOf_9 rfl (lv_at hl 1 rfl) ?_
    have hFc : ∀ q, va_A (kWd cI cJ cZ cR wl ad M (x)) H.size q → A q := fun q hq => Or.elim hq (fun ⟨k, e, hk⟩ => hD.2 k (q, e) hk) (fun hk => hA q (Nat.le_trans hS.1 hk))
    refine va_calli (va_runV (b := ad (1)) (As := [.ref (ad (w1))]) (rest := [.int (iI ((F_s_firstOf (x) ((x).1 (w1) 1)).1))]) ⟨hx, hb, hml, hown, hts⟩ (c_s_valueOf l dC dI ad cI cJ cZ cR M wl H.size (x) (w1)  hM hw_w1 (by omega) u0 u1) (cwV 1 hts gX8_numberOf_X8_valueOf rfl rfl rfl (by decide +kernel) ⟨Nat.le_of_ble_eq_true rfl, Nat.le_of_ble_eq_true rfl⟩) ⟨fun a U g mk q => by obtain ⟨q0, q1, qP, qK, qD, qN⟩ := q; exact ⟨q0, q1, qP, va_K.moved (u := U) (U := U.calling g mk a) (Vm.Alike.refl U.vm) qK, qD, kNw.same (u := U) (U := U.calling g mk a) rfl qN⟩, va_recv hK hP (ci := 8) (q0 := 1) rfl (kg1 (by omega)), fun U hU hW => ⟨rfl, by rw [hU], by rw [hU]; exact hP, va_K.moved hW.alike hK, hD.weaken (fun _ _ _ _ => trivial), kNw.warm hW hNw⟩⟩ rfl rfl hl.1 rfl (lv_room (Nat.le_of_ble_eq_true rfl)) dX8_numberOf_10 ⟨Nat.le_of_ble_eq_true rfl, Nat.le_of_ble_eq_true rfl⟩) hS (fun q _ h => hFc q h) hFc (fun r9 u9 t H1 locs ht hvm hw hB hz1 hk1 hS => ?_)
    obtain ⟨hP1, hK1, hD1⟩ := hB
    rw [ht] at hP1
    obtain ⟨hw1, hw2⟩ := hw
    rw [hw2] at hP1 hD1
    rw [hw1]
    rw [F_s_valueOf_2] at hP1 hD1
    have hD2 := hD1.weaken (B := A) (fun _ q _ h => hFc q.1 h)
    have hP := hP1
    have hD := hD2
    generalize H1 = H at hP hS ⊢
    refine wi_iadd hx hb dX8_numberOf_13 ?_
    exact W.iret (v := iI (((F_s_firstOf (x) ((x).1 (w1) 1)).1) + ((F_s_valueOf (x) (w1)).1))) hx hb hr (fun t ht hW => ⟨⟨iI (((F_s_firstOf (x) ((x).1 (w1) 1)).1) + ((F_s_valueOf (x) (w1)).1)), x, rfl, ⟨(by have h9 := congrArg (fun z : Int × KS => iI z.1) hres; exact h9), (by have h9 := congrArg (fun z : Int × KS => z.2) hres; exact h9)⟩, by rw [ht]; exact hP, va_K.moved hW.alike hK, hD⟩, hS.F ht⟩) hS.2.2 dX8_numberOf_14
  exact key _ _ hP hS
theorem F_s_numberOf_fr (x : KS) (w1 : Nat) : ksame [] [] x (F_s_numberOf x w1).2 := by
  unfold F_s_numberOf
  exact (km_rf _ _ _)
theorem F_s_numberOf_2 (x : KS) (w1 : Nat) : (F_s_numberOf x w1).2 = x := km_nil (F_s_numberOf_fr x w1)
def F_s_codeOf_s  : Nat → Nat → KS → Int → Int → Int → Int → Int → Int × KS
  | 0, _, x, _, _, _, _, _ => (0, x)
  | n + 1, t, x, p0, p1, p2, p3, p4 => match t with
    | 0 => (fun (v : Int) (g : Int) (b : Int) (q : Int) (i : Int) => (if (g) ≤ (i) then (q, x) else F_s_codeOf_s n 0 (x) (v) (g) ((b) / ((x).1 (1) 2)) (iO (q) (iSl ((b) % ((x).1 (1) 2)) (((2 : Int)) * (i)))) ((i) + (1 : Int)))) p0 p1 p2 p3 p4
    | _ => (0, x)
theorem F_s_codeOf_e0  (n : Nat) (x : KS) (v : Int) (g : Int) (b : Int) (q : Int) (i : Int) : F_s_codeOf_s (n + 1) 0 x v g b q i = (if (g) ≤ (i) then (q, x) else F_s_codeOf_s n 0 (x) (v) (g) ((b) / ((x).1 (1) 2)) (iO (q) (iSl ((b) % ((x).1 (1) 2)) (((2 : Int)) * (i)))) ((i) + (1 : Int))) := rfl
def F_s_codeOf (x : KS) (v : Int) : Int × KS := F_s_codeOf_s 30 0 (x) (v) ((F_s_spanOf (x) (v)).1) ((v) - ((F_s_firstOf (x) ((F_s_spanOf (x) (v)).1)).1)) ((0 : Int)) ((0 : Int))
set_option maxHeartbeats 4000000 in
set_option maxRecDepth 100000 in
/-- LikeWords$Scale, codeOf -/
theorem c_s_codeOf (l : Launch) (dC : Nat → ClassId) (dI : Nat → Nat → Nat) (ad : Nat → Nat) (cI cJ cZ cR : ClassId) (M wl sz : Nat) (x : KS) (v : Int) (hM : 87 ≤ M) (sc : scR x) (v0 : 0 ≤ v) (v1 : v ≤ 20000) : Met l yX8_codeOf wsX8_codeOf ({ frames := 1, cells := 0, slots := 0, locals := 22 }) (kPc dC dI ad cI cJ cZ cR M wl sz x [.ref (ad 1), .int (iI v)]) (va_Ql (fun (r : Int64) (u : KS) => r = iL (F_s_codeOf x v).1 ∧ u = (F_s_codeOf x v).2) (kAt dC dI ad cI cJ cZ cR M wl (va_A (kWd cI cJ cZ cR wl ad M (x)) sz)) (va_A (kWd cI cJ cZ cR wl ad M (x)) sz)) 0 0 (va_A (kWd cI cJ cZ cR wl ad M (x)) sz) := by
  refine Met.ofW (cc := cX8_codeOf) (maxL := 7) (ret := (some .long)) (by decide) rfl ?_
  intro p e s m args below meth c s₁ B hml hv
  obtain ⟨rfl, hsz, hP, hK, hD0, hNw⟩ := hv
  have hx := B.exec
  have hb := B.bytes
  have hr := B.returns
  have hts := atoms_spec (ws := wsX8_codeOf) B.pre
  have hown : s.vm.findClass RX8 = some m.cls := findClass_of_methodNamed B.named
  have hlocks := B.notSynchronized
  have hinX8 : ∀ w ∈ u_ws RX8 TX8 4, w ∈ wsX8_codeOf := by decide +kernel
  subst hsz
  have hD := hD0.self (sz := s.heap.size)
  generalize hAe : va_A (kWd cI cJ cZ cR wl ad M (x)) s.heap.size = A at hD ⊢
  have hA : ∀ q : Nat, s.heap.size ≤ q → A q := fun q h => by rw [← hAe]; exact Or.inr h
  have hS : va_S A s.heap s.heap [] := va_S.rf
  have hl := lv_entry ([.ref (ad 1), .int (iI v)]) (n := 7) (Nat.le_of_ble_eq_true rfl)
  rw [lg_entry_eq]
  generalize (lg_sl ([.ref (ad 1), .int (iI v)]) ++ List.replicate (7 - (lg_sl ([.ref (ad 1), .int (iI v)])).length) Slot.unset).toArray = ls at hl ⊢
  have hl : lv_has ls 7 [(0, .ref (ad (1))), (1, .int (iI (v)))] := hl
  have sb := F_s_spanOf_b sc v0
  have fv := F_s_firstOf_v sb.1 sb.2.1
  obtain ⟨⟨l0, l1⟩, ⟨g0, g1⟩, pw, fi, f00⟩ := id sc
  have L : ∀ n : Nat, (∀ (g : Int) (b : Int) (q : Int) (i : Int), (0 ≤ g ∧ g ≤ 20) → (0 ≤ b) → (b ≤ 20000) → (0 ≤ i) → (i ≤ 20) → (20 - i < n) → F_s_codeOf_s n 0 x v g b q i = F_s_codeOf x v → ∀ (H : Heap) (locs : List Loc) (ls : Array Slot), va_P (dC, dI) vwCl (kWd cI cJ cZ cR wl ad M (x)) H → va_D A (kWd cI cJ cZ cR wl ad M (x)) → va_S A s.heap H locs → lv_has ls 7 [(0, .ref (ad (1))), (1, .int (iI (v))), (2, .int (iI (g))), (3, .int (iI (b))), (4, .long (iL (q))), (6, .int (iI (i)))] → W p l e (headSpec wsX8_codeOf ({ frames := 1, cells := 0, slots := 0, locals := 22 })).room s m ([.ref (ad 1), .int (iI v)] : List Value).toArray below meth c H locs 0 0 (MQ below (va_Ql (fun (r : Int64) (u : KS) => r = iL (F_s_codeOf x v).1 ∧ u = (F_s_codeOf x v).2) (kAt dC dI ad cI cJ cZ cR M wl A) A) ([.ref (ad 1), .int (iI v)] : List Value).toArray s 0 0 A) (F0 m 20 ls [])) := by
    intro n
    induction n with
    | zero =>
      skip
      · intro g b q i gg b0 b1 i0 i1 fu hres
        exact absurd fu (by omega)
    | succ n ih =>
      skip
      · intro g b q i gg b0 b1 i0 i1 fu hres H locs ls hP hD hS hl
        rw [F_s_codeOf_e0] at hres
        have dv := kdiv_b (a := b) (b := x.1 1 2) l0 b0
        refine lv_iload hx hb dX8_codeOf_20 (lv_at hl 5 rfl) ?_
        refine lv_iload_n hx hb dX8_codeOf_22 rfl (lv_at hl 2 rfl) ?_
        refine wi_icmp_ge (tgt := 56) hx hb (by first | assumption | (unfold iR; omega) | exact kR01 (by assumption)) (by first | assumption | (unfold iR; omega) | exact kR01 (by assumption)) dX8_codeOf_23 (by decide) (fun c_23 => ?_) (fun c_23 => ?_)
        · skip
          rw [if_pos c_23] at hres
          refine lv_lload hx hb dX8_codeOf_56 (lv_at hl 4 rfl) ?_
          exact W.lret (v := iL (q)) hx hb hr (fun t ht hW => ⟨⟨iL (q), x, rfl, ⟨(by have h9 := congrArg (fun z : Int × KS => iL z.1) hres; exact h9), (by have h9 := congrArg (fun z : Int × KS => z.2) hres; exact h9)⟩, by rw [ht]; exact hP, va_K.moved hW.alike hK, hD⟩, hS.F ht⟩) hS.2.2 dX8_codeOf_58
        · skip
          rw [if_neg c_23] at hres
          refine lv_lload hx hb dX8_codeOf_26 (lv_at hl 4 rfl) ?_
          refine lv_iload_n hx hb dX8_codeOf_28 rfl (lv_at hl 3 rfl) ?_
          refine lv_aload_n hx hb dX8_codeOf_29 rfl (lv_at hl 0 rfl) ?_
          refine va_get (D := (dC, dI)) (ci := 8) (v := .int (iI ((x).1 (1) 2))) (C := RX8) (T := TX8) (N := 4) hx hb hts hinX8 hown hK hP (1) (kg1 (by omega)) rfl 2 (by decide) (hts (.fieldLink RX8 28 "LikeWords$Scale" "letterCount" "I") (by decide +kernel)) (fun _ h9 => h9) rfl dX8_codeOf_30 ?_
          refine wi_irem hx hb (by unfold iR; omega) (by unfold iR; omega) (by omega) (by omega) dX8_codeOf_33 ?_
          refine wi_i2l hx hb (kmod_R l0 l1) dX8_codeOf_34 ?_
          refine lv_iconst (v := iI (2 : Int)) hx hb dX8_codeOf_35 (by decide) ?_
          refine lv_iload hx hb dX8_codeOf_36 (lv_at hl 5 rfl) ?_
          refine wi_imul hx hb dX8_codeOf_38 ?_
          refine wk_lshl hx hb dX8_codeOf_39 ?_
          refine wk_lor hx hb dX8_codeOf_40 ?_
          refine lv_lstore (lv' := [(4, .long (iL (iO (q) (iSl ((b) % ((x).1 (1) 2)) (((2 : Int)) * (i)))))), (0, .ref (ad (1))), (1, .int (iI (v))), (2, .int (iI (g))), (3, .int (iI (b))), (6, .int (iI (i)))]) hx hb dX8_codeOf_41 hl (by decide) rfl (fun ls hl => ?_)
          refine lv_iload_n hx hb dX8_codeOf_43 rfl (lv_at hl 4 rfl) ?_
          refine lv_aload_n hx hb dX8_codeOf_44 rfl (lv_at hl 1 rfl) ?_
          refine va_get (D := (dC, dI)) (ci := 8) (v := .int (iI ((x).1 (1) 2))) (C := RX8) (T := TX8) (N := 4) hx hb hts hinX8 hown hK hP (1) (kg1 (by omega)) rfl 2 (by decide) (hts (.fieldLink RX8 28 "LikeWords$Scale" "letterCount" "I") (by decide +kernel)) (fun _ h9 => h9) rfl dX8_codeOf_45 ?_
          refine wi_idiv hx hb (by unfold iR; omega) (by unfold iR; omega) (by omega) (by omega) dX8_codeOf_48 ?_
          refine lv_istore_n (lv' := [(3, .int (iI ((b) / ((x).1 (1) 2)))), (4, .long (iL (iO (q) (iSl ((b) % ((x).1 (1) 2)) (((2 : Int)) * (i)))))), (0, .ref (ad (1))), (1, .int (iI (v))), (2, .int (iI (g))), (6, .int (iI (i)))]) hx hb dX8_codeOf_49 rfl hl (by decide) rfl (fun ls hl => ?_)
          refine lv_iinc (v := iI ((i) + (1 : Int))) (lv' := [(6, .int (iI ((i) + (1 : Int)))), (3, .int (iI ((b) / ((x).1 (1) 2)))), (4, .long (iL (iO (q) (iSl ((b) % ((x).1 (1) 2)) (((2 : Int)) * (i)))))), (0, .ref (ad (1))), (1, .int (iI (v))), (2, .int (iI (g)))]) hx hb dX8_codeOf_50 hl (k := 5) rfl (iI_add _ _) (by decide) rfl (fun ls hl => ?_)
          refine lv_goto (tgt := 20) hx hb dX8_codeOf_53 (by decide) ?_
          exact ih  (g) ((b) / ((x).1 (1) 2)) (iO (q) (iSl ((b) % ((x).1 (1) 2)) (((2 : Int)) * (i)))) ((i) + (1 : Int)) (gg) (by omega) (by omega) (by omega) (by omega) (by omega) hres _ _ ls hP hD hS (lv_sub hl [3, 4, 5, 1, 2, 0] rfl)
  have key : ∀ (H : Heap) (locs : List Loc), va_P (dC, dI) vwCl (kWd cI cJ cZ cR wl ad M (x)) H → va_S A s.heap H locs → W p l e (headSpec wsX8_codeOf ({ frames := 1, cells := 0, slots := 0, locals := 22 })).room s m ([.ref (ad 1), .int (iI v)] : List Value).toArray below meth c H locs 0 0 (MQ below (va_Ql (fun (r : Int64) (u : KS) => r = iL (F_s_codeOf x v).1 ∧ u = (F_s_codeOf x v).2) (kAt dC dI ad cI cJ cZ cR M wl A) A) ([.ref (ad 1), .int (iI v)] : List Value).toArray s 0 0 A) (F0 m 0 ls []) := by
    intro H locs hP hS
    have hres : F_s_codeOf_s 30 0 (x) (v) ((F_s_spanOf (x) (v)).1) ((v) - ((F_s_firstOf (x) ((F_s_spanOf (x) (v)).1)).1)) ((0 : Int)) ((0 : Int)) = F_s_codeOf x v := rfl
    refine lv_aload_n hx hb dX8_codeOf_0 rfl (lv_at hl 0 rfl) ?_
    refine lv_iload_n hx hb dX8_codeOf_1 rfl (lv_at hl 1 rfl) ?_
    have hFc : ∀ q, va_A (kWd cI cJ cZ cR wl ad M (x)) H.size q → A q := fun q hq => Or.elim hq (fun ⟨k, e, hk⟩ => hD.2 k (q, e) hk) (fun hk => hA q (Nat.le_trans hS.1 hk))
    refine va_calli (va_runV (b := ad (1)) (As := [.int (iI (v))]) (rest := []) ⟨hx, hb, hml, hown, hts⟩ (c_s_spanOf l dC dI ad cI cJ cZ cR M wl H.size (x)  (v) hM sc (by unfold iR; omega)) (cwV 1 hts gX8_codeOf_X8_spanOf rfl rfl rfl (by decide +kernel) ⟨Nat.le_of_ble_eq_true rfl, Nat.le_of_ble_eq_true rfl⟩) ⟨fun a U g mk q => by obtain ⟨q0, q1, qP, qK, qD, qN⟩ := q; exact ⟨q0, q1, qP, va_K.moved (u := U) (U := U.calling g mk a) (Vm.Alike.refl U.vm) qK, qD, kNw.same (u := U) (U := U.calling g mk a) rfl qN⟩, va_recv hK hP (ci := 8) (q0 := 1) rfl (kg1 (by omega)), fun U hU hW => ⟨rfl, by rw [hU], by rw [hU]; exact hP, va_K.moved hW.alike hK, hD.weaken (fun _ _ _ _ => trivial), kNw.warm hW hNw⟩⟩ rfl rfl hl.1 rfl (lv_room (Nat.le_of_ble_eq_true rfl)) dX8_codeOf_2 ⟨Nat.le_of_ble_eq_true rfl, Nat.le_of_ble_eq_true rfl⟩) hS (fun q _ h => hFc q h) hFc (fun r9 u9 t H1 locs ht hvm hw hB hz1 hk1 hS => ?_)
    obtain ⟨hP1, hK1, hD1⟩ := hB
    rw [ht] at hP1
    obtain ⟨hw1, hw2⟩ := hw
    rw [hw2] at hP1 hD1
    rw [hw1]
    rw [F_s_spanOf_2] at hP1 hD1
    have hD2 := hD1.weaken (B := A) (fun _ q _ h => hFc q.1 h)
    have hP := hP1
    have hD := hD2
    generalize H1 = H at hP hS ⊢
    refine lv_istore_n (lv' := [(2, .int (iI ((F_s_spanOf (x) (v)).1))), (0, .ref (ad (1))), (1, .int (iI (v)))]) hx hb dX8_codeOf_5 rfl hl (by decide) rfl (fun ls hl => ?_)
    refine lv_iload_n hx hb dX8_codeOf_6 rfl (lv_at hl 2 rfl) ?_
    refine lv_aload_n hx hb dX8_codeOf_7 rfl (lv_at hl 1 rfl) ?_
    refine lv_iload_n hx hb dX8_codeOf_8 rfl (lv_at hl 0 rfl) ?_
    have hFc : ∀ q, va_A (kWd cI cJ cZ cR wl ad M (x)) H.size q → A q := fun q hq => Or.elim hq (fun ⟨k, e, hk⟩ => hD.2 k (q, e) hk) (fun hk => hA q (Nat.le_trans hS.1 hk))
    refine va_calli (va_runV (b := ad (1)) (As := [.int (iI ((F_s_spanOf (x) (v)).1))]) (rest := [.int (iI (v))]) ⟨hx, hb, hml, hown, hts⟩ (c_s_firstOf l dC dI ad cI cJ cZ cR M wl H.size (x)  ((F_s_spanOf (x) (v)).1) hM sc (by unfold iR; omega)) (cwV 1 hts gX8_codeOf_X8_firstOf rfl rfl rfl (by decide +kernel) ⟨Nat.le_of_ble_eq_true rfl, Nat.le_of_ble_eq_true rfl⟩) ⟨fun a U g mk q => by obtain ⟨q0, q1, qP, qK, qD, qN⟩ := q; exact ⟨q0, q1, qP, va_K.moved (u := U) (U := U.calling g mk a) (Vm.Alike.refl U.vm) qK, qD, kNw.same (u := U) (U := U.calling g mk a) rfl qN⟩, va_recv hK hP (ci := 8) (q0 := 1) rfl (kg1 (by omega)), fun U hU hW => ⟨rfl, by rw [hU], by rw [hU]; exact hP, va_K.moved hW.alike hK, hD.weaken (fun _ _ _ _ => trivial), kNw.warm hW hNw⟩⟩ rfl rfl hl.1 rfl (lv_room (Nat.le_of_ble_eq_true rfl)) dX8_codeOf_9 ⟨Nat.le_of_ble_eq_true rfl, Nat.le_of_ble_eq_true rfl⟩) hS (fun q _ h => hFc q h) hFc (fun r9 u9 t H1 locs ht hvm hw hB hz1 hk1 hS => ?_)
    obtain ⟨hP1, hK1, hD1⟩ := hB
    rw [ht] at hP1
    obtain ⟨hw1, hw2⟩ := hw
    rw [hw2] at hP1 hD1
    rw [hw1]
    rw [F_s_firstOf_2] at hP1 hD1
    have hD2 := hD1.weaken (B := A) (fun _ q _ h => hFc q.1 h)
    have hP := hP1
    have hD := hD2
    generalize H1 = H at hP hS ⊢
    refine wi_isub hx hb dX8_codeOf_12 ?_
    refine lv_istore_n (lv' := [(3, .int (iI ((v) - ((F_s_firstOf (x) ((F_s_spanOf (x) (v)).1)).1)))), (2, .int (iI ((F_s_spanOf (x) (v)).1))), (0, .ref (ad (1))), (1, .int (iI (v)))]) hx hb dX8_codeOf_13 rfl hl (by decide) rfl (fun ls hl => ?_)
    refine lv_lconst (v := iL 0) hx hb dX8_codeOf_14 (by decide) ?_
    refine lv_lstore (lv' := [(4, .long (iL ((0 : Int)))), (3, .int (iI ((v) - ((F_s_firstOf (x) ((F_s_spanOf (x) (v)).1)).1)))), (2, .int (iI ((F_s_spanOf (x) (v)).1))), (0, .ref (ad (1))), (1, .int (iI (v)))]) hx hb dX8_codeOf_15 hl (by decide) rfl (fun ls hl => ?_)
    refine lv_iconst (v := iI (0 : Int)) hx hb dX8_codeOf_17 (by decide) ?_
    refine lv_istore (lv' := [(6, .int (iI ((0 : Int)))), (4, .long (iL ((0 : Int)))), (3, .int (iI ((v) - ((F_s_firstOf (x) ((F_s_spanOf (x) (v)).1)).1)))), (2, .int (iI ((F_s_spanOf (x) (v)).1))), (0, .ref (ad (1))), (1, .int (iI (v)))]) hx hb dX8_codeOf_18 hl (by decide) rfl (fun ls hl => ?_)
    exact (L (30))  ((F_s_spanOf (x) (v)).1) ((v) - ((F_s_firstOf (x) ((F_s_spanOf (x) (v)).1)).1)) ((0 : Int)) ((0 : Int)) (by omega) (by omega) (by have := fi (F_s_spanOf x v).1.toNat (by omega); omega) (by omega) (by omega) (by omega) hres _ _ ls hP hD hS (lv_sub hl [4, 5, 3, 2, 1, 0] rfl)
  exact key _ _ hP hS
theorem F_s_codeOf_sfr  : ∀ n : Nat, (∀ (y : KS) (v0 : Int) (v1 : Int) (v2 : Int) (v3 : Int) (v4 : Int), ksame [] [] y (F_s_codeOf_s n 0 y v0 v1 v2 v3 v4).2) := by
  intro n
  induction n with
  | zero => exact fun y _ _ _ _ _ => km_rf _ _ _
  | succ n ih =>
    skip
    · intro y v g b q i
      rw [F_s_codeOf_e0]
      by_cases hc : (g) ≤ (i)
      · rw [if_pos hc]
        exact (km_rf _ _ _)
      · rw [if_neg hc]
        exact km_tr ((km_rf _ _ _)) (ih (y) (v) (g) ((b) / ((y).1 (1) 2)) (iO (q) (iSl ((b) % ((y).1 (1) 2)) (((2 : Int)) * (i)))) ((i) + (1 : Int)))
theorem F_s_codeOf_fr (x : KS) (v : Int) : ksame [] [] x (F_s_codeOf x v).2 := by
  unfold F_s_codeOf
  exact km_tr ((km_rf _ _ _)) ((F_s_codeOf_sfr  (30)) (x) (v) ((F_s_spanOf (x) (v)).1) ((v) - ((F_s_firstOf (x) ((F_s_spanOf (x) (v)).1)).1)) ((0 : Int)) ((0 : Int)))
theorem F_s_codeOf_2 (x : KS) (v : Int) : (F_s_codeOf x v).2 = x := km_nil (F_s_codeOf_fr x v)
def F_s_write_s (w1 : Nat) : Nat → Nat → KS → Int → Int → Int → Int × KS
  | 0, _, x, _, _, _ => (0, x)
  | n + 1, t, x, p0, p1, p2 => match t with
    | 0 => (fun (v : Int) (q : Int) (i : Int) => (if (i) < (0) then (0, x) else F_s_write_s w1 n 0 ((F_w_push (x) (w1) (iNI (iSr (q) (((2 : Int)) * (i))) ((3 : Int)))).2) (v) (q) ((i) + (-1 : Int)))) p0 p1 p2
    | _ => (0, x)
theorem F_s_write_e0 (w1 : Nat) (n : Nat) (x : KS) (v : Int) (q : Int) (i : Int) : F_s_write_s w1 (n + 1) 0 x v q i = (if (i) < (0) then (0, x) else F_s_write_s w1 n 0 ((F_w_push (x) (w1) (iNI (iSr (q) (((2 : Int)) * (i))) ((3 : Int)))).2) (v) (q) ((i) + (-1 : Int))) := rfl
def F_s_write (x : KS) (w1 : Nat) (v : Int) : Int × KS := F_s_write_s w1 30 0 ((F_w_wipe (x) (w1)).2) (v) ((F_s_codeOf (x) (v)).1) (((F_s_spanOf ((F_w_wipe (x) (w1)).2) (v)).1) - ((1 : Int)))
set_option maxHeartbeats 4000000 in
set_option maxRecDepth 100000 in
/-- LikeWords$Scale, write -/
theorem c_s_write (l : Launch) (dC : Nat → ClassId) (dI : Nat → Nat → Nat) (ad : Nat → Nat) (cI cJ cZ cR : ClassId) (M wl sz : Nat) (x : KS) (w1 : Nat) (v : Int) (hM : 87 ≤ M) (hw_w1 : kW w1 = true) (hc_w1 : w1 + 1 < M) (sc : scR x) (v0 : 0 ≤ v) (v1 : v ≤ 20000) : Met l yX8_write wsX8_write ({ frames := 2, cells := 0, slots := 0, locals := 48 }) (kPc dC dI ad cI cJ cZ cR M wl sz x [.ref (ad 1), .int (iI v), .ref (ad w1)]) (va_Qv (fun u : KS => u = (F_s_write x w1 v).2) (kAt dC dI ad cI cJ cZ cR M wl (va_A (kWd cI cJ cZ cR wl ad M (x)) sz)) (va_A (kWd cI cJ cZ cR wl ad M (x)) sz)) 0 0 (va_A (kWd cI cJ cZ cR wl ad M (x)) sz) := by
  refine Met.ofW (cc := cX8_write) (maxL := 6) (ret := none) (by decide) rfl ?_
  intro p e s m args below meth c s₁ B hml hv
  obtain ⟨rfl, hsz, hP, hK, hD0, hNw⟩ := hv
  have hx := B.exec
  have hb := B.bytes
  have hr := B.returns
  have hts := atoms_spec (ws := wsX8_write) B.pre
  have hown : s.vm.findClass RX8 = some m.cls := findClass_of_methodNamed B.named
  have hlocks := B.notSynchronized
  subst hsz
  have hD := hD0.self (sz := s.heap.size)
  generalize hAe : va_A (kWd cI cJ cZ cR wl ad M (x)) s.heap.size = A at hD ⊢
  have hA : ∀ q : Nat, s.heap.size ≤ q → A q := fun q h => by rw [← hAe]; exact Or.inr h
  have hS : va_S A s.heap s.heap [] := va_S.rf
  have hl := lv_entry ([.ref (ad 1), .int (iI v), .ref (ad w1)]) (n := 6) (Nat.le_of_ble_eq_true rfl)
  rw [lg_entry_eq]
  generalize (lg_sl ([.ref (ad 1), .int (iI v), .ref (ad w1)]) ++ List.replicate (6 - (lg_sl ([.ref (ad 1), .int (iI v), .ref (ad w1)])).length) Slot.unset).toArray = ls at hl ⊢
  have hl : lv_has ls 6 [(0, .ref (ad (1))), (1, .int (iI (v))), (2, .ref (ad (w1)))] := hl
  have sb := F_s_spanOf_b sc v0
  have k61 := kL_le w1
  have scw : scR (F_w_wipe x w1).2 := scR_wipe hw_w1 sc
  have gw : (F_w_wipe x w1).2.1 1 3 = x.1 1 3 := congrFun (kS_c (Ne.symm (kW_ne hw_w1 rfl))) 3
  have L : ∀ n : Nat, (∀ (y : KS) (q : Int) (i : Int), (0 ≤ y.1 w1 1) → (y.1 w1 1 ≤ kL w1) → (-1 ≤ i) → (i ≤ 20) → (i + 1 < n) → F_s_write_s w1 n 0 y v q i = F_s_write x w1 v → ∀ (H : Heap) (locs : List Loc) (ls : Array Slot), va_P (dC, dI) vwCl (kWd cI cJ cZ cR wl ad M (y)) H → va_D A (kWd cI cJ cZ cR wl ad M (y)) → va_S A s.heap H locs → lv_has ls 6 [(0, .ref (ad (1))), (1, .int (iI (v))), (2, .ref (ad (w1))), (3, .long (iL (q))), (5, .int (iI (i)))] → W p l e (headSpec wsX8_write ({ frames := 2, cells := 0, slots := 0, locals := 48 })).room s m ([.ref (ad 1), .int (iI v), .ref (ad w1)] : List Value).toArray below meth c H locs 0 0 (MQ below (va_Qv (fun u : KS => u = (F_s_write x w1 v).2) (kAt dC dI ad cI cJ cZ cR M wl A) A) ([.ref (ad 1), .int (iI v), .ref (ad w1)] : List Value).toArray s 0 0 A) (F0 m 19 ls [])) := by
    intro n
    induction n with
    | zero =>
      skip
      · intro y q i y0 y1 i0 i1 fu hres
        exact absurd fu (by omega)
    | succ n ih =>
      skip
      · intro y q i y0 y1 i0 i1 fu hres H locs ls hP hD hS hl
        rw [F_s_write_e0] at hres
        refine lv_iload hx hb dX8_write_19 (lv_at hl 4 rfl) ?_
        refine wi_if_lt (tgt := 44) hx hb (by first | assumption | (unfold iR; omega) | exact kR01 (by assumption)) dX8_write_21 (by decide) (fun c_21 => ?_) (fun c_21 => ?_)
        · skip
          rw [if_pos c_21] at hres
          exact W.vret hx hb hr (fun t ht hW => ⟨⟨y, rfl, (by have h9 := congrArg (fun z : Int × KS => z.2) hres; exact h9), by rw [ht]; exact hP, va_K.moved hW.alike hK, hD⟩, hS.F ht⟩) hS.2.2 dX8_write_44
        · skip
          rw [if_neg c_21] at hres
          refine lv_aload_n hx hb dX8_write_24 rfl (lv_at hl 2 rfl) ?_
          refine lv_lload_n hx hb dX8_write_25 rfl (lv_at hl 3 rfl) ?_
          refine lv_iconst (v := iI (2 : Int)) hx hb dX8_write_26 (by decide) ?_
          refine lv_iload hx hb dX8_write_27 (lv_at hl 4 rfl) ?_
          refine wi_imul hx hb dX8_write_29 ?_
          refine wk_lshr hx hb dX8_write_30 ?_
          refine wk_l2i hx hb dX8_write_31 ?_
          refine lv_iconst (v := iI (3 : Int)) hx hb dX8_write_32 (by decide) ?_
          refine wk_iand hx hb dX8_write_33 ?_
          have hFc : ∀ q, va_A (kWd cI cJ cZ cR wl ad M (y)) H.size q → A q := fun q hq => Or.elim hq (fun ⟨k, e, hk⟩ => hD.2 k (q, e) hk) (fun hk => hA q (Nat.le_trans hS.1 hk))
          refine va_calli (va_runV (b := ad (w1)) (As := [.int (iI (iNI (iSr (q) (((2 : Int)) * (i))) ((3 : Int))))]) (rest := []) ⟨hx, hb, hml, hown, hts⟩ (c_w_push l dC dI ad cI cJ cZ cR M wl H.size (y) (w1) (iNI (iSr (q) (((2 : Int)) * (i))) ((3 : Int))) hM hw_w1 (by omega) y0 y1) (cwV 1 hts gX8_write_X10_push rfl rfl rfl (by decide +kernel) ⟨Nat.le_of_ble_eq_true rfl, Nat.le_of_ble_eq_true rfl⟩) ⟨fun a U g mk q => by obtain ⟨q0, q1, qP, qK, qD, qN⟩ := q; exact ⟨q0, q1, qP, va_K.moved (u := U) (U := U.calling g mk a) (Vm.Alike.refl U.vm) qK, qD, kNw.same (u := U) (U := U.calling g mk a) rfl qN⟩, va_recv hK hP (ci := 10) (q0 := w1) rfl (kgw hw_w1 (by omega)), fun U hU hW => ⟨rfl, by rw [hU], by rw [hU]; exact hP, va_K.moved hW.alike hK, hD.weaken (fun _ _ _ _ => trivial), kNw.warm hW hNw⟩⟩ rfl rfl hl.1 rfl (lv_room (Nat.le_of_ble_eq_true rfl)) dX8_write_34 ⟨Nat.le_of_ble_eq_true rfl, Nat.le_of_ble_eq_true rfl⟩) hS (fun q _ h => hFc q h) hFc (fun r9 u9 t H1 locs ht hvm hw hB hz1 hk1 hS => ?_)
          obtain ⟨hP1, hK1, hD1⟩ := hB
          rw [ht] at hP1
          obtain ⟨hw1, hw2⟩ := hw
          rw [hw2] at hP1 hD1
          rw [hw1]
          have hD2 := hD1.weaken (B := A) (fun _ q _ h => hFc q.1 h)
          have hP := hP1
          have hD := hD2
          generalize H1 = H at hP hS ⊢
          refine lv_pop hx hb dX8_write_37 rfl ?_
          refine lv_iinc (v := iI ((i) + (-1 : Int))) (lv' := [(5, .int (iI ((i) + (-1 : Int)))), (0, .ref (ad (1))), (1, .int (iI (v))), (2, .ref (ad (w1))), (3, .long (iL (q)))]) hx hb dX8_write_38 hl (k := 4) rfl (iI_add _ _) (by decide) rfl (fun ls hl => ?_)
          refine lv_goto (tgt := 19) hx hb dX8_write_41 (by decide) ?_
          exact ih ((F_w_push (y) (w1) (iNI (iSr (q) (((2 : Int)) * (i))) ((3 : Int)))).2) (q) ((i) + (-1 : Int)) ((F_w_push_b hw_w1 y0 y1).1) ((F_w_push_b hw_w1 y0 y1).2) (by omega) (by omega) (by omega) hres _ _ ls hP hD hS (lv_sub hl [1, 2, 3, 4, 0] rfl)
  have key : ∀ (H : Heap) (locs : List Loc), va_P (dC, dI) vwCl (kWd cI cJ cZ cR wl ad M (x)) H → va_S A s.heap H locs → W p l e (headSpec wsX8_write ({ frames := 2, cells := 0, slots := 0, locals := 48 })).room s m ([.ref (ad 1), .int (iI v), .ref (ad w1)] : List Value).toArray below meth c H locs 0 0 (MQ below (va_Qv (fun u : KS => u = (F_s_write x w1 v).2) (kAt dC dI ad cI cJ cZ cR M wl A) A) ([.ref (ad 1), .int (iI v), .ref (ad w1)] : List Value).toArray s 0 0 A) (F0 m 0 ls []) := by
    intro H locs hP hS
    have hres : F_s_write_s w1 30 0 ((F_w_wipe (x) (w1)).2) (v) ((F_s_codeOf (x) (v)).1) (((F_s_spanOf ((F_w_wipe (x) (w1)).2) (v)).1) - ((1 : Int))) = F_s_write x w1 v := rfl
    refine lv_aload_n hx hb dX8_write_0 rfl (lv_at hl 0 rfl) ?_
    refine lv_iload_n hx hb dX8_write_1 rfl (lv_at hl 1 rfl) ?_
    have hFc : ∀ q, va_A (kWd cI cJ cZ cR wl ad M (x)) H.size q → A q := fun q hq => Or.elim hq (fun ⟨k, e, hk⟩ => hD.2 k (q, e) hk) (fun hk => hA q (Nat.le_trans hS.1 hk))
    refine va_calll (va_runV (b := ad (1)) (As := [.int (iI (v))]) (rest := []) ⟨hx, hb, hml, hown, hts⟩ (c_s_codeOf l dC dI ad cI cJ cZ cR M wl H.size (x)  (v) hM sc v0 v1) (cwV 1 hts gX8_write_X8_codeOf rfl rfl rfl (by decide +kernel) ⟨Nat.le_of_ble_eq_true rfl, Nat.le_of_ble_eq_true rfl⟩) ⟨fun a U g mk q => by obtain ⟨q0, q1, qP, qK, qD, qN⟩ := q; exact ⟨q0, q1, qP, va_K.moved (u := U) (U := U.calling g mk a) (Vm.Alike.refl U.vm) qK, qD, kNw.same (u := U) (U := U.calling g mk a) rfl qN⟩, va_recv hK hP (ci := 8) (q0 := 1) rfl (kg1 (by omega)), fun U hU hW => ⟨rfl, by rw [hU], by rw [hU]; exact hP, va_K.moved hW.alike hK, hD.weaken (fun _ _ _ _ => trivial), kNw.warm hW hNw⟩⟩ rfl rfl hl.1 rfl (lv_room (Nat.le_of_ble_eq_true rfl)) dX8_write_2 ⟨Nat.le_of_ble_eq_true rfl, Nat.le_of_ble_eq_true rfl⟩) hS (fun q _ h => hFc q h) hFc (fun r9 u9 t H1 locs ht hvm hw hB hz1 hk1 hS => ?_)
    obtain ⟨hP1, hK1, hD1⟩ := hB
    rw [ht] at hP1
    obtain ⟨hw1, hw2⟩ := hw
    rw [hw2] at hP1 hD1
    rw [hw1]
    rw [F_s_codeOf_2] at hP1 hD1
    have hD2 := hD1.weaken (B := A) (fun _ q _ h => hFc q.1 h)
    have hP := hP1
    have hD := hD2
    generalize H1 = H at hP hS ⊢
    refine lv_lstore_n (lv' := [(3, .long (iL ((F_s_codeOf (x) (v)).1))), (0, .ref (ad (1))), (1, .int (iI (v))), (2, .ref (ad (w1)))]) hx hb dX8_write_5 rfl hl (by decide) rfl (fun ls hl => ?_)
    refine lv_aload_n hx hb dX8_write_6 rfl (lv_at hl 3 rfl) ?_
    have hFc : ∀ q, va_A (kWd cI cJ cZ cR wl ad M (x)) H.size q → A q := fun q hq => Or.elim hq (fun ⟨k, e, hk⟩ => hD.2 k (q, e) hk) (fun hk => hA q (Nat.le_trans hS.1 hk))
    refine va_callv (va_runV (b := ad (w1)) (As := []) (rest := []) ⟨hx, hb, hml, hown, hts⟩ (c_w_wipe l dC dI ad cI cJ cZ cR M wl H.size (x) (w1)  hM hw_w1 (by omega) ) (cwV 0 hts gX8_write_X10_wipe rfl rfl rfl (by decide +kernel) ⟨Nat.le_of_ble_eq_true rfl, Nat.le_of_ble_eq_true rfl⟩) ⟨fun a U g mk q => by obtain ⟨q0, q1, qP, qK, qD, qN⟩ := q; exact ⟨q0, q1, qP, va_K.moved (u := U) (U := U.calling g mk a) (Vm.Alike.refl U.vm) qK, qD, kNw.same (u := U) (U := U.calling g mk a) rfl qN⟩, va_recv hK hP (ci := 10) (q0 := w1) rfl (kgw hw_w1 (by omega)), fun U hU hW => ⟨rfl, by rw [hU], by rw [hU]; exact hP, va_K.moved hW.alike hK, hD.weaken (fun _ _ _ _ => trivial), kNw.warm hW hNw⟩⟩ rfl rfl hl.1 rfl (lv_room (Nat.le_of_ble_eq_true rfl)) dX8_write_7 ⟨Nat.le_of_ble_eq_true rfl, Nat.le_of_ble_eq_true rfl⟩) hS (fun q _ h => hFc q h) hFc (fun u9 t H1 locs ht hvm hw hB hz1 hk1 hS => ?_)
    obtain ⟨hP1, hK1, hD1⟩ := hB
    rw [ht] at hP1
    rw [hw] at hP1 hD1
    have hD2 := hD1.weaken (B := A) (fun _ q _ h => hFc q.1 h)
    have hP := hP1
    have hD := hD2
    generalize H1 = H at hP hS ⊢
    refine lv_aload_n hx hb dX8_write_10 rfl (lv_at hl 1 rfl) ?_
    refine lv_iload_n hx hb dX8_write_11 rfl (lv_at hl 2 rfl) ?_
    have hFc : ∀ q, va_A (kWd cI cJ cZ cR wl ad M ((F_w_wipe (x) (w1)).2)) H.size q → A q := fun q hq => Or.elim hq (fun ⟨k, e, hk⟩ => hD.2 k (q, e) hk) (fun hk => hA q (Nat.le_trans hS.1 hk))
    refine va_calli (va_runV (b := ad (1)) (As := [.int (iI (v))]) (rest := []) ⟨hx, hb, hml, hown, hts⟩ (c_s_spanOf l dC dI ad cI cJ cZ cR M wl H.size ((F_w_wipe (x) (w1)).2)  (v) hM scw (by unfold iR; omega)) (cwV 1 hts gX8_write_X8_spanOf rfl rfl rfl (by decide +kernel) ⟨Nat.le_of_ble_eq_true rfl, Nat.le_of_ble_eq_true rfl⟩) ⟨fun a U g mk q => by obtain ⟨q0, q1, qP, qK, qD, qN⟩ := q; exact ⟨q0, q1, qP, va_K.moved (u := U) (U := U.calling g mk a) (Vm.Alike.refl U.vm) qK, qD, kNw.same (u := U) (U := U.calling g mk a) rfl qN⟩, va_recv hK hP (ci := 8) (q0 := 1) rfl (kg1 (by omega)), fun U hU hW => ⟨rfl, by rw [hU], by rw [hU]; exact hP, va_K.moved hW.alike hK, hD.weaken (fun _ _ _ _ => trivial), kNw.warm hW hNw⟩⟩ rfl rfl hl.1 rfl (lv_room (Nat.le_of_ble_eq_true rfl)) dX8_write_12 ⟨Nat.le_of_ble_eq_true rfl, Nat.le_of_ble_eq_true rfl⟩) hS (fun q _ h => hFc q h) hFc (fun r9 u9 t H1 locs ht hvm hw hB hz1 hk1 hS => ?_)
    obtain ⟨hP1, hK1, hD1⟩ := hB
    rw [ht] at hP1
    obtain ⟨hw1, hw2⟩ := hw
    rw [hw2] at hP1 hD1
    rw [hw1]
    rw [F_s_spanOf_2] at hP1 hD1
    have hD2 := hD1.weaken (B := A) (fun _ q _ h => hFc q.1 h)
    have hP := hP1
    have hD := hD2
    generalize H1 = H at hP hS ⊢
    have sb2 := F_s_spanOf_b scw v0
    have l3 := sc.2.1
    refine lv_iconst (v := iI (1 : Int)) hx hb dX8_write_15 (by decide) ?_
    refine wi_isub hx hb dX8_write_16 ?_
    refine lv_istore (lv' := [(5, .int (iI (((F_s_spanOf ((F_w_wipe (x) (w1)).2) (v)).1) - ((1 : Int))))), (3, .long (iL ((F_s_codeOf (x) (v)).1))), (0, .ref (ad (1))), (1, .int (iI (v))), (2, .ref (ad (w1)))]) hx hb dX8_write_17 hl (by decide) rfl (fun ls hl => ?_)
    exact (L (30)) ((F_w_wipe (x) (w1)).2) ((F_s_codeOf (x) (v)).1) (((F_s_spanOf ((F_w_wipe (x) (w1)).2) (v)).1) - ((1 : Int))) (by show 0 ≤ (kS x w1 1 0).1 w1 1; rw [kS_s]; omega) (by show (kS x w1 1 0).1 w1 1 ≤ _; rw [kS_s]; omega) (by omega) (by omega) (by omega) hres _ _ ls hP hD hS (lv_sub hl [2, 3, 4, 1, 0] rfl)
  exact key _ _ hP hS
theorem F_s_write_sfr (w1 : Nat) : ∀ n : Nat, (∀ (y : KS) (v0 : Int) (v1 : Int) (v2 : Int), ksame [(w1, 1)] [(w1) + 1] y (F_s_write_s w1 n 0 y v0 v1 v2).2) := by
  intro n
  induction n with
  | zero => exact fun y _ _ _ => km_rf _ _ _
  | succ n ih =>
    skip
    · intro y v q i
      rw [F_s_write_e0]
      by_cases hc : (i) < (0)
      · rw [if_pos hc]
        exact (km_rf _ _ _)
      · rw [if_neg hc]
        exact km_tr ((km_tr (km_rf _ _ _) (km_mono (km1 (List.Mem.head _) km0) (km1 (List.Mem.head _) km0) (F_w_push_fr (y) (w1) (iNI (iSr (q) (((2 : Int)) * (i))) ((3 : Int))))))) (ih ((F_w_push (y) (w1) (iNI (iSr (q) (((2 : Int)) * (i))) ((3 : Int)))).2) (v) (q) ((i) + (-1 : Int)))
theorem F_s_write_fr (x : KS) (w1 : Nat) (v : Int) : ksame [(w1, 1)] [(w1) + 1] x (F_s_write x w1 v).2 := by
  unfold F_s_write
  exact km_tr ((km_tr (km_rf _ _ _) (km_mono (km1 (List.Mem.head _) km0) km0 (F_w_wipe_fr (x) (w1))))) ((F_s_write_sfr w1 (30)) ((F_w_wipe (x) (w1)).2) (v) ((F_s_codeOf (x) (v)).1) (((F_s_spanOf ((F_w_wipe (x) (w1)).2) (v)).1) - ((1 : Int))))
theorem F_s_write_q (x : KS) (w1 : Nat) (v : Int) (hw_w1 : kW w1 = true) : kq [] [] x (F_s_write x w1 v).2 := kq_of (F_s_write_fr x w1 v) (kq_c (Or.inl hw_w1) kq_m) (kq_c (Or.inl hw_w1) kq_n)
