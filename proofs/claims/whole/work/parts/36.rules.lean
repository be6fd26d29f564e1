-- deps: 30 31 32 33 34
theorem kdiv2 {a b : Int} (h0 : 0 ≤ a) (h1 : a < b) : a ≤ (a + b) / 2 ∧ (a + b) / 2 < b := by omega
def F_t_placeOf_s (a1 : Nat) : Nat → Nat → KS → Int → Int → Int → Int → Int × KS
  | 0, _, x, _, _, _, _ => (0, x)
  | n + 1, t, x, p0, p1, p2, p3 => match t with
    | 0 => (fun (e1 : Int) (v : Int) (lo : Int) (hi : Int) => (if (hi) ≤ (lo) then (if (e1) ≤ (lo) then (((-1 : Int)) - (lo), x) else (if (((kLen (a1) : Nat) : Int)) ≤ (lo) then (((-1 : Int)) - (lo), x) else (if (((x).2 (a1)) (lo).toNat) = (v) then (lo, x) else (((-1 : Int)) - (lo), x)))) else (if (v) ≤ (((x).2 (a1)) (((lo) + (hi)) / ((2 : Int))).toNat) then F_t_placeOf_s a1 n 0 (x) (e1) (v) (lo) (((lo) + (hi)) / ((2 : Int))) else F_t_placeOf_s a1 n 0 (x) (e1) (v) ((((lo) + (hi)) / ((2 : Int))) + ((1 : Int))) (hi)))) p0 p1 p2 p3
    | _ => (0, x)
theorem F_t_placeOf_e0 (a1 : Nat) (n : Nat) (x : KS) (e1 : Int) (v : Int) (lo : Int) (hi : Int) : F_t_placeOf_s a1 (n + 1) 0 x e1 v lo hi = (if (hi) ≤ (lo) then (if (e1) ≤ (lo) then (((-1 : Int)) - (lo), x) else (if (((kLen (a1) : Nat) : Int)) ≤ (lo) then (((-1 : Int)) - (lo), x) else (if (((x).2 (a1)) (lo).toNat) = (v) then (lo, x) else (((-1 : Int)) - (lo), x)))) else (if (v) ≤ (((x).2 (a1)) (((lo) + (hi)) / ((2 : Int))).toNat) then F_t_placeOf_s a1 n 0 (x) (e1) (v) (lo) (((lo) + (hi)) / ((2 : Int))) else F_t_placeOf_s a1 n 0 (x) (e1) (v) ((((lo) + (hi)) / ((2 : Int))) + ((1 : Int))) (hi))) := rfl
def F_t_placeOf (x : KS) (a1 : Nat) (e1 : Int) (v : Int) : Int × KS := F_t_placeOf_s a1 100010 0 (x) (e1) (v) ((0 : Int)) (min (e1) (((kLen (a1) : Nat) : Int)))
set_option maxHeartbeats 4000000 in
set_option maxRecDepth 100000 in
/-- LikeWords, placeOf -/
theorem c_t_placeOf (l : Launch) (dC : Nat → ClassId) (dI : Nat → Nat → Nat) (ad : Nat → Nat) (cI cJ cZ cR : ClassId) (M wl sz : Nat) (x : KS) (a1 : Nat) (e1 : Int) (v : Int) (hM : 87 ≤ M) (hq_a1 : kI a1) (hc_a1 : a1 < M) (e0 : 0 ≤ e1) (e9 : e1 ≤ 100000) (rv : iR v) (ra : ∀ j : Nat, iR (x.2 a1 j)) (z9 : kLen a1 ≤ 100000) : Met l yX11_placeOf wsX11_placeOf ({ frames := 1, cells := 0, slots := 0, locals := 21 }) (kPc dC dI ad cI cJ cZ cR M wl sz x [.ref (ad a1), .int (iI e1), .int (iI v)]) (va_Qi (fun (r : Int32) (u : KS) => r = iI (F_t_placeOf x a1 e1 v).1 ∧ u = (F_t_placeOf x a1 e1 v).2) (kAt dC dI ad cI cJ cZ cR M wl (va_A (kWd cI cJ cZ cR wl ad M (x)) sz)) (va_A (kWd cI cJ cZ cR wl ad M (x)) sz)) 0 0 (va_A (kWd cI cJ cZ cR wl ad M (x)) sz) := by
  refine Met.ofW (cc := cX11_placeOf) (maxL := 6) (ret := (some .int)) (by decide) rfl ?_
  intro p e s m args below meth c s₁ B hml hv
  obtain ⟨rfl, hsz, hP, hK, hD0, hNw⟩ := hv
  have hx := B.exec
  have hb := B.bytes
  have hr := B.returns
  have hts := atoms_spec (ws := wsX11_placeOf) B.pre
  have hown : s.vm.findClass RX11 = some m.cls := findClass_of_methodNamed B.named
  have hlocks := B.notSynchronized
  subst hsz
  have hD := hD0.self (sz := s.heap.size)
  generalize hAe : va_A (kWd cI cJ cZ cR wl ad M (x)) s.heap.size = A at hD ⊢
  have hA : ∀ q : Nat, s.heap.size ≤ q → A q := fun q h => by rw [← hAe]; exact Or.inr h
  have hS : va_S A s.heap s.heap [] := va_S.rf
  have hl := lv_entry ([.ref (ad a1), .int (iI e1), .int (iI v)]) (n := 6) (Nat.le_of_ble_eq_true rfl)
  rw [lg_entry_eq]
  generalize (lg_sl ([.ref (ad a1), .int (iI e1), .int (iI v)]) ++ List.replicate (6 - (lg_sl ([.ref (ad a1), .int (iI e1), .int (iI v)])).length) Slot.unset).toArray = ls at hl ⊢
  have hl : lv_has ls 6 [(0, .ref (ad (a1))), (1, .int (iI (e1))), (2, .int (iI (v)))] := hl
  have L : ∀ n : Nat, (∀ (lo : Int) (hi : Int), (0 ≤ lo) → (lo ≤ hi) → (hi ≤ e1) → (hi ≤ kLen a1) → (hi - lo < n) → F_t_placeOf_s a1 n 0 x e1 v lo hi = F_t_placeOf x a1 e1 v → ∀ (H : Heap) (locs : List Loc) (ls : Array Slot), va_P (dC, dI) vwCl (kWd cI cJ cZ cR wl ad M (x)) H → va_D A (kWd cI cJ cZ cR wl ad M (x)) → va_S A s.heap H locs → lv_has ls 6 [(0, .ref (ad (a1))), (1, .int (iI (e1))), (2, .int (iI (v))), (3, .int (iI (lo))), (4, .int (iI (hi)))] → W p l e (headSpec wsX11_placeOf ({ frames := 1, cells := 0, slots := 0, locals := 21 })).room s m ([.ref (ad a1), .int (iI e1), .int (iI v)] : List Value).toArray below meth c H locs 0 0 (MQ below (va_Qi (fun (r : Int32) (u : KS) => r = iI (F_t_placeOf x a1 e1 v).1 ∧ u = (F_t_placeOf x a1 e1 v).2) (kAt dC dI ad cI cJ cZ cR M wl A) A) ([.ref (ad a1), .int (iI e1), .int (iI v)] : List Value).toArray s 0 0 A) (F0 m 10 ls [])) := by
    intro n
    induction n with
    | zero =>
      skip
      · intro lo hi l0 l1 h1 h2 fu hres
        exact absurd fu (by omega)
    | succ n ih =>
      skip
      · intro lo hi l0 l1 h1 h2 fu hres H locs ls hP hD hS hl
        rw [F_t_placeOf_e0] at hres
        refine lv_iload_n hx hb dX11_placeOf_10 rfl (lv_at hl 3 rfl) ?_
        refine lv_iload hx hb dX11_placeOf_11 (lv_at hl 4 rfl) ?_
        refine wi_icmp_ge (tgt := 47) hx hb (by first | assumption | (unfold iR; omega) | exact kR01 (by assumption)) (by first | assumption | (unfold iR; omega) | exact kR01 (by assumption)) dX11_placeOf_13 (by decide) (fun c_13 => ?_) (fun c_13 => ?_)
        · skip
          rw [if_pos c_13] at hres
          refine lv_iload_n hx hb dX11_placeOf_47 rfl (lv_at hl 3 rfl) ?_
          refine lv_iload_n hx hb dX11_placeOf_48 rfl (lv_at hl 1 rfl) ?_
          refine wi_icmp_ge (tgt := 69) hx hb (by first | assumption | (unfold iR; omega) | exact kR01 (by assumption)) (by first | assumption | (unfold iR; omega) | exact kR01 (by assumption)) dX11_placeOf_49 (by decide) (fun c_49 => ?_) (fun c_49 => ?_)
          · skip
            rw [if_pos c_49] at hres
            refine lv_iconst (v := iI (-1 : Int)) hx hb dX11_placeOf_69 (by decide) ?_
            refine lv_iload_n hx hb dX11_placeOf_70 rfl (lv_at hl 3 rfl) ?_
            refine wi_isub hx hb dX11_placeOf_71 ?_
            exact W.iret (v := iI (((-1 : Int)) - (lo))) hx hb hr (fun t ht hW => ⟨⟨iI (((-1 : Int)) - (lo)), x, rfl, ⟨(by have h9 := congrArg (fun z : Int × KS => iI z.1) hres; exact h9), (by have h9 := congrArg (fun z : Int × KS => z.2) hres; exact h9)⟩, by rw [ht]; exact hP, va_K.moved hW.alike hK, hD⟩, hS.F ht⟩) hS.2.2 dX11_placeOf_72
          · skip
            rw [if_neg c_49] at hres
            refine lv_iload_n hx hb dX11_placeOf_52 rfl (lv_at hl 3 rfl) ?_
            refine lv_aload_n hx hb dX11_placeOf_53 rfl (lv_at hl 0 rfl) ?_
            refine va_alen (v := iI (((kLen (a1) : Nat) : Int))) hx hb hK hP (a1) 0 (kgi hq_a1 (by omega) rfl) rfl (iI_nat _) dX11_placeOf_54 ?_
            refine wi_icmp_ge (tgt := 69) hx hb (by first | assumption | (unfold iR; omega) | exact kR01 (by assumption)) (kLen_R _) dX11_placeOf_55 (by decide) (fun c_55 => ?_) (fun c_55 => ?_)
            · skip
              rw [if_pos c_55] at hres
              refine lv_iconst (v := iI (-1 : Int)) hx hb dX11_placeOf_69 (by decide) ?_
              refine lv_iload_n hx hb dX11_placeOf_70 rfl (lv_at hl 3 rfl) ?_
              refine wi_isub hx hb dX11_placeOf_71 ?_
              exact W.iret (v := iI (((-1 : Int)) - (lo))) hx hb hr (fun t ht hW => ⟨⟨iI (((-1 : Int)) - (lo)), x, rfl, ⟨(by have h9 := congrArg (fun z : Int × KS => iI z.1) hres; exact h9), (by have h9 := congrArg (fun z : Int × KS => z.2) hres; exact h9)⟩, by rw [ht]; exact hP, va_K.moved hW.alike hK, hD⟩, hS.F ht⟩) hS.2.2 dX11_placeOf_72
            · skip
              rw [if_neg c_55] at hres
              refine lv_aload_n hx hb dX11_placeOf_58 rfl (lv_at hl 0 rfl) ?_
              refine lv_iload_n hx hb dX11_placeOf_59 rfl (lv_at hl 3 rfl) ?_
              refine wi_iald (f := (x).2 (a1)) (n := kLen (a1)) hx hb hK hP (a1) 0 (kgi hq_a1 (by omega) rfl) rfl (i := lo) (by omega) (by omega) (kLen_lt _) dX11_placeOf_60 ?_
              refine lv_iload_n hx hb dX11_placeOf_61 rfl (lv_at hl 2 rfl) ?_
              refine wi_icmp_ne (tgt := 69) hx hb (ra _) rv dX11_placeOf_62 (by decide) (fun c_62 => ?_) (fun c_62 => ?_)
              · skip
                rw [if_neg c_62] at hres
                refine lv_iconst (v := iI (-1 : Int)) hx hb dX11_placeOf_69 (by decide) ?_
                refine lv_iload_n hx hb dX11_placeOf_70 rfl (lv_at hl 3 rfl) ?_
                refine wi_isub hx hb dX11_placeOf_71 ?_
                exact W.iret (v := iI (((-1 : Int)) - (lo))) hx hb hr (fun t ht hW => ⟨⟨iI (((-1 : Int)) - (lo)), x, rfl, ⟨(by have h9 := congrArg (fun z : Int × KS => iI z.1) hres; exact h9), (by have h9 := congrArg (fun z : Int × KS => z.2) hres; exact h9)⟩, by rw [ht]; exact hP, va_K.moved hW.alike hK, hD⟩, hS.F ht⟩) hS.2.2 dX11_placeOf_72
              · skip
                rw [if_pos c_62] at hres
                refine lv_iload_n hx hb dX11_placeOf_65 rfl (lv_at hl 3 rfl) ?_
                refine lv_goto (tgt := 72) hx hb dX11_placeOf_66 (by decide) ?_
                exact W.iret (v := iI (lo)) hx hb hr (fun t ht hW => ⟨⟨iI (lo), x, rfl, ⟨(by have h9 := congrArg (fun z : Int × KS => iI z.1) hres; exact h9), (by have h9 := congrArg (fun z : Int × KS => z.2) hres; exact h9)⟩, by rw [ht]; exact hP, va_K.moved hW.alike hK, hD⟩, hS.F ht⟩) hS.2.2 dX11_placeOf_72
        · skip
          rw [if_neg c_13] at hres
          refine lv_iload_n hx hb dX11_placeOf_16 rfl (lv_at hl 3 rfl) ?_
          refine lv_iload hx hb dX11_placeOf_17 (lv_at hl 4 rfl) ?_
          refine wi_iadd hx hb dX11_placeOf_19 ?_
          refine lv_iconst (v := iI (2 : Int)) hx hb dX11_placeOf_20 (by decide) ?_
          refine wi_idiv hx hb (by first | assumption | (unfold iR; omega) | exact kR01 (by assumption)) ⟨by decide, by decide⟩ (by omega) (by omega) dX11_placeOf_21 ?_
          refine lv_istore (lv' := [(5, .int (iI (((lo) + (hi)) / ((2 : Int))))), (0, .ref (ad (a1))), (1, .int (iI (e1))), (2, .int (iI (v))), (3, .int (iI (lo))), (4, .int (iI (hi)))]) hx hb dX11_placeOf_22 hl (by decide) rfl (fun ls hl => ?_)
          refine lv_aload_n hx hb dX11_placeOf_24 rfl (lv_at hl 1 rfl) ?_
          refine lv_iload hx hb dX11_placeOf_25 (lv_at hl 0 rfl) ?_
          refine wi_iald (f := (x).2 (a1)) (n := kLen (a1)) hx hb hK hP (a1) 0 (kgi hq_a1 (by omega) rfl) rfl (i := ((lo) + (hi)) / ((2 : Int))) (by omega) (by omega) (kLen_lt _) dX11_placeOf_27 ?_
          refine lv_iload_n hx hb dX11_placeOf_28 rfl (lv_at hl 3 rfl) ?_
          refine wi_icmp_ge (tgt := 40) hx hb (ra _) rv dX11_placeOf_29 (by decide) (fun c_29 => ?_) (fun c_29 => ?_)
          · skip
            rw [if_pos c_29] at hres
            refine lv_iload hx hb dX11_placeOf_40 (lv_at hl 0 rfl) ?_
            refine lv_istore (lv' := [(4, .int (iI (((lo) + (hi)) / ((2 : Int))))), (5, .int (iI (((lo) + (hi)) / ((2 : Int))))), (0, .ref (ad (a1))), (1, .int (iI (e1))), (2, .int (iI (v))), (3, .int (iI (lo)))]) hx hb dX11_placeOf_42 hl (by decide) rfl (fun ls hl => ?_)
            refine lv_goto (tgt := 10) hx hb dX11_placeOf_44 (by decide) ?_
            exact ih  (lo) (((lo) + (hi)) / ((2 : Int))) (by omega) (by omega) (by omega) (by omega) (by omega) hres _ _ ls hP hD hS (lv_sub hl [2, 3, 4, 5, 0] rfl)
          · skip
            rw [if_neg c_29] at hres
            refine lv_iload hx hb dX11_placeOf_32 (lv_at hl 0 rfl) ?_
            refine lv_iconst (v := iI (1 : Int)) hx hb dX11_placeOf_34 (by decide) ?_
            refine wi_iadd hx hb dX11_placeOf_35 ?_
            refine lv_istore_n (lv' := [(3, .int (iI ((((lo) + (hi)) / ((2 : Int))) + ((1 : Int))))), (5, .int (iI (((lo) + (hi)) / ((2 : Int))))), (0, .ref (ad (a1))), (1, .int (iI (e1))), (2, .int (iI (v))), (4, .int (iI (hi)))]) hx hb dX11_placeOf_36 rfl hl (by decide) rfl (fun ls hl => ?_)
            refine lv_goto (tgt := 44) hx hb dX11_placeOf_37 (by decide) ?_
            refine lv_goto (tgt := 10) hx hb dX11_placeOf_44 (by decide) ?_
            exact ih  ((((lo) + (hi)) / ((2 : Int))) + ((1 : Int))) (hi) (by omega) (by omega) (by omega) (by omega) (by omega) hres _ _ ls hP hD hS (lv_sub hl [2, 3, 4, 0, 5] rfl)
  have key : ∀ (H : Heap) (locs : List Loc), va_P (dC, dI) vwCl (kWd cI cJ cZ cR wl ad M (x)) H → va_S A s.heap H locs → W p l e (headSpec wsX11_placeOf ({ frames := 1, cells := 0, slots := 0, locals := 21 })).room s m ([.ref (ad a1), .int (iI e1), .int (iI v)] : List Value).toArray below meth c H locs 0 0 (MQ below (va_Qi (fun (r : Int32) (u : KS) => r = iI (F_t_placeOf x a1 e1 v).1 ∧ u = (F_t_placeOf x a1 e1 v).2) (kAt dC dI ad cI cJ cZ cR M wl A) A) ([.ref (ad a1), .int (iI e1), .int (iI v)] : List Value).toArray s 0 0 A) (F0 m 0 ls []) := by
    intro H locs hP hS
    have hres : F_t_placeOf_s a1 100010 0 (x) (e1) (v) ((0 : Int)) (min (e1) (((kLen (a1) : Nat) : Int))) = F_t_placeOf x a1 e1 v := rfl
    refine lv_iconst (v := iI (0 : Int)) hx hb dX11_placeOf_0 (by decide) ?_
    refine lv_istore_n (lv' := [(3, .int (iI ((0 : Int)))), (0, .ref (ad (a1))), (1, .int (iI (e1))), (2, .int (iI (v)))]) hx hb dX11_placeOf_1 rfl hl (by decide) rfl (fun ls hl => ?_)
    refine lv_iload_n hx hb dX11_placeOf_2 rfl (lv_at hl 2 rfl) ?_
    refine lv_aload_n hx hb dX11_placeOf_3 rfl (lv_at hl 1 rfl) ?_
    refine va_alen (v := iI (((kLen (a1) : Nat) : Int))) hx hb hK hP (a1) 0 (kgi hq_a1 (by omega) rfl) rfl (iI_nat _) dX11_placeOf_4 ?_
    refine va_mmin hx hb (by rw [hml]; exact hl.1.symm) hown (hts (.methodLink RX11 282 Lib.Math.min.name) (by decide +kernel)) (hts (.static Lib.Math.min.name) (by decide +kernel)) (hts (.initialized "java/lang/Math") (by decide +kernel)) (hts (.code Lib.Math.min.name Lib.Math.min.code 2 (some .int)) (by decide +kernel)) (Nat.le_of_ble_eq_true rfl) (Nat.le_of_ble_eq_true rfl) (Nat.le_of_ble_eq_true rfl) (Nat.le_of_ble_eq_true rfl) dX11_placeOf_5 ?_
    rw [iI_min (by first | assumption | (unfold iR; omega) | exact kR01 (by assumption)) (kLen_R _)]
    refine lv_istore (lv' := [(4, .int (iI (min (e1) (((kLen (a1) : Nat) : Int))))), (3, .int (iI ((0 : Int)))), (0, .ref (ad (a1))), (1, .int (iI (e1))), (2, .int (iI (v)))]) hx hb dX11_placeOf_8 hl (by decide) rfl (fun ls hl => ?_)
    exact (L (100010))  ((0 : Int)) (min (e1) (((kLen (a1) : Nat) : Int))) (by omega) (by omega) (by omega) (by omega) (by omega) hres _ _ ls hP hD hS (lv_sub hl [2, 3, 4, 1, 0] rfl)
  exact key _ _ hP hS
theorem F_t_placeOf_sfr (a1 : Nat) : ∀ n : Nat, (∀ (y : KS) (v0 : Int) (v1 : Int) (v2 : Int) (v3 : Int), ksame [] [] y (F_t_placeOf_s a1 n 0 y v0 v1 v2 v3).2) := by
  intro n
  induction n with
  | zero => exact fun y _ _ _ _ => km_rf _ _ _
  | succ n ih =>
    skip
    · intro y e1 v lo hi
      rw [F_t_placeOf_e0]
      by_cases hc : (hi) ≤ (lo)
      · rw [if_pos hc]
        by_cases hc : (e1) ≤ (lo)
        · rw [if_pos hc]
          exact (km_rf _ _ _)
        · rw [if_neg hc]
          by_cases hc : (((kLen (a1) : Nat) : Int)) ≤ (lo)
          · rw [if_pos hc]
            exact (km_rf _ _ _)
          · rw [if_neg hc]
            by_cases hc : (((y).2 (a1)) (lo).toNat) = (v)
            · rw [if_pos hc]
              exact (km_rf _ _ _)
            · rw [if_neg hc]
              exact (km_rf _ _ _)
      · rw [if_neg hc]
        by_cases hc : (v) ≤ (((y).2 (a1)) (((lo) + (hi)) / ((2 : Int))).toNat)
        · rw [if_pos hc]
          exact km_tr ((km_rf _ _ _)) (ih (y) (e1) (v) (lo) (((lo) + (hi)) / ((2 : Int))))
        · rw [if_neg hc]
          exact km_tr ((km_rf _ _ _)) (ih (y) (e1) (v) ((((lo) + (hi)) / ((2 : Int))) + ((1 : Int))) (hi))
theorem F_t_placeOf_fr (x : KS) (a1 : Nat) (e1 : Int) (v : Int) : ksame [] [] x (F_t_placeOf x a1 e1 v).2 := by
  unfold F_t_placeOf
  exact km_tr ((km_rf _ _ _)) ((F_t_placeOf_sfr a1 (100010)) (x) (e1) (v) ((0 : Int)) (min (e1) (((kLen (a1) : Nat) : Int))))
theorem F_t_placeOf_2 (x : KS) (a1 : Nat) (e1 : Int) (v : Int) : (F_t_placeOf x a1 e1 v).2 = x := km_nil (F_t_placeOf_fr x a1 e1 v)
def F_t_moveDown_s (a1 : Nat) : Nat → Nat → KS → Int → Int → Int → Int → Int × KS
  | 0, _, x, _, _, _, _ => (0, x)
  | n + 1, t, x, p0, p1, p2, p3 => match t with
    | 0 => (fun (f0 : Int) (t0 : Int) (c0 : Int) (i : Int) => (if (c0) ≤ (i) then (0, x) else (if (t0) < (0) then (0, x) else (if (f0) < (t0) then (0, x) else (if (((kLen (a1) : Nat) : Int)) ≤ ((f0) + (i)) then (0, x) else F_t_moveDown_s a1 n 0 (kA (x) (a1) ((t0) + (i)).toNat (((x).2 (a1)) ((f0) + (i)).toNat)) (f0) (t0) (c0) ((i) + (1 : Int))))))) p0 p1 p2 p3
    | _ => (0, x)
theorem F_t_moveDown_e0 (a1 : Nat) (n : Nat) (x : KS) (f0 : Int) (t0 : Int) (c0 : Int) (i : Int) : F_t_moveDown_s a1 (n + 1) 0 x f0 t0 c0 i = (if (c0) ≤ (i) then (0, x) else (if (t0) < (0) then (0, x) else (if (f0) < (t0) then (0, x) else (if (((kLen (a1) : Nat) : Int)) ≤ ((f0) + (i)) then (0, x) else F_t_moveDown_s a1 n 0 (kA (x) (a1) ((t0) + (i)).toNat (((x).2 (a1)) ((f0) + (i)).toNat)) (f0) (t0) (c0) ((i) + (1 : Int)))))) := rfl
def F_t_moveDown (x : KS) (a1 : Nat) (f0 : Int) (t0 : Int) (c0 : Int) : Int × KS := F_t_moveDown_s a1 1010 0 (x) (f0) (t0) (c0) ((0 : Int))
set_option maxHeartbeats 4000000 in
set_option maxRecDepth 100000 in
/-- LikeWords, moveDown -/
theorem c_t_moveDown (l : Launch) (dC : Nat → ClassId) (dI : Nat → Nat → Nat) (ad : Nat → Nat) (cI cJ cZ cR : ClassId) (M wl sz : Nat) (x : KS) (a1 : Nat) (f0 : Int) (t0 : Int) (c0 : Int) (hM : 87 ≤ M) (hq_a1 : kI a1) (hc_a1 : a1 < M) (f1 : -1000 ≤ f0) (f2 : f0 ≤ 1000) (t1 : -1000 ≤ t0) (t2 : t0 ≤ 1000) (c1 : -1000 ≤ c0) (c2 : c0 ≤ 1000) : Met l yX11_moveDown wsX11_moveDown ({ frames := 0, cells := 0, slots := 0, locals := 0 }) (kPc dC dI ad cI cJ cZ cR M wl sz x [.ref (ad a1), .int (iI f0), .int (iI t0), .int (iI c0)]) (va_Qv (fun u : KS => u = (F_t_moveDown x a1 f0 t0 c0).2) (kAt dC dI ad cI cJ cZ cR M wl (va_A (kWd cI cJ cZ cR wl ad M (x)) sz)) (va_A (kWd cI cJ cZ cR wl ad M (x)) sz)) 0 0 (va_A (kWd cI cJ cZ cR wl ad M (x)) sz) := by
  refine Met.ofW (cc := cX11_moveDown) (maxL := 5) (ret := none) (by decide) rfl ?_
  intro p e s m args below meth c s₁ B hml hv
  obtain ⟨rfl, hsz, hP, hK, hD0, hNw⟩ := hv
  have hx := B.exec
  have hb := B.bytes
  have hr := B.returns
  have hts := atoms_spec (ws := wsX11_moveDown) B.pre
  have hown : s.vm.findClass RX11 = some m.cls := findClass_of_methodNamed B.named
  have hlocks := B.notSynchronized
  subst hsz
  have hD := hD0.self (sz := s.heap.size)
  generalize hAe : va_A (kWd cI cJ cZ cR wl ad M (x)) s.heap.size = A at hD ⊢
  have hA : ∀ q : Nat, s.heap.size ≤ q → A q := fun q h => by rw [← hAe]; exact Or.inr h
  have hS : va_S A s.heap s.heap [] := va_S.rf
  have hl := lv_entry ([.ref (ad a1), .int (iI f0), .int (iI t0), .int (iI c0)]) (n := 5) (Nat.le_of_ble_eq_true rfl)
  rw [lg_entry_eq]
  generalize (lg_sl ([.ref (ad a1), .int (iI f0), .int (iI t0), .int (iI c0)]) ++ List.replicate (5 - (lg_sl ([.ref (ad a1), .int (iI f0), .int (iI t0), .int (iI c0)])).length) Slot.unset).toArray = ls at hl ⊢
  have hl : lv_has ls 5 [(0, .ref (ad (a1))), (1, .int (iI (f0))), (2, .int (iI (t0))), (3, .int (iI (c0)))] := hl
  have L : ∀ n : Nat, (∀ (y : KS) (i : Int), (0 ≤ i) → (i ≤ 1000) → (1000 - i < n) → F_t_moveDown_s a1 n 0 y f0 t0 c0 i = F_t_moveDown x a1 f0 t0 c0 → ∀ (H : Heap) (locs : List Loc) (ls : Array Slot), va_P (dC, dI) vwCl (kWd cI cJ cZ cR wl ad M (y)) H → va_D A (kWd cI cJ cZ cR wl ad M (y)) → va_S A s.heap H locs → lv_has ls 5 [(0, .ref (ad (a1))), (1, .int (iI (f0))), (2, .int (iI (t0))), (3, .int (iI (c0))), (4, .int (iI (i)))] → W p l e (headSpec wsX11_moveDown ({ frames := 0, cells := 0, slots := 0, locals := 0 })).room s m ([.ref (ad a1), .int (iI f0), .int (iI t0), .int (iI c0)] : List Value).toArray below meth c H locs 0 0 (MQ below (va_Qv (fun u : KS => u = (F_t_moveDown x a1 f0 t0 c0).2) (kAt dC dI ad cI cJ cZ cR M wl A) A) ([.ref (ad a1), .int (iI f0), .int (iI t0), .int (iI c0)] : List Value).toArray s 0 0 A) (F0 m 3 ls [])) := by
    intro n
    induction n with
    | zero =>
      skip
      · intro y i i0 i1 fu hres
        exact absurd fu (by omega)
    | succ n ih =>
      skip
      · intro y i i0 i1 fu hres H locs ls hP hD hS hl
        rw [F_t_moveDown_e0] at hres
        refine lv_iload hx hb dX11_moveDown_3 (lv_at hl 4 rfl) ?_
        refine lv_iload_n hx hb dX11_moveDown_5 rfl (lv_at hl 3 rfl) ?_
        refine wi_icmp_ge (tgt := 45) hx hb (by first | assumption | (unfold iR; omega) | exact kR01 (by assumption)) (by first | assumption | (unfold iR; omega) | exact kR01 (by assumption)) dX11_moveDown_6 (by decide) (fun c_6 => ?_) (fun c_6 => ?_)
        · skip
          rw [if_pos c_6] at hres
          exact W.vret hx hb hr (fun t ht hW => ⟨⟨y, rfl, (by have h9 := congrArg (fun z : Int × KS => z.2) hres; exact h9), by rw [ht]; exact hP, va_K.moved hW.alike hK, hD⟩, hS.F ht⟩) hS.2.2 dX11_moveDown_45
        · skip
          rw [if_neg c_6] at hres
          refine lv_iload_n hx hb dX11_moveDown_9 rfl (lv_at hl 2 rfl) ?_
          refine wi_if_lt (tgt := 45) hx hb (by first | assumption | (unfold iR; omega) | exact kR01 (by assumption)) dX11_moveDown_10 (by decide) (fun c_10 => ?_) (fun c_10 => ?_)
          · skip
            rw [if_pos c_10] at hres
            exact W.vret hx hb hr (fun t ht hW => ⟨⟨y, rfl, (by have h9 := congrArg (fun z : Int × KS => z.2) hres; exact h9), by rw [ht]; exact hP, va_K.moved hW.alike hK, hD⟩, hS.F ht⟩) hS.2.2 dX11_moveDown_45
          · skip
            rw [if_neg c_10] at hres
            refine lv_iload_n hx hb dX11_moveDown_13 rfl (lv_at hl 2 rfl) ?_
            refine lv_iload_n hx hb dX11_moveDown_14 rfl (lv_at hl 1 rfl) ?_
            refine wi_icmp_gt (tgt := 45) hx hb (by first | assumption | (unfold iR; omega) | exact kR01 (by assumption)) (by first | assumption | (unfold iR; omega) | exact kR01 (by assumption)) dX11_moveDown_15 (by decide) (fun c_15 => ?_) (fun c_15 => ?_)
            · skip
              rw [if_pos c_15] at hres
              exact W.vret hx hb hr (fun t ht hW => ⟨⟨y, rfl, (by have h9 := congrArg (fun z : Int × KS => z.2) hres; exact h9), by rw [ht]; exact hP, va_K.moved hW.alike hK, hD⟩, hS.F ht⟩) hS.2.2 dX11_moveDown_45
            · skip
              rw [if_neg c_15] at hres
              refine lv_iload_n hx hb dX11_moveDown_18 rfl (lv_at hl 1 rfl) ?_
              refine lv_iload hx hb dX11_moveDown_19 (lv_at hl 4 rfl) ?_
              refine wi_iadd hx hb dX11_moveDown_21 ?_
              refine lv_aload_n hx hb dX11_moveDown_22 rfl (lv_at hl 0 rfl) ?_
              refine va_alen (v := iI (((kLen (a1) : Nat) : Int))) hx hb hK hP (a1) 0 (kgi hq_a1 (by omega) rfl) rfl (iI_nat _) dX11_moveDown_23 ?_
              refine wi_icmp_ge (tgt := 45) hx hb (by first | assumption | (unfold iR; omega) | exact kR01 (by assumption)) (kLen_R _) dX11_moveDown_24 (by decide) (fun c_24 => ?_) (fun c_24 => ?_)
              · skip
                rw [if_pos c_24] at hres
                exact W.vret hx hb hr (fun t ht hW => ⟨⟨y, rfl, (by have h9 := congrArg (fun z : Int × KS => z.2) hres; exact h9), by rw [ht]; exact hP, va_K.moved hW.alike hK, hD⟩, hS.F ht⟩) hS.2.2 dX11_moveDown_45
              · skip
                rw [if_neg c_24] at hres
                refine lv_aload_n hx hb dX11_moveDown_27 rfl (lv_at hl 0 rfl) ?_
                refine lv_iload_n hx hb dX11_moveDown_28 rfl (lv_at hl 2 rfl) ?_
                refine lv_iload hx hb dX11_moveDown_29 (lv_at hl 4 rfl) ?_
                refine wi_iadd hx hb dX11_moveDown_31 ?_
                refine lv_aload_n hx hb dX11_moveDown_32 rfl (lv_at hl 0 rfl) ?_
                refine lv_iload_n hx hb dX11_moveDown_33 rfl (lv_at hl 1 rfl) ?_
                refine lv_iload hx hb dX11_moveDown_34 (lv_at hl 4 rfl) ?_
                refine wi_iadd hx hb dX11_moveDown_36 ?_
                refine wi_iald (f := (y).2 (a1)) (n := kLen (a1)) hx hb hK hP (a1) 0 (kgi hq_a1 (by omega) rfl) rfl (i := (f0) + (i)) (by omega) (by omega) (kLen_lt _) dX11_moveDown_37 ?_
                refine wi_iast (f := (y).2 (a1)) (n := kLen (a1)) hx hb hK hP hD hS (a1) 0 (kgi hq_a1 (by omega) rfl) rfl (i := (t0) + (i)) (x := ((y).2 (a1)) ((f0) + (i)).toNat) (by omega) (by omega) (kLen_lt _) dX11_moveDown_38 (fun H locs hP hD hS => ?_)
                rw [ksi hq_a1] at hP hD
                refine lv_iinc (v := iI ((i) + (1 : Int))) (lv' := [(4, .int (iI ((i) + (1 : Int)))), (0, .ref (ad (a1))), (1, .int (iI (f0))), (2, .int (iI (t0))), (3, .int (iI (c0)))]) hx hb dX11_moveDown_39 hl (k := 4) rfl (iI_add _ _) (by decide) rfl (fun ls hl => ?_)
                refine lv_goto (tgt := 3) hx hb dX11_moveDown_42 (by decide) ?_
                exact ih (kA (y) (a1) ((t0) + (i)).toNat (((y).2 (a1)) ((f0) + (i)).toNat)) ((i) + (1 : Int)) (by omega) (by omega) (by omega) hres _ _ ls hP hD hS (lv_sub hl [1, 2, 3, 4, 0] rfl)
  have key : ∀ (H : Heap) (locs : List Loc), va_P (dC, dI) vwCl (kWd cI cJ cZ cR wl ad M (x)) H → va_S A s.heap H locs → W p l e (headSpec wsX11_moveDown ({ frames := 0, cells := 0, slots := 0, locals := 0 })).room s m ([.ref (ad a1), .int (iI f0), .int (iI t0), .int (iI c0)] : List Value).toArray below meth c H locs 0 0 (MQ below (va_Qv (fun u : KS => u = (F_t_moveDown x a1 f0 t0 c0).2) (kAt dC dI ad cI cJ cZ cR M wl A) A) ([.ref (ad a1), .int (iI f0), .int (iI t0), .int (iI c0)] : List Value).toArray s 0 0 A) (F0 m 0 ls []) := by
    intro H locs hP hS
    have hres : F_t_moveDown_s a1 1010 0 (x) (f0) (t0) (c0) ((0 : Int)) = F_t_moveDown x a1 f0 t0 c0 := rfl
    refine lv_iconst (v := iI (0 : Int)) hx hb dX11_moveDown_0 (by decide) ?_
    refine lv_istore (lv' := [(4, .int (iI ((0 : Int)))), (0, .ref (ad (a1))), (1, .int (iI (f0))), (2, .int (iI (t0))), (3, .int (iI (c0)))]) hx hb dX11_moveDown_1 hl (by decide) rfl (fun ls hl => ?_)
    exact (L (1010)) (x) ((0 : Int)) (by omega) (by omega) (by omega) hres _ _ ls hP hD hS (lv_sub hl [1, 2, 3, 4, 0] rfl)
  exact key _ _ hP hS
theorem F_t_moveDown_sfr (a1 : Nat) : ∀ n : Nat, (∀ (y : KS) (v0 : Int) (v1 : Int) (v2 : Int) (v3 : Int), ksame [] [a1] y (F_t_moveDown_s a1 n 0 y v0 v1 v2 v3).2) := by
  intro n
  induction n with
  | zero => exact fun y _ _ _ _ => km_rf _ _ _
  | succ n ih =>
    skip
    · intro y f0 t0 c0 i
      rw [F_t_moveDown_e0]
      by_cases hc : (c0) ≤ (i)
      · rw [if_pos hc]
        exact (km_rf _ _ _)
      · rw [if_neg hc]
        by_cases hc : (t0) < (0)
        · rw [if_pos hc]
          exact (km_rf _ _ _)
        · rw [if_neg hc]
          by_cases hc : (f0) < (t0)
          · rw [if_pos hc]
            exact (km_rf _ _ _)
          · rw [if_neg hc]
            by_cases hc : (((kLen (a1) : Nat) : Int)) ≤ ((f0) + (i))
            · rw [if_pos hc]
              exact (km_rf _ _ _)
            · rw [if_neg hc]
              exact km_tr ((km_a (List.Mem.head _) (km_rf _ _ _))) (ih (kA (y) (a1) ((t0) + (i)).toNat (((y).2 (a1)) ((f0) + (i)).toNat)) (f0) (t0) (c0) ((i) + (1 : Int)))
theorem F_t_moveDown_fr (x : KS) (a1 : Nat) (f0 : Int) (t0 : Int) (c0 : Int) : ksame [] [a1] x (F_t_moveDown x a1 f0 t0 c0).2 := by
  unfold F_t_moveDown
  exact km_tr ((km_rf _ _ _)) ((F_t_moveDown_sfr a1 (1010)) (x) (f0) (t0) (c0) ((0 : Int)))
/-- the rows of the RULES: small numbers -/
def ruR (x : KS) : Prop := (0 ≤ x.1 58 6 ∧ x.1 58 6 ≤ 40) ∧ (∀ j : Nat, 0 ≤ x.2 59 j ∧ x.2 59 j ≤ 20000) ∧ (∀ j : Nat, 0 ≤ x.2 60 j ∧ x.2 60 j ≤ 20) ∧ (∀ j : Nat, 0 ≤ x.2 61 j ∧ x.2 61 j ≤ 20) ∧ (∀ j : Nat, iRL (x.2 62 j)) ∧ (∀ j : Nat, iRL (x.2 63 j))
def F_u_has (x : KS) (r0 : Int) : Int × KS := (if (r0) < (0) then ((0 : Int), x) else (if ((x).1 (58) 6) ≤ (r0) then ((0 : Int), x) else ((1 : Int), x)))
set_option maxHeartbeats 4000000 in
set_option maxRecDepth 100000 in
/-- LikeWords$Rules, has -/
theorem c_u_has (l : Launch) (dC : Nat → ClassId) (dI : Nat → Nat → Nat) (ad : Nat → Nat) (cI cJ cZ cR : ClassId) (M wl sz : Nat) (x : KS) (r0 : Int) (hM : 87 ≤ M) (rr0 : iR r0) (ru : ruR x) : Met l yX7_has wsX7_has ({ frames := 0, cells := 0, slots := 0, locals := 0 }) (kPc dC dI ad cI cJ cZ cR M wl sz x [.ref (ad 58), .int (iI r0)]) (va_Qi (fun (r : Int32) (u : KS) => r = iI (F_u_has x r0).1 ∧ u = (F_u_has x r0).2) (kAt dC dI ad cI cJ cZ cR M wl (va_A (kWd cI cJ cZ cR wl ad M (x)) sz)) (va_A (kWd cI cJ cZ cR wl ad M (x)) sz)) 0 0 (va_A (kWd cI cJ cZ cR wl ad M (x)) sz) := by
  refine Met.ofW (cc := cX7_has) (maxL := 2) (ret := (some .boolean)) (by decide) rfl ?_
  intro p e s m args below meth c s₁ B hml hv
  obtain ⟨rfl, hsz, hP, hK, hD0, hNw⟩ := hv
  have hx := B.exec
  have hb := B.bytes
  have hr := B.returns
  have hts := atoms_spec (ws := wsX7_has) B.pre
  have hown : s.vm.findClass RX7 = some m.cls := findClass_of_methodNamed B.named
  have hlocks := B.notSynchronized
  have hinX7 : ∀ w ∈ u_ws RX7 TX7 7, w ∈ wsX7_has := by decide +kernel
  subst hsz
  have hD := hD0.self (sz := s.heap.size)
  generalize hAe : va_A (kWd cI cJ cZ cR wl ad M (x)) s.heap.size = A at hD ⊢
  have hA : ∀ q : Nat, s.heap.size ≤ q → A q := fun q h => by rw [← hAe]; exact Or.inr h
  have hS : va_S A s.heap s.heap [] := va_S.rf
  have hl := lv_entry ([.ref (ad 58), .int (iI r0)]) (n := 2) (Nat.le_of_ble_eq_true rfl)
  rw [lg_entry_eq]
  generalize (lg_sl ([.ref (ad 58), .int (iI r0)]) ++ List.replicate (2 - (lg_sl ([.ref (ad 58), .int (iI r0)])).length) Slot.unset).toArray = ls at hl ⊢
  have hl : lv_has ls 2 [(0, .ref (ad (58))), (1, .int (iI (r0)))] := hl
  have ru1 := ru.1
  have key : ∀ (H : Heap) (locs : List Loc), va_P (dC, dI) vwCl (kWd cI cJ cZ cR wl ad M (x)) H → va_S A s.heap H locs → W p l e (headSpec wsX7_has ({ frames := 0, cells := 0, slots := 0, locals := 0 })).room s m ([.ref (ad 58), .int (iI r0)] : List Value).toArray below meth c H locs 0 0 (MQ below (va_Qi (fun (r : Int32) (u : KS) => r = iI (F_u_has x r0).1 ∧ u = (F_u_has x r0).2) (kAt dC dI ad cI cJ cZ cR M wl A) A) ([.ref (ad 58), .int (iI r0)] : List Value).toArray s 0 0 A) (F0 m 0 ls []) := by
    intro H locs hP hS
    have hres : (if (r0) < (0) then ((0 : Int), x) else (if ((x).1 (58) 6) ≤ (r0) then ((0 : Int), x) else ((1 : Int), x))) = F_u_has x r0 := rfl
    refine lv_iload_n hx hb dX7_has_0 rfl (lv_at hl 1 rfl) ?_
    refine wi_if_lt (tgt := 16) hx hb (by first | assumption | (unfold iR; omega) | exact kR01 (by assumption)) dX7_has_1 (by decide) (fun c_1 => ?_) (fun c_1 => ?_)
    · skip
      rw [if_pos c_1] at hres
      refine lv_iconst (v := iI (0 : Int)) hx hb dX7_has_16 (by decide) ?_
      exact W.zret (v := iI ((0 : Int))) hx hb hr (kz _ (by first | assumption | omega)) (fun t ht hW => ⟨⟨iI ((0 : Int)), x, rfl, ⟨(by have h9 := congrArg (fun z : Int × KS => iI z.1) hres; exact h9), (by have h9 := congrArg (fun z : Int × KS => z.2) hres; exact h9)⟩, by rw [ht]; exact hP, va_K.moved hW.alike hK, hD⟩, hS.F ht⟩) hS.2.2 dX7_has_17
    · skip
      rw [if_neg c_1] at hres
      refine lv_iload_n hx hb dX7_has_4 rfl (lv_at hl 1 rfl) ?_
      refine lv_aload_n hx hb dX7_has_5 rfl (lv_at hl 0 rfl) ?_
      refine va_get (D := (dC, dI)) (ci := 7) (v := .int (iI ((x).1 (58) 6))) (C := RX7) (T := TX7) (N := 7) hx hb hts hinX7 hown hK hP (58) (kg58 (by omega)) rfl 6 (by decide) (hts (.fieldLink RX7 32 "LikeWords$Rules" "held" "I") (by decide +kernel)) (fun _ h9 => h9) rfl dX7_has_6 ?_
      refine wi_icmp_ge (tgt := 16) hx hb (by first | assumption | (unfold iR; omega) | exact kR01 (by assumption)) (by first | assumption | (unfold iR; omega) | exact kR01 (by assumption)) dX7_has_9 (by decide) (fun c_9 => ?_) (fun c_9 => ?_)
      · skip
        rw [if_pos c_9] at hres
        refine lv_iconst (v := iI (0 : Int)) hx hb dX7_has_16 (by decide) ?_
        exact W.zret (v := iI ((0 : Int))) hx hb hr (kz _ (by first | assumption | omega)) (fun t ht hW => ⟨⟨iI ((0 : Int)), x, rfl, ⟨(by have h9 := congrArg (fun z : Int × KS => iI z.1) hres; exact h9), (by have h9 := congrArg (fun z : Int × KS => z.2) hres; exact h9)⟩, by rw [ht]; exact hP, va_K.moved hW.alike hK, hD⟩, hS.F ht⟩) hS.2.2 dX7_has_17
      · skip
        rw [if_neg c_9] at hres
        refine lv_iconst (v := iI (1 : Int)) hx hb dX7_has_12 (by decide) ?_
        refine lv_goto (tgt := 17) hx hb dX7_has_13 (by decide) ?_
        exact W.zret (v := iI ((1 : Int))) hx hb hr (kz _ (by first | assumption | omega)) (fun t ht hW => ⟨⟨iI ((1 : Int)), x, rfl, ⟨(by have h9 := congrArg (fun z : Int × KS => iI z.1) hres; exact h9), (by have h9 := congrArg (fun z : Int × KS => z.2) hres; exact h9)⟩, by rw [ht]; exact hP, va_K.moved hW.alike hK, hD⟩, hS.F ht⟩) hS.2.2 dX7_has_17
  exact key _ _ hP hS
theorem F_u_has_fr (x : KS) (r0 : Int) : ksame [] [] x (F_u_has x r0).2 := by
  unfold F_u_has
  by_cases hc : (r0) < (0)
  · rw [if_pos hc]
    exact (km_rf _ _ _)
  · rw [if_neg hc]
    by_cases hc : ((x).1 (58) 6) ≤ (r0)
    · rw [if_pos hc]
      exact (km_rf _ _ _)
    · rw [if_neg hc]
      exact (km_rf _ _ _)
theorem F_u_has_2 (x : KS) (r0 : Int) : (F_u_has x r0).2 = x := km_nil (F_u_has_fr x r0)
def F_u_spanOf (x : KS) (r0 : Int) (b0 : Int) : Int × KS := (if (r0) < (0) then ((0 : Int), x) else (if (r0) < ((40 : Int)) then (if (b0) = (0) then (((x).2 (61)) (r0).toNat, x) else (((x).2 (60)) (r0).toNat, x)) else ((0 : Int), x)))
set_option maxHeartbeats 4000000 in
set_option maxRecDepth 100000 in
/-- LikeWords$Rules, spanOf -/
theorem c_u_spanOf (l : Launch) (dC : Nat → ClassId) (dI : Nat → Nat → Nat) (ad : Nat → Nat) (cI cJ cZ cR : ClassId) (M wl sz : Nat) (x : KS) (r0 : Int) (b0 : Int) (hM : 87 ≤ M) (rr0 : iR r0) (b01 : b0 = 0 ∨ b0 = 1) : Met l yX7_spanOf wsX7_spanOf ({ frames := 0, cells := 0, slots := 0, locals := 0 }) (kPc dC dI ad cI cJ cZ cR M wl sz x [.ref (ad 58), .int (iI r0), .int (iI b0)]) (va_Qi (fun (r : Int32) (u : KS) => r = iI (F_u_spanOf x r0 b0).1 ∧ u = (F_u_spanOf x r0 b0).2) (kAt dC dI ad cI cJ cZ cR M wl (va_A (kWd cI cJ cZ cR wl ad M (x)) sz)) (va_A (kWd cI cJ cZ cR wl ad M (x)) sz)) 0 0 (va_A (kWd cI cJ cZ cR wl ad M (x)) sz) := by
  refine Met.ofW (cc := cX7_spanOf) (maxL := 3) (ret := (some .int)) (by decide) rfl ?_
  intro p e s m args below meth c s₁ B hml hv
  obtain ⟨rfl, hsz, hP, hK, hD0, hNw⟩ := hv
  have hx := B.exec
  have hb := B.bytes
  have hr := B.returns
  have hts := atoms_spec (ws := wsX7_spanOf) B.pre
  have hown : s.vm.findClass RX7 = some m.cls := findClass_of_methodNamed B.named
  have hlocks := B.notSynchronized
  have hinX7 : ∀ w ∈ u_ws RX7 TX7 7, w ∈ wsX7_spanOf := by decide +kernel
  subst hsz
  have hD := hD0.self (sz := s.heap.size)
  generalize hAe : va_A (kWd cI cJ cZ cR wl ad M (x)) s.heap.size = A at hD ⊢
  have hA : ∀ q : Nat, s.heap.size ≤ q → A q := fun q h => by rw [← hAe]; exact Or.inr h
  have hS : va_S A s.heap s.heap [] := va_S.rf
  have hl := lv_entry ([.ref (ad 58), .int (iI r0), .int (iI b0)]) (n := 3) (Nat.le_of_ble_eq_true rfl)
  rw [lg_entry_eq]
  generalize (lg_sl ([.ref (ad 58), .int (iI r0), .int (iI b0)]) ++ List.replicate (3 - (lg_sl ([.ref (ad 58), .int (iI r0), .int (iI b0)])).length) Slot.unset).toArray = ls at hl ⊢
  have hl : lv_has ls 3 [(0, .ref (ad (58))), (1, .int (iI (r0))), (2, .int (iI (b0)))] := hl
  have key : ∀ (H : Heap) (locs : List Loc), va_P (dC, dI) vwCl (kWd cI cJ cZ cR wl ad M (x)) H → va_S A s.heap H locs → W p l e (headSpec wsX7_spanOf ({ frames := 0, cells := 0, slots := 0, locals := 0 })).room s m ([.ref (ad 58), .int (iI r0), .int (iI b0)] : List Value).toArray below meth c H locs 0 0 (MQ below (va_Qi (fun (r : Int32) (u : KS) => r = iI (F_u_spanOf x r0 b0).1 ∧ u = (F_u_spanOf x r0 b0).2) (kAt dC dI ad cI cJ cZ cR M wl A) A) ([.ref (ad 58), .int (iI r0), .int (iI b0)] : List Value).toArray s 0 0 A) (F0 m 0 ls []) := by
    intro H locs hP hS
    have hres : (if (r0) < (0) then ((0 : Int), x) else (if (r0) < ((40 : Int)) then (if (b0) = (0) then (((x).2 (61)) (r0).toNat, x) else (((x).2 (60)) (r0).toNat, x)) else ((0 : Int), x))) = F_u_spanOf x r0 b0 := rfl
    refine lv_iload_n hx hb dX7_spanOf_0 rfl (lv_at hl 1 rfl) ?_
    refine wi_if_lt (tgt := 10) hx hb (by first | assumption | (unfold iR; omega) | exact kR01 (by assumption)) dX7_spanOf_1 (by decide) (fun c_1 => ?_) (fun c_1 => ?_)
    · skip
      rw [if_pos c_1] at hres
      refine lv_iconst (v := iI (0 : Int)) hx hb dX7_spanOf_10 (by decide) ?_
      exact W.iret (v := iI ((0 : Int))) hx hb hr (fun t ht hW => ⟨⟨iI ((0 : Int)), x, rfl, ⟨(by have h9 := congrArg (fun z : Int × KS => iI z.1) hres; exact h9), (by have h9 := congrArg (fun z : Int × KS => z.2) hres; exact h9)⟩, by rw [ht]; exact hP, va_K.moved hW.alike hK, hD⟩, hS.F ht⟩) hS.2.2 dX7_spanOf_11
    · skip
      rw [if_neg c_1] at hres
      refine lv_iload_n hx hb dX7_spanOf_4 rfl (lv_at hl 1 rfl) ?_
      refine lv_bipush (v := iI (40 : Int)) hx hb dX7_spanOf_5 (by decide) ?_
      refine wi_icmp_lt (tgt := 12) hx hb (by first | assumption | (unfold iR; omega) | exact kR01 (by assumption)) ⟨by decide, by decide⟩ dX7_spanOf_7 (by decide) (fun c_7 => ?_) (fun c_7 => ?_)
      · skip
        rw [if_pos c_7] at hres
        refine lv_iload_n hx hb dX7_spanOf_12 rfl (lv_at hl 2 rfl) ?_
        refine wi_if_eq (tgt := 25) hx hb (kR01 b01) dX7_spanOf_13 (by decide) (fun c_13 => ?_) (fun c_13 => ?_)
        · skip
          rw [if_pos c_13] at hres
          refine lv_aload_n hx hb dX7_spanOf_25 rfl (lv_at hl 0 rfl) ?_
          refine va_get (D := (dC, dI)) (ci := 7) (v := .ref (ad (61))) (C := RX7) (T := TX7) (N := 7) hx hb hts hinX7 hown hK hP (58) (kg58 (by omega)) rfl 3 (by decide) (hts (.fieldLink RX7 22 "LikeWords$Rules" "rightSpans" "[I") (by decide +kernel)) (fun _ h9 => h9) rfl dX7_spanOf_26 ?_
          refine lv_iload_n hx hb dX7_spanOf_29 rfl (lv_at hl 1 rfl) ?_
          refine wi_iald (f := (x).2 (61)) (n := kLen (61)) hx hb hK hP (61) 0 (kgi kC61 (by omega) rfl) rfl (i := r0) (by omega) (by show _ < ((40 : Nat) : Int); exact (by omega)) (kLen_lt _) dX7_spanOf_30 ?_
          exact W.iret (v := iI (((x).2 (61)) (r0).toNat)) hx hb hr (fun t ht hW => ⟨⟨iI (((x).2 (61)) (r0).toNat), x, rfl, ⟨(by have h9 := congrArg (fun z : Int × KS => iI z.1) hres; exact h9), (by have h9 := congrArg (fun z : Int × KS => z.2) hres; exact h9)⟩, by rw [ht]; exact hP, va_K.moved hW.alike hK, hD⟩, hS.F ht⟩) hS.2.2 dX7_spanOf_31
        · skip
          rw [if_neg c_13] at hres
          refine lv_aload_n hx hb dX7_spanOf_16 rfl (lv_at hl 0 rfl) ?_
          refine va_get (D := (dC, dI)) (ci := 7) (v := .ref (ad (60))) (C := RX7) (T := TX7) (N := 7) hx hb hts hinX7 hown hK hP (58) (kg58 (by omega)) rfl 2 (by decide) (hts (.fieldLink RX7 19 "LikeWords$Rules" "leftSpans" "[I") (by decide +kernel)) (fun _ h9 => h9) rfl dX7_spanOf_17 ?_
          refine lv_iload_n hx hb dX7_spanOf_20 rfl (lv_at hl 1 rfl) ?_
          refine wi_iald (f := (x).2 (60)) (n := kLen (60)) hx hb hK hP (60) 0 (kgi kC60 (by omega) rfl) rfl (i := r0) (by omega) (by show _ < ((40 : Nat) : Int); exact (by omega)) (kLen_lt _) dX7_spanOf_21 ?_
          refine lv_goto (tgt := 31) hx hb dX7_spanOf_22 (by decide) ?_
          exact W.iret (v := iI (((x).2 (60)) (r0).toNat)) hx hb hr (fun t ht hW => ⟨⟨iI (((x).2 (60)) (r0).toNat), x, rfl, ⟨(by have h9 := congrArg (fun z : Int × KS => iI z.1) hres; exact h9), (by have h9 := congrArg (fun z : Int × KS => z.2) hres; exact h9)⟩, by rw [ht]; exact hP, va_K.moved hW.alike hK, hD⟩, hS.F ht⟩) hS.2.2 dX7_spanOf_31
      · skip
        rw [if_neg c_7] at hres
        refine lv_iconst (v := iI (0 : Int)) hx hb dX7_spanOf_10 (by decide) ?_
        exact W.iret (v := iI ((0 : Int))) hx hb hr (fun t ht hW => ⟨⟨iI ((0 : Int)), x, rfl, ⟨(by have h9 := congrArg (fun z : Int × KS => iI z.1) hres; exact h9), (by have h9 := congrArg (fun z : Int × KS => z.2) hres; exact h9)⟩, by rw [ht]; exact hP, va_K.moved hW.alike hK, hD⟩, hS.F ht⟩) hS.2.2 dX7_spanOf_11
  exact key _ _ hP hS
theorem F_u_spanOf_fr (x : KS) (r0 : Int) (b0 : Int) : ksame [] [] x (F_u_spanOf x r0 b0).2 := by
  unfold F_u_spanOf
  by_cases hc : (r0) < (0)
  · rw [if_pos hc]
    exact (km_rf _ _ _)
  · rw [if_neg hc]
    by_cases hc : (r0) < ((40 : Int))
    · rw [if_pos hc]
      by_cases hc : (b0) = (0)
      · rw [if_pos hc]
        exact (km_rf _ _ _)
      · rw [if_neg hc]
        exact (km_rf _ _ _)
    · rw [if_neg hc]
      exact (km_rf _ _ _)
theorem F_u_spanOf_2 (x : KS) (r0 : Int) (b0 : Int) : (F_u_spanOf x r0 b0).2 = x := km_nil (F_u_spanOf_fr x r0 b0)
def F_u_signAt (x : KS) (r0 : Int) (b0 : Int) (i0 : Int) : Int × KS := (if (r0) < (0) then ((0 : Int), x) else (if (r0) < ((40 : Int)) then (if (b0) = (0) then (if (b0) = (0) then (iNI (iSr (((x).2 (63)) (r0).toNat) (((2 : Int)) * (((((x).2 (61)) (r0).toNat) - ((1 : Int))) - (i0)))) ((3 : Int)), x) else (iNI (iSr (((x).2 (62)) (r0).toNat) (((2 : Int)) * (((((x).2 (61)) (r0).toNat) - ((1 : Int))) - (i0)))) ((3 : Int)), x)) else (if (b0) = (0) then (iNI (iSr (((x).2 (63)) (r0).toNat) (((2 : Int)) * (((((x).2 (60)) (r0).toNat) - ((1 : Int))) - (i0)))) ((3 : Int)), x) else (iNI (iSr (((x).2 (62)) (r0).toNat) (((2 : Int)) * (((((x).2 (60)) (r0).toNat) - ((1 : Int))) - (i0)))) ((3 : Int)), x))) else ((0 : Int), x)))
set_option maxHeartbeats 4000000 in
set_option maxRecDepth 100000 in
/-- LikeWords$Rules, signAt -/
theorem c_u_signAt (l : Launch) (dC : Nat → ClassId) (dI : Nat → Nat → Nat) (ad : Nat → Nat) (cI cJ cZ cR : ClassId) (M wl sz : Nat) (x : KS) (r0 : Int) (b0 : Int) (i0 : Int) (hM : 87 ≤ M) (rr0 : iR r0) (b01 : b0 = 0 ∨ b0 = 1) : Met l yX7_signAt wsX7_signAt ({ frames := 0, cells := 0, slots := 0, locals := 0 }) (kPc dC dI ad cI cJ cZ cR M wl sz x [.ref (ad 58), .int (iI r0), .int (iI b0), .int (iI i0)]) (va_Qi (fun (r : Int32) (u : KS) => r = iI (F_u_signAt x r0 b0 i0).1 ∧ u = (F_u_signAt x r0 b0 i0).2) (kAt dC dI ad cI cJ cZ cR M wl (va_A (kWd cI cJ cZ cR wl ad M (x)) sz)) (va_A (kWd cI cJ cZ cR wl ad M (x)) sz)) 0 0 (va_A (kWd cI cJ cZ cR wl ad M (x)) sz) := by
  refine Met.ofW (cc := cX7_signAt) (maxL := 5) (ret := (some .int)) (by decide) rfl ?_
  intro p e s m args below meth c s₁ B hml hv
  obtain ⟨rfl, hsz, hP, hK, hD0, hNw⟩ := hv
  have hx := B.exec
  have hb := B.bytes
  have hr := B.returns
  have hts := atoms_spec (ws := wsX7_signAt) B.pre
  have hown : s.vm.findClass RX7 = some m.cls := findClass_of_methodNamed B.named
  have hlocks := B.notSynchronized
  have hinX7 : ∀ w ∈ u_ws RX7 TX7 7, w ∈ wsX7_signAt := by decide +kernel
  subst hsz
  have hD := hD0.self (sz := s.heap.size)
  generalize hAe : va_A (kWd cI cJ cZ cR wl ad M (x)) s.heap.size = A at hD ⊢
  have hA : ∀ q : Nat, s.heap.size ≤ q → A q := fun q h => by rw [← hAe]; exact Or.inr h
  have hS : va_S A s.heap s.heap [] := va_S.rf
  have hl := lv_entry ([.ref (ad 58), .int (iI r0), .int (iI b0), .int (iI i0)]) (n := 5) (Nat.le_of_ble_eq_true rfl)
  rw [lg_entry_eq]
  generalize (lg_sl ([.ref (ad 58), .int (iI r0), .int (iI b0), .int (iI i0)]) ++ List.replicate (5 - (lg_sl ([.ref (ad 58), .int (iI r0), .int (iI b0), .int (iI i0)])).length) Slot.unset).toArray = ls at hl ⊢
  have hl : lv_has ls 5 [(0, .ref (ad (58))), (1, .int (iI (r0))), (2, .int (iI (b0))), (3, .int (iI (i0)))] := hl
  have key : ∀ (H : Heap) (locs : List Loc), va_P (dC, dI) vwCl (kWd cI cJ cZ cR wl ad M (x)) H → va_S A s.heap H locs → W p l e (headSpec wsX7_signAt ({ frames := 0, cells := 0, slots := 0, locals := 0 })).room s m ([.ref (ad 58), .int (iI r0), .int (iI b0), .int (iI i0)] : List Value).toArray below meth c H locs 0 0 (MQ below (va_Qi (fun (r : Int32) (u : KS) => r = iI (F_u_signAt x r0 b0 i0).1 ∧ u = (F_u_signAt x r0 b0 i0).2) (kAt dC dI ad cI cJ cZ cR M wl A) A) ([.ref (ad 58), .int (iI r0), .int (iI b0), .int (iI i0)] : List Value).toArray s 0 0 A) (F0 m 0 ls []) := by
    intro H locs hP hS
    have hres : (if (r0) < (0) then ((0 : Int), x) else (if (r0) < ((40 : Int)) then (if (b0) = (0) then (if (b0) = (0) then (iNI (iSr (((x).2 (63)) (r0).toNat) (((2 : Int)) * (((((x).2 (61)) (r0).toNat) - ((1 : Int))) - (i0)))) ((3 : Int)), x) else (iNI (iSr (((x).2 (62)) (r0).toNat) (((2 : Int)) * (((((x).2 (61)) (r0).toNat) - ((1 : Int))) - (i0)))) ((3 : Int)), x)) else (if (b0) = (0) then (iNI (iSr (((x).2 (63)) (r0).toNat) (((2 : Int)) * (((((x).2 (60)) (r0).toNat) - ((1 : Int))) - (i0)))) ((3 : Int)), x) else (iNI (iSr (((x).2 (62)) (r0).toNat) (((2 : Int)) * (((((x).2 (60)) (r0).toNat) - ((1 : Int))) - (i0)))) ((3 : Int)), x))) else ((0 : Int), x))) = F_u_signAt x r0 b0 i0 := rfl
    refine lv_iload_n hx hb dX7_signAt_0 rfl (lv_at hl 1 rfl) ?_
    refine wi_if_lt (tgt := 10) hx hb (by first | assumption | (unfold iR; omega) | exact kR01 (by assumption)) dX7_signAt_1 (by decide) (fun c_1 => ?_) (fun c_1 => ?_)
    · skip
      rw [if_pos c_1] at hres
      refine lv_iconst (v := iI (0 : Int)) hx hb dX7_signAt_10 (by decide) ?_
      exact W.iret (v := iI ((0 : Int))) hx hb hr (fun t ht hW => ⟨⟨iI ((0 : Int)), x, rfl, ⟨(by have h9 := congrArg (fun z : Int × KS => iI z.1) hres; exact h9), (by have h9 := congrArg (fun z : Int × KS => z.2) hres; exact h9)⟩, by rw [ht]; exact hP, va_K.moved hW.alike hK, hD⟩, hS.F ht⟩) hS.2.2 dX7_signAt_11
    · skip
      rw [if_neg c_1] at hres
      refine lv_iload_n hx hb dX7_signAt_4 rfl (lv_at hl 1 rfl) ?_
      refine lv_bipush (v := iI (40 : Int)) hx hb dX7_signAt_5 (by decide) ?_
      refine wi_icmp_lt (tgt := 12) hx hb (by first | assumption | (unfold iR; omega) | exact kR01 (by assumption)) ⟨by decide, by decide⟩ dX7_signAt_7 (by decide) (fun c_7 => ?_) (fun c_7 => ?_)
      · skip
        rw [if_pos c_7] at hres
        refine lv_iload_n hx hb dX7_signAt_12 rfl (lv_at hl 2 rfl) ?_
        refine wi_if_eq (tgt := 25) hx hb (kR01 b01) dX7_signAt_13 (by decide) (fun c_13 => ?_) (fun c_13 => ?_)
        · skip
          rw [if_pos c_13] at hres
          refine lv_aload_n hx hb dX7_signAt_25 rfl (lv_at hl 0 rfl) ?_
          refine va_get (D := (dC, dI)) (ci := 7) (v := .ref (ad (61))) (C := RX7) (T := TX7) (N := 7) hx hb hts hinX7 hown hK hP (58) (kg58 (by omega)) rfl 3 (by decide) (hts (.fieldLink RX7 22 "LikeWords$Rules" "rightSpans" "[I") (by decide +kernel)) (fun _ h9 => h9) rfl dX7_signAt_26 ?_
          refine lv_iload_n hx hb dX7_signAt_29 rfl (lv_at hl 1 rfl) ?_
          refine wi_iald (f := (x).2 (61)) (n := kLen (61)) hx hb hK hP (61) 0 (kgi kC61 (by omega) rfl) rfl (i := r0) (by omega) (by show _ < ((40 : Nat) : Int); exact (by omega)) (kLen_lt _) dX7_signAt_30 ?_
          refine lv_iconst (v := iI (1 : Int)) hx hb dX7_signAt_31 (by decide) ?_
          refine wi_isub hx hb dX7_signAt_32 ?_
          refine lv_iload_n hx hb dX7_signAt_33 rfl (lv_at hl 3 rfl) ?_
          refine wi_isub hx hb dX7_signAt_34 ?_
          refine lv_istore (lv' := [(4, .int (iI (((((x).2 (61)) (r0).toNat) - ((1 : Int))) - (i0)))), (0, .ref (ad (58))), (1, .int (iI (r0))), (2, .int (iI (b0))), (3, .int (iI (i0)))]) hx hb dX7_signAt_35 hl (by decide) rfl (fun ls hl => ?_)
          refine lv_iload_n hx hb dX7_signAt_37 rfl (lv_at hl 3 rfl) ?_
          refine wi_if_eq (tgt := 50) hx hb (kR01 b01) dX7_signAt_38 (by decide) (fun c_38 => ?_) (fun c_38 => ?_)
          · skip
            rw [if_pos c_38] at hres
            refine lv_aload_n hx hb dX7_signAt_50 rfl (lv_at hl 1 rfl) ?_
            refine va_get (D := (dC, dI)) (ci := 7) (v := .ref (ad (63))) (C := RX7) (T := TX7) (N := 7) hx hb hts hinX7 hown hK hP (58) (kg58 (by omega)) rfl 5 (by decide) (hts (.fieldLink RX7 29 "LikeWords$Rules" "rightCodes" "[J") (by decide +kernel)) (fun _ h9 => h9) rfl dX7_signAt_51 ?_
            refine lv_iload_n hx hb dX7_signAt_54 rfl (lv_at hl 2 rfl) ?_
            refine wi_lald (f := (x).2 (63)) (n := kLen (63)) hx hb hK hP (63) 1 (kgj kC63 (by omega) rfl) rfl (i := r0) (by omega) (by show _ < ((40 : Nat) : Int); exact (by omega)) (kLen_lt _) dX7_signAt_55 ?_
            refine lv_iconst (v := iI (2 : Int)) hx hb dX7_signAt_56 (by decide) ?_
            refine lv_iload hx hb dX7_signAt_57 (lv_at hl 0 rfl) ?_
            refine wi_imul hx hb dX7_signAt_59 ?_
            refine wk_lshr hx hb dX7_signAt_60 ?_
            refine wk_l2i hx hb dX7_signAt_61 ?_
            refine lv_iconst (v := iI (3 : Int)) hx hb dX7_signAt_62 (by decide) ?_
            refine wk_iand hx hb dX7_signAt_63 ?_
            exact W.iret (v := iI (iNI (iSr (((x).2 (63)) (r0).toNat) (((2 : Int)) * (((((x).2 (61)) (r0).toNat) - ((1 : Int))) - (i0)))) ((3 : Int)))) hx hb hr (fun t ht hW => ⟨⟨iI (iNI (iSr (((x).2 (63)) (r0).toNat) (((2 : Int)) * (((((x).2 (61)) (r0).toNat) - ((1 : Int))) - (i0)))) ((3 : Int))), x, rfl, ⟨(by have h9 := congrArg (fun z : Int × KS => iI z.1) hres; exact h9), (by have h9 := congrArg (fun z : Int × KS => z.2) hres; exact h9)⟩, by rw [ht]; exact hP, va_K.moved hW.alike hK, hD⟩, hS.F ht⟩) hS.2.2 dX7_signAt_64
          · skip
            rw [if_neg c_38] at hres
            refine lv_aload_n hx hb dX7_signAt_41 rfl (lv_at hl 1 rfl) ?_
            refine va_get (D := (dC, dI)) (ci := 7) (v := .ref (ad (62))) (C := RX7) (T := TX7) (N := 7) hx hb hts hinX7 hown hK hP (58) (kg58 (by omega)) rfl 4 (by decide) (hts (.fieldLink RX7 25 "LikeWords$Rules" "leftCodes" "[J") (by decide +kernel)) (fun _ h9 => h9) rfl dX7_signAt_42 ?_
            refine lv_iload_n hx hb dX7_signAt_45 rfl (lv_at hl 2 rfl) ?_
            refine wi_lald (f := (x).2 (62)) (n := kLen (62)) hx hb hK hP (62) 1 (kgj kC62 (by omega) rfl) rfl (i := r0) (by omega) (by show _ < ((40 : Nat) : Int); exact (by omega)) (kLen_lt _) dX7_signAt_46 ?_
            refine lv_goto (tgt := 56) hx hb dX7_signAt_47 (by decide) ?_
            refine lv_iconst (v := iI (2 : Int)) hx hb dX7_signAt_56 (by decide) ?_
            refine lv_iload hx hb dX7_signAt_57 (lv_at hl 0 rfl) ?_
            refine wi_imul hx hb dX7_signAt_59 ?_
            refine wk_lshr hx hb dX7_signAt_60 ?_
            refine wk_l2i hx hb dX7_signAt_61 ?_
            refine lv_iconst (v := iI (3 : Int)) hx hb dX7_signAt_62 (by decide) ?_
            refine wk_iand hx hb dX7_signAt_63 ?_
            exact W.iret (v := iI (iNI (iSr (((x).2 (62)) (r0).toNat) (((2 : Int)) * (((((x).2 (61)) (r0).toNat) - ((1 : Int))) - (i0)))) ((3 : Int)))) hx hb hr (fun t ht hW => ⟨⟨iI (iNI (iSr (((x).2 (62)) (r0).toNat) (((2 : Int)) * (((((x).2 (61)) (r0).toNat) - ((1 : Int))) - (i0)))) ((3 : Int))), x, rfl, ⟨(by have h9 := congrArg (fun z : Int × KS => iI z.1) hres; exact h9), (by have h9 := congrArg (fun z : Int × KS => z.2) hres; exact h9)⟩, by rw [ht]; exact hP, va_K.moved hW.alike hK, hD⟩, hS.F ht⟩) hS.2.2 dX7_signAt_64
        · skip
          rw [if_neg c_13] at hres
          refine lv_aload_n hx hb dX7_signAt_16 rfl (lv_at hl 0 rfl) ?_
          refine va_get (D := (dC, dI)) (ci := 7) (v := .ref (ad (60))) (C := RX7) (T := TX7) (N := 7) hx hb hts hinX7 hown hK hP (58) (kg58 (by omega)) rfl 2 (by decide) (hts (.fieldLink RX7 19 "LikeWords$Rules" "leftSpans" "[I") (by decide +kernel)) (fun _ h9 => h9) rfl dX7_signAt_17 ?_
          refine lv_iload_n hx hb dX7_signAt_20 rfl (lv_at hl 1 rfl) ?_
          refine wi_iald (f := (x).2 (60)) (n := kLen (60)) hx hb hK hP (60) 0 (kgi kC60 (by omega) rfl) rfl (i := r0) (by omega) (by show _ < ((40 : Nat) : Int); exact (by omega)) (kLen_lt _) dX7_signAt_21 ?_
          refine lv_goto (tgt := 31) hx hb dX7_signAt_22 (by decide) ?_
          refine lv_iconst (v := iI (1 : Int)) hx hb dX7_signAt_31 (by decide) ?_
          refine wi_isub hx hb dX7_signAt_32 ?_
          refine lv_iload_n hx hb dX7_signAt_33 rfl (lv_at hl 3 rfl) ?_
          refine wi_isub hx hb dX7_signAt_34 ?_
          refine lv_istore (lv' := [(4, .int (iI (((((x).2 (60)) (r0).toNat) - ((1 : Int))) - (i0)))), (0, .ref (ad (58))), (1, .int (iI (r0))), (2, .int (iI (b0))), (3, .int (iI (i0)))]) hx hb dX7_signAt_35 hl (by decide) rfl (fun ls hl => ?_)
          refine lv_iload_n hx hb dX7_signAt_37 rfl (lv_at hl 3 rfl) ?_
          refine wi_if_eq (tgt := 50) hx hb (kR01 b01) dX7_signAt_38 (by decide) (fun c_38 => ?_) (fun c_38 => ?_)
          · skip
            rw [if_pos c_38] at hres
            refine lv_aload_n hx hb dX7_signAt_50 rfl (lv_at hl 1 rfl) ?_
            refine va_get (D := (dC, dI)) (ci := 7) (v := .ref (ad (63))) (C := RX7) (T := TX7) (N := 7) hx hb hts hinX7 hown hK hP (58) (kg58 (by omega)) rfl 5 (by decide) (hts (.fieldLink RX7 29 "LikeWords$Rules" "rightCodes" "[J") (by decide +kernel)) (fun _ h9 => h9) rfl dX7_signAt_51 ?_
            refine lv_iload_n hx hb dX7_signAt_54 rfl (lv_at hl 2 rfl) ?_
            refine wi_lald (f := (x).2 (63)) (n := kLen (63)) hx hb hK hP (63) 1 (kgj kC63 (by omega) rfl) rfl (i := r0) (by omega) (by show _ < ((40 : Nat) : Int); exact (by omega)) (kLen_lt _) dX7_signAt_55 ?_
            refine lv_iconst (v := iI (2 : Int)) hx hb dX7_signAt_56 (by decide) ?_
            refine lv_iload hx hb dX7_signAt_57 (lv_at hl 0 rfl) ?_
            refine wi_imul hx hb dX7_signAt_59 ?_
            refine wk_lshr hx hb dX7_signAt_60 ?_
            refine wk_l2i hx hb dX7_signAt_61 ?_
            refine lv_iconst (v := iI (3 : Int)) hx hb dX7_signAt_62 (by decide) ?_
            refine wk_iand hx hb dX7_signAt_63 ?_
            exact W.iret (v := iI (iNI (iSr (((x).2 (63)) (r0).toNat) (((2 : Int)) * (((((x).2 (60)) (r0).toNat) - ((1 : Int))) - (i0)))) ((3 : Int)))) hx hb hr (fun t ht hW => ⟨⟨iI (iNI (iSr (((x).2 (63)) (r0).toNat) (((2 : Int)) * (((((x).2 (60)) (r0).toNat) - ((1 : Int))) - (i0)))) ((3 : Int))), x, rfl, ⟨(by have h9 := congrArg (fun z : Int × KS => iI z.1) hres; exact h9), (by have h9 := congrArg (fun z : Int × KS => z.2) hres; exact h9)⟩, by rw [ht]; exact hP, va_K.moved hW.alike hK, hD⟩, hS.F ht⟩) hS.2.2 dX7_signAt_64
          · skip
            rw [if_neg c_38] at hres
            refine lv_aload_n hx hb dX7_signAt_41 rfl (lv_at hl 1 rfl) ?_
            refine va_get (D := (dC, dI)) (ci := 7) (v := .ref (ad (62))) (C := RX7) (T := TX7) (N := 7) hx hb hts hinX7 hown hK hP (58) (kg58 (by omega)) rfl 4 (by decide) (hts (.fieldLink RX7 25 "LikeWords$Rules" "leftCodes" "[J") (by decide +kernel)) (fun _ h9 => h9) rfl dX7_signAt_42 ?_
            refine lv_iload_n hx hb dX7_signAt_45 rfl (lv_at hl 2 rfl) ?_
            refine wi_lald (f := (x).2 (62)) (n := kLen (62)) hx hb hK hP (62) 1 (kgj kC62 (by omega) rfl) rfl (i := r0) (by omega) (by show _ < ((40 : Nat) : Int); exact (by omega)) (kLen_lt _) dX7_signAt_46 ?_
            refine lv_goto (tgt := 56) hx hb dX7_signAt_47 (by decide) ?_
            refine lv_iconst (v := iI (2 : Int)) hx hb dX7_signAt_56 (by decide) ?_
            refine lv_iload hx hb dX7_signAt_57 (lv_at hl 0 rfl) ?_
            refine wi_imul hx hb dX7_signAt_59 ?_
            refine wk_lshr hx hb dX7_signAt_60 ?_
            refine wk_l2i hx hb dX7_signAt_61 ?_
            refine lv_iconst (v := iI (3 : Int)) hx hb dX7_signAt_62 (by decide) ?_
            refine wk_iand hx hb dX7_signAt_63 ?_
            exact W.iret (v := iI (iNI (iSr (((x).2 (62)) (r0).toNat) (((2 : Int)) * (((((x).2 (60)) (r0).toNat) - ((1 : Int))) - (i0)))) ((3 : Int)))) hx hb hr (fun t ht hW => ⟨⟨iI (iNI (iSr (((x).2 (62)) (r0).toNat) (((2 : Int)) * (((((x).2 (60)) (r0).toNat) - ((1 : Int))) - (i0)))) ((3 : Int))), x, rfl, ⟨(by have h9 := congrArg (fun z : Int × KS => iI z.1) hres; exact h9), (by have h9 := congrArg (fun z : Int × KS => z.2) hres; exact h9)⟩, by rw [ht]; exact hP, va_K.moved hW.alike hK, hD⟩, hS.F ht⟩) hS.2.2 dX7_signAt_64
      · skip
        rw [if_neg c_7] at hres
        refine lv_iconst (v := iI (0 : Int)) hx hb dX7_signAt_10 (by decide) ?_
        exact W.iret (v := iI ((0 : Int))) hx hb hr (fun t ht hW => ⟨⟨iI ((0 : Int)), x, rfl, ⟨(by have h9 := congrArg (fun z : Int × KS => iI z.1) hres; exact h9), (by have h9 := congrArg (fun z : Int × KS => z.2) hres; exact h9)⟩, by rw [ht]; exact hP, va_K.moved hW.alike hK, hD⟩, hS.F ht⟩) hS.2.2 dX7_signAt_11
  exact key _ _ hP hS
theorem F_u_signAt_fr (x : KS) (r0 : Int) (b0 : Int) (i0 : Int) : ksame [] [] x (F_u_signAt x r0 b0 i0).2 := by
  unfold F_u_signAt
  by_cases hc : (r0) < (0)
  · rw [if_pos hc]
    exact (km_rf _ _ _)
  · rw [if_neg hc]
    by_cases hc : (r0) < ((40 : Int))
    · rw [if_pos hc]
      by_cases hc : (b0) = (0)
      · rw [if_pos hc]
        by_cases hc : (b0) = (0)
        · rw [if_pos hc]
          exact (km_rf _ _ _)
        · rw [if_neg hc]
          exact (km_rf _ _ _)
      · rw [if_neg hc]
        by_cases hc : (b0) = (0)
        · rw [if_pos hc]
          exact (km_rf _ _ _)
        · rw [if_neg hc]
          exact (km_rf _ _ _)
    · rw [if_neg hc]
      exact (km_rf _ _ _)
theorem F_u_signAt_2 (x : KS) (r0 : Int) (b0 : Int) (i0 : Int) : (F_u_signAt x r0 b0 i0).2 = x := km_nil (F_u_signAt_fr x r0 b0 i0)
def F_u_packedRight (x : KS) (r0 : Int) : Int × KS := (if (r0) < (0) then ((1 : Int), x) else (if ((40 : Int)) ≤ (r0) then ((1 : Int), x) else (iO (((x).2 (63)) (r0).toNat) (iSl ((1 : Int)) (((2 : Int)) * (((x).2 (61)) (r0).toNat))), x)))
set_option maxHeartbeats 4000000 in
set_option maxRecDepth 100000 in
/-- LikeWords$Rules, packedRight -/
theorem c_u_packedRight (l : Launch) (dC : Nat → ClassId) (dI : Nat → Nat → Nat) (ad : Nat → Nat) (cI cJ cZ cR : ClassId) (M wl sz : Nat) (x : KS) (r0 : Int) (hM : 87 ≤ M) (rr0 : iR r0) : Met l yX7_packedRight wsX7_packedRight ({ frames := 0, cells := 0, slots := 0, locals := 0 }) (kPc dC dI ad cI cJ cZ cR M wl sz x [.ref (ad 58), .int (iI r0)]) (va_Ql (fun (r : Int64) (u : KS) => r = iL (F_u_packedRight x r0).1 ∧ u = (F_u_packedRight x r0).2) (kAt dC dI ad cI cJ cZ cR M wl (va_A (kWd cI cJ cZ cR wl ad M (x)) sz)) (va_A (kWd cI cJ cZ cR wl ad M (x)) sz)) 0 0 (va_A (kWd cI cJ cZ cR wl ad M (x)) sz) := by
  refine Met.ofW (cc := cX7_packedRight) (maxL := 2) (ret := (some .long)) (by decide) rfl ?_
  intro p e s m args below meth c s₁ B hml hv
  obtain ⟨rfl, hsz, hP, hK, hD0, hNw⟩ := hv
  have hx := B.exec
  have hb := B.bytes
  have hr := B.returns
  have hts := atoms_spec (ws := wsX7_packedRight) B.pre
  have hown : s.vm.findClass RX7 = some m.cls := findClass_of_methodNamed B.named
  have hlocks := B.notSynchronized
  have hinX7 : ∀ w ∈ u_ws RX7 TX7 7, w ∈ wsX7_packedRight := by decide +kernel
  subst hsz
  have hD := hD0.self (sz := s.heap.size)
  generalize hAe : va_A (kWd cI cJ cZ cR wl ad M (x)) s.heap.size = A at hD ⊢
  have hA : ∀ q : Nat, s.heap.size ≤ q → A q := fun q h => by rw [← hAe]; exact Or.inr h
  have hS : va_S A s.heap s.heap [] := va_S.rf
  have hl := lv_entry ([.ref (ad 58), .int (iI r0)]) (n := 2) (Nat.le_of_ble_eq_true rfl)
  rw [lg_entry_eq]
  generalize (lg_sl ([.ref (ad 58), .int (iI r0)]) ++ List.replicate (2 - (lg_sl ([.ref (ad 58), .int (iI r0)])).length) Slot.unset).toArray = ls at hl ⊢
  have hl : lv_has ls 2 [(0, .ref (ad (58))), (1, .int (iI (r0)))] := hl
  have key : ∀ (H : Heap) (locs : List Loc), va_P (dC, dI) vwCl (kWd cI cJ cZ cR wl ad M (x)) H → va_S A s.heap H locs → W p l e (headSpec wsX7_packedRight ({ frames := 0, cells := 0, slots := 0, locals := 0 })).room s m ([.ref (ad 58), .int (iI r0)] : List Value).toArray below meth c H locs 0 0 (MQ below (va_Ql (fun (r : Int64) (u : KS) => r = iL (F_u_packedRight x r0).1 ∧ u = (F_u_packedRight x r0).2) (kAt dC dI ad cI cJ cZ cR M wl A) A) ([.ref (ad 58), .int (iI r0)] : List Value).toArray s 0 0 A) (F0 m 0 ls []) := by
    intro H locs hP hS
    have hres : (if (r0) < (0) then ((1 : Int), x) else (if ((40 : Int)) ≤ (r0) then ((1 : Int), x) else (iO (((x).2 (63)) (r0).toNat) (iSl ((1 : Int)) (((2 : Int)) * (((x).2 (61)) (r0).toNat))), x))) = F_u_packedRight x r0 := rfl
    refine lv_iload_n hx hb dX7_packedRight_0 rfl (lv_at hl 1 rfl) ?_
    refine wi_if_lt (tgt := 30) hx hb (by first | assumption | (unfold iR; omega) | exact kR01 (by assumption)) dX7_packedRight_1 (by decide) (fun c_1 => ?_) (fun c_1 => ?_)
    · skip
      rw [if_pos c_1] at hres
      refine lv_lconst (v := iL 1) hx hb dX7_packedRight_30 (by decide) ?_
      exact W.lret (v := iL ((1 : Int))) hx hb hr (fun t ht hW => ⟨⟨iL ((1 : Int)), x, rfl, ⟨(by have h9 := congrArg (fun z : Int × KS => iL z.1) hres; exact h9), (by have h9 := congrArg (fun z : Int × KS => z.2) hres; exact h9)⟩, by rw [ht]; exact hP, va_K.moved hW.alike hK, hD⟩, hS.F ht⟩) hS.2.2 dX7_packedRight_31
    · skip
      rw [if_neg c_1] at hres
      refine lv_iload_n hx hb dX7_packedRight_4 rfl (lv_at hl 1 rfl) ?_
      refine lv_bipush (v := iI (40 : Int)) hx hb dX7_packedRight_5 (by decide) ?_
      refine wi_icmp_ge (tgt := 30) hx hb (by first | assumption | (unfold iR; omega) | exact kR01 (by assumption)) ⟨by decide, by decide⟩ dX7_packedRight_7 (by decide) (fun c_7 => ?_) (fun c_7 => ?_)
      · skip
        rw [if_pos c_7] at hres
        refine lv_lconst (v := iL 1) hx hb dX7_packedRight_30 (by decide) ?_
        exact W.lret (v := iL ((1 : Int))) hx hb hr (fun t ht hW => ⟨⟨iL ((1 : Int)), x, rfl, ⟨(by have h9 := congrArg (fun z : Int × KS => iL z.1) hres; exact h9), (by have h9 := congrArg (fun z : Int × KS => z.2) hres; exact h9)⟩, by rw [ht]; exact hP, va_K.moved hW.alike hK, hD⟩, hS.F ht⟩) hS.2.2 dX7_packedRight_31
      · skip
        rw [if_neg c_7] at hres
        refine lv_aload_n hx hb dX7_packedRight_10 rfl (lv_at hl 0 rfl) ?_
        refine va_get (D := (dC, dI)) (ci := 7) (v := .ref (ad (63))) (C := RX7) (T := TX7) (N := 7) hx hb hts hinX7 hown hK hP (58) (kg58 (by omega)) rfl 5 (by decide) (hts (.fieldLink RX7 29 "LikeWords$Rules" "rightCodes" "[J") (by decide +kernel)) (fun _ h9 => h9) rfl dX7_packedRight_11 ?_
        refine lv_iload_n hx hb dX7_packedRight_14 rfl (lv_at hl 1 rfl) ?_
        refine wi_lald (f := (x).2 (63)) (n := kLen (63)) hx hb hK hP (63) 1 (kgj kC63 (by omega) rfl) rfl (i := r0) (by omega) (by show _ < ((40 : Nat) : Int); exact (by omega)) (kLen_lt _) dX7_packedRight_15 ?_
        refine lv_lconst (v := iL 1) hx hb dX7_packedRight_16 (by decide) ?_
        refine lv_iconst (v := iI (2 : Int)) hx hb dX7_packedRight_17 (by decide) ?_
        refine lv_aload_n hx hb dX7_packedRight_18 rfl (lv_at hl 0 rfl) ?_
        refine va_get (D := (dC, dI)) (ci := 7) (v := .ref (ad (61))) (C := RX7) (T := TX7) (N := 7) hx hb hts hinX7 hown hK hP (58) (kg58 (by omega)) rfl 3 (by decide) (hts (.fieldLink RX7 22 "LikeWords$Rules" "rightSpans" "[I") (by decide +kernel)) (fun _ h9 => h9) rfl dX7_packedRight_19 ?_
        refine lv_iload_n hx hb dX7_packedRight_22 rfl (lv_at hl 1 rfl) ?_
        refine wi_iald (f := (x).2 (61)) (n := kLen (61)) hx hb hK hP (61) 0 (kgi kC61 (by omega) rfl) rfl (i := r0) (by omega) (by show _ < ((40 : Nat) : Int); exact (by omega)) (kLen_lt _) dX7_packedRight_23 ?_
        refine wi_imul hx hb dX7_packedRight_24 ?_
        refine wk_lshl hx hb dX7_packedRight_25 ?_
        refine wk_lor hx hb dX7_packedRight_26 ?_
        refine lv_goto (tgt := 31) hx hb dX7_packedRight_27 (by decide) ?_
        exact W.lret (v := iL (iO (((x).2 (63)) (r0).toNat) (iSl ((1 : Int)) (((2 : Int)) * (((x).2 (61)) (r0).toNat))))) hx hb hr (fun t ht hW => ⟨⟨iL (iO (((x).2 (63)) (r0).toNat) (iSl ((1 : Int)) (((2 : Int)) * (((x).2 (61)) (r0).toNat)))), x, rfl, ⟨(by have h9 := congrArg (fun z : Int × KS => iL z.1) hres; exact h9), (by have h9 := congrArg (fun z : Int × KS => z.2) hres; exact h9)⟩, by rw [ht]; exact hP, va_K.moved hW.alike hK, hD⟩, hS.F ht⟩) hS.2.2 dX7_packedRight_31
  exact key _ _ hP hS
theorem F_u_packedRight_fr (x : KS) (r0 : Int) : ksame [] [] x (F_u_packedRight x r0).2 := by
  unfold F_u_packedRight
  by_cases hc : (r0) < (0)
  · rw [if_pos hc]
    exact (km_rf _ _ _)
  · rw [if_neg hc]
    by_cases hc : ((40 : Int)) ≤ (r0)
    · rw [if_pos hc]
      exact (km_rf _ _ _)
    · rw [if_neg hc]
      exact (km_rf _ _ _)
theorem F_u_packedRight_2 (x : KS) (r0 : Int) : (F_u_packedRight x r0).2 = x := km_nil (F_u_packedRight_fr x r0)
def F_u_leftPart (x : KS) (r0 : Int) (f0 : Int) (t0 : Int) : Int × KS := (if (r0) < (0) then ((0 : Int), x) else (if (r0) < ((40 : Int)) then (iN (iSr (((x).2 (62)) (r0).toNat) (((2 : Int)) * ((((x).2 (60)) (r0).toNat) - (t0)))) ((iSl ((1 : Int)) (((2 : Int)) * ((t0) - (f0)))) - ((1 : Int))), x) else ((0 : Int), x)))
set_option maxHeartbeats 4000000 in
set_option maxRecDepth 100000 in
/-- LikeWords$Rules, leftPart -/
theorem c_u_leftPart (l : Launch) (dC : Nat → ClassId) (dI : Nat → Nat → Nat) (ad : Nat → Nat) (cI cJ cZ cR : ClassId) (M wl sz : Nat) (x : KS) (r0 : Int) (f0 : Int) (t0 : Int) (hM : 87 ≤ M) (rr0 : iR r0) : Met l yX7_leftPart wsX7_leftPart ({ frames := 0, cells := 0, slots := 0, locals := 0 }) (kPc dC dI ad cI cJ cZ cR M wl sz x [.ref (ad 58), .int (iI r0), .int (iI f0), .int (iI t0)]) (va_Ql (fun (r : Int64) (u : KS) => r = iL (F_u_leftPart x r0 f0 t0).1 ∧ u = (F_u_leftPart x r0 f0 t0).2) (kAt dC dI ad cI cJ cZ cR M wl (va_A (kWd cI cJ cZ cR wl ad M (x)) sz)) (va_A (kWd cI cJ cZ cR wl ad M (x)) sz)) 0 0 (va_A (kWd cI cJ cZ cR wl ad M (x)) sz) := by
  refine Met.ofW (cc := cX7_leftPart) (maxL := 6) (ret := (some .long)) (by decide) rfl ?_
  intro p e s m args below meth c s₁ B hml hv
  obtain ⟨rfl, hsz, hP, hK, hD0, hNw⟩ := hv
  have hx := B.exec
  have hb := B.bytes
  have hr := B.returns
  have hts := atoms_spec (ws := wsX7_leftPart) B.pre
  have hown : s.vm.findClass RX7 = some m.cls := findClass_of_methodNamed B.named
  have hlocks := B.notSynchronized
  have hinX7 : ∀ w ∈ u_ws RX7 TX7 7, w ∈ wsX7_leftPart := by decide +kernel
  subst hsz
  have hD := hD0.self (sz := s.heap.size)
  generalize hAe : va_A (kWd cI cJ cZ cR wl ad M (x)) s.heap.size = A at hD ⊢
  have hA : ∀ q : Nat, s.heap.size ≤ q → A q := fun q h => by rw [← hAe]; exact Or.inr h
  have hS : va_S A s.heap s.heap [] := va_S.rf
  have hl := lv_entry ([.ref (ad 58), .int (iI r0), .int (iI f0), .int (iI t0)]) (n := 6) (Nat.le_of_ble_eq_true rfl)
  rw [lg_entry_eq]
  generalize (lg_sl ([.ref (ad 58), .int (iI r0), .int (iI f0), .int (iI t0)]) ++ List.replicate (6 - (lg_sl ([.ref (ad 58), .int (iI r0), .int (iI f0), .int (iI t0)])).length) Slot.unset).toArray = ls at hl ⊢
  have hl : lv_has ls 6 [(0, .ref (ad (58))), (1, .int (iI (r0))), (2, .int (iI (f0))), (3, .int (iI (t0)))] := hl
  have key : ∀ (H : Heap) (locs : List Loc), va_P (dC, dI) vwCl (kWd cI cJ cZ cR wl ad M (x)) H → va_S A s.heap H locs → W p l e (headSpec wsX7_leftPart ({ frames := 0, cells := 0, slots := 0, locals := 0 })).room s m ([.ref (ad 58), .int (iI r0), .int (iI f0), .int (iI t0)] : List Value).toArray below meth c H locs 0 0 (MQ below (va_Ql (fun (r : Int64) (u : KS) => r = iL (F_u_leftPart x r0 f0 t0).1 ∧ u = (F_u_leftPart x r0 f0 t0).2) (kAt dC dI ad cI cJ cZ cR M wl A) A) ([.ref (ad 58), .int (iI r0), .int (iI f0), .int (iI t0)] : List Value).toArray s 0 0 A) (F0 m 0 ls []) := by
    intro H locs hP hS
    have hres : (if (r0) < (0) then ((0 : Int), x) else (if (r0) < ((40 : Int)) then (iN (iSr (((x).2 (62)) (r0).toNat) (((2 : Int)) * ((((x).2 (60)) (r0).toNat) - (t0)))) ((iSl ((1 : Int)) (((2 : Int)) * ((t0) - (f0)))) - ((1 : Int))), x) else ((0 : Int), x))) = F_u_leftPart x r0 f0 t0 := rfl
    refine lv_iload_n hx hb dX7_leftPart_0 rfl (lv_at hl 1 rfl) ?_
    refine wi_if_lt (tgt := 10) hx hb (by first | assumption | (unfold iR; omega) | exact kR01 (by assumption)) dX7_leftPart_1 (by decide) (fun c_1 => ?_) (fun c_1 => ?_)
    · skip
      rw [if_pos c_1] at hres
      refine lv_lconst (v := iL 0) hx hb dX7_leftPart_10 (by decide) ?_
      exact W.lret (v := iL ((0 : Int))) hx hb hr (fun t ht hW => ⟨⟨iL ((0 : Int)), x, rfl, ⟨(by have h9 := congrArg (fun z : Int × KS => iL z.1) hres; exact h9), (by have h9 := congrArg (fun z : Int × KS => z.2) hres; exact h9)⟩, by rw [ht]; exact hP, va_K.moved hW.alike hK, hD⟩, hS.F ht⟩) hS.2.2 dX7_leftPart_11
    · skip
      rw [if_neg c_1] at hres
      refine lv_iload_n hx hb dX7_leftPart_4 rfl (lv_at hl 1 rfl) ?_
      refine lv_bipush (v := iI (40 : Int)) hx hb dX7_leftPart_5 (by decide) ?_
      refine wi_icmp_lt (tgt := 12) hx hb (by first | assumption | (unfold iR; omega) | exact kR01 (by assumption)) ⟨by decide, by decide⟩ dX7_leftPart_7 (by decide) (fun c_7 => ?_) (fun c_7 => ?_)
      · skip
        rw [if_pos c_7] at hres
        refine lv_aload_n hx hb dX7_leftPart_12 rfl (lv_at hl 0 rfl) ?_
        refine va_get (D := (dC, dI)) (ci := 7) (v := .ref (ad (62))) (C := RX7) (T := TX7) (N := 7) hx hb hts hinX7 hown hK hP (58) (kg58 (by omega)) rfl 4 (by decide) (hts (.fieldLink RX7 25 "LikeWords$Rules" "leftCodes" "[J") (by decide +kernel)) (fun _ h9 => h9) rfl dX7_leftPart_13 ?_
        refine lv_iload_n hx hb dX7_leftPart_16 rfl (lv_at hl 1 rfl) ?_
        refine wi_lald (f := (x).2 (62)) (n := kLen (62)) hx hb hK hP (62) 1 (kgj kC62 (by omega) rfl) rfl (i := r0) (by omega) (by show _ < ((40 : Nat) : Int); exact (by omega)) (kLen_lt _) dX7_leftPart_17 ?_
        refine lv_iconst (v := iI (2 : Int)) hx hb dX7_leftPart_18 (by decide) ?_
        refine lv_aload_n hx hb dX7_leftPart_19 rfl (lv_at hl 0 rfl) ?_
        refine va_get (D := (dC, dI)) (ci := 7) (v := .ref (ad (60))) (C := RX7) (T := TX7) (N := 7) hx hb hts hinX7 hown hK hP (58) (kg58 (by omega)) rfl 2 (by decide) (hts (.fieldLink RX7 19 "LikeWords$Rules" "leftSpans" "[I") (by decide +kernel)) (fun _ h9 => h9) rfl dX7_leftPart_20 ?_
        refine lv_iload_n hx hb dX7_leftPart_23 rfl (lv_at hl 1 rfl) ?_
        refine wi_iald (f := (x).2 (60)) (n := kLen (60)) hx hb hK hP (60) 0 (kgi kC60 (by omega) rfl) rfl (i := r0) (by omega) (by show _ < ((40 : Nat) : Int); exact (by omega)) (kLen_lt _) dX7_leftPart_24 ?_
        refine lv_iload_n hx hb dX7_leftPart_25 rfl (lv_at hl 3 rfl) ?_
        refine wi_isub hx hb dX7_leftPart_26 ?_
        refine wi_imul hx hb dX7_leftPart_27 ?_
        refine wk_lshr hx hb dX7_leftPart_28 ?_
        refine lv_lstore (lv' := [(4, .long (iL (iSr (((x).2 (62)) (r0).toNat) (((2 : Int)) * ((((x).2 (60)) (r0).toNat) - (t0)))))), (0, .ref (ad (58))), (1, .int (iI (r0))), (2, .int (iI (f0))), (3, .int (iI (t0)))]) hx hb dX7_leftPart_29 hl (by decide) rfl (fun ls hl => ?_)
        refine lv_lload hx hb dX7_leftPart_31 (lv_at hl 0 rfl) ?_
        refine lv_lconst (v := iL 1) hx hb dX7_leftPart_33 (by decide) ?_
        refine lv_iconst (v := iI (2 : Int)) hx hb dX7_leftPart_34 (by decide) ?_
        refine lv_iload_n hx hb dX7_leftPart_35 rfl (lv_at hl 4 rfl) ?_
        refine lv_iload_n hx hb dX7_leftPart_36 rfl (lv_at hl 3 rfl) ?_
        refine wi_isub hx hb dX7_leftPart_37 ?_
        refine wi_imul hx hb dX7_leftPart_38 ?_
        refine wk_lshl hx hb dX7_leftPart_39 ?_
        refine lv_lconst (v := iL 1) hx hb dX7_leftPart_40 (by decide) ?_
        refine wi_lsub hx hb dX7_leftPart_41 ?_
        refine wk_land hx hb dX7_leftPart_42 ?_
        exact W.lret (v := iL (iN (iSr (((x).2 (62)) (r0).toNat) (((2 : Int)) * ((((x).2 (60)) (r0).toNat) - (t0)))) ((iSl ((1 : Int)) (((2 : Int)) * ((t0) - (f0)))) - ((1 : Int))))) hx hb hr (fun t ht hW => ⟨⟨iL (iN (iSr (((x).2 (62)) (r0).toNat) (((2 : Int)) * ((((x).2 (60)) (r0).toNat) - (t0)))) ((iSl ((1 : Int)) (((2 : Int)) * ((t0) - (f0)))) - ((1 : Int)))), x, rfl, ⟨(by have h9 := congrArg (fun z : Int × KS => iL z.1) hres; exact h9), (by have h9 := congrArg (fun z : Int × KS => z.2) hres; exact h9)⟩, by rw [ht]; exact hP, va_K.moved hW.alike hK, hD⟩, hS.F ht⟩) hS.2.2 dX7_leftPart_43
      · skip
        rw [if_neg c_7] at hres
        refine lv_lconst (v := iL 0) hx hb dX7_leftPart_10 (by decide) ?_
        exact W.lret (v := iL ((0 : Int))) hx hb hr (fun t ht hW => ⟨⟨iL ((0 : Int)), x, rfl, ⟨(by have h9 := congrArg (fun z : Int × KS => iL z.1) hres; exact h9), (by have h9 := congrArg (fun z : Int × KS => z.2) hres; exact h9)⟩, by rw [ht]; exact hP, va_K.moved hW.alike hK, hD⟩, hS.F ht⟩) hS.2.2 dX7_leftPart_11
  exact key _ _ hP hS
theorem F_u_leftPart_fr (x : KS) (r0 : Int) (f0 : Int) (t0 : Int) : ksame [] [] x (F_u_leftPart x r0 f0 t0).2 := by
  unfold F_u_leftPart
  by_cases hc : (r0) < (0)
  · rw [if_pos hc]
    exact (km_rf _ _ _)
  · rw [if_neg hc]
    by_cases hc : (r0) < ((40 : Int))
    · rw [if_pos hc]
      exact (km_rf _ _ _)
    · rw [if_neg hc]
      exact (km_rf _ _ _)
theorem F_u_leftPart_2 (x : KS) (r0 : Int) (f0 : Int) (t0 : Int) : (F_u_leftPart x r0 f0 t0).2 = x := km_nil (F_u_leftPart_fr x r0 f0 t0)
def F_u_withLeft (x : KS) (v : Int) : Int × KS := ((F_t_placeOf (x) (59) ((x).1 (58) 6) (v)).1, x)
set_option maxHeartbeats 4000000 in
set_option maxRecDepth 100000 in
/-- LikeWords$Rules, withLeft -/
theorem c_u_withLeft (l : Launch) (dC : Nat → ClassId) (dI : Nat → Nat → Nat) (ad : Nat → Nat) (cI cJ cZ cR : ClassId) (M wl sz : Nat) (x : KS) (v : Int) (hM : 87 ≤ M) (rv : iR v) (ru : ruR x) : Met l yX7_withLeft wsX7_withLeft ({ frames := 2, cells := 0, slots := 0, locals := 46 }) (kPc dC dI ad cI cJ cZ cR M wl sz x [.ref (ad 58), .int (iI v)]) (va_Qi (fun (r : Int32) (u : KS) => r = iI (F_u_withLeft x v).1 ∧ u = (F_u_withLeft x v).2) (kAt dC dI ad cI cJ cZ cR M wl (va_A (kWd cI cJ cZ cR wl ad M (x)) sz)) (va_A (kWd cI cJ cZ cR wl ad M (x)) sz)) 0 0 (va_A (kWd cI cJ cZ cR wl ad M (x)) sz) := by
  refine Met.ofW (cc := cX7_withLeft) (maxL := 2) (ret := (some .int)) (by decide) rfl ?_
  intro p e s m args below meth c s₁ B hml hv
  obtain ⟨rfl, hsz, hP, hK, hD0, hNw⟩ := hv
  have hx := B.exec
  have hb := B.bytes
  have hr := B.returns
  have hts := atoms_spec (ws := wsX7_withLeft) B.pre
  have hown : s.vm.findClass RX7 = some m.cls := findClass_of_methodNamed B.named
  have hlocks := B.notSynchronized
  have hinX7 : ∀ w ∈ u_ws RX7 TX7 7, w ∈ wsX7_withLeft := by decide +kernel
  subst hsz
  have hD := hD0.self (sz := s.heap.size)
  generalize hAe : va_A (kWd cI cJ cZ cR wl ad M (x)) s.heap.size = A at hD ⊢
  have hA : ∀ q : Nat, s.heap.size ≤ q → A q := fun q h => by rw [← hAe]; exact Or.inr h
  have hS : va_S A s.heap s.heap [] := va_S.rf
  have hl := lv_entry ([.ref (ad 58), .int (iI v)]) (n := 2) (Nat.le_of_ble_eq_true rfl)
  rw [lg_entry_eq]
  generalize (lg_sl ([.ref (ad 58), .int (iI v)]) ++ List.replicate (2 - (lg_sl ([.ref (ad 58), .int (iI v)])).length) Slot.unset).toArray = ls at hl ⊢
  have hl : lv_has ls 2 [(0, .ref (ad (58))), (1, .int (iI (v)))] := hl
  obtain ⟨⟨r0, r1⟩, rn, rl, rr, rc, rd⟩ := id ru
  have key : ∀ (H : Heap) (locs : List Loc), va_P (dC, dI) vwCl (kWd cI cJ cZ cR wl ad M (x)) H → va_S A s.heap H locs → W p l e (headSpec wsX7_withLeft ({ frames := 2, cells := 0, slots := 0, locals := 46 })).room s m ([.ref (ad 58), .int (iI v)] : List Value).toArray below meth c H locs 0 0 (MQ below (va_Qi (fun (r : Int32) (u : KS) => r = iI (F_u_withLeft x v).1 ∧ u = (F_u_withLeft x v).2) (kAt dC dI ad cI cJ cZ cR M wl A) A) ([.ref (ad 58), .int (iI v)] : List Value).toArray s 0 0 A) (F0 m 0 ls []) := by
    intro H locs hP hS
    have hres : ((F_t_placeOf (x) (59) ((x).1 (58) 6) (v)).1, x) = F_u_withLeft x v := rfl
    refine lv_aload_n hx hb dX7_withLeft_0 rfl (lv_at hl 0 rfl) ?_
    refine va_get (D := (dC, dI)) (ci := 7) (v := .ref (ad (59))) (C := RX7) (T := TX7) (N := 7) hx hb hts hinX7 hown hK hP (58) (kg58 (by omega)) rfl 1 (by decide) (hts (.fieldLink RX7 15 "LikeWords$Rules" "leftNumbers" "[I") (by decide +kernel)) (fun _ h9 => h9) rfl dX7_withLeft_1 ?_
    refine lv_aload_n hx hb dX7_withLeft_4 rfl (lv_at hl 0 rfl) ?_
    refine va_get (D := (dC, dI)) (ci := 7) (v := .int (iI ((x).1 (58) 6))) (C := RX7) (T := TX7) (N := 7) hx hb hts hinX7 hown hK hP (58) (kg58 (by omega)) rfl 6 (by decide) (hts (.fieldLink RX7 32 "LikeWords$Rules" "held" "I") (by decide +kernel)) (fun _ h9 => h9) rfl dX7_withLeft_5 ?_
    refine lv_iload_n hx hb dX7_withLeft_8 rfl (lv_at hl 1 rfl) ?_
    have hFc : ∀ q, va_A (kWd cI cJ cZ cR wl ad M (x)) H.size q → A q := fun q hq => Or.elim hq (fun ⟨k, e, hk⟩ => hD.2 k (q, e) hk) (fun hk => hA q (Nat.le_trans hS.1 hk))
    refine va_calli (va_runSN (As := [.ref (ad (59)), .int (iI ((x).1 (58) 6)), .int (iI (v))]) (rest := []) ⟨hx, hb, hml, hown, hts⟩ (c_t_placeOf l dC dI ad cI cJ cZ cR M wl H.size (x) (59) ((x).1 (58) 6) (v) hM kC59 (by omega) r0 (by omega) rv (fun j => by have := rn j; unfold iR; omega) (by decide)) ⟨va_cnB 3 hts gX7_withLeft_X11_placeOf_n87 rfl rfl rfl hNw.2.2 (hts (.initialized RX11) (by decide +kernel)) (by decide +kernel) ⟨Nat.le_of_ble_eq_true rfl, Nat.le_of_ble_eq_true rfl⟩, hts (.static yX11_placeOf) (by decide +kernel), trivial⟩ ⟨fun a U g mk q => by obtain ⟨q0, q1, qP, qK, qD, qN⟩ := q; exact ⟨q0, q1, qP, va_K.moved (u := U) (U := U.calling g mk a) (Vm.Alike.refl U.vm) qK, qD, kNw.same (u := U) (U := U.calling g mk a) rfl qN⟩, fun U hU hW => ⟨rfl, by rw [hU], by rw [hU]; exact hP, va_K.moved hW.alike hK, hD.weaken (fun _ _ _ _ => trivial), kNw.warm hW hNw⟩⟩ rfl rfl hl.1 rfl (lv_room (Nat.le_of_ble_eq_true rfl)) dX7_withLeft_9 ⟨Nat.le_of_ble_eq_true rfl, Nat.le_of_ble_eq_true rfl⟩) hS (fun q _ h => hFc q h) hFc (fun r9 u9 t H1 locs ht hvm hw hB hz1 hk1 hS => ?_)
    obtain ⟨hP1, hK1, hD1⟩ := hB
    rw [ht] at hP1
    obtain ⟨hw1, hw2⟩ := hw
    rw [hw2] at hP1 hD1
    rw [hw1]
    rw [F_t_placeOf_2] at hP1 hD1
    have hD2 := hD1.weaken (B := A) (fun _ q _ h => hFc q.1 h)
    have hP := hP1
    have hD := hD2
    generalize H1 = H at hP hS ⊢
    exact W.iret (v := iI ((F_t_placeOf (x) (59) ((x).1 (58) 6) (v)).1)) hx hb hr (fun t ht hW => ⟨⟨iI ((F_t_placeOf (x) (59) ((x).1 (58) 6) (v)).1), x, rfl, ⟨(by have h9 := congrArg (fun z : Int × KS => iI z.1) hres; exact h9), (by have h9 := congrArg (fun z : Int × KS => z.2) hres; exact h9)⟩, by rw [ht]; exact hP, va_K.moved hW.alike hK, hD⟩, hS.F ht⟩) hS.2.2 dX7_withLeft_12
  exact key _ _ hP hS
theorem F_u_withLeft_fr (x : KS) (v : Int) : ksame [] [] x (F_u_withLeft x v).2 := by
  unfold F_u_withLeft
  exact (km_rf _ _ _)
theorem F_u_withLeft_2 (x : KS) (v : Int) : (F_u_withLeft x v).2 = x := km_nil (F_u_withLeft_fr x v)
