-- deps: 30 31 32 33 34 35 36 37 38 39 40 41
/-- what holds of the Walk: its STRING's LETTERS and its STATES -/
def waR (x : KS) : Prop := (0 ≤ x.1 82 1 ∧ x.1 82 1 ≤ 30) ∧ (∀ j : Nat, -1 ≤ x.2 83 j ∧ x.2 83 j ≤ 3) ∧ (∀ j : Nat, -1000 ≤ x.2 81 j ∧ x.2 81 j < 320)
theorem waR_81 {x : KS} {j : Nat} {v : Int} (h0 : -1000 ≤ v) (h1 : v < 320) (wa : waR x) : waR (kA x 81 j v) := ⟨wa.1, wa.2.1, iU_all (P := fun z => -1000 ≤ z ∧ z < 320) ⟨h0, h1⟩ wa.2.2⟩
theorem waR_83 {x : KS} {j : Nat} {v : Int} (h0 : -1 ≤ v) (h1 : v ≤ 3) (wa : waR x) : waR (kA x 83 j v) := ⟨wa.1, iU_all (P := fun z => -1 ≤ z ∧ z ≤ 3) ⟨h0, h1⟩ wa.2.1, wa.2.2⟩
def F_v_begin (x : KS)  : Int × KS := (0, kA ((F_w_wipe (x) (82)).2) (81) ((0 : Int)).toNat ((0 : Int)))
set_option maxHeartbeats 4000000 in
set_option maxRecDepth 100000 in
/-- LikeWords$Walk, begin -/
theorem c_v_begin (l : Launch) (dC : Nat → ClassId) (dI : Nat → Nat → Nat) (ad : Nat → Nat) (cI cJ cZ cR : ClassId) (M wl sz : Nat) (x : KS)  (hM : 87 ≤ M)  : Met l yX9_begin wsX9_begin ({ frames := 1, cells := 0, slots := 0, locals := 20 }) (kPc dC dI ad cI cJ cZ cR M wl sz x [.ref (ad 80)]) (va_Qv (fun u : KS => u = (F_v_begin x).2) (kAt dC dI ad cI cJ cZ cR M wl (va_A (kWd cI cJ cZ cR wl ad M (x)) sz)) (va_A (kWd cI cJ cZ cR wl ad M (x)) sz)) 0 0 (va_A (kWd cI cJ cZ cR wl ad M (x)) sz) := by
  refine Met.ofW (cc := cX9_begin) (maxL := 1) (ret := none) (by decide) rfl ?_
  intro p e s m args below meth c s₁ B hml hv
  obtain ⟨rfl, hsz, hP, hK, hD0, hNw⟩ := hv
  have hx := B.exec
  have hb := B.bytes
  have hr := B.returns
  have hts := atoms_spec (ws := wsX9_begin) B.pre
  have hown : s.vm.findClass RX9 = some m.cls := findClass_of_methodNamed B.named
  have hlocks := B.notSynchronized
  have hinX9 : ∀ w ∈ u_ws RX9 TX9 3, w ∈ wsX9_begin := by decide +kernel
  subst hsz
  have hD := hD0.self (sz := s.heap.size)
  generalize hAe : va_A (kWd cI cJ cZ cR wl ad M (x)) s.heap.size = A at hD ⊢
  have hA : ∀ q : Nat, s.heap.size ≤ q → A q := fun q h => by rw [← hAe]; exact Or.inr h
  have hS : va_S A s.heap s.heap [] := va_S.rf
  have hl := lv_entry ([.ref (ad 80)]) (n := 1) (Nat.le_of_ble_eq_true rfl)
  rw [lg_entry_eq]
  generalize (lg_sl ([.ref (ad 80)]) ++ List.replicate (1 - (lg_sl ([.ref (ad 80)])).length) Slot.unset).toArray = ls at hl ⊢
  have hl : lv_has ls 1 [(0, .ref (ad (80)))] := hl
  have key : ∀ (H : Heap) (locs : List Loc), va_P (dC, dI) vwCl (kWd cI cJ cZ cR wl ad M (x)) H → va_S A s.heap H locs → W p l e (headSpec wsX9_begin ({ frames := 1, cells := 0, slots := 0, locals := 20 })).room s m ([.ref (ad 80)] : List Value).toArray below meth c H locs 0 0 (MQ below (va_Qv (fun u : KS => u = (F_v_begin x).2) (kAt dC dI ad cI cJ cZ cR M wl A) A) ([.ref (ad 80)] : List Value).toArray s 0 0 A) (F0 m 0 ls []) := by
    intro H locs hP hS
    have hres : (0, kA ((F_w_wipe (x) (82)).2) (81) ((0 : Int)).toNat ((0 : Int))) = F_v_begin x := rfl
    refine lv_aload_n hx hb dX9_begin_0 rfl (lv_at hl 0 rfl) ?_
    refine va_get (D := (dC, dI)) (ci := 9) (v := .ref (ad (82))) (C := RX9) (T := TX9) (N := 3) hx hb hts hinX9 hown hK hP (80) (kg80 (by omega)) rfl 2 (by decide) (hts (.fieldLink RX9 24 "LikeWords$Walk" "word" "LLikeWords$Word;") (by decide +kernel)) (fun _ h9 => h9) rfl dX9_begin_1 ?_
    have hFc : ∀ q, va_A (kWd cI cJ cZ cR wl ad M (x)) H.size q → A q := fun q hq => Or.elim hq (fun ⟨k, e, hk⟩ => hD.2 k (q, e) hk) (fun hk => hA q (Nat.le_trans hS.1 hk))
    refine va_callv (va_runV (b := ad (82)) (As := []) (rest := []) ⟨hx, hb, hml, hown, hts⟩ (c_w_wipe l dC dI ad cI cJ cZ cR M wl H.size (x) (82)  hM rfl (by omega) ) (cwV 0 hts gX9_begin_X10_wipe rfl rfl rfl (by decide +kernel) ⟨Nat.le_of_ble_eq_true rfl, Nat.le_of_ble_eq_true rfl⟩) ⟨fun a U g mk q => by obtain ⟨q0, q1, qP, qK, qD, qN⟩ := q; exact ⟨q0, q1, qP, va_K.moved (u := U) (U := U.calling g mk a) (Vm.Alike.refl U.vm) qK, qD, kNw.same (u := U) (U := U.calling g mk a) rfl qN⟩, va_recv hK hP (ci := 10) (q0 := 82) rfl (kgw rfl (by omega)), fun U hU hW => ⟨rfl, by rw [hU], by rw [hU]; exact hP, va_K.moved hW.alike hK, hD.weaken (fun _ _ _ _ => trivial), kNw.warm hW hNw⟩⟩ rfl rfl hl.1 rfl (lv_room (Nat.le_of_ble_eq_true rfl)) dX9_begin_4 ⟨Nat.le_of_ble_eq_true rfl, Nat.le_of_ble_eq_true rfl⟩) hS (fun q _ h => hFc q h) hFc (fun u9 t H1 locs ht hvm hw hB hz1 hk1 hS => ?_)
    obtain ⟨hP1, hK1, hD1⟩ := hB
    rw [ht] at hP1
    rw [hw] at hP1 hD1
    have hD2 := hD1.weaken (B := A) (fun _ q _ h => hFc q.1 h)
    have hP := hP1
    have hD := hD2
    generalize H1 = H at hP hS ⊢
    refine lv_aload_n hx hb dX9_begin_7 rfl (lv_at hl 0 rfl) ?_
    refine va_get (D := (dC, dI)) (ci := 9) (v := .ref (ad (81))) (C := RX9) (T := TX9) (N := 3) hx hb hts hinX9 hown hK hP (80) (kg80 (by omega)) rfl 1 (by decide) (hts (.fieldLink RX9 15 "LikeWords$Walk" "places" "[I") (by decide +kernel)) (fun _ h9 => h9) rfl dX9_begin_8 ?_
    refine lv_iconst (v := iI (0 : Int)) hx hb dX9_begin_11 (by decide) ?_
    refine lv_iconst (v := iI (0 : Int)) hx hb dX9_begin_12 (by decide) ?_
    refine wi_iast (f := ((F_w_wipe (x) (82)).2).2 (81)) (n := kLen (81)) hx hb hK hP hD hS (81) 0 (kgi kC81 (by omega) rfl) rfl (i := (0 : Int)) (x := (0 : Int)) (by omega) (by show _ < ((31 : Nat) : Int); exact (by omega)) (kLen_lt _) dX9_begin_13 (fun H locs hP hD hS => ?_)
    rw [ksi kC81] at hP hD
    exact W.vret hx hb hr (fun t ht hW => ⟨⟨kA ((F_w_wipe (x) (82)).2) (81) ((0 : Int)).toNat ((0 : Int)), rfl, (by have h9 := congrArg (fun z : Int × KS => z.2) hres; exact h9), by rw [ht]; exact hP, va_K.moved hW.alike hK, hD⟩, hS.F ht⟩) hS.2.2 dX9_begin_14
  exact key _ _ hP hS
theorem F_v_begin_fr (x : KS)  : ksame [(82, 1)] [81] x (F_v_begin x).2 := by
  unfold F_v_begin
  exact (km_a (List.Mem.head _) (km_tr (km_rf _ _ _) (km_mono (km1 (List.Mem.head _) km0) km0 (F_w_wipe_fr (x) (82)))))
theorem F_v_begin_q (x : KS)   : kq [] [81] x (F_v_begin x).2 := kq_of (F_v_begin_fr x) (kq_c (Or.inl rfl) kq_m) (kq_c (Or.inr (by decide)) kq_n)
def F_v_seek_s  : Nat → Nat → KS → Int → Int → Int → Int → Int × KS
  | 0, _, x, _, _, _, _ => (0, x)
  | n + 1, t, x, p0, p1, p2, p3 => match t with
    | 0 => (fun (v : Int) (i : Int) (d : Int) => (if ((1000000 : Int)) ≤ (d) then ((0 : Int), x) else (if (i) < (0) then ((0 : Int), x) else F_v_seek_s n 1 (x) (v) (i) (d) ((((x).2 (83)) (i).toNat) + ((1 : Int)))))) p0 p1 p2
    | 1 => (fun (v : Int) (i : Int) (d : Int) (z : Int) => (if ((F_a_letterCount (x)).1) ≤ (z) then (if (z) < ((F_a_letterCount (x)).1) then (if ((i) + (1 : Int)) < ((x).1 (82) 1) then F_v_seek_s n 0 (kA (kA (kA (x) (83) (i).toNat (z)) (81) ((i) + ((1 : Int))).toNat ((F_a_step (kA (x) (83) (i).toNat (z)) (((x).2 (81)) (i).toNat) (z)).1)) (83) ((i) + (1 : Int)).toNat ((-1 : Int))) (v) ((i) + (1 : Int)) ((d) + (1 : Int)) (0) else ((1 : Int), kA (kA (x) (83) (i).toNat (z)) (81) ((i) + ((1 : Int))).toNat ((F_a_step (kA (x) (83) (i).toNat (z)) (((x).2 (81)) (i).toNat) (z)).1))) else F_v_seek_s n 0 (x) (v) ((i) + (-1 : Int)) ((d) + (1 : Int)) (0)) else (if (0) ≤ ((F_a_step (x) (((x).2 (81)) (i).toNat) (z)).1) then (if (z) < ((F_a_letterCount (x)).1) then (if ((i) + (1 : Int)) < ((x).1 (82) 1) then F_v_seek_s n 0 (kA (kA (kA (x) (83) (i).toNat (z)) (81) ((i) + ((1 : Int))).toNat ((F_a_step (kA (x) (83) (i).toNat (z)) (((x).2 (81)) (i).toNat) (z)).1)) (83) ((i) + (1 : Int)).toNat ((-1 : Int))) (v) ((i) + (1 : Int)) ((d) + (1 : Int)) (0) else ((1 : Int), kA (kA (x) (83) (i).toNat (z)) (81) ((i) + ((1 : Int))).toNat ((F_a_step (kA (x) (83) (i).toNat (z)) (((x).2 (81)) (i).toNat) (z)).1))) else F_v_seek_s n 0 (x) (v) ((i) + (-1 : Int)) ((d) + (1 : Int)) (0)) else F_v_seek_s n 1 (x) (v) (i) (d) ((z) + (1 : Int))))) p0 p1 p2 p3
    | _ => (0, x)
theorem F_v_seek_e0  (n : Nat) (x : KS) (v : Int) (i : Int) (d : Int) (q0 : Int) : F_v_seek_s (n + 1) 0 x v i d q0 = (if ((1000000 : Int)) ≤ (d) then ((0 : Int), x) else (if (i) < (0) then ((0 : Int), x) else F_v_seek_s n 1 (x) (v) (i) (d) ((((x).2 (83)) (i).toNat) + ((1 : Int))))) := rfl
theorem F_v_seek_e1  (n : Nat) (x : KS) (v : Int) (i : Int) (d : Int) (z : Int) : F_v_seek_s (n + 1) 1 x v i d z = (if ((F_a_letterCount (x)).1) ≤ (z) then (if (z) < ((F_a_letterCount (x)).1) then (if ((i) + (1 : Int)) < ((x).1 (82) 1) then F_v_seek_s n 0 (kA (kA (kA (x) (83) (i).toNat (z)) (81) ((i) + ((1 : Int))).toNat ((F_a_step (kA (x) (83) (i).toNat (z)) (((x).2 (81)) (i).toNat) (z)).1)) (83) ((i) + (1 : Int)).toNat ((-1 : Int))) (v) ((i) + (1 : Int)) ((d) + (1 : Int)) (0) else ((1 : Int), kA (kA (x) (83) (i).toNat (z)) (81) ((i) + ((1 : Int))).toNat ((F_a_step (kA (x) (83) (i).toNat (z)) (((x).2 (81)) (i).toNat) (z)).1))) else F_v_seek_s n 0 (x) (v) ((i) + (-1 : Int)) ((d) + (1 : Int)) (0)) else (if (0) ≤ ((F_a_step (x) (((x).2 (81)) (i).toNat) (z)).1) then (if (z) < ((F_a_letterCount (x)).1) then (if ((i) + (1 : Int)) < ((x).1 (82) 1) then F_v_seek_s n 0 (kA (kA (kA (x) (83) (i).toNat (z)) (81) ((i) + ((1 : Int))).toNat ((F_a_step (kA (x) (83) (i).toNat (z)) (((x).2 (81)) (i).toNat) (z)).1)) (83) ((i) + (1 : Int)).toNat ((-1 : Int))) (v) ((i) + (1 : Int)) ((d) + (1 : Int)) (0) else ((1 : Int), kA (kA (x) (83) (i).toNat (z)) (81) ((i) + ((1 : Int))).toNat ((F_a_step (kA (x) (83) (i).toNat (z)) (((x).2 (81)) (i).toNat) (z)).1))) else F_v_seek_s n 0 (x) (v) ((i) + (-1 : Int)) ((d) + (1 : Int)) (0)) else F_v_seek_s n 1 (x) (v) (i) (d) ((z) + (1 : Int)))) := rfl
def F_v_seek (x : KS) (v : Int) : Int × KS := F_v_seek_s 10000100 0 (x) (v) (v) ((0 : Int)) (0)
set_option maxHeartbeats 4000000 in
set_option maxRecDepth 100000 in
/-- LikeWords$Walk, seek -/
theorem c_v_seek (l : Launch) (dC : Nat → ClassId) (dI : Nat → Nat → Nat) (ad : Nat → Nat) (cI cJ cZ cR : ClassId) (M wl sz : Nat) (x : KS) (v : Int) (hM : 87 ≤ M) (ma : maR x) (l2 : 1 ≤ x.1 1 2 ∧ x.1 1 2 ≤ 4) (wa : waR x) (v1 : v < x.1 82 1) (v0 : -1 ≤ v) : Met l yX9_seek wsX9_seek ({ frames := 1, cells := 0, slots := 0, locals := 23 }) (kPc dC dI ad cI cJ cZ cR M wl sz x [.ref (ad 80), .int (iI v)]) (va_Qi (fun (r : Int32) (u : KS) => r = iI (F_v_seek x v).1 ∧ u = (F_v_seek x v).2) (kAt dC dI ad cI cJ cZ cR M wl (va_A (kWd cI cJ cZ cR wl ad M (x)) sz)) (va_A (kWd cI cJ cZ cR wl ad M (x)) sz)) 0 0 (va_A (kWd cI cJ cZ cR wl ad M (x)) sz) := by
  refine Met.ofW (cc := cX9_seek) (maxL := 5) (ret := (some .boolean)) (by decide) rfl ?_
  intro p e s m args below meth c s₁ B hml hv
  obtain ⟨rfl, hsz, hP, hK, hD0, hNw⟩ := hv
  have hx := B.exec
  have hb := B.bytes
  have hr := B.returns
  have hts := atoms_spec (ws := wsX9_seek) B.pre
  have hown : s.vm.findClass RX9 = some m.cls := findClass_of_methodNamed B.named
  have hlocks := B.notSynchronized
  have hinX10 : ∀ w ∈ u_ws RX10 TX10 2, w ∈ wsX9_seek := by decide +kernel
  have hinX9 : ∀ w ∈ u_ws RX9 TX9 3, w ∈ wsX9_seek := by decide +kernel
  subst hsz
  have hD := hD0.self (sz := s.heap.size)
  generalize hAe : va_A (kWd cI cJ cZ cR wl ad M (x)) s.heap.size = A at hD ⊢
  have hA : ∀ q : Nat, s.heap.size ≤ q → A q := fun q h => by rw [← hAe]; exact Or.inr h
  have hS : va_S A s.heap s.heap [] := va_S.rf
  have hl := lv_entry ([.ref (ad 80), .int (iI v)]) (n := 5) (Nat.le_of_ble_eq_true rfl)
  rw [lg_entry_eq]
  generalize (lg_sl ([.ref (ad 80), .int (iI v)]) ++ List.replicate (5 - (lg_sl ([.ref (ad 80), .int (iI v)])).length) Slot.unset).toArray = ls at hl ⊢
  have hl : lv_has ls 5 [(0, .ref (ad (80))), (1, .int (iI (v)))] := hl
  have wa1 := wa.1
  have L : ∀ n : Nat, (∀ (y : KS) (i : Int) (d : Int), (waR y) → (kq [] [81] x y) → (y.1 82 1 = x.1 82 1) → (i < x.1 82 1) → (-1 ≤ i) → (0 ≤ d) → (d ≤ 1000000) → ((1000000 - d) * 10 + 8 < n) → F_v_seek_s n 0 y v i d 0 = F_v_seek x v → ∀ (H : Heap) (locs : List Loc) (ls : Array Slot), va_P (dC, dI) vwCl (kWd cI cJ cZ cR wl ad M (y)) H → va_D A (kWd cI cJ cZ cR wl ad M (y)) → va_S A s.heap H locs → lv_has ls 5 [(0, .ref (ad (80))), (1, .int (iI (v))), (2, .int (iI (i))), (3, .int (iI (d)))] → W p l e (headSpec wsX9_seek ({ frames := 1, cells := 0, slots := 0, locals := 23 })).room s m ([.ref (ad 80), .int (iI v)] : List Value).toArray below meth c H locs 0 0 (MQ below (va_Qi (fun (r : Int32) (u : KS) => r = iI (F_v_seek x v).1 ∧ u = (F_v_seek x v).2) (kAt dC dI ad cI cJ cZ cR M wl A) A) ([.ref (ad 80), .int (iI v)] : List Value).toArray s 0 0 A) (F0 m 4 ls [])) ∧ (∀ (y : KS) (i : Int) (d : Int) (z : Int), (waR y) → (kq [] [81] x y) → (y.1 82 1 = x.1 82 1) → (i < x.1 82 1) → (0 ≤ i) → (0 ≤ d) → (d < 1000000) → (0 ≤ z) → (z ≤ 4) → ((1000000 - d) * 10 + 6 - z < n) → F_v_seek_s n 1 y v i d z = F_v_seek x v → ∀ (H : Heap) (locs : List Loc) (ls : Array Slot), va_P (dC, dI) vwCl (kWd cI cJ cZ cR wl ad M (y)) H → va_D A (kWd cI cJ cZ cR wl ad M (y)) → va_S A s.heap H locs → lv_has ls 5 [(0, .ref (ad (80))), (1, .int (iI (v))), (2, .int (iI (i))), (3, .int (iI (d))), (4, .int (iI (z)))] → W p l e (headSpec wsX9_seek ({ frames := 1, cells := 0, slots := 0, locals := 23 })).room s m ([.ref (ad 80), .int (iI v)] : List Value).toArray below meth c H locs 0 0 (MQ below (va_Qi (fun (r : Int32) (u : KS) => r = iI (F_v_seek x v).1 ∧ u = (F_v_seek x v).2) (kAt dC dI ad cI cJ cZ cR M wl A) A) ([.ref (ad 80), .int (iI v)] : List Value).toArray s 0 0 A) (F0 m 27 ls [])) := by
    intro n
    induction n with
    | zero =>
      refine ⟨?_, ?_⟩
      · intro y i d way qy ey i1 i0 d0 d1 fu hres
        exact absurd fu (by omega)
      · intro y i d z way qy ey i1 i0 d0 d1 z0 z1 fu hres
        exact absurd fu (by omega)
    | succ n ih =>
      refine ⟨?_, ?_⟩
      · intro y i d way qy ey i1 i0 d0 d1 fu hres H locs ls hP hD hS hl
        rw [F_v_seek_e0] at hres
        obtain ⟨⟨u0, u1⟩, wj, pj⟩ := id way
        have may := maR_q qy ma
        have l2y := l2_q qy l2
        refine lv_iload_n hx hb dX9_seek_4 rfl (lv_at hl 3 rfl) ?_
        refine lv_ldc (v := iI (1000000 : Int)) hx hb hown (hts (.constant RX9 45 (1000000)) (by decide +kernel)) dX9_seek_5 ?_
        refine wi_icmp_ge (tgt := 147) hx hb (by first | assumption | (unfold iR; omega) | exact kR01 (by assumption)) ⟨by decide, by decide⟩ dX9_seek_7 (by decide) (fun c_7 => ?_) (fun c_7 => ?_)
        · skip
          rw [if_pos c_7] at hres
          refine lv_iconst (v := iI (0 : Int)) hx hb dX9_seek_147 (by decide) ?_
          exact W.zret (v := iI ((0 : Int))) hx hb hr (kz _ (by first | assumption | omega)) (fun t ht hW => ⟨⟨iI ((0 : Int)), y, rfl, ⟨(by have h9 := congrArg (fun z : Int × KS => iI z.1) hres; exact h9), (by have h9 := congrArg (fun z : Int × KS => z.2) hres; exact h9)⟩, by rw [ht]; exact hP, va_K.moved hW.alike hK, hD⟩, hS.F ht⟩) hS.2.2 dX9_seek_148
        · skip
          rw [if_neg c_7] at hres
          refine lv_iload_n hx hb dX9_seek_10 rfl (lv_at hl 2 rfl) ?_
          refine wi_if_lt (tgt := 147) hx hb (by first | assumption | (unfold iR; omega) | exact kR01 (by assumption)) dX9_seek_11 (by decide) (fun c_11 => ?_) (fun c_11 => ?_)
          · skip
            rw [if_pos c_11] at hres
            refine lv_iconst (v := iI (0 : Int)) hx hb dX9_seek_147 (by decide) ?_
            exact W.zret (v := iI ((0 : Int))) hx hb hr (kz _ (by first | assumption | omega)) (fun t ht hW => ⟨⟨iI ((0 : Int)), y, rfl, ⟨(by have h9 := congrArg (fun z : Int × KS => iI z.1) hres; exact h9), (by have h9 := congrArg (fun z : Int × KS => z.2) hres; exact h9)⟩, by rw [ht]; exact hP, va_K.moved hW.alike hK, hD⟩, hS.F ht⟩) hS.2.2 dX9_seek_148
          · skip
            rw [if_neg c_11] at hres
            have wj0 := wj i.toNat
            refine lv_aload_n hx hb dX9_seek_14 rfl (lv_at hl 0 rfl) ?_
            refine va_get (D := (dC, dI)) (ci := 9) (v := .ref (ad (82))) (C := RX9) (T := TX9) (N := 3) hx hb hts hinX9 hown hK hP (80) (kg80 (by omega)) rfl 2 (by decide) (hts (.fieldLink RX9 24 "LikeWords$Walk" "word" "LLikeWords$Word;") (by decide +kernel)) (fun _ h9 => h9) rfl dX9_seek_15 ?_
            refine va_get (D := (dC, dI)) (ci := 10) (v := .ref (ad (83))) (C := RX10) (T := TX10) (N := 2) hx hb hts hinX10 hown hK hP (82) (kgw rfl (by omega)) rfl 0 (by decide) (hts (.fieldLink RX9 42 "LikeWords$Word" "signs" "[I") (by decide +kernel)) (fun _ h9 => h9) rfl dX9_seek_18 ?_
            refine lv_iload_n hx hb dX9_seek_21 rfl (lv_at hl 2 rfl) ?_
            refine wi_iald (f := (y).2 (83)) (n := kLen (83)) hx hb hK hP (83) 0 (kgi (kI_row (c := 82) rfl) (by omega) rfl) rfl (i := i) (by omega) (by show _ < ((30 : Nat) : Int); exact (by omega)) (kLen_lt _) dX9_seek_22 ?_
            refine lv_iconst (v := iI (1 : Int)) hx hb dX9_seek_23 (by decide) ?_
            refine wi_iadd hx hb dX9_seek_24 ?_
            refine lv_istore (lv' := [(4, .int (iI ((((y).2 (83)) (i).toNat) + ((1 : Int))))), (0, .ref (ad (80))), (1, .int (iI (v))), (2, .int (iI (i))), (3, .int (iI (d)))]) hx hb dX9_seek_25 hl (by decide) rfl (fun ls hl => ?_)
            exact ih.2 (y) (i) (d) ((((y).2 (83)) (i).toNat) + ((1 : Int))) (way) (qy) (ey) (by omega) (by omega) (by omega) (by omega) (by omega) (by omega) (by omega) hres _ _ ls hP hD hS (lv_sub hl [1, 2, 3, 4, 0] rfl)
      · intro y i d z way qy ey i1 i0 d0 d1 z0 z1 fu hres H locs ls hP hD hS hl
        rw [F_v_seek_e1] at hres
        obtain ⟨⟨u0, u1⟩, wj, pj⟩ := id way
        have may := maR_q qy ma
        have l2y := l2_q qy l2
        refine lv_iload hx hb dX9_seek_27 (lv_at hl 4 rfl) ?_
        refine lv_aload_n hx hb dX9_seek_29 rfl (lv_at hl 0 rfl) ?_
        refine va_get (D := (dC, dI)) (ci := 9) (v := .ref (ad (64))) (C := RX9) (T := TX9) (N := 3) hx hb hts hinX9 hown hK hP (80) (kg80 (by omega)) rfl 0 (by decide) (hts (.fieldLink RX9 9 "LikeWords$Walk" "machine" "LLikeWords$Machine;") (by decide +kernel)) (fun _ h9 => h9) rfl dX9_seek_30 ?_
        have hFc : ∀ q, va_A (kWd cI cJ cZ cR wl ad M (y)) H.size q → A q := fun q hq => Or.elim hq (fun ⟨k, e, hk⟩ => hD.2 k (q, e) hk) (fun hk => hA q (Nat.le_trans hS.1 hk))
        refine va_calli (va_runV (b := ad (64)) (As := []) (rest := [.int (iI (z))]) ⟨hx, hb, hml, hown, hts⟩ (c_a_letterCount l dC dI ad cI cJ cZ cR M wl H.size (y)   hM ) (cwV 0 hts gX9_seek_X3_letterCount rfl rfl rfl (by decide +kernel) ⟨Nat.le_of_ble_eq_true rfl, Nat.le_of_ble_eq_true rfl⟩) ⟨fun a U g mk q => by obtain ⟨q0, q1, qP, qK, qD, qN⟩ := q; exact ⟨q0, q1, qP, va_K.moved (u := U) (U := U.calling g mk a) (Vm.Alike.refl U.vm) qK, qD, kNw.same (u := U) (U := U.calling g mk a) rfl qN⟩, va_recv hK hP (ci := 3) (q0 := 64) rfl (kg64 (by omega)), fun U hU hW => ⟨rfl, by rw [hU], by rw [hU]; exact hP, va_K.moved hW.alike hK, hD.weaken (fun _ _ _ _ => trivial), kNw.warm hW hNw⟩⟩ rfl rfl hl.1 rfl (lv_room (Nat.le_of_ble_eq_true rfl)) dX9_seek_33 ⟨Nat.le_of_ble_eq_true rfl, Nat.le_of_ble_eq_true rfl⟩) hS (fun q _ h => hFc q h) hFc (fun r9 u9 t H1 locs ht hvm hw hB hz1 hk1 hS => ?_)
        obtain ⟨hP1, hK1, hD1⟩ := hB
        rw [ht] at hP1
        obtain ⟨hw1, hw2⟩ := hw
        rw [hw2] at hP1 hD1
        rw [hw1]
        rw [F_a_letterCount_2] at hP1 hD1
        have hD2 := hD1.weaken (B := A) (fun _ q _ h => hFc q.1 h)
        have hP := hP1
        have hD := hD2
        generalize H1 = H at hP hS ⊢
        have lc : (F_a_letterCount y).1 = y.1 1 2 := rfl
        refine wi_icmp_ge (tgt := 63) hx hb (by unfold iR; omega) (by unfold iR; omega) dX9_seek_36 (by decide) (fun c_36 => ?_) (fun c_36 => ?_)
        · skip
          rw [if_pos c_36] at hres
          refine lv_iload hx hb dX9_seek_63 (lv_at hl 4 rfl) ?_
          refine lv_aload_n hx hb dX9_seek_65 rfl (lv_at hl 0 rfl) ?_
          refine va_get (D := (dC, dI)) (ci := 9) (v := .ref (ad (64))) (C := RX9) (T := TX9) (N := 3) hx hb hts hinX9 hown hK hP (80) (kg80 (by omega)) rfl 0 (by decide) (hts (.fieldLink RX9 9 "LikeWords$Walk" "machine" "LLikeWords$Machine;") (by decide +kernel)) (fun _ h9 => h9) rfl dX9_seek_66 ?_
          have hFc : ∀ q, va_A (kWd cI cJ cZ cR wl ad M (y)) H.size q → A q := fun q hq => Or.elim hq (fun ⟨k, e, hk⟩ => hD.2 k (q, e) hk) (fun hk => hA q (Nat.le_trans hS.1 hk))
          refine va_calli (va_runV (b := ad (64)) (As := []) (rest := [.int (iI (z))]) ⟨hx, hb, hml, hown, hts⟩ (c_a_letterCount l dC dI ad cI cJ cZ cR M wl H.size (y)   hM ) (cwV 0 hts gX9_seek_X3_letterCount rfl rfl rfl (by decide +kernel) ⟨Nat.le_of_ble_eq_true rfl, Nat.le_of_ble_eq_true rfl⟩) ⟨fun a U g mk q => by obtain ⟨q0, q1, qP, qK, qD, qN⟩ := q; exact ⟨q0, q1, qP, va_K.moved (u := U) (U := U.calling g mk a) (Vm.Alike.refl U.vm) qK, qD, kNw.same (u := U) (U := U.calling g mk a) rfl qN⟩, va_recv hK hP (ci := 3) (q0 := 64) rfl (kg64 (by omega)), fun U hU hW => ⟨rfl, by rw [hU], by rw [hU]; exact hP, va_K.moved hW.alike hK, hD.weaken (fun _ _ _ _ => trivial), kNw.warm hW hNw⟩⟩ rfl rfl hl.1 rfl (lv_room (Nat.le_of_ble_eq_true rfl)) dX9_seek_69 ⟨Nat.le_of_ble_eq_true rfl, Nat.le_of_ble_eq_true rfl⟩) hS (fun q _ h => hFc q h) hFc (fun r9 u9 t H1 locs ht hvm hw hB hz1 hk1 hS => ?_)
          obtain ⟨hP1, hK1, hD1⟩ := hB
          rw [ht] at hP1
          obtain ⟨hw1, hw2⟩ := hw
          rw [hw2] at hP1 hD1
          rw [hw1]
          rw [F_a_letterCount_2] at hP1 hD1
          have hD2 := hD1.weaken (B := A) (fun _ q _ h => hFc q.1 h)
          have hP := hP1
          have hD := hD2
          generalize H1 = H at hP hS ⊢
          have lc2 : (F_a_letterCount y).1 = y.1 1 2 := rfl
          refine wi_icmp_lt (tgt := 81) hx hb (by unfold iR; omega) (by unfold iR; omega) dX9_seek_72 (by decide) (fun c_72 => ?_) (fun c_72 => ?_)
          · skip
            rw [if_pos c_72] at hres
            refine lv_aload_n hx hb dX9_seek_81 rfl (lv_at hl 0 rfl) ?_
            refine va_get (D := (dC, dI)) (ci := 9) (v := .ref (ad (82))) (C := RX9) (T := TX9) (N := 3) hx hb hts hinX9 hown hK hP (80) (kg80 (by omega)) rfl 2 (by decide) (hts (.fieldLink RX9 24 "LikeWords$Walk" "word" "LLikeWords$Word;") (by decide +kernel)) (fun _ h9 => h9) rfl dX9_seek_82 ?_
            refine va_get (D := (dC, dI)) (ci := 10) (v := .ref (ad (83))) (C := RX10) (T := TX10) (N := 2) hx hb hts hinX10 hown hK hP (82) (kgw rfl (by omega)) rfl 0 (by decide) (hts (.fieldLink RX9 42 "LikeWords$Word" "signs" "[I") (by decide +kernel)) (fun _ h9 => h9) rfl dX9_seek_85 ?_
            refine lv_iload_n hx hb dX9_seek_88 rfl (lv_at hl 2 rfl) ?_
            refine lv_iload hx hb dX9_seek_89 (lv_at hl 4 rfl) ?_
            refine wi_iast (f := (y).2 (83)) (n := kLen (83)) hx hb hK hP hD hS (83) 0 (kgi (kI_row (c := 82) rfl) (by omega) rfl) rfl (i := i) (x := z) (by omega) (by show _ < ((30 : Nat) : Int); exact (by omega)) (kLen_lt _) dX9_seek_91 (fun H locs hP hD hS => ?_)
            rw [ksi (kI_row (c := 82) rfl)] at hP hD
            refine lv_aload_n hx hb dX9_seek_92 rfl (lv_at hl 0 rfl) ?_
            refine va_get (D := (dC, dI)) (ci := 9) (v := .ref (ad (81))) (C := RX9) (T := TX9) (N := 3) hx hb hts hinX9 hown hK hP (80) (kg80 (by omega)) rfl 1 (by decide) (hts (.fieldLink RX9 15 "LikeWords$Walk" "places" "[I") (by decide +kernel)) (fun _ h9 => h9) rfl dX9_seek_93 ?_
            refine lv_iload_n hx hb dX9_seek_96 rfl (lv_at hl 2 rfl) ?_
            refine lv_iconst (v := iI (1 : Int)) hx hb dX9_seek_97 (by decide) ?_
            refine wi_iadd hx hb dX9_seek_98 ?_
            refine lv_aload_n hx hb dX9_seek_99 rfl (lv_at hl 0 rfl) ?_
            refine va_get (D := (dC, dI)) (ci := 9) (v := .ref (ad (64))) (C := RX9) (T := TX9) (N := 3) hx hb hts hinX9 hown hK hP (80) (kg80 (by omega)) rfl 0 (by decide) (hts (.fieldLink RX9 9 "LikeWords$Walk" "machine" "LLikeWords$Machine;") (by decide +kernel)) (fun _ h9 => h9) rfl dX9_seek_100 ?_
            refine lv_aload_n hx hb dX9_seek_103 rfl (lv_at hl 0 rfl) ?_
            refine va_get (D := (dC, dI)) (ci := 9) (v := .ref (ad (81))) (C := RX9) (T := TX9) (N := 3) hx hb hts hinX9 hown hK hP (80) (kg80 (by omega)) rfl 1 (by decide) (hts (.fieldLink RX9 15 "LikeWords$Walk" "places" "[I") (by decide +kernel)) (fun _ h9 => h9) rfl dX9_seek_104 ?_
            refine lv_iload_n hx hb dX9_seek_107 rfl (lv_at hl 2 rfl) ?_
            refine wi_iald (f := (y).2 (81)) (n := kLen (81)) hx hb hK hP (81) 0 (kgi kC81 (by omega) (kA_c (by decide))) rfl (i := i) (by omega) (by show _ < ((31 : Nat) : Int); exact (by omega)) (kLen_lt _) dX9_seek_108 ?_
            refine lv_iload hx hb dX9_seek_109 (lv_at hl 4 rfl) ?_
            have hFc : ∀ q, va_A (kWd cI cJ cZ cR wl ad M (kA (y) (83) (i).toNat (z))) H.size q → A q := fun q hq => Or.elim hq (fun ⟨k, e, hk⟩ => hD.2 k (q, e) hk) (fun hk => hA q (Nat.le_trans hS.1 hk))
            refine va_calli (va_runV (b := ad (64)) (As := [.int (iI (((y).2 (81)) (i).toNat)), .int (iI (z))]) (rest := [.int (iI ((i) + ((1 : Int)))), .ref (ad (81))]) ⟨hx, hb, hml, hown, hts⟩ (c_a_step l dC dI ad cI cJ cZ cR M wl H.size (kA (y) (83) (i).toNat (z))  (((y).2 (81)) (i).toNat) (z) hM (by have := pj i.toNat; omega) (by have := pj i.toNat; omega) (by omega) (by omega) may l2y) (cwV 2 hts gX9_seek_X3_step rfl rfl rfl (by decide +kernel) ⟨Nat.le_of_ble_eq_true rfl, Nat.le_of_ble_eq_true rfl⟩) ⟨fun a U g mk q => by obtain ⟨q0, q1, qP, qK, qD, qN⟩ := q; exact ⟨q0, q1, qP, va_K.moved (u := U) (U := U.calling g mk a) (Vm.Alike.refl U.vm) qK, qD, kNw.same (u := U) (U := U.calling g mk a) rfl qN⟩, va_recv hK hP (ci := 3) (q0 := 64) rfl (kg64 (by omega)), fun U hU hW => ⟨rfl, by rw [hU], by rw [hU]; exact hP, va_K.moved hW.alike hK, hD.weaken (fun _ _ _ _ => trivial), kNw.warm hW hNw⟩⟩ rfl rfl hl.1 rfl (lv_room (Nat.le_of_ble_eq_true rfl)) dX9_seek_111 ⟨Nat.le_of_ble_eq_true rfl, Nat.le_of_ble_eq_true rfl⟩) hS (fun q _ h => hFc q h) hFc (fun r9 u9 t H1 locs ht hvm hw hB hz1 hk1 hS => ?_)
            obtain ⟨hP1, hK1, hD1⟩ := hB
            rw [ht] at hP1
            obtain ⟨hw1, hw2⟩ := hw
            rw [hw2] at hP1 hD1
            rw [hw1]
            rw [F_a_step_2] at hP1 hD1
            have hD2 := hD1.weaken (B := A) (fun _ q _ h => hFc q.1 h)
            have hP := hP1
            have hD := hD2
            generalize H1 = H at hP hS ⊢
            have sb2 := F_a_step_b (x := kA y 83 i.toNat z) may (y.2 81 i.toNat) z
            refine wi_iast (f := (kA (y) (83) (i).toNat (z)).2 (81)) (n := kLen (81)) hx hb hK hP hD hS (81) 0 (kgi kC81 (by omega) rfl) rfl (i := (i) + ((1 : Int))) (x := (F_a_step (kA (y) (83) (i).toNat (z)) (((y).2 (81)) (i).toNat) (z)).1) (by omega) (by show _ < ((31 : Nat) : Int); exact (by omega)) (kLen_lt _) dX9_seek_114 (fun H locs hP hD hS => ?_)
            rw [ksi kC81] at hP hD
            refine lv_iinc (v := iI ((i) + (1 : Int))) (lv' := [(2, .int (iI ((i) + (1 : Int)))), (0, .ref (ad (80))), (1, .int (iI (v))), (3, .int (iI (d))), (4, .int (iI (z)))]) hx hb dX9_seek_115 hl (k := 2) rfl (iI_add _ _) (by decide) rfl (fun ls hl => ?_)
            refine lv_iload_n hx hb dX9_seek_118 rfl (lv_at hl 0 rfl) ?_
            refine lv_aload_n hx hb dX9_seek_119 rfl (lv_at hl 1 rfl) ?_
            refine va_get (D := (dC, dI)) (ci := 9) (v := .ref (ad (82))) (C := RX9) (T := TX9) (N := 3) hx hb hts hinX9 hown hK hP (80) (kg80 (by omega)) rfl 2 (by decide) (hts (.fieldLink RX9 24 "LikeWords$Walk" "word" "LLikeWords$Word;") (by decide +kernel)) (fun _ h9 => h9) rfl dX9_seek_120 ?_
            refine va_get (D := (dC, dI)) (ci := 10) (v := .int (iI ((y).1 (82) 1))) (C := RX10) (T := TX10) (N := 2) hx hb hts hinX10 hown hK hP (82) (kgw rfl (by omega)) rfl 1 (by decide) (hts (.fieldLink RX9 31 "LikeWords$Word" "used" "I") (by decide +kernel)) (fun _ h9 => h9) rfl dX9_seek_123 ?_
            refine wi_icmp_lt (tgt := 131) hx hb (by first | assumption | (unfold iR; omega) | exact kR01 (by assumption)) (by first | assumption | (unfold iR; omega) | exact kR01 (by assumption)) dX9_seek_126 (by decide) (fun c_126 => ?_) (fun c_126 => ?_)
            · skip
              rw [if_pos c_126] at hres
              refine lv_aload_n hx hb dX9_seek_131 rfl (lv_at hl 1 rfl) ?_
              refine va_get (D := (dC, dI)) (ci := 9) (v := .ref (ad (82))) (C := RX9) (T := TX9) (N := 3) hx hb hts hinX9 hown hK hP (80) (kg80 (by omega)) rfl 2 (by decide) (hts (.fieldLink RX9 24 "LikeWords$Walk" "word" "LLikeWords$Word;") (by decide +kernel)) (fun _ h9 => h9) rfl dX9_seek_132 ?_
              refine va_get (D := (dC, dI)) (ci := 10) (v := .ref (ad (83))) (C := RX10) (T := TX10) (N := 2) hx hb hts hinX10 hown hK hP (82) (kgw rfl (by omega)) rfl 0 (by decide) (hts (.fieldLink RX9 42 "LikeWords$Word" "signs" "[I") (by decide +kernel)) (fun _ h9 => h9) rfl dX9_seek_135 ?_
              refine lv_iload_n hx hb dX9_seek_138 rfl (lv_at hl 0 rfl) ?_
              refine lv_iconst (v := iI (-1 : Int)) hx hb dX9_seek_139 (by decide) ?_
              refine wi_iast (f := (kA (kA (y) (83) (i).toNat (z)) (81) ((i) + ((1 : Int))).toNat ((F_a_step (kA (y) (83) (i).toNat (z)) (((y).2 (81)) (i).toNat) (z)).1)).2 (83)) (n := kLen (83)) hx hb hK hP hD hS (83) 0 (kgi (kI_row (c := 82) rfl) (by omega) rfl) rfl (i := (i) + (1 : Int)) (x := (-1 : Int)) (by omega) (by show _ < ((30 : Nat) : Int); exact (by omega)) (kLen_lt _) dX9_seek_140 (fun H locs hP hD hS => ?_)
              rw [ksi (kI_row (c := 82) rfl)] at hP hD
              refine lv_iinc (v := iI ((d) + (1 : Int))) (lv' := [(3, .int (iI ((d) + (1 : Int)))), (2, .int (iI ((i) + (1 : Int)))), (0, .ref (ad (80))), (1, .int (iI (v))), (4, .int (iI (z)))]) hx hb dX9_seek_141 hl (k := 3) rfl (iI_add _ _) (by decide) rfl (fun ls hl => ?_)
              refine lv_goto (tgt := 4) hx hb dX9_seek_144 (by decide) ?_
              exact ih.1 (kA (kA (kA (y) (83) (i).toNat (z)) (81) ((i) + ((1 : Int))).toNat ((F_a_step (kA (y) (83) (i).toNat (z)) (((y).2 (81)) (i).toNat) (z)).1)) (83) ((i) + (1 : Int)).toNat ((-1 : Int))) ((i) + (1 : Int)) ((d) + (1 : Int)) ((waR_83 (by omega) (by omega) (waR_81 sb2.1 sb2.2 (waR_83 (by omega) (by omega) way)))) ((kq_tr (kq_tr (kq_tr qy (kq_of (S := []) (A := [83]) (km_a (List.Mem.head _) (km_rf _ _ _)) kq_m (kq_c (Or.inl rfl) kq_n))) (kq_of (S := []) (A := [81]) (km_a (List.Mem.head _) (km_rf _ _ _)) kq_m (kq_c (Or.inr (by decide)) kq_n))) (kq_of (S := []) (A := [83]) (km_a (List.Mem.head _) (km_rf _ _ _)) kq_m (kq_c (Or.inl rfl) kq_n)))) (ey) (by omega) (by omega) (by omega) (by omega) (by omega) hres _ _ ls hP hD hS (lv_sub hl [2, 3, 1, 0] rfl)
            · skip
              rw [if_neg c_126] at hres
              refine lv_iconst (v := iI (1 : Int)) hx hb dX9_seek_129 (by decide) ?_
              exact W.zret (v := iI ((1 : Int))) hx hb hr (kz _ (by first | assumption | omega)) (fun t ht hW => ⟨⟨iI ((1 : Int)), kA (kA (y) (83) (i).toNat (z)) (81) ((i) + ((1 : Int))).toNat ((F_a_step (kA (y) (83) (i).toNat (z)) (((y).2 (81)) (i).toNat) (z)).1), rfl, ⟨(by have h9 := congrArg (fun z : Int × KS => iI z.1) hres; exact h9), (by have h9 := congrArg (fun z : Int × KS => z.2) hres; exact h9)⟩, by rw [ht]; exact hP, va_K.moved hW.alike hK, hD⟩, hS.F ht⟩) hS.2.2 dX9_seek_130
          · skip
            rw [if_neg c_72] at hres
            refine lv_iinc (v := iI ((i) + (-1 : Int))) (lv' := [(2, .int (iI ((i) + (-1 : Int)))), (0, .ref (ad (80))), (1, .int (iI (v))), (3, .int (iI (d))), (4, .int (iI (z)))]) hx hb dX9_seek_75 hl (k := 2) rfl (iI_add _ _) (by decide) rfl (fun ls hl => ?_)
            refine lv_goto (tgt := 141) hx hb dX9_seek_78 (by decide) ?_
            refine lv_iinc (v := iI ((d) + (1 : Int))) (lv' := [(3, .int (iI ((d) + (1 : Int)))), (2, .int (iI ((i) + (-1 : Int)))), (0, .ref (ad (80))), (1, .int (iI (v))), (4, .int (iI (z)))]) hx hb dX9_seek_141 hl (k := 3) rfl (iI_add _ _) (by decide) rfl (fun ls hl => ?_)
            refine lv_goto (tgt := 4) hx hb dX9_seek_144 (by decide) ?_
            exact ih.1 (y) ((i) + (-1 : Int)) ((d) + (1 : Int)) (way) (qy) (ey) (by omega) (by omega) (by omega) (by omega) (by omega) hres _ _ ls hP hD hS (lv_sub hl [2, 3, 1, 0] rfl)
        · skip
          rw [if_neg c_36] at hres
          refine lv_aload_n hx hb dX9_seek_39 rfl (lv_at hl 0 rfl) ?_
          refine va_get (D := (dC, dI)) (ci := 9) (v := .ref (ad (64))) (C := RX9) (T := TX9) (N := 3) hx hb hts hinX9 hown hK hP (80) (kg80 (by omega)) rfl 0 (by decide) (hts (.fieldLink RX9 9 "LikeWords$Walk" "machine" "LLikeWords$Machine;") (by decide +kernel)) (fun _ h9 => h9) rfl dX9_seek_40 ?_
          refine lv_aload_n hx hb dX9_seek_43 rfl (lv_at hl 0 rfl) ?_
          refine va_get (D := (dC, dI)) (ci := 9) (v := .ref (ad (81))) (C := RX9) (T := TX9) (N := 3) hx hb hts hinX9 hown hK hP (80) (kg80 (by omega)) rfl 1 (by decide) (hts (.fieldLink RX9 15 "LikeWords$Walk" "places" "[I") (by decide +kernel)) (fun _ h9 => h9) rfl dX9_seek_44 ?_
          refine lv_iload_n hx hb dX9_seek_47 rfl (lv_at hl 2 rfl) ?_
          refine wi_iald (f := (y).2 (81)) (n := kLen (81)) hx hb hK hP (81) 0 (kgi kC81 (by omega) rfl) rfl (i := i) (by omega) (by show _ < ((31 : Nat) : Int); exact (by omega)) (kLen_lt _) dX9_seek_48 ?_
          refine lv_iload hx hb dX9_seek_49 (lv_at hl 4 rfl) ?_
          have hFc : ∀ q, va_A (kWd cI cJ cZ cR wl ad M (y)) H.size q → A q := fun q hq => Or.elim hq (fun ⟨k, e, hk⟩ => hD.2 k (q, e) hk) (fun hk => hA q (Nat.le_trans hS.1 hk))
          refine va_calli (va_runV (b := ad (64)) (As := [.int (iI (((y).2 (81)) (i).toNat)), .int (iI (z))]) (rest := []) ⟨hx, hb, hml, hown, hts⟩ (c_a_step l dC dI ad cI cJ cZ cR M wl H.size (y)  (((y).2 (81)) (i).toNat) (z) hM (by have := pj i.toNat; omega) (by have := pj i.toNat; omega) (by omega) (by omega) may l2y) (cwV 2 hts gX9_seek_X3_step rfl rfl rfl (by decide +kernel) ⟨Nat.le_of_ble_eq_true rfl, Nat.le_of_ble_eq_true rfl⟩) ⟨fun a U g mk q => by obtain ⟨q0, q1, qP, qK, qD, qN⟩ := q; exact ⟨q0, q1, qP, va_K.moved (u := U) (U := U.calling g mk a) (Vm.Alike.refl U.vm) qK, qD, kNw.same (u := U) (U := U.calling g mk a) rfl qN⟩, va_recv hK hP (ci := 3) (q0 := 64) rfl (kg64 (by omega)), fun U hU hW => ⟨rfl, by rw [hU], by rw [hU]; exact hP, va_K.moved hW.alike hK, hD.weaken (fun _ _ _ _ => trivial), kNw.warm hW hNw⟩⟩ rfl rfl hl.1 rfl (lv_room (Nat.le_of_ble_eq_true rfl)) dX9_seek_51 ⟨Nat.le_of_ble_eq_true rfl, Nat.le_of_ble_eq_true rfl⟩) hS (fun q _ h => hFc q h) hFc (fun r9 u9 t H1 locs ht hvm hw hB hz1 hk1 hS => ?_)
          obtain ⟨hP1, hK1, hD1⟩ := hB
          rw [ht] at hP1
          obtain ⟨hw1, hw2⟩ := hw
          rw [hw2] at hP1 hD1
          rw [hw1]
          rw [F_a_step_2] at hP1 hD1
          have hD2 := hD1.weaken (B := A) (fun _ q _ h => hFc q.1 h)
          have hP := hP1
          have hD := hD2
          generalize H1 = H at hP hS ⊢
          have sb := F_a_step_b may (y.2 81 i.toNat) z
          refine wi_if_ge (tgt := 63) hx hb (by first | assumption | (unfold iR; omega) | exact kR01 (by assumption)) dX9_seek_54 (by decide) (fun c_54 => ?_) (fun c_54 => ?_)
          · skip
            rw [if_pos c_54] at hres
            refine lv_iload hx hb dX9_seek_63 (lv_at hl 4 rfl) ?_
            refine lv_aload_n hx hb dX9_seek_65 rfl (lv_at hl 0 rfl) ?_
            refine va_get (D := (dC, dI)) (ci := 9) (v := .ref (ad (64))) (C := RX9) (T := TX9) (N := 3) hx hb hts hinX9 hown hK hP (80) (kg80 (by omega)) rfl 0 (by decide) (hts (.fieldLink RX9 9 "LikeWords$Walk" "machine" "LLikeWords$Machine;") (by decide +kernel)) (fun _ h9 => h9) rfl dX9_seek_66 ?_
            have hFc : ∀ q, va_A (kWd cI cJ cZ cR wl ad M (y)) H.size q → A q := fun q hq => Or.elim hq (fun ⟨k, e, hk⟩ => hD.2 k (q, e) hk) (fun hk => hA q (Nat.le_trans hS.1 hk))
            refine va_calli (va_runV (b := ad (64)) (As := []) (rest := [.int (iI (z))]) ⟨hx, hb, hml, hown, hts⟩ (c_a_letterCount l dC dI ad cI cJ cZ cR M wl H.size (y)   hM ) (cwV 0 hts gX9_seek_X3_letterCount rfl rfl rfl (by decide +kernel) ⟨Nat.le_of_ble_eq_true rfl, Nat.le_of_ble_eq_true rfl⟩) ⟨fun a U g mk q => by obtain ⟨q0, q1, qP, qK, qD, qN⟩ := q; exact ⟨q0, q1, qP, va_K.moved (u := U) (U := U.calling g mk a) (Vm.Alike.refl U.vm) qK, qD, kNw.same (u := U) (U := U.calling g mk a) rfl qN⟩, va_recv hK hP (ci := 3) (q0 := 64) rfl (kg64 (by omega)), fun U hU hW => ⟨rfl, by rw [hU], by rw [hU]; exact hP, va_K.moved hW.alike hK, hD.weaken (fun _ _ _ _ => trivial), kNw.warm hW hNw⟩⟩ rfl rfl hl.1 rfl (lv_room (Nat.le_of_ble_eq_true rfl)) dX9_seek_69 ⟨Nat.le_of_ble_eq_true rfl, Nat.le_of_ble_eq_true rfl⟩) hS (fun q _ h => hFc q h) hFc (fun r9 u9 t H1 locs ht hvm hw hB hz1 hk1 hS => ?_)
            obtain ⟨hP1, hK1, hD1⟩ := hB
            rw [ht] at hP1
            obtain ⟨hw1, hw2⟩ := hw
            rw [hw2] at hP1 hD1
            rw [hw1]
            rw [F_a_letterCount_2] at hP1 hD1
            have hD2 := hD1.weaken (B := A) (fun _ q _ h => hFc q.1 h)
            have hP := hP1
            have hD := hD2
            generalize H1 = H at hP hS ⊢
            have lc2 : (F_a_letterCount y).1 = y.1 1 2 := rfl
            refine wi_icmp_lt (tgt := 81) hx hb (by unfold iR; omega) (by unfold iR; omega) dX9_seek_72 (by decide) (fun c_72 => ?_) (fun c_72 => ?_)
            · skip
              rw [if_pos c_72] at hres
              refine lv_aload_n hx hb dX9_seek_81 rfl (lv_at hl 0 rfl) ?_
              refine va_get (D := (dC, dI)) (ci := 9) (v := .ref (ad (82))) (C := RX9) (T := TX9) (N := 3) hx hb hts hinX9 hown hK hP (80) (kg80 (by omega)) rfl 2 (by decide) (hts (.fieldLink RX9 24 "LikeWords$Walk" "word" "LLikeWords$Word;") (by decide +kernel)) (fun _ h9 => h9) rfl dX9_seek_82 ?_
              refine va_get (D := (dC, dI)) (ci := 10) (v := .ref (ad (83))) (C := RX10) (T := TX10) (N := 2) hx hb hts hinX10 hown hK hP (82) (kgw rfl (by omega)) rfl 0 (by decide) (hts (.fieldLink RX9 42 "LikeWords$Word" "signs" "[I") (by decide +kernel)) (fun _ h9 => h9) rfl dX9_seek_85 ?_
              refine lv_iload_n hx hb dX9_seek_88 rfl (lv_at hl 2 rfl) ?_
              refine lv_iload hx hb dX9_seek_89 (lv_at hl 4 rfl) ?_
              refine wi_iast (f := (y).2 (83)) (n := kLen (83)) hx hb hK hP hD hS (83) 0 (kgi (kI_row (c := 82) rfl) (by omega) rfl) rfl (i := i) (x := z) (by omega) (by show _ < ((30 : Nat) : Int); exact (by omega)) (kLen_lt _) dX9_seek_91 (fun H locs hP hD hS => ?_)
              rw [ksi (kI_row (c := 82) rfl)] at hP hD
              refine lv_aload_n hx hb dX9_seek_92 rfl (lv_at hl 0 rfl) ?_
              refine va_get (D := (dC, dI)) (ci := 9) (v := .ref (ad (81))) (C := RX9) (T := TX9) (N := 3) hx hb hts hinX9 hown hK hP (80) (kg80 (by omega)) rfl 1 (by decide) (hts (.fieldLink RX9 15 "LikeWords$Walk" "places" "[I") (by decide +kernel)) (fun _ h9 => h9) rfl dX9_seek_93 ?_
              refine lv_iload_n hx hb dX9_seek_96 rfl (lv_at hl 2 rfl) ?_
              refine lv_iconst (v := iI (1 : Int)) hx hb dX9_seek_97 (by decide) ?_
              refine wi_iadd hx hb dX9_seek_98 ?_
              refine lv_aload_n hx hb dX9_seek_99 rfl (lv_at hl 0 rfl) ?_
              refine va_get (D := (dC, dI)) (ci := 9) (v := .ref (ad (64))) (C := RX9) (T := TX9) (N := 3) hx hb hts hinX9 hown hK hP (80) (kg80 (by omega)) rfl 0 (by decide) (hts (.fieldLink RX9 9 "LikeWords$Walk" "machine" "LLikeWords$Machine;") (by decide +kernel)) (fun _ h9 => h9) rfl dX9_seek_100 ?_
              refine lv_aload_n hx hb dX9_seek_103 rfl (lv_at hl 0 rfl) ?_
              refine va_get (D := (dC, dI)) (ci := 9) (v := .ref (ad (81))) (C := RX9) (T := TX9) (N := 3) hx hb hts hinX9 hown hK hP (80) (kg80 (by omega)) rfl 1 (by decide) (hts (.fieldLink RX9 15 "LikeWords$Walk" "places" "[I") (by decide +kernel)) (fun _ h9 => h9) rfl dX9_seek_104 ?_
              refine lv_iload_n hx hb dX9_seek_107 rfl (lv_at hl 2 rfl) ?_
              refine wi_iald (f := (y).2 (81)) (n := kLen (81)) hx hb hK hP (81) 0 (kgi kC81 (by omega) (kA_c (by decide))) rfl (i := i) (by omega) (by show _ < ((31 : Nat) : Int); exact (by omega)) (kLen_lt _) dX9_seek_108 ?_
              refine lv_iload hx hb dX9_seek_109 (lv_at hl 4 rfl) ?_
              have hFc : ∀ q, va_A (kWd cI cJ cZ cR wl ad M (kA (y) (83) (i).toNat (z))) H.size q → A q := fun q hq => Or.elim hq (fun ⟨k, e, hk⟩ => hD.2 k (q, e) hk) (fun hk => hA q (Nat.le_trans hS.1 hk))
              refine va_calli (va_runV (b := ad (64)) (As := [.int (iI (((y).2 (81)) (i).toNat)), .int (iI (z))]) (rest := [.int (iI ((i) + ((1 : Int)))), .ref (ad (81))]) ⟨hx, hb, hml, hown, hts⟩ (c_a_step l dC dI ad cI cJ cZ cR M wl H.size (kA (y) (83) (i).toNat (z))  (((y).2 (81)) (i).toNat) (z) hM (by have := pj i.toNat; omega) (by have := pj i.toNat; omega) (by omega) (by omega) may l2y) (cwV 2 hts gX9_seek_X3_step rfl rfl rfl (by decide +kernel) ⟨Nat.le_of_ble_eq_true rfl, Nat.le_of_ble_eq_true rfl⟩) ⟨fun a U g mk q => by obtain ⟨q0, q1, qP, qK, qD, qN⟩ := q; exact ⟨q0, q1, qP, va_K.moved (u := U) (U := U.calling g mk a) (Vm.Alike.refl U.vm) qK, qD, kNw.same (u := U) (U := U.calling g mk a) rfl qN⟩, va_recv hK hP (ci := 3) (q0 := 64) rfl (kg64 (by omega)), fun U hU hW => ⟨rfl, by rw [hU], by rw [hU]; exact hP, va_K.moved hW.alike hK, hD.weaken (fun _ _ _ _ => trivial), kNw.warm hW hNw⟩⟩ rfl rfl hl.1 rfl (lv_room (Nat.le_of_ble_eq_true rfl)) dX9_seek_111 ⟨Nat.le_of_ble_eq_true rfl, Nat.le_of_ble_eq_true rfl⟩) hS (fun q _ h => hFc q h) hFc (fun r9 u9 t H1 locs ht hvm hw hB hz1 hk1 hS => ?_)
              obtain ⟨hP1, hK1, hD1⟩ := hB
              rw [ht] at hP1
              obtain ⟨hw1, hw2⟩ := hw
              rw [hw2] at hP1 hD1
              rw [hw1]
              rw [F_a_step_2] at hP1 hD1
              have hD2 := hD1.weaken (B := A) (fun _ q _ h => hFc q.1 h)
              have hP := hP1
              have hD := hD2
              generalize H1 = H at hP hS ⊢
              have sb2 := F_a_step_b (x := kA y 83 i.toNat z) may (y.2 81 i.toNat) z
              refine wi_iast (f := (kA (y) (83) (i).toNat (z)).2 (81)) (n := kLen (81)) hx hb hK hP hD hS (81) 0 (kgi kC81 (by omega) rfl) rfl (i := (i) + ((1 : Int))) (x := (F_a_step (kA (y) (83) (i).toNat (z)) (((y).2 (81)) (i).toNat) (z)).1) (by omega) (by show _ < ((31 : Nat) : Int); exact (by omega)) (kLen_lt _) dX9_seek_114 (fun H locs hP hD hS => ?_)
              rw [ksi kC81] at hP hD
              refine lv_iinc (v := iI ((i) + (1 : Int))) (lv' := [(2, .int (iI ((i) + (1 : Int)))), (0, .ref (ad (80))), (1, .int (iI (v))), (3, .int (iI (d))), (4, .int (iI (z)))]) hx hb dX9_seek_115 hl (k := 2) rfl (iI_add _ _) (by decide) rfl (fun ls hl => ?_)
              refine lv_iload_n hx hb dX9_seek_118 rfl (lv_at hl 0 rfl) ?_
              refine lv_aload_n hx hb dX9_seek_119 rfl (lv_at hl 1 rfl) ?_
              refine va_get (D := (dC, dI)) (ci := 9) (v := .ref (ad (82))) (C := RX9) (T := TX9) (N := 3) hx hb hts hinX9 hown hK hP (80) (kg80 (by omega)) rfl 2 (by decide) (hts (.fieldLink RX9 24 "LikeWords$Walk" "word" "LLikeWords$Word;") (by decide +kernel)) (fun _ h9 => h9) rfl dX9_seek_120 ?_
              refine va_get (D := (dC, dI)) (ci := 10) (v := .int (iI ((y).1 (82) 1))) (C := RX10) (T := TX10) (N := 2) hx hb hts hinX10 hown hK hP (82) (kgw rfl (by omega)) rfl 1 (by decide) (hts (.fieldLink RX9 31 "LikeWords$Word" "used" "I") (by decide +kernel)) (fun _ h9 => h9) rfl dX9_seek_123 ?_
              refine wi_icmp_lt (tgt := 131) hx hb (by first | assumption | (unfold iR; omega) | exact kR01 (by assumption)) (by first | assumption | (unfold iR; omega) | exact kR01 (by assumption)) dX9_seek_126 (by decide) (fun c_126 => ?_) (fun c_126 => ?_)
              · skip
                rw [if_pos c_126] at hres
                refine lv_aload_n hx hb dX9_seek_131 rfl (lv_at hl 1 rfl) ?_
                refine va_get (D := (dC, dI)) (ci := 9) (v := .ref (ad (82))) (C := RX9) (T := TX9) (N := 3) hx hb hts hinX9 hown hK hP (80) (kg80 (by omega)) rfl 2 (by decide) (hts (.fieldLink RX9 24 "LikeWords$Walk" "word" "LLikeWords$Word;") (by decide +kernel)) (fun _ h9 => h9) rfl dX9_seek_132 ?_
                refine va_get (D := (dC, dI)) (ci := 10) (v := .ref (ad (83))) (C := RX10) (T := TX10) (N := 2) hx hb hts hinX10 hown hK hP (82) (kgw rfl (by omega)) rfl 0 (by decide) (hts (.fieldLink RX9 42 "LikeWords$Word" "signs" "[I") (by decide +kernel)) (fun _ h9 => h9) rfl dX9_seek_135 ?_
                refine lv_iload_n hx hb dX9_seek_138 rfl (lv_at hl 0 rfl) ?_
                refine lv_iconst (v := iI (-1 : Int)) hx hb dX9_seek_139 (by decide) ?_
                refine wi_iast (f := (kA (kA (y) (83) (i).toNat (z)) (81) ((i) + ((1 : Int))).toNat ((F_a_step (kA (y) (83) (i).toNat (z)) (((y).2 (81)) (i).toNat) (z)).1)).2 (83)) (n := kLen (83)) hx hb hK hP hD hS (83) 0 (kgi (kI_row (c := 82) rfl) (by omega) rfl) rfl (i := (i) + (1 : Int)) (x := (-1 : Int)) (by omega) (by show _ < ((30 : Nat) : Int); exact (by omega)) (kLen_lt _) dX9_seek_140 (fun H locs hP hD hS => ?_)
                rw [ksi (kI_row (c := 82) rfl)] at hP hD
                refine lv_iinc (v := iI ((d) + (1 : Int))) (lv' := [(3, .int (iI ((d) + (1 : Int)))), (2, .int (iI ((i) + (1 : Int)))), (0, .ref (ad (80))), (1, .int (iI (v))), (4, .int (iI (z)))]) hx hb dX9_seek_141 hl (k := 3) rfl (iI_add _ _) (by decide) rfl (fun ls hl => ?_)
                refine lv_goto (tgt := 4) hx hb dX9_seek_144 (by decide) ?_
                exact ih.1 (kA (kA (kA (y) (83) (i).toNat (z)) (81) ((i) + ((1 : Int))).toNat ((F_a_step (kA (y) (83) (i).toNat (z)) (((y).2 (81)) (i).toNat) (z)).1)) (83) ((i) + (1 : Int)).toNat ((-1 : Int))) ((i) + (1 : Int)) ((d) + (1 : Int)) ((waR_83 (by omega) (by omega) (waR_81 sb2.1 sb2.2 (waR_83 (by omega) (by omega) way)))) ((kq_tr (kq_tr (kq_tr qy (kq_of (S := []) (A := [83]) (km_a (List.Mem.head _) (km_rf _ _ _)) kq_m (kq_c (Or.inl rfl) kq_n))) (kq_of (S := []) (A := [81]) (km_a (List.Mem.head _) (km_rf _ _ _)) kq_m (kq_c (Or.inr (by decide)) kq_n))) (kq_of (S := []) (A := [83]) (km_a (List.Mem.head _) (km_rf _ _ _)) kq_m (kq_c (Or.inl rfl) kq_n)))) (ey) (by omega) (by omega) (by omega) (by omega) (by omega) hres _ _ ls hP hD hS (lv_sub hl [2, 3, 1, 0] rfl)
              · skip
                rw [if_neg c_126] at hres
                refine lv_iconst (v := iI (1 : Int)) hx hb dX9_seek_129 (by decide) ?_
                exact W.zret (v := iI ((1 : Int))) hx hb hr (kz _ (by first | assumption | omega)) (fun t ht hW => ⟨⟨iI ((1 : Int)), kA (kA (y) (83) (i).toNat (z)) (81) ((i) + ((1 : Int))).toNat ((F_a_step (kA (y) (83) (i).toNat (z)) (((y).2 (81)) (i).toNat) (z)).1), rfl, ⟨(by have h9 := congrArg (fun z : Int × KS => iI z.1) hres; exact h9), (by have h9 := congrArg (fun z : Int × KS => z.2) hres; exact h9)⟩, by rw [ht]; exact hP, va_K.moved hW.alike hK, hD⟩, hS.F ht⟩) hS.2.2 dX9_seek_130
            · skip
              rw [if_neg c_72] at hres
              refine lv_iinc (v := iI ((i) + (-1 : Int))) (lv' := [(2, .int (iI ((i) + (-1 : Int)))), (0, .ref (ad (80))), (1, .int (iI (v))), (3, .int (iI (d))), (4, .int (iI (z)))]) hx hb dX9_seek_75 hl (k := 2) rfl (iI_add _ _) (by decide) rfl (fun ls hl => ?_)
              refine lv_goto (tgt := 141) hx hb dX9_seek_78 (by decide) ?_
              refine lv_iinc (v := iI ((d) + (1 : Int))) (lv' := [(3, .int (iI ((d) + (1 : Int)))), (2, .int (iI ((i) + (-1 : Int)))), (0, .ref (ad (80))), (1, .int (iI (v))), (4, .int (iI (z)))]) hx hb dX9_seek_141 hl (k := 3) rfl (iI_add _ _) (by decide) rfl (fun ls hl => ?_)
              refine lv_goto (tgt := 4) hx hb dX9_seek_144 (by decide) ?_
              exact ih.1 (y) ((i) + (-1 : Int)) ((d) + (1 : Int)) (way) (qy) (ey) (by omega) (by omega) (by omega) (by omega) (by omega) hres _ _ ls hP hD hS (lv_sub hl [2, 3, 1, 0] rfl)
          · skip
            rw [if_neg c_54] at hres
            refine lv_iinc (v := iI ((z) + (1 : Int))) (lv' := [(4, .int (iI ((z) + (1 : Int)))), (0, .ref (ad (80))), (1, .int (iI (v))), (2, .int (iI (i))), (3, .int (iI (d)))]) hx hb dX9_seek_57 hl (k := 4) rfl (iI_add _ _) (by decide) rfl (fun ls hl => ?_)
            refine lv_goto (tgt := 27) hx hb dX9_seek_60 (by decide) ?_
            exact ih.2 (y) (i) (d) ((z) + (1 : Int)) (way) (qy) (ey) (by omega) (by omega) (by omega) (by omega) (by omega) (by omega) (by omega) hres _ _ ls hP hD hS (lv_sub hl [1, 2, 3, 4, 0] rfl)
  have key : ∀ (H : Heap) (locs : List Loc), va_P (dC, dI) vwCl (kWd cI cJ cZ cR wl ad M (x)) H → va_S A s.heap H locs → W p l e (headSpec wsX9_seek ({ frames := 1, cells := 0, slots := 0, locals := 23 })).room s m ([.ref (ad 80), .int (iI v)] : List Value).toArray below meth c H locs 0 0 (MQ below (va_Qi (fun (r : Int32) (u : KS) => r = iI (F_v_seek x v).1 ∧ u = (F_v_seek x v).2) (kAt dC dI ad cI cJ cZ cR M wl A) A) ([.ref (ad 80), .int (iI v)] : List Value).toArray s 0 0 A) (F0 m 0 ls []) := by
    intro H locs hP hS
    have hres : F_v_seek_s 10000100 0 (x) (v) (v) ((0 : Int)) (0) = F_v_seek x v := rfl
    refine lv_iload_n hx hb dX9_seek_0 rfl (lv_at hl 1 rfl) ?_
    refine lv_istore_n (lv' := [(2, .int (iI (v))), (0, .ref (ad (80))), (1, .int (iI (v)))]) hx hb dX9_seek_1 rfl hl (by decide) rfl (fun ls hl => ?_)
    refine lv_iconst (v := iI (0 : Int)) hx hb dX9_seek_2 (by decide) ?_
    refine lv_istore_n (lv' := [(3, .int (iI ((0 : Int)))), (2, .int (iI (v))), (0, .ref (ad (80))), (1, .int (iI (v)))]) hx hb dX9_seek_3 rfl hl (by decide) rfl (fun ls hl => ?_)
    exact (L (10000100)).1 (x) (v) ((0 : Int)) (wa) (kq_rf _ _ _) (rfl) (by omega) (by omega) (by omega) (by omega) (by omega) hres _ _ ls hP hD hS (lv_sub hl [2, 3, 1, 0] rfl)
  exact key _ _ hP hS
theorem F_v_seek_sfr  : ∀ n : Nat, (∀ (y : KS) (v0 : Int) (v1 : Int) (v2 : Int) (v3 : Int), ksame [] [83, 81] y (F_v_seek_s n 0 y v0 v1 v2 v3).2) ∧ (∀ (y : KS) (v0 : Int) (v1 : Int) (v2 : Int) (v3 : Int), ksame [] [83, 81] y (F_v_seek_s n 1 y v0 v1 v2 v3).2) := by
  intro n
  induction n with
  | zero => exact ⟨fun y _ _ _ _ => km_rf _ _ _, fun y _ _ _ _ => km_rf _ _ _⟩
  | succ n ih =>
    refine ⟨?_, ?_⟩
    · intro y v i d q0
      rw [F_v_seek_e0]
      by_cases hc : ((1000000 : Int)) ≤ (d)
      · rw [if_pos hc]
        exact (km_rf _ _ _)
      · rw [if_neg hc]
        by_cases hc : (i) < (0)
        · rw [if_pos hc]
          exact (km_rf _ _ _)
        · rw [if_neg hc]
          exact km_tr ((km_rf _ _ _)) (ih.2 (y) (v) (i) (d) ((((y).2 (83)) (i).toNat) + ((1 : Int))))
    · intro y v i d z
      rw [F_v_seek_e1]
      by_cases hc : ((F_a_letterCount (y)).1) ≤ (z)
      · rw [if_pos hc]
        by_cases hc : (z) < ((F_a_letterCount (y)).1)
        · rw [if_pos hc]
          by_cases hc : ((i) + (1 : Int)) < ((y).1 (82) 1)
          · rw [if_pos hc]
            exact km_tr ((km_a (List.Mem.head _) (km_a (List.Mem.tail _ (List.Mem.head _)) (km_a (List.Mem.head _) (km_rf _ _ _))))) (ih.1 (kA (kA (kA (y) (83) (i).toNat (z)) (81) ((i) + ((1 : Int))).toNat ((F_a_step (kA (y) (83) (i).toNat (z)) (((y).2 (81)) (i).toNat) (z)).1)) (83) ((i) + (1 : Int)).toNat ((-1 : Int))) (v) ((i) + (1 : Int)) ((d) + (1 : Int)) (0))
          · rw [if_neg hc]
            exact (km_a (List.Mem.tail _ (List.Mem.head _)) (km_a (List.Mem.head _) (km_rf _ _ _)))
        · rw [if_neg hc]
          exact km_tr ((km_rf _ _ _)) (ih.1 (y) (v) ((i) + (-1 : Int)) ((d) + (1 : Int)) (0))
      · rw [if_neg hc]
        by_cases hc : (0) ≤ ((F_a_step (y) (((y).2 (81)) (i).toNat) (z)).1)
        · rw [if_pos hc]
          by_cases hc : (z) < ((F_a_letterCount (y)).1)
          · rw [if_pos hc]
            by_cases hc : ((i) + (1 : Int)) < ((y).1 (82) 1)
            · rw [if_pos hc]
              exact km_tr ((km_a (List.Mem.head _) (km_a (List.Mem.tail _ (List.Mem.head _)) (km_a (List.Mem.head _) (km_rf _ _ _))))) (ih.1 (kA (kA (kA (y) (83) (i).toNat (z)) (81) ((i) + ((1 : Int))).toNat ((F_a_step (kA (y) (83) (i).toNat (z)) (((y).2 (81)) (i).toNat) (z)).1)) (83) ((i) + (1 : Int)).toNat ((-1 : Int))) (v) ((i) + (1 : Int)) ((d) + (1 : Int)) (0))
            · rw [if_neg hc]
              exact (km_a (List.Mem.tail _ (List.Mem.head _)) (km_a (List.Mem.head _) (km_rf _ _ _)))
          · rw [if_neg hc]
            exact km_tr ((km_rf _ _ _)) (ih.1 (y) (v) ((i) + (-1 : Int)) ((d) + (1 : Int)) (0))
        · rw [if_neg hc]
          exact km_tr ((km_rf _ _ _)) (ih.2 (y) (v) (i) (d) ((z) + (1 : Int)))
theorem F_v_seek_fr (x : KS) (v : Int) : ksame [] [83, 81] x (F_v_seek x v).2 := by
  unfold F_v_seek
  exact km_tr ((km_rf _ _ _)) ((F_v_seek_sfr  (10000100)).1 (x) (v) (v) ((0 : Int)) (0))
theorem F_v_seek_q (x : KS) (v : Int)  : kq [] [81] x (F_v_seek x v).2 := kq_of (F_v_seek_fr x v) kq_m (kq_c (Or.inl rfl) (kq_c (Or.inr (by decide)) kq_n))

theorem F_v_seek_s_ok : ∀ n : Nat, (∀ (y : KS) (v i d : Int), waR y → maR y → 1 ≤ y.1 1 2 ∧ y.1 1 2 ≤ 4 → (waR (F_v_seek_s n 0 y v i d 0).2 ∧ ((F_v_seek_s n 0 y v i d 0).1 = 0 ∨ (F_v_seek_s n 0 y v i d 0).1 = 1))) ∧ (∀ (y : KS) (v i d z : Int), waR y → maR y → 1 ≤ y.1 1 2 ∧ y.1 1 2 ≤ 4 → -1 ≤ z → (waR (F_v_seek_s n 1 y v i d z).2 ∧ ((F_v_seek_s n 1 y v i d z).1 = 0 ∨ (F_v_seek_s n 1 y v i d z).1 = 1))) := by
  intro n
  induction n with
  | zero => exact ⟨fun y v i d h _ _ => ⟨h, Or.inl rfl⟩, fun y v i d z h _ _ _ => ⟨h, Or.inl rfl⟩⟩
  | succ n ih =>
    refine ⟨fun y v i d h hm hl => ?_, fun y v i d z h hm hl hz => ?_⟩
    · rw [F_v_seek_e0]
      split
      · exact ⟨h, Or.inl rfl⟩
      · split
        · exact ⟨h, Or.inl rfl⟩
        · exact ih.2 _ _ _ _ _ h hm hl (by have := h.2.1 i.toNat; omega)
    · rw [F_v_seek_e1]
      have lc : (F_a_letterCount y).1 = y.1 1 2 := rfl
      have sb2 := F_a_step_b (x := kA y 83 i.toNat z) hm (y.2 81 i.toNat) z
      have wz : z < y.1 1 2 → waR (kA (kA y 83 i.toNat z) 81 (i + 1).toNat (F_a_step (kA y 83 i.toNat z) (y.2 81 i.toNat) z).1) := fun hlt => waR_81 sb2.1 sb2.2 (waR_83 hz (by omega) h)
      repeat' split
      all_goals first
        | exact ih.1 _ _ _ _ h hm hl
        | exact ih.2 _ _ _ _ _ h hm hl (by omega)
        | exact ⟨wz (by omega), Or.inr rfl⟩
        | exact ih.1 _ _ _ _ (waR_83 (by decide) (by decide) (wz (by omega))) hm hl
        | (exfalso; omega)
theorem F_v_seek_ok {x : KS} (ma : maR x) (l2 : 1 ≤ x.1 1 2 ∧ x.1 1 2 ≤ 4) (wa : waR x) (v : Int) : waR (F_v_seek x v).2 := ((F_v_seek_s_ok _).1 _ _ _ _ wa ma l2).1
theorem F_v_seek_01 {x : KS} (ma : maR x) (l2 : 1 ≤ x.1 1 2 ∧ x.1 1 2 ≤ 4) (wa : waR x) (v : Int) : (F_v_seek x v).1 = 0 ∨ (F_v_seek x v).1 = 1 := ((F_v_seek_s_ok _).1 _ _ _ _ wa ma l2).2
theorem F_w_push_82 {x : KS} (wa : waR x) (h : ¬ (F_w_push x 82 0).1 = 0) : waR (F_w_push x 82 0).2 ∧ 1 ≤ (F_w_push x 82 0).2.1 82 1 := by
  have w1 := wa.1
  unfold F_w_push at h ⊢
  rw [if_neg (by omega)] at h ⊢
  split at h
  · rename_i hc
    rw [if_pos hc]
    have e : (kL 82 : Nat) = 30 := rfl
    refine ⟨⟨?_, iU_all (P := fun z => -1 ≤ z ∧ z ≤ 3) (by decide) wa.2.1, wa.2.2⟩, ?_⟩
    · show 0 ≤ x.1 82 1 + 1 ∧ x.1 82 1 + 1 ≤ 30
      omega
    · show 1 ≤ x.1 82 1 + 1
      omega
  · exact absurd rfl h
def F_v_advance (x : KS)  : Int × KS := (if ((F_v_seek (x) (((x).1 (82) 1) - ((1 : Int)))).1) = (0) then (if ((F_w_push ((F_v_seek (x) (((x).1 (82) 1) - ((1 : Int)))).2) (82) ((0 : Int))).1) = (0) then ((0 : Int), (F_w_push ((F_v_seek (x) (((x).1 (82) 1) - ((1 : Int)))).2) (82) ((0 : Int))).2) else ((F_v_seek (kA ((F_w_push ((F_v_seek (x) (((x).1 (82) 1) - ((1 : Int)))).2) (82) ((0 : Int))).2) (83) ((0 : Int)).toNat ((-1 : Int))) ((0 : Int))).1, (F_v_seek (kA ((F_w_push ((F_v_seek (x) (((x).1 (82) 1) - ((1 : Int)))).2) (82) ((0 : Int))).2) (83) ((0 : Int)).toNat ((-1 : Int))) ((0 : Int))).2)) else ((1 : Int), (F_v_seek (x) (((x).1 (82) 1) - ((1 : Int)))).2))
set_option maxHeartbeats 4000000 in
set_option maxRecDepth 100000 in
/-- LikeWords$Walk, advance -/
theorem c_v_advance (l : Launch) (dC : Nat → ClassId) (dI : Nat → Nat → Nat) (ad : Nat → Nat) (cI cJ cZ cR : ClassId) (M wl sz : Nat) (x : KS)  (hM : 87 ≤ M) (ma : maR x) (l2 : 1 ≤ x.1 1 2 ∧ x.1 1 2 ≤ 4) (wa : waR x) : Met l yX9_advance wsX9_advance ({ frames := 2, cells := 0, slots := 0, locals := 47 }) (kPc dC dI ad cI cJ cZ cR M wl sz x [.ref (ad 80)]) (va_Qi (fun (r : Int32) (u : KS) => r = iI (F_v_advance x).1 ∧ u = (F_v_advance x).2) (kAt dC dI ad cI cJ cZ cR M wl (va_A (kWd cI cJ cZ cR wl ad M (x)) sz)) (va_A (kWd cI cJ cZ cR wl ad M (x)) sz)) 0 0 (va_A (kWd cI cJ cZ cR wl ad M (x)) sz) := by
  refine Met.ofW (cc := cX9_advance) (maxL := 1) (ret := (some .boolean)) (by decide) rfl ?_
  intro p e s m args below meth c s₁ B hml hv
  obtain ⟨rfl, hsz, hP, hK, hD0, hNw⟩ := hv
  have hx := B.exec
  have hb := B.bytes
  have hr := B.returns
  have hts := atoms_spec (ws := wsX9_advance) B.pre
  have hown : s.vm.findClass RX9 = some m.cls := findClass_of_methodNamed B.named
  have hlocks := B.notSynchronized
  have hinX10 : ∀ w ∈ u_ws RX10 TX10 2, w ∈ wsX9_advance := by decide +kernel
  have hinX9 : ∀ w ∈ u_ws RX9 TX9 3, w ∈ wsX9_advance := by decide +kernel
  subst hsz
  have hD := hD0.self (sz := s.heap.size)
  generalize hAe : va_A (kWd cI cJ cZ cR wl ad M (x)) s.heap.size = A at hD ⊢
  have hA : ∀ q : Nat, s.heap.size ≤ q → A q := fun q h => by rw [← hAe]; exact Or.inr h
  have hS : va_S A s.heap s.heap [] := va_S.rf
  have hl := lv_entry ([.ref (ad 80)]) (n := 1) (Nat.le_of_ble_eq_true rfl)
  rw [lg_entry_eq]
  generalize (lg_sl ([.ref (ad 80)]) ++ List.replicate (1 - (lg_sl ([.ref (ad 80)])).length) Slot.unset).toArray = ls at hl ⊢
  have hl : lv_has ls 1 [(0, .ref (ad (80)))] := hl
  have wa1 := wa.1
  have key : ∀ (H : Heap) (locs : List Loc), va_P (dC, dI) vwCl (kWd cI cJ cZ cR wl ad M (x)) H → va_S A s.heap H locs → W p l e (headSpec wsX9_advance ({ frames := 2, cells := 0, slots := 0, locals := 47 })).room s m ([.ref (ad 80)] : List Value).toArray below meth c H locs 0 0 (MQ below (va_Qi (fun (r : Int32) (u : KS) => r = iI (F_v_advance x).1 ∧ u = (F_v_advance x).2) (kAt dC dI ad cI cJ cZ cR M wl A) A) ([.ref (ad 80)] : List Value).toArray s 0 0 A) (F0 m 0 ls []) := by
    intro H locs hP hS
    have hres : (if ((F_v_seek (x) (((x).1 (82) 1) - ((1 : Int)))).1) = (0) then (if ((F_w_push ((F_v_seek (x) (((x).1 (82) 1) - ((1 : Int)))).2) (82) ((0 : Int))).1) = (0) then ((0 : Int), (F_w_push ((F_v_seek (x) (((x).1 (82) 1) - ((1 : Int)))).2) (82) ((0 : Int))).2) else ((F_v_seek (kA ((F_w_push ((F_v_seek (x) (((x).1 (82) 1) - ((1 : Int)))).2) (82) ((0 : Int))).2) (83) ((0 : Int)).toNat ((-1 : Int))) ((0 : Int))).1, (F_v_seek (kA ((F_w_push ((F_v_seek (x) (((x).1 (82) 1) - ((1 : Int)))).2) (82) ((0 : Int))).2) (83) ((0 : Int)).toNat ((-1 : Int))) ((0 : Int))).2)) else ((1 : Int), (F_v_seek (x) (((x).1 (82) 1) - ((1 : Int)))).2)) = F_v_advance x := rfl
    refine lv_aload_n hx hb dX9_advance_0 rfl (lv_at hl 0 rfl) ?_
    refine lv_aload_n hx hb dX9_advance_1 rfl (lv_at hl 0 rfl) ?_
    refine va_get (D := (dC, dI)) (ci := 9) (v := .ref (ad (82))) (C := RX9) (T := TX9) (N := 3) hx hb hts hinX9 hown hK hP (80) (kg80 (by omega)) rfl 2 (by decide) (hts (.fieldLink RX9 24 "LikeWords$Walk" "word" "LLikeWords$Word;") (by decide +kernel)) (fun _ h9 => h9) rfl dX9_advance_2 ?_
    refine va_get (D := (dC, dI)) (ci := 10) (v := .int (iI ((x).1 (82) 1))) (C := RX10) (T := TX10) (N := 2) hx hb hts hinX10 hown hK hP (82) (kgw rfl (by omega)) rfl 1 (by decide) (hts (.fieldLink RX9 31 "LikeWords$Word" "used" "I") (by decide +kernel)) (fun _ h9 => h9) rfl dX9_advance_5 ?_
    refine lv_iconst (v := iI (1 : Int)) hx hb dX9_advance_8 (by decide) ?_
    refine wi_isub hx hb dX9_advance_9 ?_
    have s01 := F_v_seek_01 ma l2 wa (x.1 82 1 - 1)
    have wb := F_v_seek_ok ma l2 wa (x.1 82 1 - 1)
    have qb := F_v_seek_q x (x.1 82 1 - 1)
    have mb := maR_q qb ma
    have lb := l2_q qb l2
    have hFc : ∀ q, va_A (kWd cI cJ cZ cR wl ad M (x)) H.size q → A q := fun q hq => Or.elim hq (fun ⟨k, e, hk⟩ => hD.2 k (q, e) hk) (fun hk => hA q (Nat.le_trans hS.1 hk))
    refine va_calli (va_runV (b := ad (80)) (As := [.int (iI (((x).1 (82) 1) - ((1 : Int))))]) (rest := []) ⟨hx, hb, hml, hown, hts⟩ (c_v_seek l dC dI ad cI cJ cZ cR M wl H.size (x)  (((x).1 (82) 1) - ((1 : Int))) hM ma l2 wa (by omega) (by omega)) (cwV 1 hts gX9_advance_X9_seek rfl rfl rfl (by decide +kernel) ⟨Nat.le_of_ble_eq_true rfl, Nat.le_of_ble_eq_true rfl⟩) ⟨fun a U g mk q => by obtain ⟨q0, q1, qP, qK, qD, qN⟩ := q; exact ⟨q0, q1, qP, va_K.moved (u := U) (U := U.calling g mk a) (Vm.Alike.refl U.vm) qK, qD, kNw.same (u := U) (U := U.calling g mk a) rfl qN⟩, va_recv hK hP (ci := 9) (q0 := 80) rfl (kg80 (by omega)), fun U hU hW => ⟨rfl, by rw [hU], by rw [hU]; exact hP, va_K.moved hW.alike hK, hD.weaken (fun _ _ _ _ => trivial), kNw.warm hW hNw⟩⟩ rfl rfl hl.1 rfl (lv_room (Nat.le_of_ble_eq_true rfl)) dX9_advance_10 ⟨Nat.le_of_ble_eq_true rfl, Nat.le_of_ble_eq_true rfl⟩) hS (fun q _ h => hFc q h) hFc (fun r9 u9 t H1 locs ht hvm hw hB hz1 hk1 hS => ?_)
    obtain ⟨hP1, hK1, hD1⟩ := hB
    rw [ht] at hP1
    obtain ⟨hw1, hw2⟩ := hw
    rw [hw2] at hP1 hD1
    rw [hw1]
    have hD2 := hD1.weaken (B := A) (fun _ q _ h => hFc q.1 h)
    have hP := hP1
    have hD := hD2
    generalize H1 = H at hP hS ⊢
    refine wi_if_eq (tgt := 18) hx hb (kR01 s01) dX9_advance_13 (by decide) (fun c_13 => ?_) (fun c_13 => ?_)
    · skip
      rw [if_pos c_13] at hres
      refine lv_aload_n hx hb dX9_advance_18 rfl (lv_at hl 0 rfl) ?_
      refine va_get (D := (dC, dI)) (ci := 9) (v := .ref (ad (82))) (C := RX9) (T := TX9) (N := 3) hx hb hts hinX9 hown hK hP (80) (kg80 (by omega)) rfl 2 (by decide) (hts (.fieldLink RX9 24 "LikeWords$Walk" "word" "LLikeWords$Word;") (by decide +kernel)) (fun _ h9 => h9) rfl dX9_advance_19 ?_
      refine lv_iconst (v := iI (0 : Int)) hx hb dX9_advance_22 (by decide) ?_
      have hFc : ∀ q, va_A (kWd cI cJ cZ cR wl ad M ((F_v_seek (x) (((x).1 (82) 1) - ((1 : Int)))).2)) H.size q → A q := fun q hq => Or.elim hq (fun ⟨k, e, hk⟩ => hD.2 k (q, e) hk) (fun hk => hA q (Nat.le_trans hS.1 hk))
      refine va_calli (va_runV (b := ad (82)) (As := [.int (iI ((0 : Int)))]) (rest := []) ⟨hx, hb, hml, hown, hts⟩ (c_w_push l dC dI ad cI cJ cZ cR M wl H.size ((F_v_seek (x) (((x).1 (82) 1) - ((1 : Int)))).2) (82) ((0 : Int)) hM rfl (by omega) wb.1.1 (by have := wb.1.2; show _ ≤ ((30 : Nat) : Int); omega)) (cwV 1 hts gX9_advance_X10_push rfl rfl rfl (by decide +kernel) ⟨Nat.le_of_ble_eq_true rfl, Nat.le_of_ble_eq_true rfl⟩) ⟨fun a U g mk q => by obtain ⟨q0, q1, qP, qK, qD, qN⟩ := q; exact ⟨q0, q1, qP, va_K.moved (u := U) (U := U.calling g mk a) (Vm.Alike.refl U.vm) qK, qD, kNw.same (u := U) (U := U.calling g mk a) rfl qN⟩, va_recv hK hP (ci := 10) (q0 := 82) rfl (kgw rfl (by omega)), fun U hU hW => ⟨rfl, by rw [hU], by rw [hU]; exact hP, va_K.moved hW.alike hK, hD.weaken (fun _ _ _ _ => trivial), kNw.warm hW hNw⟩⟩ rfl rfl hl.1 rfl (lv_room (Nat.le_of_ble_eq_true rfl)) dX9_advance_23 ⟨Nat.le_of_ble_eq_true rfl, Nat.le_of_ble_eq_true rfl⟩) hS (fun q _ h => hFc q h) hFc (fun r9 u9 t H1 locs ht hvm hw hB hz1 hk1 hS => ?_)
      obtain ⟨hP1, hK1, hD1⟩ := hB
      rw [ht] at hP1
      obtain ⟨hw1, hw2⟩ := hw
      rw [hw2] at hP1 hD1
      rw [hw1]
      have hD2 := hD1.weaken (B := A) (fun _ q _ h => hFc q.1 h)
      have hP := hP1
      have hD := hD2
      generalize H1 = H at hP hS ⊢
      refine wi_if_ne (tgt := 31) hx hb (kR01 (F_w_push_01 _ _ _)) dX9_advance_26 (by decide) (fun c_26 => ?_) (fun c_26 => ?_)
      · skip
        rw [if_neg c_26] at hres
        have pb := F_w_push_82 wb c_26
        have wb3 : waR (kA (F_w_push (F_v_seek x (x.1 82 1 - 1)).2 82 0).2 83 (0 : Int).toNat (-1)) := waR_83 (by decide) (by decide) pb.1
        have qp := F_w_push_q (F_v_seek x (x.1 82 1 - 1)).2 82 0 rfl
        have mb3 : maR (kA (F_w_push (F_v_seek x (x.1 82 1 - 1)).2 82 0).2 83 (0 : Int).toNat (-1)) := maR_q (C := []) (Q := [81]) (kq_tr (kq_tr qb (kq_mono (by decide) (by decide) qp)) (kq_of (S := []) (A := [83]) (km_a (List.Mem.head _) (km_rf _ _ _)) kq_m (kq_c (Or.inl rfl) kq_n))) ma
        have lb3 : 1 ≤ (kA (F_w_push (F_v_seek x (x.1 82 1 - 1)).2 82 0).2 83 (0 : Int).toNat (-1)).1 1 2 ∧ (kA (F_w_push (F_v_seek x (x.1 82 1 - 1)).2 82 0).2 83 (0 : Int).toNat (-1)).1 1 2 ≤ 4 := l2_q (C := []) (Q := [81]) (kq_tr (kq_tr qb (kq_mono (by decide) (by decide) qp)) (kq_of (S := []) (A := [83]) (km_a (List.Mem.head _) (km_rf _ _ _)) kq_m (kq_c (Or.inl rfl) kq_n))) l2
        have wb31 : 1 ≤ (kA (F_w_push (F_v_seek x (x.1 82 1 - 1)).2 82 0).2 83 (0 : Int).toNat (-1)).1 82 1 := pb.2
        have s02 := F_v_seek_01 mb3 lb3 wb3 0
        refine lv_aload_n hx hb dX9_advance_31 rfl (lv_at hl 0 rfl) ?_
        refine va_get (D := (dC, dI)) (ci := 9) (v := .ref (ad (82))) (C := RX9) (T := TX9) (N := 3) hx hb hts hinX9 hown hK hP (80) (kg80 (by omega)) rfl 2 (by decide) (hts (.fieldLink RX9 24 "LikeWords$Walk" "word" "LLikeWords$Word;") (by decide +kernel)) (fun _ h9 => h9) rfl dX9_advance_32 ?_
        refine va_get (D := (dC, dI)) (ci := 10) (v := .ref (ad (83))) (C := RX10) (T := TX10) (N := 2) hx hb hts hinX10 hown hK hP (82) (kgw rfl (by omega)) rfl 0 (by decide) (hts (.fieldLink RX9 42 "LikeWords$Word" "signs" "[I") (by decide +kernel)) (fun _ h9 => h9) rfl dX9_advance_35 ?_
        refine lv_iconst (v := iI (0 : Int)) hx hb dX9_advance_38 (by decide) ?_
        refine lv_iconst (v := iI (-1 : Int)) hx hb dX9_advance_39 (by decide) ?_
        refine wi_iast (f := ((F_w_push ((F_v_seek (x) (((x).1 (82) 1) - ((1 : Int)))).2) (82) ((0 : Int))).2).2 (83)) (n := kLen (83)) hx hb hK hP hD hS (83) 0 (kgi (kI_row (c := 82) rfl) (by omega) rfl) rfl (i := (0 : Int)) (x := (-1 : Int)) (by omega) (by show _ < ((30 : Nat) : Int); exact (by omega)) (kLen_lt _) dX9_advance_40 (fun H locs hP hD hS => ?_)
        rw [ksi (kI_row (c := 82) rfl)] at hP hD
        refine lv_aload_n hx hb dX9_advance_41 rfl (lv_at hl 0 rfl) ?_
        refine lv_iconst (v := iI (0 : Int)) hx hb dX9_advance_42 (by decide) ?_
        have hFc : ∀ q, va_A (kWd cI cJ cZ cR wl ad M (kA ((F_w_push ((F_v_seek (x) (((x).1 (82) 1) - ((1 : Int)))).2) (82) ((0 : Int))).2) (83) ((0 : Int)).toNat ((-1 : Int)))) H.size q → A q := fun q hq => Or.elim hq (fun ⟨k, e, hk⟩ => hD.2 k (q, e) hk) (fun hk => hA q (Nat.le_trans hS.1 hk))
        refine va_calli (va_runV (b := ad (80)) (As := [.int (iI ((0 : Int)))]) (rest := []) ⟨hx, hb, hml, hown, hts⟩ (c_v_seek l dC dI ad cI cJ cZ cR M wl H.size (kA ((F_w_push ((F_v_seek (x) (((x).1 (82) 1) - ((1 : Int)))).2) (82) ((0 : Int))).2) (83) ((0 : Int)).toNat ((-1 : Int)))  ((0 : Int)) hM mb3 lb3 wb3 (by omega) (by omega)) (cwV 1 hts gX9_advance_X9_seek rfl rfl rfl (by decide +kernel) ⟨Nat.le_of_ble_eq_true rfl, Nat.le_of_ble_eq_true rfl⟩) ⟨fun a U g mk q => by obtain ⟨q0, q1, qP, qK, qD, qN⟩ := q; exact ⟨q0, q1, qP, va_K.moved (u := U) (U := U.calling g mk a) (Vm.Alike.refl U.vm) qK, qD, kNw.same (u := U) (U := U.calling g mk a) rfl qN⟩, va_recv hK hP (ci := 9) (q0 := 80) rfl (kg80 (by omega)), fun U hU hW => ⟨rfl, by rw [hU], by rw [hU]; exact hP, va_K.moved hW.alike hK, hD.weaken (fun _ _ _ _ => trivial), kNw.warm hW hNw⟩⟩ rfl rfl hl.1 rfl (lv_room (Nat.le_of_ble_eq_true rfl)) dX9_advance_43 ⟨Nat.le_of_ble_eq_true rfl, Nat.le_of_ble_eq_true rfl⟩) hS (fun q _ h => hFc q h) hFc (fun r9 u9 t H1 locs ht hvm hw hB hz1 hk1 hS => ?_)
        obtain ⟨hP1, hK1, hD1⟩ := hB
        rw [ht] at hP1
        obtain ⟨hw1, hw2⟩ := hw
        rw [hw2] at hP1 hD1
        rw [hw1]
        have hD2 := hD1.weaken (B := A) (fun _ q _ h => hFc q.1 h)
        have hP := hP1
        have hD := hD2
        generalize H1 = H at hP hS ⊢
        exact W.zret (v := iI ((F_v_seek (kA ((F_w_push ((F_v_seek (x) (((x).1 (82) 1) - ((1 : Int)))).2) (82) ((0 : Int))).2) (83) ((0 : Int)).toNat ((-1 : Int))) ((0 : Int))).1)) hx hb hr (kz _ s02) (fun t ht hW => ⟨⟨iI ((F_v_seek (kA ((F_w_push ((F_v_seek (x) (((x).1 (82) 1) - ((1 : Int)))).2) (82) ((0 : Int))).2) (83) ((0 : Int)).toNat ((-1 : Int))) ((0 : Int))).1), (F_v_seek (kA ((F_w_push ((F_v_seek (x) (((x).1 (82) 1) - ((1 : Int)))).2) (82) ((0 : Int))).2) (83) ((0 : Int)).toNat ((-1 : Int))) ((0 : Int))).2, rfl, ⟨(by have h9 := congrArg (fun z : Int × KS => iI z.1) hres; exact h9), (by have h9 := congrArg (fun z : Int × KS => z.2) hres; exact h9)⟩, by rw [ht]; exact hP, va_K.moved hW.alike hK, hD⟩, hS.F ht⟩) hS.2.2 dX9_advance_46
      · skip
        rw [if_pos c_26] at hres
        refine lv_iconst (v := iI (0 : Int)) hx hb dX9_advance_29 (by decide) ?_
        exact W.zret (v := iI ((0 : Int))) hx hb hr (kz _ (by first | assumption | omega)) (fun t ht hW => ⟨⟨iI ((0 : Int)), (F_w_push ((F_v_seek (x) (((x).1 (82) 1) - ((1 : Int)))).2) (82) ((0 : Int))).2, rfl, ⟨(by have h9 := congrArg (fun z : Int × KS => iI z.1) hres; exact h9), (by have h9 := congrArg (fun z : Int × KS => z.2) hres; exact h9)⟩, by rw [ht]; exact hP, va_K.moved hW.alike hK, hD⟩, hS.F ht⟩) hS.2.2 dX9_advance_30
    · skip
      rw [if_neg c_13] at hres
      refine lv_iconst (v := iI (1 : Int)) hx hb dX9_advance_16 (by decide) ?_
      exact W.zret (v := iI ((1 : Int))) hx hb hr (kz _ (by first | assumption | omega)) (fun t ht hW => ⟨⟨iI ((1 : Int)), (F_v_seek (x) (((x).1 (82) 1) - ((1 : Int)))).2, rfl, ⟨(by have h9 := congrArg (fun z : Int × KS => iI z.1) hres; exact h9), (by have h9 := congrArg (fun z : Int × KS => z.2) hres; exact h9)⟩, by rw [ht]; exact hP, va_K.moved hW.alike hK, hD⟩, hS.F ht⟩) hS.2.2 dX9_advance_17
  exact key _ _ hP hS
theorem F_v_advance_fr (x : KS)  : ksame [(82, 1)] [83, 81] x (F_v_advance x).2 := by
  unfold F_v_advance
  by_cases hc : ((F_v_seek (x) (((x).1 (82) 1) - ((1 : Int)))).1) = (0)
  · rw [if_pos hc]
    by_cases hc : ((F_w_push ((F_v_seek (x) (((x).1 (82) 1) - ((1 : Int)))).2) (82) ((0 : Int))).1) = (0)
    · rw [if_pos hc]
      exact (km_tr (km_tr (km_rf _ _ _) (km_mono km0 (km1 (List.Mem.head _) (km1 (List.Mem.tail _ (List.Mem.head _)) km0)) (F_v_seek_fr (x) (((x).1 (82) 1) - ((1 : Int)))))) (km_mono (km1 (List.Mem.head _) km0) (km1 (List.Mem.head _) km0) (F_w_push_fr ((F_v_seek (x) (((x).1 (82) 1) - ((1 : Int)))).2) (82) ((0 : Int)))))
    · rw [if_neg hc]
      exact (km_tr (km_a (List.Mem.head _) (km_tr (km_tr (km_rf _ _ _) (km_mono km0 (km1 (List.Mem.head _) (km1 (List.Mem.tail _ (List.Mem.head _)) km0)) (F_v_seek_fr (x) (((x).1 (82) 1) - ((1 : Int)))))) (km_mono (km1 (List.Mem.head _) km0) (km1 (List.Mem.head _) km0) (F_w_push_fr ((F_v_seek (x) (((x).1 (82) 1) - ((1 : Int)))).2) (82) ((0 : Int)))))) (km_mono km0 (km1 (List.Mem.head _) (km1 (List.Mem.tail _ (List.Mem.head _)) km0)) (F_v_seek_fr (kA ((F_w_push ((F_v_seek (x) (((x).1 (82) 1) - ((1 : Int)))).2) (82) ((0 : Int))).2) (83) ((0 : Int)).toNat ((-1 : Int))) ((0 : Int)))))
  · rw [if_neg hc]
    exact (km_tr (km_rf _ _ _) (km_mono km0 (km1 (List.Mem.head _) (km1 (List.Mem.tail _ (List.Mem.head _)) km0)) (F_v_seek_fr (x) (((x).1 (82) 1) - ((1 : Int))))))
theorem F_v_advance_q (x : KS)   : kq [] [81] x (F_v_advance x).2 := kq_of (F_v_advance_fr x) (kq_c (Or.inl rfl) kq_m) (kq_c (Or.inl rfl) (kq_c (Or.inr (by decide)) kq_n))
/-- a packed row of at most thirty LETTERS is a long -/
theorem F_w_pack_s_b {x : KS} {w : Nat} (ra : ∀ j : Nat, 0 ≤ x.2 (w + 1) j ∧ x.2 (w + 1) j ≤ 3) (f t : Int) (hf : 0 ≤ f) : ∀ (n : Nat) (q : Int) (T : Nat), T ≤ 30 → 4 ^ T ≤ q → q < 2 * 4 ^ T → 0 ≤ (F_w_pack_s w n 0 x f t q (f + T)).1 ∧ (F_w_pack_s w n 0 x f t q (f + T)).1 < 2 * 4 ^ 30 := by
  intro n
  induction n with
  | zero => intro q T h1 h2 h3; exact ⟨Int.le_refl 0, by show (0 : Int) < _; decide⟩
  | succ n ih =>
    intro q T h1 h2 h3
    rw [F_w_pack_e0]
    have p1 := kp4_1 T
    have p2 := kp4_m h1
    have done : 0 ≤ q ∧ q < 2 * 4 ^ 30 := ⟨by omega, by omega⟩
    split
    · exact done
    · split
      · exact done
      · split
        · exact done
        · have rj := ra (f + T).toNat
          have p3 := kp4 T
          have := ih (q * 4 + x.2 (w + 1) (f + T).toNat) (T + 1) (by omega) (by omega) (by omega)
          rw [show f + ((T + 1 : Nat) : Int) = f + T + 1 by omega] at this
          exact this
theorem F_w_pack_b {x : KS} {w : Nat} (ra : ∀ j : Nat, 0 ≤ x.2 (w + 1) j ∧ x.2 (w + 1) j ≤ 3) {f t : Int} (hf : 0 ≤ f) : 0 ≤ (F_w_pack x w f t).1 ∧ (F_w_pack x w f t).1 < 2 * 4 ^ 30 := by
  have := F_w_pack_s_b ra f t hf 1100 1 0 (by decide) (by decide) (by decide)
  rw [show f + ((0 : Nat) : Int) = f by omega] at this
  unfold F_w_pack
  rw [if_pos hf]
  exact this
theorem F_w_pack_RL {x : KS} {w : Nat} (ra : ∀ j : Nat, 0 ≤ x.2 (w + 1) j ∧ x.2 (w + 1) j ≤ 3) {f t : Int} (hf : 0 ≤ f) : iRL (F_w_pack x w f t).1 := by
  have h := F_w_pack_b (t := t) ra hf
  have e : (2 : Int) * 4 ^ 30 = 2305843009213693952 := by decide
  unfold iRL
  omega
/-- what holds of Made -/
def mdR (x : KS) : Prop := (0 ≤ x.1 84 2 ∧ x.1 84 2 ≤ 300) ∧ (∀ j : Nat, iRL (x.2 85 j)) ∧ (∀ j : Nat, iRL (x.2 86 j))
def F_d_begin (x : KS)  : Int × KS := (0, kS (kA (kA (x) (85) ((0 : Int)).toNat ((1 : Int))) (86) ((0 : Int)).toNat ((1 : Int))) (84) 2 ((1 : Int)))
set_option maxHeartbeats 4000000 in
set_option maxRecDepth 100000 in
/-- LikeWords$Made, begin -/
theorem c_d_begin (l : Launch) (dC : Nat → ClassId) (dI : Nat → Nat → Nat) (ad : Nat → Nat) (cI cJ cZ cR : ClassId) (M wl sz : Nat) (x : KS)  (hM : 87 ≤ M)  : Met l yX4_begin wsX4_begin ({ frames := 0, cells := 0, slots := 0, locals := 0 }) (kPc dC dI ad cI cJ cZ cR M wl sz x [.ref (ad 84)]) (va_Qv (fun u : KS => u = (F_d_begin x).2) (kAt dC dI ad cI cJ cZ cR M wl (va_A (kWd cI cJ cZ cR wl ad M (x)) sz)) (va_A (kWd cI cJ cZ cR wl ad M (x)) sz)) 0 0 (va_A (kWd cI cJ cZ cR wl ad M (x)) sz) := by
  refine Met.ofW (cc := cX4_begin) (maxL := 1) (ret := none) (by decide) rfl ?_
  intro p e s m args below meth c s₁ B hml hv
  obtain ⟨rfl, hsz, hP, hK, hD0, hNw⟩ := hv
  have hx := B.exec
  have hb := B.bytes
  have hr := B.returns
  have hts := atoms_spec (ws := wsX4_begin) B.pre
  have hown : s.vm.findClass RX4 = some m.cls := findClass_of_methodNamed B.named
  have hlocks := B.notSynchronized
  have hinX4 : ∀ w ∈ u_ws RX4 TX4 3, w ∈ wsX4_begin := by decide +kernel
  subst hsz
  have hD := hD0.self (sz := s.heap.size)
  generalize hAe : va_A (kWd cI cJ cZ cR wl ad M (x)) s.heap.size = A at hD ⊢
  have hA : ∀ q : Nat, s.heap.size ≤ q → A q := fun q h => by rw [← hAe]; exact Or.inr h
  have hS : va_S A s.heap s.heap [] := va_S.rf
  have hl := lv_entry ([.ref (ad 84)]) (n := 1) (Nat.le_of_ble_eq_true rfl)
  rw [lg_entry_eq]
  generalize (lg_sl ([.ref (ad 84)]) ++ List.replicate (1 - (lg_sl ([.ref (ad 84)])).length) Slot.unset).toArray = ls at hl ⊢
  have hl : lv_has ls 1 [(0, .ref (ad (84)))] := hl
  have key : ∀ (H : Heap) (locs : List Loc), va_P (dC, dI) vwCl (kWd cI cJ cZ cR wl ad M (x)) H → va_S A s.heap H locs → W p l e (headSpec wsX4_begin ({ frames := 0, cells := 0, slots := 0, locals := 0 })).room s m ([.ref (ad 84)] : List Value).toArray below meth c H locs 0 0 (MQ below (va_Qv (fun u : KS => u = (F_d_begin x).2) (kAt dC dI ad cI cJ cZ cR M wl A) A) ([.ref (ad 84)] : List Value).toArray s 0 0 A) (F0 m 0 ls []) := by
    intro H locs hP hS
    have hres : (0, kS (kA (kA (x) (85) ((0 : Int)).toNat ((1 : Int))) (86) ((0 : Int)).toNat ((1 : Int))) (84) 2 ((1 : Int))) = F_d_begin x := rfl
    refine lv_aload_n hx hb dX4_begin_0 rfl (lv_at hl 0 rfl) ?_
    refine va_get (D := (dC, dI)) (ci := 4) (v := .ref (ad (85))) (C := RX4) (T := TX4) (N := 3) hx hb hts hinX4 hown hK hP (84) (kg84 (by omega)) rfl 0 (by decide) (hts (.fieldLink RX4 9 "LikeWords$Made" "heads" "[J") (by decide +kernel)) (fun _ h9 => h9) rfl dX4_begin_1 ?_
    refine lv_iconst (v := iI (0 : Int)) hx hb dX4_begin_4 (by decide) ?_
    refine lv_lconst (v := iL 1) hx hb dX4_begin_5 (by decide) ?_
    refine wi_last (f := (x).2 (85)) (n := kLen (85)) hx hb hK hP hD hS (85) 1 (kgj kC85 (by omega) rfl) rfl (i := (0 : Int)) (x := (1 : Int)) (by omega) (by show _ < ((300 : Nat) : Int); exact (by omega)) (kLen_lt _) dX4_begin_6 (fun H locs hP hD hS => ?_)
    rw [ksj kC85] at hP hD
    refine lv_aload_n hx hb dX4_begin_7 rfl (lv_at hl 0 rfl) ?_
    refine va_get (D := (dC, dI)) (ci := 4) (v := .ref (ad (86))) (C := RX4) (T := TX4) (N := 3) hx hb hts hinX4 hown hK hP (84) (kg84 (by omega)) rfl 1 (by decide) (hts (.fieldLink RX4 15 "LikeWords$Made" "tails" "[J") (by decide +kernel)) (fun _ h9 => h9) rfl dX4_begin_8 ?_
    refine lv_iconst (v := iI (0 : Int)) hx hb dX4_begin_11 (by decide) ?_
    refine lv_lconst (v := iL 1) hx hb dX4_begin_12 (by decide) ?_
    refine wi_last (f := (kA (x) (85) ((0 : Int)).toNat ((1 : Int))).2 (86)) (n := kLen (86)) hx hb hK hP hD hS (86) 1 (kgj kC86 (by omega) rfl) rfl (i := (0 : Int)) (x := (1 : Int)) (by omega) (by show _ < ((300 : Nat) : Int); exact (by omega)) (kLen_lt _) dX4_begin_13 (fun H locs hP hD hS => ?_)
    rw [ksj kC86] at hP hD
    refine lv_aload_n hx hb dX4_begin_14 rfl (lv_at hl 0 rfl) ?_
    refine lv_iconst (v := iI (1 : Int)) hx hb dX4_begin_15 (by decide) ?_
    refine va_put (D := (dC, dI)) (ci := 4) (v := .int (iI ((1 : Int)))) (ty := .int) (C := RX4) (T := TX4) (N := 3) hx hb hts hinX4 tyX4 tyX4_ok nmX4 hown hK hP hD hS (84) (kg84 (by omega)) rfl 2 (by decide) (hts (.fieldLink RX4 18 "LikeWords$Made" "held" "I") (by decide +kernel)) (fun _ h9 => h9) rfl (by decide +kernel) rfl rfl (Nat.le_of_ble_eq_true rfl) dX4_begin_16 (fun H locs hP hD hS => ?_)
    rw [ks84_2] at hP hD
    exact W.vret hx hb hr (fun t ht hW => ⟨⟨kS (kA (kA (x) (85) ((0 : Int)).toNat ((1 : Int))) (86) ((0 : Int)).toNat ((1 : Int))) (84) 2 ((1 : Int)), rfl, (by have h9 := congrArg (fun z : Int × KS => z.2) hres; exact h9), by rw [ht]; exact hP, va_K.moved hW.alike hK, hD⟩, hS.F ht⟩) hS.2.2 dX4_begin_19
  exact key _ _ hP hS
theorem F_d_begin_fr (x : KS)  : ksame [(84, 2)] [85, 86] x (F_d_begin x).2 := by
  unfold F_d_begin
  exact (km_s (List.Mem.head _) (km_a (List.Mem.tail _ (List.Mem.head _)) (km_a (List.Mem.head _) (km_rf _ _ _))))
theorem F_d_begin_q (x : KS)   : kq [84] [85, 86] x (F_d_begin x).2 := kq_of (F_d_begin_fr x) (kq_c (Or.inr (by decide)) kq_m) (kq_c (Or.inr (by decide)) (kq_c (Or.inr (by decide)) kq_n))
def F_d_add_s (w1 : Nat) : Nat → Nat → KS → Int → Int → Int → Int × KS
  | 0, _, x, _, _, _ => (0, x)
  | n + 1, t, x, p0, p1, p2 => match t with
    | 0 => (fun (h9 : Int) (t9 : Int) (i : Int) => (if ((x).1 (84) 2) ≤ (i) then (if ((x).1 (84) 2) < ((300 : Int)) then ((1 : Int), kS (kA (kA (x) (85) ((x).1 (84) 2).toNat (h9)) (86) ((x).1 (84) 2).toNat (t9)) (84) 2 (((x).1 (84) 2) + ((1 : Int)))) else ((0 : Int), x)) else (if (iC (((x).2 (85)) (i).toNat) (h9)) = (0) then (if (iC (((x).2 (86)) (i).toNat) (t9)) = (0) then ((1 : Int), x) else F_d_add_s w1 n 0 (x) (h9) (t9) ((i) + (1 : Int))) else F_d_add_s w1 n 0 (x) (h9) (t9) ((i) + (1 : Int))))) p0 p1 p2
    | _ => (0, x)
theorem F_d_add_e0 (w1 : Nat) (n : Nat) (x : KS) (h9 : Int) (t9 : Int) (i : Int) : F_d_add_s w1 (n + 1) 0 x h9 t9 i = (if ((x).1 (84) 2) ≤ (i) then (if ((x).1 (84) 2) < ((300 : Int)) then ((1 : Int), kS (kA (kA (x) (85) ((x).1 (84) 2).toNat (h9)) (86) ((x).1 (84) 2).toNat (t9)) (84) 2 (((x).1 (84) 2) + ((1 : Int)))) else ((0 : Int), x)) else (if (iC (((x).2 (85)) (i).toNat) (h9)) = (0) then (if (iC (((x).2 (86)) (i).toNat) (t9)) = (0) then ((1 : Int), x) else F_d_add_s w1 n 0 (x) (h9) (t9) ((i) + (1 : Int))) else F_d_add_s w1 n 0 (x) (h9) (t9) ((i) + (1 : Int)))) := rfl
def F_d_add (x : KS) (w1 : Nat) : Int × KS := F_d_add_s w1 400 0 (x) ((F_w_pack (x) (w1) ((0 : Int)) ((x).1 (w1) 1)).1) ((F_w_pack (x) (w1) ((30 : Int)) ((x).1 (w1) 1)).1) ((0 : Int))
set_option maxHeartbeats 4000000 in
set_option maxRecDepth 100000 in
/-- LikeWords$Made, add -/
theorem c_d_add (l : Launch) (dC : Nat → ClassId) (dI : Nat → Nat → Nat) (ad : Nat → Nat) (cI cJ cZ cR : ClassId) (M wl sz : Nat) (x : KS) (w1 : Nat) (hM : 87 ≤ M) (hw_w1 : kW w1 = true) (hc_w1 : w1 + 1 < M) (md : mdR x) (u0 : 0 ≤ x.1 w1 1) (u1 : x.1 w1 1 ≤ kL w1) (ra : ∀ j : Nat, 0 ≤ x.2 (w1 + 1) j ∧ x.2 (w1 + 1) j ≤ 3) : Met l yX4_add wsX4_add ({ frames := 1, cells := 0, slots := 0, locals := 25 }) (kPc dC dI ad cI cJ cZ cR M wl sz x [.ref (ad 84), .ref (ad w1)]) (va_Qi (fun (r : Int32) (u : KS) => r = iI (F_d_add x w1).1 ∧ u = (F_d_add x w1).2) (kAt dC dI ad cI cJ cZ cR M wl (va_A (kWd cI cJ cZ cR wl ad M (x)) sz)) (va_A (kWd cI cJ cZ cR wl ad M (x)) sz)) 0 0 (va_A (kWd cI cJ cZ cR wl ad M (x)) sz) := by
  refine Met.ofW (cc := cX4_add) (maxL := 7) (ret := (some .boolean)) (by decide) rfl ?_
  intro p e s m args below meth c s₁ B hml hv
  obtain ⟨rfl, hsz, hP, hK, hD0, hNw⟩ := hv
  have hx := B.exec
  have hb := B.bytes
  have hr := B.returns
  have hts := atoms_spec (ws := wsX4_add) B.pre
  have hown : s.vm.findClass RX4 = some m.cls := findClass_of_methodNamed B.named
  have hlocks := B.notSynchronized
  have hinX10 : ∀ w ∈ u_ws RX10 TX10 2, w ∈ wsX4_add := by decide +kernel
  have hinX4 : ∀ w ∈ u_ws RX4 TX4 3, w ∈ wsX4_add := by decide +kernel
  subst hsz
  have hD := hD0.self (sz := s.heap.size)
  generalize hAe : va_A (kWd cI cJ cZ cR wl ad M (x)) s.heap.size = A at hD ⊢
  have hA : ∀ q : Nat, s.heap.size ≤ q → A q := fun q h => by rw [← hAe]; exact Or.inr h
  have hS : va_S A s.heap s.heap [] := va_S.rf
  have hl := lv_entry ([.ref (ad 84), .ref (ad w1)]) (n := 7) (Nat.le_of_ble_eq_true rfl)
  rw [lg_entry_eq]
  generalize (lg_sl ([.ref (ad 84), .ref (ad w1)]) ++ List.replicate (7 - (lg_sl ([.ref (ad 84), .ref (ad w1)])).length) Slot.unset).toArray = ls at hl ⊢
  have hl : lv_has ls 7 [(0, .ref (ad (84))), (1, .ref (ad (w1)))] := hl
  have k61 := kL_le w1
  obtain ⟨md1, md2, md3⟩ := id md
  have rai : ∀ j : Nat, iR (x.2 (w1 + 1) j) := fun j => by have := ra j; unfold iR; omega
  have L : ∀ n : Nat, (∀ (y : KS) (h9 : Int) (t9 : Int) (i : Int), (mdR y) → (iRL h9) → (iRL t9) → (0 ≤ i) → (i ≤ 300) → (300 - i < n) → F_d_add_s w1 n 0 y h9 t9 i = F_d_add x w1 → ∀ (H : Heap) (locs : List Loc) (ls : Array Slot), va_P (dC, dI) vwCl (kWd cI cJ cZ cR wl ad M (y)) H → va_D A (kWd cI cJ cZ cR wl ad M (y)) → va_S A s.heap H locs → lv_has ls 7 [(0, .ref (ad (84))), (1, .ref (ad (w1))), (2, .long (iL (h9))), (4, .long (iL (t9))), (6, .int (iI (i)))] → W p l e (headSpec wsX4_add ({ frames := 1, cells := 0, slots := 0, locals := 25 })).room s m ([.ref (ad 84), .ref (ad w1)] : List Value).toArray below meth c H locs 0 0 (MQ below (va_Qi (fun (r : Int32) (u : KS) => r = iI (F_d_add x w1).1 ∧ u = (F_d_add x w1).2) (kAt dC dI ad cI cJ cZ cR M wl A) A) ([.ref (ad 84), .ref (ad w1)] : List Value).toArray s 0 0 A) (F0 m 25 ls [])) := by
    intro n
    induction n with
    | zero =>
      skip
      · intro y h9 t9 i mdy rh rt i0 i1 fu hres
        exact absurd fu (by omega)
    | succ n ih =>
      skip
      · intro y h9 t9 i mdy rh rt i0 i1 fu hres H locs ls hP hD hS hl
        rw [F_d_add_e0] at hres
        have mdy1 := mdy.1
        refine lv_iload hx hb dX4_add_25 (lv_at hl 4 rfl) ?_
        refine lv_aload_n hx hb dX4_add_27 rfl (lv_at hl 0 rfl) ?_
        refine va_get (D := (dC, dI)) (ci := 4) (v := .int (iI ((y).1 (84) 2))) (C := RX4) (T := TX4) (N := 3) hx hb hts hinX4 hown hK hP (84) (kg84 (by omega)) rfl 2 (by decide) (hts (.fieldLink RX4 18 "LikeWords$Made" "held" "I") (by decide +kernel)) (fun _ h9 => h9) rfl dX4_add_28 ?_
        refine wi_icmp_ge (tgt := 67) hx hb (by first | assumption | (unfold iR; omega) | exact kR01 (by assumption)) (by first | assumption | (unfold iR; omega) | exact kR01 (by assumption)) dX4_add_31 (by decide) (fun c_31 => ?_) (fun c_31 => ?_)
        · skip
          rw [if_pos c_31] at hres
          refine lv_aload_n hx hb dX4_add_67 rfl (lv_at hl 0 rfl) ?_
          refine va_get (D := (dC, dI)) (ci := 4) (v := .int (iI ((y).1 (84) 2))) (C := RX4) (T := TX4) (N := 3) hx hb hts hinX4 hown hK hP (84) (kg84 (by omega)) rfl 2 (by decide) (hts (.fieldLink RX4 18 "LikeWords$Made" "held" "I") (by decide +kernel)) (fun _ h9 => h9) rfl dX4_add_68 ?_
          refine lv_sipush (v := iI (300 : Int)) hx hb dX4_add_71 (by decide) ?_
          refine wi_icmp_lt (tgt := 79) hx hb (by first | assumption | (unfold iR; omega) | exact kR01 (by assumption)) ⟨by decide, by decide⟩ dX4_add_74 (by decide) (fun c_74 => ?_) (fun c_74 => ?_)
          · skip
            rw [if_pos c_74] at hres
            refine lv_aload_n hx hb dX4_add_79 rfl (lv_at hl 0 rfl) ?_
            refine va_get (D := (dC, dI)) (ci := 4) (v := .ref (ad (85))) (C := RX4) (T := TX4) (N := 3) hx hb hts hinX4 hown hK hP (84) (kg84 (by omega)) rfl 0 (by decide) (hts (.fieldLink RX4 9 "LikeWords$Made" "heads" "[J") (by decide +kernel)) (fun _ h9 => h9) rfl dX4_add_80 ?_
            refine lv_aload_n hx hb dX4_add_83 rfl (lv_at hl 0 rfl) ?_
            refine va_get (D := (dC, dI)) (ci := 4) (v := .int (iI ((y).1 (84) 2))) (C := RX4) (T := TX4) (N := 3) hx hb hts hinX4 hown hK hP (84) (kg84 (by omega)) rfl 2 (by decide) (hts (.fieldLink RX4 18 "LikeWords$Made" "held" "I") (by decide +kernel)) (fun _ h9 => h9) rfl dX4_add_84 ?_
            refine lv_lload_n hx hb dX4_add_87 rfl (lv_at hl 2 rfl) ?_
            refine wi_last (f := (y).2 (85)) (n := kLen (85)) hx hb hK hP hD hS (85) 1 (kgj kC85 (by omega) rfl) rfl (i := (y).1 (84) 2) (x := h9) (by omega) (by show _ < ((300 : Nat) : Int); exact (by omega)) (kLen_lt _) dX4_add_88 (fun H locs hP hD hS => ?_)
            rw [ksj kC85] at hP hD
            refine lv_aload_n hx hb dX4_add_89 rfl (lv_at hl 0 rfl) ?_
            refine va_get (D := (dC, dI)) (ci := 4) (v := .ref (ad (86))) (C := RX4) (T := TX4) (N := 3) hx hb hts hinX4 hown hK hP (84) (kg84 (by omega)) rfl 1 (by decide) (hts (.fieldLink RX4 15 "LikeWords$Made" "tails" "[J") (by decide +kernel)) (fun _ h9 => h9) rfl dX4_add_90 ?_
            refine lv_aload_n hx hb dX4_add_93 rfl (lv_at hl 0 rfl) ?_
            refine va_get (D := (dC, dI)) (ci := 4) (v := .int (iI ((y).1 (84) 2))) (C := RX4) (T := TX4) (N := 3) hx hb hts hinX4 hown hK hP (84) (kg84 (by omega)) rfl 2 (by decide) (hts (.fieldLink RX4 18 "LikeWords$Made" "held" "I") (by decide +kernel)) (fun _ h9 => h9) rfl dX4_add_94 ?_
            refine lv_lload hx hb dX4_add_97 (lv_at hl 3 rfl) ?_
            refine wi_last (f := (kA (y) (85) ((y).1 (84) 2).toNat (h9)).2 (86)) (n := kLen (86)) hx hb hK hP hD hS (86) 1 (kgj kC86 (by omega) rfl) rfl (i := (y).1 (84) 2) (x := t9) (by omega) (by show _ < ((300 : Nat) : Int); exact (by omega)) (kLen_lt _) dX4_add_99 (fun H locs hP hD hS => ?_)
            rw [ksj kC86] at hP hD
            refine lv_aload_n hx hb dX4_add_100 rfl (lv_at hl 0 rfl) ?_
            refine lv_dup hx hb dX4_add_101 rfl ?_
            refine va_get (D := (dC, dI)) (ci := 4) (v := .int (iI ((y).1 (84) 2))) (C := RX4) (T := TX4) (N := 3) hx hb hts hinX4 hown hK hP (84) (kg84 (by omega)) rfl 2 (by decide) (hts (.fieldLink RX4 18 "LikeWords$Made" "held" "I") (by decide +kernel)) (fun _ h9 => h9) rfl dX4_add_102 ?_
            refine lv_iconst (v := iI (1 : Int)) hx hb dX4_add_105 (by decide) ?_
            refine wi_iadd hx hb dX4_add_106 ?_
            refine va_put (D := (dC, dI)) (ci := 4) (v := .int (iI (((y).1 (84) 2) + ((1 : Int))))) (ty := .int) (C := RX4) (T := TX4) (N := 3) hx hb hts hinX4 tyX4 tyX4_ok nmX4 hown hK hP hD hS (84) (kg84 (by omega)) rfl 2 (by decide) (hts (.fieldLink RX4 18 "LikeWords$Made" "held" "I") (by decide +kernel)) (fun _ h9 => h9) rfl (by decide +kernel) rfl rfl (Nat.le_of_ble_eq_true rfl) dX4_add_107 (fun H locs hP hD hS => ?_)
            rw [ks84_2] at hP hD
            refine lv_iconst (v := iI (1 : Int)) hx hb dX4_add_110 (by decide) ?_
            exact W.zret (v := iI ((1 : Int))) hx hb hr (kz _ (by first | assumption | omega)) (fun t ht hW => ⟨⟨iI ((1 : Int)), kS (kA (kA (y) (85) ((y).1 (84) 2).toNat (h9)) (86) ((y).1 (84) 2).toNat (t9)) (84) 2 (((y).1 (84) 2) + ((1 : Int))), rfl, ⟨(by have h9 := congrArg (fun z : Int × KS => iI z.1) hres; exact h9), (by have h9 := congrArg (fun z : Int × KS => z.2) hres; exact h9)⟩, by rw [ht]; exact hP, va_K.moved hW.alike hK, hD⟩, hS.F ht⟩) hS.2.2 dX4_add_111
          · skip
            rw [if_neg c_74] at hres
            refine lv_iconst (v := iI (0 : Int)) hx hb dX4_add_77 (by decide) ?_
            exact W.zret (v := iI ((0 : Int))) hx hb hr (kz _ (by first | assumption | omega)) (fun t ht hW => ⟨⟨iI ((0 : Int)), y, rfl, ⟨(by have h9 := congrArg (fun z : Int × KS => iI z.1) hres; exact h9), (by have h9 := congrArg (fun z : Int × KS => z.2) hres; exact h9)⟩, by rw [ht]; exact hP, va_K.moved hW.alike hK, hD⟩, hS.F ht⟩) hS.2.2 dX4_add_78
        · skip
          rw [if_neg c_31] at hres
          refine lv_aload_n hx hb dX4_add_34 rfl (lv_at hl 0 rfl) ?_
          refine va_get (D := (dC, dI)) (ci := 4) (v := .ref (ad (85))) (C := RX4) (T := TX4) (N := 3) hx hb hts hinX4 hown hK hP (84) (kg84 (by omega)) rfl 0 (by decide) (hts (.fieldLink RX4 9 "LikeWords$Made" "heads" "[J") (by decide +kernel)) (fun _ h9 => h9) rfl dX4_add_35 ?_
          refine lv_iload hx hb dX4_add_38 (lv_at hl 4 rfl) ?_
          refine wi_lald (f := (y).2 (85)) (n := kLen (85)) hx hb hK hP (85) 1 (kgj kC85 (by omega) rfl) rfl (i := i) (by omega) (by show _ < ((300 : Nat) : Int); exact (by omega)) (kLen_lt _) dX4_add_40 ?_
          refine lv_lload_n hx hb dX4_add_41 rfl (lv_at hl 2 rfl) ?_
          refine wi_lcmp hx hb (by first | exact mdy.2.1 _ | exact rh) (by first | exact mdy.2.1 _ | exact rh) dX4_add_42 ?_
          refine wi_if_ne (tgt := 61) hx hb iC_R dX4_add_43 (by decide) (fun c_43 => ?_) (fun c_43 => ?_)
          · skip
            rw [if_neg c_43] at hres
            refine lv_iinc (v := iI ((i) + (1 : Int))) (lv' := [(6, .int (iI ((i) + (1 : Int)))), (0, .ref (ad (84))), (1, .ref (ad (w1))), (2, .long (iL (h9))), (4, .long (iL (t9)))]) hx hb dX4_add_61 hl (k := 4) rfl (iI_add _ _) (by decide) rfl (fun ls hl => ?_)
            refine lv_goto (tgt := 25) hx hb dX4_add_64 (by decide) ?_
            exact ih (y) (h9) (t9) ((i) + (1 : Int)) (mdy) (rh) (rt) (by omega) (by omega) (by omega) hres _ _ ls hP hD hS (lv_sub hl [1, 2, 3, 4, 0] rfl)
          · skip
            rw [if_pos c_43] at hres
            refine lv_aload_n hx hb dX4_add_46 rfl (lv_at hl 0 rfl) ?_
            refine va_get (D := (dC, dI)) (ci := 4) (v := .ref (ad (86))) (C := RX4) (T := TX4) (N := 3) hx hb hts hinX4 hown hK hP (84) (kg84 (by omega)) rfl 1 (by decide) (hts (.fieldLink RX4 15 "LikeWords$Made" "tails" "[J") (by decide +kernel)) (fun _ h9 => h9) rfl dX4_add_47 ?_
            refine lv_iload hx hb dX4_add_50 (lv_at hl 4 rfl) ?_
            refine wi_lald (f := (y).2 (86)) (n := kLen (86)) hx hb hK hP (86) 1 (kgj kC86 (by omega) rfl) rfl (i := i) (by omega) (by show _ < ((300 : Nat) : Int); exact (by omega)) (kLen_lt _) dX4_add_52 ?_
            refine lv_lload hx hb dX4_add_53 (lv_at hl 3 rfl) ?_
            refine wi_lcmp hx hb (by first | exact mdy.2.2 _ | exact rt) (by first | exact mdy.2.2 _ | exact rt) dX4_add_55 ?_
            refine wi_if_ne (tgt := 61) hx hb iC_R dX4_add_56 (by decide) (fun c_56 => ?_) (fun c_56 => ?_)
            · skip
              rw [if_neg c_56] at hres
              refine lv_iinc (v := iI ((i) + (1 : Int))) (lv' := [(6, .int (iI ((i) + (1 : Int)))), (0, .ref (ad (84))), (1, .ref (ad (w1))), (2, .long (iL (h9))), (4, .long (iL (t9)))]) hx hb dX4_add_61 hl (k := 4) rfl (iI_add _ _) (by decide) rfl (fun ls hl => ?_)
              refine lv_goto (tgt := 25) hx hb dX4_add_64 (by decide) ?_
              exact ih (y) (h9) (t9) ((i) + (1 : Int)) (mdy) (rh) (rt) (by omega) (by omega) (by omega) hres _ _ ls hP hD hS (lv_sub hl [1, 2, 3, 4, 0] rfl)
            · skip
              rw [if_pos c_56] at hres
              refine lv_iconst (v := iI (1 : Int)) hx hb dX4_add_59 (by decide) ?_
              exact W.zret (v := iI ((1 : Int))) hx hb hr (kz _ (by first | assumption | omega)) (fun t ht hW => ⟨⟨iI ((1 : Int)), y, rfl, ⟨(by have h9 := congrArg (fun z : Int × KS => iI z.1) hres; exact h9), (by have h9 := congrArg (fun z : Int × KS => z.2) hres; exact h9)⟩, by rw [ht]; exact hP, va_K.moved hW.alike hK, hD⟩, hS.F ht⟩) hS.2.2 dX4_add_60
  have key : ∀ (H : Heap) (locs : List Loc), va_P (dC, dI) vwCl (kWd cI cJ cZ cR wl ad M (x)) H → va_S A s.heap H locs → W p l e (headSpec wsX4_add ({ frames := 1, cells := 0, slots := 0, locals := 25 })).room s m ([.ref (ad 84), .ref (ad w1)] : List Value).toArray below meth c H locs 0 0 (MQ below (va_Qi (fun (r : Int32) (u : KS) => r = iI (F_d_add x w1).1 ∧ u = (F_d_add x w1).2) (kAt dC dI ad cI cJ cZ cR M wl A) A) ([.ref (ad 84), .ref (ad w1)] : List Value).toArray s 0 0 A) (F0 m 0 ls []) := by
    intro H locs hP hS
    have hres : F_d_add_s w1 400 0 (x) ((F_w_pack (x) (w1) ((0 : Int)) ((x).1 (w1) 1)).1) ((F_w_pack (x) (w1) ((30 : Int)) ((x).1 (w1) 1)).1) ((0 : Int)) = F_d_add x w1 := rfl
    refine lv_aload_n hx hb dX4_add_0 rfl (lv_at hl 1 rfl) ?_
    refine lv_iconst (v := iI (0 : Int)) hx hb dX4_add_1 (by decide) ?_
    refine lv_aload_n hx hb dX4_add_2 rfl (lv_at hl 1 rfl) ?_
    refine va_get (D := (dC, dI)) (ci := 10) (v := .int (iI ((x).1 (w1) 1))) (C := RX10) (T := TX10) (N := 2) hx hb hts hinX10 hown hK hP (w1) (kgw hw_w1 (by omega)) rfl 1 (by decide) (hts (.fieldLink RX4 22 "LikeWords$Word" "used" "I") (by decide +kernel)) (fun _ h9 => h9) rfl dX4_add_3 ?_
    have hFc : ∀ q, va_A (kWd cI cJ cZ cR wl ad M (x)) H.size q → A q := fun q hq => Or.elim hq (fun ⟨k, e, hk⟩ => hD.2 k (q, e) hk) (fun hk => hA q (Nat.le_trans hS.1 hk))
    refine va_calll (va_runV (b := ad (w1)) (As := [.int (iI ((0 : Int))), .int (iI ((x).1 (w1) 1))]) (rest := []) ⟨hx, hb, hml, hown, hts⟩ (c_w_pack l dC dI ad cI cJ cZ cR M wl H.size (x) (w1) ((0 : Int)) ((x).1 (w1) 1) hM hw_w1 (by omega) (by omega) (by omega) (by unfold iR; omega) u0 u1 rai) (cwV 2 hts gX4_add_X10_pack rfl rfl rfl (by decide +kernel) ⟨Nat.le_of_ble_eq_true rfl, Nat.le_of_ble_eq_true rfl⟩) ⟨fun a U g mk q => by obtain ⟨q0, q1, qP, qK, qD, qN⟩ := q; exact ⟨q0, q1, qP, va_K.moved (u := U) (U := U.calling g mk a) (Vm.Alike.refl U.vm) qK, qD, kNw.same (u := U) (U := U.calling g mk a) rfl qN⟩, va_recv hK hP (ci := 10) (q0 := w1) rfl (kgw hw_w1 (by omega)), fun U hU hW => ⟨rfl, by rw [hU], by rw [hU]; exact hP, va_K.moved hW.alike hK, hD.weaken (fun _ _ _ _ => trivial), kNw.warm hW hNw⟩⟩ rfl rfl hl.1 rfl (lv_room (Nat.le_of_ble_eq_true rfl)) dX4_add_6 ⟨Nat.le_of_ble_eq_true rfl, Nat.le_of_ble_eq_true rfl⟩) hS (fun q _ h => hFc q h) hFc (fun r9 u9 t H1 locs ht hvm hw hB hz1 hk1 hS => ?_)
    obtain ⟨hP1, hK1, hD1⟩ := hB
    rw [ht] at hP1
    obtain ⟨hw1, hw2⟩ := hw
    rw [hw2] at hP1 hD1
    rw [hw1]
    rw [F_w_pack_2] at hP1 hD1
    have hD2 := hD1.weaken (B := A) (fun _ q _ h => hFc q.1 h)
    have hP := hP1
    have hD := hD2
    generalize H1 = H at hP hS ⊢
    refine lv_lstore_n (lv' := [(2, .long (iL ((F_w_pack (x) (w1) ((0 : Int)) ((x).1 (w1) 1)).1))), (0, .ref (ad (84))), (1, .ref (ad (w1)))]) hx hb dX4_add_9 rfl hl (by decide) rfl (fun ls hl => ?_)
    refine lv_aload_n hx hb dX4_add_10 rfl (lv_at hl 2 rfl) ?_
    refine lv_bipush (v := iI (30 : Int)) hx hb dX4_add_11 (by decide) ?_
    refine lv_aload_n hx hb dX4_add_13 rfl (lv_at hl 2 rfl) ?_
    refine va_get (D := (dC, dI)) (ci := 10) (v := .int (iI ((x).1 (w1) 1))) (C := RX10) (T := TX10) (N := 2) hx hb hts hinX10 hown hK hP (w1) (kgw hw_w1 (by omega)) rfl 1 (by decide) (hts (.fieldLink RX4 22 "LikeWords$Word" "used" "I") (by decide +kernel)) (fun _ h9 => h9) rfl dX4_add_14 ?_
    have hFc : ∀ q, va_A (kWd cI cJ cZ cR wl ad M (x)) H.size q → A q := fun q hq => Or.elim hq (fun ⟨k, e, hk⟩ => hD.2 k (q, e) hk) (fun hk => hA q (Nat.le_trans hS.1 hk))
    refine va_calll (va_runV (b := ad (w1)) (As := [.int (iI ((30 : Int))), .int (iI ((x).1 (w1) 1))]) (rest := []) ⟨hx, hb, hml, hown, hts⟩ (c_w_pack l dC dI ad cI cJ cZ cR M wl H.size (x) (w1) ((30 : Int)) ((x).1 (w1) 1) hM hw_w1 (by omega) (by omega) (by omega) (by unfold iR; omega) u0 u1 rai) (cwV 2 hts gX4_add_X10_pack rfl rfl rfl (by decide +kernel) ⟨Nat.le_of_ble_eq_true rfl, Nat.le_of_ble_eq_true rfl⟩) ⟨fun a U g mk q => by obtain ⟨q0, q1, qP, qK, qD, qN⟩ := q; exact ⟨q0, q1, qP, va_K.moved (u := U) (U := U.calling g mk a) (Vm.Alike.refl U.vm) qK, qD, kNw.same (u := U) (U := U.calling g mk a) rfl qN⟩, va_recv hK hP (ci := 10) (q0 := w1) rfl (kgw hw_w1 (by omega)), fun U hU hW => ⟨rfl, by rw [hU], by rw [hU]; exact hP, va_K.moved hW.alike hK, hD.weaken (fun _ _ _ _ => trivial), kNw.warm hW hNw⟩⟩ rfl rfl hl.1 rfl (lv_room (Nat.le_of_ble_eq_true rfl)) dX4_add_17 ⟨Nat.le_of_ble_eq_true rfl, Nat.le_of_ble_eq_true rfl⟩) hS (fun q _ h => hFc q h) hFc (fun r9 u9 t H1 locs ht hvm hw hB hz1 hk1 hS => ?_)
    obtain ⟨hP1, hK1, hD1⟩ := hB
    rw [ht] at hP1
    obtain ⟨hw1, hw2⟩ := hw
    rw [hw2] at hP1 hD1
    rw [hw1]
    rw [F_w_pack_2] at hP1 hD1
    have hD2 := hD1.weaken (B := A) (fun _ q _ h => hFc q.1 h)
    have hP := hP1
    have hD := hD2
    generalize H1 = H at hP hS ⊢
    refine lv_lstore (lv' := [(4, .long (iL ((F_w_pack (x) (w1) ((30 : Int)) ((x).1 (w1) 1)).1))), (2, .long (iL ((F_w_pack (x) (w1) ((0 : Int)) ((x).1 (w1) 1)).1))), (0, .ref (ad (84))), (1, .ref (ad (w1)))]) hx hb dX4_add_20 hl (by decide) rfl (fun ls hl => ?_)
    refine lv_iconst (v := iI (0 : Int)) hx hb dX4_add_22 (by decide) ?_
    refine lv_istore (lv' := [(6, .int (iI ((0 : Int)))), (4, .long (iL ((F_w_pack (x) (w1) ((30 : Int)) ((x).1 (w1) 1)).1))), (2, .long (iL ((F_w_pack (x) (w1) ((0 : Int)) ((x).1 (w1) 1)).1))), (0, .ref (ad (84))), (1, .ref (ad (w1)))]) hx hb dX4_add_23 hl (by decide) rfl (fun ls hl => ?_)
    exact (L (400)) (x) ((F_w_pack (x) (w1) ((0 : Int)) ((x).1 (w1) 1)).1) ((F_w_pack (x) (w1) ((30 : Int)) ((x).1 (w1) 1)).1) ((0 : Int)) (md) (F_w_pack_RL ra (by decide)) (F_w_pack_RL ra (by decide)) (by omega) (by omega) (by omega) hres _ _ ls hP hD hS (lv_sub hl [3, 4, 2, 1, 0] rfl)
  exact key _ _ hP hS
theorem F_d_add_sfr (w1 : Nat) : ∀ n : Nat, (∀ (y : KS) (v0 : Int) (v1 : Int) (v2 : Int), ksame [(84, 2)] [85, 86] y (F_d_add_s w1 n 0 y v0 v1 v2).2) := by
  intro n
  induction n with
  | zero => exact fun y _ _ _ => km_rf _ _ _
  | succ n ih =>
    skip
    · intro y h9 t9 i
      rw [F_d_add_e0]
      by_cases hc : ((y).1 (84) 2) ≤ (i)
      · rw [if_pos hc]
        by_cases hc : ((y).1 (84) 2) < ((300 : Int))
        · rw [if_pos hc]
          exact (km_s (List.Mem.head _) (km_a (List.Mem.tail _ (List.Mem.head _)) (km_a (List.Mem.head _) (km_rf _ _ _))))
        · rw [if_neg hc]
          exact (km_rf _ _ _)
      · rw [if_neg hc]
        by_cases hc : (iC (((y).2 (85)) (i).toNat) (h9)) = (0)
        · rw [if_pos hc]
          by_cases hc : (iC (((y).2 (86)) (i).toNat) (t9)) = (0)
          · rw [if_pos hc]
            exact (km_rf _ _ _)
          · rw [if_neg hc]
            exact km_tr ((km_rf _ _ _)) (ih (y) (h9) (t9) ((i) + (1 : Int)))
        · rw [if_neg hc]
          exact km_tr ((km_rf _ _ _)) (ih (y) (h9) (t9) ((i) + (1 : Int)))
theorem F_d_add_fr (x : KS) (w1 : Nat) : ksame [(84, 2)] [85, 86] x (F_d_add x w1).2 := by
  unfold F_d_add
  exact km_tr ((km_rf _ _ _)) ((F_d_add_sfr w1 (400)) (x) ((F_w_pack (x) (w1) ((0 : Int)) ((x).1 (w1) 1)).1) ((F_w_pack (x) (w1) ((30 : Int)) ((x).1 (w1) 1)).1) ((0 : Int)))
theorem F_d_add_q (x : KS) (w1 : Nat) (hw_w1 : kW w1 = true) : kq [84] [85, 86] x (F_d_add x w1).2 := kq_of (F_d_add_fr x w1) (kq_c (Or.inr (by decide)) kq_m) (kq_c (Or.inr (by decide)) (kq_c (Or.inr (by decide)) kq_n))
def F_d_read (x : KS) (w1 : Nat) (i : Int) : Int × KS := (if (i) < (0) then (0, (F_w_wipe (x) (w1)).2) else (if (((F_w_wipe (x) (w1)).2).1 (84) 2) ≤ (i) then (0, (F_w_wipe (x) (w1)).2) else (0, (F_w_unpack ((F_w_wipe (x) (w1)).2) (w1) ((((F_w_wipe (x) (w1)).2).2 (85)) (i).toNat) ((((F_w_wipe (x) (w1)).2).2 (86)) (i).toNat)).2)))
set_option maxHeartbeats 4000000 in
set_option maxRecDepth 100000 in
/-- LikeWords$Made, read -/
theorem c_d_read (l : Launch) (dC : Nat → ClassId) (dI : Nat → Nat → Nat) (ad : Nat → Nat) (cI cJ cZ cR : ClassId) (M wl sz : Nat) (x : KS) (w1 : Nat) (i : Int) (hM : 87 ≤ M) (hw_w1 : kW w1 = true) (hc_w1 : w1 + 1 < M) (md : mdR x) (ri : iR i) : Met l yX4_read wsX4_read ({ frames := 1, cells := 0, slots := 0, locals := 29 }) (kPc dC dI ad cI cJ cZ cR M wl sz x [.ref (ad 84), .int (iI i), .ref (ad w1)]) (va_Qv (fun u : KS => u = (F_d_read x w1 i).2) (kAt dC dI ad cI cJ cZ cR M wl (va_A (kWd cI cJ cZ cR wl ad M (x)) sz)) (va_A (kWd cI cJ cZ cR wl ad M (x)) sz)) 0 0 (va_A (kWd cI cJ cZ cR wl ad M (x)) sz) := by
  refine Met.ofW (cc := cX4_read) (maxL := 3) (ret := none) (by decide) rfl ?_
  intro p e s m args below meth c s₁ B hml hv
  obtain ⟨rfl, hsz, hP, hK, hD0, hNw⟩ := hv
  have hx := B.exec
  have hb := B.bytes
  have hr := B.returns
  have hts := atoms_spec (ws := wsX4_read) B.pre
  have hown : s.vm.findClass RX4 = some m.cls := findClass_of_methodNamed B.named
  have hlocks := B.notSynchronized
  have hinX4 : ∀ w ∈ u_ws RX4 TX4 3, w ∈ wsX4_read := by decide +kernel
  subst hsz
  have hD := hD0.self (sz := s.heap.size)
  generalize hAe : va_A (kWd cI cJ cZ cR wl ad M (x)) s.heap.size = A at hD ⊢
  have hA : ∀ q : Nat, s.heap.size ≤ q → A q := fun q h => by rw [← hAe]; exact Or.inr h
  have hS : va_S A s.heap s.heap [] := va_S.rf
  have hl := lv_entry ([.ref (ad 84), .int (iI i), .ref (ad w1)]) (n := 3) (Nat.le_of_ble_eq_true rfl)
  rw [lg_entry_eq]
  generalize (lg_sl ([.ref (ad 84), .int (iI i), .ref (ad w1)]) ++ List.replicate (3 - (lg_sl ([.ref (ad 84), .int (iI i), .ref (ad w1)])).length) Slot.unset).toArray = ls at hl ⊢
  have hl : lv_has ls 3 [(0, .ref (ad (84))), (1, .int (iI (i))), (2, .ref (ad (w1)))] := hl
  have k61 := kL_le w1
  obtain ⟨md1, md2, md3⟩ := id md
  have e84 : (F_w_wipe x w1).2.1 84 2 = x.1 84 2 := congrFun ((F_w_wipe_q x w1 hw_w1).1 84 rfl (by decide)) 2
  have e85 : (F_w_wipe x w1).2.2 85 = x.2 85 := rfl
  have e86 : (F_w_wipe x w1).2.2 86 = x.2 86 := rfl
  have key : ∀ (H : Heap) (locs : List Loc), va_P (dC, dI) vwCl (kWd cI cJ cZ cR wl ad M (x)) H → va_S A s.heap H locs → W p l e (headSpec wsX4_read ({ frames := 1, cells := 0, slots := 0, locals := 29 })).room s m ([.ref (ad 84), .int (iI i), .ref (ad w1)] : List Value).toArray below meth c H locs 0 0 (MQ below (va_Qv (fun u : KS => u = (F_d_read x w1 i).2) (kAt dC dI ad cI cJ cZ cR M wl A) A) ([.ref (ad 84), .int (iI i), .ref (ad w1)] : List Value).toArray s 0 0 A) (F0 m 0 ls []) := by
    intro H locs hP hS
    have hres : (if (i) < (0) then (0, (F_w_wipe (x) (w1)).2) else (if (((F_w_wipe (x) (w1)).2).1 (84) 2) ≤ (i) then (0, (F_w_wipe (x) (w1)).2) else (0, (F_w_unpack ((F_w_wipe (x) (w1)).2) (w1) ((((F_w_wipe (x) (w1)).2).2 (85)) (i).toNat) ((((F_w_wipe (x) (w1)).2).2 (86)) (i).toNat)).2))) = F_d_read x w1 i := rfl
    refine lv_aload_n hx hb dX4_read_0 rfl (lv_at hl 2 rfl) ?_
    have hFc : ∀ q, va_A (kWd cI cJ cZ cR wl ad M (x)) H.size q → A q := fun q hq => Or.elim hq (fun ⟨k, e, hk⟩ => hD.2 k (q, e) hk) (fun hk => hA q (Nat.le_trans hS.1 hk))
    refine va_callv (va_runV (b := ad (w1)) (As := []) (rest := []) ⟨hx, hb, hml, hown, hts⟩ (c_w_wipe l dC dI ad cI cJ cZ cR M wl H.size (x) (w1)  hM hw_w1 (by omega) ) (cwV 0 hts gX4_read_X10_wipe rfl rfl rfl (by decide +kernel) ⟨Nat.le_of_ble_eq_true rfl, Nat.le_of_ble_eq_true rfl⟩) ⟨fun a U g mk q => by obtain ⟨q0, q1, qP, qK, qD, qN⟩ := q; exact ⟨q0, q1, qP, va_K.moved (u := U) (U := U.calling g mk a) (Vm.Alike.refl U.vm) qK, qD, kNw.same (u := U) (U := U.calling g mk a) rfl qN⟩, va_recv hK hP (ci := 10) (q0 := w1) rfl (kgw hw_w1 (by omega)), fun U hU hW => ⟨rfl, by rw [hU], by rw [hU]; exact hP, va_K.moved hW.alike hK, hD.weaken (fun _ _ _ _ => trivial), kNw.warm hW hNw⟩⟩ rfl rfl hl.1 rfl (lv_room (Nat.le_of_ble_eq_true rfl)) dX4_read_1 ⟨Nat.le_of_ble_eq_true rfl, Nat.le_of_ble_eq_true rfl⟩) hS (fun q _ h => hFc q h) hFc (fun u9 t H1 locs ht hvm hw hB hz1 hk1 hS => ?_)
    obtain ⟨hP1, hK1, hD1⟩ := hB
    rw [ht] at hP1
    rw [hw] at hP1 hD1
    have hD2 := hD1.weaken (B := A) (fun _ q _ h => hFc q.1 h)
    have hP := hP1
    have hD := hD2
    generalize H1 = H at hP hS ⊢
    refine lv_iload_n hx hb dX4_read_4 rfl (lv_at hl 1 rfl) ?_
    refine wi_if_lt (tgt := 32) hx hb (by first | assumption | (unfold iR; omega) | exact kR01 (by assumption)) dX4_read_5 (by decide) (fun c_5 => ?_) (fun c_5 => ?_)
    · skip
      rw [if_pos c_5] at hres
      exact W.vret hx hb hr (fun t ht hW => ⟨⟨(F_w_wipe (x) (w1)).2, rfl, (by have h9 := congrArg (fun z : Int × KS => z.2) hres; exact h9), by rw [ht]; exact hP, va_K.moved hW.alike hK, hD⟩, hS.F ht⟩) hS.2.2 dX4_read_32
    · skip
      rw [if_neg c_5] at hres
      refine lv_iload_n hx hb dX4_read_8 rfl (lv_at hl 1 rfl) ?_
      refine lv_aload_n hx hb dX4_read_9 rfl (lv_at hl 0 rfl) ?_
      refine va_get (D := (dC, dI)) (ci := 4) (v := .int (iI (((F_w_wipe (x) (w1)).2).1 (84) 2))) (C := RX4) (T := TX4) (N := 3) hx hb hts hinX4 hown hK hP (84) (kg84 (by omega)) rfl 2 (by decide) (hts (.fieldLink RX4 18 "LikeWords$Made" "held" "I") (by decide +kernel)) (fun _ h9 => h9) rfl dX4_read_10 ?_
      refine wi_icmp_ge (tgt := 32) hx hb (by first | assumption | (unfold iR; omega) | exact kR01 (by assumption)) (by first | assumption | (unfold iR; omega) | exact kR01 (by assumption)) dX4_read_13 (by decide) (fun c_13 => ?_) (fun c_13 => ?_)
      · skip
        rw [if_pos c_13] at hres
        exact W.vret hx hb hr (fun t ht hW => ⟨⟨(F_w_wipe (x) (w1)).2, rfl, (by have h9 := congrArg (fun z : Int × KS => z.2) hres; exact h9), by rw [ht]; exact hP, va_K.moved hW.alike hK, hD⟩, hS.F ht⟩) hS.2.2 dX4_read_32
      · skip
        rw [if_neg c_13] at hres
        refine lv_aload_n hx hb dX4_read_16 rfl (lv_at hl 2 rfl) ?_
        refine lv_aload_n hx hb dX4_read_17 rfl (lv_at hl 0 rfl) ?_
        refine va_get (D := (dC, dI)) (ci := 4) (v := .ref (ad (85))) (C := RX4) (T := TX4) (N := 3) hx hb hts hinX4 hown hK hP (84) (kg84 (by omega)) rfl 0 (by decide) (hts (.fieldLink RX4 9 "LikeWords$Made" "heads" "[J") (by decide +kernel)) (fun _ h9 => h9) rfl dX4_read_18 ?_
        refine lv_iload_n hx hb dX4_read_21 rfl (lv_at hl 1 rfl) ?_
        refine wi_lald (f := ((F_w_wipe (x) (w1)).2).2 (85)) (n := kLen (85)) hx hb hK hP (85) 1 (kgj kC85 (by omega) rfl) rfl (i := i) (by omega) (by show _ < ((300 : Nat) : Int); exact (by omega)) (kLen_lt _) dX4_read_22 ?_
        refine lv_aload_n hx hb dX4_read_23 rfl (lv_at hl 0 rfl) ?_
        refine va_get (D := (dC, dI)) (ci := 4) (v := .ref (ad (86))) (C := RX4) (T := TX4) (N := 3) hx hb hts hinX4 hown hK hP (84) (kg84 (by omega)) rfl 1 (by decide) (hts (.fieldLink RX4 15 "LikeWords$Made" "tails" "[J") (by decide +kernel)) (fun _ h9 => h9) rfl dX4_read_24 ?_
        refine lv_iload_n hx hb dX4_read_27 rfl (lv_at hl 1 rfl) ?_
        refine wi_lald (f := ((F_w_wipe (x) (w1)).2).2 (86)) (n := kLen (86)) hx hb hK hP (86) 1 (kgj kC86 (by omega) rfl) rfl (i := i) (by omega) (by show _ < ((300 : Nat) : Int); exact (by omega)) (kLen_lt _) dX4_read_28 ?_
        have hFc : ∀ q, va_A (kWd cI cJ cZ cR wl ad M ((F_w_wipe (x) (w1)).2)) H.size q → A q := fun q hq => Or.elim hq (fun ⟨k, e, hk⟩ => hD.2 k (q, e) hk) (fun hk => hA q (Nat.le_trans hS.1 hk))
        refine va_callv (va_runV (b := ad (w1)) (As := [.long (iL ((((F_w_wipe (x) (w1)).2).2 (85)) (i).toNat)), .long (iL ((((F_w_wipe (x) (w1)).2).2 (86)) (i).toNat))]) (rest := []) ⟨hx, hb, hml, hown, hts⟩ (c_w_unpack l dC dI ad cI cJ cZ cR M wl H.size ((F_w_wipe (x) (w1)).2) (w1) ((((F_w_wipe (x) (w1)).2).2 (85)) (i).toNat) ((((F_w_wipe (x) (w1)).2).2 (86)) (i).toNat) hM hw_w1 (by omega) (md2 _) (md3 _)) (cwV 2 hts gX4_read_X10_unpack rfl rfl rfl (by decide +kernel) ⟨Nat.le_of_ble_eq_true rfl, Nat.le_of_ble_eq_true rfl⟩) ⟨fun a U g mk q => by obtain ⟨q0, q1, qP, qK, qD, qN⟩ := q; exact ⟨q0, q1, qP, va_K.moved (u := U) (U := U.calling g mk a) (Vm.Alike.refl U.vm) qK, qD, kNw.same (u := U) (U := U.calling g mk a) rfl qN⟩, va_recv hK hP (ci := 10) (q0 := w1) rfl (kgw hw_w1 (by omega)), fun U hU hW => ⟨rfl, by rw [hU], by rw [hU]; exact hP, va_K.moved hW.alike hK, hD.weaken (fun _ _ _ _ => trivial), kNw.warm hW hNw⟩⟩ rfl rfl hl.1 rfl (lv_room (Nat.le_of_ble_eq_true rfl)) dX4_read_29 ⟨Nat.le_of_ble_eq_true rfl, Nat.le_of_ble_eq_true rfl⟩) hS (fun q _ h => hFc q h) hFc (fun u9 t H1 locs ht hvm hw hB hz1 hk1 hS => ?_)
        obtain ⟨hP1, hK1, hD1⟩ := hB
        rw [ht] at hP1
        rw [hw] at hP1 hD1
        have hD2 := hD1.weaken (B := A) (fun _ q _ h => hFc q.1 h)
        have hP := hP1
        have hD := hD2
        generalize H1 = H at hP hS ⊢
        exact W.vret hx hb hr (fun t ht hW => ⟨⟨(F_w_unpack ((F_w_wipe (x) (w1)).2) (w1) ((((F_w_wipe (x) (w1)).2).2 (85)) (i).toNat) ((((F_w_wipe (x) (w1)).2).2 (86)) (i).toNat)).2, rfl, (by have h9 := congrArg (fun z : Int × KS => z.2) hres; exact h9), by rw [ht]; exact hP, va_K.moved hW.alike hK, hD⟩, hS.F ht⟩) hS.2.2 dX4_read_32
  exact key _ _ hP hS
theorem F_d_read_fr (x : KS) (w1 : Nat) (i : Int) : ksame [(w1, 1)] [(w1) + 1] x (F_d_read x w1 i).2 := by
  unfold F_d_read
  by_cases hc : (i) < (0)
  · rw [if_pos hc]
    exact (km_tr (km_rf _ _ _) (km_mono (km1 (List.Mem.head _) km0) km0 (F_w_wipe_fr (x) (w1))))
  · rw [if_neg hc]
    by_cases hc : (((F_w_wipe (x) (w1)).2).1 (84) 2) ≤ (i)
    · rw [if_pos hc]
      exact (km_tr (km_rf _ _ _) (km_mono (km1 (List.Mem.head _) km0) km0 (F_w_wipe_fr (x) (w1))))
    · rw [if_neg hc]
      exact (km_tr (km_tr (km_rf _ _ _) (km_mono (km1 (List.Mem.head _) km0) km0 (F_w_wipe_fr (x) (w1)))) (km_mono (km1 (List.Mem.head _) km0) (km1 (List.Mem.head _) km0) (F_w_unpack_fr ((F_w_wipe (x) (w1)).2) (w1) ((((F_w_wipe (x) (w1)).2).2 (85)) (i).toNat) ((((F_w_wipe (x) (w1)).2).2 (86)) (i).toNat))))
theorem F_d_read_q (x : KS) (w1 : Nat) (i : Int) (hw_w1 : kW w1 = true) : kq [] [] x (F_d_read x w1 i).2 := kq_of (F_d_read_fr x w1 i) (kq_c (Or.inl hw_w1) kq_m) (kq_c (Or.inl hw_w1) kq_n)
