-- deps: 30 31 43 60 61 97.a
/-! Known.widen: new rows, once -/
def F_k_widen (x : KS) : Int × KS := if 262144 ≤ x.1 101 9 then (0, x) else (0, kZw x 262144)
def kCw (x : KS) : Nat := if 262144 ≤ x.1 101 9 then 0 else 4
def kSw (x : KS) : Nat := if 262144 ≤ x.1 101 9 then 0 else 1048576
def kWl (x : KS) : Nat := (x.1 101 9).toNat
set_option maxHeartbeats 4000000 in
set_option maxRecDepth 100000 in
/-- LikeWords$Known, widen -/
theorem c_k_widen (l : Launch) (dC : Nat → ClassId) (dI : Nat → Nat → Nat) (ad : Nat → Nat) (cI cJ cZ cR : ClassId) (wl sz : Nat) (x : KS) (kn : knR x wl) : Met l yX2_widen wsX2_widen ({ frames := 1, cells := kCw x, slots := kSw x, locals := 21 }) (kPc dC dI ad cI cJ cZ cR 106 wl sz x [.ref (ad 101)]) (va_Qv (fun u : KS × (Nat → Nat) => u.1 = (F_k_widen x).2 ∧ ∀ c, c < 102 → u.2 c = ad c) (fun u t => kAt dC dI u.2 cI cJ cZ cR 106 (kWl u.1) (va_A (kWd cI cJ cZ cR wl ad 106 x) sz) u.1 t) (va_A (kWd cI cJ cZ cR wl ad 106 x) sz)) (kCw x) (kSw x) (va_A (kWd cI cJ cZ cR wl ad 106 x) sz) := by
  refine Met.ofW (cc := cX2_widen) (maxL := 1) (ret := none) (by decide) rfl ?_
  intro p e s m args below meth c s₁ B hml hv
  obtain ⟨rfl, hsz, hP, hK, hD0, hNw⟩ := hv
  have hx := B.exec
  have hb := B.bytes
  have hr := B.returns
  have hts := atoms_spec (ws := wsX2_widen) B.pre
  have hown : s.vm.findClass RX2 = some m.cls := findClass_of_methodNamed B.named
  have hlocks := B.notSynchronized
  have hinX2 : ∀ w ∈ u_ws RX2 TX2 7, w ∈ wsX2_widen := by decide +kernel
  subst hsz
  have hD := hD0.self (sz := s.heap.size)
  generalize hAe : va_A (kWd cI cJ cZ cR wl ad 106 x) s.heap.size = A at hD ⊢
  have hA : ∀ q : Nat, s.heap.size ≤ q → A q := fun q h => by rw [← hAe]; exact Or.inr h
  have hS : va_S A s.heap s.heap [] := va_S.rf
  have hl := lv_entry ([.ref (ad 101)]) (n := 1) (Nat.le_of_ble_eq_true rfl)
  rw [lg_entry_eq]
  generalize (lg_sl ([.ref (ad 101)]) ++ List.replicate (1 - (lg_sl ([.ref (ad 101)])).length) Slot.unset).toArray = ls at hl ⊢
  have hl : lv_has ls 1 [(0, .ref (ad (101)))] := hl
  obtain ⟨hwl, wv, k2, k3, k4, k5⟩ := id kn
  have hwl31 : wl < 2147483648 := by omega
  refine lv_aload_n hx hb dX2_widen_0 rfl (lv_at hl 0 rfl) ?_
  refine va_get (D := (dC, dI)) (ci := 2) (v := .ref (ad (102))) (C := RX2) (T := TX2) (N := 7) hx hb hts hinX2 hown hK hP (101) (kg101 (by omega)) rfl 0 (by decide) (hts (.fieldLink RX2 16 "LikeWords$Known" "heads" "[J") (by decide +kernel)) (fun _ h9 => h9) rfl dX2_widen_1 ?_
  refine va_alen (v := iI ((x).1 (101) 9)) hx hb hK hP (102) 1 (kgK102 (by omega) rfl) rfl (by rw [hwl]; exact iI_nat _) dX2_widen_4 ?_
  refine lv_ldc (v := iI (262144 : Int)) hx hb hown (hts (.constant RX2 33 (262144)) (by decide +kernel)) dX2_widen_5 ?_
  refine wi_icmp_ge (tgt := 16) hx hb (by unfold iR; omega) (by unfold iR; omega) dX2_widen_7 (by decide) (fun c_7 => ?_) (fun c_7 => ?_)
  · have e1 : kCw x = 0 := if_pos c_7
    have e2 : kSw x = 0 := if_pos c_7
    have e3 : F_k_widen x = (0, x) := if_pos c_7
    have e4 : kWl x = wl := by unfold kWl; rw [hwl]; exact Int.toNat_natCast wl
    rw [e1, e2]
    exact W.vret hx hb hr (fun t ht hW => ⟨⟨(x, ad), rfl, ⟨by rw [e3], fun _ _ => rfl⟩, by rw [ht]; show va_P (dC, dI) vwCl (kWd cI cJ cZ cR (kWl x) ad 106 x) _; rw [e4]; exact hP, va_K.moved hW.alike hK, by show va_D A (kWd cI cJ cZ cR (kWl x) ad 106 x); rw [e4]; exact hD⟩, hS.F ht⟩) hS.2.2 dX2_widen_16
  · have e1 : kCw x = 4 := if_neg c_7
    have e2 : kSw x = 1048576 := if_neg c_7
    have e3 : F_k_widen x = (0, kZw x 262144) := if_neg c_7
    rw [e1, e2]
    refine lv_aload_n hx hb dX2_widen_10 rfl (lv_at hl 0 rfl) ?_
    refine lv_ldc (v := iI (262144 : Int)) hx hb hown (hts (.constant RX2 33 (262144)) (by decide +kernel)) dX2_widen_11 ?_
    have he : (kWd cI cJ cZ cR wl ad 106 x)[101]? = some (ad 101, .inr (2, kF101 ad (x.1 101))) := kg101 (by omega)
    have hPc : va_P (dC, dI) vwCl [(ad 101, .inr (2, [.ref (ad 102), .ref (ad 103), .ref (ad 104), .ref (ad 105), .int (iI (x.1 101 4)), .long (iL (x.1 101 5)), .long (iL (x.1 101 6))]))] s.heap := hP.sub [101] (by show List.filterMap id [(kWd cI cJ cZ cR wl ad 106 x)[101]?] = _; rw [he]; rfl)
    have hCe : [101].map (fun i => (kWd cI cJ cZ cR wl ad 106 x)[i]?) = ([(ad 101, .inr (2, [.ref (ad 102), .ref (ad 103), .ref (ad 104), .ref (ad 105), .int (iI (x.1 101 4)), .long (iL (x.1 101 5)), .long (iL (x.1 101 6))]))] : va_W).map some := by show [(kWd cI cJ cZ cR wl ad 106 x)[101]?] = _; rw [he]; rfl
    have hDc := hD.sub (ws' := [(ad 101, .inr (2, [.ref (ad 102), .ref (ad 103), .ref (ad 104), .ref (ad 105), .int (iI (x.1 101 4)), .long (iL (x.1 101 5)), .long (iL (x.1 101 6))]))]) [101] (by decide) hCe
    have hFc := va_free (wc := [(ad 101, .inr (2, [.ref (ad 102), .ref (ad 103), .ref (ad 104), .ref (ad 105), .int (iI (x.1 101 4)), .long (iL (x.1 101 5)), .long (iL (x.1 101 6))]))]) hD hS hA [101] hCe
    have hKc := hK.sub (tys' := [(cI, .int), (cJ, .long), (cZ, .boolean)]) [0, 1, 2] rfl
    refine va_callv (va_runV (b := ad 101) (As := [.int (iI ((262144 : Int)))]) (rest := []) ⟨hx, hb, hml, hown, hts⟩ (n_k_makeRoom l dC dI (ad 101) cI cJ cZ s.heap.size (.ref (ad 102)) (.ref (ad 103)) (.ref (ad 104)) (.ref (ad 105)) (.int (iI (x.1 101 4))) (.long (iL (x.1 101 5))) (.long (iL (x.1 101 6))) 262144 (by decide)) (cwV 1 hts gX2_widen_X2_makeRoom rfl rfl rfl (by decide +kernel) ⟨Nat.le_of_ble_eq_true rfl, Nat.le_of_ble_eq_true rfl⟩) ⟨fun a U g mk q => by obtain ⟨q0, q1, qP, qK, qD⟩ := q; exact ⟨q0, q1, qP, va_K.moved (u := U) (U := U.calling g mk a) (Vm.Alike.refl U.vm) qK, qD⟩, va_recv hK hP (ci := 2) (q0 := 101) rfl (kg101 (by omega)), fun U hU hW => ⟨rfl, by rw [hU], by rw [hU]; exact hPc, va_K.moved hW.alike hKc, hDc.weaken (fun _ _ _ _ => trivial)⟩⟩ rfl rfl hl.1 rfl (lv_room (Nat.le_of_ble_eq_true rfl)) dX2_widen_13 ⟨(show _ ≤ 4 by omega), (show _ ≤ 1048576 by omega)⟩) hS (fun q _ h => hFc q h) hFc (fun u9 t H1 locs ht hvm hw hB hz1 hk1 hS => ?_)
    obtain ⟨hP1, hK1, hD1⟩ := hB
    rw [ht] at hP1
    obtain ⟨hP2, hD2⟩ := kW_relay (w := 262144) hP hD he hk1 hFc hP1 hD1
    refine W.widen (k := 4) (n := 1048576) (by omega) (by omega) ?_
    exact W.vret hx hb hr (fun t ht hW => ⟨⟨(kZw x 262144, adU ad u9), rfl, ⟨by rw [e3], fun c hc => adU_lt c hc⟩, by rw [ht]; exact hP2, va_K.moved hW.alike hK, hD2⟩, hS.F ht⟩) hS.2.2 dX2_widen_16
