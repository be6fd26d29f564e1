-- deps: B4.b B5.a
/-! two worlds side by side in one heap; a call leaves the other world as it was -/
theorem met_q {l : Launch} {y : MethodName} {ws : List Cond} {rm : Room} {Pc : Array Value → State → Prop} {Qc Qd : Array Value → State → Outcome → State → Prop} {mc ms : Nat} {free : Addr → Prop} (h : Met l y ws rm Pc Qc mc ms free) (hq : ∀ a s o t, Qc a s o t → Qd a s o t) : Met l y ws rm Pc Qd mc ms free := by
  intro p e ha hc hk s m args below hf happ hP hK
  obtain ⟨n, o, h1, h2, h3, h4, h5⟩ := h p e ha hc hk s m args below hf happ hP hK
  exact ⟨n, o, h1, h2, h3, hq _ _ _ _ h4, h5⟩
def tw (D : va_G) (cl : List vw_C) (A : Nat → Prop) (wa wb : va_W) (H : Heap) : Prop := (va_P D cl wa H ∧ va_D A wa) ∧ (va_P D cl wb H ∧ va_D A wb) ∧ ∀ (i j : Nat) (p q : Nat × va_E), wa[i]? = some p → wb[j]? = some q → p.1 ≠ q.1
theorem tw_sw {D : va_G} {cl : List vw_C} {A : Nat → Prop} {wa wb : va_W} {H : Heap} (h : tw D cl A wa wb H) : tw D cl A wb wa H := ⟨h.2.1, h.1, fun i j p q hp hq e => h.2.2 j i q p hq hp e.symm⟩
theorem tw_to {D : va_G} {cl : List vw_C} {A : Nat → Prop} {wa wb w1 : va_W} {H H1 : Heap} (h : tw D cl A wa wb H) (hk : ∀ q : Nat, q < H.size → ¬ va_A wa H.size q → H1[q]? = H[q]?) (hF : ∀ q, va_A wa H.size q → A q) (hP1 : va_P D cl w1 H1) (hD1 : va_D (va_A wa H.size) w1) : tw D cl A w1 wb H1 := by
  have ap : ∀ (j : Nat) (q : Nat × va_E), wb[j]? = some q → q.1 < H.size ∧ ¬ va_A wa H.size q.1 := fun j q hq => by
    have hl := (h.2.1.1 j q hq).lt
    refine ⟨hl, fun h9 => ?_⟩
    rcases h9 with ⟨k, e, hk9⟩ | h9
    · exact h.2.2 k j _ q hk9 hq rfl
    · omega
  refine ⟨⟨hP1, hD1.weaken (fun _ q _ h9 => hF q.1 h9)⟩, ⟨h.2.1.1.kept (fun k q hq => hk q.1 (ap k q hq).1 (ap k q hq).2), h.2.1.2⟩, fun i j p q hp hq e => ?_⟩
  have a := hD1.2 i p hp
  rw [e] at a
  exact (ap j q hq).2 a
def lwFr (s : State) : Nat → Prop := fun q => s.heap.size ≤ q
theorem tw_F {D : va_G} {cl : List vw_C} {s : State} {wa wb : va_W} {H : Heap} {locs : List Loc} (h : tw D cl (lwFr s) wa wb H) (hS : va_S (lwFr s) s.heap H locs) : ∀ q, va_A wa H.size q → lwFr s q := fun q hq => Or.elim hq (fun ⟨k, e, hk⟩ => h.1.2.2 k (q, e) hk) (fun hk => Nat.le_trans hS.1 hk)
/-! room: what was made at the start, and what a Grower takes -/
theorem kPo_le (X : KS) : kPo X ≤ 23 := by
  unfold kPo kCw
  split
  · omega
  · split <;> omega
theorem kPs_le (X : KS) : kPs X ≤ 1180289 := by
  unfold kPs kSw
  split
  · omega
  · split <;> omega
def lwc (X : KS) : Nat := 112 + (23 - kPo X)
def lws (X : KS) : Nat := 85347 + (1180289 - kPs X)
theorem lwc_le (X : KS) : lwc X ≤ 135 := by unfold lwc; omega
theorem lws_le (X : KS) : lws X ≤ 1265636 := by unfold lws; omega
theorem lwc_Le {X Z : KS} (h : kLe X Z) : lwc X + (kPo X - kPo Z) ≤ lwc Z := by
  have a := kPo_le X
  have b := h.1
  unfold lwc; omega
theorem lws_Le {X Z : KS} (h : kLe X Z) : lws X + (kPs X - kPs Z) ≤ lws Z := by
  have a := kPs_le X
  have b := h.2
  unfold lws; omega
theorem lwc_G {X Z : KS} (h : kG X Z) : lwc X + 0 ≤ lwc Z := by
  have a := (kG_p h).1
  unfold lwc; omega
theorem lws_G {X Z : KS} (h : kG X Z) : lws X + 0 ≤ lws Z := by
  have a := (kG_p h).2
  unfold lws; omega
/-! contracts of LikeWords in one form -/
def kQi (dC : Nat → ClassId) (dI : Nat → Nat → Nat) (ad : Nat → Nat) (cI cJ cZ cR : ClassId) (A : Nat → Prop) (r : Int) (Z : KS) : Array Value → State → Outcome → State → Prop := va_Qi (fun (r9 : Int32) (u : KS × (Nat → Nat)) => r9 = iI r ∧ u.1 = Z ∧ (∀ c, c < 87 → u.2 c = ad c)) (fun u t => kAt dC dI u.2 cI cJ cZ cR (kM u.1) (kWl u.1) A u.1 t) A
def kQl (dC : Nat → ClassId) (dI : Nat → Nat → Nat) (ad : Nat → Nat) (cI cJ cZ cR : ClassId) (A : Nat → Prop) (r : Int) (Z : KS) : Array Value → State → Outcome → State → Prop := va_Ql (fun (r9 : Int64) (u : KS × (Nat → Nat)) => r9 = iL r ∧ u.1 = Z ∧ (∀ c, c < 87 → u.2 c = ad c)) (fun u t => kAt dC dI u.2 cI cJ cZ cR (kM u.1) (kWl u.1) A u.1 t) A
theorem kQ_i {l : Launch} {y : MethodName} {ws : List Cond} {rm : Room} {Pc : Array Value → State → Prop} {mc ms : Nat} {free : Addr → Prop} {dC : Nat → ClassId} {dI : Nat → Nat → Nat} {ad : Nat → Nat} {cI cJ cZ cR : ClassId} {M wl : Nat} {A : Nat → Prop} {r : Int} {X Z : KS} (h : Met l y ws rm Pc (va_Qi (fun (r9 : Int32) (u : KS) => r9 = iI r ∧ u = Z) (kAt dC dI ad cI cJ cZ cR M wl A) A) mc ms free) (hM : M = kM X) (hW : wl = kWl X) (g : kG X Z) : Met l y ws rm Pc (kQi dC dI ad cI cJ cZ cR A r Z) mc ms free := by
  subst hM
  subst hW
  refine met_q h (fun a s o t hq => ?_)
  obtain ⟨⟨r9, u, h1, ⟨h2, h3⟩, hB⟩, hF⟩ := hq
  subst h3
  refine ⟨⟨r9, (u, ad), h1, ⟨h2, rfl, fun _ _ => rfl⟩, ?_⟩, hF⟩
  show kAt dC dI ad cI cJ cZ cR (kM u) (kWl u) A u t
  rw [kG_M g, kG_W g]
  exact hB
theorem kQ_l {l : Launch} {y : MethodName} {ws : List Cond} {rm : Room} {Pc : Array Value → State → Prop} {mc ms : Nat} {free : Addr → Prop} {dC : Nat → ClassId} {dI : Nat → Nat → Nat} {ad : Nat → Nat} {cI cJ cZ cR : ClassId} {M wl : Nat} {A : Nat → Prop} {r : Int} {X Z : KS} (h : Met l y ws rm Pc (va_Ql (fun (r9 : Int64) (u : KS) => r9 = iL r ∧ u = Z) (kAt dC dI ad cI cJ cZ cR M wl A) A) mc ms free) (hM : M = kM X) (hW : wl = kWl X) (g : kG X Z) : Met l y ws rm Pc (kQl dC dI ad cI cJ cZ cR A r Z) mc ms free := by
  subst hM
  subst hW
  refine met_q h (fun a s o t hq => ?_)
  obtain ⟨⟨r9, u, h1, ⟨h2, h3⟩, hB⟩, hF⟩ := hq
  subst h3
  refine ⟨⟨r9, (u, ad), h1, ⟨h2, rfl, fun _ _ => rfl⟩, ?_⟩, hF⟩
  show kAt dC dI ad cI cJ cZ cR (kM u) (kWl u) A u t
  rw [kG_M g, kG_W g]
  exact hB
/-- the law: its tables, its script, the classes known -/
def lwC (p : Program) (s : State) (m : MethodId) (c : Code) (dC : Nat → ClassId) (dI : Nat → Nat → Nat) (cI cJ cZ cR eI eJ eZ : ClassId) (b L : Nat) (xs : Nat → Int32) : Prop := CallFix p m c cL_law 4 s #[Value.ref b] lw_tbl RL ∧ (va_X b L xs s s.heap ∧ b < s.heap.size ∧ L ≤ 2048) ∧ va_K (dC, dI) vwCl (kTy cI cJ cZ cR) s ∧ va_K (dC, dI) vwCl (mTy eI eJ eZ) s ∧ kNw s
def sc (xs : Nat → Int32) (k : Nat) : Int := (xs k).toInt
theorem sc_R (xs : Nat → Int32) (k : Nat) : iR (sc xs k) := ⟨Int32.le_toInt _, Int32.toInt_lt _⟩
theorem sc_I (xs : Nat → Int32) (k : Nat) : xs k = iI (sc xs k) := (Int32.ofInt_toInt _).symm
section LW
variable {p : Program} {l : Launch} {e : Env} {s : State} {m : MethodId} {below : List Frame} {meth : Method} {c : Code} {dC : Nat → ClassId} {dI : Nat → Nat → Nat} {cI cJ cZ cR eI eJ eZ : ClassId} {b L : Nat} {xs : Nat → Int32} {h : Nat} {am ad : Nat → Nat} {X Z : KS} {Y V : MS} {wa wb : va_W} {H : Heap} {locs : List Loc} {ls : Array Slot} {Q : State → Prop} {As rest st0 : List Value} {pc index n mc ms maxL : Nat} {y : MethodName} {bytes : ByteArray} {ret : Option FieldType} {ws : List Cond} {rm : Room} {r : Int} {kc kn : Nat}
theorem lc_ti (C0 : lwC p s m c dC dI cI cJ cZ cR eI eJ eZ b L xs) (J : tw (dC, dI) vwCl (lwFr s) (kWd cI cJ cZ cR (kWl X) ad (kM X) X) wb H) (hS : va_S (lwFr s) s.heap H locs) (hz : ls.size = 4)
    (hM : Met l y ws rm (kPc dC dI ad cI cJ cZ cR (kM X) (kWl X) H.size X (.ref (ad 0) :: As)) (kQi dC dI ad cI cJ cZ cR (va_A (kWd cI cJ cZ cR (kWl X) ad (kM X) X) H.size) r Z) mc ms (va_A (kWd cI cJ cZ cR (kWl X) ad (kM X) X) H.size))
    (cw : CallW room_1 s #[Value.ref b] RL RX11 index y bytes maxL ret ws rm mc ms n) (hn : As.length = n) (hst : st0 = As.reverse ++ .ref (ad 0) :: rest) (hR : (rest.map fun v => v.category).sum ≤ 8) (hdg : decode cL_law pc = .ok (.invokevirtual index, 3)) (hc : lwc X + mc ≤ lwc Z) (hs : lws X + ms ≤ lws Z)
    (kk : ∀ (H1 : Heap) (locs1 : List Loc) (ad1 : Nat → Nat), ad1 0 = ad 0 → tw (dC, dI) vwCl (lwFr s) (kWd cI cJ cZ cR (kWl Z) ad1 (kM Z) Z) wb H1 → va_S (lwFr s) s.heap H1 locs1 → W p l e room_1 s m #[Value.ref b] below meth c H1 locs1 (lwc Z) (lws Z) Q (F0 m (pc + 3) ls (.int (iI r) :: rest))) :
    W p l e room_1 s m #[Value.ref b] below meth c H locs (lwc X) (lws X) Q (F0 m pc ls st0) := by
  obtain ⟨Cf, -, hK, -, hNw⟩ := C0
  subst hst
  have hP := J.1.1
  have hD := J.1.2
  have hFc := tw_F J hS
  have c9 := lwc_le Z
  have s9 := lws_le Z
  have hM0 := kM_ge X
  refine va_calli (va_runV (b := ad 0) (As := As) (rest := rest) Cf hM cw ⟨fun a U g mk q => by obtain ⟨q0, q1, qP, qK, qD, qN⟩ := q; exact ⟨q0, q1, qP, va_K.moved (u := U) (U := U.calling g mk a) (Vm.Alike.refl U.vm) qK, qD, kNw.same (u := U) (U := U.calling g mk a) rfl qN⟩, va_recv hK hP (ci := 11) (q0 := 0) rfl (kg0 (by omega)), fun U hU hW => ⟨rfl, by rw [hU], by rw [hU]; exact hP, va_K.moved hW.alike hK, hD.weaken (fun _ _ _ _ => trivial), kNw.warm hW hNw⟩⟩ rfl hn hz rfl (lv_room hR) hdg ⟨(show lwc X + mc ≤ 600000 by omega), (show lws X + ms ≤ 7302250 by omega)⟩) hS (fun q _ h => hFc q h) hFc (fun r9 u9 t H1 locs1 ht hvm hw hB hz1 hk1 hS1 => ?_)
  obtain ⟨hw1, hw2, hw3⟩ := hw
  obtain ⟨hP1, hK1, hD1⟩ := hB
  rw [ht] at hP1
  rw [hw2] at hP1 hD1
  rw [hw1]
  refine W.widen (k := lwc Z) (n := lws Z) hc hs ?_
  exact kk H1 locs1 u9.2 (hw3 0 (by omega)) (tw_to J hk1 hFc hP1 hD1) hS1
theorem lc_tl (C0 : lwC p s m c dC dI cI cJ cZ cR eI eJ eZ b L xs) (J : tw (dC, dI) vwCl (lwFr s) (kWd cI cJ cZ cR (kWl X) ad (kM X) X) wb H) (hS : va_S (lwFr s) s.heap H locs) (hz : ls.size = 4)
    (hM : Met l y ws rm (kPc dC dI ad cI cJ cZ cR (kM X) (kWl X) H.size X (.ref (ad 0) :: As)) (kQl dC dI ad cI cJ cZ cR (va_A (kWd cI cJ cZ cR (kWl X) ad (kM X) X) H.size) r Z) mc ms (va_A (kWd cI cJ cZ cR (kWl X) ad (kM X) X) H.size))
    (cw : CallW room_1 s #[Value.ref b] RL RX11 index y bytes maxL ret ws rm mc ms n) (hn : As.length = n) (hst : st0 = As.reverse ++ .ref (ad 0) :: rest) (hR : (rest.map fun v => v.category).sum ≤ 8) (hdg : decode cL_law pc = .ok (.invokevirtual index, 3)) (hc : lwc X + mc ≤ lwc Z) (hs : lws X + ms ≤ lws Z)
    (kk : ∀ (H1 : Heap) (locs1 : List Loc) (ad1 : Nat → Nat), ad1 0 = ad 0 → tw (dC, dI) vwCl (lwFr s) (kWd cI cJ cZ cR (kWl Z) ad1 (kM Z) Z) wb H1 → va_S (lwFr s) s.heap H1 locs1 → W p l e room_1 s m #[Value.ref b] below meth c H1 locs1 (lwc Z) (lws Z) Q (F0 m (pc + 3) ls (.long (iL r) :: rest))) :
    W p l e room_1 s m #[Value.ref b] below meth c H locs (lwc X) (lws X) Q (F0 m pc ls st0) := by
  obtain ⟨Cf, -, hK, -, hNw⟩ := C0
  subst hst
  have hP := J.1.1
  have hD := J.1.2
  have hFc := tw_F J hS
  have c9 := lwc_le Z
  have s9 := lws_le Z
  have hM0 := kM_ge X
  refine va_calll (va_runV (b := ad 0) (As := As) (rest := rest) Cf hM cw ⟨fun a U g mk q => by obtain ⟨q0, q1, qP, qK, qD, qN⟩ := q; exact ⟨q0, q1, qP, va_K.moved (u := U) (U := U.calling g mk a) (Vm.Alike.refl U.vm) qK, qD, kNw.same (u := U) (U := U.calling g mk a) rfl qN⟩, va_recv hK hP (ci := 11) (q0 := 0) rfl (kg0 (by omega)), fun U hU hW => ⟨rfl, by rw [hU], by rw [hU]; exact hP, va_K.moved hW.alike hK, hD.weaken (fun _ _ _ _ => trivial), kNw.warm hW hNw⟩⟩ rfl hn hz rfl (lv_room hR) hdg ⟨(show lwc X + mc ≤ 600000 by omega), (show lws X + ms ≤ 7302250 by omega)⟩) hS (fun q _ h => hFc q h) hFc (fun r9 u9 t H1 locs1 ht hvm hw hB hz1 hk1 hS1 => ?_)
  obtain ⟨hw1, hw2, hw3⟩ := hw
  obtain ⟨hP1, hK1, hD1⟩ := hB
  rw [ht] at hP1
  rw [hw2] at hP1 hD1
  rw [hw1]
  refine W.widen (k := lwc Z) (n := lws Z) hc hs ?_
  exact kk H1 locs1 u9.2 (hw3 0 (by omega)) (tw_to J hk1 hFc hP1 hD1) hS1
theorem lc_mi (C0 : lwC p s m c dC dI cI cJ cZ cR eI eJ eZ b L xs) (J : tw (dC, dI) vwCl (lwFr s) wa (mW h am eI eJ eZ Y) H) (hS : va_S (lwFr s) s.heap H locs) (hz : ls.size = 4) (hkc : kc ≤ 600000) (hkn : kn ≤ 7302250)
    (hM : Met l y ws rm (mPc dC dI h am eI eJ eZ H.size Y (.ref h :: As)) (va_Qi (fun (r9 : Int32) (u : MS) => r9 = iI r ∧ u = V) (mAt dC dI h am eI eJ eZ (va_A (mW h am eI eJ eZ Y) H.size)) (va_A (mW h am eI eJ eZ Y) H.size)) 0 0 (va_A (mW h am eI eJ eZ Y) H.size))
    (cw : CallW room_1 s #[Value.ref b] RL RX12 index y bytes maxL ret ws rm 0 0 n) (hn : As.length = n) (hst : st0 = As.reverse ++ .ref h :: rest) (hR : (rest.map fun v => v.category).sum ≤ 8) (hdg : decode cL_law pc = .ok (.invokevirtual index, 3))
    (kk : ∀ (H1 : Heap) (locs1 : List Loc), tw (dC, dI) vwCl (lwFr s) wa (mW h am eI eJ eZ V) H1 → va_S (lwFr s) s.heap H1 locs1 → W p l e room_1 s m #[Value.ref b] below meth c H1 locs1 kc kn Q (F0 m (pc + 3) ls (.int (iI r) :: rest))) :
    W p l e room_1 s m #[Value.ref b] below meth c H locs kc kn Q (F0 m pc ls st0) := by
  obtain ⟨Cf, -, -, hK, -⟩ := C0
  subst hst
  have J2 := tw_sw J
  have hP := J2.1.1
  have hD := J2.1.2
  have hFc := tw_F J2 hS
  refine va_calli (va_runV (b := h) (As := As) (rest := rest) Cf hM cw ⟨fun a U g mk q => by obtain ⟨q0, q1, qP, qK, qD⟩ := q; exact ⟨q0, q1, qP, va_K.moved (u := U) (U := U.calling g mk a) (Vm.Alike.refl U.vm) qK, qD⟩, va_recv hK hP (ci := 12) (q0 := 0) rfl rfl, fun U hU hW => ⟨rfl, by rw [hU], by rw [hU]; exact hP, va_K.moved hW.alike hK, hD.weaken (fun _ _ _ _ => trivial)⟩⟩ rfl hn hz rfl (lv_room hR) hdg ⟨(show kc + 0 ≤ 600000 from hkc), (show kn + 0 ≤ 7302250 from hkn)⟩) hS (fun q _ h => hFc q h) hFc (fun r9 u9 t H1 locs1 ht hvm hw hB hz1 hk1 hS1 => ?_)
  obtain ⟨hw1, hw2⟩ := hw
  obtain ⟨hP1, hK1, hD1⟩ := hB
  rw [ht] at hP1
  rw [hw2] at hP1 hD1
  rw [hw1]
  exact kk H1 locs1 (tw_sw (tw_to J2 hk1 hFc hP1 hD1)) hS1
theorem lc_ml (C0 : lwC p s m c dC dI cI cJ cZ cR eI eJ eZ b L xs) (J : tw (dC, dI) vwCl (lwFr s) wa (mW h am eI eJ eZ Y) H) (hS : va_S (lwFr s) s.heap H locs) (hz : ls.size = 4) (hkc : kc ≤ 600000) (hkn : kn ≤ 7302250)
    (hM : Met l y ws rm (mPc dC dI h am eI eJ eZ H.size Y (.ref h :: As)) (va_Ql (fun (r9 : Int64) (u : MS) => r9 = iL r ∧ u = V) (mAt dC dI h am eI eJ eZ (va_A (mW h am eI eJ eZ Y) H.size)) (va_A (mW h am eI eJ eZ Y) H.size)) 0 0 (va_A (mW h am eI eJ eZ Y) H.size))
    (cw : CallW room_1 s #[Value.ref b] RL RX12 index y bytes maxL ret ws rm 0 0 n) (hn : As.length = n) (hst : st0 = As.reverse ++ .ref h :: rest) (hR : (rest.map fun v => v.category).sum ≤ 8) (hdg : decode cL_law pc = .ok (.invokevirtual index, 3))
    (kk : ∀ (H1 : Heap) (locs1 : List Loc), tw (dC, dI) vwCl (lwFr s) wa (mW h am eI eJ eZ V) H1 → va_S (lwFr s) s.heap H1 locs1 → W p l e room_1 s m #[Value.ref b] below meth c H1 locs1 kc kn Q (F0 m (pc + 3) ls (.long (iL r) :: rest))) :
    W p l e room_1 s m #[Value.ref b] below meth c H locs kc kn Q (F0 m pc ls st0) := by
  obtain ⟨Cf, -, -, hK, -⟩ := C0
  subst hst
  have J2 := tw_sw J
  have hP := J2.1.1
  have hD := J2.1.2
  have hFc := tw_F J2 hS
  refine va_calll (va_runV (b := h) (As := As) (rest := rest) Cf hM cw ⟨fun a U g mk q => by obtain ⟨q0, q1, qP, qK, qD⟩ := q; exact ⟨q0, q1, qP, va_K.moved (u := U) (U := U.calling g mk a) (Vm.Alike.refl U.vm) qK, qD⟩, va_recv hK hP (ci := 12) (q0 := 0) rfl rfl, fun U hU hW => ⟨rfl, by rw [hU], by rw [hU]; exact hP, va_K.moved hW.alike hK, hD.weaken (fun _ _ _ _ => trivial)⟩⟩ rfl hn hz rfl (lv_room hR) hdg ⟨(show kc + 0 ≤ 600000 from hkc), (show kn + 0 ≤ 7302250 from hkn)⟩) hS (fun q _ h => hFc q h) hFc (fun r9 u9 t H1 locs1 ht hvm hw hB hz1 hk1 hS1 => ?_)
  obtain ⟨hw1, hw2⟩ := hw
  obtain ⟨hP1, hK1, hD1⟩ := hB
  rw [ht] at hP1
  rw [hw2] at hP1 hD1
  rw [hw1]
  exact kk H1 locs1 (tw_sw (tw_to J2 hk1 hFc hP1 hD1)) hS1
/-- the same answer twice -/
theorem lc_eq (C0 : lwC p s m c dC dI cI cJ cZ cR eI eJ eZ b L xs) {a : Int32} {off : Int} (hdg : decode cL_law pc = .ok (.if_icmp .eq off, 3)) (ht : (pc : Int) + off = ((849 : Nat) : Int)) (k : W p l e room_1 s m #[Value.ref b] below meth c H locs kc kn Q (F0 m 849 ls rest)) : W p l e room_1 s m #[Value.ref b] below meth c H locs kc kn Q (F0 m pc ls (.int a :: .int a :: rest)) := lv_icmp_eq C0.1.1 C0.1.2.1 hdg ht (fun _ => k) (fun h9 => (h9 rfl).elim)
theorem lc_leq (C0 : lwC p s m c dC dI cI cJ cZ cR eI eJ eZ b L xs) {a : Int64} {off : Int} (hd1 : decode cL_law pc = .ok (.lcmp, 1)) (hd2 : decode cL_law (pc + 1) = .ok (.ifCond .eq off, 3)) (ht : ((pc + 1 : Nat) : Int) + off = ((849 : Nat) : Int)) (k : W p l e room_1 s m #[Value.ref b] below meth c H locs kc kn Q (F0 m 849 ls rest)) : W p l e room_1 s m #[Value.ref b] below meth c H locs kc kn Q (F0 m pc ls (.long a :: .long a :: rest)) := by
  obtain ⟨z, hz, rfl⟩ := iL_of a
  refine wi_lcmp C0.1.1 C0.1.2.1 hz hz hd1 ?_
  have e0 : iC z z = 0 := by unfold iC; rw [if_neg (by omega), if_pos rfl]
  rw [e0]
  exact lv_if_eq C0.1.1 C0.1.2.1 hd2 ht (fun _ => k) (fun h9 => (h9 iI_0.symm).elim)
/-- a number of the script -/
theorem lc_ld (C0 : lwC p s m c dC dI cI cJ cZ cR eI eJ eZ b L xs) (hS : va_S (lwFr s) s.heap H locs) {i k : Nat} {q1 q2 : Nat} (hl : lv_has ls 4 [(0, .ref b), (1, .ref q1), (2, .ref q2), (3, .int (iI (i : Int)))]) {z : Int} (ez : z = (k : Int)) (hk : i + k < L) (d0 : decode cL_law pc = .ok (.aload_n 0, 1)) (d1 : decode cL_law (pc + 1) = .ok (.iload_n 3, 1)) (d2 : decode cL_law (pc + 2) = .ok (.iconst z, 1)) (d3 : decode cL_law (pc + 3) = .ok (.iadd, 1)) (d4 : decode cL_law (pc + 4) = .ok (.iaload, 1)) (kk : W p l e room_1 s m #[Value.ref b] below meth c H locs kc kn Q (F0 m (pc + 5) ls (.int (iI (sc xs (i + k))) :: rest))) : W p l e room_1 s m #[Value.ref b] below meth c H locs kc kn Q (F0 m pc ls rest) := by
  subst ez
  have hx := C0.1.1
  have hb := C0.1.2.1
  have hL := C0.2.1.2.2
  refine lv_aload_n hx hb d0 rfl (lv_at hl 0 rfl) ?_
  refine lv_iload_n hx hb d1 rfl (lv_at hl 3 rfl) ?_
  refine lv_iconst (v := iI (k : Int)) hx hb d2 rfl ?_
  refine wi_iadd hx hb d3 ?_
  refine va_sld hx hb C0.2.1.1 C0.2.1.2.1 (Nat.not_le.mpr C0.2.1.2.1) hS (iI_in (z := (i : Int) + (k : Int)) (by omega) (by omega) (by omega)) d4 ?_
  rw [iI_clamp ⟨by omega, by omega⟩, show ((i : Int) + (k : Int)).toNat = i + k by omega, sc_I xs]
  exact kk
end LW
