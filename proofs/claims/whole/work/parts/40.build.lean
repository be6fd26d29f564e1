-- deps: 30 31 32 33 34 35 36 37 38 39
/-- of each RULE the LEFT side's number is not ahead of the first of its length -/
def ruV (x : KS) : Prop := ∀ j : Nat, (j : Int) < x.1 58 6 → 1 ≤ x.2 60 j ∧ x.2 60 j ≤ x.1 1 3 ∧ x.2 3 (x.2 60 j).toNat ≤ x.2 59 j
theorem ruV_of {S : List (Nat × Nat)} {A : List Nat} {x y : KS} (h : ksame S A x y) (h1 : (58, 6) ∉ S) (h2 : (1, 3) ∉ S) (h3 : 60 ∉ A) (h4 : 3 ∉ A) (h5 : 59 ∉ A) (rv : ruV x) : ruV y := by
  unfold ruV
  rw [h.1 58 6 h1, h.1 1 3 h2, h.2 60 h3, h.2 3 h4, h.2 59 h5]
  exact rv
theorem F_a_keep_s_ok (v : Int) : ∀ (n : Nat) (y : KS) (p i : Int), maR y → y.1 64 7 < 320 → 0 ≤ v → v ≤ 40000 → maR (F_a_keep_s n 0 y v p i).2 := by
  intro n
  induction n with
  | zero => intro y p i h _ _ _; exact h
  | succ n ih =>
    intro y p i h hl h0 h1
    rw [F_a_keep_e0]
    obtain ⟨a1, a2, a3⟩ := h
    split
    · refine ⟨?_, iU_all (P := fun z => 0 ≤ z ∧ z ≤ 40000) ⟨h0, h1⟩ a2, a3⟩
      show 0 ≤ y.1 64 7 + 1 ∧ y.1 64 7 + 1 ≤ 320
      omega
    · exact ih _ _ _ ⟨a1, iU_all (P := fun z => 0 ≤ z ∧ z ≤ 40000) (a2 _) a2, a3⟩ hl h0 h1
theorem F_a_keep_s_n (v : Int) : ∀ (n : Nat) (y : KS) (p i : Int), (F_a_keep_s n 0 y v p i).2.1 64 7 = y.1 64 7 ∨ (F_a_keep_s n 0 y v p i).2.1 64 7 = y.1 64 7 + 1 := by
  intro n
  induction n with
  | zero => intro y p i; exact Or.inl rfl
  | succ n ih =>
    intro y p i
    rw [F_a_keep_e0]
    split
    · exact Or.inr rfl
    · exact ih _ _ _
theorem F_a_keep_ok {x : KS} {v : Int} (ma : maR x) (h0 : 0 ≤ v) (h1 : v ≤ 40000) (hN : x.1 64 7 * x.1 1 2 ≤ 640) : maR (F_a_keep x v).2 ∧ (F_a_keep x v).2.1 64 7 * (F_a_keep x v).2.1 1 2 ≤ 640 := by
  have fr := (F_a_keep_fr x v).1 1 2 (by decide)
  rw [fr]
  have up : ∀ (n : Nat) (p i : Int), (x.1 64 7 + 1) * x.1 1 2 ≤ 640 → 0 ≤ x.1 1 2 → (F_a_keep_s n 0 x v p i).2.1 64 7 * x.1 1 2 ≤ 640 := by
    intro n p i h hn
    rcases F_a_keep_s_n v n x p i with e | e
    · rw [e]; exact hN
    · rw [e]; exact h
  have key : ∀ (n : Nat) (p i : Int), x.1 64 7 < 320 → ¬ 640 < (x.1 64 7 + 1) * x.1 1 2 → maR (F_a_keep_s n 0 x v p i).2 ∧ (F_a_keep_s n 0 x v p i).2.1 64 7 * x.1 1 2 ≤ 640 := by
    intro n p i c1 c2
    refine ⟨F_a_keep_s_ok v n x p i ma c1 h0 h1, ?_⟩
    rcases F_a_keep_s_n v n x p i with e | e
    · rw [e]; exact hN
    · rw [e]; omega
  unfold F_a_keep
  repeat' split
  all_goals first | exact ⟨ma, hN⟩ | exact key _ _ _ (by omega) (by assumption) | (exfalso; omega)
theorem F_u_numberOfBeginning_b {x : KS} {r k : Int} (sx : scX x) (ru : ruR x) (rv : ruV x) (h0 : 0 ≤ r) (h1 : r < x.1 58 6) : 0 ≤ (F_u_numberOfBeginning x r k).1 ∧ (F_u_numberOfBeginning x r k).1 ≤ 40000 := by
  obtain ⟨⟨r0, r1⟩, rn, rl, rr, rc, rd⟩ := ru
  unfold F_u_numberOfBeginning
  rw [if_neg (by omega), if_pos (by omega)]
  have a1 := F_s_firstOf_b sx.1 k
  have a2 := rn r.toNat
  have a3 := rv r.toNat (by omega)
  have a4 := F_s_firstOf_v (x := x) (k := x.2 60 r.toNat) (by omega) a3.2.1
  have a5 := F_s_powerOf_1 sx (x.2 60 r.toNat - k)
  have a6 := F_s_firstOf_b sx.1 (x.2 60 r.toNat)
  have a7 := kdiv_b (a := x.2 59 r.toNat - (F_s_firstOf x (x.2 60 r.toNat)).1) (b := (F_s_powerOf x (x.2 60 r.toNat - k)).1) a5 (by omega)
  show 0 ≤ (F_s_firstOf x k).1 + (x.2 59 r.toNat - (F_s_firstOf x (x.2 60 r.toNat)).1) / (F_s_powerOf x (x.2 60 r.toNat - k)).1 ∧ _
  omega
def F_a_build_s  : Nat → Nat → KS → Int → Int → Int → Int → Int × KS
  | 0, _, x, _, _, _, _ => (0, x)
  | n + 1, t, x, p0, p1, p2, p3 => match t with
    | 0 => (fun (d : Int) => (if ((x).1 (58) 6) ≤ (d) then F_a_build_s n 2 (x) ((0 : Int)) (0) (0) (0) else F_a_build_s n 1 (x) (d) ((F_u_spanOf (x) (d) ((1 : Int))).1) ((1 : Int)) (0))) p0
    | 1 => (fun (d : Int) (g : Int) (k : Int) => (if (g) ≤ (k) then F_a_build_s n 0 (x) ((d) + (1 : Int)) (0) (0) (0) else F_a_build_s n 1 ((F_a_keep (x) ((F_u_numberOfBeginning (x) (d) (k)).1)).2) (d) (g) ((k) + (1 : Int)) (0))) p0 p1 p2
    | 2 => (fun (i : Int) => (if ((x).1 (64) 7) ≤ (i) then (0, x) else F_a_build_s n 3 (x) (i) ((F_s_spanOf (x) (((x).2 (65)) (i).toNat)).1) (((((x).2 (65)) (i).toNat) - ((F_s_firstOf (x) ((F_s_spanOf (x) (((x).2 (65)) (i).toNat)).1)).1)) * ((x).1 (1) 2)) ((0 : Int)))) p0
    | 3 => (fun (i : Int) (g : Int) (b : Int) (z : Int) => (if ((x).1 (1) 2) ≤ (z) then F_a_build_s n 2 (x) ((i) + (1 : Int)) (0) (0) (0) else F_a_build_s n 3 (kA (x) (66) (((i) * ((x).1 (1) 2)) + (z)).toNat ((F_a_endOf (x) ((g) + ((1 : Int))) ((b) + (z))).1)) (i) (g) (b) ((z) + (1 : Int)))) p0 p1 p2 p3
    | _ => (0, x)
theorem F_a_build_e0  (n : Nat) (x : KS) (d : Int) (q0 : Int) (q1 : Int) (q2 : Int) : F_a_build_s (n + 1) 0 x d q0 q1 q2 = (if ((x).1 (58) 6) ≤ (d) then F_a_build_s n 2 (x) ((0 : Int)) (0) (0) (0) else F_a_build_s n 1 (x) (d) ((F_u_spanOf (x) (d) ((1 : Int))).1) ((1 : Int)) (0)) := rfl
theorem F_a_build_e1  (n : Nat) (x : KS) (d : Int) (g : Int) (k : Int) (q0 : Int) : F_a_build_s (n + 1) 1 x d g k q0 = (if (g) ≤ (k) then F_a_build_s n 0 (x) ((d) + (1 : Int)) (0) (0) (0) else F_a_build_s n 1 ((F_a_keep (x) ((F_u_numberOfBeginning (x) (d) (k)).1)).2) (d) (g) ((k) + (1 : Int)) (0)) := rfl
theorem F_a_build_e2  (n : Nat) (x : KS) (i : Int) (q0 : Int) (q1 : Int) (q2 : Int) : F_a_build_s (n + 1) 2 x i q0 q1 q2 = (if ((x).1 (64) 7) ≤ (i) then (0, x) else F_a_build_s n 3 (x) (i) ((F_s_spanOf (x) (((x).2 (65)) (i).toNat)).1) (((((x).2 (65)) (i).toNat) - ((F_s_firstOf (x) ((F_s_spanOf (x) (((x).2 (65)) (i).toNat)).1)).1)) * ((x).1 (1) 2)) ((0 : Int))) := rfl
theorem F_a_build_e3  (n : Nat) (x : KS) (i : Int) (g : Int) (b : Int) (z : Int) : F_a_build_s (n + 1) 3 x i g b z = (if ((x).1 (1) 2) ≤ (z) then F_a_build_s n 2 (x) ((i) + (1 : Int)) (0) (0) (0) else F_a_build_s n 3 (kA (x) (66) (((i) * ((x).1 (1) 2)) + (z)).toNat ((F_a_endOf (x) ((g) + ((1 : Int))) ((b) + (z))).1)) (i) (g) (b) ((z) + (1 : Int))) := rfl
def F_a_build (x : KS)  : Int × KS := F_a_build_s 13000 0 ((F_a_keep (kS (x) (64) 7 ((0 : Int))) ((0 : Int))).2) ((0 : Int)) (0) (0) (0)
set_option maxHeartbeats 4000000 in
set_option maxRecDepth 100000 in
/-- LikeWords$Machine, build -/
theorem c_a_build (l : Launch) (dC : Nat → ClassId) (dI : Nat → Nat → Nat) (ad : Nat → Nat) (cI cJ cZ cR : ClassId) (M wl sz : Nat) (x : KS)  (hM : 87 ≤ M) (sx : scX x) (ru : ruR x) (rv : ruV x) (ma : maR x) : Met l yX3_build wsX3_build ({ frames := 4, cells := 0, slots := 0, locals := 91 }) (kPc dC dI ad cI cJ cZ cR M wl sz x [.ref (ad 64)]) (va_Qv (fun u : KS => u = (F_a_build x).2) (kAt dC dI ad cI cJ cZ cR M wl (va_A (kWd cI cJ cZ cR wl ad M (x)) sz)) (va_A (kWd cI cJ cZ cR wl ad M (x)) sz)) 0 0 (va_A (kWd cI cJ cZ cR wl ad M (x)) sz) := by
  refine Met.ofW (cc := cX3_build) (maxL := 5) (ret := none) (by decide) rfl ?_
  intro p e s m args below meth c s₁ B hml hv
  obtain ⟨rfl, hsz, hP, hK, hD0, hNw⟩ := hv
  have hx := B.exec
  have hb := B.bytes
  have hr := B.returns
  have hts := atoms_spec (ws := wsX3_build) B.pre
  have hown : s.vm.findClass RX3 = some m.cls := findClass_of_methodNamed B.named
  have hlocks := B.notSynchronized
  have hinX3 : ∀ w ∈ u_ws RX3 TX3 10, w ∈ wsX3_build := by decide +kernel
  have hinX7 : ∀ w ∈ u_ws RX7 TX7 7, w ∈ wsX3_build := by decide +kernel
  have hinX8 : ∀ w ∈ u_ws RX8 TX8 4, w ∈ wsX3_build := by decide +kernel
  subst hsz
  have hD := hD0.self (sz := s.heap.size)
  generalize hAe : va_A (kWd cI cJ cZ cR wl ad M (x)) s.heap.size = A at hD ⊢
  have hA : ∀ q : Nat, s.heap.size ≤ q → A q := fun q h => by rw [← hAe]; exact Or.inr h
  have hS : va_S A s.heap s.heap [] := va_S.rf
  have hl := lv_entry ([.ref (ad 64)]) (n := 5) (Nat.le_of_ble_eq_true rfl)
  rw [lg_entry_eq]
  generalize (lg_sl ([.ref (ad 64)]) ++ List.replicate (5 - (lg_sl ([.ref (ad 64)])).length) Slot.unset).toArray = ls at hl ⊢
  have hl : lv_has ls 5 [(0, .ref (ad (64)))] := hl
  have sx0 : scX (kS x 64 7 0) := scX_same rfl rfl rfl sx
  have ma0 : maR (kS x 64 7 0) := ⟨by show (0 : Int) ≤ 0 ∧ (0 : Int) ≤ 320; decide, ma.2⟩
  have k0 := F_a_keep_ok (x := kS x 64 7 0) (v := 0) ma0 (by decide) (by decide) (by show (0 : Int) * _ ≤ 640; omega)
  have L : ∀ n : Nat, (∀ (y : KS) (d : Int), (ksame [(64, 7)] [65, 66] x y) → (maR y) → (y.1 64 7 * y.1 1 2 ≤ 640) → (0 ≤ d) → (d ≤ 40) → (10000 + (40 - d) * 50 + 45 < n) → F_a_build_s n 0 y d 0 0 0 = F_a_build x → ∀ (H : Heap) (locs : List Loc) (ls : Array Slot), va_P (dC, dI) vwCl (kWd cI cJ cZ cR wl ad M (y)) H → va_D A (kWd cI cJ cZ cR wl ad M (y)) → va_S A s.heap H locs → lv_has ls 5 [(0, .ref (ad (64))), (1, .int (iI (d)))] → W p l e (headSpec wsX3_build ({ frames := 4, cells := 0, slots := 0, locals := 91 })).room s m ([.ref (ad 64)] : List Value).toArray below meth c H locs 0 0 (MQ below (va_Qv (fun u : KS => u = (F_a_build x).2) (kAt dC dI ad cI cJ cZ cR M wl A) A) ([.ref (ad 64)] : List Value).toArray s 0 0 A) (F0 m 12 ls [])) ∧ (∀ (y : KS) (d : Int) (g : Int) (k : Int), (ksame [(64, 7)] [65, 66] x y) → (maR y) → (y.1 64 7 * y.1 1 2 ≤ 640) → (0 ≤ d) → (d < y.1 58 6) → (d < 40) → (0 ≤ g) → (g ≤ 20) → (1 ≤ k) → (k ≤ 21) → (10000 + (40 - d) * 50 + 40 - k < n) → F_a_build_s n 1 y d g k 0 = F_a_build x → ∀ (H : Heap) (locs : List Loc) (ls : Array Slot), va_P (dC, dI) vwCl (kWd cI cJ cZ cR wl ad M (y)) H → va_D A (kWd cI cJ cZ cR wl ad M (y)) → va_S A s.heap H locs → lv_has ls 5 [(0, .ref (ad (64))), (1, .int (iI (d))), (2, .int (iI (g))), (3, .int (iI (k)))] → W p l e (headSpec wsX3_build ({ frames := 4, cells := 0, slots := 0, locals := 91 })).room s m ([.ref (ad 64)] : List Value).toArray below meth c H locs 0 0 (MQ below (va_Qv (fun u : KS => u = (F_a_build x).2) (kAt dC dI ad cI cJ cZ cR M wl A) A) ([.ref (ad 64)] : List Value).toArray s 0 0 A) (F0 m 35 ls [])) ∧ (∀ (y : KS) (i : Int), (ksame [(64, 7)] [65, 66] x y) → (maR y) → (y.1 64 7 * y.1 1 2 ≤ 640) → (0 ≤ i) → (i ≤ 320) → ((320 - i) * 10 + 8 < n) → F_a_build_s n 2 y i 0 0 0 = F_a_build x → ∀ (H : Heap) (locs : List Loc) (ls : Array Slot), va_P (dC, dI) vwCl (kWd cI cJ cZ cR wl ad M (y)) H → va_D A (kWd cI cJ cZ cR wl ad M (y)) → va_S A s.heap H locs → lv_has ls 5 [(0, .ref (ad (64))), (1, .int (iI (i)))] → W p l e (headSpec wsX3_build ({ frames := 4, cells := 0, slots := 0, locals := 91 })).room s m ([.ref (ad 64)] : List Value).toArray below meth c H locs 0 0 (MQ below (va_Qv (fun u : KS => u = (F_a_build x).2) (kAt dC dI ad cI cJ cZ cR M wl A) A) ([.ref (ad 64)] : List Value).toArray s 0 0 A) (F0 m 67 ls [])) ∧ (∀ (y : KS) (i : Int) (g : Int) (b : Int) (z : Int), (ksame [(64, 7)] [65, 66] x y) → (maR y) → (y.1 64 7 * y.1 1 2 ≤ 640) → (0 ≤ i) → (i < y.1 64 7) → (i < 320) → (0 ≤ g) → (g ≤ 20) → (0 ≤ b) → (b ≤ 160000) → (0 ≤ z) → (z ≤ 4) → ((320 - i) * 10 + 6 - z < n) → F_a_build_s n 3 y i g b z = F_a_build x → ∀ (H : Heap) (locs : List Loc) (ls : Array Slot), va_P (dC, dI) vwCl (kWd cI cJ cZ cR wl ad M (y)) H → va_D A (kWd cI cJ cZ cR wl ad M (y)) → va_S A s.heap H locs → lv_has ls 5 [(0, .ref (ad (64))), (1, .int (iI (i))), (2, .int (iI (g))), (3, .int (iI (b))), (4, .int (iI (z)))] → W p l e (headSpec wsX3_build ({ frames := 4, cells := 0, slots := 0, locals := 91 })).room s m ([.ref (ad 64)] : List Value).toArray below meth c H locs 0 0 (MQ below (va_Qv (fun u : KS => u = (F_a_build x).2) (kAt dC dI ad cI cJ cZ cR M wl A) A) ([.ref (ad 64)] : List Value).toArray s 0 0 A) (F0 m 116 ls [])) := by
    intro n
    induction n with
    | zero =>
      refine ⟨?_, ?_, ?_, ?_⟩
      · intro y d sm may hN d0 d1 fu hres
        exact absurd fu (by omega)
      · intro y d g k sm may hN d0 d1 d2 g0 g1 k0 k1 fu hres
        exact absurd fu (by omega)
      · intro y i sm may hN i0 i1 fu hres
        exact absurd fu (by omega)
      · intro y i g b z sm may hN i0 i1 i2 g0 g1 b0 b1 z0 z1 fu hres
        exact absurd fu (by omega)
    | succ n ih =>
      refine ⟨?_, ?_, ?_, ?_⟩
      · intro y d sm may hN d0 d1 fu hres H locs ls hP hD hS hl
        rw [F_a_build_e0] at hres
        have sxy := scX_of sm (by decide) (by decide) (by decide) sx
        have ruy := ruR_of sm (by decide) (by decide) (by decide) (by decide) (by decide) (by decide) ru
        have rvy := ruV_of sm (by decide) (by decide) (by decide) (by decide) (by decide) rv
        have may1 := may.1
        have ruy1 := ruy.1
        have l2y := sxy.1.1
        have l3y := sxy.1.2.1
        refine lv_iload_n hx hb dX3_build_12 rfl (lv_at hl 1 rfl) ?_
        refine lv_aload_n hx hb dX3_build_13 rfl (lv_at hl 0 rfl) ?_
        refine va_get (D := (dC, dI)) (ci := 3) (v := .ref (ad (58))) (C := RX3) (T := TX3) (N := 10) hx hb hts hinX3 hown hK hP (64) (kg64 (by omega)) rfl 1 (by decide) (hts (.fieldLink RX3 15 "LikeWords$Machine" "rules" "LLikeWords$Rules;") (by decide +kernel)) (fun _ h9 => h9) rfl dX3_build_14 ?_
        refine va_get (D := (dC, dI)) (ci := 7) (v := .int (iI ((y).1 (58) 6))) (C := RX7) (T := TX7) (N := 7) hx hb hts hinX7 hown hK hP (58) (kg58 (by omega)) rfl 6 (by decide) (hts (.fieldLink RX3 49 "LikeWords$Rules" "held" "I") (by decide +kernel)) (fun _ h9 => h9) rfl dX3_build_17 ?_
        refine wi_icmp_ge (tgt := 65) hx hb (by first | assumption | (unfold iR; omega) | exact kR01 (by assumption)) (by first | assumption | (unfold iR; omega) | exact kR01 (by assumption)) dX3_build_20 (by decide) (fun c_20 => ?_) (fun c_20 => ?_)
        · skip
          rw [if_pos c_20] at hres
          refine lv_iconst (v := iI (0 : Int)) hx hb dX3_build_65 (by decide) ?_
          refine lv_istore_n (lv' := [(1, .int (iI ((0 : Int)))), (0, .ref (ad (64)))]) hx hb dX3_build_66 rfl hl (by decide) rfl (fun ls hl => ?_)
          exact ih.2.2.1 (y) ((0 : Int)) (sm) (may) (hN) (by omega) (by omega) (by omega) hres _ _ ls hP hD hS (lv_sub hl [1, 0] rfl)
        · skip
          rw [if_neg c_20] at hres
          refine lv_aload_n hx hb dX3_build_23 rfl (lv_at hl 0 rfl) ?_
          refine va_get (D := (dC, dI)) (ci := 3) (v := .ref (ad (58))) (C := RX3) (T := TX3) (N := 10) hx hb hts hinX3 hown hK hP (64) (kg64 (by omega)) rfl 1 (by decide) (hts (.fieldLink RX3 15 "LikeWords$Machine" "rules" "LLikeWords$Rules;") (by decide +kernel)) (fun _ h9 => h9) rfl dX3_build_24 ?_
          refine lv_iload_n hx hb dX3_build_27 rfl (lv_at hl 1 rfl) ?_
          refine lv_iconst (v := iI (1 : Int)) hx hb dX3_build_28 (by decide) ?_
          have hFc : ∀ q, va_A (kWd cI cJ cZ cR wl ad M (y)) H.size q → A q := fun q hq => Or.elim hq (fun ⟨k, e, hk⟩ => hD.2 k (q, e) hk) (fun hk => hA q (Nat.le_trans hS.1 hk))
          refine va_calli (va_runV (b := ad (58)) (As := [.int (iI (d)), .int (iI ((1 : Int)))]) (rest := []) ⟨hx, hb, hml, hown, hts⟩ (c_u_spanOf l dC dI ad cI cJ cZ cR M wl H.size (y)  (d) ((1 : Int)) hM (by unfold iR; omega) (Or.inr rfl)) (cwV 2 hts gX3_build_X7_spanOf rfl rfl rfl (by decide +kernel) ⟨Nat.le_of_ble_eq_true rfl, Nat.le_of_ble_eq_true rfl⟩) ⟨fun a U g mk q => by obtain ⟨q0, q1, qP, qK, qD, qN⟩ := q; exact ⟨q0, q1, qP, va_K.moved (u := U) (U := U.calling g mk a) (Vm.Alike.refl U.vm) qK, qD, kNw.same (u := U) (U := U.calling g mk a) rfl qN⟩, va_recv hK hP (ci := 7) (q0 := 58) rfl (kg58 (by omega)), fun U hU hW => ⟨rfl, by rw [hU], by rw [hU]; exact hP, va_K.moved hW.alike hK, hD.weaken (fun _ _ _ _ => trivial), kNw.warm hW hNw⟩⟩ rfl rfl hl.1 rfl (lv_room (Nat.le_of_ble_eq_true rfl)) dX3_build_29 ⟨Nat.le_of_ble_eq_true rfl, Nat.le_of_ble_eq_true rfl⟩) hS (fun q _ h => hFc q h) hFc (fun r9 u9 t H1 locs ht hvm hw hB hz1 hk1 hS => ?_)
          obtain ⟨hP1, hK1, hD1⟩ := hB
          rw [ht] at hP1
          obtain ⟨hw1, hw2⟩ := hw
          rw [hw2] at hP1 hD1
          rw [hw1]
          rw [F_u_spanOf_2] at hP1 hD1
          have hD2 := hD1.weaken (B := A) (fun _ q _ h => hFc q.1 h)
          have hP := hP1
          have hD := hD2
          generalize H1 = H at hP hS ⊢
          have spb : 0 ≤ (F_u_spanOf y d 1).1 ∧ (F_u_spanOf y d 1).1 ≤ 20 := F_u_spanOf_b ruy _ _
          refine lv_istore_n (lv' := [(2, .int (iI ((F_u_spanOf (y) (d) ((1 : Int))).1))), (0, .ref (ad (64))), (1, .int (iI (d)))]) hx hb dX3_build_32 rfl hl (by decide) rfl (fun ls hl => ?_)
          refine lv_iconst (v := iI (1 : Int)) hx hb dX3_build_33 (by decide) ?_
          refine lv_istore_n (lv' := [(3, .int (iI ((1 : Int)))), (2, .int (iI ((F_u_spanOf (y) (d) ((1 : Int))).1))), (0, .ref (ad (64))), (1, .int (iI (d)))]) hx hb dX3_build_34 rfl hl (by decide) rfl (fun ls hl => ?_)
          exact ih.2.1 (y) (d) ((F_u_spanOf (y) (d) ((1 : Int))).1) ((1 : Int)) (sm) (may) (hN) (by omega) (by omega) (by omega) (by omega) (by omega) (by omega) (by omega) (by omega) hres _ _ ls hP hD hS (lv_sub hl [2, 3, 1, 0] rfl)
      · intro y d g k sm may hN d0 d1 d2 g0 g1 k0 k1 fu hres H locs ls hP hD hS hl
        rw [F_a_build_e1] at hres
        have sxy := scX_of sm (by decide) (by decide) (by decide) sx
        have ruy := ruR_of sm (by decide) (by decide) (by decide) (by decide) (by decide) (by decide) ru
        have rvy := ruV_of sm (by decide) (by decide) (by decide) (by decide) (by decide) rv
        have may1 := may.1
        have ruy1 := ruy.1
        have l2y := sxy.1.1
        have l3y := sxy.1.2.1
        refine lv_iload_n hx hb dX3_build_35 rfl (lv_at hl 3 rfl) ?_
        refine lv_iload_n hx hb dX3_build_36 rfl (lv_at hl 2 rfl) ?_
        refine wi_icmp_ge (tgt := 59) hx hb (by first | assumption | (unfold iR; omega) | exact kR01 (by assumption)) (by first | assumption | (unfold iR; omega) | exact kR01 (by assumption)) dX3_build_37 (by decide) (fun c_37 => ?_) (fun c_37 => ?_)
        · skip
          rw [if_pos c_37] at hres
          refine lv_iinc (v := iI ((d) + (1 : Int))) (lv' := [(1, .int (iI ((d) + (1 : Int)))), (0, .ref (ad (64))), (2, .int (iI (g))), (3, .int (iI (k)))]) hx hb dX3_build_59 hl (k := 1) rfl (iI_add _ _) (by decide) rfl (fun ls hl => ?_)
          refine lv_goto (tgt := 12) hx hb dX3_build_62 (by decide) ?_
          exact ih.1 (y) ((d) + (1 : Int)) (sm) (may) (hN) (by omega) (by omega) (by omega) hres _ _ ls hP hD hS (lv_sub hl [1, 0] rfl)
        · skip
          rw [if_neg c_37] at hres
          refine lv_aload_n hx hb dX3_build_40 rfl (lv_at hl 0 rfl) ?_
          refine lv_aload_n hx hb dX3_build_41 rfl (lv_at hl 0 rfl) ?_
          refine va_get (D := (dC, dI)) (ci := 3) (v := .ref (ad (58))) (C := RX3) (T := TX3) (N := 10) hx hb hts hinX3 hown hK hP (64) (kg64 (by omega)) rfl 1 (by decide) (hts (.fieldLink RX3 15 "LikeWords$Machine" "rules" "LLikeWords$Rules;") (by decide +kernel)) (fun _ h9 => h9) rfl dX3_build_42 ?_
          refine lv_iload_n hx hb dX3_build_45 rfl (lv_at hl 1 rfl) ?_
          refine lv_iload_n hx hb dX3_build_46 rfl (lv_at hl 3 rfl) ?_
          have rj := rvy d.toNat (by omega)
          have hFc : ∀ q, va_A (kWd cI cJ cZ cR wl ad M (y)) H.size q → A q := fun q hq => Or.elim hq (fun ⟨k, e, hk⟩ => hD.2 k (q, e) hk) (fun hk => hA q (Nat.le_trans hS.1 hk))
          refine va_calli (va_runV (b := ad (58)) (As := [.int (iI (d)), .int (iI (k))]) (rest := [.ref (ad (64))]) ⟨hx, hb, hml, hown, hts⟩ (c_u_numberOfBeginning l dC dI ad cI cJ cZ cR M wl H.size (y)  (d) (k) hM (by unfold iR; omega) sxy ruy (by omega) (by omega) (by rw [F_s_firstOf_v (by omega) rj.2.1]; exact rj.2.2)) (cwV 2 hts gX3_build_X7_numberOfBeginning rfl rfl rfl (by decide +kernel) ⟨Nat.le_of_ble_eq_true rfl, Nat.le_of_ble_eq_true rfl⟩) ⟨fun a U g mk q => by obtain ⟨q0, q1, qP, qK, qD, qN⟩ := q; exact ⟨q0, q1, qP, va_K.moved (u := U) (U := U.calling g mk a) (Vm.Alike.refl U.vm) qK, qD, kNw.same (u := U) (U := U.calling g mk a) rfl qN⟩, va_recv hK hP (ci := 7) (q0 := 58) rfl (kg58 (by omega)), fun U hU hW => ⟨rfl, by rw [hU], by rw [hU]; exact hP, va_K.moved hW.alike hK, hD.weaken (fun _ _ _ _ => trivial), kNw.warm hW hNw⟩⟩ rfl rfl hl.1 rfl (lv_room (Nat.le_of_ble_eq_true rfl)) dX3_build_47 ⟨Nat.le_of_ble_eq_true rfl, Nat.le_of_ble_eq_true rfl⟩) hS (fun q _ h => hFc q h) hFc (fun r9 u9 t H1 locs ht hvm hw hB hz1 hk1 hS => ?_)
          obtain ⟨hP1, hK1, hD1⟩ := hB
          rw [ht] at hP1
          obtain ⟨hw1, hw2⟩ := hw
          rw [hw2] at hP1 hD1
          rw [hw1]
          rw [F_u_numberOfBeginning_2] at hP1 hD1
          have hD2 := hD1.weaken (B := A) (fun _ q _ h => hFc q.1 h)
          have hP := hP1
          have hD := hD2
          generalize H1 = H at hP hS ⊢
          have nb := F_u_numberOfBeginning_b (k := k) sxy ruy rvy d0 (by omega)
          have hFc : ∀ q, va_A (kWd cI cJ cZ cR wl ad M (y)) H.size q → A q := fun q hq => Or.elim hq (fun ⟨k, e, hk⟩ => hD.2 k (q, e) hk) (fun hk => hA q (Nat.le_trans hS.1 hk))
          refine va_callv (va_runV (b := ad (64)) (As := [.int (iI ((F_u_numberOfBeginning (y) (d) (k)).1))]) (rest := []) ⟨hx, hb, hml, hown, hts⟩ (c_a_keep l dC dI ad cI cJ cZ cR M wl H.size (y)  ((F_u_numberOfBeginning (y) (d) (k)).1) hM (by unfold iR; omega) may l2y) (cwV 1 hts gX3_build_X3_keep rfl rfl rfl (by decide +kernel) ⟨Nat.le_of_ble_eq_true rfl, Nat.le_of_ble_eq_true rfl⟩) ⟨fun a U g mk q => by obtain ⟨q0, q1, qP, qK, qD, qN⟩ := q; exact ⟨q0, q1, qP, va_K.moved (u := U) (U := U.calling g mk a) (Vm.Alike.refl U.vm) qK, qD, kNw.same (u := U) (U := U.calling g mk a) rfl qN⟩, va_recv hK hP (ci := 3) (q0 := 64) rfl (kg64 (by omega)), fun U hU hW => ⟨rfl, by rw [hU], by rw [hU]; exact hP, va_K.moved hW.alike hK, hD.weaken (fun _ _ _ _ => trivial), kNw.warm hW hNw⟩⟩ rfl rfl hl.1 rfl (lv_room (Nat.le_of_ble_eq_true rfl)) dX3_build_50 ⟨Nat.le_of_ble_eq_true rfl, Nat.le_of_ble_eq_true rfl⟩) hS (fun q _ h => hFc q h) hFc (fun u9 t H1 locs ht hvm hw hB hz1 hk1 hS => ?_)
          obtain ⟨hP1, hK1, hD1⟩ := hB
          rw [ht] at hP1
          rw [hw] at hP1 hD1
          have hD2 := hD1.weaken (B := A) (fun _ q _ h => hFc q.1 h)
          have hP := hP1
          have hD := hD2
          generalize H1 = H at hP hS ⊢
          refine lv_iinc (v := iI ((k) + (1 : Int))) (lv' := [(3, .int (iI ((k) + (1 : Int)))), (0, .ref (ad (64))), (1, .int (iI (d))), (2, .int (iI (g)))]) hx hb dX3_build_53 hl (k := 3) rfl (iI_add _ _) (by decide) rfl (fun ls hl => ?_)
          refine lv_goto (tgt := 35) hx hb dX3_build_56 (by decide) ?_
          exact ih.2.1 ((F_a_keep (y) ((F_u_numberOfBeginning (y) (d) (k)).1)).2) (d) (g) ((k) + (1 : Int)) ((km_tr sm (km_mono (by decide) (by decide) (F_a_keep_fr _ _)))) ((F_a_keep_ok may nb.1 nb.2 hN).1) ((F_a_keep_ok may nb.1 nb.2 hN).2) (by omega) (by rw [(F_a_keep_fr y _).1 58 6 (by decide)]; omega) (by omega) (by omega) (by omega) (by omega) (by omega) (by omega) hres _ _ ls hP hD hS (lv_sub hl [1, 2, 3, 0] rfl)
      · intro y i sm may hN i0 i1 fu hres H locs ls hP hD hS hl
        rw [F_a_build_e2] at hres
        have sxy := scX_of sm (by decide) (by decide) (by decide) sx
        have ruy := ruR_of sm (by decide) (by decide) (by decide) (by decide) (by decide) (by decide) ru
        have rvy := ruV_of sm (by decide) (by decide) (by decide) (by decide) (by decide) rv
        have may1 := may.1
        have ruy1 := ruy.1
        have l2y := sxy.1.1
        have l3y := sxy.1.2.1
        refine lv_iload_n hx hb dX3_build_67 rfl (lv_at hl 1 rfl) ?_
        refine lv_aload_n hx hb dX3_build_68 rfl (lv_at hl 0 rfl) ?_
        refine va_get (D := (dC, dI)) (ci := 3) (v := .int (iI ((y).1 (64) 7))) (C := RX3) (T := TX3) (N := 10) hx hb hts hinX3 hown hK hP (64) (kg64 (by omega)) rfl 7 (by decide) (hts (.fieldLink RX3 36 "LikeWords$Machine" "held" "I") (by decide +kernel)) (fun _ h9 => h9) rfl dX3_build_69 ?_
        refine wi_icmp_ge (tgt := 168) hx hb (by first | assumption | (unfold iR; omega) | exact kR01 (by assumption)) (by first | assumption | (unfold iR; omega) | exact kR01 (by assumption)) dX3_build_72 (by decide) (fun c_72 => ?_) (fun c_72 => ?_)
        · skip
          rw [if_pos c_72] at hres
          exact W.vret hx hb hr (fun t ht hW => ⟨⟨y, rfl, (by have h9 := congrArg (fun z : Int × KS => z.2) hres; exact h9), by rw [ht]; exact hP, va_K.moved hW.alike hK, hD⟩, hS.F ht⟩) hS.2.2 dX3_build_168
        · skip
          rw [if_neg c_72] at hres
          refine lv_aload_n hx hb dX3_build_75 rfl (lv_at hl 0 rfl) ?_
          refine va_get (D := (dC, dI)) (ci := 3) (v := .ref (ad (1))) (C := RX3) (T := TX3) (N := 10) hx hb hts hinX3 hown hK hP (64) (kg64 (by omega)) rfl 0 (by decide) (hts (.fieldLink RX3 9 "LikeWords$Machine" "scale" "LLikeWords$Scale;") (by decide +kernel)) (fun _ h9 => h9) rfl dX3_build_76 ?_
          refine lv_aload_n hx hb dX3_build_79 rfl (lv_at hl 0 rfl) ?_
          refine va_get (D := (dC, dI)) (ci := 3) (v := .ref (ad (65))) (C := RX3) (T := TX3) (N := 10) hx hb hts hinX3 hown hK hP (64) (kg64 (by omega)) rfl 2 (by decide) (hts (.fieldLink RX3 19 "LikeWords$Machine" "numbers" "[I") (by decide +kernel)) (fun _ h9 => h9) rfl dX3_build_80 ?_
          refine lv_iload_n hx hb dX3_build_83 rfl (lv_at hl 1 rfl) ?_
          refine wi_iald (f := (y).2 (65)) (n := kLen (65)) hx hb hK hP (65) 0 (kgi kC65 (by omega) rfl) rfl (i := i) (by omega) (by show _ < ((320 : Nat) : Int); exact (by omega)) (kLen_lt _) dX3_build_84 ?_
          have hFc : ∀ q, va_A (kWd cI cJ cZ cR wl ad M (y)) H.size q → A q := fun q hq => Or.elim hq (fun ⟨k, e, hk⟩ => hD.2 k (q, e) hk) (fun hk => hA q (Nat.le_trans hS.1 hk))
          refine va_calli (va_runV (b := ad (1)) (As := [.int (iI (((y).2 (65)) (i).toNat))]) (rest := []) ⟨hx, hb, hml, hown, hts⟩ (c_s_spanOf l dC dI ad cI cJ cZ cR M wl H.size (y)  (((y).2 (65)) (i).toNat) hM sxy.1 (by have := may.2.1 i.toNat; unfold iR; omega)) (cwV 1 hts gX3_build_X8_spanOf rfl rfl rfl (by decide +kernel) ⟨Nat.le_of_ble_eq_true rfl, Nat.le_of_ble_eq_true rfl⟩) ⟨fun a U g mk q => by obtain ⟨q0, q1, qP, qK, qD, qN⟩ := q; exact ⟨q0, q1, qP, va_K.moved (u := U) (U := U.calling g mk a) (Vm.Alike.refl U.vm) qK, qD, kNw.same (u := U) (U := U.calling g mk a) rfl qN⟩, va_recv hK hP (ci := 8) (q0 := 1) rfl (kg1 (by omega)), fun U hU hW => ⟨rfl, by rw [hU], by rw [hU]; exact hP, va_K.moved hW.alike hK, hD.weaken (fun _ _ _ _ => trivial), kNw.warm hW hNw⟩⟩ rfl rfl hl.1 rfl (lv_room (Nat.le_of_ble_eq_true rfl)) dX3_build_85 ⟨Nat.le_of_ble_eq_true rfl, Nat.le_of_ble_eq_true rfl⟩) hS (fun q _ h => hFc q h) hFc (fun r9 u9 t H1 locs ht hvm hw hB hz1 hk1 hS => ?_)
          obtain ⟨hP1, hK1, hD1⟩ := hB
          rw [ht] at hP1
          obtain ⟨hw1, hw2⟩ := hw
          rw [hw2] at hP1 hD1
          rw [hw1]
          rw [F_s_spanOf_2] at hP1 hD1
          have hD2 := hD1.weaken (B := A) (fun _ q _ h => hFc q.1 h)
          have hP := hP1
          have hD := hD2
          generalize H1 = H at hP hS ⊢
          have nu := may.2.1 i.toNat
          have sb := F_s_spanOf_b sxy.1 nu.1
          refine lv_istore_n (lv' := [(2, .int (iI ((F_s_spanOf (y) (((y).2 (65)) (i).toNat)).1))), (0, .ref (ad (64))), (1, .int (iI (i)))]) hx hb dX3_build_88 rfl hl (by decide) rfl (fun ls hl => ?_)
          refine lv_aload_n hx hb dX3_build_89 rfl (lv_at hl 1 rfl) ?_
          refine va_get (D := (dC, dI)) (ci := 3) (v := .ref (ad (65))) (C := RX3) (T := TX3) (N := 10) hx hb hts hinX3 hown hK hP (64) (kg64 (by omega)) rfl 2 (by decide) (hts (.fieldLink RX3 19 "LikeWords$Machine" "numbers" "[I") (by decide +kernel)) (fun _ h9 => h9) rfl dX3_build_90 ?_
          refine lv_iload_n hx hb dX3_build_93 rfl (lv_at hl 2 rfl) ?_
          refine wi_iald (f := (y).2 (65)) (n := kLen (65)) hx hb hK hP (65) 0 (kgi kC65 (by omega) rfl) rfl (i := i) (by omega) (by show _ < ((320 : Nat) : Int); exact (by omega)) (kLen_lt _) dX3_build_94 ?_
          refine lv_aload_n hx hb dX3_build_95 rfl (lv_at hl 1 rfl) ?_
          refine va_get (D := (dC, dI)) (ci := 3) (v := .ref (ad (1))) (C := RX3) (T := TX3) (N := 10) hx hb hts hinX3 hown hK hP (64) (kg64 (by omega)) rfl 0 (by decide) (hts (.fieldLink RX3 9 "LikeWords$Machine" "scale" "LLikeWords$Scale;") (by decide +kernel)) (fun _ h9 => h9) rfl dX3_build_96 ?_
          refine lv_iload_n hx hb dX3_build_99 rfl (lv_at hl 0 rfl) ?_
          have hFc : ∀ q, va_A (kWd cI cJ cZ cR wl ad M (y)) H.size q → A q := fun q hq => Or.elim hq (fun ⟨k, e, hk⟩ => hD.2 k (q, e) hk) (fun hk => hA q (Nat.le_trans hS.1 hk))
          refine va_calli (va_runV (b := ad (1)) (As := [.int (iI ((F_s_spanOf (y) (((y).2 (65)) (i).toNat)).1))]) (rest := [.int (iI (((y).2 (65)) (i).toNat))]) ⟨hx, hb, hml, hown, hts⟩ (c_s_firstOf l dC dI ad cI cJ cZ cR M wl H.size (y)  ((F_s_spanOf (y) (((y).2 (65)) (i).toNat)).1) hM sxy.1 (by unfold iR; omega)) (cwV 1 hts gX3_build_X8_firstOf rfl rfl rfl (by decide +kernel) ⟨Nat.le_of_ble_eq_true rfl, Nat.le_of_ble_eq_true rfl⟩) ⟨fun a U g mk q => by obtain ⟨q0, q1, qP, qK, qD, qN⟩ := q; exact ⟨q0, q1, qP, va_K.moved (u := U) (U := U.calling g mk a) (Vm.Alike.refl U.vm) qK, qD, kNw.same (u := U) (U := U.calling g mk a) rfl qN⟩, va_recv hK hP (ci := 8) (q0 := 1) rfl (kg1 (by omega)), fun U hU hW => ⟨rfl, by rw [hU], by rw [hU]; exact hP, va_K.moved hW.alike hK, hD.weaken (fun _ _ _ _ => trivial), kNw.warm hW hNw⟩⟩ rfl rfl hl.1 rfl (lv_room (Nat.le_of_ble_eq_true rfl)) dX3_build_100 ⟨Nat.le_of_ble_eq_true rfl, Nat.le_of_ble_eq_true rfl⟩) hS (fun q _ h => hFc q h) hFc (fun r9 u9 t H1 locs ht hvm hw hB hz1 hk1 hS => ?_)
          obtain ⟨hP1, hK1, hD1⟩ := hB
          rw [ht] at hP1
          obtain ⟨hw1, hw2⟩ := hw
          rw [hw2] at hP1 hD1
          rw [hw1]
          rw [F_s_firstOf_2] at hP1 hD1
          have hD2 := hD1.weaken (B := A) (fun _ q _ h => hFc q.1 h)
          have hP := hP1
          have hD := hD2
          generalize H1 = H at hP hS ⊢
          have fv := F_s_firstOf_v sb.1 sb.2.1
          have bc := Int.mul_nonneg (show 0 ≤ y.2 65 i.toNat - (F_s_firstOf y (F_s_spanOf y (y.2 65 i.toNat)).1).1 by omega) (show 0 ≤ y.1 1 2 by omega)
          have bd : (y.2 65 i.toNat - (F_s_firstOf y (F_s_spanOf y (y.2 65 i.toNat)).1).1) * y.1 1 2 ≤ 40000 * 4 := Int.mul_le_mul (by have := F_s_firstOf_b sxy.1 (F_s_spanOf y (y.2 65 i.toNat)).1; omega) l2y.2 (by omega) (by omega)
          refine wi_isub hx hb dX3_build_103 ?_
          refine lv_aload_n hx hb dX3_build_104 rfl (lv_at hl 1 rfl) ?_
          refine va_get (D := (dC, dI)) (ci := 3) (v := .ref (ad (1))) (C := RX3) (T := TX3) (N := 10) hx hb hts hinX3 hown hK hP (64) (kg64 (by omega)) rfl 0 (by decide) (hts (.fieldLink RX3 9 "LikeWords$Machine" "scale" "LLikeWords$Scale;") (by decide +kernel)) (fun _ h9 => h9) rfl dX3_build_105 ?_
          refine va_get (D := (dC, dI)) (ci := 8) (v := .int (iI ((y).1 (1) 2))) (C := RX8) (T := TX8) (N := 4) hx hb hts hinX8 hown hK hP (1) (kg1 (by omega)) rfl 2 (by decide) (hts (.fieldLink RX3 40 "LikeWords$Scale" "letterCount" "I") (by decide +kernel)) (fun _ h9 => h9) rfl dX3_build_108 ?_
          refine wi_imul hx hb dX3_build_111 ?_
          refine lv_istore_n (lv' := [(3, .int (iI (((((y).2 (65)) (i).toNat) - ((F_s_firstOf (y) ((F_s_spanOf (y) (((y).2 (65)) (i).toNat)).1)).1)) * ((y).1 (1) 2)))), (2, .int (iI ((F_s_spanOf (y) (((y).2 (65)) (i).toNat)).1))), (0, .ref (ad (64))), (1, .int (iI (i)))]) hx hb dX3_build_112 rfl hl (by decide) rfl (fun ls hl => ?_)
          refine lv_iconst (v := iI (0 : Int)) hx hb dX3_build_113 (by decide) ?_
          refine lv_istore (lv' := [(4, .int (iI ((0 : Int)))), (3, .int (iI (((((y).2 (65)) (i).toNat) - ((F_s_firstOf (y) ((F_s_spanOf (y) (((y).2 (65)) (i).toNat)).1)).1)) * ((y).1 (1) 2)))), (2, .int (iI ((F_s_spanOf (y) (((y).2 (65)) (i).toNat)).1))), (0, .ref (ad (64))), (1, .int (iI (i)))]) hx hb dX3_build_114 hl (by decide) rfl (fun ls hl => ?_)
          exact ih.2.2.2 (y) (i) ((F_s_spanOf (y) (((y).2 (65)) (i).toNat)).1) (((((y).2 (65)) (i).toNat) - ((F_s_firstOf (y) ((F_s_spanOf (y) (((y).2 (65)) (i).toNat)).1)).1)) * ((y).1 (1) 2)) ((0 : Int)) (sm) (may) (hN) (by omega) (by first | (show i < y.1 64 7; omega) | omega) (by omega) (by omega) (by omega) (by omega) (by omega) (by omega) (by omega) (by omega) hres _ _ ls hP hD hS (lv_sub hl [3, 4, 2, 1, 0] rfl)
      · intro y i g b z sm may hN i0 i1 i2 g0 g1 b0 b1 z0 z1 fu hres H locs ls hP hD hS hl
        rw [F_a_build_e3] at hres
        have sxy := scX_of sm (by decide) (by decide) (by decide) sx
        have ruy := ruR_of sm (by decide) (by decide) (by decide) (by decide) (by decide) (by decide) ru
        have rvy := ruV_of sm (by decide) (by decide) (by decide) (by decide) (by decide) rv
        have may1 := may.1
        have ruy1 := ruy.1
        have l2y := sxy.1.1
        have l3y := sxy.1.2.1
        refine lv_iload hx hb dX3_build_116 (lv_at hl 4 rfl) ?_
        refine lv_aload_n hx hb dX3_build_118 rfl (lv_at hl 0 rfl) ?_
        refine va_get (D := (dC, dI)) (ci := 3) (v := .ref (ad (1))) (C := RX3) (T := TX3) (N := 10) hx hb hts hinX3 hown hK hP (64) (kg64 (by omega)) rfl 0 (by decide) (hts (.fieldLink RX3 9 "LikeWords$Machine" "scale" "LLikeWords$Scale;") (by decide +kernel)) (fun _ h9 => h9) rfl dX3_build_119 ?_
        refine va_get (D := (dC, dI)) (ci := 8) (v := .int (iI ((y).1 (1) 2))) (C := RX8) (T := TX8) (N := 4) hx hb hts hinX8 hown hK hP (1) (kg1 (by omega)) rfl 2 (by decide) (hts (.fieldLink RX3 40 "LikeWords$Scale" "letterCount" "I") (by decide +kernel)) (fun _ h9 => h9) rfl dX3_build_122 ?_
        refine wi_icmp_ge (tgt := 162) hx hb (by first | assumption | (unfold iR; omega) | exact kR01 (by assumption)) (by first | assumption | (unfold iR; omega) | exact kR01 (by assumption)) dX3_build_125 (by decide) (fun c_125 => ?_) (fun c_125 => ?_)
        · skip
          rw [if_pos c_125] at hres
          refine lv_iinc (v := iI ((i) + (1 : Int))) (lv' := [(1, .int (iI ((i) + (1 : Int)))), (0, .ref (ad (64))), (2, .int (iI (g))), (3, .int (iI (b))), (4, .int (iI (z)))]) hx hb dX3_build_162 hl (k := 1) rfl (iI_add _ _) (by decide) rfl (fun ls hl => ?_)
          refine lv_goto (tgt := 67) hx hb dX3_build_165 (by decide) ?_
          exact ih.2.2.1 (y) ((i) + (1 : Int)) (sm) (may) (hN) (by omega) (by omega) (by omega) hres _ _ ls hP hD hS (lv_sub hl [1, 0] rfl)
        · skip
          rw [if_neg c_125] at hres
          refine lv_aload_n hx hb dX3_build_128 rfl (lv_at hl 0 rfl) ?_
          refine va_get (D := (dC, dI)) (ci := 3) (v := .ref (ad (66))) (C := RX3) (T := TX3) (N := 10) hx hb hts hinX3 hown hK hP (64) (kg64 (by omega)) rfl 3 (by decide) (hts (.fieldLink RX3 23 "LikeWords$Machine" "steps" "[I") (by decide +kernel)) (fun _ h9 => h9) rfl dX3_build_129 ?_
          refine lv_iload_n hx hb dX3_build_132 rfl (lv_at hl 1 rfl) ?_
          refine lv_aload_n hx hb dX3_build_133 rfl (lv_at hl 0 rfl) ?_
          refine va_get (D := (dC, dI)) (ci := 3) (v := .ref (ad (1))) (C := RX3) (T := TX3) (N := 10) hx hb hts hinX3 hown hK hP (64) (kg64 (by omega)) rfl 0 (by decide) (hts (.fieldLink RX3 9 "LikeWords$Machine" "scale" "LLikeWords$Scale;") (by decide +kernel)) (fun _ h9 => h9) rfl dX3_build_134 ?_
          refine va_get (D := (dC, dI)) (ci := 8) (v := .int (iI ((y).1 (1) 2))) (C := RX8) (T := TX8) (N := 4) hx hb hts hinX8 hown hK hP (1) (kg1 (by omega)) rfl 2 (by decide) (hts (.fieldLink RX3 40 "LikeWords$Scale" "letterCount" "I") (by decide +kernel)) (fun _ h9 => h9) rfl dX3_build_137 ?_
          refine wi_imul hx hb dX3_build_140 ?_
          refine lv_iload hx hb dX3_build_141 (lv_at hl 4 rfl) ?_
          refine wi_iadd hx hb dX3_build_143 ?_
          refine lv_aload_n hx hb dX3_build_144 rfl (lv_at hl 0 rfl) ?_
          refine lv_iload_n hx hb dX3_build_145 rfl (lv_at hl 2 rfl) ?_
          refine lv_iconst (v := iI (1 : Int)) hx hb dX3_build_146 (by decide) ?_
          refine wi_iadd hx hb dX3_build_147 ?_
          refine lv_iload_n hx hb dX3_build_148 rfl (lv_at hl 3 rfl) ?_
          refine lv_iload hx hb dX3_build_149 (lv_at hl 4 rfl) ?_
          refine wi_iadd hx hb dX3_build_151 ?_
          have eb := F_a_endOf_b ruy may (g + 1) (b + z)
          have ig := Int.mul_le_mul_of_nonneg_right (show i + 1 ≤ y.1 64 7 by omega) (show 0 ≤ y.1 1 2 by omega)
          rw [Int.add_mul, Int.one_mul] at ig
          have ih0 := Int.mul_nonneg i0 (show 0 ≤ y.1 1 2 by omega)
          have hFc : ∀ q, va_A (kWd cI cJ cZ cR wl ad M (y)) H.size q → A q := fun q hq => Or.elim hq (fun ⟨k, e, hk⟩ => hD.2 k (q, e) hk) (fun hk => hA q (Nat.le_trans hS.1 hk))
          refine va_calli (va_runV (b := ad (64)) (As := [.int (iI ((g) + ((1 : Int)))), .int (iI ((b) + (z)))]) (rest := [.int (iI (((i) * ((y).1 (1) 2)) + (z))), .ref (ad (66))]) ⟨hx, hb, hml, hown, hts⟩ (c_a_endOf l dC dI ad cI cJ cZ cR M wl H.size (y)  ((g) + ((1 : Int))) ((b) + (z)) hM sxy ruy may (by omega) (by omega) (by omega) (by omega)) (cwV 2 hts gX3_build_X3_endOf rfl rfl rfl (by decide +kernel) ⟨Nat.le_of_ble_eq_true rfl, Nat.le_of_ble_eq_true rfl⟩) ⟨fun a U g mk q => by obtain ⟨q0, q1, qP, qK, qD, qN⟩ := q; exact ⟨q0, q1, qP, va_K.moved (u := U) (U := U.calling g mk a) (Vm.Alike.refl U.vm) qK, qD, kNw.same (u := U) (U := U.calling g mk a) rfl qN⟩, va_recv hK hP (ci := 3) (q0 := 64) rfl (kg64 (by omega)), fun U hU hW => ⟨rfl, by rw [hU], by rw [hU]; exact hP, va_K.moved hW.alike hK, hD.weaken (fun _ _ _ _ => trivial), kNw.warm hW hNw⟩⟩ rfl rfl hl.1 rfl (lv_room (Nat.le_of_ble_eq_true rfl)) dX3_build_152 ⟨Nat.le_of_ble_eq_true rfl, Nat.le_of_ble_eq_true rfl⟩) hS (fun q _ h => hFc q h) hFc (fun r9 u9 t H1 locs ht hvm hw hB hz1 hk1 hS => ?_)
          obtain ⟨hP1, hK1, hD1⟩ := hB
          rw [ht] at hP1
          obtain ⟨hw1, hw2⟩ := hw
          rw [hw2] at hP1 hD1
          rw [hw1]
          rw [F_a_endOf_2] at hP1 hD1
          have hD2 := hD1.weaken (B := A) (fun _ q _ h => hFc q.1 h)
          have hP := hP1
          have hD := hD2
          generalize H1 = H at hP hS ⊢
          refine wi_iast (f := (y).2 (66)) (n := kLen (66)) hx hb hK hP hD hS (66) 0 (kgi kC66 (by omega) rfl) rfl (i := ((i) * ((y).1 (1) 2)) + (z)) (x := (F_a_endOf (y) ((g) + ((1 : Int))) ((b) + (z))).1) (by omega) (by show _ < ((640 : Nat) : Int); exact (by omega)) (kLen_lt _) dX3_build_155 (fun H locs hP hD hS => ?_)
          rw [ksi kC66] at hP hD
          refine lv_iinc (v := iI ((z) + (1 : Int))) (lv' := [(4, .int (iI ((z) + (1 : Int)))), (0, .ref (ad (64))), (1, .int (iI (i))), (2, .int (iI (g))), (3, .int (iI (b)))]) hx hb dX3_build_156 hl (k := 4) rfl (iI_add _ _) (by decide) rfl (fun ls hl => ?_)
          refine lv_goto (tgt := 116) hx hb dX3_build_159 (by decide) ?_
          exact ih.2.2.2 (kA (y) (66) (((i) * ((y).1 (1) 2)) + (z)).toNat ((F_a_endOf (y) ((g) + ((1 : Int))) ((b) + (z))).1)) (i) (g) (b) ((z) + (1 : Int)) (km_tr sm (km_a (List.Mem.tail _ (List.Mem.head _)) (km_rf _ _ _))) (⟨may.1, may.2.1, iU_all (P := fun z => -1000 ≤ z ∧ z < 320) (by omega) may.2.2⟩) (hN) (by omega) (by first | (show i < y.1 64 7; omega) | omega) (by omega) (by omega) (by omega) (by omega) (by omega) (by omega) (by omega) (by omega) hres _ _ ls hP hD hS (lv_sub hl [1, 2, 3, 4, 0] rfl)
  have key : ∀ (H : Heap) (locs : List Loc), va_P (dC, dI) vwCl (kWd cI cJ cZ cR wl ad M (x)) H → va_S A s.heap H locs → W p l e (headSpec wsX3_build ({ frames := 4, cells := 0, slots := 0, locals := 91 })).room s m ([.ref (ad 64)] : List Value).toArray below meth c H locs 0 0 (MQ below (va_Qv (fun u : KS => u = (F_a_build x).2) (kAt dC dI ad cI cJ cZ cR M wl A) A) ([.ref (ad 64)] : List Value).toArray s 0 0 A) (F0 m 0 ls []) := by
    intro H locs hP hS
    have hres : F_a_build_s 13000 0 ((F_a_keep (kS (x) (64) 7 ((0 : Int))) ((0 : Int))).2) ((0 : Int)) (0) (0) (0) = F_a_build x := rfl
    refine lv_aload_n hx hb dX3_build_0 rfl (lv_at hl 0 rfl) ?_
    refine lv_iconst (v := iI (0 : Int)) hx hb dX3_build_1 (by decide) ?_
    refine va_put (D := (dC, dI)) (ci := 3) (v := .int (iI ((0 : Int)))) (ty := .int) (C := RX3) (T := TX3) (N := 10) hx hb hts hinX3 tyX3 tyX3_ok nmX3 hown hK hP hD hS (64) (kg64 (by omega)) rfl 7 (by decide) (hts (.fieldLink RX3 36 "LikeWords$Machine" "held" "I") (by decide +kernel)) (fun _ h9 => h9) rfl (by decide +kernel) rfl rfl (Nat.le_of_ble_eq_true rfl) dX3_build_2 (fun H locs hP hD hS => ?_)
    rw [ks64_7] at hP hD
    refine lv_aload_n hx hb dX3_build_5 rfl (lv_at hl 0 rfl) ?_
    refine lv_iconst (v := iI (0 : Int)) hx hb dX3_build_6 (by decide) ?_
    have hFc : ∀ q, va_A (kWd cI cJ cZ cR wl ad M (kS (x) (64) 7 ((0 : Int)))) H.size q → A q := fun q hq => Or.elim hq (fun ⟨k, e, hk⟩ => hD.2 k (q, e) hk) (fun hk => hA q (Nat.le_trans hS.1 hk))
    refine va_callv (va_runV (b := ad (64)) (As := [.int (iI ((0 : Int)))]) (rest := []) ⟨hx, hb, hml, hown, hts⟩ (c_a_keep l dC dI ad cI cJ cZ cR M wl H.size (kS (x) (64) 7 ((0 : Int)))  ((0 : Int)) hM ⟨by decide, by decide⟩ ma0 sx0.1.1) (cwV 1 hts gX3_build_X3_keep rfl rfl rfl (by decide +kernel) ⟨Nat.le_of_ble_eq_true rfl, Nat.le_of_ble_eq_true rfl⟩) ⟨fun a U g mk q => by obtain ⟨q0, q1, qP, qK, qD, qN⟩ := q; exact ⟨q0, q1, qP, va_K.moved (u := U) (U := U.calling g mk a) (Vm.Alike.refl U.vm) qK, qD, kNw.same (u := U) (U := U.calling g mk a) rfl qN⟩, va_recv hK hP (ci := 3) (q0 := 64) rfl (kg64 (by omega)), fun U hU hW => ⟨rfl, by rw [hU], by rw [hU]; exact hP, va_K.moved hW.alike hK, hD.weaken (fun _ _ _ _ => trivial), kNw.warm hW hNw⟩⟩ rfl rfl hl.1 rfl (lv_room (Nat.le_of_ble_eq_true rfl)) dX3_build_7 ⟨Nat.le_of_ble_eq_true rfl, Nat.le_of_ble_eq_true rfl⟩) hS (fun q _ h => hFc q h) hFc (fun u9 t H1 locs ht hvm hw hB hz1 hk1 hS => ?_)
    obtain ⟨hP1, hK1, hD1⟩ := hB
    rw [ht] at hP1
    rw [hw] at hP1 hD1
    have hD2 := hD1.weaken (B := A) (fun _ q _ h => hFc q.1 h)
    have hP := hP1
    have hD := hD2
    generalize H1 = H at hP hS ⊢
    refine lv_iconst (v := iI (0 : Int)) hx hb dX3_build_10 (by decide) ?_
    refine lv_istore_n (lv' := [(1, .int (iI ((0 : Int)))), (0, .ref (ad (64)))]) hx hb dX3_build_11 rfl hl (by decide) rfl (fun ls hl => ?_)
    exact (L (13000)).1 ((F_a_keep (kS (x) (64) 7 ((0 : Int))) ((0 : Int))).2) ((0 : Int)) (km_tr (km_s (List.Mem.head _) (km_rf _ _ _)) (km_mono (by decide) (by decide) (F_a_keep_fr _ _))) (k0.1) (k0.2) (by omega) (by omega) (by omega) hres _ _ ls hP hD hS (lv_sub hl [1, 0] rfl)
  exact key _ _ hP hS
theorem F_a_build_sfr  : ∀ n : Nat, (∀ (y : KS) (v0 : Int) (v1 : Int) (v2 : Int) (v3 : Int), ksame [(64, 7)] [65, 66] y (F_a_build_s n 0 y v0 v1 v2 v3).2) ∧ (∀ (y : KS) (v0 : Int) (v1 : Int) (v2 : Int) (v3 : Int), ksame [(64, 7)] [65, 66] y (F_a_build_s n 1 y v0 v1 v2 v3).2) ∧ (∀ (y : KS) (v0 : Int) (v1 : Int) (v2 : Int) (v3 : Int), ksame [(64, 7)] [65, 66] y (F_a_build_s n 2 y v0 v1 v2 v3).2) ∧ (∀ (y : KS) (v0 : Int) (v1 : Int) (v2 : Int) (v3 : Int), ksame [(64, 7)] [65, 66] y (F_a_build_s n 3 y v0 v1 v2 v3).2) := by
  intro n
  induction n with
  | zero => exact ⟨fun y _ _ _ _ => km_rf _ _ _, fun y _ _ _ _ => km_rf _ _ _, fun y _ _ _ _ => km_rf _ _ _, fun y _ _ _ _ => km_rf _ _ _⟩
  | succ n ih =>
    refine ⟨?_, ?_, ?_, ?_⟩
    · intro y d q0 q1 q2
      rw [F_a_build_e0]
      by_cases hc : ((y).1 (58) 6) ≤ (d)
      · rw [if_pos hc]
        exact km_tr ((km_rf _ _ _)) (ih.2.2.1 (y) ((0 : Int)) (0) (0) (0))
      · rw [if_neg hc]
        exact km_tr ((km_rf _ _ _)) (ih.2.1 (y) (d) ((F_u_spanOf (y) (d) ((1 : Int))).1) ((1 : Int)) (0))
    · intro y d g k q0
      rw [F_a_build_e1]
      by_cases hc : (g) ≤ (k)
      · rw [if_pos hc]
        exact km_tr ((km_rf _ _ _)) (ih.1 (y) ((d) + (1 : Int)) (0) (0) (0))
      · rw [if_neg hc]
        exact km_tr ((km_tr (km_rf _ _ _) (km_mono (km1 (List.Mem.head _) km0) (km1 (List.Mem.head _) km0) (F_a_keep_fr (y) ((F_u_numberOfBeginning (y) (d) (k)).1))))) (ih.2.1 ((F_a_keep (y) ((F_u_numberOfBeginning (y) (d) (k)).1)).2) (d) (g) ((k) + (1 : Int)) (0))
    · intro y i q0 q1 q2
      rw [F_a_build_e2]
      by_cases hc : ((y).1 (64) 7) ≤ (i)
      · rw [if_pos hc]
        exact (km_rf _ _ _)
      · rw [if_neg hc]
        exact km_tr ((km_rf _ _ _)) (ih.2.2.2 (y) (i) ((F_s_spanOf (y) (((y).2 (65)) (i).toNat)).1) (((((y).2 (65)) (i).toNat) - ((F_s_firstOf (y) ((F_s_spanOf (y) (((y).2 (65)) (i).toNat)).1)).1)) * ((y).1 (1) 2)) ((0 : Int)))
    · intro y i g b z
      rw [F_a_build_e3]
      by_cases hc : ((y).1 (1) 2) ≤ (z)
      · rw [if_pos hc]
        exact km_tr ((km_rf _ _ _)) (ih.2.2.1 (y) ((i) + (1 : Int)) (0) (0) (0))
      · rw [if_neg hc]
        exact km_tr ((km_a (List.Mem.tail _ (List.Mem.head _)) (km_rf _ _ _))) (ih.2.2.2 (kA (y) (66) (((i) * ((y).1 (1) 2)) + (z)).toNat ((F_a_endOf (y) ((g) + ((1 : Int))) ((b) + (z))).1)) (i) (g) (b) ((z) + (1 : Int)))
theorem F_a_build_fr (x : KS)  : ksame [(64, 7)] [65, 66] x (F_a_build x).2 := by
  unfold F_a_build
  exact km_tr ((km_tr (km_s (List.Mem.head _) (km_rf _ _ _)) (km_mono (km1 (List.Mem.head _) km0) (km1 (List.Mem.head _) km0) (F_a_keep_fr (kS (x) (64) 7 ((0 : Int))) ((0 : Int)))))) ((F_a_build_sfr  (13000)).1 ((F_a_keep (kS (x) (64) 7 ((0 : Int))) ((0 : Int))).2) ((0 : Int)) (0) (0) (0))
theorem F_a_build_q (x : KS)   : kq [64] [65, 66] x (F_a_build x).2 := kq_of (F_a_build_fr x) (kq_c (Or.inr (by decide)) kq_m) (kq_c (Or.inr (by decide)) (kq_c (Or.inr (by decide)) kq_n))
def F_a_read_s  : Nat → Nat → KS → Int → Int → Int → Int → Int × KS
  | 0, _, x, _, _, _, _ => (0, x)
  | n + 1, t, x, p0, p1, p2, p3 => match t with
    | 0 => (fun (f0 : Int) (g0 : Int) (s9 : Int) (i : Int) => (if ((x).1 (88) 1) ≤ (i) then ((-1 : Int), x) else (if (((s9) * ((x).1 (1) 2)) + (((x).2 (89)) (i).toNat)) < (0) then (if (0) ≤ ((0 : Int)) then (if (i) < (g0) then F_a_read_s n 0 (kA (x) (94) ((i) + ((1 : Int))).toNat ((0 : Int))) (f0) (g0) ((0 : Int)) ((i) + (1 : Int)) else (if (((x).2 (94)) ((i) + ((1 : Int))).toNat) = ((0 : Int)) then ((-1 : Int), x) else F_a_read_s n 0 (kA (x) (94) ((i) + ((1 : Int))).toNat ((0 : Int))) (f0) (g0) ((0 : Int)) ((i) + (1 : Int)))) else (i, kS (x) (64) 8 (((-1 : Int)) - ((0 : Int))))) else (if ((640 : Int)) ≤ (((s9) * ((x).1 (1) 2)) + (((x).2 (89)) (i).toNat)) then (if (0) ≤ ((0 : Int)) then (if (i) < (g0) then F_a_read_s n 0 (kA (x) (94) ((i) + ((1 : Int))).toNat ((0 : Int))) (f0) (g0) ((0 : Int)) ((i) + (1 : Int)) else (if (((x).2 (94)) ((i) + ((1 : Int))).toNat) = ((0 : Int)) then ((-1 : Int), x) else F_a_read_s n 0 (kA (x) (94) ((i) + ((1 : Int))).toNat ((0 : Int))) (f0) (g0) ((0 : Int)) ((i) + (1 : Int)))) else (i, kS (x) (64) 8 (((-1 : Int)) - ((0 : Int))))) else (if (0) ≤ (((x).2 (66)) (((s9) * ((x).1 (1) 2)) + (((x).2 (89)) (i).toNat)).toNat) then (if (i) < (g0) then F_a_read_s n 0 (kA (x) (94) ((i) + ((1 : Int))).toNat (((x).2 (66)) (((s9) * ((x).1 (1) 2)) + (((x).2 (89)) (i).toNat)).toNat)) (f0) (g0) (((x).2 (66)) (((s9) * ((x).1 (1) 2)) + (((x).2 (89)) (i).toNat)).toNat) ((i) + (1 : Int)) else (if (((x).2 (94)) ((i) + ((1 : Int))).toNat) = (((x).2 (66)) (((s9) * ((x).1 (1) 2)) + (((x).2 (89)) (i).toNat)).toNat) then ((-1 : Int), x) else F_a_read_s n 0 (kA (x) (94) ((i) + ((1 : Int))).toNat (((x).2 (66)) (((s9) * ((x).1 (1) 2)) + (((x).2 (89)) (i).toNat)).toNat)) (f0) (g0) (((x).2 (66)) (((s9) * ((x).1 (1) 2)) + (((x).2 (89)) (i).toNat)).toNat) ((i) + (1 : Int)))) else (i, kS (x) (64) 8 (((-1 : Int)) - (((x).2 (66)) (((s9) * ((x).1 (1) 2)) + (((x).2 (89)) (i).toNat)).toNat)))))))) p0 p1 p2 p3
    | _ => (0, x)
theorem F_a_read_e0  (n : Nat) (x : KS) (f0 : Int) (g0 : Int) (s9 : Int) (i : Int) : F_a_read_s (n + 1) 0 x f0 g0 s9 i = (if ((x).1 (88) 1) ≤ (i) then ((-1 : Int), x) else (if (((s9) * ((x).1 (1) 2)) + (((x).2 (89)) (i).toNat)) < (0) then (if (0) ≤ ((0 : Int)) then (if (i) < (g0) then F_a_read_s n 0 (kA (x) (94) ((i) + ((1 : Int))).toNat ((0 : Int))) (f0) (g0) ((0 : Int)) ((i) + (1 : Int)) else (if (((x).2 (94)) ((i) + ((1 : Int))).toNat) = ((0 : Int)) then ((-1 : Int), x) else F_a_read_s n 0 (kA (x) (94) ((i) + ((1 : Int))).toNat ((0 : Int))) (f0) (g0) ((0 : Int)) ((i) + (1 : Int)))) else (i, kS (x) (64) 8 (((-1 : Int)) - ((0 : Int))))) else (if ((640 : Int)) ≤ (((s9) * ((x).1 (1) 2)) + (((x).2 (89)) (i).toNat)) then (if (0) ≤ ((0 : Int)) then (if (i) < (g0) then F_a_read_s n 0 (kA (x) (94) ((i) + ((1 : Int))).toNat ((0 : Int))) (f0) (g0) ((0 : Int)) ((i) + (1 : Int)) else (if (((x).2 (94)) ((i) + ((1 : Int))).toNat) = ((0 : Int)) then ((-1 : Int), x) else F_a_read_s n 0 (kA (x) (94) ((i) + ((1 : Int))).toNat ((0 : Int))) (f0) (g0) ((0 : Int)) ((i) + (1 : Int)))) else (i, kS (x) (64) 8 (((-1 : Int)) - ((0 : Int))))) else (if (0) ≤ (((x).2 (66)) (((s9) * ((x).1 (1) 2)) + (((x).2 (89)) (i).toNat)).toNat) then (if (i) < (g0) then F_a_read_s n 0 (kA (x) (94) ((i) + ((1 : Int))).toNat (((x).2 (66)) (((s9) * ((x).1 (1) 2)) + (((x).2 (89)) (i).toNat)).toNat)) (f0) (g0) (((x).2 (66)) (((s9) * ((x).1 (1) 2)) + (((x).2 (89)) (i).toNat)).toNat) ((i) + (1 : Int)) else (if (((x).2 (94)) ((i) + ((1 : Int))).toNat) = (((x).2 (66)) (((s9) * ((x).1 (1) 2)) + (((x).2 (89)) (i).toNat)).toNat) then ((-1 : Int), x) else F_a_read_s n 0 (kA (x) (94) ((i) + ((1 : Int))).toNat (((x).2 (66)) (((s9) * ((x).1 (1) 2)) + (((x).2 (89)) (i).toNat)).toNat)) (f0) (g0) (((x).2 (66)) (((s9) * ((x).1 (1) 2)) + (((x).2 (89)) (i).toNat)).toNat) ((i) + (1 : Int)))) else (i, kS (x) (64) 8 (((-1 : Int)) - (((x).2 (66)) (((s9) * ((x).1 (1) 2)) + (((x).2 (89)) (i).toNat)).toNat))))))) := rfl
def F_a_read (x : KS) (f0 : Int) (g0 : Int) : Int × KS := (if (f0) < (0) then ((-1 : Int), x) else (if ((x).1 (88) 1) < (f0) then ((-1 : Int), x) else (if ((x).1 (88) 1) < ((61 : Int)) then F_a_read_s 70 0 (x) (f0) (g0) (((x).2 (94)) (f0).toNat) (f0) else ((-1 : Int), x))))
set_option maxHeartbeats 4000000 in
set_option maxRecDepth 100000 in
/-- LikeWords$Machine, read -/
theorem c_a_read (l : Launch) (dC : Nat → ClassId) (dI : Nat → Nat → Nat) (ad : Nat → Nat) (cI cJ cZ cR : ClassId) (M wl sz : Nat) (x : KS) (f0 : Int) (g0 : Int) (hM : 87 ≤ M) (hG : 106 ≤ M) (ma : maR x) (l2 : 1 ≤ x.1 1 2 ∧ x.1 1 2 ≤ 4) (u0 : 0 ≤ x.1 88 1) (u1 : x.1 88 1 ≤ 60) (rf : iR f0) (rg : iR g0) (rw : ∀ j : Nat, -1 ≤ x.2 89 j ∧ x.2 89 j ≤ 3) (rp : ∀ j : Nat, -1000 ≤ x.2 94 j ∧ x.2 94 j < 320) : Met l yX3_read wsX3_read ({ frames := 0, cells := 0, slots := 0, locals := 0 }) (kPc dC dI ad cI cJ cZ cR M wl sz x [.ref (ad 64), .ref (ad 88), .ref (ad 94), .int (iI f0), .int (iI g0)]) (va_Qi (fun (r : Int32) (u : KS) => r = iI (F_a_read x f0 g0).1 ∧ u = (F_a_read x f0 g0).2) (kAt dC dI ad cI cJ cZ cR M wl (va_A (kWd cI cJ cZ cR wl ad M (x)) sz)) (va_A (kWd cI cJ cZ cR wl ad M (x)) sz)) 0 0 (va_A (kWd cI cJ cZ cR wl ad M (x)) sz) := by
  refine Met.ofW (cc := cX3_read) (maxL := 8) (ret := (some .int)) (by decide) rfl ?_
  intro p e s m args below meth c s₁ B hml hv
  obtain ⟨rfl, hsz, hP, hK, hD0, hNw⟩ := hv
  have hx := B.exec
  have hb := B.bytes
  have hr := B.returns
  have hts := atoms_spec (ws := wsX3_read) B.pre
  have hown : s.vm.findClass RX3 = some m.cls := findClass_of_methodNamed B.named
  have hlocks := B.notSynchronized
  have hinX10 : ∀ w ∈ u_ws RX10 TX10 2, w ∈ wsX3_read := by decide +kernel
  have hinX3 : ∀ w ∈ u_ws RX3 TX3 10, w ∈ wsX3_read := by decide +kernel
  have hinX8 : ∀ w ∈ u_ws RX8 TX8 4, w ∈ wsX3_read := by decide +kernel
  subst hsz
  have hD := hD0.self (sz := s.heap.size)
  generalize hAe : va_A (kWd cI cJ cZ cR wl ad M (x)) s.heap.size = A at hD ⊢
  have hA : ∀ q : Nat, s.heap.size ≤ q → A q := fun q h => by rw [← hAe]; exact Or.inr h
  have hS : va_S A s.heap s.heap [] := va_S.rf
  have hl := lv_entry ([.ref (ad 64), .ref (ad 88), .ref (ad 94), .int (iI f0), .int (iI g0)]) (n := 8) (Nat.le_of_ble_eq_true rfl)
  rw [lg_entry_eq]
  generalize (lg_sl ([.ref (ad 64), .ref (ad 88), .ref (ad 94), .int (iI f0), .int (iI g0)]) ++ List.replicate (8 - (lg_sl ([.ref (ad 64), .ref (ad 88), .ref (ad 94), .int (iI f0), .int (iI g0)])).length) Slot.unset).toArray = ls at hl ⊢
  have hl : lv_has ls 8 [(0, .ref (ad (64))), (1, .ref (ad (88))), (2, .ref (ad (94))), (3, .int (iI (f0))), (4, .int (iI (g0)))] := hl
  have L : ∀ n : Nat, (∀ (y : KS) (s9 : Int) (i : Int), (ksame [] [94] x y) → (∀ j : Nat, -1000 ≤ y.2 94 j ∧ y.2 94 j < 320) → (-1000 ≤ s9) → (s9 < 320) → (0 ≤ i) → (i ≤ 60) → (60 - i < n) → F_a_read_s n 0 y f0 g0 s9 i = F_a_read x f0 g0 → ∀ (H : Heap) (locs : List Loc) (ls : Array Slot), va_P (dC, dI) vwCl (kWd cI cJ cZ cR wl ad M (y)) H → va_D A (kWd cI cJ cZ cR wl ad M (y)) → va_S A s.heap H locs → lv_has ls 8 [(0, .ref (ad (64))), (1, .ref (ad (88))), (2, .ref (ad (94))), (3, .int (iI (f0))), (4, .int (iI (g0))), (5, .int (iI (s9))), (6, .int (iI (i)))] → W p l e (headSpec wsX3_read ({ frames := 0, cells := 0, slots := 0, locals := 0 })).room s m ([.ref (ad 64), .ref (ad 88), .ref (ad 94), .int (iI f0), .int (iI g0)] : List Value).toArray below meth c H locs 0 0 (MQ below (va_Qi (fun (r : Int32) (u : KS) => r = iI (F_a_read x f0 g0).1 ∧ u = (F_a_read x f0 g0).2) (kAt dC dI ad cI cJ cZ cR M wl A) A) ([.ref (ad 64), .ref (ad 88), .ref (ad 94), .int (iI f0), .int (iI g0)] : List Value).toArray s 0 0 A) (F0 m 31 ls [])) := by
    intro n
    induction n with
    | zero =>
      skip
      · intro y s9 i sm py s0 s1 i0 i1 fu hres
        exact absurd fu (by omega)
    | succ n ih =>
      skip
      · intro y s9 i sm py s0 s1 i0 i1 fu hres H locs ls hP hD hS hl
        rw [F_a_read_e0] at hres
        have e1 : y.1 88 1 = x.1 88 1 := sm.1 88 1 (by decide)
        have may := maR_of sm (by decide) (by decide) (by decide) ma
        have l2y := l2_of sm (by decide) l2
        refine lv_iload hx hb dX3_read_31 (lv_at hl 6 rfl) ?_
        refine lv_aload_n hx hb dX3_read_33 rfl (lv_at hl 1 rfl) ?_
        refine va_get (D := (dC, dI)) (ci := 10) (v := .int (iI ((y).1 (88) 1))) (C := RX10) (T := TX10) (N := 2) hx hb hts hinX10 hown hK hP (88) (kgw rfl (by omega)) rfl 1 (by decide) (hts (.fieldLink RX3 79 "LikeWords$Word" "used" "I") (by decide +kernel)) (fun _ h9 => h9) rfl dX3_read_34 ?_
        refine wi_icmp_ge (tgt := 136) hx hb (by first | assumption | (unfold iR; omega) | exact kR01 (by assumption)) (by first | assumption | (unfold iR; omega) | exact kR01 (by assumption)) dX3_read_37 (by decide) (fun c_37 => ?_) (fun c_37 => ?_)
        · skip
          rw [if_pos c_37] at hres
          refine lv_iconst (v := iI (-1 : Int)) hx hb dX3_read_136 (by decide) ?_
          exact W.iret (v := iI ((-1 : Int))) hx hb hr (fun t ht hW => ⟨⟨iI ((-1 : Int)), y, rfl, ⟨(by have h9 := congrArg (fun z : Int × KS => iI z.1) hres; exact h9), (by have h9 := congrArg (fun z : Int × KS => z.2) hres; exact h9)⟩, by rw [ht]; exact hP, va_K.moved hW.alike hK, hD⟩, hS.F ht⟩) hS.2.2 dX3_read_137
        · skip
          rw [if_neg c_37] at hres
          refine lv_iload hx hb dX3_read_40 (lv_at hl 5 rfl) ?_
          refine lv_aload_n hx hb dX3_read_42 rfl (lv_at hl 0 rfl) ?_
          refine va_get (D := (dC, dI)) (ci := 3) (v := .ref (ad (1))) (C := RX3) (T := TX3) (N := 10) hx hb hts hinX3 hown hK hP (64) (kg64 (by omega)) rfl 0 (by decide) (hts (.fieldLink RX3 9 "LikeWords$Machine" "scale" "LLikeWords$Scale;") (by decide +kernel)) (fun _ h9 => h9) rfl dX3_read_43 ?_
          refine va_get (D := (dC, dI)) (ci := 8) (v := .int (iI ((y).1 (1) 2))) (C := RX8) (T := TX8) (N := 4) hx hb hts hinX8 hown hK hP (1) (kg1 (by omega)) rfl 2 (by decide) (hts (.fieldLink RX3 40 "LikeWords$Scale" "letterCount" "I") (by decide +kernel)) (fun _ h9 => h9) rfl dX3_read_46 ?_
          refine wi_imul hx hb dX3_read_49 ?_
          refine lv_aload_n hx hb dX3_read_50 rfl (lv_at hl 1 rfl) ?_
          refine va_get (D := (dC, dI)) (ci := 10) (v := .ref (ad (89))) (C := RX10) (T := TX10) (N := 2) hx hb hts hinX10 hown hK hP (88) (kgw rfl (by omega)) rfl 0 (by decide) (hts (.fieldLink RX3 84 "LikeWords$Word" "signs" "[I") (by decide +kernel)) (fun _ h9 => h9) rfl dX3_read_51 ?_
          refine lv_iload hx hb dX3_read_54 (lv_at hl 6 rfl) ?_
          refine wi_iald (f := (y).2 (89)) (n := kLen (89)) hx hb hK hP (89) 0 (kgi (kI_row (c := 88) rfl) (by omega) rfl) rfl (i := i) (by omega) (by show _ < ((60 : Nat) : Int); exact (by omega)) (kLen_lt _) dX3_read_56 ?_
          refine wi_iadd hx hb dX3_read_57 ?_
          refine lv_istore (lv' := [(7, .int (iI (((s9) * ((y).1 (1) 2)) + (((y).2 (89)) (i).toNat)))), (0, .ref (ad (64))), (1, .ref (ad (88))), (2, .ref (ad (94))), (3, .int (iI (f0))), (4, .int (iI (g0))), (5, .int (iI (s9))), (6, .int (iI (i)))]) hx hb dX3_read_58 hl (by decide) rfl (fun ls hl => ?_)
          have wj := rw i.toNat
          have w89 : y.2 89 = x.2 89 := sm.2 89 (by decide)
          rw [← w89] at wj
          have bb := kmul4 (a := s9) l2y.1 l2y.2 (by omega) (by omega)
          have mj := may.2.2 (s9 * y.1 1 2 + y.2 89 i.toNat).toNat
          refine lv_iload hx hb dX3_read_60 (lv_at hl 0 rfl) ?_
          refine wi_if_lt (tgt := 83) hx hb (by first | assumption | (unfold iR; omega) | exact kR01 (by assumption)) dX3_read_62 (by decide) (fun c_62 => ?_) (fun c_62 => ?_)
          · skip
            rw [if_pos c_62] at hres
            refine lv_iconst (v := iI (0 : Int)) hx hb dX3_read_83 (by decide) ?_
            refine lv_istore (lv' := [(5, .int (iI ((0 : Int)))), (7, .int (iI (((s9) * ((y).1 (1) 2)) + (((y).2 (89)) (i).toNat)))), (0, .ref (ad (64))), (1, .ref (ad (88))), (2, .ref (ad (94))), (3, .int (iI (f0))), (4, .int (iI (g0))), (6, .int (iI (i)))]) hx hb dX3_read_84 hl (by decide) rfl (fun ls hl => ?_)
            refine lv_iload hx hb dX3_read_86 (lv_at hl 0 rfl) ?_
            refine wi_if_ge (tgt := 102) hx hb ⟨by decide, by decide⟩ dX3_read_88 (by decide) (fun c_88 => ?_) (fun c_88 => ?_)
            · skip
              rw [if_pos c_88] at hres
              refine lv_iload hx hb dX3_read_102 (lv_at hl 7 rfl) ?_
              refine lv_iload hx hb dX3_read_104 (lv_at hl 6 rfl) ?_
              refine wi_icmp_lt (tgt := 122) hx hb (by first | assumption | (unfold iR; omega) | exact kR01 (by assumption)) (by first | assumption | (unfold iR; omega) | exact kR01 (by assumption)) dX3_read_106 (by decide) (fun c_106 => ?_) (fun c_106 => ?_)
              · skip
                rw [if_pos c_106] at hres
                refine lv_aload_n hx hb dX3_read_122 rfl (lv_at hl 4 rfl) ?_
                refine lv_iload hx hb dX3_read_123 (lv_at hl 7 rfl) ?_
                refine lv_iconst (v := iI (1 : Int)) hx hb dX3_read_125 (by decide) ?_
                refine wi_iadd hx hb dX3_read_126 ?_
                refine lv_iload hx hb dX3_read_127 (lv_at hl 0 rfl) ?_
                refine wi_iast (f := (y).2 (94)) (n := kLen (94)) hx hb hK hP hD hS (94) 0 (kgi kC94 (by omega) rfl) rfl (i := (i) + ((1 : Int))) (x := (0 : Int)) (by omega) (by show _ < ((61 : Nat) : Int); exact (by omega)) (kLen_lt _) dX3_read_129 (fun H locs hP hD hS => ?_)
                rw [ksi kC94] at hP hD
                refine lv_iinc (v := iI ((i) + (1 : Int))) (lv' := [(6, .int (iI ((i) + (1 : Int)))), (5, .int (iI ((0 : Int)))), (7, .int (iI (((s9) * ((y).1 (1) 2)) + (((y).2 (89)) (i).toNat)))), (0, .ref (ad (64))), (1, .ref (ad (88))), (2, .ref (ad (94))), (3, .int (iI (f0))), (4, .int (iI (g0)))]) hx hb dX3_read_130 hl (k := 7) rfl (iI_add _ _) (by decide) rfl (fun ls hl => ?_)
                refine lv_goto (tgt := 31) hx hb dX3_read_133 (by decide) ?_
                exact ih (kA (y) (94) ((i) + ((1 : Int))).toNat ((0 : Int))) ((0 : Int)) ((i) + (1 : Int)) (km_tr sm (km_a (List.Mem.head _) (km_rf _ _ _))) (iU_all (P := fun z => -1000 ≤ z ∧ z < 320) (by first | exact may.2.2 _ | omega) py) (by first | exact (may.2.2 _).1 | omega) (by first | exact (may.2.2 _).2 | omega) (by omega) (by omega) (by omega) hres _ _ ls hP hD hS (lv_sub hl [3, 4, 5, 6, 7, 1, 0] rfl)
              · skip
                rw [if_neg c_106] at hres
                refine lv_aload_n hx hb dX3_read_109 rfl (lv_at hl 4 rfl) ?_
                refine lv_iload hx hb dX3_read_110 (lv_at hl 7 rfl) ?_
                refine lv_iconst (v := iI (1 : Int)) hx hb dX3_read_112 (by decide) ?_
                refine wi_iadd hx hb dX3_read_113 ?_
                refine wi_iald (f := (y).2 (94)) (n := kLen (94)) hx hb hK hP (94) 0 (kgi kC94 (by omega) rfl) rfl (i := (i) + ((1 : Int))) (by omega) (by show _ < ((61 : Nat) : Int); exact (by omega)) (kLen_lt _) dX3_read_114 ?_
                refine lv_iload hx hb dX3_read_115 (lv_at hl 0 rfl) ?_
                refine wi_icmp_ne (tgt := 122) hx hb (by have := py (i + 1).toNat; unfold iR; omega) (by unfold iR; omega) dX3_read_117 (by decide) (fun c_117 => ?_) (fun c_117 => ?_)
                · skip
                  rw [if_neg c_117] at hres
                  refine lv_aload_n hx hb dX3_read_122 rfl (lv_at hl 4 rfl) ?_
                  refine lv_iload hx hb dX3_read_123 (lv_at hl 7 rfl) ?_
                  refine lv_iconst (v := iI (1 : Int)) hx hb dX3_read_125 (by decide) ?_
                  refine wi_iadd hx hb dX3_read_126 ?_
                  refine lv_iload hx hb dX3_read_127 (lv_at hl 0 rfl) ?_
                  refine wi_iast (f := (y).2 (94)) (n := kLen (94)) hx hb hK hP hD hS (94) 0 (kgi kC94 (by omega) rfl) rfl (i := (i) + ((1 : Int))) (x := (0 : Int)) (by omega) (by show _ < ((61 : Nat) : Int); exact (by omega)) (kLen_lt _) dX3_read_129 (fun H locs hP hD hS => ?_)
                  rw [ksi kC94] at hP hD
                  refine lv_iinc (v := iI ((i) + (1 : Int))) (lv' := [(6, .int (iI ((i) + (1 : Int)))), (5, .int (iI ((0 : Int)))), (7, .int (iI (((s9) * ((y).1 (1) 2)) + (((y).2 (89)) (i).toNat)))), (0, .ref (ad (64))), (1, .ref (ad (88))), (2, .ref (ad (94))), (3, .int (iI (f0))), (4, .int (iI (g0)))]) hx hb dX3_read_130 hl (k := 7) rfl (iI_add _ _) (by decide) rfl (fun ls hl => ?_)
                  refine lv_goto (tgt := 31) hx hb dX3_read_133 (by decide) ?_
                  exact ih (kA (y) (94) ((i) + ((1 : Int))).toNat ((0 : Int))) ((0 : Int)) ((i) + (1 : Int)) (km_tr sm (km_a (List.Mem.head _) (km_rf _ _ _))) (iU_all (P := fun z => -1000 ≤ z ∧ z < 320) (by first | exact may.2.2 _ | omega) py) (by first | exact (may.2.2 _).1 | omega) (by first | exact (may.2.2 _).2 | omega) (by omega) (by omega) (by omega) hres _ _ ls hP hD hS (lv_sub hl [3, 4, 5, 6, 7, 1, 0] rfl)
                · skip
                  rw [if_pos c_117] at hres
                  refine lv_iconst (v := iI (-1 : Int)) hx hb dX3_read_120 (by decide) ?_
                  exact W.iret (v := iI ((-1 : Int))) hx hb hr (fun t ht hW => ⟨⟨iI ((-1 : Int)), y, rfl, ⟨(by have h9 := congrArg (fun z : Int × KS => iI z.1) hres; exact h9), (by have h9 := congrArg (fun z : Int × KS => z.2) hres; exact h9)⟩, by rw [ht]; exact hP, va_K.moved hW.alike hK, hD⟩, hS.F ht⟩) hS.2.2 dX3_read_121
            · skip
              rw [if_neg c_88] at hres
              refine lv_aload_n hx hb dX3_read_91 rfl (lv_at hl 2 rfl) ?_
              refine lv_iconst (v := iI (-1 : Int)) hx hb dX3_read_92 (by decide) ?_
              refine lv_iload hx hb dX3_read_93 (lv_at hl 0 rfl) ?_
              refine wi_isub hx hb dX3_read_95 ?_
              refine va_put (D := (dC, dI)) (ci := 3) (v := .int (iI (((-1 : Int)) - ((0 : Int))))) (ty := .int) (C := RX3) (T := TX3) (N := 10) hx hb hts hinX3 tyX3 tyX3_ok nmX3 hown hK hP hD hS (64) (kg64 (by omega)) rfl 8 (by decide) (hts (.fieldLink RX3 87 "LikeWords$Machine" "met" "I") (by decide +kernel)) (fun _ h9 => h9) rfl (by decide +kernel) rfl rfl (Nat.le_of_ble_eq_true rfl) dX3_read_96 (fun H locs hP hD hS => ?_)
              rw [ks64_8] at hP hD
              refine lv_iload hx hb dX3_read_99 (lv_at hl 7 rfl) ?_
              exact W.iret (v := iI (i)) hx hb hr (fun t ht hW => ⟨⟨iI (i), kS (y) (64) 8 (((-1 : Int)) - ((0 : Int))), rfl, ⟨(by have h9 := congrArg (fun z : Int × KS => iI z.1) hres; exact h9), (by have h9 := congrArg (fun z : Int × KS => z.2) hres; exact h9)⟩, by rw [ht]; exact hP, va_K.moved hW.alike hK, hD⟩, hS.F ht⟩) hS.2.2 dX3_read_101
          · skip
            rw [if_neg c_62] at hres
            refine lv_iload hx hb dX3_read_65 (lv_at hl 0 rfl) ?_
            refine lv_sipush (v := iI (640 : Int)) hx hb dX3_read_67 (by decide) ?_
            refine wi_icmp_ge (tgt := 83) hx hb (by first | assumption | (unfold iR; omega) | exact kR01 (by assumption)) ⟨by decide, by decide⟩ dX3_read_70 (by decide) (fun c_70 => ?_) (fun c_70 => ?_)
            · skip
              rw [if_pos c_70] at hres
              refine lv_iconst (v := iI (0 : Int)) hx hb dX3_read_83 (by decide) ?_
              refine lv_istore (lv' := [(5, .int (iI ((0 : Int)))), (7, .int (iI (((s9) * ((y).1 (1) 2)) + (((y).2 (89)) (i).toNat)))), (0, .ref (ad (64))), (1, .ref (ad (88))), (2, .ref (ad (94))), (3, .int (iI (f0))), (4, .int (iI (g0))), (6, .int (iI (i)))]) hx hb dX3_read_84 hl (by decide) rfl (fun ls hl => ?_)
              refine lv_iload hx hb dX3_read_86 (lv_at hl 0 rfl) ?_
              refine wi_if_ge (tgt := 102) hx hb ⟨by decide, by decide⟩ dX3_read_88 (by decide) (fun c_88 => ?_) (fun c_88 => ?_)
              · skip
                rw [if_pos c_88] at hres
                refine lv_iload hx hb dX3_read_102 (lv_at hl 7 rfl) ?_
                refine lv_iload hx hb dX3_read_104 (lv_at hl 6 rfl) ?_
                refine wi_icmp_lt (tgt := 122) hx hb (by first | assumption | (unfold iR; omega) | exact kR01 (by assumption)) (by first | assumption | (unfold iR; omega) | exact kR01 (by assumption)) dX3_read_106 (by decide) (fun c_106 => ?_) (fun c_106 => ?_)
                · skip
                  rw [if_pos c_106] at hres
                  refine lv_aload_n hx hb dX3_read_122 rfl (lv_at hl 4 rfl) ?_
                  refine lv_iload hx hb dX3_read_123 (lv_at hl 7 rfl) ?_
                  refine lv_iconst (v := iI (1 : Int)) hx hb dX3_read_125 (by decide) ?_
                  refine wi_iadd hx hb dX3_read_126 ?_
                  refine lv_iload hx hb dX3_read_127 (lv_at hl 0 rfl) ?_
                  refine wi_iast (f := (y).2 (94)) (n := kLen (94)) hx hb hK hP hD hS (94) 0 (kgi kC94 (by omega) rfl) rfl (i := (i) + ((1 : Int))) (x := (0 : Int)) (by omega) (by show _ < ((61 : Nat) : Int); exact (by omega)) (kLen_lt _) dX3_read_129 (fun H locs hP hD hS => ?_)
                  rw [ksi kC94] at hP hD
                  refine lv_iinc (v := iI ((i) + (1 : Int))) (lv' := [(6, .int (iI ((i) + (1 : Int)))), (5, .int (iI ((0 : Int)))), (7, .int (iI (((s9) * ((y).1 (1) 2)) + (((y).2 (89)) (i).toNat)))), (0, .ref (ad (64))), (1, .ref (ad (88))), (2, .ref (ad (94))), (3, .int (iI (f0))), (4, .int (iI (g0)))]) hx hb dX3_read_130 hl (k := 7) rfl (iI_add _ _) (by decide) rfl (fun ls hl => ?_)
                  refine lv_goto (tgt := 31) hx hb dX3_read_133 (by decide) ?_
                  exact ih (kA (y) (94) ((i) + ((1 : Int))).toNat ((0 : Int))) ((0 : Int)) ((i) + (1 : Int)) (km_tr sm (km_a (List.Mem.head _) (km_rf _ _ _))) (iU_all (P := fun z => -1000 ≤ z ∧ z < 320) (by first | exact may.2.2 _ | omega) py) (by first | exact (may.2.2 _).1 | omega) (by first | exact (may.2.2 _).2 | omega) (by omega) (by omega) (by omega) hres _ _ ls hP hD hS (lv_sub hl [3, 4, 5, 6, 7, 1, 0] rfl)
                · skip
                  rw [if_neg c_106] at hres
                  refine lv_aload_n hx hb dX3_read_109 rfl (lv_at hl 4 rfl) ?_
                  refine lv_iload hx hb dX3_read_110 (lv_at hl 7 rfl) ?_
                  refine lv_iconst (v := iI (1 : Int)) hx hb dX3_read_112 (by decide) ?_
                  refine wi_iadd hx hb dX3_read_113 ?_
                  refine wi_iald (f := (y).2 (94)) (n := kLen (94)) hx hb hK hP (94) 0 (kgi kC94 (by omega) rfl) rfl (i := (i) + ((1 : Int))) (by omega) (by show _ < ((61 : Nat) : Int); exact (by omega)) (kLen_lt _) dX3_read_114 ?_
                  refine lv_iload hx hb dX3_read_115 (lv_at hl 0 rfl) ?_
                  refine wi_icmp_ne (tgt := 122) hx hb (by have := py (i + 1).toNat; unfold iR; omega) (by unfold iR; omega) dX3_read_117 (by decide) (fun c_117 => ?_) (fun c_117 => ?_)
                  · skip
                    rw [if_neg c_117] at hres
                    refine lv_aload_n hx hb dX3_read_122 rfl (lv_at hl 4 rfl) ?_
                    refine lv_iload hx hb dX3_read_123 (lv_at hl 7 rfl) ?_
                    refine lv_iconst (v := iI (1 : Int)) hx hb dX3_read_125 (by decide) ?_
                    refine wi_iadd hx hb dX3_read_126 ?_
                    refine lv_iload hx hb dX3_read_127 (lv_at hl 0 rfl) ?_
                    refine wi_iast (f := (y).2 (94)) (n := kLen (94)) hx hb hK hP hD hS (94) 0 (kgi kC94 (by omega) rfl) rfl (i := (i) + ((1 : Int))) (x := (0 : Int)) (by omega) (by show _ < ((61 : Nat) : Int); exact (by omega)) (kLen_lt _) dX3_read_129 (fun H locs hP hD hS => ?_)
                    rw [ksi kC94] at hP hD
                    refine lv_iinc (v := iI ((i) + (1 : Int))) (lv' := [(6, .int (iI ((i) + (1 : Int)))), (5, .int (iI ((0 : Int)))), (7, .int (iI (((s9) * ((y).1 (1) 2)) + (((y).2 (89)) (i).toNat)))), (0, .ref (ad (64))), (1, .ref (ad (88))), (2, .ref (ad (94))), (3, .int (iI (f0))), (4, .int (iI (g0)))]) hx hb dX3_read_130 hl (k := 7) rfl (iI_add _ _) (by decide) rfl (fun ls hl => ?_)
                    refine lv_goto (tgt := 31) hx hb dX3_read_133 (by decide) ?_
                    exact ih (kA (y) (94) ((i) + ((1 : Int))).toNat ((0 : Int))) ((0 : Int)) ((i) + (1 : Int)) (km_tr sm (km_a (List.Mem.head _) (km_rf _ _ _))) (iU_all (P := fun z => -1000 ≤ z ∧ z < 320) (by first | exact may.2.2 _ | omega) py) (by first | exact (may.2.2 _).1 | omega) (by first | exact (may.2.2 _).2 | omega) (by omega) (by omega) (by omega) hres _ _ ls hP hD hS (lv_sub hl [3, 4, 5, 6, 7, 1, 0] rfl)
                  · skip
                    rw [if_pos c_117] at hres
                    refine lv_iconst (v := iI (-1 : Int)) hx hb dX3_read_120 (by decide) ?_
                    exact W.iret (v := iI ((-1 : Int))) hx hb hr (fun t ht hW => ⟨⟨iI ((-1 : Int)), y, rfl, ⟨(by have h9 := congrArg (fun z : Int × KS => iI z.1) hres; exact h9), (by have h9 := congrArg (fun z : Int × KS => z.2) hres; exact h9)⟩, by rw [ht]; exact hP, va_K.moved hW.alike hK, hD⟩, hS.F ht⟩) hS.2.2 dX3_read_121
              · skip
                rw [if_neg c_88] at hres
                refine lv_aload_n hx hb dX3_read_91 rfl (lv_at hl 2 rfl) ?_
                refine lv_iconst (v := iI (-1 : Int)) hx hb dX3_read_92 (by decide) ?_
                refine lv_iload hx hb dX3_read_93 (lv_at hl 0 rfl) ?_
                refine wi_isub hx hb dX3_read_95 ?_
                refine va_put (D := (dC, dI)) (ci := 3) (v := .int (iI (((-1 : Int)) - ((0 : Int))))) (ty := .int) (C := RX3) (T := TX3) (N := 10) hx hb hts hinX3 tyX3 tyX3_ok nmX3 hown hK hP hD hS (64) (kg64 (by omega)) rfl 8 (by decide) (hts (.fieldLink RX3 87 "LikeWords$Machine" "met" "I") (by decide +kernel)) (fun _ h9 => h9) rfl (by decide +kernel) rfl rfl (Nat.le_of_ble_eq_true rfl) dX3_read_96 (fun H locs hP hD hS => ?_)
                rw [ks64_8] at hP hD
                refine lv_iload hx hb dX3_read_99 (lv_at hl 7 rfl) ?_
                exact W.iret (v := iI (i)) hx hb hr (fun t ht hW => ⟨⟨iI (i), kS (y) (64) 8 (((-1 : Int)) - ((0 : Int))), rfl, ⟨(by have h9 := congrArg (fun z : Int × KS => iI z.1) hres; exact h9), (by have h9 := congrArg (fun z : Int × KS => z.2) hres; exact h9)⟩, by rw [ht]; exact hP, va_K.moved hW.alike hK, hD⟩, hS.F ht⟩) hS.2.2 dX3_read_101
            · skip
              rw [if_neg c_70] at hres
              refine lv_aload_n hx hb dX3_read_73 rfl (lv_at hl 1 rfl) ?_
              refine va_get (D := (dC, dI)) (ci := 3) (v := .ref (ad (66))) (C := RX3) (T := TX3) (N := 10) hx hb hts hinX3 hown hK hP (64) (kg64 (by omega)) rfl 3 (by decide) (hts (.fieldLink RX3 23 "LikeWords$Machine" "steps" "[I") (by decide +kernel)) (fun _ h9 => h9) rfl dX3_read_74 ?_
              refine lv_iload hx hb dX3_read_77 (lv_at hl 0 rfl) ?_
              refine wi_iald (f := (y).2 (66)) (n := kLen (66)) hx hb hK hP (66) 0 (kgi kC66 (by omega) rfl) rfl (i := ((s9) * ((y).1 (1) 2)) + (((y).2 (89)) (i).toNat)) (by omega) (by show _ < ((640 : Nat) : Int); exact (by omega)) (kLen_lt _) dX3_read_79 ?_
              refine lv_goto (tgt := 84) hx hb dX3_read_80 (by decide) ?_
              refine lv_istore (lv' := [(5, .int (iI (((y).2 (66)) (((s9) * ((y).1 (1) 2)) + (((y).2 (89)) (i).toNat)).toNat))), (7, .int (iI (((s9) * ((y).1 (1) 2)) + (((y).2 (89)) (i).toNat)))), (0, .ref (ad (64))), (1, .ref (ad (88))), (2, .ref (ad (94))), (3, .int (iI (f0))), (4, .int (iI (g0))), (6, .int (iI (i)))]) hx hb dX3_read_84 hl (by decide) rfl (fun ls hl => ?_)
              refine lv_iload hx hb dX3_read_86 (lv_at hl 0 rfl) ?_
              refine wi_if_ge (tgt := 102) hx hb (by first | assumption | (unfold iR; omega) | exact kR01 (by assumption)) dX3_read_88 (by decide) (fun c_88 => ?_) (fun c_88 => ?_)
              · skip
                rw [if_pos c_88] at hres
                refine lv_iload hx hb dX3_read_102 (lv_at hl 7 rfl) ?_
                refine lv_iload hx hb dX3_read_104 (lv_at hl 6 rfl) ?_
                refine wi_icmp_lt (tgt := 122) hx hb (by first | assumption | (unfold iR; omega) | exact kR01 (by assumption)) (by first | assumption | (unfold iR; omega) | exact kR01 (by assumption)) dX3_read_106 (by decide) (fun c_106 => ?_) (fun c_106 => ?_)
                · skip
                  rw [if_pos c_106] at hres
                  refine lv_aload_n hx hb dX3_read_122 rfl (lv_at hl 4 rfl) ?_
                  refine lv_iload hx hb dX3_read_123 (lv_at hl 7 rfl) ?_
                  refine lv_iconst (v := iI (1 : Int)) hx hb dX3_read_125 (by decide) ?_
                  refine wi_iadd hx hb dX3_read_126 ?_
                  refine lv_iload hx hb dX3_read_127 (lv_at hl 0 rfl) ?_
                  refine wi_iast (f := (y).2 (94)) (n := kLen (94)) hx hb hK hP hD hS (94) 0 (kgi kC94 (by omega) rfl) rfl (i := (i) + ((1 : Int))) (x := ((y).2 (66)) (((s9) * ((y).1 (1) 2)) + (((y).2 (89)) (i).toNat)).toNat) (by omega) (by show _ < ((61 : Nat) : Int); exact (by omega)) (kLen_lt _) dX3_read_129 (fun H locs hP hD hS => ?_)
                  rw [ksi kC94] at hP hD
                  refine lv_iinc (v := iI ((i) + (1 : Int))) (lv' := [(6, .int (iI ((i) + (1 : Int)))), (5, .int (iI (((y).2 (66)) (((s9) * ((y).1 (1) 2)) + (((y).2 (89)) (i).toNat)).toNat))), (7, .int (iI (((s9) * ((y).1 (1) 2)) + (((y).2 (89)) (i).toNat)))), (0, .ref (ad (64))), (1, .ref (ad (88))), (2, .ref (ad (94))), (3, .int (iI (f0))), (4, .int (iI (g0)))]) hx hb dX3_read_130 hl (k := 7) rfl (iI_add _ _) (by decide) rfl (fun ls hl => ?_)
                  refine lv_goto (tgt := 31) hx hb dX3_read_133 (by decide) ?_
                  exact ih (kA (y) (94) ((i) + ((1 : Int))).toNat (((y).2 (66)) (((s9) * ((y).1 (1) 2)) + (((y).2 (89)) (i).toNat)).toNat)) (((y).2 (66)) (((s9) * ((y).1 (1) 2)) + (((y).2 (89)) (i).toNat)).toNat) ((i) + (1 : Int)) (km_tr sm (km_a (List.Mem.head _) (km_rf _ _ _))) (iU_all (P := fun z => -1000 ≤ z ∧ z < 320) (by first | exact may.2.2 _ | omega) py) (by first | exact (may.2.2 _).1 | omega) (by first | exact (may.2.2 _).2 | omega) (by omega) (by omega) (by omega) hres _ _ ls hP hD hS (lv_sub hl [3, 4, 5, 6, 7, 1, 0] rfl)
                · skip
                  rw [if_neg c_106] at hres
                  refine lv_aload_n hx hb dX3_read_109 rfl (lv_at hl 4 rfl) ?_
                  refine lv_iload hx hb dX3_read_110 (lv_at hl 7 rfl) ?_
                  refine lv_iconst (v := iI (1 : Int)) hx hb dX3_read_112 (by decide) ?_
                  refine wi_iadd hx hb dX3_read_113 ?_
                  refine wi_iald (f := (y).2 (94)) (n := kLen (94)) hx hb hK hP (94) 0 (kgi kC94 (by omega) rfl) rfl (i := (i) + ((1 : Int))) (by omega) (by show _ < ((61 : Nat) : Int); exact (by omega)) (kLen_lt _) dX3_read_114 ?_
                  refine lv_iload hx hb dX3_read_115 (lv_at hl 0 rfl) ?_
                  refine wi_icmp_ne (tgt := 122) hx hb (by have := py (i + 1).toNat; unfold iR; omega) (by unfold iR; omega) dX3_read_117 (by decide) (fun c_117 => ?_) (fun c_117 => ?_)
                  · skip
                    rw [if_neg c_117] at hres
                    refine lv_aload_n hx hb dX3_read_122 rfl (lv_at hl 4 rfl) ?_
                    refine lv_iload hx hb dX3_read_123 (lv_at hl 7 rfl) ?_
                    refine lv_iconst (v := iI (1 : Int)) hx hb dX3_read_125 (by decide) ?_
                    refine wi_iadd hx hb dX3_read_126 ?_
                    refine lv_iload hx hb dX3_read_127 (lv_at hl 0 rfl) ?_
                    refine wi_iast (f := (y).2 (94)) (n := kLen (94)) hx hb hK hP hD hS (94) 0 (kgi kC94 (by omega) rfl) rfl (i := (i) + ((1 : Int))) (x := ((y).2 (66)) (((s9) * ((y).1 (1) 2)) + (((y).2 (89)) (i).toNat)).toNat) (by omega) (by show _ < ((61 : Nat) : Int); exact (by omega)) (kLen_lt _) dX3_read_129 (fun H locs hP hD hS => ?_)
                    rw [ksi kC94] at hP hD
                    refine lv_iinc (v := iI ((i) + (1 : Int))) (lv' := [(6, .int (iI ((i) + (1 : Int)))), (5, .int (iI (((y).2 (66)) (((s9) * ((y).1 (1) 2)) + (((y).2 (89)) (i).toNat)).toNat))), (7, .int (iI (((s9) * ((y).1 (1) 2)) + (((y).2 (89)) (i).toNat)))), (0, .ref (ad (64))), (1, .ref (ad (88))), (2, .ref (ad (94))), (3, .int (iI (f0))), (4, .int (iI (g0)))]) hx hb dX3_read_130 hl (k := 7) rfl (iI_add _ _) (by decide) rfl (fun ls hl => ?_)
                    refine lv_goto (tgt := 31) hx hb dX3_read_133 (by decide) ?_
                    exact ih (kA (y) (94) ((i) + ((1 : Int))).toNat (((y).2 (66)) (((s9) * ((y).1 (1) 2)) + (((y).2 (89)) (i).toNat)).toNat)) (((y).2 (66)) (((s9) * ((y).1 (1) 2)) + (((y).2 (89)) (i).toNat)).toNat) ((i) + (1 : Int)) (km_tr sm (km_a (List.Mem.head _) (km_rf _ _ _))) (iU_all (P := fun z => -1000 ≤ z ∧ z < 320) (by first | exact may.2.2 _ | omega) py) (by first | exact (may.2.2 _).1 | omega) (by first | exact (may.2.2 _).2 | omega) (by omega) (by omega) (by omega) hres _ _ ls hP hD hS (lv_sub hl [3, 4, 5, 6, 7, 1, 0] rfl)
                  · skip
                    rw [if_pos c_117] at hres
                    refine lv_iconst (v := iI (-1 : Int)) hx hb dX3_read_120 (by decide) ?_
                    exact W.iret (v := iI ((-1 : Int))) hx hb hr (fun t ht hW => ⟨⟨iI ((-1 : Int)), y, rfl, ⟨(by have h9 := congrArg (fun z : Int × KS => iI z.1) hres; exact h9), (by have h9 := congrArg (fun z : Int × KS => z.2) hres; exact h9)⟩, by rw [ht]; exact hP, va_K.moved hW.alike hK, hD⟩, hS.F ht⟩) hS.2.2 dX3_read_121
              · skip
                rw [if_neg c_88] at hres
                refine lv_aload_n hx hb dX3_read_91 rfl (lv_at hl 2 rfl) ?_
                refine lv_iconst (v := iI (-1 : Int)) hx hb dX3_read_92 (by decide) ?_
                refine lv_iload hx hb dX3_read_93 (lv_at hl 0 rfl) ?_
                refine wi_isub hx hb dX3_read_95 ?_
                refine va_put (D := (dC, dI)) (ci := 3) (v := .int (iI (((-1 : Int)) - (((y).2 (66)) (((s9) * ((y).1 (1) 2)) + (((y).2 (89)) (i).toNat)).toNat)))) (ty := .int) (C := RX3) (T := TX3) (N := 10) hx hb hts hinX3 tyX3 tyX3_ok nmX3 hown hK hP hD hS (64) (kg64 (by omega)) rfl 8 (by decide) (hts (.fieldLink RX3 87 "LikeWords$Machine" "met" "I") (by decide +kernel)) (fun _ h9 => h9) rfl (by decide +kernel) rfl rfl (Nat.le_of_ble_eq_true rfl) dX3_read_96 (fun H locs hP hD hS => ?_)
                rw [ks64_8] at hP hD
                refine lv_iload hx hb dX3_read_99 (lv_at hl 7 rfl) ?_
                exact W.iret (v := iI (i)) hx hb hr (fun t ht hW => ⟨⟨iI (i), kS (y) (64) 8 (((-1 : Int)) - (((y).2 (66)) (((s9) * ((y).1 (1) 2)) + (((y).2 (89)) (i).toNat)).toNat)), rfl, ⟨(by have h9 := congrArg (fun z : Int × KS => iI z.1) hres; exact h9), (by have h9 := congrArg (fun z : Int × KS => z.2) hres; exact h9)⟩, by rw [ht]; exact hP, va_K.moved hW.alike hK, hD⟩, hS.F ht⟩) hS.2.2 dX3_read_101
  have key : ∀ (H : Heap) (locs : List Loc), va_P (dC, dI) vwCl (kWd cI cJ cZ cR wl ad M (x)) H → va_S A s.heap H locs → W p l e (headSpec wsX3_read ({ frames := 0, cells := 0, slots := 0, locals := 0 })).room s m ([.ref (ad 64), .ref (ad 88), .ref (ad 94), .int (iI f0), .int (iI g0)] : List Value).toArray below meth c H locs 0 0 (MQ below (va_Qi (fun (r : Int32) (u : KS) => r = iI (F_a_read x f0 g0).1 ∧ u = (F_a_read x f0 g0).2) (kAt dC dI ad cI cJ cZ cR M wl A) A) ([.ref (ad 64), .ref (ad 88), .ref (ad 94), .int (iI f0), .int (iI g0)] : List Value).toArray s 0 0 A) (F0 m 0 ls []) := by
    intro H locs hP hS
    have hres : (if (f0) < (0) then ((-1 : Int), x) else (if ((x).1 (88) 1) < (f0) then ((-1 : Int), x) else (if ((x).1 (88) 1) < ((61 : Int)) then F_a_read_s 70 0 (x) (f0) (g0) (((x).2 (94)) (f0).toNat) (f0) else ((-1 : Int), x)))) = F_a_read x f0 g0 := rfl
    refine lv_iload_n hx hb dX3_read_0 rfl (lv_at hl 3 rfl) ?_
    refine wi_if_lt (tgt := 21) hx hb (by first | assumption | (unfold iR; omega) | exact kR01 (by assumption)) dX3_read_1 (by decide) (fun c_1 => ?_) (fun c_1 => ?_)
    · skip
      rw [if_pos c_1] at hres
      refine lv_iconst (v := iI (-1 : Int)) hx hb dX3_read_21 (by decide) ?_
      exact W.iret (v := iI ((-1 : Int))) hx hb hr (fun t ht hW => ⟨⟨iI ((-1 : Int)), x, rfl, ⟨(by have h9 := congrArg (fun z : Int × KS => iI z.1) hres; exact h9), (by have h9 := congrArg (fun z : Int × KS => z.2) hres; exact h9)⟩, by rw [ht]; exact hP, va_K.moved hW.alike hK, hD⟩, hS.F ht⟩) hS.2.2 dX3_read_22
    · skip
      rw [if_neg c_1] at hres
      refine lv_iload_n hx hb dX3_read_4 rfl (lv_at hl 3 rfl) ?_
      refine lv_aload_n hx hb dX3_read_5 rfl (lv_at hl 1 rfl) ?_
      refine va_get (D := (dC, dI)) (ci := 10) (v := .int (iI ((x).1 (88) 1))) (C := RX10) (T := TX10) (N := 2) hx hb hts hinX10 hown hK hP (88) (kgw rfl (by omega)) rfl 1 (by decide) (hts (.fieldLink RX3 79 "LikeWords$Word" "used" "I") (by decide +kernel)) (fun _ h9 => h9) rfl dX3_read_6 ?_
      refine wi_icmp_gt (tgt := 21) hx hb (by first | assumption | (unfold iR; omega) | exact kR01 (by assumption)) (by first | assumption | (unfold iR; omega) | exact kR01 (by assumption)) dX3_read_9 (by decide) (fun c_9 => ?_) (fun c_9 => ?_)
      · skip
        rw [if_pos c_9] at hres
        refine lv_iconst (v := iI (-1 : Int)) hx hb dX3_read_21 (by decide) ?_
        exact W.iret (v := iI ((-1 : Int))) hx hb hr (fun t ht hW => ⟨⟨iI ((-1 : Int)), x, rfl, ⟨(by have h9 := congrArg (fun z : Int × KS => iI z.1) hres; exact h9), (by have h9 := congrArg (fun z : Int × KS => z.2) hres; exact h9)⟩, by rw [ht]; exact hP, va_K.moved hW.alike hK, hD⟩, hS.F ht⟩) hS.2.2 dX3_read_22
      · skip
        rw [if_neg c_9] at hres
        refine lv_aload_n hx hb dX3_read_12 rfl (lv_at hl 1 rfl) ?_
        refine va_get (D := (dC, dI)) (ci := 10) (v := .int (iI ((x).1 (88) 1))) (C := RX10) (T := TX10) (N := 2) hx hb hts hinX10 hown hK hP (88) (kgw rfl (by omega)) rfl 1 (by decide) (hts (.fieldLink RX3 79 "LikeWords$Word" "used" "I") (by decide +kernel)) (fun _ h9 => h9) rfl dX3_read_13 ?_
        refine lv_aload_n hx hb dX3_read_16 rfl (lv_at hl 2 rfl) ?_
        refine va_alen (v := iI ((61 : Int))) hx hb hK hP (94) 0 (kgi kC94 (by omega) rfl) rfl (iI_nat _) dX3_read_17 ?_
        refine wi_icmp_lt (tgt := 23) hx hb (by first | assumption | (unfold iR; omega) | exact kR01 (by assumption)) ⟨by decide, by decide⟩ dX3_read_18 (by decide) (fun c_18 => ?_) (fun c_18 => ?_)
        · skip
          rw [if_pos c_18] at hres
          refine lv_aload_n hx hb dX3_read_23 rfl (lv_at hl 2 rfl) ?_
          refine lv_iload_n hx hb dX3_read_24 rfl (lv_at hl 3 rfl) ?_
          refine wi_iald (f := (x).2 (94)) (n := kLen (94)) hx hb hK hP (94) 0 (kgi kC94 (by omega) rfl) rfl (i := f0) (by omega) (by show _ < ((61 : Nat) : Int); exact (by omega)) (kLen_lt _) dX3_read_25 ?_
          refine lv_istore (lv' := [(5, .int (iI (((x).2 (94)) (f0).toNat))), (0, .ref (ad (64))), (1, .ref (ad (88))), (2, .ref (ad (94))), (3, .int (iI (f0))), (4, .int (iI (g0)))]) hx hb dX3_read_26 hl (by decide) rfl (fun ls hl => ?_)
          refine lv_iload_n hx hb dX3_read_28 rfl (lv_at hl 4 rfl) ?_
          refine lv_istore (lv' := [(6, .int (iI (f0))), (5, .int (iI (((x).2 (94)) (f0).toNat))), (0, .ref (ad (64))), (1, .ref (ad (88))), (2, .ref (ad (94))), (3, .int (iI (f0))), (4, .int (iI (g0)))]) hx hb dX3_read_29 hl (by decide) rfl (fun ls hl => ?_)
          exact (L (70)) (x) (((x).2 (94)) (f0).toNat) (f0) (km_rf _ _ _) (rp) ((rp _).1) ((rp _).2) (by omega) (by omega) (by omega) hres _ _ ls hP hD hS (lv_sub hl [2, 3, 4, 5, 6, 1, 0] rfl)
        · skip
          rw [if_neg c_18] at hres
          refine lv_iconst (v := iI (-1 : Int)) hx hb dX3_read_21 (by decide) ?_
          exact W.iret (v := iI ((-1 : Int))) hx hb hr (fun t ht hW => ⟨⟨iI ((-1 : Int)), x, rfl, ⟨(by have h9 := congrArg (fun z : Int × KS => iI z.1) hres; exact h9), (by have h9 := congrArg (fun z : Int × KS => z.2) hres; exact h9)⟩, by rw [ht]; exact hP, va_K.moved hW.alike hK, hD⟩, hS.F ht⟩) hS.2.2 dX3_read_22
  exact key _ _ hP hS
theorem F_a_read_sfr  : ∀ n : Nat, (∀ (y : KS) (v0 : Int) (v1 : Int) (v2 : Int) (v3 : Int), ksame [(64, 8)] [94] y (F_a_read_s n 0 y v0 v1 v2 v3).2) := by
  intro n
  induction n with
  | zero => exact fun y _ _ _ _ => km_rf _ _ _
  | succ n ih =>
    skip
    · intro y f0 g0 s9 i
      rw [F_a_read_e0]
      by_cases hc : ((y).1 (88) 1) ≤ (i)
      · rw [if_pos hc]
        exact (km_rf _ _ _)
      · rw [if_neg hc]
        by_cases hc : (((s9) * ((y).1 (1) 2)) + (((y).2 (89)) (i).toNat)) < (0)
        · rw [if_pos hc]
          by_cases hc : (0) ≤ ((0 : Int))
          · rw [if_pos hc]
            by_cases hc : (i) < (g0)
            · rw [if_pos hc]
              exact km_tr ((km_a (List.Mem.head _) (km_rf _ _ _))) (ih (kA (y) (94) ((i) + ((1 : Int))).toNat ((0 : Int))) (f0) (g0) ((0 : Int)) ((i) + (1 : Int)))
            · rw [if_neg hc]
              by_cases hc : (((y).2 (94)) ((i) + ((1 : Int))).toNat) = ((0 : Int))
              · rw [if_pos hc]
                exact (km_rf _ _ _)
              · rw [if_neg hc]
                exact km_tr ((km_a (List.Mem.head _) (km_rf _ _ _))) (ih (kA (y) (94) ((i) + ((1 : Int))).toNat ((0 : Int))) (f0) (g0) ((0 : Int)) ((i) + (1 : Int)))
          · rw [if_neg hc]
            exact (km_s (List.Mem.head _) (km_rf _ _ _))
        · rw [if_neg hc]
          by_cases hc : ((640 : Int)) ≤ (((s9) * ((y).1 (1) 2)) + (((y).2 (89)) (i).toNat))
          · rw [if_pos hc]
            by_cases hc : (0) ≤ ((0 : Int))
            · rw [if_pos hc]
              by_cases hc : (i) < (g0)
              · rw [if_pos hc]
                exact km_tr ((km_a (List.Mem.head _) (km_rf _ _ _))) (ih (kA (y) (94) ((i) + ((1 : Int))).toNat ((0 : Int))) (f0) (g0) ((0 : Int)) ((i) + (1 : Int)))
              · rw [if_neg hc]
                by_cases hc : (((y).2 (94)) ((i) + ((1 : Int))).toNat) = ((0 : Int))
                · rw [if_pos hc]
                  exact (km_rf _ _ _)
                · rw [if_neg hc]
                  exact km_tr ((km_a (List.Mem.head _) (km_rf _ _ _))) (ih (kA (y) (94) ((i) + ((1 : Int))).toNat ((0 : Int))) (f0) (g0) ((0 : Int)) ((i) + (1 : Int)))
            · rw [if_neg hc]
              exact (km_s (List.Mem.head _) (km_rf _ _ _))
          · rw [if_neg hc]
            by_cases hc : (0) ≤ (((y).2 (66)) (((s9) * ((y).1 (1) 2)) + (((y).2 (89)) (i).toNat)).toNat)
            · rw [if_pos hc]
              by_cases hc : (i) < (g0)
              · rw [if_pos hc]
                exact km_tr ((km_a (List.Mem.head _) (km_rf _ _ _))) (ih (kA (y) (94) ((i) + ((1 : Int))).toNat (((y).2 (66)) (((s9) * ((y).1 (1) 2)) + (((y).2 (89)) (i).toNat)).toNat)) (f0) (g0) (((y).2 (66)) (((s9) * ((y).1 (1) 2)) + (((y).2 (89)) (i).toNat)).toNat) ((i) + (1 : Int)))
              · rw [if_neg hc]
                by_cases hc : (((y).2 (94)) ((i) + ((1 : Int))).toNat) = (((y).2 (66)) (((s9) * ((y).1 (1) 2)) + (((y).2 (89)) (i).toNat)).toNat)
                · rw [if_pos hc]
                  exact (km_rf _ _ _)
                · rw [if_neg hc]
                  exact km_tr ((km_a (List.Mem.head _) (km_rf _ _ _))) (ih (kA (y) (94) ((i) + ((1 : Int))).toNat (((y).2 (66)) (((s9) * ((y).1 (1) 2)) + (((y).2 (89)) (i).toNat)).toNat)) (f0) (g0) (((y).2 (66)) (((s9) * ((y).1 (1) 2)) + (((y).2 (89)) (i).toNat)).toNat) ((i) + (1 : Int)))
            · rw [if_neg hc]
              exact (km_s (List.Mem.head _) (km_rf _ _ _))
theorem F_a_read_fr (x : KS) (f0 : Int) (g0 : Int) : ksame [(64, 8)] [94] x (F_a_read x f0 g0).2 := by
  unfold F_a_read
  by_cases hc : (f0) < (0)
  · rw [if_pos hc]
    exact (km_rf _ _ _)
  · rw [if_neg hc]
    by_cases hc : ((x).1 (88) 1) < (f0)
    · rw [if_pos hc]
      exact (km_rf _ _ _)
    · rw [if_neg hc]
      by_cases hc : ((x).1 (88) 1) < ((61 : Int))
      · rw [if_pos hc]
        exact km_tr ((km_rf _ _ _)) ((F_a_read_sfr  (70)) (x) (f0) (g0) (((x).2 (94)) (f0).toNat) (f0))
      · rw [if_neg hc]
        exact (km_rf _ _ _)
theorem F_a_read_q (x : KS) (f0 : Int) (g0 : Int)  : kq [64] [94] x (F_a_read x f0 g0).2 := kq_of (F_a_read_fr x f0 g0) (kq_c (Or.inr (by decide)) kq_m) (kq_c (Or.inr (by decide)) kq_n)
