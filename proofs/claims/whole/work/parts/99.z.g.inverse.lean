-- deps: 99.z.f
theorem wsm_e {x y : MS} (h : ∀ a c : Int, (F_m_next y a c).1 = (F_m_next x a c).1) {f f2 : Int → Int} (hf : ∀ g, f2 g = f g) (g : Int) : ∀ c : Nat, wsm y f2 g c = wsm x f g c := by
  intro c
  induction c with
  | zero => rfl
  | succ c ih => unfold wsm; rw [ih, h, hf]
theorem wN_e {x y : MS} (h : ∀ a c : Int, (F_m_next y a c).1 = (F_m_next x a c).1) (h0 : y.1 0 = x.1 0) : ∀ (j : Nat) (g : Int), wN y j g = wN x j g := by
  intro j
  induction j with
  | zero => intro g; rfl
  | succ j ih => intro g; unfold wN; rw [h0]; exact wsm_e h ih g _
theorem rk1_e {x y : MS} (h : ∀ a c : Int, (F_m_next y a c).1 = (F_m_next x a c).1) (h0 : y.1 0 = x.1 0) : ∀ m : Nat, rk1 y m = rk1 x m := by
  intro m
  induction m with
  | zero => rfl
  | succ m ih => unfold rk1; rw [ih, wN_e h h0]
theorem rk2_e {x y : MS} (h : ∀ a c : Int, (F_m_next y a c).1 = (F_m_next x a c).1) (h0 : y.1 0 = x.1 0) : ∀ (u : List Int) (g : Int), rk2 y g u = rk2 x g u := by
  intro u
  induction u with
  | nil => intro g; rfl
  | cons l t ih => intro g; unfold rk2; rw [wsm_e h (wN_e h h0 t.length), h, ih]
theorem rkV_e {x y : MS} (h : ∀ a c : Int, (F_m_next y a c).1 = (F_m_next x a c).1) (h0 : y.1 0 = x.1 0) (u : List Int) : rkV y u = rkV x u := by unfold rkV; rw [rk1_e h h0, rk2_e h h0]
theorem pick_D {x y : MS} {i9 : Int} (f : slF x y) (mz : mzH x) (cy : cyI x x 31) (hwy : wyR x) (i0 : 0 ≤ i9) (i1 : i9 < 2000) : (iRL i9 ∧ auOK y ∧ 1 ≤ y.1 24 ∧ wyR y ∧ wyOK y) ∧ (((F_m_pick y i9 ((9 : Int))).1 = 0 ∧ (F_m_pick y i9 ((9 : Int))).2 = y ∧ rk1 x 31 ≤ i9) ∨ ((F_m_pick y i9 ((9 : Int))).1 = 1 ∧ slD y (F_m_pick y i9 ((9 : Int))).2 9 ∧ ∃ w, slK x (F_m_pick y i9 ((9 : Int))).2 9 w ∧ w.length ≤ 30 ∧ noL (lM x) (x.1 12).toNat w ∧ rkV x w = i9)) := by
  obtain ⟨my, eL, eR, e12, e0⟩ := mz_e f mz
  have nx : ∀ a c : Int, (F_m_next y a c).1 = (F_m_next x a c).1 := fun a c => nx_same f.1 (by decide) (by decide) (by decide) (by decide) a c
  have e28 : y.2 28 = x.2 28 := f.1.2 28 (by decide)
  have e24 : y.1 24 = x.1 24 := f.1.1 24 List.not_mem_nil
  have auy := plX_auOK my.1
  have st := rkA_b (rkA_0 my.1 [])
  have cyy : cyI y y 31 := fun j g h1 h2 => by rw [e28, wN_e nx e0]; exact cy j g h1 (by omega)
  have wyy : wyR y := by unfold wyR; rw [e28]; exact hwy
  have woy := cy_wyOK auy (sm_rf _ _ _) cyy
  have ri : iRL i9 := by unfold iRL; omega
  refine ⟨⟨ri, auy, by omega, wyy, woy⟩, ?_⟩
  have fr := F_m_pick_fr y i9 ((9 : Int))
  rcases F_m_pick_p y i9 ((9 : Int)) ri i0 (by decide) (by decide) auy (by omega) wyy woy my.1 cyy f.2.1 with ⟨h1, h2, h3⟩ | ⟨h1, h2, h3, h4, h5, h6, h7, h8⟩
  · exact Or.inl ⟨h1, h2, by rw [← rk1_e nx e0]; exact h3⟩
  · refine Or.inr ⟨h1, ⟨sm_mono (by decide) (by decide) fr, h3, fun j hj => by rw [h2]; exact iU_n hj, fun i hi _ => h4 i hi⟩, slM (F_m_pick y i9 ((9 : Int))).2 9, ⟨by rw [h2]; exact iU_s, rfl, by rw [← e0]; exact h6, Nat.le_trans h5 (by decide)⟩, h5, by rw [← eL, ← e12]; exact h7, by rw [← rkV_e nx e0]; exact h8⟩
def ivC (x : MS) (v : List Int) (i : Int) : Prop := ∀ j : Nat, (j : Int) < i → ∃ w d, noL (lM x) (x.1 12).toNat w ∧ w.length ≤ 30 ∧ rkV x w = (j : Int) ∧ v.length + w.length ≤ 60 ∧ nfP x (v ++ w) d ∧ d ≠ []
def ivE (x y : MS) (a : Nat) (i : Int) : Prop := ∃ v, slK x y 10 v ∧ nfP x (slM x a) v ∧ ivC x v i
theorem ivE_s {x y : MS} {a : Nat} {i9 : Int} {v w d : List Int} (i0 : 0 ≤ i9) (kv : slK x y 10 v) (kd : slK x y 12 d) (nv : nfP x (slM x a) v) (iv : ivC x v i9) (h1 : noL (lM x) (x.1 12).toNat w) (h2 : w.length ≤ 30) (h3 : rkV x w = i9) (h4 : v.length + w.length ≤ 60) (h5 : nfP x (v ++ w) d) (h6 : ¬ y.2 1 ((12 : Int)).toNat = 0) : ivE x y a (i9 + (1 : Int)) := by
  refine ⟨v, kv, nv, fun j hj => ?_⟩
  by_cases e : (j : Int) = i9
  · refine ⟨w, d, h1, h2, by rw [h3, e], h4, h5, fun e9 => h6 ?_⟩
    have k1 : y.2 1 ((12 : Int)).toNat = (d.length : Int) := kd.1
    rw [k1, e9]; rfl
  · exact iv j (by omega)
def ivQ (x : MS) (a c0 : Int) (q : Int × MS) : Prop := (¬ ((0 ≤ a ∧ a ≤ 7) ∧ (0 ≤ c0 ∧ c0 ≤ 7)) ∧ q = (-1, x)) ∨ (((0 ≤ a ∧ a ≤ 7) ∧ (0 ≤ c0 ∧ c0 ≤ 7)) ∧ (((F_m_isMachine x).1 = 0 ∧ q = (-3, x)) ∨ (¬ (F_m_isMachine x).1 = 0 ∧ ∃ v, nfP x (slM x a.toNat) v ∧ ∃ i : Int, 0 ≤ i ∧ i ≤ 2000 ∧ ivC x v i ∧ ((q.1 = -9 ∧ slF x q.2 ∧ (i = 2000 ∨ rk1 x 31 ≤ i)) ∨ (i < 2000 ∧ ∃ w, noL (lM x) (x.1 12).toNat w ∧ w.length ≤ 30 ∧ rkV x w = i ∧ ((q.1 = -4 ∧ slF x q.2 ∧ 60 < v.length + w.length) ∨ (v.length + w.length ≤ 60 ∧ nfP x (v ++ w) [] ∧ q.1 = (w.length : Int) ∧ slC x q.2 c0.toNat w)))))))
theorem iv_9 {x y z : MS} {a c0 i9 : Int} (hab : (0 ≤ a ∧ a ≤ 7) ∧ (0 ≤ c0 ∧ c0 ≤ 7)) (hm : ¬ (F_m_isMachine x).1 = 0) (f : slF x y) (ex : ivE x y a.toNat i9) (i0 : 0 ≤ i9) (i1 : i9 ≤ 2000) (h : i9 = 2000 ∨ rk1 x 31 ≤ i9) (ez : z = y) : ivQ x a c0 (-9, z) := by
  obtain ⟨v, kv, nv, iv⟩ := ex
  rw [ez]
  exact Or.inr ⟨hab, Or.inr ⟨hm, v, nv, i9, i0, i1, iv, Or.inl ⟨rfl, f, h⟩⟩⟩
theorem iv_4 {x y : MS} {a c0 i9 : Int} {v w : List Int} (hab : (0 ≤ a ∧ a ≤ 7) ∧ (0 ≤ c0 ∧ c0 ≤ 7)) (hm : ¬ (F_m_isMachine x).1 = 0) (f : slF x y) (nv : nfP x (slM x a.toNat) v) (iv : ivC x v i9) (i0 : 0 ≤ i9) (i1 : i9 < 2000) (h1 : noL (lM x) (x.1 12).toNat w) (h2 : w.length ≤ 30) (h3 : rkV x w = i9) (h4 : 60 < v.length + w.length) : ivQ x a c0 (-4, y) := Or.inr ⟨hab, Or.inr ⟨hm, v, nv, i9, i0, by omega, iv, Or.inr ⟨i1, w, h1, h2, h3, Or.inl ⟨rfl, f, h4⟩⟩⟩⟩
theorem iv_5 {x y : MS} {a c0 i9 : Int} {v w d : List Int} (hab : (0 ≤ a ∧ a ≤ 7) ∧ (0 ≤ c0 ∧ c0 ≤ 7)) (hm : ¬ (F_m_isMachine x).1 = 0) (f : slF x y) (k9 : slK x y 9 w) (kd : slK x y 12 d) (nv : nfP x (slM x a.toNat) v) (iv : ivC x v i9) (i0 : 0 ≤ i9) (i1 : i9 < 2000) (h1 : noL (lM x) (x.1 12).toNat w) (h2 : w.length ≤ 30) (h3 : rkV x w = i9) (h4 : v.length + w.length ≤ 60) (h5 : nfP x (v ++ w) d) (h6 : y.2 1 ((12 : Int)).toNat = 0) : ivQ x a c0 ((F_m_copy y ((9 : Int)) c0).2.2 1 c0.toNat, (F_m_copy y ((9 : Int)) c0).2) := by
  have C := slC_c (c := c0.toNat) f k9 (by omega)
  rw [show (c0.toNat : Int) = c0 by omega] at C
  have k1 : y.2 1 ((12 : Int)).toNat = (d.length : Int) := kd.1
  have e : d = [] := List.eq_nil_of_length_eq_zero (by omega)
  rw [e] at h5
  exact Or.inr ⟨hab, Or.inr ⟨hm, v, nv, i9, i0, by omega, iv, Or.inr ⟨i1, w, h1, h2, h3, Or.inr ⟨h4, h5, C.2.2.2.2.1, C⟩⟩⟩⟩
def F_m_inverse_s : Nat → Nat → MS → Int → Int → Int → Int × MS
  | 0, _, x, _, _, _ => (0, x)
  | n + 1, t, x, p0, p1, p2 => match t with
    | 0 => (fun (a : Int) (c0 : Int) (i9 : Int) => (if ((2000 : Int)) ≤ (i9) then ((-9 : Int), x) else (if ((F_m_pick (x) (i9) ((9 : Int))).1) = (0) then ((-9 : Int), (F_m_pick (x) (i9) ((9 : Int))).2) else (if (((((F_m_pick (x) (i9) ((9 : Int))).2).2 1) ((10 : Int)).toNat) + ((((F_m_pick (x) (i9) ((9 : Int))).2).2 1) ((9 : Int)).toNat)) ≤ ((60 : Int)) then (if ((((F_m_reduceAt ((F_m_append ((F_m_copy ((F_m_pick (x) (i9) ((9 : Int))).2) ((10 : Int)) ((12 : Int))).2) ((12 : Int)) ((9 : Int))).2) ((12 : Int))).2).2 1) ((12 : Int)).toNat) = (0) then ((((F_m_copy ((F_m_reduceAt ((F_m_append ((F_m_copy ((F_m_pick (x) (i9) ((9 : Int))).2) ((10 : Int)) ((12 : Int))).2) ((12 : Int)) ((9 : Int))).2) ((12 : Int))).2) ((9 : Int)) (c0)).2).2 1) (c0).toNat, (F_m_copy ((F_m_reduceAt ((F_m_append ((F_m_copy ((F_m_pick (x) (i9) ((9 : Int))).2) ((10 : Int)) ((12 : Int))).2) ((12 : Int)) ((9 : Int))).2) ((12 : Int))).2) ((9 : Int)) (c0)).2) else F_m_inverse_s n 0 ((F_m_reduceAt ((F_m_append ((F_m_copy ((F_m_pick (x) (i9) ((9 : Int))).2) ((10 : Int)) ((12 : Int))).2) ((12 : Int)) ((9 : Int))).2) ((12 : Int))).2) (a) (c0) ((i9) + (1 : Int))) else ((-4 : Int), (F_m_pick (x) (i9) ((9 : Int))).2))))) p0 p1 p2
    | _ => (0, x)
theorem F_m_inverse_e0 (n : Nat) (x : MS) (a : Int) (c0 : Int) (i9 : Int) : F_m_inverse_s (n + 1) 0 x a c0 i9 = (if ((2000 : Int)) ≤ (i9) then ((-9 : Int), x) else (if ((F_m_pick (x) (i9) ((9 : Int))).1) = (0) then ((-9 : Int), (F_m_pick (x) (i9) ((9 : Int))).2) else (if (((((F_m_pick (x) (i9) ((9 : Int))).2).2 1) ((10 : Int)).toNat) + ((((F_m_pick (x) (i9) ((9 : Int))).2).2 1) ((9 : Int)).toNat)) ≤ ((60 : Int)) then (if ((((F_m_reduceAt ((F_m_append ((F_m_copy ((F_m_pick (x) (i9) ((9 : Int))).2) ((10 : Int)) ((12 : Int))).2) ((12 : Int)) ((9 : Int))).2) ((12 : Int))).2).2 1) ((12 : Int)).toNat) = (0) then ((((F_m_copy ((F_m_reduceAt ((F_m_append ((F_m_copy ((F_m_pick (x) (i9) ((9 : Int))).2) ((10 : Int)) ((12 : Int))).2) ((12 : Int)) ((9 : Int))).2) ((12 : Int))).2) ((9 : Int)) (c0)).2).2 1) (c0).toNat, (F_m_copy ((F_m_reduceAt ((F_m_append ((F_m_copy ((F_m_pick (x) (i9) ((9 : Int))).2) ((10 : Int)) ((12 : Int))).2) ((12 : Int)) ((9 : Int))).2) ((12 : Int))).2) ((9 : Int)) (c0)).2) else F_m_inverse_s n 0 ((F_m_reduceAt ((F_m_append ((F_m_copy ((F_m_pick (x) (i9) ((9 : Int))).2) ((10 : Int)) ((12 : Int))).2) ((12 : Int)) ((9 : Int))).2) ((12 : Int))).2) (a) (c0) ((i9) + (1 : Int))) else ((-4 : Int), (F_m_pick (x) (i9) ((9 : Int))).2)))) := rfl
def F_m_inverse (x : MS) (a : Int) (c0 : Int) : Int × MS := (if ((F_m_isSlot (x) (a)).1) = (0) then ((-1 : Int), x) else (if ((F_m_isSlot (x) (c0)).1) = (0) then ((-1 : Int), x) else (if ((F_m_isMachine (x)).1) = (0) then ((-3 : Int), x) else F_m_inverse_s 3000 0 ((F_m_reduceAt ((F_m_copy (x) (a) ((10 : Int))).2) ((10 : Int))).2) (a) (c0) ((0 : Int)))))
set_option maxHeartbeats 4000000 in
set_option maxRecDepth 100000 in
/-- inverse -/
theorem c_m_inverse (l : Launch) (dC : Nat → ClassId) (dI : Nat → Nat → Nat) (h : Nat) (ad : Nat → Nat) (cI cJ cZ : ClassId) (sz : Nat) (x : MS) (a : Int) (c0 : Int) (ra : iR a) (rc : iR c0) (sn : iR (x.1 6)) (ic : x.1 27 = 0 ∨ x.1 27 = 1) (mz : ¬ (F_m_isMachine x).1 = 0 → mzH x) (hrw : rwR x) (hs : ∀ k : Nat, k < 9 → slH x k) (cy : ¬ (F_m_isMachine x).1 = 0 → cyI x x 31) (hwy : wyR x) : Met l yX12_inverse wsX12_inverse ({ frames := 3, cells := 0, slots := 0, locals := 78 }) (mPc dC dI h ad cI cJ cZ sz x [.ref h, .int (iI a), .int (iI c0)]) (va_Qi (fun (r : Int32) (u : MS) => r = iI (F_m_inverse (x) (a) (c0)).1 ∧ u = (F_m_inverse (x) (a) (c0)).2) (mAt dC dI h ad cI cJ cZ (va_A (mW h ad cI cJ cZ (x)) sz)) (va_A (mW h ad cI cJ cZ (x)) sz)) 0 0 (va_A (mW h ad cI cJ cZ (x)) sz) := by
  refine Met.ofW (cc := cX12_inverse) (maxL := 5) (ret := (some .int)) (by decide) rfl ?_
  intro p e s m args below meth c s₁ B hml hv
  obtain ⟨rfl, hsz, hP, hK, hD0⟩ := hv
  have hx := B.exec
  have hb := B.bytes
  have hr := B.returns
  have hts := atoms_spec (ws := wsX12_inverse) B.pre
  have hown : s.vm.findClass RX12 = some m.cls := findClass_of_methodNamed B.named
  have hlocks := B.notSynchronized
  have hin : ∀ w ∈ u_ws RX12 TX12 34, w ∈ wsX12_inverse := by decide +kernel
  subst hsz
  have hD := hD0.self (sz := s.heap.size)
  generalize hAe : va_A (mW h ad cI cJ cZ (x)) s.heap.size = A at hD ⊢
  have hA : ∀ q : Nat, s.heap.size ≤ q → A q := fun q h => by rw [← hAe]; exact Or.inr h
  have hS : va_S A s.heap s.heap [] := va_S.rf
  have hl := lv_entry ([.ref h, .int (iI a), .int (iI c0)]) (n := 5) (Nat.le_of_ble_eq_true rfl)
  rw [lg_entry_eq]
  generalize (lg_sl ([.ref h, .int (iI a), .int (iI c0)]) ++ List.replicate (5 - (lg_sl ([.ref h, .int (iI a), .int (iI c0)])).length) Slot.unset).toArray = ls at hl ⊢
  have hl : lv_has ls 5 [(0, .ref (h)), (1, .int (iI (a))), (2, .int (iI (c0)))] := hl
  have L : ∀ n : Nat, (∀ (y : MS) (i9 : Int), (slF x y) → (ivE x y a.toNat i9) → (mzH x) → (¬ (F_m_isMachine x).1 = 0) → ((0 ≤ a ∧ a ≤ 7) ∧ (0 ≤ c0 ∧ c0 ≤ 7)) → (0 ≤ i9) → (i9 ≤ 2000) → (2001 - i9 < n) → F_m_inverse_s n 0 y a c0 i9 = F_m_inverse (x) (a) (c0) → ∀ (H : Heap) (locs : List Loc) (ls : Array Slot), va_P (dC, dI) vwCl (mW h ad cI cJ cZ (y)) H → va_D A (mW h ad cI cJ cZ (y)) → va_S A s.heap H locs → lv_has ls 5 [(0, .ref (h)), (1, .int (iI (a))), (2, .int (iI (c0))), (3, .int (iI (i9)))] → W p l e (headSpec wsX12_inverse ({ frames := 3, cells := 0, slots := 0, locals := 78 })).room s m ([.ref h, .int (iI a), .int (iI c0)] : List Value).toArray below meth c H locs 0 0 (MQ below (va_Qi (fun (r : Int32) (u : MS) => r = iI (F_m_inverse (x) (a) (c0)).1 ∧ u = (F_m_inverse (x) (a) (c0)).2) (mAt dC dI h ad cI cJ cZ A) A) ([.ref h, .int (iI a), .int (iI c0)] : List Value).toArray s 0 0 A) (F0 m 41 ls [])) := by
    intro n
    induction n with
    | zero =>
      skip
      · intro y i9 fy ex mz0 hm1 hab i0 i1 fu hres
        exact absurd fu (by omega)
    | succ n ih =>
      skip
      · intro y i9 fy ex mz0 hm1 hab i0 i1 fu hres H locs ls hP hD hS hl
        rw [F_m_inverse_e0] at hres
        refine lv_iload_n hx hb dX12_inverse_41 rfl (lv_at hl 3 rfl) ?_
        refine lv_sipush (v := iI (2000 : Int)) hx hb dX12_inverse_42 (by decide) ?_
        refine wi_icmp_ge (tgt := 141) hx hb (by first | assumption | (unfold iR; omega) | exact F_R01 (by assumption)) ⟨by decide, by decide⟩ dX12_inverse_45 (by decide) (fun c_45 => ?_) (fun c_45 => ?_)
        · skip
          rw [if_pos c_45] at hres
          refine lv_bipush (v := iI (-9 : Int)) hx hb dX12_inverse_141 (by decide) ?_
          exact W.iret (v := iI ((-9 : Int))) hx hb hr (fun t ht hW => ⟨⟨iI ((-9 : Int)), y, rfl, ⟨(by have h9 := congrArg (fun z : Int × MS => iI z.1) hres; exact h9), (by have h9 := congrArg (fun z : Int × MS => z.2) hres; exact h9)⟩, by rw [ht]; exact hP, va_K.moved hW.alike hK, hD⟩, hS.F ht⟩) hS.2.2 dX12_inverse_143
        · skip
          rw [if_neg c_45] at hres
          obtain ⟨v0, kv, nv, iv⟩ := id ex
          have pd := pick_D fy mz0 (cy hm1) hwy i0 (show i9 < 2000 by omega)
          have p01 := F_m_pick_01 y i9 ((9 : Int))
          refine lv_aload_n hx hb dX12_inverse_48 rfl (lv_at hl 0 rfl) ?_
          refine lv_iload_n hx hb dX12_inverse_49 rfl (lv_at hl 3 rfl) ?_
          refine wi_i2l hx hb (by first | assumption | (unfold iR; omega) | exact F_R01 (by assumption)) dX12_inverse_50 ?_
          refine lv_bipush (v := iI (9 : Int)) hx hb dX12_inverse_51 (by decide) ?_
          have hFc : ∀ q, va_A (mW h ad cI cJ cZ (y)) H.size q → A q := fun q hq => Or.elim hq (fun ⟨k, e, hk⟩ => hD.2 k (q, e) hk) (fun hk => hA q (Nat.le_trans hS.1 hk))
          refine va_calli (va_runV (As := [.long (iL (i9)), .int (iI ((9 : Int)))]) (rest := []) ⟨hx, hb, hml, hown, hts⟩ (c_m_pick l dC dI h ad cI cJ cZ H.size (y) (i9) ((9 : Int)) pd.1.1 i0 (by decide) (by decide) pd.1.2.1 pd.1.2.2.1 pd.1.2.2.2.1 pd.1.2.2.2.2) (cwV 2 hts gX12_inverse_X12_pick rfl rfl rfl (by decide +kernel) ⟨Nat.le_of_ble_eq_true rfl, Nat.le_of_ble_eq_true rfl⟩) ⟨fun a U g mk q => by obtain ⟨q0, q1, qP, qK, qD⟩ := q; exact ⟨q0, q1, qP, va_K.moved (u := U) (U := U.calling g mk a) (Vm.Alike.refl U.vm) qK, qD⟩, va_recv hK hP (ci := 12) (q0 := 0) rfl rfl, fun U hU hW => ⟨rfl, by rw [hU], by rw [hU]; exact hP, va_K.moved hW.alike hK, hD.weaken (fun _ _ _ _ => trivial)⟩⟩ rfl rfl hl.1 rfl (lv_room (Nat.le_of_ble_eq_true rfl)) dX12_inverse_53 ⟨Nat.le_of_ble_eq_true rfl, Nat.le_of_ble_eq_true rfl⟩) hS (fun q _ h => hFc q h) hFc (fun r9 u9 t H1 locs ht hvm hw hB hz1 hk1 hS => ?_)
          obtain ⟨hP1, hK1, hD1⟩ := hB
          rw [ht] at hP1
          obtain ⟨hw1, hw2⟩ := hw
          rw [hw2] at hP1 hD1
          rw [hw1]
          have hD2 := hD1.weaken (B := A) (fun _ q _ h => hFc q.1 h)
          have hP := hP1
          have hD := hD2
          generalize H1 = H at hP hS ⊢
          refine wi_if_ne (tgt := 62) hx hb (F_R01 p01) dX12_inverse_56 (by decide) (fun c_56 => ?_) (fun c_56 => ?_)
          · skip
            rw [if_neg c_56] at hres
            obtain ⟨_, d4, w0, k4, wl, wn, wr⟩ := pd.2.resolve_left (fun h9 => c_56 h9.1)
            have f4 : slF x ((F_m_pick (y) (i9) ((9 : Int))).2) := slD_F fy d4 (by decide)
            have kv4 : slK x ((F_m_pick (y) (i9) ((9 : Int))).2) 10 v0 := slD_K d4 (by decide) (by decide) kv
            have k49 : slK x ((F_m_pick (y) (i9) ((9 : Int))).2) 9 w0 := k4
            have vl := kv4.2.2.2
            have z49 : ((F_m_pick (y) (i9) ((9 : Int))).2).2 1 ((9 : Int)).toNat = (w0.length : Int) := k49.1
            have z410 : ((F_m_pick (y) (i9) ((9 : Int))).2).2 1 ((10 : Int)).toNat = (v0.length : Int) := kv4.1
            refine lv_aload_n hx hb dX12_inverse_62 rfl (lv_at hl 0 rfl) ?_
            refine va_get (D := (dC, dI)) (ci := 12) (v := .ref (ad 1)) (C := RX12) (T := TX12) (N := 34) hx hb hts hin hown hK hP 0 rfl rfl 1 (by decide) (hts (.fieldLink RX12 13 "LikeWordsModel" "size" "[I") (by decide +kernel)) (fun _ h9 => h9) rfl dX12_inverse_63 ?_
            refine lv_bipush (v := iI (10 : Int)) hx hb dX12_inverse_66 (by decide) ?_
            refine wi_iald (f := ((F_m_pick (y) (i9) ((9 : Int))).2).2 1) hx hb hK hP 1 0 rfl rfl (i := (10 : Int)) (by omega) (by omega) (by decide) dX12_inverse_68 ?_
            refine lv_istore (lv' := [(4, .int (iI ((((F_m_pick (y) (i9) ((9 : Int))).2).2 1) ((10 : Int)).toNat))), (0, .ref (h)), (1, .int (iI (a))), (2, .int (iI (c0))), (3, .int (iI (i9)))]) hx hb dX12_inverse_69 hl (by decide) rfl (fun ls hl => ?_)
            refine lv_iload hx hb dX12_inverse_71 (lv_at hl 0 rfl) ?_
            refine lv_aload_n hx hb dX12_inverse_73 rfl (lv_at hl 1 rfl) ?_
            refine va_get (D := (dC, dI)) (ci := 12) (v := .ref (ad 1)) (C := RX12) (T := TX12) (N := 34) hx hb hts hin hown hK hP 0 rfl rfl 1 (by decide) (hts (.fieldLink RX12 13 "LikeWordsModel" "size" "[I") (by decide +kernel)) (fun _ h9 => h9) rfl dX12_inverse_74 ?_
            refine lv_bipush (v := iI (9 : Int)) hx hb dX12_inverse_77 (by decide) ?_
            refine wi_iald (f := ((F_m_pick (y) (i9) ((9 : Int))).2).2 1) hx hb hK hP 1 0 rfl rfl (i := (9 : Int)) (by omega) (by omega) (by decide) dX12_inverse_79 ?_
            refine wi_iadd hx hb dX12_inverse_80 ?_
            refine lv_bipush (v := iI (60 : Int)) hx hb dX12_inverse_81 (by decide) ?_
            refine wi_icmp_le (tgt := 89) hx hb (by first | assumption | (unfold iR; omega) | exact F_R01 (by assumption)) ⟨by decide, by decide⟩ dX12_inverse_83 (by decide) (fun c_83 => ?_) (fun c_83 => ?_)
            · skip
              rw [if_pos c_83] at hres
              refine lv_aload_n hx hb dX12_inverse_89 rfl (lv_at hl 1 rfl) ?_
              refine lv_bipush (v := iI (10 : Int)) hx hb dX12_inverse_90 (by decide) ?_
              refine lv_bipush (v := iI (12 : Int)) hx hb dX12_inverse_92 (by decide) ?_
              have hFc : ∀ q, va_A (mW h ad cI cJ cZ ((F_m_pick (y) (i9) ((9 : Int))).2)) H.size q → A q := fun q hq => Or.elim hq (fun ⟨k, e, hk⟩ => hD.2 k (q, e) hk) (fun hk => hA q (Nat.le_trans hS.1 hk))
              refine va_callv (va_runV (As := [.int (iI ((10 : Int))), .int (iI ((12 : Int)))]) (rest := []) ⟨hx, hb, hml, hown, hts⟩ (c_m_copy l dC dI h ad cI cJ cZ H.size ((F_m_pick (y) (i9) ((9 : Int))).2) ((10 : Int)) ((12 : Int)) (by decide) (by decide) (by decide) (by decide) (by omega) (by omega)) (cwV 2 hts gX12_inverse_X12_copy rfl rfl rfl (by decide +kernel) ⟨Nat.le_of_ble_eq_true rfl, Nat.le_of_ble_eq_true rfl⟩) ⟨fun a U g mk q => by obtain ⟨q0, q1, qP, qK, qD⟩ := q; exact ⟨q0, q1, qP, va_K.moved (u := U) (U := U.calling g mk a) (Vm.Alike.refl U.vm) qK, qD⟩, va_recv hK hP (ci := 12) (q0 := 0) rfl rfl, fun U hU hW => ⟨rfl, by rw [hU], by rw [hU]; exact hP, va_K.moved hW.alike hK, hD.weaken (fun _ _ _ _ => trivial)⟩⟩ rfl rfl hl.1 rfl (lv_room (Nat.le_of_ble_eq_true rfl)) dX12_inverse_94 ⟨Nat.le_of_ble_eq_true rfl, Nat.le_of_ble_eq_true rfl⟩) hS (fun q _ h => hFc q h) hFc (fun u9 t H1 locs ht hvm hw hB hz1 hk1 hS => ?_)
              obtain ⟨hP1, hK1, hD1⟩ := hB
              rw [ht] at hP1
              rw [hw] at hP1 hD1
              have hD2 := hD1.weaken (B := A) (fun _ q _ h => hFc q.1 h)
              have hP := hP1
              have hD := hD2
              generalize H1 = H at hP hS ⊢
              have d5 : slD ((F_m_pick (y) (i9) ((9 : Int))).2) ((F_m_copy ((F_m_pick (y) (i9) ((9 : Int))).2) ((10 : Int)) ((12 : Int))).2) 12 ∧ slK x ((F_m_copy ((F_m_pick (y) (i9) ((9 : Int))).2) ((10 : Int)) ((12 : Int))).2) 12 v0 := copy_D (x := x) (a := 10) (b := 12) f4.2.1 kv4 (by decide) (by decide)
              have f5 := slD_F f4 d5.1 (by decide)
              have k5 := slD_K d5.1 (by decide) (by decide) k49
              have kv5 := slD_K d5.1 (by decide) (by decide) kv4
              have z59 : ((F_m_copy ((F_m_pick (y) (i9) ((9 : Int))).2) ((10 : Int)) ((12 : Int))).2).2 1 ((9 : Int)).toNat = (w0.length : Int) := k5.1
              have z512 : ((F_m_copy ((F_m_pick (y) (i9) ((9 : Int))).2) ((10 : Int)) ((12 : Int))).2).2 1 ((12 : Int)).toNat = (v0.length : Int) := d5.2.1
              refine lv_aload_n hx hb dX12_inverse_97 rfl (lv_at hl 1 rfl) ?_
              refine lv_bipush (v := iI (12 : Int)) hx hb dX12_inverse_98 (by decide) ?_
              refine lv_bipush (v := iI (9 : Int)) hx hb dX12_inverse_100 (by decide) ?_
              have hFc : ∀ q, va_A (mW h ad cI cJ cZ ((F_m_copy ((F_m_pick (y) (i9) ((9 : Int))).2) ((10 : Int)) ((12 : Int))).2)) H.size q → A q := fun q hq => Or.elim hq (fun ⟨k, e, hk⟩ => hD.2 k (q, e) hk) (fun hk => hA q (Nat.le_trans hS.1 hk))
              refine va_callv (va_runV (As := [.int (iI ((12 : Int))), .int (iI ((9 : Int)))]) (rest := []) ⟨hx, hb, hml, hown, hts⟩ (c_m_append l dC dI h ad cI cJ cZ H.size ((F_m_copy ((F_m_pick (y) (i9) ((9 : Int))).2) ((10 : Int)) ((12 : Int))).2) ((12 : Int)) ((9 : Int)) (by decide) (by decide) (by decide) (by decide) (by omega) (by omega) (by omega)) (cwV 2 hts gX12_inverse_X12_append rfl rfl rfl (by decide +kernel) ⟨Nat.le_of_ble_eq_true rfl, Nat.le_of_ble_eq_true rfl⟩) ⟨fun a U g mk q => by obtain ⟨q0, q1, qP, qK, qD⟩ := q; exact ⟨q0, q1, qP, va_K.moved (u := U) (U := U.calling g mk a) (Vm.Alike.refl U.vm) qK, qD⟩, va_recv hK hP (ci := 12) (q0 := 0) rfl rfl, fun U hU hW => ⟨rfl, by rw [hU], by rw [hU]; exact hP, va_K.moved hW.alike hK, hD.weaken (fun _ _ _ _ => trivial)⟩⟩ rfl rfl hl.1 rfl (lv_room (Nat.le_of_ble_eq_true rfl)) dX12_inverse_102 ⟨Nat.le_of_ble_eq_true rfl, Nat.le_of_ble_eq_true rfl⟩) hS (fun q _ h => hFc q h) hFc (fun u9 t H1 locs ht hvm hw hB hz1 hk1 hS => ?_)
              obtain ⟨hP1, hK1, hD1⟩ := hB
              rw [ht] at hP1
              rw [hw] at hP1 hD1
              have hD2 := hD1.weaken (B := A) (fun _ q _ h => hFc q.1 h)
              have hP := hP1
              have hD := hD2
              generalize H1 = H at hP hS ⊢
              have d6 : slD ((F_m_copy ((F_m_pick (y) (i9) ((9 : Int))).2) ((10 : Int)) ((12 : Int))).2) ((F_m_append ((F_m_copy ((F_m_pick (y) (i9) ((9 : Int))).2) ((10 : Int)) ((12 : Int))).2) ((12 : Int)) ((9 : Int))).2) 12 ∧ slK x ((F_m_append ((F_m_copy ((F_m_pick (y) (i9) ((9 : Int))).2) ((10 : Int)) ((12 : Int))).2) ((12 : Int)) ((9 : Int))).2) 12 (v0 ++ w0) := app_D (x := x) (a := 12) (b := 9) f5.2.1 d5.2 k5 (by decide) (by decide) (by decide) (by omega)
              have f6 := slD_F f5 d6.1 (by decide)
              have k6 := slD_K d6.1 (by decide) (by decide) k5
              have kv6 := slD_K d6.1 (by decide) (by decide) kv5
              have r6 := slH_r f6 mz0 d6.2 (by decide) (by decide)
              refine lv_aload_n hx hb dX12_inverse_105 rfl (lv_at hl 1 rfl) ?_
              refine lv_bipush (v := iI (12 : Int)) hx hb dX12_inverse_106 (by decide) ?_
              have hFc : ∀ q, va_A (mW h ad cI cJ cZ ((F_m_append ((F_m_copy ((F_m_pick (y) (i9) ((9 : Int))).2) ((10 : Int)) ((12 : Int))).2) ((12 : Int)) ((9 : Int))).2)) H.size q → A q := fun q hq => Or.elim hq (fun ⟨k, e, hk⟩ => hD.2 k (q, e) hk) (fun hk => hA q (Nat.le_trans hS.1 hk))
              refine va_callv (va_runV (As := [.int (iI ((12 : Int)))]) (rest := []) ⟨hx, hb, hml, hown, hts⟩ (c_m_reduceAt l dC dI h ad cI cJ cZ H.size ((F_m_append ((F_m_copy ((F_m_pick (y) (i9) ((9 : Int))).2) ((10 : Int)) ((12 : Int))).2) ((12 : Int)) ((9 : Int))).2) ((12 : Int)) (by omega) (by omega) (by omega) r6.1.2.1.1 r6.1.2.1.2 r6.1.2.2.1 r6.1.2.2.2.1 r6.1.2.2.2.2) (cwV 1 hts gX12_inverse_X12_reduceAt rfl rfl rfl (by decide +kernel) ⟨Nat.le_of_ble_eq_true rfl, Nat.le_of_ble_eq_true rfl⟩) ⟨fun a U g mk q => by obtain ⟨q0, q1, qP, qK, qD⟩ := q; exact ⟨q0, q1, qP, va_K.moved (u := U) (U := U.calling g mk a) (Vm.Alike.refl U.vm) qK, qD⟩, va_recv hK hP (ci := 12) (q0 := 0) rfl rfl, fun U hU hW => ⟨rfl, by rw [hU], by rw [hU]; exact hP, va_K.moved hW.alike hK, hD.weaken (fun _ _ _ _ => trivial)⟩⟩ rfl rfl hl.1 rfl (lv_room (Nat.le_of_ble_eq_true rfl)) dX12_inverse_108 ⟨Nat.le_of_ble_eq_true rfl, Nat.le_of_ble_eq_true rfl⟩) hS (fun q _ h => hFc q h) hFc (fun u9 t H1 locs ht hvm hw hB hz1 hk1 hS => ?_)
              obtain ⟨hP1, hK1, hD1⟩ := hB
              rw [ht] at hP1
              rw [hw] at hP1 hD1
              have hD2 := hD1.weaken (B := A) (fun _ q _ h => hFc q.1 h)
              have hP := hP1
              have hD := hD2
              generalize H1 = H at hP hS ⊢
              obtain ⟨d7, dd, k7, n7⟩ := red_D f6 mz0 d6.2 (by decide) (by decide)
              have f7 : slF x ((F_m_reduceAt ((F_m_append ((F_m_copy ((F_m_pick (y) (i9) ((9 : Int))).2) ((10 : Int)) ((12 : Int))).2) ((12 : Int)) ((9 : Int))).2) ((12 : Int))).2) := slD_F f6 d7 (by decide)
              have k712 : slK x ((F_m_reduceAt ((F_m_append ((F_m_copy ((F_m_pick (y) (i9) ((9 : Int))).2) ((10 : Int)) ((12 : Int))).2) ((12 : Int)) ((9 : Int))).2) ((12 : Int))).2) 12 dd := k7
              have k79 : slK x ((F_m_reduceAt ((F_m_append ((F_m_copy ((F_m_pick (y) (i9) ((9 : Int))).2) ((10 : Int)) ((12 : Int))).2) ((12 : Int)) ((9 : Int))).2) ((12 : Int))).2) 9 w0 := slD_K d7 (by decide) (by decide) k6
              have kv7 : slK x ((F_m_reduceAt ((F_m_append ((F_m_copy ((F_m_pick (y) (i9) ((9 : Int))).2) ((10 : Int)) ((12 : Int))).2) ((12 : Int)) ((9 : Int))).2) ((12 : Int))).2) 10 v0 := slD_K d7 (by decide) (by decide) kv6
              have dl7 := k712.2.2.2
              have z79 : ((F_m_reduceAt ((F_m_append ((F_m_copy ((F_m_pick (y) (i9) ((9 : Int))).2) ((10 : Int)) ((12 : Int))).2) ((12 : Int)) ((9 : Int))).2) ((12 : Int))).2).2 1 ((9 : Int)).toNat = (w0.length : Int) := k79.1
              have z712 : ((F_m_reduceAt ((F_m_append ((F_m_copy ((F_m_pick (y) (i9) ((9 : Int))).2) ((10 : Int)) ((12 : Int))).2) ((12 : Int)) ((9 : Int))).2) ((12 : Int))).2).2 1 ((12 : Int)).toNat = (dd.length : Int) := k712.1
              refine lv_aload_n hx hb dX12_inverse_111 rfl (lv_at hl 1 rfl) ?_
              refine va_get (D := (dC, dI)) (ci := 12) (v := .ref (ad 1)) (C := RX12) (T := TX12) (N := 34) hx hb hts hin hown hK hP 0 rfl rfl 1 (by decide) (hts (.fieldLink RX12 13 "LikeWordsModel" "size" "[I") (by decide +kernel)) (fun _ h9 => h9) rfl dX12_inverse_112 ?_
              refine lv_bipush (v := iI (12 : Int)) hx hb dX12_inverse_115 (by decide) ?_
              refine wi_iald (f := ((F_m_reduceAt ((F_m_append ((F_m_copy ((F_m_pick (y) (i9) ((9 : Int))).2) ((10 : Int)) ((12 : Int))).2) ((12 : Int)) ((9 : Int))).2) ((12 : Int))).2).2 1) hx hb hK hP 1 0 rfl rfl (i := (12 : Int)) (by omega) (by omega) (by decide) dX12_inverse_117 ?_
              refine wi_if_ne (tgt := 135) hx hb (by first | assumption | (unfold iR; omega) | exact F_R01 (by assumption)) dX12_inverse_118 (by decide) (fun c_118 => ?_) (fun c_118 => ?_)
              · skip
                rw [if_neg c_118] at hres
                refine lv_iinc (v := iI ((i9) + (1 : Int))) (lv' := [(3, .int (iI ((i9) + (1 : Int)))), (4, .int (iI ((((F_m_pick (y) (i9) ((9 : Int))).2).2 1) ((10 : Int)).toNat))), (0, .ref (h)), (1, .int (iI (a))), (2, .int (iI (c0)))]) hx hb dX12_inverse_135 hl (k := 4) rfl (iI_add _ _) (by decide) rfl (fun ls hl => ?_)
                refine lv_goto (tgt := 41) hx hb dX12_inverse_138 (by decide) ?_
                exact ih ((F_m_reduceAt ((F_m_append ((F_m_copy ((F_m_pick (y) (i9) ((9 : Int))).2) ((10 : Int)) ((12 : Int))).2) ((12 : Int)) ((9 : Int))).2) ((12 : Int))).2) ((i9) + (1 : Int)) (f7) (ivE_s i0 kv7 k712 nv iv wn wl wr (by omega) n7 c_118) (mz0) (hm1) (hab) (by omega) (by omega) (by omega) hres _ _ ls hP hD hS (lv_sub hl [2, 3, 4, 0] rfl)
              · skip
                rw [if_pos c_118] at hres
                refine lv_aload_n hx hb dX12_inverse_121 rfl (lv_at hl 1 rfl) ?_
                refine lv_bipush (v := iI (9 : Int)) hx hb dX12_inverse_122 (by decide) ?_
                refine lv_iload_n hx hb dX12_inverse_124 rfl (lv_at hl 3 rfl) ?_
                have hFc : ∀ q, va_A (mW h ad cI cJ cZ ((F_m_reduceAt ((F_m_append ((F_m_copy ((F_m_pick (y) (i9) ((9 : Int))).2) ((10 : Int)) ((12 : Int))).2) ((12 : Int)) ((9 : Int))).2) ((12 : Int))).2)) H.size q → A q := fun q hq => Or.elim hq (fun ⟨k, e, hk⟩ => hD.2 k (q, e) hk) (fun hk => hA q (Nat.le_trans hS.1 hk))
                refine va_callv (va_runV (As := [.int (iI ((9 : Int))), .int (iI (c0))]) (rest := []) ⟨hx, hb, hml, hown, hts⟩ (c_m_copy l dC dI h ad cI cJ cZ H.size ((F_m_reduceAt ((F_m_append ((F_m_copy ((F_m_pick (y) (i9) ((9 : Int))).2) ((10 : Int)) ((12 : Int))).2) ((12 : Int)) ((9 : Int))).2) ((12 : Int))).2) ((9 : Int)) (c0) (by decide) (by decide) (by omega) (by omega) (by omega) (by omega)) (cwV 2 hts gX12_inverse_X12_copy rfl rfl rfl (by decide +kernel) ⟨Nat.le_of_ble_eq_true rfl, Nat.le_of_ble_eq_true rfl⟩) ⟨fun a U g mk q => by obtain ⟨q0, q1, qP, qK, qD⟩ := q; exact ⟨q0, q1, qP, va_K.moved (u := U) (U := U.calling g mk a) (Vm.Alike.refl U.vm) qK, qD⟩, va_recv hK hP (ci := 12) (q0 := 0) rfl rfl, fun U hU hW => ⟨rfl, by rw [hU], by rw [hU]; exact hP, va_K.moved hW.alike hK, hD.weaken (fun _ _ _ _ => trivial)⟩⟩ rfl rfl hl.1 rfl (lv_room (Nat.le_of_ble_eq_true rfl)) dX12_inverse_125 ⟨Nat.le_of_ble_eq_true rfl, Nat.le_of_ble_eq_true rfl⟩) hS (fun q _ h => hFc q h) hFc (fun u9 t H1 locs ht hvm hw hB hz1 hk1 hS => ?_)
                obtain ⟨hP1, hK1, hD1⟩ := hB
                rw [ht] at hP1
                rw [hw] at hP1 hD1
                have hD2 := hD1.weaken (B := A) (fun _ q _ h => hFc q.1 h)
                have hP := hP1
                have hD := hD2
                generalize H1 = H at hP hS ⊢
                refine lv_aload_n hx hb dX12_inverse_128 rfl (lv_at hl 1 rfl) ?_
                refine va_get (D := (dC, dI)) (ci := 12) (v := .ref (ad 1)) (C := RX12) (T := TX12) (N := 34) hx hb hts hin hown hK hP 0 rfl rfl 1 (by decide) (hts (.fieldLink RX12 13 "LikeWordsModel" "size" "[I") (by decide +kernel)) (fun _ h9 => h9) rfl dX12_inverse_129 ?_
                refine lv_iload_n hx hb dX12_inverse_132 rfl (lv_at hl 3 rfl) ?_
                refine wi_iald (f := ((F_m_copy ((F_m_reduceAt ((F_m_append ((F_m_copy ((F_m_pick (y) (i9) ((9 : Int))).2) ((10 : Int)) ((12 : Int))).2) ((12 : Int)) ((9 : Int))).2) ((12 : Int))).2) ((9 : Int)) (c0)).2).2 1) hx hb hK hP 1 0 rfl rfl (i := c0) (by omega) (by omega) (by decide) dX12_inverse_133 ?_
                exact W.iret (v := iI ((((F_m_copy ((F_m_reduceAt ((F_m_append ((F_m_copy ((F_m_pick (y) (i9) ((9 : Int))).2) ((10 : Int)) ((12 : Int))).2) ((12 : Int)) ((9 : Int))).2) ((12 : Int))).2) ((9 : Int)) (c0)).2).2 1) (c0).toNat)) hx hb hr (fun t ht hW => ⟨⟨iI ((((F_m_copy ((F_m_reduceAt ((F_m_append ((F_m_copy ((F_m_pick (y) (i9) ((9 : Int))).2) ((10 : Int)) ((12 : Int))).2) ((12 : Int)) ((9 : Int))).2) ((12 : Int))).2) ((9 : Int)) (c0)).2).2 1) (c0).toNat), (F_m_copy ((F_m_reduceAt ((F_m_append ((F_m_copy ((F_m_pick (y) (i9) ((9 : Int))).2) ((10 : Int)) ((12 : Int))).2) ((12 : Int)) ((9 : Int))).2) ((12 : Int))).2) ((9 : Int)) (c0)).2, rfl, ⟨(by have h9 := congrArg (fun z : Int × MS => iI z.1) hres; exact h9), (by have h9 := congrArg (fun z : Int × MS => z.2) hres; exact h9)⟩, by rw [ht]; exact hP, va_K.moved hW.alike hK, hD⟩, hS.F ht⟩) hS.2.2 dX12_inverse_134
            · skip
              rw [if_neg c_83] at hres
              refine lv_bipush (v := iI (-4 : Int)) hx hb dX12_inverse_86 (by decide) ?_
              exact W.iret (v := iI ((-4 : Int))) hx hb hr (fun t ht hW => ⟨⟨iI ((-4 : Int)), (F_m_pick (y) (i9) ((9 : Int))).2, rfl, ⟨(by have h9 := congrArg (fun z : Int × MS => iI z.1) hres; exact h9), (by have h9 := congrArg (fun z : Int × MS => z.2) hres; exact h9)⟩, by rw [ht]; exact hP, va_K.moved hW.alike hK, hD⟩, hS.F ht⟩) hS.2.2 dX12_inverse_88
          · skip
            rw [if_pos c_56] at hres
            refine lv_bipush (v := iI (-9 : Int)) hx hb dX12_inverse_59 (by decide) ?_
            exact W.iret (v := iI ((-9 : Int))) hx hb hr (fun t ht hW => ⟨⟨iI ((-9 : Int)), (F_m_pick (y) (i9) ((9 : Int))).2, rfl, ⟨(by have h9 := congrArg (fun z : Int × MS => iI z.1) hres; exact h9), (by have h9 := congrArg (fun z : Int × MS => z.2) hres; exact h9)⟩, by rw [ht]; exact hP, va_K.moved hW.alike hK, hD⟩, hS.F ht⟩) hS.2.2 dX12_inverse_61
  have key : ∀ (H : Heap) (locs : List Loc), va_P (dC, dI) vwCl (mW h ad cI cJ cZ (x)) H → va_S A s.heap H locs → W p l e (headSpec wsX12_inverse ({ frames := 3, cells := 0, slots := 0, locals := 78 })).room s m ([.ref h, .int (iI a), .int (iI c0)] : List Value).toArray below meth c H locs 0 0 (MQ below (va_Qi (fun (r : Int32) (u : MS) => r = iI (F_m_inverse (x) (a) (c0)).1 ∧ u = (F_m_inverse (x) (a) (c0)).2) (mAt dC dI h ad cI cJ cZ A) A) ([.ref h, .int (iI a), .int (iI c0)] : List Value).toArray s 0 0 A) (F0 m 0 ls []) := by
    intro H locs hP hS
    have hres : (if ((F_m_isSlot (x) (a)).1) = (0) then ((-1 : Int), x) else (if ((F_m_isSlot (x) (c0)).1) = (0) then ((-1 : Int), x) else (if ((F_m_isMachine (x)).1) = (0) then ((-3 : Int), x) else F_m_inverse_s 3000 0 ((F_m_reduceAt ((F_m_copy (x) (a) ((10 : Int))).2) ((10 : Int))).2) (a) (c0) ((0 : Int))))) = F_m_inverse (x) (a) (c0) := rfl
    refine lv_iload_n hx hb dX12_inverse_0 rfl (lv_at hl 1 rfl) ?_
    have hFc : ∀ q, va_A (mW h ad cI cJ cZ (x)) H.size q → A q := fun q hq => Or.elim hq (fun ⟨k, e, hk⟩ => hD.2 k (q, e) hk) (fun hk => hA q (Nat.le_trans hS.1 hk))
    refine va_calli (va_runS (As := [.int (iI (a))]) (rest := []) ⟨hx, hb, hml, hown, hts⟩ (c_m_isSlot l dC dI h ad cI cJ cZ H.size (x) (a) (by first | assumption | exact iR_L (by assumption) | exact ⟨by decide, by decide⟩ | omega | (unfold iR; omega) | (unfold iRL; omega))) (va_cwS 1 hts gX12_inverse_X12_isSlot rfl rfl rfl (by decide +kernel) ⟨Nat.le_of_ble_eq_true rfl, Nat.le_of_ble_eq_true rfl⟩) ⟨fun a U g mk q => by obtain ⟨q0, q1, qP, qK, qD⟩ := q; exact ⟨q0, q1, qP, va_K.moved (u := U) (U := U.calling g mk a) (Vm.Alike.refl U.vm) qK, qD⟩, fun U hU hW => ⟨rfl, by rw [hU], by rw [hU]; exact hP, va_K.moved hW.alike hK, hD.weaken (fun _ _ _ _ => trivial)⟩⟩ rfl rfl hl.1 rfl (lv_room (Nat.le_of_ble_eq_true rfl)) dX12_inverse_1 ⟨Nat.le_of_ble_eq_true rfl, Nat.le_of_ble_eq_true rfl⟩) hS (fun q _ h => hFc q h) hFc (fun r9 u9 t H1 locs ht hvm hw hB hz1 hk1 hS => ?_)
    obtain ⟨hP1, hK1, hD1⟩ := hB
    rw [ht] at hP1
    obtain ⟨hw1, hw2⟩ := hw
    rw [hw2] at hP1 hD1
    rw [hw1]
    rw [F_m_isSlot_2] at hP1 hD1
    have hD2 := hD1.weaken (B := A) (fun _ q _ h => hFc q.1 h)
    have hP := hP1
    have hD := hD2
    generalize H1 = H at hP hS ⊢
    refine wi_if_eq (tgt := 14) hx hb (by rw [F_m_isSlot_1]; exact F_R01 (F_in_01 _ _ _)) dX12_inverse_4 (by decide) (fun c_4 => ?_) (fun c_4 => ?_)
    · skip
      rw [if_pos c_4] at hres
      refine lv_iconst (v := iI (-1 : Int)) hx hb dX12_inverse_14 (by decide) ?_
      exact W.iret (v := iI ((-1 : Int))) hx hb hr (fun t ht hW => ⟨⟨iI ((-1 : Int)), x, rfl, ⟨(by have h9 := congrArg (fun z : Int × MS => iI z.1) hres; exact h9), (by have h9 := congrArg (fun z : Int × MS => z.2) hres; exact h9)⟩, by rw [ht]; exact hP, va_K.moved hW.alike hK, hD⟩, hS.F ht⟩) hS.2.2 dX12_inverse_15
    · skip
      rw [if_neg c_4] at hres
      refine lv_iload_n hx hb dX12_inverse_7 rfl (lv_at hl 2 rfl) ?_
      have hFc : ∀ q, va_A (mW h ad cI cJ cZ (x)) H.size q → A q := fun q hq => Or.elim hq (fun ⟨k, e, hk⟩ => hD.2 k (q, e) hk) (fun hk => hA q (Nat.le_trans hS.1 hk))
      refine va_calli (va_runS (As := [.int (iI (c0))]) (rest := []) ⟨hx, hb, hml, hown, hts⟩ (c_m_isSlot l dC dI h ad cI cJ cZ H.size (x) (c0) (by first | assumption | exact iR_L (by assumption) | exact ⟨by decide, by decide⟩ | omega | (unfold iR; omega) | (unfold iRL; omega))) (va_cwS 1 hts gX12_inverse_X12_isSlot rfl rfl rfl (by decide +kernel) ⟨Nat.le_of_ble_eq_true rfl, Nat.le_of_ble_eq_true rfl⟩) ⟨fun a U g mk q => by obtain ⟨q0, q1, qP, qK, qD⟩ := q; exact ⟨q0, q1, qP, va_K.moved (u := U) (U := U.calling g mk a) (Vm.Alike.refl U.vm) qK, qD⟩, fun U hU hW => ⟨rfl, by rw [hU], by rw [hU]; exact hP, va_K.moved hW.alike hK, hD.weaken (fun _ _ _ _ => trivial)⟩⟩ rfl rfl hl.1 rfl (lv_room (Nat.le_of_ble_eq_true rfl)) dX12_inverse_8 ⟨Nat.le_of_ble_eq_true rfl, Nat.le_of_ble_eq_true rfl⟩) hS (fun q _ h => hFc q h) hFc (fun r9 u9 t H1 locs ht hvm hw hB hz1 hk1 hS => ?_)
      obtain ⟨hP1, hK1, hD1⟩ := hB
      rw [ht] at hP1
      obtain ⟨hw1, hw2⟩ := hw
      rw [hw2] at hP1 hD1
      rw [hw1]
      rw [F_m_isSlot_2] at hP1 hD1
      have hD2 := hD1.weaken (B := A) (fun _ q _ h => hFc q.1 h)
      have hP := hP1
      have hD := hD2
      generalize H1 = H at hP hS ⊢
      refine wi_if_ne (tgt := 16) hx hb (by rw [F_m_isSlot_1]; exact F_R01 (F_in_01 _ _ _)) dX12_inverse_11 (by decide) (fun c_11 => ?_) (fun c_11 => ?_)
      · skip
        rw [if_neg c_11] at hres
        obtain ⟨a0, a1⟩ := F_in_1 (by rw [← F_m_isSlot_1 x a]; exact c_4)
        obtain ⟨c00, c01⟩ := F_in_1 (by rw [← F_m_isSlot_1 x c0]; exact c_11)
        refine lv_aload_n hx hb dX12_inverse_16 rfl (lv_at hl 0 rfl) ?_
        have hFc : ∀ q, va_A (mW h ad cI cJ cZ (x)) H.size q → A q := fun q hq => Or.elim hq (fun ⟨k, e, hk⟩ => hD.2 k (q, e) hk) (fun hk => hA q (Nat.le_trans hS.1 hk))
        refine va_calli (va_runV (As := []) (rest := []) ⟨hx, hb, hml, hown, hts⟩ (c_m_isMachine l dC dI h ad cI cJ cZ H.size (x)  sn ic) (cwV 0 hts gX12_inverse_X12_isMachine rfl rfl rfl (by decide +kernel) ⟨Nat.le_of_ble_eq_true rfl, Nat.le_of_ble_eq_true rfl⟩) ⟨fun a U g mk q => by obtain ⟨q0, q1, qP, qK, qD⟩ := q; exact ⟨q0, q1, qP, va_K.moved (u := U) (U := U.calling g mk a) (Vm.Alike.refl U.vm) qK, qD⟩, va_recv hK hP (ci := 12) (q0 := 0) rfl rfl, fun U hU hW => ⟨rfl, by rw [hU], by rw [hU]; exact hP, va_K.moved hW.alike hK, hD.weaken (fun _ _ _ _ => trivial)⟩⟩ rfl rfl hl.1 rfl (lv_room (Nat.le_of_ble_eq_true rfl)) dX12_inverse_17 ⟨Nat.le_of_ble_eq_true rfl, Nat.le_of_ble_eq_true rfl⟩) hS (fun q _ h => hFc q h) hFc (fun r9 u9 t H1 locs ht hvm hw hB hz1 hk1 hS => ?_)
        obtain ⟨hP1, hK1, hD1⟩ := hB
        rw [ht] at hP1
        obtain ⟨hw1, hw2⟩ := hw
        rw [hw2] at hP1 hD1
        rw [hw1]
        rw [F_m_isMachine_2] at hP1 hD1
        have hD2 := hD1.weaken (B := A) (fun _ q _ h => hFc q.1 h)
        have hP := hP1
        have hD := hD2
        generalize H1 = H at hP hS ⊢
        refine wi_if_ne (tgt := 26) hx hb (F_R01 (F_m_isMachine_01 x)) dX12_inverse_20 (by decide) (fun c_20 => ?_) (fun c_20 => ?_)
        · skip
          rw [if_neg c_20] at hres
          have mz0 := mz c_20
          have zb := (hs a.toNat (by omega)).1
          have f0 := slF_0 hrw
          refine lv_aload_n hx hb dX12_inverse_26 rfl (lv_at hl 0 rfl) ?_
          refine lv_iload_n hx hb dX12_inverse_27 rfl (lv_at hl 1 rfl) ?_
          refine lv_bipush (v := iI (10 : Int)) hx hb dX12_inverse_28 (by decide) ?_
          have hFc : ∀ q, va_A (mW h ad cI cJ cZ (x)) H.size q → A q := fun q hq => Or.elim hq (fun ⟨k, e, hk⟩ => hD.2 k (q, e) hk) (fun hk => hA q (Nat.le_trans hS.1 hk))
          refine va_callv (va_runV (As := [.int (iI (a)), .int (iI ((10 : Int)))]) (rest := []) ⟨hx, hb, hml, hown, hts⟩ (c_m_copy l dC dI h ad cI cJ cZ H.size (x) (a) ((10 : Int)) (by omega) (by omega) (by omega) (by omega) (by omega) (by omega)) (cwV 2 hts gX12_inverse_X12_copy rfl rfl rfl (by decide +kernel) ⟨Nat.le_of_ble_eq_true rfl, Nat.le_of_ble_eq_true rfl⟩) ⟨fun a U g mk q => by obtain ⟨q0, q1, qP, qK, qD⟩ := q; exact ⟨q0, q1, qP, va_K.moved (u := U) (U := U.calling g mk a) (Vm.Alike.refl U.vm) qK, qD⟩, va_recv hK hP (ci := 12) (q0 := 0) rfl rfl, fun U hU hW => ⟨rfl, by rw [hU], by rw [hU]; exact hP, va_K.moved hW.alike hK, hD.weaken (fun _ _ _ _ => trivial)⟩⟩ rfl rfl hl.1 rfl (lv_room (Nat.le_of_ble_eq_true rfl)) dX12_inverse_30 ⟨Nat.le_of_ble_eq_true rfl, Nat.le_of_ble_eq_true rfl⟩) hS (fun q _ h => hFc q h) hFc (fun u9 t H1 locs ht hvm hw hB hz1 hk1 hS => ?_)
          obtain ⟨hP1, hK1, hD1⟩ := hB
          rw [ht] at hP1
          rw [hw] at hP1 hD1
          have hD2 := hD1.weaken (B := A) (fun _ q _ h => hFc q.1 h)
          have hP := hP1
          have hD := hD2
          generalize H1 = H at hP hS ⊢
          have d1 : slD (x) ((F_m_copy (x) (a) ((10 : Int))).2) 10 ∧ slK x ((F_m_copy (x) (a) ((10 : Int))).2) 10 (slM x a.toNat) := by
            have h9 := copy_D (x := x) (a := a.toNat) (b := 10) f0.2.1 (slF_H f0 (by omega) (hs a.toNat (by omega))) (by omega) (by omega)
            rw [show (a.toNat : Int) = a by omega] at h9
            exact h9
          have f1 := slD_F f0 d1.1 (by decide)
          have r1 := slH_r f1 mz0 d1.2 (by omega) (by omega)
          refine lv_aload_n hx hb dX12_inverse_33 rfl (lv_at hl 0 rfl) ?_
          refine lv_bipush (v := iI (10 : Int)) hx hb dX12_inverse_34 (by decide) ?_
          have hFc : ∀ q, va_A (mW h ad cI cJ cZ ((F_m_copy (x) (a) ((10 : Int))).2)) H.size q → A q := fun q hq => Or.elim hq (fun ⟨k, e, hk⟩ => hD.2 k (q, e) hk) (fun hk => hA q (Nat.le_trans hS.1 hk))
          refine va_callv (va_runV (As := [.int (iI ((10 : Int)))]) (rest := []) ⟨hx, hb, hml, hown, hts⟩ (c_m_reduceAt l dC dI h ad cI cJ cZ H.size ((F_m_copy (x) (a) ((10 : Int))).2) ((10 : Int)) (by omega) (by omega) (by omega) r1.1.2.1.1 r1.1.2.1.2 r1.1.2.2.1 r1.1.2.2.2.1 r1.1.2.2.2.2) (cwV 1 hts gX12_inverse_X12_reduceAt rfl rfl rfl (by decide +kernel) ⟨Nat.le_of_ble_eq_true rfl, Nat.le_of_ble_eq_true rfl⟩) ⟨fun a U g mk q => by obtain ⟨q0, q1, qP, qK, qD⟩ := q; exact ⟨q0, q1, qP, va_K.moved (u := U) (U := U.calling g mk a) (Vm.Alike.refl U.vm) qK, qD⟩, va_recv hK hP (ci := 12) (q0 := 0) rfl rfl, fun U hU hW => ⟨rfl, by rw [hU], by rw [hU]; exact hP, va_K.moved hW.alike hK, hD.weaken (fun _ _ _ _ => trivial)⟩⟩ rfl rfl hl.1 rfl (lv_room (Nat.le_of_ble_eq_true rfl)) dX12_inverse_36 ⟨Nat.le_of_ble_eq_true rfl, Nat.le_of_ble_eq_true rfl⟩) hS (fun q _ h => hFc q h) hFc (fun u9 t H1 locs ht hvm hw hB hz1 hk1 hS => ?_)
          obtain ⟨hP1, hK1, hD1⟩ := hB
          rw [ht] at hP1
          rw [hw] at hP1 hD1
          have hD2 := hD1.weaken (B := A) (fun _ q _ h => hFc q.1 h)
          have hP := hP1
          have hD := hD2
          generalize H1 = H at hP hS ⊢
          obtain ⟨e1, w1, kv1, nv1⟩ := red_D f1 mz0 d1.2 (by omega) (by omega)
          have g1 : slF x ((F_m_reduceAt ((F_m_copy (x) (a) ((10 : Int))).2) ((10 : Int))).2) := slD_F f1 e1 (by decide)
          refine lv_iconst (v := iI (0 : Int)) hx hb dX12_inverse_39 (by decide) ?_
          refine lv_istore_n (lv' := [(3, .int (iI ((0 : Int)))), (0, .ref (h)), (1, .int (iI (a))), (2, .int (iI (c0)))]) hx hb dX12_inverse_40 rfl hl (by decide) rfl (fun ls hl => ?_)
          exact (L (3000)) ((F_m_reduceAt ((F_m_copy (x) (a) ((10 : Int))).2) ((10 : Int))).2) ((0 : Int)) (g1) (⟨w1, kv1, nv1, fun j hj => by omega⟩) (mz0) (c_20) (by omega) (by omega) (by omega) (by omega) hres _ _ ls hP hD hS (lv_sub hl [1, 2, 3, 0] rfl)
        · skip
          rw [if_pos c_20] at hres
          refine lv_bipush (v := iI (-3 : Int)) hx hb dX12_inverse_23 (by decide) ?_
          exact W.iret (v := iI ((-3 : Int))) hx hb hr (fun t ht hW => ⟨⟨iI ((-3 : Int)), x, rfl, ⟨(by have h9 := congrArg (fun z : Int × MS => iI z.1) hres; exact h9), (by have h9 := congrArg (fun z : Int × MS => z.2) hres; exact h9)⟩, by rw [ht]; exact hP, va_K.moved hW.alike hK, hD⟩, hS.F ht⟩) hS.2.2 dX12_inverse_25
      · skip
        rw [if_pos c_11] at hres
        refine lv_iconst (v := iI (-1 : Int)) hx hb dX12_inverse_14 (by decide) ?_
        exact W.iret (v := iI ((-1 : Int))) hx hb hr (fun t ht hW => ⟨⟨iI ((-1 : Int)), x, rfl, ⟨(by have h9 := congrArg (fun z : Int × MS => iI z.1) hres; exact h9), (by have h9 := congrArg (fun z : Int × MS => z.2) hres; exact h9)⟩, by rw [ht]; exact hP, va_K.moved hW.alike hK, hD⟩, hS.F ht⟩) hS.2.2 dX12_inverse_15
  exact key _ _ hP hS
theorem F_m_inverse_sfr : ∀ n : Nat, (∀ (y : MS) (v0 : Int) (v1 : Int) (v2 : Int), same [] [1, 2, 26] y (F_m_inverse_s n 0 y v0 v1 v2).2) := by
  intro n
  induction n with
  | zero => exact fun y _ _ _ => sm_rf _ _ _
  | succ n ih =>
    skip
    · intro y a c0 i9
      rw [F_m_inverse_e0]
      by_cases hc : ((2000 : Int)) ≤ (i9)
      · rw [if_pos hc]
        exact (sm_rf _ _ _)
      · rw [if_neg hc]
        by_cases hc : ((F_m_pick (y) (i9) ((9 : Int))).1) = (0)
        · rw [if_pos hc]
          exact (sm_tr (sm_rf _ _ _) (sm_mono (by decide) (by decide) (F_m_pick_fr (y) (i9) ((9 : Int)))))
        · rw [if_neg hc]
          by_cases hc : (((((F_m_pick (y) (i9) ((9 : Int))).2).2 1) ((10 : Int)).toNat) + ((((F_m_pick (y) (i9) ((9 : Int))).2).2 1) ((9 : Int)).toNat)) ≤ ((60 : Int))
          · rw [if_pos hc]
            by_cases hc : ((((F_m_reduceAt ((F_m_append ((F_m_copy ((F_m_pick (y) (i9) ((9 : Int))).2) ((10 : Int)) ((12 : Int))).2) ((12 : Int)) ((9 : Int))).2) ((12 : Int))).2).2 1) ((12 : Int)).toNat) = (0)
            · rw [if_pos hc]
              exact (sm_tr (sm_tr (sm_tr (sm_tr (sm_tr (sm_rf _ _ _) (sm_mono (by decide) (by decide) (F_m_pick_fr (y) (i9) ((9 : Int))))) (sm_mono (by decide) (by decide) (F_m_copy_fr ((F_m_pick (y) (i9) ((9 : Int))).2) ((10 : Int)) ((12 : Int))))) (sm_mono (by decide) (by decide) (F_m_append_fr ((F_m_copy ((F_m_pick (y) (i9) ((9 : Int))).2) ((10 : Int)) ((12 : Int))).2) ((12 : Int)) ((9 : Int))))) (sm_mono (by decide) (by decide) (F_m_reduceAt_fr ((F_m_append ((F_m_copy ((F_m_pick (y) (i9) ((9 : Int))).2) ((10 : Int)) ((12 : Int))).2) ((12 : Int)) ((9 : Int))).2) ((12 : Int))))) (sm_mono (by decide) (by decide) (F_m_copy_fr ((F_m_reduceAt ((F_m_append ((F_m_copy ((F_m_pick (y) (i9) ((9 : Int))).2) ((10 : Int)) ((12 : Int))).2) ((12 : Int)) ((9 : Int))).2) ((12 : Int))).2) ((9 : Int)) (c0))))
            · rw [if_neg hc]
              exact sm_tr ((sm_tr (sm_tr (sm_tr (sm_tr (sm_rf _ _ _) (sm_mono (by decide) (by decide) (F_m_pick_fr (y) (i9) ((9 : Int))))) (sm_mono (by decide) (by decide) (F_m_copy_fr ((F_m_pick (y) (i9) ((9 : Int))).2) ((10 : Int)) ((12 : Int))))) (sm_mono (by decide) (by decide) (F_m_append_fr ((F_m_copy ((F_m_pick (y) (i9) ((9 : Int))).2) ((10 : Int)) ((12 : Int))).2) ((12 : Int)) ((9 : Int))))) (sm_mono (by decide) (by decide) (F_m_reduceAt_fr ((F_m_append ((F_m_copy ((F_m_pick (y) (i9) ((9 : Int))).2) ((10 : Int)) ((12 : Int))).2) ((12 : Int)) ((9 : Int))).2) ((12 : Int)))))) (ih ((F_m_reduceAt ((F_m_append ((F_m_copy ((F_m_pick (y) (i9) ((9 : Int))).2) ((10 : Int)) ((12 : Int))).2) ((12 : Int)) ((9 : Int))).2) ((12 : Int))).2) (a) (c0) ((i9) + (1 : Int)))
          · rw [if_neg hc]
            exact (sm_tr (sm_rf _ _ _) (sm_mono (by decide) (by decide) (F_m_pick_fr (y) (i9) ((9 : Int)))))
theorem F_m_inverse_fr (x : MS) (a : Int) (c0 : Int) : same [] [1, 2, 26] x (F_m_inverse (x) (a) (c0)).2 := by
  unfold F_m_inverse
  by_cases hc : ((F_m_isSlot (x) (a)).1) = (0)
  · rw [if_pos hc]
    exact (sm_rf _ _ _)
  · rw [if_neg hc]
    by_cases hc : ((F_m_isSlot (x) (c0)).1) = (0)
    · rw [if_pos hc]
      exact (sm_rf _ _ _)
    · rw [if_neg hc]
      by_cases hc : ((F_m_isMachine (x)).1) = (0)
      · rw [if_pos hc]
        exact (sm_rf _ _ _)
      · rw [if_neg hc]
        exact sm_tr ((sm_tr (sm_tr (sm_rf _ _ _) (sm_mono (by decide) (by decide) (F_m_copy_fr (x) (a) ((10 : Int))))) (sm_mono (by decide) (by decide) (F_m_reduceAt_fr ((F_m_copy (x) (a) ((10 : Int))).2) ((10 : Int)))))) ((F_m_inverse_sfr 3000) ((F_m_reduceAt ((F_m_copy (x) (a) ((10 : Int))).2) ((10 : Int))).2) (a) (c0) ((0 : Int)))
set_option maxHeartbeats 4000000 in
theorem F_m_inverse_p (x : MS) (a : Int) (c0 : Int) (ra : iR a) (rc : iR c0) (sn : iR (x.1 6)) (ic : x.1 27 = 0 ∨ x.1 27 = 1) (mz : ¬ (F_m_isMachine x).1 = 0 → mzH x) (hrw : rwR x) (hs : ∀ k : Nat, k < 9 → slH x k) (cy : ¬ (F_m_isMachine x).1 = 0 → cyI x x 31) (hwy : wyR x) : ivQ x a c0 (F_m_inverse (x) (a) (c0)) := by
  have L : ∀ n : Nat, (∀ (y : MS) (i9 : Int), (slF x y) → (ivE x y a.toNat i9) → (mzH x) → (¬ (F_m_isMachine x).1 = 0) → ((0 ≤ a ∧ a ≤ 7) ∧ (0 ≤ c0 ∧ c0 ≤ 7)) → (0 ≤ i9) → (i9 ≤ 2000) → (2001 - i9 < n) → ivQ x a c0 (F_m_inverse_s n 0 y a c0 i9)) := by
    intro n
    induction n with
    | zero =>
      skip
      · intro y i9 fy ex mz0 hm1 hab i0 i1 fu
        exact absurd fu (by omega)
    | succ n ih =>
      skip
      · intro y i9 fy ex mz0 hm1 hab i0 i1 fu
        rw [F_m_inverse_e0]
        by_cases c_45 : ((2000 : Int)) ≤ (i9)
        · rw [if_pos c_45]
          exact iv_9 hab hm1 fy ex i0 i1 (by omega) rfl
        · rw [if_neg c_45]
          obtain ⟨v0, kv, nv, iv⟩ := id ex
          have pd := pick_D fy mz0 (cy hm1) hwy i0 (show i9 < 2000 by omega)
          have p01 := F_m_pick_01 y i9 ((9 : Int))
          by_cases c_56 : ((F_m_pick (y) (i9) ((9 : Int))).1) = (0)
          · rw [if_pos c_56]
            exact (by rcases pd.2 with h9 | h9; exact iv_9 hab hm1 fy ex i0 i1 (Or.inr h9.2.2) h9.2.1; (exfalso; have h8 := h9.1; omega))
          · rw [if_neg c_56]
            obtain ⟨_, d4, w0, k4, wl, wn, wr⟩ := pd.2.resolve_left (fun h9 => c_56 h9.1)
            have f4 : slF x ((F_m_pick (y) (i9) ((9 : Int))).2) := slD_F fy d4 (by decide)
            have kv4 : slK x ((F_m_pick (y) (i9) ((9 : Int))).2) 10 v0 := slD_K d4 (by decide) (by decide) kv
            have k49 : slK x ((F_m_pick (y) (i9) ((9 : Int))).2) 9 w0 := k4
            have vl := kv4.2.2.2
            have z49 : ((F_m_pick (y) (i9) ((9 : Int))).2).2 1 ((9 : Int)).toNat = (w0.length : Int) := k49.1
            have z410 : ((F_m_pick (y) (i9) ((9 : Int))).2).2 1 ((10 : Int)).toNat = (v0.length : Int) := kv4.1
            by_cases c_83 : (((((F_m_pick (y) (i9) ((9 : Int))).2).2 1) ((10 : Int)).toNat) + ((((F_m_pick (y) (i9) ((9 : Int))).2).2 1) ((9 : Int)).toNat)) ≤ ((60 : Int))
            · rw [if_pos c_83]
              have d5 : slD ((F_m_pick (y) (i9) ((9 : Int))).2) ((F_m_copy ((F_m_pick (y) (i9) ((9 : Int))).2) ((10 : Int)) ((12 : Int))).2) 12 ∧ slK x ((F_m_copy ((F_m_pick (y) (i9) ((9 : Int))).2) ((10 : Int)) ((12 : Int))).2) 12 v0 := copy_D (x := x) (a := 10) (b := 12) f4.2.1 kv4 (by decide) (by decide)
              have f5 := slD_F f4 d5.1 (by decide)
              have k5 := slD_K d5.1 (by decide) (by decide) k49
              have kv5 := slD_K d5.1 (by decide) (by decide) kv4
              have z59 : ((F_m_copy ((F_m_pick (y) (i9) ((9 : Int))).2) ((10 : Int)) ((12 : Int))).2).2 1 ((9 : Int)).toNat = (w0.length : Int) := k5.1
              have z512 : ((F_m_copy ((F_m_pick (y) (i9) ((9 : Int))).2) ((10 : Int)) ((12 : Int))).2).2 1 ((12 : Int)).toNat = (v0.length : Int) := d5.2.1
              have d6 : slD ((F_m_copy ((F_m_pick (y) (i9) ((9 : Int))).2) ((10 : Int)) ((12 : Int))).2) ((F_m_append ((F_m_copy ((F_m_pick (y) (i9) ((9 : Int))).2) ((10 : Int)) ((12 : Int))).2) ((12 : Int)) ((9 : Int))).2) 12 ∧ slK x ((F_m_append ((F_m_copy ((F_m_pick (y) (i9) ((9 : Int))).2) ((10 : Int)) ((12 : Int))).2) ((12 : Int)) ((9 : Int))).2) 12 (v0 ++ w0) := app_D (x := x) (a := 12) (b := 9) f5.2.1 d5.2 k5 (by decide) (by decide) (by decide) (by omega)
              have f6 := slD_F f5 d6.1 (by decide)
              have k6 := slD_K d6.1 (by decide) (by decide) k5
              have kv6 := slD_K d6.1 (by decide) (by decide) kv5
              have r6 := slH_r f6 mz0 d6.2 (by decide) (by decide)
              obtain ⟨d7, dd, k7, n7⟩ := red_D f6 mz0 d6.2 (by decide) (by decide)
              have f7 : slF x ((F_m_reduceAt ((F_m_append ((F_m_copy ((F_m_pick (y) (i9) ((9 : Int))).2) ((10 : Int)) ((12 : Int))).2) ((12 : Int)) ((9 : Int))).2) ((12 : Int))).2) := slD_F f6 d7 (by decide)
              have k712 : slK x ((F_m_reduceAt ((F_m_append ((F_m_copy ((F_m_pick (y) (i9) ((9 : Int))).2) ((10 : Int)) ((12 : Int))).2) ((12 : Int)) ((9 : Int))).2) ((12 : Int))).2) 12 dd := k7
              have k79 : slK x ((F_m_reduceAt ((F_m_append ((F_m_copy ((F_m_pick (y) (i9) ((9 : Int))).2) ((10 : Int)) ((12 : Int))).2) ((12 : Int)) ((9 : Int))).2) ((12 : Int))).2) 9 w0 := slD_K d7 (by decide) (by decide) k6
              have kv7 : slK x ((F_m_reduceAt ((F_m_append ((F_m_copy ((F_m_pick (y) (i9) ((9 : Int))).2) ((10 : Int)) ((12 : Int))).2) ((12 : Int)) ((9 : Int))).2) ((12 : Int))).2) 10 v0 := slD_K d7 (by decide) (by decide) kv6
              have dl7 := k712.2.2.2
              have z79 : ((F_m_reduceAt ((F_m_append ((F_m_copy ((F_m_pick (y) (i9) ((9 : Int))).2) ((10 : Int)) ((12 : Int))).2) ((12 : Int)) ((9 : Int))).2) ((12 : Int))).2).2 1 ((9 : Int)).toNat = (w0.length : Int) := k79.1
              have z712 : ((F_m_reduceAt ((F_m_append ((F_m_copy ((F_m_pick (y) (i9) ((9 : Int))).2) ((10 : Int)) ((12 : Int))).2) ((12 : Int)) ((9 : Int))).2) ((12 : Int))).2).2 1 ((12 : Int)).toNat = (dd.length : Int) := k712.1
              by_cases c_118 : ((((F_m_reduceAt ((F_m_append ((F_m_copy ((F_m_pick (y) (i9) ((9 : Int))).2) ((10 : Int)) ((12 : Int))).2) ((12 : Int)) ((9 : Int))).2) ((12 : Int))).2).2 1) ((12 : Int)).toNat) = (0)
              · rw [if_pos c_118]
                exact iv_5 hab hm1 f7 k79 k712 nv iv i0 (by omega) wn wl wr (by omega) n7 c_118
              · rw [if_neg c_118]
                exact ih ((F_m_reduceAt ((F_m_append ((F_m_copy ((F_m_pick (y) (i9) ((9 : Int))).2) ((10 : Int)) ((12 : Int))).2) ((12 : Int)) ((9 : Int))).2) ((12 : Int))).2) ((i9) + (1 : Int)) (f7) (ivE_s i0 kv7 k712 nv iv wn wl wr (by omega) n7 c_118) (mz0) (hm1) (hab) (by omega) (by omega) (by omega)
            · rw [if_neg c_83]
              exact iv_4 hab hm1 f4 nv iv i0 (by omega) wn wl wr (by omega)
  unfold F_m_inverse
  by_cases c_4 : ((F_m_isSlot (x) (a)).1) = (0)
  · rw [if_pos c_4]
    exact Or.inl ⟨by first | (have h9 := F_in_00 (by rw [← F_m_isSlot_1 x c0]; exact c_11); omega) | (have h9 := F_in_00 (by rw [← F_m_isSlot_1 x a]; exact c_4); omega), rfl⟩
  · rw [if_neg c_4]
    by_cases c_11 : ((F_m_isSlot (x) (c0)).1) = (0)
    · rw [if_pos c_11]
      exact Or.inl ⟨by first | (have h9 := F_in_00 (by rw [← F_m_isSlot_1 x c0]; exact c_11); omega) | (have h9 := F_in_00 (by rw [← F_m_isSlot_1 x a]; exact c_4); omega), rfl⟩
    · rw [if_neg c_11]
      obtain ⟨a0, a1⟩ := F_in_1 (by rw [← F_m_isSlot_1 x a]; exact c_4)
      obtain ⟨c00, c01⟩ := F_in_1 (by rw [← F_m_isSlot_1 x c0]; exact c_11)
      by_cases c_20 : ((F_m_isMachine (x)).1) = (0)
      · rw [if_pos c_20]
        exact Or.inr ⟨by omega, Or.inl ⟨c_20, rfl⟩⟩
      · rw [if_neg c_20]
        have mz0 := mz c_20
        have zb := (hs a.toNat (by omega)).1
        have f0 := slF_0 hrw
        have d1 : slD (x) ((F_m_copy (x) (a) ((10 : Int))).2) 10 ∧ slK x ((F_m_copy (x) (a) ((10 : Int))).2) 10 (slM x a.toNat) := by
          have h9 := copy_D (x := x) (a := a.toNat) (b := 10) f0.2.1 (slF_H f0 (by omega) (hs a.toNat (by omega))) (by omega) (by omega)
          rw [show (a.toNat : Int) = a by omega] at h9
          exact h9
        have f1 := slD_F f0 d1.1 (by decide)
        have r1 := slH_r f1 mz0 d1.2 (by omega) (by omega)
        obtain ⟨e1, w1, kv1, nv1⟩ := red_D f1 mz0 d1.2 (by omega) (by omega)
        have g1 : slF x ((F_m_reduceAt ((F_m_copy (x) (a) ((10 : Int))).2) ((10 : Int))).2) := slD_F f1 e1 (by decide)
        exact (L (3000)) ((F_m_reduceAt ((F_m_copy (x) (a) ((10 : Int))).2) ((10 : Int))).2) ((0 : Int)) (g1) (⟨w1, kv1, nv1, fun j hj => by omega⟩) (mz0) (c_20) (by omega) (by omega) (by omega) (by omega)
