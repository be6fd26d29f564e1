-- deps: 99.z.d
def rk1 (x : MS) : Nat → Int
  | 0 => 0
  | m + 1 => rk1 x m + wN x m 0
def rk2 (x : MS) : Int → List Int → Int
  | _, [] => 0
  | g, l :: t => wsm x (wN x t.length) g l.toNat + rk2 x (F_m_next x g l).1 t
def rkV (x : MS) (u : List Int) : Int := rk1 x u.length + rk2 x 0 u
def rkA (x : MS) (u : List Int) (k : Nat) (g : Int) : Prop := ∃ str N S, plN x str N S ∧ ∃ s : Nat, s < S ∧ g = (s : Int) ∧ lsx (lM x) (x.1 12).toNat (u.take k) (str (x.2 25 s).toNat)
theorem rkA_0 {x : MS} (h : plX x) (u : List Int) : rkA x u ((0 : Int)).toNat ((0 : Int)) := by
  obtain ⟨pr, str, N, S, hN⟩ := h
  refine ⟨str, N, S, hN, 0, ?_⟩
  obtain ⟨⟨e17, n8, n0, e24, sN⟩, z0, K1, K2, G, E, J, S1, S2, S3, S4⟩ := hN
  obtain ⟨s, s1, s2, s3⟩ := S3 0 n0 (by rw [z0]; exact Or.inl rfl)
  have e : s = 0 := by
    rcases Nat.eq_zero_or_pos s with h | h
    · exact h
    · have h9 := S2 0 s h s1
      rw [s2] at h9
      have z9 : knm (str ((0 : Nat) : Int).toNat) = 0 := by rw [Int.toNat_natCast, z0]; rfl
      rw [z9] at h9
      exact absurd h9 (Nat.not_lt_zero _)
  subst e
  refine ⟨s1, rfl, ?_⟩
  rw [s2, Int.toNat_natCast, z0]
  show lsx _ _ (u.take 0) []
  rw [List.take_zero]
  exact ⟨⟨[], rfl⟩, Or.inl rfl, fun a q e _ => by have h9 := congrArg List.length e; rw [List.length_append, List.length_nil] at h9; rw [List.length_nil]; omega⟩
theorem rkA_b {x : MS} {u : List Int} {k : Nat} {g : Int} (h : rkA x u k g) : 0 ≤ g ∧ g < x.1 24 := by
  obtain ⟨str, N, S, hN, s, s1, e, _⟩ := h
  have := hN.1.2.2.2.1
  omega
theorem rkA_s {x : MS} {u : List Int} {k9 g l : Int} (k0 : 0 ≤ k9) (h : rkA x u k9.toNat g) (hu : noL (lM x) (x.1 12).toNat u) (hk : k9.toNat < u.length) (hl : u[k9.toNat] = l) (l0 : 0 ≤ l) (l1 : l < x.1 0) : rkA x u (k9 + (1 : Int)).toNat (F_m_next x g l).1 := by
  obtain ⟨str, N, S, hN, s, s1, e, ls⟩ := h
  have ht : u.take (k9 + (1 : Int)).toNat = u.take k9.toNat ++ [l] := by rw [show (k9 + (1 : Int)).toNat = k9.toNat + 1 by omega, take_get hk, hl]
  have nx := plN_next hN s1 (l := l.toNat) (by omega)
  rw [show ((l.toNat : Nat) : Int) = l by omega, ← e] at nx
  refine ⟨str, N, S, hN, ?_⟩
  rcases nx with ⟨_, r, r1, a, ea⟩ | ⟨t, t1, t2, t3, t4⟩
  · exfalso
    obtain ⟨b, eb⟩ := ls.1
    refine noL_pfx (v := u.take (k9 + (1 : Int)).toNat) (e := u.drop (k9 + (1 : Int)).toNat) (by rw [List.take_append_drop]; exact hu) r r1 (b ++ a) [] ?_
    rw [ht, eb, List.append_assoc, ea, List.append_nil, List.append_assoc]
  · exact ⟨t, t1, t2, by rw [ht]; exact au_next ls t4⟩
theorem drop_get {u : List Int} {k9 : Int} (k0 : 0 ≤ k9) (hk : k9.toNat < u.length) : u.drop k9.toNat = u[k9.toNat] :: u.drop (k9 + (1 : Int)).toNat := by
  rw [List.drop_eq_getElem_cons hk, show (k9 + (1 : Int)).toNat = k9.toNat + 1 by omega]
def rkQ (x : MS) (a : Int) (q : Int × MS) : Prop := (¬ (0 ≤ a ∧ a ≤ 7) ∧ q = (-1, x)) ∨ ((0 ≤ a ∧ a ≤ 7) ∧ (((F_m_isMachine x).1 = 0 ∧ q = (-3, x)) ∨ (¬ (F_m_isMachine x).1 = 0 ∧ slF x q.2 ∧ ∃ u, nfP x (slM x a.toNat) u ∧ ((30 < u.length ∧ q.1 = -4) ∨ (u.length ≤ 30 ∧ q.1 = rkV x u)))))
theorem rk_l {x y : MS} {k9 : Int} (kk : slK x y 9 (slM y 9)) (k0 : 0 ≤ k9) (k1 : k9 < y.2 1 9) : ∃ h : k9.toNat < (slM y 9).length, (slM y 9)[k9.toNat] = y.2 2 ((1152 : Int) + k9).toNat ∧ 0 ≤ y.2 2 ((1152 : Int) + k9).toNat ∧ y.2 2 ((1152 : Int) + k9).toNat < (x.1 0).toNat := by
  have h : k9.toNat < (slM y 9).length := by have := kk.1; omega
  have e : (slM y 9)[k9.toNat] = y.2 2 ((1152 : Int) + k9).toNat := by
    have h2 : k9.toNat < (ltM y 9 (y.2 1 9).toNat).length := h
    have e2 := ltM_get h2
    rw [show ((1152 : Int) + k9).toNat = 128 * 9 + k9.toNat by omega]; exact e2
  have o := kk.2.2.1 _ (List.getElem_mem h)
  rw [e] at o
  exact ⟨h, e, o.1, o.2⟩
theorem rk_in {x : MS} {u : List Int} {k9 g q l : Int} (k0 : 0 ≤ k9) (hk : k9.toNat < u.length) (hl : u[k9.toNat] = l) (h : q + rk2 x g (u.drop k9.toNat) = rkV x u) : q + (wsm x (wN x (u.length - k9.toNat - 1)) g l.toNat - wsm x (wN x (u.length - k9.toNat - 1)) g ((0 : Int)).toNat) + rk2 x (F_m_next x g l).1 (u.drop (k9 + (1 : Int)).toNat) = rkV x u := by
  rw [drop_get k0 hk, hl] at h
  rw [← h]
  show _ = q + (wsm x (wN x (u.drop (k9 + (1 : Int)).toNat).length) g l.toNat + rk2 x (F_m_next x g l).1 (u.drop (k9 + (1 : Int)).toNat))
  rw [List.length_drop, show u.length - (k9 + (1 : Int)).toNat = u.length - k9.toNat - 1 by omega]
  have z : wsm x (wN x (u.length - k9.toNat - 1)) g ((0 : Int)).toNat = 0 := rfl
  omega
theorem rk_add {x : MS} {j : Nat} {g l9 v : Int} (l0 : 0 ≤ l9) (hv : v = if (F_m_next x g l9).1 = -9 then 0 else wN x j (F_m_next x g l9).1) : wsm x (wN x j) g (l9 + (1 : Int)).toNat = wsm x (wN x j) g l9.toNat + v := by
  rw [show (l9 + (1 : Int)).toNat = l9.toNat + 1 by omega, hv]
  show wsm x _ g l9.toNat + _ = _
  rw [show ((l9.toNat : Nat) : Int) = l9 by omega]
def F_m_rank_s : Nat → Nat → MS → Int → Int → Int → Int → Int → Int → Int × MS
  | 0, _, x, _, _, _, _, _, _ => (0, x)
  | n + 1, t, x, p0, p1, p2, p3, p4, p5 => match t with
    | 0 => (fun (a : Int) (q : Int) (m9 : Int) => (if (((x).2 1) ((9 : Int)).toNat) ≤ (m9) then F_m_rank_s n 1 (x) (a) (q) ((0 : Int)) ((0 : Int)) (0) (0) else F_m_rank_s n 0 (x) (a) ((q) + (((x).2 28) (m9).toNat)) ((m9) + (1 : Int)) (0) (0) (0))) p0 p1 p2
    | 1 => (fun (a : Int) (q : Int) (g9 : Int) (k9 : Int) => (if (((x).2 1) ((9 : Int)).toNat) ≤ (k9) then (q, x) else F_m_rank_s n 2 (x) (a) (q) (g9) (k9) (((x).2 2) (((1152 : Int)) + (k9)).toNat) ((0 : Int)))) p0 p1 p2 p3
    | 2 => (fun (a : Int) (q : Int) (g9 : Int) (k9 : Int) (b9 : Int) (c9 : Int) => (if (b9) ≤ (c9) then F_m_rank_s n 1 (x) (a) (q) ((F_m_next (x) (g9) (b9)).1) ((k9) + (1 : Int)) (0) (0) else F_m_rank_s n 2 (x) (a) ((q) + ((F_m_onward (x) (g9) (c9) (((((x).2 1) ((9 : Int)).toNat) - (k9)) - ((1 : Int)))).1)) (g9) (k9) (b9) ((c9) + (1 : Int)))) p0 p1 p2 p3 p4 p5
    | _ => (0, x)
theorem F_m_rank_e0 (n : Nat) (x : MS) (a : Int) (q : Int) (m9 : Int) (q0 : Int) (q1 : Int) (q2 : Int) : F_m_rank_s (n + 1) 0 x a q m9 q0 q1 q2 = (if (((x).2 1) ((9 : Int)).toNat) ≤ (m9) then F_m_rank_s n 1 (x) (a) (q) ((0 : Int)) ((0 : Int)) (0) (0) else F_m_rank_s n 0 (x) (a) ((q) + (((x).2 28) (m9).toNat)) ((m9) + (1 : Int)) (0) (0) (0)) := rfl
theorem F_m_rank_e1 (n : Nat) (x : MS) (a : Int) (q : Int) (g9 : Int) (k9 : Int) (q0 : Int) (q1 : Int) : F_m_rank_s (n + 1) 1 x a q g9 k9 q0 q1 = (if (((x).2 1) ((9 : Int)).toNat) ≤ (k9) then (q, x) else F_m_rank_s n 2 (x) (a) (q) (g9) (k9) (((x).2 2) (((1152 : Int)) + (k9)).toNat) ((0 : Int))) := rfl
theorem F_m_rank_e2 (n : Nat) (x : MS) (a : Int) (q : Int) (g9 : Int) (k9 : Int) (b9 : Int) (c9 : Int) : F_m_rank_s (n + 1) 2 x a q g9 k9 b9 c9 = (if (b9) ≤ (c9) then F_m_rank_s n 1 (x) (a) (q) ((F_m_next (x) (g9) (b9)).1) ((k9) + (1 : Int)) (0) (0) else F_m_rank_s n 2 (x) (a) ((q) + ((F_m_onward (x) (g9) (c9) (((((x).2 1) ((9 : Int)).toNat) - (k9)) - ((1 : Int)))).1)) (g9) (k9) (b9) ((c9) + (1 : Int))) := rfl
def F_m_rank (x : MS) (a : Int) : Int × MS := (if ((F_m_isSlot (x) (a)).1) = (0) then ((-1 : Int), x) else (if ((F_m_isMachine (x)).1) = (0) then ((-3 : Int), x) else (if ((((F_m_reduceAt ((F_m_copy (x) (a) ((9 : Int))).2) ((9 : Int))).2).2 1) ((9 : Int)).toNat) ≤ ((30 : Int)) then F_m_rank_s 1000 0 ((F_m_reduceAt ((F_m_copy (x) (a) ((9 : Int))).2) ((9 : Int))).2) (a) ((0 : Int)) ((0 : Int)) (0) (0) (0) else ((-4 : Int), (F_m_reduceAt ((F_m_copy (x) (a) ((9 : Int))).2) ((9 : Int))).2))))
set_option maxHeartbeats 4000000 in
set_option maxRecDepth 100000 in
/-- rank -/
theorem c_m_rank (l : Launch) (dC : Nat → ClassId) (dI : Nat → Nat → Nat) (h : Nat) (ad : Nat → Nat) (cI cJ cZ : ClassId) (sz : Nat) (x : MS) (a : Int) (ra : iR a) (sn : iR (x.1 6)) (ic : x.1 27 = 0 ∨ x.1 27 = 1) (mz : ¬ (F_m_isMachine x).1 = 0 → mzH x) (hrw : rwR x) (hs : ∀ k : Nat, k < 9 → slH x k) (cy : ¬ (F_m_isMachine x).1 = 0 → cyI x x 31) : Met l yX12_rank wsX12_rank ({ frames := 2, cells := 0, slots := 0, locals := 57 }) (mPc dC dI h ad cI cJ cZ sz x [.ref h, .int (iI a)]) (va_Ql (fun (r : Int64) (u : MS) => r = iL (F_m_rank (x) (a)).1 ∧ u = (F_m_rank (x) (a)).2) (mAt dC dI h ad cI cJ cZ (va_A (mW h ad cI cJ cZ (x)) sz)) (va_A (mW h ad cI cJ cZ (x)) sz)) 0 0 (va_A (mW h ad cI cJ cZ (x)) sz) := by
  refine Met.ofW (cc := cX12_rank) (maxL := 8) (ret := (some .long)) (by decide) rfl ?_
  intro p e s m args below meth c s₁ B hml hv
  obtain ⟨rfl, hsz, hP, hK, hD0⟩ := hv
  have hx := B.exec
  have hb := B.bytes
  have hr := B.returns
  have hts := atoms_spec (ws := wsX12_rank) B.pre
  have hown : s.vm.findClass RX12 = some m.cls := findClass_of_methodNamed B.named
  have hlocks := B.notSynchronized
  have hin : ∀ w ∈ u_ws RX12 TX12 34, w ∈ wsX12_rank := by decide +kernel
  subst hsz
  have hD := hD0.self (sz := s.heap.size)
  generalize hAe : va_A (mW h ad cI cJ cZ (x)) s.heap.size = A at hD ⊢
  have hA : ∀ q : Nat, s.heap.size ≤ q → A q := fun q h => by rw [← hAe]; exact Or.inr h
  have hS : va_S A s.heap s.heap [] := va_S.rf
  have hl := lv_entry ([.ref h, .int (iI a)]) (n := 8) (Nat.le_of_ble_eq_true rfl)
  rw [lg_entry_eq]
  generalize (lg_sl ([.ref h, .int (iI a)]) ++ List.replicate (8 - (lg_sl ([.ref h, .int (iI a)])).length) Slot.unset).toArray = ls at hl ⊢
  have hl : lv_has ls 8 [(0, .ref (h)), (1, .int (iI (a)))] := hl
  have L : ∀ n : Nat, (∀ (y : MS) (q : Int) (m9 : Int), (slF x y) → (mzH x) → (¬ (F_m_isMachine x).1 = 0) → (0 ≤ a ∧ a ≤ 7) → (nfP x (slM x a.toNat) (slM y 9)) → (slK x y 9 (slM y 9)) → (y.2 1 9 ≤ 30) → (q = rk1 x m9.toNat) → (0 ≤ m9) → (m9 ≤ y.2 1 9) → (500 + 40 - m9 < n) → F_m_rank_s n 0 y a q m9 0 0 0 = F_m_rank (x) (a) → ∀ (H : Heap) (locs : List Loc) (ls : Array Slot), va_P (dC, dI) vwCl (mW h ad cI cJ cZ (y)) H → va_D A (mW h ad cI cJ cZ (y)) → va_S A s.heap H locs → lv_has ls 8 [(0, .ref (h)), (1, .int (iI (a))), (2, .long (iL (q))), (4, .int (iI (m9)))] → W p l e (headSpec wsX12_rank ({ frames := 2, cells := 0, slots := 0, locals := 57 })).room s m ([.ref h, .int (iI a)] : List Value).toArray below meth c H locs 0 0 (MQ below (va_Ql (fun (r : Int64) (u : MS) => r = iL (F_m_rank (x) (a)).1 ∧ u = (F_m_rank (x) (a)).2) (mAt dC dI h ad cI cJ cZ A) A) ([.ref h, .int (iI a)] : List Value).toArray s 0 0 A) (F0 m 56 ls [])) ∧ (∀ (y : MS) (q : Int) (g9 : Int) (k9 : Int), (slF x y) → (mzH x) → (¬ (F_m_isMachine x).1 = 0) → (0 ≤ a ∧ a ≤ 7) → (nfP x (slM x a.toNat) (slM y 9)) → (slK x y 9 (slM y 9)) → (y.2 1 9 ≤ 30) → (q + rk2 x g9 ((slM y 9).drop k9.toNat) = rkV x (slM y 9)) → (rkA x (slM y 9) k9.toNat g9) → (0 ≤ k9) → (k9 ≤ y.2 1 9) → (k9 ≤ 30) → ((31 - k9) * 10 + 10 < n) → F_m_rank_s n 1 y a q g9 k9 0 0 = F_m_rank (x) (a) → ∀ (H : Heap) (locs : List Loc) (ls : Array Slot), va_P (dC, dI) vwCl (mW h ad cI cJ cZ (y)) H → va_D A (mW h ad cI cJ cZ (y)) → va_S A s.heap H locs → lv_has ls 8 [(0, .ref (h)), (1, .int (iI (a))), (2, .long (iL (q))), (4, .int (iI (g9))), (5, .int (iI (k9)))] → W p l e (headSpec wsX12_rank ({ frames := 2, cells := 0, slots := 0, locals := 57 })).room s m ([.ref h, .int (iI a)] : List Value).toArray below meth c H locs 0 0 (MQ below (va_Ql (fun (r : Int64) (u : MS) => r = iL (F_m_rank (x) (a)).1 ∧ u = (F_m_rank (x) (a)).2) (mAt dC dI h ad cI cJ cZ A) A) ([.ref h, .int (iI a)] : List Value).toArray s 0 0 A) (F0 m 90 ls [])) ∧ (∀ (y : MS) (q : Int) (g9 : Int) (k9 : Int) (b9 : Int) (c9 : Int), (slF x y) → (mzH x) → (¬ (F_m_isMachine x).1 = 0) → (0 ≤ a ∧ a ≤ 7) → (nfP x (slM x a.toNat) (slM y 9)) → (slK x y 9 (slM y 9)) → (y.2 1 9 ≤ 30) → (q + (wsm x (wN x ((slM y 9).length - k9.toNat - 1)) g9 b9.toNat - wsm x (wN x ((slM y 9).length - k9.toNat - 1)) g9 c9.toNat) + rk2 x (F_m_next x g9 b9).1 ((slM y 9).drop (k9 + (1 : Int)).toNat) = rkV x (slM y 9)) → (rkA x (slM y 9) k9.toNat g9) → (b9 = y.2 2 ((1152 : Int) + k9).toNat) → (0 ≤ k9) → (k9 < y.2 1 9) → (k9 < 30) → (0 ≤ c9) → (c9 ≤ b9) → (c9 ≤ 4) → ((31 - k9) * 10 + 8 - c9 < n) → F_m_rank_s n 2 y a q g9 k9 b9 c9 = F_m_rank (x) (a) → ∀ (H : Heap) (locs : List Loc) (ls : Array Slot), va_P (dC, dI) vwCl (mW h ad cI cJ cZ (y)) H → va_D A (mW h ad cI cJ cZ (y)) → va_S A s.heap H locs → lv_has ls 8 [(0, .ref (h)), (1, .int (iI (a))), (2, .long (iL (q))), (4, .int (iI (g9))), (5, .int (iI (k9))), (6, .int (iI (b9))), (7, .int (iI (c9)))] → W p l e (headSpec wsX12_rank ({ frames := 2, cells := 0, slots := 0, locals := 57 })).room s m ([.ref h, .int (iI a)] : List Value).toArray below meth c H locs 0 0 (MQ below (va_Ql (fun (r : Int64) (u : MS) => r = iL (F_m_rank (x) (a)).1 ∧ u = (F_m_rank (x) (a)).2) (mAt dC dI h ad cI cJ cZ A) A) ([.ref h, .int (iI a)] : List Value).toArray s 0 0 A) (F0 m 118 ls [])) := by
    intro n
    induction n with
    | zero =>
      refine ⟨?_, ?_, ?_⟩
      · intro y q m9 fy mz0 hm1 ha nu kk hl9 qv m0 m1 fu hres
        exact absurd fu (by omega)
      · intro y q g9 k9 fy mz0 hm1 ha nu kk hl9 qq as9 k0 k1 k2 fu hres
        exact absurd fu (by omega)
      · intro y q g9 k9 b9 c9 fy mz0 hm1 ha nu kk hl9 qq as9 eb9 k0 k1 k2 c0 c1 c2 fu hres
        exact absurd fu (by omega)
    | succ n ih =>
      refine ⟨?_, ?_, ?_⟩
      · intro y q m9 fy mz0 hm1 ha nu kk hl9 qv m0 m1 fu hres H locs ls hP hD hS hl
        rw [F_m_rank_e0] at hres
        have e9 : y.2 1 ((9 : Int)).toNat = y.2 1 9 := rfl
        have l9b := kk.1
        have y28 : y.2 28 = x.2 28 := fy.1.2 28 (by decide)
        have sm9 : same [] [1, 2, 26] x y := fy.1
        have auy : auOK y := plX_auOK (mz_e fy mz0).1.1
        have y24 : y.1 24 = x.1 24 := fy.1.1 24 List.not_mem_nil
        have y00 : y.1 0 = x.1 0 := slF_0e fy
        have nxe : ∀ a c : Int, (F_m_next y a c).1 = (F_m_next x a c).1 := fun a c => nx_same sm9 (by decide) (by decide) (by decide) (by decide) a c
        have u0 := auy.1.1
        have u1 := auy.1.2.1
        have u2 := auy.1.2.2.1
        have u3 := auy.1.2.2.2
        have cyx := cy hm1
        have st1 := rkA_b (rkA_0 mz0.1 [])
        refine lv_iload hx hb dX12_rank_56 (lv_at hl 3 rfl) ?_
        refine lv_aload_n hx hb dX12_rank_58 rfl (lv_at hl 0 rfl) ?_
        refine va_get (D := (dC, dI)) (ci := 12) (v := .ref (ad 1)) (C := RX12) (T := TX12) (N := 34) hx hb hts hin hown hK hP 0 rfl rfl 1 (by decide) (hts (.fieldLink RX12 13 "LikeWordsModel" "size" "[I") (by decide +kernel)) (fun _ h9 => h9) rfl dX12_rank_59 ?_
        refine lv_bipush (v := iI (9 : Int)) hx hb dX12_rank_62 (by decide) ?_
        refine wi_iald (f := (y).2 1) hx hb hK hP 1 0 rfl rfl (i := (9 : Int)) (by omega) (by omega) (by decide) dX12_rank_64 ?_
        refine wi_icmp_ge (tgt := 84) hx hb (by first | assumption | (unfold iR; omega) | exact F_R01 (by assumption)) (by first | assumption | (unfold iR; omega) | exact F_R01 (by assumption)) dX12_rank_65 (by decide) (fun c_65 => ?_) (fun c_65 => ?_)
        · skip
          rw [if_pos c_65] at hres
          refine lv_iconst (v := iI (0 : Int)) hx hb dX12_rank_84 (by decide) ?_
          refine lv_istore (lv' := [(4, .int (iI ((0 : Int)))), (0, .ref (h)), (1, .int (iI (a))), (2, .long (iL (q)))]) hx hb dX12_rank_85 hl (by decide) rfl (fun ls hl => ?_)
          refine lv_iconst (v := iI (0 : Int)) hx hb dX12_rank_87 (by decide) ?_
          refine lv_istore (lv' := [(5, .int (iI ((0 : Int)))), (4, .int (iI ((0 : Int)))), (0, .ref (h)), (1, .int (iI (a))), (2, .long (iL (q)))]) hx hb dX12_rank_88 hl (by decide) rfl (fun ls hl => ?_)
          exact ih.2.1 (y) (q) ((0 : Int)) ((0 : Int)) (fy) (mz0) (hm1) (ha) (nu) (kk) (hl9) (by rw [qv, show m9.toNat = (slM y 9).length by omega]; show _ + rk2 x 0 ((slM y 9).drop 0) = _; rw [List.drop_zero]; rfl) (rkA_0 mz0.1 _) (by omega) (by omega) (by omega) (by omega) hres _ _ ls hP hD hS (lv_sub hl [2, 3, 4, 1, 0] rfl)
        · skip
          rw [if_neg c_65] at hres
          refine lv_lload_n hx hb dX12_rank_68 rfl (lv_at hl 2 rfl) ?_
          refine lv_aload_n hx hb dX12_rank_69 rfl (lv_at hl 0 rfl) ?_
          refine va_get (D := (dC, dI)) (ci := 12) (v := .ref (ad 28)) (C := RX12) (T := TX12) (N := 34) hx hb hts hin hown hK hP 0 rfl rfl 28 (by decide) (hts (.fieldLink RX12 74 "LikeWordsModel" "way" "[J") (by decide +kernel)) (fun _ h9 => h9) rfl dX12_rank_70 ?_
          refine lv_iload hx hb dX12_rank_73 (lv_at hl 3 rfl) ?_
          refine wi_lald (f := (y).2 28) hx hb hK hP 20 1 rfl rfl (i := m9) (by omega) (by omega) (by decide) dX12_rank_75 ?_
          refine wi_ladd hx hb dX12_rank_76 ?_
          refine lv_lstore_n (lv' := [(2, .long (iL ((q) + (((y).2 28) (m9).toNat)))), (0, .ref (h)), (1, .int (iI (a))), (4, .int (iI (m9)))]) hx hb dX12_rank_77 rfl hl (by decide) rfl (fun ls hl => ?_)
          refine lv_iinc (v := iI ((m9) + (1 : Int))) (lv' := [(4, .int (iI ((m9) + (1 : Int)))), (2, .long (iL ((q) + (((y).2 28) (m9).toNat)))), (0, .ref (h)), (1, .int (iI (a)))]) hx hb dX12_rank_78 hl (k := 3) rfl (iI_add _ _) (by decide) rfl (fun ls hl => ?_)
          refine lv_goto (tgt := 56) hx hb dX12_rank_81 (by decide) ?_
          exact ih.1 (y) ((q) + (((y).2 28) (m9).toNat)) ((m9) + (1 : Int)) (fy) (mz0) (hm1) (ha) (nu) (kk) (hl9) (by rw [show (m9 + (1 : Int)).toNat = m9.toNat + 1 by omega, qv, y28]; show _ = rk1 x m9.toNat + wN x m9.toNat 0; rw [show x.2 28 m9.toNat = wN x m9.toNat ((0 : Nat) : Int) from (by have h9 := cyx m9.toNat 0 (by omega) (by omega); rw [Nat.mul_zero, Nat.zero_add] at h9; exact h9)]; rfl) (by omega) (by omega) (by omega) hres _ _ ls hP hD hS (lv_sub hl [2, 3, 1, 0] rfl)
      · intro y q g9 k9 fy mz0 hm1 ha nu kk hl9 qq as9 k0 k1 k2 fu hres H locs ls hP hD hS hl
        rw [F_m_rank_e1] at hres
        have e9 : y.2 1 ((9 : Int)).toNat = y.2 1 9 := rfl
        have l9b := kk.1
        have y28 : y.2 28 = x.2 28 := fy.1.2 28 (by decide)
        have sm9 : same [] [1, 2, 26] x y := fy.1
        have auy : auOK y := plX_auOK (mz_e fy mz0).1.1
        have y24 : y.1 24 = x.1 24 := fy.1.1 24 List.not_mem_nil
        have y00 : y.1 0 = x.1 0 := slF_0e fy
        have nxe : ∀ a c : Int, (F_m_next y a c).1 = (F_m_next x a c).1 := fun a c => nx_same sm9 (by decide) (by decide) (by decide) (by decide) a c
        have u0 := auy.1.1
        have u1 := auy.1.2.1
        have u2 := auy.1.2.2.1
        have u3 := auy.1.2.2.2
        have cyx := cy hm1
        have st1 := rkA_b (rkA_0 mz0.1 [])
        refine lv_iload hx hb dX12_rank_90 (lv_at hl 4 rfl) ?_
        refine lv_aload_n hx hb dX12_rank_92 rfl (lv_at hl 0 rfl) ?_
        refine va_get (D := (dC, dI)) (ci := 12) (v := .ref (ad 1)) (C := RX12) (T := TX12) (N := 34) hx hb hts hin hown hK hP 0 rfl rfl 1 (by decide) (hts (.fieldLink RX12 13 "LikeWordsModel" "size" "[I") (by decide +kernel)) (fun _ h9 => h9) rfl dX12_rank_93 ?_
        refine lv_bipush (v := iI (9 : Int)) hx hb dX12_rank_96 (by decide) ?_
        refine wi_iald (f := (y).2 1) hx hb hK hP 1 0 rfl rfl (i := (9 : Int)) (by omega) (by omega) (by decide) dX12_rank_98 ?_
        refine wi_icmp_ge (tgt := 170) hx hb (by first | assumption | (unfold iR; omega) | exact F_R01 (by assumption)) (by first | assumption | (unfold iR; omega) | exact F_R01 (by assumption)) dX12_rank_99 (by decide) (fun c_99 => ?_) (fun c_99 => ?_)
        · skip
          rw [if_pos c_99] at hres
          refine lv_lload_n hx hb dX12_rank_170 rfl (lv_at hl 2 rfl) ?_
          exact W.lret (v := iL (q)) hx hb hr (fun t ht hW => ⟨⟨iL (q), y, rfl, ⟨(by have h9 := congrArg (fun z : Int × MS => iL z.1) hres; exact h9), (by have h9 := congrArg (fun z : Int × MS => z.2) hres; exact h9)⟩, by rw [ht]; exact hP, va_K.moved hW.alike hK, hD⟩, hS.F ht⟩) hS.2.2 dX12_rank_171
        · skip
          rw [if_neg c_99] at hres
          obtain ⟨kh, ke, kl0, kl1⟩ := rk_l kk k0 (by omega)
          have ab := rkA_b as9
          refine lv_aload_n hx hb dX12_rank_102 rfl (lv_at hl 0 rfl) ?_
          refine va_get (D := (dC, dI)) (ci := 12) (v := .ref (ad 2)) (C := RX12) (T := TX12) (N := 34) hx hb hts hin hown hK hP 0 rfl rfl 2 (by decide) (hts (.fieldLink RX12 17 "LikeWordsModel" "row" "[I") (by decide +kernel)) (fun _ h9 => h9) rfl dX12_rank_103 ?_
          refine lv_sipush (v := iI (1152 : Int)) hx hb dX12_rank_106 (by decide) ?_
          refine lv_iload hx hb dX12_rank_109 (lv_at hl 4 rfl) ?_
          refine wi_iadd hx hb dX12_rank_111 ?_
          refine wi_iald (f := (y).2 2) hx hb hK hP 2 0 rfl rfl (i := ((1152 : Int)) + (k9)) (by omega) (by omega) (by decide) dX12_rank_112 ?_
          refine lv_istore (lv' := [(6, .int (iI (((y).2 2) (((1152 : Int)) + (k9)).toNat))), (0, .ref (h)), (1, .int (iI (a))), (2, .long (iL (q))), (4, .int (iI (g9))), (5, .int (iI (k9)))]) hx hb dX12_rank_113 hl (by decide) rfl (fun ls hl => ?_)
          refine lv_iconst (v := iI (0 : Int)) hx hb dX12_rank_115 (by decide) ?_
          refine lv_istore (lv' := [(7, .int (iI ((0 : Int)))), (6, .int (iI (((y).2 2) (((1152 : Int)) + (k9)).toNat))), (0, .ref (h)), (1, .int (iI (a))), (2, .long (iL (q))), (4, .int (iI (g9))), (5, .int (iI (k9)))]) hx hb dX12_rank_116 hl (by decide) rfl (fun ls hl => ?_)
          exact ih.2.2 (y) (q) (g9) (k9) (((y).2 2) (((1152 : Int)) + (k9)).toNat) ((0 : Int)) (fy) (mz0) (hm1) (ha) (nu) (kk) (hl9) (rk_in k0 kh ke qq) (as9) (rfl) (by omega) (by omega) (by omega) (by omega) (by omega) (by omega) (by omega) hres _ _ ls hP hD hS (lv_sub hl [2, 3, 4, 5, 6, 1, 0] rfl)
      · intro y q g9 k9 b9 c9 fy mz0 hm1 ha nu kk hl9 qq as9 eb9 k0 k1 k2 c0 c1 c2 fu hres H locs ls hP hD hS hl
        rw [F_m_rank_e2] at hres
        have e9 : y.2 1 ((9 : Int)).toNat = y.2 1 9 := rfl
        have l9b := kk.1
        have y28 : y.2 28 = x.2 28 := fy.1.2 28 (by decide)
        have sm9 : same [] [1, 2, 26] x y := fy.1
        have auy : auOK y := plX_auOK (mz_e fy mz0).1.1
        have y24 : y.1 24 = x.1 24 := fy.1.1 24 List.not_mem_nil
        have y00 : y.1 0 = x.1 0 := slF_0e fy
        have nxe : ∀ a c : Int, (F_m_next y a c).1 = (F_m_next x a c).1 := fun a c => nx_same sm9 (by decide) (by decide) (by decide) (by decide) a c
        have u0 := auy.1.1
        have u1 := auy.1.2.1
        have u2 := auy.1.2.2.1
        have u3 := auy.1.2.2.2
        have cyx := cy hm1
        have st1 := rkA_b (rkA_0 mz0.1 [])
        obtain ⟨kh, ke, kl0, kl1⟩ := rk_l kk k0 (by omega)
        have ab := rkA_b as9
        refine lv_iload hx hb dX12_rank_118 (lv_at hl 6 rfl) ?_
        refine lv_iload hx hb dX12_rank_120 (lv_at hl 5 rfl) ?_
        refine wi_icmp_ge (tgt := 154) hx hb (by first | assumption | (unfold iR; omega) | exact F_R01 (by assumption)) (by first | assumption | (unfold iR; omega) | exact F_R01 (by assumption)) dX12_rank_122 (by decide) (fun c_122 => ?_) (fun c_122 => ?_)
        · skip
          rw [if_pos c_122] at hres
          have hn9 := auy.2 g9 b9 (by omega) (by omega) (by omega) (by omega)
          have hn8 := hn9.2
          refine lv_aload_n hx hb dX12_rank_154 rfl (lv_at hl 0 rfl) ?_
          refine lv_iload hx hb dX12_rank_155 (lv_at hl 3 rfl) ?_
          refine lv_iload hx hb dX12_rank_157 (lv_at hl 5 rfl) ?_
          have hFc : ∀ q, va_A (mW h ad cI cJ cZ (y)) H.size q → A q := fun q hq => Or.elim hq (fun ⟨k, e, hk⟩ => hD.2 k (q, e) hk) (fun hk => hA q (Nat.le_trans hS.1 hk))
          refine va_calli (va_runV (As := [.int (iI (g9)), .int (iI (b9))]) (rest := []) ⟨hx, hb, hml, hown, hts⟩ (c_m_next l dC dI h ad cI cJ cZ H.size (y) (g9) (b9) (by omega) (by omega) (by omega) (by omega) hn9.1.1 hn9.1.2.1 hn9.1.2.2.1 hn9.1.2.2.2.1 hn9.1.2.2.2.2) (cwV 2 hts gX12_rank_X12_next rfl rfl rfl (by decide +kernel) ⟨Nat.le_of_ble_eq_true rfl, Nat.le_of_ble_eq_true rfl⟩) ⟨fun a U g mk q => by obtain ⟨q0, q1, qP, qK, qD⟩ := q; exact ⟨q0, q1, qP, va_K.moved (u := U) (U := U.calling g mk a) (Vm.Alike.refl U.vm) qK, qD⟩, va_recv hK hP (ci := 12) (q0 := 0) rfl rfl, fun U hU hW => ⟨rfl, by rw [hU], by rw [hU]; exact hP, va_K.moved hW.alike hK, hD.weaken (fun _ _ _ _ => trivial)⟩⟩ rfl rfl hl.1 rfl (lv_room (Nat.le_of_ble_eq_true rfl)) dX12_rank_159 ⟨Nat.le_of_ble_eq_true rfl, Nat.le_of_ble_eq_true rfl⟩) hS (fun q _ h => hFc q h) hFc (fun r9 u9 t H1 locs ht hvm hw hB hz1 hk1 hS => ?_)
          obtain ⟨hP1, hK1, hD1⟩ := hB
          rw [ht] at hP1
          obtain ⟨hw1, hw2⟩ := hw
          rw [hw2] at hP1 hD1
          rw [hw1]
          rw [F_m_next_2] at hP1 hD1
          have hD2 := hD1.weaken (B := A) (fun _ q _ h => hFc q.1 h)
          have hP := hP1
          have hD := hD2
          generalize H1 = H at hP hS ⊢
          refine lv_istore (lv' := [(4, .int (iI ((F_m_next (y) (g9) (b9)).1))), (0, .ref (h)), (1, .int (iI (a))), (2, .long (iL (q))), (5, .int (iI (k9))), (6, .int (iI (b9))), (7, .int (iI (c9)))]) hx hb dX12_rank_162 hl (by decide) rfl (fun ls hl => ?_)
          refine lv_iinc (v := iI ((k9) + (1 : Int))) (lv' := [(5, .int (iI ((k9) + (1 : Int)))), (4, .int (iI ((F_m_next (y) (g9) (b9)).1))), (0, .ref (h)), (1, .int (iI (a))), (2, .long (iL (q))), (6, .int (iI (b9))), (7, .int (iI (c9)))]) hx hb dX12_rank_164 hl (k := 4) rfl (iI_add _ _) (by decide) rfl (fun ls hl => ?_)
          refine lv_goto (tgt := 90) hx hb dX12_rank_167 (by decide) ?_
          exact ih.2.1 (y) (q) ((F_m_next (y) (g9) (b9)).1) ((k9) + (1 : Int)) (fy) (mz0) (hm1) (ha) (nu) (kk) (hl9) (by rw [nxe]; have h9 := qq; rw [show c9 = b9 by omega] at h9; omega) (by rw [nxe]; exact rkA_s k0 as9 nu.1 kh (ke.trans eb9.symm) (by omega) (by omega)) (by omega) (by omega) (by omega) (by omega) hres _ _ ls hP hD hS (lv_sub hl [2, 3, 4, 1, 0] rfl)
        · skip
          rw [if_neg c_122] at hres
          have hn9 := auy.2 g9 c9 (by omega) (by omega) (by omega) (by omega)
          have hn8 := hn9.2
          have ow := cy_ow (z := x) (plX_auOK mz0.1) (sm_rf _ _ _) cyx (g := g9) (c := c9) (j := y.2 1 9 - k9 - 1) (by omega) (by omega) (by omega) (by omega) (by omega) (by omega)
          have ow2 : (F_m_onward y g9 c9 (y.2 1 ((9 : Int)).toNat - k9 - (1 : Int))).1 = (F_m_onward x g9 c9 (y.2 1 9 - k9 - 1)).1 := by
            rw [F_m_onward_1, F_m_onward_1, nxe, y28]; rfl
          refine lv_lload_n hx hb dX12_rank_125 rfl (lv_at hl 2 rfl) ?_
          refine lv_aload_n hx hb dX12_rank_126 rfl (lv_at hl 0 rfl) ?_
          refine lv_iload hx hb dX12_rank_127 (lv_at hl 3 rfl) ?_
          refine lv_iload hx hb dX12_rank_129 (lv_at hl 6 rfl) ?_
          refine lv_aload_n hx hb dX12_rank_131 rfl (lv_at hl 0 rfl) ?_
          refine va_get (D := (dC, dI)) (ci := 12) (v := .ref (ad 1)) (C := RX12) (T := TX12) (N := 34) hx hb hts hin hown hK hP 0 rfl rfl 1 (by decide) (hts (.fieldLink RX12 13 "LikeWordsModel" "size" "[I") (by decide +kernel)) (fun _ h9 => h9) rfl dX12_rank_132 ?_
          refine lv_bipush (v := iI (9 : Int)) hx hb dX12_rank_135 (by decide) ?_
          refine wi_iald (f := (y).2 1) hx hb hK hP 1 0 rfl rfl (i := (9 : Int)) (by omega) (by omega) (by decide) dX12_rank_137 ?_
          refine lv_iload hx hb dX12_rank_138 (lv_at hl 4 rfl) ?_
          refine wi_isub hx hb dX12_rank_140 ?_
          refine lv_iconst (v := iI (1 : Int)) hx hb dX12_rank_141 (by decide) ?_
          refine wi_isub hx hb dX12_rank_142 ?_
          have hFc : ∀ q, va_A (mW h ad cI cJ cZ (y)) H.size q → A q := fun q hq => Or.elim hq (fun ⟨k, e, hk⟩ => hD.2 k (q, e) hk) (fun hk => hA q (Nat.le_trans hS.1 hk))
          refine va_calll (va_runV (As := [.int (iI (g9)), .int (iI (c9)), .int (iI (((((y).2 1) ((9 : Int)).toNat) - (k9)) - ((1 : Int))))]) (rest := [.long (iL (q))]) ⟨hx, hb, hml, hown, hts⟩ (c_m_onward l dC dI h ad cI cJ cZ H.size (y) (g9) (c9) (((((y).2 1) ((9 : Int)).toNat) - (k9)) - ((1 : Int))) (by omega) (by omega) (by omega) (by omega) hn9.1.1 hn9.1.2.1 hn9.1.2.2.1 hn9.1.2.2.2.1 hn9.1.2.2.2.2 (by omega) (by omega) (by omega)) (cwV 3 hts gX12_rank_X12_onward rfl rfl rfl (by decide +kernel) ⟨Nat.le_of_ble_eq_true rfl, Nat.le_of_ble_eq_true rfl⟩) ⟨fun a U g mk q => by obtain ⟨q0, q1, qP, qK, qD⟩ := q; exact ⟨q0, q1, qP, va_K.moved (u := U) (U := U.calling g mk a) (Vm.Alike.refl U.vm) qK, qD⟩, va_recv hK hP (ci := 12) (q0 := 0) rfl rfl, fun U hU hW => ⟨rfl, by rw [hU], by rw [hU]; exact hP, va_K.moved hW.alike hK, hD.weaken (fun _ _ _ _ => trivial)⟩⟩ rfl rfl hl.1 rfl (lv_room (Nat.le_of_ble_eq_true rfl)) dX12_rank_143 ⟨Nat.le_of_ble_eq_true rfl, Nat.le_of_ble_eq_true rfl⟩) hS (fun q _ h => hFc q h) hFc (fun r9 u9 t H1 locs ht hvm hw hB hz1 hk1 hS => ?_)
          obtain ⟨hP1, hK1, hD1⟩ := hB
          rw [ht] at hP1
          obtain ⟨hw1, hw2⟩ := hw
          rw [hw2] at hP1 hD1
          rw [hw1]
          rw [F_m_onward_2] at hP1 hD1
          have hD2 := hD1.weaken (B := A) (fun _ q _ h => hFc q.1 h)
          have hP := hP1
          have hD := hD2
          generalize H1 = H at hP hS ⊢
          refine wi_ladd hx hb dX12_rank_146 ?_
          refine lv_lstore_n (lv' := [(2, .long (iL ((q) + ((F_m_onward (y) (g9) (c9) (((((y).2 1) ((9 : Int)).toNat) - (k9)) - ((1 : Int)))).1)))), (0, .ref (h)), (1, .int (iI (a))), (4, .int (iI (g9))), (5, .int (iI (k9))), (6, .int (iI (b9))), (7, .int (iI (c9)))]) hx hb dX12_rank_147 rfl hl (by decide) rfl (fun ls hl => ?_)
          refine lv_iinc (v := iI ((c9) + (1 : Int))) (lv' := [(7, .int (iI ((c9) + (1 : Int)))), (2, .long (iL ((q) + ((F_m_onward (y) (g9) (c9) (((((y).2 1) ((9 : Int)).toNat) - (k9)) - ((1 : Int)))).1)))), (0, .ref (h)), (1, .int (iI (a))), (4, .int (iI (g9))), (5, .int (iI (k9))), (6, .int (iI (b9)))]) hx hb dX12_rank_148 hl (k := 6) rfl (iI_add _ _) (by decide) rfl (fun ls hl => ?_)
          refine lv_goto (tgt := 118) hx hb dX12_rank_151 (by decide) ?_
          exact ih.2.2 (y) ((q) + ((F_m_onward (y) (g9) (c9) (((((y).2 1) ((9 : Int)).toNat) - (k9)) - ((1 : Int)))).1)) (g9) (k9) (b9) ((c9) + (1 : Int)) (fy) (mz0) (hm1) (ha) (nu) (kk) (hl9) (by rw [rk_add (j := (slM y 9).length - k9.toNat - 1) c0 (v := (F_m_onward y g9 c9 (y.2 1 ((9 : Int)).toNat - k9 - (1 : Int))).1) (by rw [ow2, ow, show (y.2 1 9 - k9 - 1).toNat = (slM y 9).length - k9.toNat - 1 by omega])]; omega) (as9) (eb9) (by omega) (by omega) (by omega) (by omega) (by omega) (by omega) (by omega) hres _ _ ls hP hD hS (lv_sub hl [2, 3, 1, 4, 5, 6, 0] rfl)
  have key : ∀ (H : Heap) (locs : List Loc), va_P (dC, dI) vwCl (mW h ad cI cJ cZ (x)) H → va_S A s.heap H locs → W p l e (headSpec wsX12_rank ({ frames := 2, cells := 0, slots := 0, locals := 57 })).room s m ([.ref h, .int (iI a)] : List Value).toArray below meth c H locs 0 0 (MQ below (va_Ql (fun (r : Int64) (u : MS) => r = iL (F_m_rank (x) (a)).1 ∧ u = (F_m_rank (x) (a)).2) (mAt dC dI h ad cI cJ cZ A) A) ([.ref h, .int (iI a)] : List Value).toArray s 0 0 A) (F0 m 0 ls []) := by
    intro H locs hP hS
    have hres : (if ((F_m_isSlot (x) (a)).1) = (0) then ((-1 : Int), x) else (if ((F_m_isMachine (x)).1) = (0) then ((-3 : Int), x) else (if ((((F_m_reduceAt ((F_m_copy (x) (a) ((9 : Int))).2) ((9 : Int))).2).2 1) ((9 : Int)).toNat) ≤ ((30 : Int)) then F_m_rank_s 1000 0 ((F_m_reduceAt ((F_m_copy (x) (a) ((9 : Int))).2) ((9 : Int))).2) (a) ((0 : Int)) ((0 : Int)) (0) (0) (0) else ((-4 : Int), (F_m_reduceAt ((F_m_copy (x) (a) ((9 : Int))).2) ((9 : Int))).2)))) = F_m_rank (x) (a) := rfl
    refine lv_iload_n hx hb dX12_rank_0 rfl (lv_at hl 1 rfl) ?_
    have hFc : ∀ q, va_A (mW h ad cI cJ cZ (x)) H.size q → A q := fun q hq => Or.elim hq (fun ⟨k, e, hk⟩ => hD.2 k (q, e) hk) (fun hk => hA q (Nat.le_trans hS.1 hk))
    refine va_calli (va_runS (As := [.int (iI (a))]) (rest := []) ⟨hx, hb, hml, hown, hts⟩ (c_m_isSlot l dC dI h ad cI cJ cZ H.size (x) (a) (by first | assumption | exact iR_L (by assumption) | exact ⟨by decide, by decide⟩ | omega | (unfold iR; omega) | (unfold iRL; omega))) (va_cwS 1 hts gX12_rank_X12_isSlot rfl rfl rfl (by decide +kernel) ⟨Nat.le_of_ble_eq_true rfl, Nat.le_of_ble_eq_true rfl⟩) ⟨fun a U g mk q => by obtain ⟨q0, q1, qP, qK, qD⟩ := q; exact ⟨q0, q1, qP, va_K.moved (u := U) (U := U.calling g mk a) (Vm.Alike.refl U.vm) qK, qD⟩, fun U hU hW => ⟨rfl, by rw [hU], by rw [hU]; exact hP, va_K.moved hW.alike hK, hD.weaken (fun _ _ _ _ => trivial)⟩⟩ rfl rfl hl.1 rfl (lv_room (Nat.le_of_ble_eq_true rfl)) dX12_rank_1 ⟨Nat.le_of_ble_eq_true rfl, Nat.le_of_ble_eq_true rfl⟩) hS (fun q _ h => hFc q h) hFc (fun r9 u9 t H1 locs ht hvm hw hB hz1 hk1 hS => ?_)
    obtain ⟨hP1, hK1, hD1⟩ := hB
    rw [ht] at hP1
    obtain ⟨hw1, hw2⟩ := hw
    rw [hw2] at hP1 hD1
    rw [hw1]
    rw [F_m_isSlot_2] at hP1 hD1
    have hD2 := hD1.weaken (B := A) (fun _ q _ h => hFc q.1 h)
    have hP := hP1
    have hD := hD2
    generalize H1 = H at hP hS ⊢
    refine wi_if_ne (tgt := 11) hx hb (by rw [F_m_isSlot_1]; exact F_R01 (F_in_01 _ _ _)) dX12_rank_4 (by decide) (fun c_4 => ?_) (fun c_4 => ?_)
    · skip
      rw [if_neg c_4] at hres
      obtain ⟨a0, a1⟩ := F_in_1 (by rw [← F_m_isSlot_1 x a]; exact c_4)
      refine lv_aload_n hx hb dX12_rank_11 rfl (lv_at hl 0 rfl) ?_
      have hFc : ∀ q, va_A (mW h ad cI cJ cZ (x)) H.size q → A q := fun q hq => Or.elim hq (fun ⟨k, e, hk⟩ => hD.2 k (q, e) hk) (fun hk => hA q (Nat.le_trans hS.1 hk))
      refine va_calli (va_runV (As := []) (rest := []) ⟨hx, hb, hml, hown, hts⟩ (c_m_isMachine l dC dI h ad cI cJ cZ H.size (x)  sn ic) (cwV 0 hts gX12_rank_X12_isMachine rfl rfl rfl (by decide +kernel) ⟨Nat.le_of_ble_eq_true rfl, Nat.le_of_ble_eq_true rfl⟩) ⟨fun a U g mk q => by obtain ⟨q0, q1, qP, qK, qD⟩ := q; exact ⟨q0, q1, qP, va_K.moved (u := U) (U := U.calling g mk a) (Vm.Alike.refl U.vm) qK, qD⟩, va_recv hK hP (ci := 12) (q0 := 0) rfl rfl, fun U hU hW => ⟨rfl, by rw [hU], by rw [hU]; exact hP, va_K.moved hW.alike hK, hD.weaken (fun _ _ _ _ => trivial)⟩⟩ rfl rfl hl.1 rfl (lv_room (Nat.le_of_ble_eq_true rfl)) dX12_rank_12 ⟨Nat.le_of_ble_eq_true rfl, Nat.le_of_ble_eq_true rfl⟩) hS (fun q _ h => hFc q h) hFc (fun r9 u9 t H1 locs ht hvm hw hB hz1 hk1 hS => ?_)
      obtain ⟨hP1, hK1, hD1⟩ := hB
      rw [ht] at hP1
      obtain ⟨hw1, hw2⟩ := hw
      rw [hw2] at hP1 hD1
      rw [hw1]
      rw [F_m_isMachine_2] at hP1 hD1
      have hD2 := hD1.weaken (B := A) (fun _ q _ h => hFc q.1 h)
      have hP := hP1
      have hD := hD2
      generalize H1 = H at hP hS ⊢
      refine wi_if_ne (tgt := 22) hx hb (F_R01 (F_m_isMachine_01 x)) dX12_rank_15 (by decide) (fun c_15 => ?_) (fun c_15 => ?_)
      · skip
        rw [if_neg c_15] at hres
        have mz0 := mz c_15
        have zb := (hs a.toNat (by omega)).1
        refine lv_aload_n hx hb dX12_rank_22 rfl (lv_at hl 0 rfl) ?_
        refine lv_iload_n hx hb dX12_rank_23 rfl (lv_at hl 1 rfl) ?_
        refine lv_bipush (v := iI (9 : Int)) hx hb dX12_rank_24 (by decide) ?_
        have hFc : ∀ q, va_A (mW h ad cI cJ cZ (x)) H.size q → A q := fun q hq => Or.elim hq (fun ⟨k, e, hk⟩ => hD.2 k (q, e) hk) (fun hk => hA q (Nat.le_trans hS.1 hk))
        refine va_callv (va_runV (As := [.int (iI (a)), .int (iI ((9 : Int)))]) (rest := []) ⟨hx, hb, hml, hown, hts⟩ (c_m_copy l dC dI h ad cI cJ cZ H.size (x) (a) ((9 : Int)) (by omega) (by omega) (by omega) (by omega) (by omega) (by omega)) (cwV 2 hts gX12_rank_X12_copy rfl rfl rfl (by decide +kernel) ⟨Nat.le_of_ble_eq_true rfl, Nat.le_of_ble_eq_true rfl⟩) ⟨fun a U g mk q => by obtain ⟨q0, q1, qP, qK, qD⟩ := q; exact ⟨q0, q1, qP, va_K.moved (u := U) (U := U.calling g mk a) (Vm.Alike.refl U.vm) qK, qD⟩, va_recv hK hP (ci := 12) (q0 := 0) rfl rfl, fun U hU hW => ⟨rfl, by rw [hU], by rw [hU]; exact hP, va_K.moved hW.alike hK, hD.weaken (fun _ _ _ _ => trivial)⟩⟩ rfl rfl hl.1 rfl (lv_room (Nat.le_of_ble_eq_true rfl)) dX12_rank_26 ⟨Nat.le_of_ble_eq_true rfl, Nat.le_of_ble_eq_true rfl⟩) hS (fun q _ h => hFc q h) hFc (fun u9 t H1 locs ht hvm hw hB hz1 hk1 hS => ?_)
        obtain ⟨hP1, hK1, hD1⟩ := hB
        rw [ht] at hP1
        rw [hw] at hP1 hD1
        have hD2 := hD1.weaken (B := A) (fun _ q _ h => hFc q.1 h)
        have hP := hP1
        have hD := hD2
        generalize H1 = H at hP hS ⊢
        have d1 : slD x ((F_m_copy (x) (a) ((9 : Int))).2) 9 ∧ slK x ((F_m_copy (x) (a) ((9 : Int))).2) 9 (slM x a.toNat) := by
          have h9 := copy_D (x := x) (a := a.toNat) (b := 9) hrw (slH_K (hs a.toNat (by omega))) (by omega) (by omega)
          rw [show (a.toNat : Int) = a by omega] at h9
          exact h9
        have f1 := slD_F (slF_0 hrw) d1.1 (by decide)
        have r1 := slH_r f1 mz0 d1.2 (by omega) (by omega)
        refine lv_aload_n hx hb dX12_rank_29 rfl (lv_at hl 0 rfl) ?_
        refine lv_bipush (v := iI (9 : Int)) hx hb dX12_rank_30 (by decide) ?_
        have hFc : ∀ q, va_A (mW h ad cI cJ cZ ((F_m_copy (x) (a) ((9 : Int))).2)) H.size q → A q := fun q hq => Or.elim hq (fun ⟨k, e, hk⟩ => hD.2 k (q, e) hk) (fun hk => hA q (Nat.le_trans hS.1 hk))
        refine va_callv (va_runV (As := [.int (iI ((9 : Int)))]) (rest := []) ⟨hx, hb, hml, hown, hts⟩ (c_m_reduceAt l dC dI h ad cI cJ cZ H.size ((F_m_copy (x) (a) ((9 : Int))).2) ((9 : Int)) (by omega) (by omega) (by omega) r1.1.2.1.1 r1.1.2.1.2 r1.1.2.2.1 r1.1.2.2.2.1 r1.1.2.2.2.2) (cwV 1 hts gX12_rank_X12_reduceAt rfl rfl rfl (by decide +kernel) ⟨Nat.le_of_ble_eq_true rfl, Nat.le_of_ble_eq_true rfl⟩) ⟨fun a U g mk q => by obtain ⟨q0, q1, qP, qK, qD⟩ := q; exact ⟨q0, q1, qP, va_K.moved (u := U) (U := U.calling g mk a) (Vm.Alike.refl U.vm) qK, qD⟩, va_recv hK hP (ci := 12) (q0 := 0) rfl rfl, fun U hU hW => ⟨rfl, by rw [hU], by rw [hU]; exact hP, va_K.moved hW.alike hK, hD.weaken (fun _ _ _ _ => trivial)⟩⟩ rfl rfl hl.1 rfl (lv_room (Nat.le_of_ble_eq_true rfl)) dX12_rank_32 ⟨Nat.le_of_ble_eq_true rfl, Nat.le_of_ble_eq_true rfl⟩) hS (fun q _ h => hFc q h) hFc (fun u9 t H1 locs ht hvm hw hB hz1 hk1 hS => ?_)
        obtain ⟨hP1, hK1, hD1⟩ := hB
        rw [ht] at hP1
        rw [hw] at hP1 hD1
        have hD2 := hD1.weaken (B := A) (fun _ q _ h => hFc q.1 h)
        have hP := hP1
        have hD := hD2
        generalize H1 = H at hP hS ⊢
        obtain ⟨e1, w1, kv1, nv1⟩ := red_D f1 mz0 d1.2 (by omega) (by omega)
        have g1 : slF x ((F_m_reduceAt ((F_m_copy (x) (a) ((9 : Int))).2) ((9 : Int))).2) := slD_F f1 e1 (by decide)
        have kw : slK x ((F_m_reduceAt ((F_m_copy (x) (a) ((9 : Int))).2) ((9 : Int))).2) 9 w1 := kv1
        have ws1 : ((F_m_reduceAt ((F_m_copy (x) (a) ((9 : Int))).2) ((9 : Int))).2).2 1 ((9 : Int)).toNat = (w1.length : Int) := kw.1
        have ws3 : ((F_m_reduceAt ((F_m_copy (x) (a) ((9 : Int))).2) ((9 : Int))).2).2 1 9 = (w1.length : Int) := kw.1
        have wl1 := kw.2.2.2
        have ws2 : slM ((F_m_reduceAt ((F_m_copy (x) (a) ((9 : Int))).2) ((9 : Int))).2) 9 = w1 := kw.2.1
        refine lv_aload_n hx hb dX12_rank_35 rfl (lv_at hl 0 rfl) ?_
        refine va_get (D := (dC, dI)) (ci := 12) (v := .ref (ad 1)) (C := RX12) (T := TX12) (N := 34) hx hb hts hin hown hK hP 0 rfl rfl 1 (by decide) (hts (.fieldLink RX12 13 "LikeWordsModel" "size" "[I") (by decide +kernel)) (fun _ h9 => h9) rfl dX12_rank_36 ?_
        refine lv_bipush (v := iI (9 : Int)) hx hb dX12_rank_39 (by decide) ?_
        refine wi_iald (f := ((F_m_reduceAt ((F_m_copy (x) (a) ((9 : Int))).2) ((9 : Int))).2).2 1) hx hb hK hP 1 0 rfl rfl (i := (9 : Int)) (by omega) (by omega) (by decide) dX12_rank_41 ?_
        refine lv_bipush (v := iI (30 : Int)) hx hb dX12_rank_42 (by decide) ?_
        refine wi_icmp_le (tgt := 51) hx hb (by first | assumption | (unfold iR; omega) | exact F_R01 (by assumption)) ⟨by decide, by decide⟩ dX12_rank_44 (by decide) (fun c_44 => ?_) (fun c_44 => ?_)
        · skip
          rw [if_pos c_44] at hres
          refine lv_lconst (v := iL 0) hx hb dX12_rank_51 (by decide) ?_
          refine lv_lstore_n (lv' := [(2, .long (iL ((0 : Int)))), (0, .ref (h)), (1, .int (iI (a)))]) hx hb dX12_rank_52 rfl hl (by decide) rfl (fun ls hl => ?_)
          refine lv_iconst (v := iI (0 : Int)) hx hb dX12_rank_53 (by decide) ?_
          refine lv_istore (lv' := [(4, .int (iI ((0 : Int)))), (2, .long (iL ((0 : Int)))), (0, .ref (h)), (1, .int (iI (a)))]) hx hb dX12_rank_54 hl (by decide) rfl (fun ls hl => ?_)
          exact (L (1000)).1 ((F_m_reduceAt ((F_m_copy (x) (a) ((9 : Int))).2) ((9 : Int))).2) ((0 : Int)) ((0 : Int)) (g1) (mz0) (c_15) (by omega) (by rw [ws2]; exact nv1) (by rw [ws2]; exact kw) (by show _ ≤ (30 : Int); omega) (rfl) (by omega) (by show (0 : Int) ≤ _; omega) (by omega) hres _ _ ls hP hD hS (lv_sub hl [2, 3, 1, 0] rfl)
        · skip
          rw [if_neg c_44] at hres
          refine lv_ldc2 (v := iL (-4 : Int)) hx hb hown (hts (.constantLong RX12 243 (-4)) (by decide +kernel)) dX12_rank_47 ?_
          exact W.lret (v := iL ((-4 : Int))) hx hb hr (fun t ht hW => ⟨⟨iL ((-4 : Int)), (F_m_reduceAt ((F_m_copy (x) (a) ((9 : Int))).2) ((9 : Int))).2, rfl, ⟨(by have h9 := congrArg (fun z : Int × MS => iL z.1) hres; exact h9), (by have h9 := congrArg (fun z : Int × MS => z.2) hres; exact h9)⟩, by rw [ht]; exact hP, va_K.moved hW.alike hK, hD⟩, hS.F ht⟩) hS.2.2 dX12_rank_50
      · skip
        rw [if_pos c_15] at hres
        refine lv_ldc2 (v := iL (-3 : Int)) hx hb hown (hts (.constantLong RX12 236 (-3)) (by decide +kernel)) dX12_rank_18 ?_
        exact W.lret (v := iL ((-3 : Int))) hx hb hr (fun t ht hW => ⟨⟨iL ((-3 : Int)), x, rfl, ⟨(by have h9 := congrArg (fun z : Int × MS => iL z.1) hres; exact h9), (by have h9 := congrArg (fun z : Int × MS => z.2) hres; exact h9)⟩, by rw [ht]; exact hP, va_K.moved hW.alike hK, hD⟩, hS.F ht⟩) hS.2.2 dX12_rank_21
    · skip
      rw [if_pos c_4] at hres
      refine lv_ldc2 (v := iL (-1 : Int)) hx hb hown (hts (.constantLong RX12 253 (-1)) (by decide +kernel)) dX12_rank_7 ?_
      exact W.lret (v := iL ((-1 : Int))) hx hb hr (fun t ht hW => ⟨⟨iL ((-1 : Int)), x, rfl, ⟨(by have h9 := congrArg (fun z : Int × MS => iL z.1) hres; exact h9), (by have h9 := congrArg (fun z : Int × MS => z.2) hres; exact h9)⟩, by rw [ht]; exact hP, va_K.moved hW.alike hK, hD⟩, hS.F ht⟩) hS.2.2 dX12_rank_10
  exact key _ _ hP hS
theorem F_m_rank_sfr : ∀ n : Nat, (∀ (y : MS) (v0 : Int) (v1 : Int) (v2 : Int) (v3 : Int) (v4 : Int) (v5 : Int), same [] [1, 2, 26] y (F_m_rank_s n 0 y v0 v1 v2 v3 v4 v5).2) ∧ (∀ (y : MS) (v0 : Int) (v1 : Int) (v2 : Int) (v3 : Int) (v4 : Int) (v5 : Int), same [] [1, 2, 26] y (F_m_rank_s n 1 y v0 v1 v2 v3 v4 v5).2) ∧ (∀ (y : MS) (v0 : Int) (v1 : Int) (v2 : Int) (v3 : Int) (v4 : Int) (v5 : Int), same [] [1, 2, 26] y (F_m_rank_s n 2 y v0 v1 v2 v3 v4 v5).2) := by
  intro n
  induction n with
  | zero => exact ⟨fun y _ _ _ _ _ _ => sm_rf _ _ _, fun y _ _ _ _ _ _ => sm_rf _ _ _, fun y _ _ _ _ _ _ => sm_rf _ _ _⟩
  | succ n ih =>
    refine ⟨?_, ?_, ?_⟩
    · intro y a q m9 q0 q1 q2
      rw [F_m_rank_e0]
      by_cases hc : (((y).2 1) ((9 : Int)).toNat) ≤ (m9)
      · rw [if_pos hc]
        exact sm_tr ((sm_rf _ _ _)) (ih.2.1 (y) (a) (q) ((0 : Int)) ((0 : Int)) (0) (0))
      · rw [if_neg hc]
        exact sm_tr ((sm_rf _ _ _)) (ih.1 (y) (a) ((q) + (((y).2 28) (m9).toNat)) ((m9) + (1 : Int)) (0) (0) (0))
    · intro y a q g9 k9 q0 q1
      rw [F_m_rank_e1]
      by_cases hc : (((y).2 1) ((9 : Int)).toNat) ≤ (k9)
      · rw [if_pos hc]
        exact (sm_rf _ _ _)
      · rw [if_neg hc]
        exact sm_tr ((sm_rf _ _ _)) (ih.2.2 (y) (a) (q) (g9) (k9) (((y).2 2) (((1152 : Int)) + (k9)).toNat) ((0 : Int)))
    · intro y a q g9 k9 b9 c9
      rw [F_m_rank_e2]
      by_cases hc : (b9) ≤ (c9)
      · rw [if_pos hc]
        exact sm_tr ((sm_rf _ _ _)) (ih.2.1 (y) (a) (q) ((F_m_next (y) (g9) (b9)).1) ((k9) + (1 : Int)) (0) (0))
      · rw [if_neg hc]
        exact sm_tr ((sm_rf _ _ _)) (ih.2.2 (y) (a) ((q) + ((F_m_onward (y) (g9) (c9) (((((y).2 1) ((9 : Int)).toNat) - (k9)) - ((1 : Int)))).1)) (g9) (k9) (b9) ((c9) + (1 : Int)))
theorem F_m_rank_fr (x : MS) (a : Int) : same [] [1, 2, 26] x (F_m_rank (x) (a)).2 := by
  unfold F_m_rank
  by_cases hc : ((F_m_isSlot (x) (a)).1) = (0)
  · rw [if_pos hc]
    exact (sm_rf _ _ _)
  · rw [if_neg hc]
    by_cases hc : ((F_m_isMachine (x)).1) = (0)
    · rw [if_pos hc]
      exact (sm_rf _ _ _)
    · rw [if_neg hc]
      by_cases hc : ((((F_m_reduceAt ((F_m_copy (x) (a) ((9 : Int))).2) ((9 : Int))).2).2 1) ((9 : Int)).toNat) ≤ ((30 : Int))
      · rw [if_pos hc]
        exact sm_tr ((sm_tr (sm_tr (sm_rf _ _ _) (sm_mono (by decide) (by decide) (F_m_copy_fr (x) (a) ((9 : Int))))) (sm_mono (by decide) (by decide) (F_m_reduceAt_fr ((F_m_copy (x) (a) ((9 : Int))).2) ((9 : Int)))))) ((F_m_rank_sfr 1000).1 ((F_m_reduceAt ((F_m_copy (x) (a) ((9 : Int))).2) ((9 : Int))).2) (a) ((0 : Int)) ((0 : Int)) (0) (0) (0))
      · rw [if_neg hc]
        exact (sm_tr (sm_tr (sm_rf _ _ _) (sm_mono (by decide) (by decide) (F_m_copy_fr (x) (a) ((9 : Int))))) (sm_mono (by decide) (by decide) (F_m_reduceAt_fr ((F_m_copy (x) (a) ((9 : Int))).2) ((9 : Int)))))
set_option maxHeartbeats 4000000 in
theorem F_m_rank_p (x : MS) (a : Int) (ra : iR a) (sn : iR (x.1 6)) (ic : x.1 27 = 0 ∨ x.1 27 = 1) (mz : ¬ (F_m_isMachine x).1 = 0 → mzH x) (hrw : rwR x) (hs : ∀ k : Nat, k < 9 → slH x k) (cy : ¬ (F_m_isMachine x).1 = 0 → cyI x x 31) : rkQ x a (F_m_rank (x) (a)) := by
  have L : ∀ n : Nat, (∀ (y : MS) (q : Int) (m9 : Int), (slF x y) → (mzH x) → (¬ (F_m_isMachine x).1 = 0) → (0 ≤ a ∧ a ≤ 7) → (nfP x (slM x a.toNat) (slM y 9)) → (slK x y 9 (slM y 9)) → (y.2 1 9 ≤ 30) → (q = rk1 x m9.toNat) → (0 ≤ m9) → (m9 ≤ y.2 1 9) → (500 + 40 - m9 < n) → rkQ x a (F_m_rank_s n 0 y a q m9 0 0 0)) ∧ (∀ (y : MS) (q : Int) (g9 : Int) (k9 : Int), (slF x y) → (mzH x) → (¬ (F_m_isMachine x).1 = 0) → (0 ≤ a ∧ a ≤ 7) → (nfP x (slM x a.toNat) (slM y 9)) → (slK x y 9 (slM y 9)) → (y.2 1 9 ≤ 30) → (q + rk2 x g9 ((slM y 9).drop k9.toNat) = rkV x (slM y 9)) → (rkA x (slM y 9) k9.toNat g9) → (0 ≤ k9) → (k9 ≤ y.2 1 9) → (k9 ≤ 30) → ((31 - k9) * 10 + 10 < n) → rkQ x a (F_m_rank_s n 1 y a q g9 k9 0 0)) ∧ (∀ (y : MS) (q : Int) (g9 : Int) (k9 : Int) (b9 : Int) (c9 : Int), (slF x y) → (mzH x) → (¬ (F_m_isMachine x).1 = 0) → (0 ≤ a ∧ a ≤ 7) → (nfP x (slM x a.toNat) (slM y 9)) → (slK x y 9 (slM y 9)) → (y.2 1 9 ≤ 30) → (q + (wsm x (wN x ((slM y 9).length - k9.toNat - 1)) g9 b9.toNat - wsm x (wN x ((slM y 9).length - k9.toNat - 1)) g9 c9.toNat) + rk2 x (F_m_next x g9 b9).1 ((slM y 9).drop (k9 + (1 : Int)).toNat) = rkV x (slM y 9)) → (rkA x (slM y 9) k9.toNat g9) → (b9 = y.2 2 ((1152 : Int) + k9).toNat) → (0 ≤ k9) → (k9 < y.2 1 9) → (k9 < 30) → (0 ≤ c9) → (c9 ≤ b9) → (c9 ≤ 4) → ((31 - k9) * 10 + 8 - c9 < n) → rkQ x a (F_m_rank_s n 2 y a q g9 k9 b9 c9)) := by
    intro n
    induction n with
    | zero =>
      refine ⟨?_, ?_, ?_⟩
      · intro y q m9 fy mz0 hm1 ha nu kk hl9 qv m0 m1 fu
        exact absurd fu (by omega)
      · intro y q g9 k9 fy mz0 hm1 ha nu kk hl9 qq as9 k0 k1 k2 fu
        exact absurd fu (by omega)
      · intro y q g9 k9 b9 c9 fy mz0 hm1 ha nu kk hl9 qq as9 eb9 k0 k1 k2 c0 c1 c2 fu
        exact absurd fu (by omega)
    | succ n ih =>
      refine ⟨?_, ?_, ?_⟩
      · intro y q m9 fy mz0 hm1 ha nu kk hl9 qv m0 m1 fu
        rw [F_m_rank_e0]
        have e9 : y.2 1 ((9 : Int)).toNat = y.2 1 9 := rfl
        have l9b := kk.1
        have y28 : y.2 28 = x.2 28 := fy.1.2 28 (by decide)
        have sm9 : same [] [1, 2, 26] x y := fy.1
        have auy : auOK y := plX_auOK (mz_e fy mz0).1.1
        have y24 : y.1 24 = x.1 24 := fy.1.1 24 List.not_mem_nil
        have y00 : y.1 0 = x.1 0 := slF_0e fy
        have nxe : ∀ a c : Int, (F_m_next y a c).1 = (F_m_next x a c).1 := fun a c => nx_same sm9 (by decide) (by decide) (by decide) (by decide) a c
        have u0 := auy.1.1
        have u1 := auy.1.2.1
        have u2 := auy.1.2.2.1
        have u3 := auy.1.2.2.2
        have cyx := cy hm1
        have st1 := rkA_b (rkA_0 mz0.1 [])
        by_cases c_65 : (((y).2 1) ((9 : Int)).toNat) ≤ (m9)
        · rw [if_pos c_65]
          exact ih.2.1 (y) (q) ((0 : Int)) ((0 : Int)) (fy) (mz0) (hm1) (ha) (nu) (kk) (hl9) (by rw [qv, show m9.toNat = (slM y 9).length by omega]; show _ + rk2 x 0 ((slM y 9).drop 0) = _; rw [List.drop_zero]; rfl) (rkA_0 mz0.1 _) (by omega) (by omega) (by omega) (by omega)
        · rw [if_neg c_65]
          exact ih.1 (y) ((q) + (((y).2 28) (m9).toNat)) ((m9) + (1 : Int)) (fy) (mz0) (hm1) (ha) (nu) (kk) (hl9) (by rw [show (m9 + (1 : Int)).toNat = m9.toNat + 1 by omega, qv, y28]; show _ = rk1 x m9.toNat + wN x m9.toNat 0; rw [show x.2 28 m9.toNat = wN x m9.toNat ((0 : Nat) : Int) from (by have h9 := cyx m9.toNat 0 (by omega) (by omega); rw [Nat.mul_zero, Nat.zero_add] at h9; exact h9)]; rfl) (by omega) (by omega) (by omega)
      · intro y q g9 k9 fy mz0 hm1 ha nu kk hl9 qq as9 k0 k1 k2 fu
        rw [F_m_rank_e1]
        have e9 : y.2 1 ((9 : Int)).toNat = y.2 1 9 := rfl
        have l9b := kk.1
        have y28 : y.2 28 = x.2 28 := fy.1.2 28 (by decide)
        have sm9 : same [] [1, 2, 26] x y := fy.1
        have auy : auOK y := plX_auOK (mz_e fy mz0).1.1
        have y24 : y.1 24 = x.1 24 := fy.1.1 24 List.not_mem_nil
        have y00 : y.1 0 = x.1 0 := slF_0e fy
        have nxe : ∀ a c : Int, (F_m_next y a c).1 = (F_m_next x a c).1 := fun a c => nx_same sm9 (by decide) (by decide) (by decide) (by decide) a c
        have u0 := auy.1.1
        have u1 := auy.1.2.1
        have u2 := auy.1.2.2.1
        have u3 := auy.1.2.2.2
        have cyx := cy hm1
        have st1 := rkA_b (rkA_0 mz0.1 [])
        by_cases c_99 : (((y).2 1) ((9 : Int)).toNat) ≤ (k9)
        · rw [if_pos c_99]
          exact Or.inr ⟨ha, Or.inr ⟨hm1, fy, _, nu, Or.inr ⟨by omega, by have h9 := qq; rw [List.drop_eq_nil_of_le (by omega)] at h9; have h8 : rk2 x g9 [] = 0 := rfl; show q = _; omega⟩⟩⟩
        · rw [if_neg c_99]
          obtain ⟨kh, ke, kl0, kl1⟩ := rk_l kk k0 (by omega)
          have ab := rkA_b as9
          exact ih.2.2 (y) (q) (g9) (k9) (((y).2 2) (((1152 : Int)) + (k9)).toNat) ((0 : Int)) (fy) (mz0) (hm1) (ha) (nu) (kk) (hl9) (rk_in k0 kh ke qq) (as9) (rfl) (by omega) (by omega) (by omega) (by omega) (by omega) (by omega) (by omega)
      · intro y q g9 k9 b9 c9 fy mz0 hm1 ha nu kk hl9 qq as9 eb9 k0 k1 k2 c0 c1 c2 fu
        rw [F_m_rank_e2]
        have e9 : y.2 1 ((9 : Int)).toNat = y.2 1 9 := rfl
        have l9b := kk.1
        have y28 : y.2 28 = x.2 28 := fy.1.2 28 (by decide)
        have sm9 : same [] [1, 2, 26] x y := fy.1
        have auy : auOK y := plX_auOK (mz_e fy mz0).1.1
        have y24 : y.1 24 = x.1 24 := fy.1.1 24 List.not_mem_nil
        have y00 : y.1 0 = x.1 0 := slF_0e fy
        have nxe : ∀ a c : Int, (F_m_next y a c).1 = (F_m_next x a c).1 := fun a c => nx_same sm9 (by decide) (by decide) (by decide) (by decide) a c
        have u0 := auy.1.1
        have u1 := auy.1.2.1
        have u2 := auy.1.2.2.1
        have u3 := auy.1.2.2.2
        have cyx := cy hm1
        have st1 := rkA_b (rkA_0 mz0.1 [])
        obtain ⟨kh, ke, kl0, kl1⟩ := rk_l kk k0 (by omega)
        have ab := rkA_b as9
        by_cases c_122 : (b9) ≤ (c9)
        · rw [if_pos c_122]
          have hn9 := auy.2 g9 b9 (by omega) (by omega) (by omega) (by omega)
          have hn8 := hn9.2
          exact ih.2.1 (y) (q) ((F_m_next (y) (g9) (b9)).1) ((k9) + (1 : Int)) (fy) (mz0) (hm1) (ha) (nu) (kk) (hl9) (by rw [nxe]; have h9 := qq; rw [show c9 = b9 by omega] at h9; omega) (by rw [nxe]; exact rkA_s k0 as9 nu.1 kh (ke.trans eb9.symm) (by omega) (by omega)) (by omega) (by omega) (by omega) (by omega)
        · rw [if_neg c_122]
          have hn9 := auy.2 g9 c9 (by omega) (by omega) (by omega) (by omega)
          have hn8 := hn9.2
          have ow := cy_ow (z := x) (plX_auOK mz0.1) (sm_rf _ _ _) cyx (g := g9) (c := c9) (j := y.2 1 9 - k9 - 1) (by omega) (by omega) (by omega) (by omega) (by omega) (by omega)
          have ow2 : (F_m_onward y g9 c9 (y.2 1 ((9 : Int)).toNat - k9 - (1 : Int))).1 = (F_m_onward x g9 c9 (y.2 1 9 - k9 - 1)).1 := by
            rw [F_m_onward_1, F_m_onward_1, nxe, y28]; rfl
          exact ih.2.2 (y) ((q) + ((F_m_onward (y) (g9) (c9) (((((y).2 1) ((9 : Int)).toNat) - (k9)) - ((1 : Int)))).1)) (g9) (k9) (b9) ((c9) + (1 : Int)) (fy) (mz0) (hm1) (ha) (nu) (kk) (hl9) (by rw [rk_add (j := (slM y 9).length - k9.toNat - 1) c0 (v := (F_m_onward y g9 c9 (y.2 1 ((9 : Int)).toNat - k9 - (1 : Int))).1) (by rw [ow2, ow, show (y.2 1 9 - k9 - 1).toNat = (slM y 9).length - k9.toNat - 1 by omega])]; omega) (as9) (eb9) (by omega) (by omega) (by omega) (by omega) (by omega) (by omega) (by omega)
  unfold F_m_rank
  by_cases c_4 : ((F_m_isSlot (x) (a)).1) = (0)
  · rw [if_pos c_4]
    exact Or.inl ⟨F_in_00 (by rw [← F_m_isSlot_1 x a]; exact c_4), rfl⟩
  · rw [if_neg c_4]
    obtain ⟨a0, a1⟩ := F_in_1 (by rw [← F_m_isSlot_1 x a]; exact c_4)
    by_cases c_15 : ((F_m_isMachine (x)).1) = (0)
    · rw [if_pos c_15]
      exact Or.inr ⟨by omega, Or.inl ⟨c_15, rfl⟩⟩
    · rw [if_neg c_15]
      have mz0 := mz c_15
      have zb := (hs a.toNat (by omega)).1
      have d1 : slD x ((F_m_copy (x) (a) ((9 : Int))).2) 9 ∧ slK x ((F_m_copy (x) (a) ((9 : Int))).2) 9 (slM x a.toNat) := by
        have h9 := copy_D (x := x) (a := a.toNat) (b := 9) hrw (slH_K (hs a.toNat (by omega))) (by omega) (by omega)
        rw [show (a.toNat : Int) = a by omega] at h9
        exact h9
      have f1 := slD_F (slF_0 hrw) d1.1 (by decide)
      have r1 := slH_r f1 mz0 d1.2 (by omega) (by omega)
      obtain ⟨e1, w1, kv1, nv1⟩ := red_D f1 mz0 d1.2 (by omega) (by omega)
      have g1 : slF x ((F_m_reduceAt ((F_m_copy (x) (a) ((9 : Int))).2) ((9 : Int))).2) := slD_F f1 e1 (by decide)
      have kw : slK x ((F_m_reduceAt ((F_m_copy (x) (a) ((9 : Int))).2) ((9 : Int))).2) 9 w1 := kv1
      have ws1 : ((F_m_reduceAt ((F_m_copy (x) (a) ((9 : Int))).2) ((9 : Int))).2).2 1 ((9 : Int)).toNat = (w1.length : Int) := kw.1
      have ws3 : ((F_m_reduceAt ((F_m_copy (x) (a) ((9 : Int))).2) ((9 : Int))).2).2 1 9 = (w1.length : Int) := kw.1
      have wl1 := kw.2.2.2
      have ws2 : slM ((F_m_reduceAt ((F_m_copy (x) (a) ((9 : Int))).2) ((9 : Int))).2) 9 = w1 := kw.2.1
      by_cases c_44 : ((((F_m_reduceAt ((F_m_copy (x) (a) ((9 : Int))).2) ((9 : Int))).2).2 1) ((9 : Int)).toNat) ≤ ((30 : Int))
      · rw [if_pos c_44]
        exact (L (1000)).1 ((F_m_reduceAt ((F_m_copy (x) (a) ((9 : Int))).2) ((9 : Int))).2) ((0 : Int)) ((0 : Int)) (g1) (mz0) (c_15) (by omega) (by rw [ws2]; exact nv1) (by rw [ws2]; exact kw) (by show _ ≤ (30 : Int); omega) (rfl) (by omega) (by show (0 : Int) ≤ _; omega) (by omega)
      · rw [if_neg c_44]
        exact Or.inr ⟨by omega, Or.inr ⟨c_15, g1, w1, nv1, Or.inl ⟨by omega, rfl⟩⟩⟩
