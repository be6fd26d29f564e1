section WZ
variable {p : Program} {l : Launch} {e : Env} {R : Room} {s : State} {m : MethodId} {args : Array Value} {below : List Frame} {meth : Method} {c : Code} {H H0 : Heap} {locs : List Loc} {cells slots : Nat} {Q : State → Prop} {cc : ByteArray} {pc : Nat} {ls : Array Slot} {rest : List Value} {D : va_G} {cl : List vw_C} {ws : va_W} {tys : List (ClassId × FieldType)} {A : Nat → Prop} {ad : Nat}
theorem iI_nz {x : Int} (h : x = 0 ∨ x = 1) : vp_nar .boolean (iI x) = iI x := by rcases h with h | h <;> subst h <;> rfl
theorem wi_zast (hx : p.tables.exec = Jvm.exec) (hb : c.code = cc) (hK : va_K D cl tys s) (hP : va_P D cl ws H) (hD : va_D A ws) (hS : va_S A H0 H locs) (q0 t0 : Nat) {cA : ClassId} {n : Nat} {f : Nat → Int} (ha : ws[q0]? = some (ad, .inl (cA, n, .inl (iA f)))) (ht : tys[t0]? = some (cA, .boolean)) {i x : Int} (h01 : x = 0 ∨ x = 1) (h0 : 0 ≤ i) (h1 : i < n) (hn : n < 2147483648) (hdg : decode cc pc = .ok (.bastore, 1)) (k : ∀ (H1 : Heap) (locs1 : List Loc), va_P D cl (ws.set q0 (ad, .inl (cA, n, .inl (iA (iU f i.toNat x))))) H1 → va_D A (ws.set q0 (ad, .inl (cA, n, .inl (iA (iU f i.toNat x))))) → va_S A H0 H1 locs1 → W p l e R s m args below meth c H1 locs1 cells slots Q (F0 m (pc + 1) ls rest)) : W p l e R s m args below meth c H locs cells slots Q (F0 m pc ls (.int (iI x) :: .int (iI i) :: .ref ad :: rest)) := va_zast hx hb hK hP hD hS q0 t0 ha ht (iI_in h0 h1 hn) hdg (by rw [iI_clamp ⟨by omega, by omega⟩, iI_nz h01, iA_upd]; exact k)
end WZ
/-- next() is safe at a state and a letter, and its answer is a state or NONE -/
def nxOK (x : MS) (g c : Int) : Prop := (0 ≤ x.2 25 g.toNat ∧ x.2 25 g.toNat < 850 ∧ 0 ≤ (x.2 19) ((4 * (x.2 25 g.toNat)) + c).toNat ∧ (x.2 19) ((4 * (x.2 25 g.toNat)) + c).toNat < 850 ∧ iR ((x.2 21) ((x.2 19) ((4 * (x.2 25 g.toNat)) + c).toNat).toNat)) ∧ ((F_m_next x g c).1 = -9 ∨ (0 ≤ (F_m_next x g c).1 ∧ (F_m_next x g c).1 < x.1 24))
def auOK (x : MS) : Prop := (0 ≤ x.1 24 ∧ x.1 24 ≤ 850 ∧ 1 ≤ x.1 0 ∧ x.1 0 ≤ 4) ∧ ∀ g c : Int, 0 ≤ g → g < x.1 24 → 0 ≤ c → c < x.1 0 → nxOK x g c
theorem F_m_next_1 (x : MS) (g c : Int) : (F_m_next x g c).1 = if (x.2 21) ((x.2 19) ((4 * (x.2 25 g.toNat)) + c).toNat).toNat = -9 then (x.2 23) ((x.2 19) ((4 * (x.2 25 g.toNat)) + c).toNat).toNat else -9 := by
  unfold F_m_next
  by_cases h : (x.2 21) ((x.2 19) ((4 * (x.2 25 g.toNat)) + c).toNat).toNat = -9
  · rw [if_pos h, if_pos h]
  · rw [if_neg h, if_neg h]
theorem auOK_same {A : List Nat} {x y : MS} (h : auOK x) (g : same [] A x y) (h1 : 19 ∉ A) (h2 : 21 ∉ A) (h3 : 23 ∉ A) (h4 : 25 ∉ A) : auOK y := by
  have e0 := g.1 0 List.not_mem_nil
  have e24 := g.1 24 List.not_mem_nil
  have t19 := g.2 19 h1
  have t21 := g.2 21 h2
  have t23 := g.2 23 h3
  have t25 := g.2 25 h4
  unfold auOK nxOK at *
  simp only [F_m_next_1, e0, e24, t19, t21, t23, t25] at *
  exact h
def F_m_countAll_s : Nat → Nat → MS → Int → Int → Int → Int → Int × MS
  | 0, _, x, _, _, _, _ => (0, x)
  | n + 1, t, x, p0, p1, p2, p3 => match t with
    | 0 => (fun (k : Int) => (if ((30 : Int)) < (k) then (0, x) else F_m_countAll_s n 1 (x) (k) ((0 : Int)) (0) (0))) p0
    | 1 => (fun (k : Int) (g : Int) => (if ((x).1 24) ≤ (g) then F_m_countAll_s n 0 (x) ((k) + (1 : Int)) (0) (0) (0) else (if (k) = (0) then F_m_countAll_s n 2 (x) (k) (g) ((1 : Int)) ((0 : Int)) else F_m_countAll_s n 2 (x) (k) (g) ((0 : Int)) ((0 : Int))))) p0 p1
    | 2 => (fun (k : Int) (g : Int) (q : Int) (c0 : Int) => (if ((x).1 0) ≤ (c0) then F_m_countAll_s n 1 (aU (x) 28 ((((31 : Int)) * (g)) + (k)).toNat (q)) (k) ((g) + (1 : Int)) (0) (0) else (if (k) ≤ (0) then F_m_countAll_s n 1 (aU (x) 28 ((((31 : Int)) * (g)) + (k)).toNat (q)) (k) ((g) + (1 : Int)) (0) (0) else (if ((F_m_next (x) (g) (c0)).1) = ((-9 : Int)) then F_m_countAll_s n 2 (x) (k) (g) ((q) + ((0 : Int))) ((c0) + (1 : Int)) else F_m_countAll_s n 2 (x) (k) (g) ((q) + (((x).2 28) (((((31 : Int)) * ((F_m_next (x) (g) (c0)).1)) + (k)) - ((1 : Int))).toNat)) ((c0) + (1 : Int)))))) p0 p1 p2 p3
    | _ => (0, x)
theorem F_m_countAll_e0 (n : Nat) (x : MS) (k : Int) (q0 : Int) (q1 : Int) (q2 : Int) : F_m_countAll_s (n + 1) 0 x k q0 q1 q2 = (if ((30 : Int)) < (k) then (0, x) else F_m_countAll_s n 1 (x) (k) ((0 : Int)) (0) (0)) := rfl
theorem F_m_countAll_e1 (n : Nat) (x : MS) (k : Int) (g : Int) (q0 : Int) (q1 : Int) : F_m_countAll_s (n + 1) 1 x k g q0 q1 = (if ((x).1 24) ≤ (g) then F_m_countAll_s n 0 (x) ((k) + (1 : Int)) (0) (0) (0) else (if (k) = (0) then F_m_countAll_s n 2 (x) (k) (g) ((1 : Int)) ((0 : Int)) else F_m_countAll_s n 2 (x) (k) (g) ((0 : Int)) ((0 : Int)))) := rfl
theorem F_m_countAll_e2 (n : Nat) (x : MS) (k : Int) (g : Int) (q : Int) (c0 : Int) : F_m_countAll_s (n + 1) 2 x k g q c0 = (if ((x).1 0) ≤ (c0) then F_m_countAll_s n 1 (aU (x) 28 ((((31 : Int)) * (g)) + (k)).toNat (q)) (k) ((g) + (1 : Int)) (0) (0) else (if (k) ≤ (0) then F_m_countAll_s n 1 (aU (x) 28 ((((31 : Int)) * (g)) + (k)).toNat (q)) (k) ((g) + (1 : Int)) (0) (0) else (if ((F_m_next (x) (g) (c0)).1) = ((-9 : Int)) then F_m_countAll_s n 2 (x) (k) (g) ((q) + ((0 : Int))) ((c0) + (1 : Int)) else F_m_countAll_s n 2 (x) (k) (g) ((q) + (((x).2 28) (((((31 : Int)) * ((F_m_next (x) (g) (c0)).1)) + (k)) - ((1 : Int))).toNat)) ((c0) + (1 : Int))))) := rfl
def F_m_countAll (x : MS)  : Int × MS := F_m_countAll_s 190000 0 (x) ((0 : Int)) (0) (0) (0)
set_option maxHeartbeats 4000000 in
set_option maxRecDepth 100000 in
/-- countAll -/
theorem c_m_countAll (l : Launch) (dC : Nat → ClassId) (dI : Nat → Nat → Nat) (h : Nat) (ad : Nat → Nat) (cI cJ cZ : ClassId) (sz : Nat) (x : MS)  (au : auOK x) : Met l yX12_countAll wsX12_countAll ({ frames := 1, cells := 0, slots := 0, locals := 23 }) (mPc dC dI h ad cI cJ cZ sz x [.ref h]) (va_Qv (fun u : MS => u = (F_m_countAll (x)).2) (mAt dC dI h ad cI cJ cZ (va_A (mW h ad cI cJ cZ (x)) sz)) (va_A (mW h ad cI cJ cZ (x)) sz)) 0 0 (va_A (mW h ad cI cJ cZ (x)) sz) := by
  refine Met.ofW (cc := cX12_countAll) (maxL := 7) (ret := none) (by decide) rfl ?_
  intro p e s m args below meth c s₁ B hml hv
  obtain ⟨rfl, hsz, hP, hK, hD0⟩ := hv
  have hx := B.exec
  have hb := B.bytes
  have hr := B.returns
  have hts := atoms_spec (ws := wsX12_countAll) B.pre
  have hown : s.vm.findClass RX12 = some m.cls := findClass_of_methodNamed B.named
  have hlocks := B.notSynchronized
  have hin : ∀ w ∈ u_ws RX12 TX12 34, w ∈ wsX12_countAll := by decide +kernel
  subst hsz
  have hD := hD0.self (sz := s.heap.size)
  generalize hAe : va_A (mW h ad cI cJ cZ (x)) s.heap.size = A at hD ⊢
  have hA : ∀ q : Nat, s.heap.size ≤ q → A q := fun q h => by rw [← hAe]; exact Or.inr h
  have hS : va_S A s.heap s.heap [] := va_S.rf
  have hl := lv_entry ([.ref h]) (n := 7) (Nat.le_of_ble_eq_true rfl)
  rw [lg_entry_eq]
  generalize (lg_sl ([.ref h]) ++ List.replicate (7 - (lg_sl ([.ref h])).length) Slot.unset).toArray = ls at hl ⊢
  have hl : lv_has ls 7 [(0, .ref (h))] := hl
  have L : ∀ n : Nat, (∀ (y : MS) (k : Int), (same [] [28] x y) → (0 ≤ k) → (k ≤ 31) → ((31 - k) * 6000 + 10 < n) → F_m_countAll_s n 0 y k 0 0 0 = F_m_countAll (x) → ∀ (H : Heap) (locs : List Loc) (ls : Array Slot), va_P (dC, dI) vwCl (mW h ad cI cJ cZ (y)) H → va_D A (mW h ad cI cJ cZ (y)) → va_S A s.heap H locs → lv_has ls 7 [(0, .ref (h)), (1, .int (iI (k)))] → W p l e (headSpec wsX12_countAll ({ frames := 1, cells := 0, slots := 0, locals := 23 })).room s m ([.ref h] : List Value).toArray below meth c H locs 0 0 (MQ below (va_Qv (fun u : MS => u = (F_m_countAll (x)).2) (mAt dC dI h ad cI cJ cZ A) A) ([.ref h] : List Value).toArray s 0 0 A) (F0 m 2 ls [])) ∧ (∀ (y : MS) (k : Int) (g : Int), (same [] [28] x y) → (0 ≤ k) → (k ≤ 30) → (0 ≤ g) → (g ≤ 850) → ((30 - k) * 6000 + (850 - g) * 7 + 20 < n) → F_m_countAll_s n 1 y k g 0 0 = F_m_countAll (x) → ∀ (H : Heap) (locs : List Loc) (ls : Array Slot), va_P (dC, dI) vwCl (mW h ad cI cJ cZ (y)) H → va_D A (mW h ad cI cJ cZ (y)) → va_S A s.heap H locs → lv_has ls 7 [(0, .ref (h)), (1, .int (iI (k))), (2, .int (iI (g)))] → W p l e (headSpec wsX12_countAll ({ frames := 1, cells := 0, slots := 0, locals := 23 })).room s m ([.ref h] : List Value).toArray below meth c H locs 0 0 (MQ below (va_Qv (fun u : MS => u = (F_m_countAll (x)).2) (mAt dC dI h ad cI cJ cZ A) A) ([.ref h] : List Value).toArray s 0 0 A) (F0 m 10 ls [])) ∧ (∀ (y : MS) (k : Int) (g : Int) (q : Int) (c0 : Int), (same [] [28] x y) → (0 ≤ k) → (k ≤ 30) → (0 ≤ g) → (g < y.1 24) → (g < 850) → (0 ≤ c0) → (c0 ≤ 4) → ((30 - k) * 6000 + (849 - g) * 7 + (4 - c0) + 21 < n) → F_m_countAll_s n 2 y k g q c0 = F_m_countAll (x) → ∀ (H : Heap) (locs : List Loc) (ls : Array Slot), va_P (dC, dI) vwCl (mW h ad cI cJ cZ (y)) H → va_D A (mW h ad cI cJ cZ (y)) → va_S A s.heap H locs → lv_has ls 7 [(0, .ref (h)), (1, .int (iI (k))), (2, .int (iI (g))), (3, .long (iL (q))), (5, .int (iI (c0)))] → W p l e (headSpec wsX12_countAll ({ frames := 1, cells := 0, slots := 0, locals := 23 })).room s m ([.ref h] : List Value).toArray below meth c H locs 0 0 (MQ below (va_Qv (fun u : MS => u = (F_m_countAll (x)).2) (mAt dC dI h ad cI cJ cZ A) A) ([.ref h] : List Value).toArray s 0 0 A) (F0 m 31 ls [])) := by
    intro n
    induction n with
    | zero =>
      refine ⟨?_, ?_, ?_⟩
      · intro y k sm k0 k1 fu hres
        exact absurd fu (by omega)
      · intro y k g sm k0 k1 g0 g1 fu hres
        exact absurd fu (by omega)
      · intro y k g q c0 sm k0 k1 g0 g1 g2 c1 c2 fu hres
        exact absurd fu (by omega)
    | succ n ih =>
      refine ⟨?_, ?_, ?_⟩
      · intro y k sm k0 k1 fu hres H locs ls hP hD hS hl
        rw [F_m_countAll_e0] at hres
        refine lv_iload_n hx hb dX12_countAll_2 rfl (lv_at hl 1 rfl) ?_
        refine lv_bipush (v := iI (30 : Int)) hx hb dX12_countAll_3 (by decide) ?_
        refine wi_icmp_gt (tgt := 111) hx hb (by first | assumption | (unfold iR; omega) | exact F_R01 (by assumption)) ⟨by decide, by decide⟩ dX12_countAll_5 (by decide) (fun c_5 => ?_) (fun c_5 => ?_)
        · skip
          rw [if_pos c_5] at hres
          exact W.vret hx hb hr (fun t ht hW => ⟨⟨y, rfl, (by have h9 := congrArg (fun z : Int × MS => z.2) hres; exact h9), by rw [ht]; exact hP, va_K.moved hW.alike hK, hD⟩, hS.F ht⟩) hS.2.2 dX12_countAll_111
        · skip
          rw [if_neg c_5] at hres
          refine lv_iconst (v := iI (0 : Int)) hx hb dX12_countAll_8 (by decide) ?_
          refine lv_istore_n (lv' := [(2, .int (iI ((0 : Int)))), (0, .ref (h)), (1, .int (iI (k)))]) hx hb dX12_countAll_9 rfl hl (by decide) rfl (fun ls hl => ?_)
          exact ih.2.1 (y) (k) ((0 : Int)) (sm) (by omega) (by omega) (by omega) (by omega) (by omega) hres _ _ ls hP hD hS (lv_sub hl [1, 2, 0] rfl)
      · intro y k g sm k0 k1 g0 g1 fu hres H locs ls hP hD hS hl
        rw [F_m_countAll_e1] at hres
        have auy := auOK_same au sm (by decide) (by decide) (by decide) (by decide)
        have u0 := auy.1.1
        have u1 := auy.1.2.1
        have u2 := auy.1.2.2.1
        have u3 := auy.1.2.2.2
        refine lv_iload_n hx hb dX12_countAll_10 rfl (lv_at hl 2 rfl) ?_
        refine lv_aload_n hx hb dX12_countAll_11 rfl (lv_at hl 0 rfl) ?_
        refine va_get (D := (dC, dI)) (ci := 12) (v := .int (iI ((y).1 24))) (C := RX12) (T := TX12) (N := 34) hx hb hts hin hown hK hP 0 rfl rfl 24 (by decide) (hts (.fieldLink RX12 164 "LikeWordsModel" "states" "I") (by decide +kernel)) (fun _ h9 => h9) rfl dX12_countAll_12 ?_
        refine wi_icmp_ge (tgt := 105) hx hb (by first | assumption | (unfold iR; omega) | exact F_R01 (by assumption)) (by first | assumption | (unfold iR; omega) | exact F_R01 (by assumption)) dX12_countAll_15 (by decide) (fun c_15 => ?_) (fun c_15 => ?_)
        · skip
          rw [if_pos c_15] at hres
          refine lv_iinc (v := iI ((k) + (1 : Int))) (lv' := [(1, .int (iI ((k) + (1 : Int)))), (0, .ref (h)), (2, .int (iI (g)))]) hx hb dX12_countAll_105 hl (k := 1) rfl (iI_add _ _) (by decide) rfl (fun ls hl => ?_)
          refine lv_goto (tgt := 2) hx hb dX12_countAll_108 (by decide) ?_
          exact ih.1 (y) ((k) + (1 : Int)) (sm) (by omega) (by omega) (by omega) hres _ _ ls hP hD hS (lv_sub hl [1, 0] rfl)
        · skip
          rw [if_neg c_15] at hres
          refine lv_iload_n hx hb dX12_countAll_18 rfl (lv_at hl 1 rfl) ?_
          refine wi_if_ne (tgt := 26) hx hb (by first | assumption | (unfold iR; omega) | exact F_R01 (by assumption)) dX12_countAll_19 (by decide) (fun c_19 => ?_) (fun c_19 => ?_)
          · skip
            rw [if_neg c_19] at hres
            refine lv_lconst (v := iL 0) hx hb dX12_countAll_26 (by decide) ?_
            refine lv_lstore_n (lv' := [(3, .long (iL ((0 : Int)))), (0, .ref (h)), (1, .int (iI (k))), (2, .int (iI (g)))]) hx hb dX12_countAll_27 rfl hl (by decide) rfl (fun ls hl => ?_)
            refine lv_iconst (v := iI (0 : Int)) hx hb dX12_countAll_28 (by decide) ?_
            refine lv_istore (lv' := [(5, .int (iI ((0 : Int)))), (3, .long (iL ((0 : Int)))), (0, .ref (h)), (1, .int (iI (k))), (2, .int (iI (g)))]) hx hb dX12_countAll_29 hl (by decide) rfl (fun ls hl => ?_)
            exact ih.2.2 (y) (k) (g) ((0 : Int)) ((0 : Int)) (sm) (by omega) (by omega) (by omega) (by first | assumption | omega) (by omega) (by omega) (by omega) (by omega) hres _ _ ls hP hD hS (lv_sub hl [2, 3, 4, 1, 0] rfl)
          · skip
            rw [if_pos c_19] at hres
            refine lv_lconst (v := iL 1) hx hb dX12_countAll_22 (by decide) ?_
            refine lv_goto (tgt := 27) hx hb dX12_countAll_23 (by decide) ?_
            refine lv_lstore_n (lv' := [(3, .long (iL ((1 : Int)))), (0, .ref (h)), (1, .int (iI (k))), (2, .int (iI (g)))]) hx hb dX12_countAll_27 rfl hl (by decide) rfl (fun ls hl => ?_)
            refine lv_iconst (v := iI (0 : Int)) hx hb dX12_countAll_28 (by decide) ?_
            refine lv_istore (lv' := [(5, .int (iI ((0 : Int)))), (3, .long (iL ((1 : Int)))), (0, .ref (h)), (1, .int (iI (k))), (2, .int (iI (g)))]) hx hb dX12_countAll_29 hl (by decide) rfl (fun ls hl => ?_)
            exact ih.2.2 (y) (k) (g) ((1 : Int)) ((0 : Int)) (sm) (by omega) (by omega) (by omega) (by first | assumption | omega) (by omega) (by omega) (by omega) (by omega) hres _ _ ls hP hD hS (lv_sub hl [2, 3, 4, 1, 0] rfl)
      · intro y k g q c0 sm k0 k1 g0 g1 g2 c1 c2 fu hres H locs ls hP hD hS hl
        rw [F_m_countAll_e2] at hres
        have auy := auOK_same au sm (by decide) (by decide) (by decide) (by decide)
        have u0 := auy.1.1
        have u1 := auy.1.2.1
        have u2 := auy.1.2.2.1
        have u3 := auy.1.2.2.2
        refine lv_iload hx hb dX12_countAll_31 (lv_at hl 4 rfl) ?_
        refine lv_aload_n hx hb dX12_countAll_33 rfl (lv_at hl 0 rfl) ?_
        refine va_get (D := (dC, dI)) (ci := 12) (v := .int (iI ((y).1 0))) (C := RX12) (T := TX12) (N := 34) hx hb hts hin hown hK hP 0 rfl rfl 0 (by decide) (hts (.fieldLink RX12 7 "LikeWordsModel" "letters" "I") (by decide +kernel)) (fun _ h9 => h9) rfl dX12_countAll_34 ?_
        refine wi_icmp_ge (tgt := 87) hx hb (by first | assumption | (unfold iR; omega) | exact F_R01 (by assumption)) (by first | assumption | (unfold iR; omega) | exact F_R01 (by assumption)) dX12_countAll_37 (by decide) (fun c_37 => ?_) (fun c_37 => ?_)
        · skip
          rw [if_pos c_37] at hres
          refine lv_aload_n hx hb dX12_countAll_87 rfl (lv_at hl 0 rfl) ?_
          refine va_get (D := (dC, dI)) (ci := 12) (v := .ref (ad 28)) (C := RX12) (T := TX12) (N := 34) hx hb hts hin hown hK hP 0 rfl rfl 28 (by decide) (hts (.fieldLink RX12 74 "LikeWordsModel" "way" "[J") (by decide +kernel)) (fun _ h9 => h9) rfl dX12_countAll_88 ?_
          refine lv_bipush (v := iI (31 : Int)) hx hb dX12_countAll_91 (by decide) ?_
          refine lv_iload_n hx hb dX12_countAll_93 rfl (lv_at hl 2 rfl) ?_
          refine wi_imul hx hb dX12_countAll_94 ?_
          refine lv_iload_n hx hb dX12_countAll_95 rfl (lv_at hl 1 rfl) ?_
          refine wi_iadd hx hb dX12_countAll_96 ?_
          refine lv_lload_n hx hb dX12_countAll_97 rfl (lv_at hl 3 rfl) ?_
          refine wi_last (f := (y).2 28) hx hb hK hP hD hS 20 1 rfl rfl (i := (((31 : Int)) * (g)) + (k)) (x := q) (by omega) (by omega) (by decide) dX12_countAll_98 (fun H locs hP hD hS => ?_)
          rw [mW_a28] at hP hD
          refine lv_iinc (v := iI ((g) + (1 : Int))) (lv' := [(2, .int (iI ((g) + (1 : Int)))), (0, .ref (h)), (1, .int (iI (k))), (3, .long (iL (q))), (5, .int (iI (c0)))]) hx hb dX12_countAll_99 hl (k := 2) rfl (iI_add _ _) (by decide) rfl (fun ls hl => ?_)
          refine lv_goto (tgt := 10) hx hb dX12_countAll_102 (by decide) ?_
          exact ih.2.1 (aU (y) 28 ((((31 : Int)) * (g)) + (k)).toNat (q)) (k) ((g) + (1 : Int)) (sm_a (by decide) sm) (by omega) (by omega) (by omega) (by omega) (by omega) hres _ _ ls hP hD hS (lv_sub hl [1, 2, 0] rfl)
        · skip
          rw [if_neg c_37] at hres
          refine lv_iload_n hx hb dX12_countAll_40 rfl (lv_at hl 1 rfl) ?_
          refine wi_if_le (tgt := 87) hx hb (by first | assumption | (unfold iR; omega) | exact F_R01 (by assumption)) dX12_countAll_41 (by decide) (fun c_41 => ?_) (fun c_41 => ?_)
          · skip
            rw [if_pos c_41] at hres
            refine lv_aload_n hx hb dX12_countAll_87 rfl (lv_at hl 0 rfl) ?_
            refine va_get (D := (dC, dI)) (ci := 12) (v := .ref (ad 28)) (C := RX12) (T := TX12) (N := 34) hx hb hts hin hown hK hP 0 rfl rfl 28 (by decide) (hts (.fieldLink RX12 74 "LikeWordsModel" "way" "[J") (by decide +kernel)) (fun _ h9 => h9) rfl dX12_countAll_88 ?_
            refine lv_bipush (v := iI (31 : Int)) hx hb dX12_countAll_91 (by decide) ?_
            refine lv_iload_n hx hb dX12_countAll_93 rfl (lv_at hl 2 rfl) ?_
            refine wi_imul hx hb dX12_countAll_94 ?_
            refine lv_iload_n hx hb dX12_countAll_95 rfl (lv_at hl 1 rfl) ?_
            refine wi_iadd hx hb dX12_countAll_96 ?_
            refine lv_lload_n hx hb dX12_countAll_97 rfl (lv_at hl 3 rfl) ?_
            refine wi_last (f := (y).2 28) hx hb hK hP hD hS 20 1 rfl rfl (i := (((31 : Int)) * (g)) + (k)) (x := q) (by omega) (by omega) (by decide) dX12_countAll_98 (fun H locs hP hD hS => ?_)
            rw [mW_a28] at hP hD
            refine lv_iinc (v := iI ((g) + (1 : Int))) (lv' := [(2, .int (iI ((g) + (1 : Int)))), (0, .ref (h)), (1, .int (iI (k))), (3, .long (iL (q))), (5, .int (iI (c0)))]) hx hb dX12_countAll_99 hl (k := 2) rfl (iI_add _ _) (by decide) rfl (fun ls hl => ?_)
            refine lv_goto (tgt := 10) hx hb dX12_countAll_102 (by decide) ?_
            exact ih.2.1 (aU (y) 28 ((((31 : Int)) * (g)) + (k)).toNat (q)) (k) ((g) + (1 : Int)) (sm_a (by decide) sm) (by omega) (by omega) (by omega) (by omega) (by omega) hres _ _ ls hP hD hS (lv_sub hl [1, 2, 0] rfl)
          · skip
            rw [if_neg c_41] at hres
            have hn9 := auy.2 g c0 (by omega) (by omega) (by omega) (by omega)
            have hn8 := hn9.2
            refine lv_aload_n hx hb dX12_countAll_44 rfl (lv_at hl 0 rfl) ?_
            refine lv_iload_n hx hb dX12_countAll_45 rfl (lv_at hl 2 rfl) ?_
            refine lv_iload hx hb dX12_countAll_46 (lv_at hl 4 rfl) ?_
            have hFc : ∀ q, va_A (mW h ad cI cJ cZ (y)) H.size q → A q := fun q hq => Or.elim hq (fun ⟨k, e, hk⟩ => hD.2 k (q, e) hk) (fun hk => hA q (Nat.le_trans hS.1 hk))
            refine va_calli (va_runV (As := [.int (iI (g)), .int (iI (c0))]) (rest := []) ⟨hx, hb, hml, hown, hts⟩ (c_m_next l dC dI h ad cI cJ cZ H.size (y) (g) (c0) (by omega) (by omega) (by omega) (by omega) hn9.1.1 hn9.1.2.1 hn9.1.2.2.1 hn9.1.2.2.2.1 hn9.1.2.2.2.2) (cwV 2 hts gX12_countAll_X12_next rfl rfl rfl (by decide +kernel) ⟨Nat.le_of_ble_eq_true rfl, Nat.le_of_ble_eq_true rfl⟩) ⟨fun a U g mk q => by obtain ⟨q0, q1, qP, qK, qD⟩ := q; exact ⟨q0, q1, qP, va_K.moved (u := U) (U := U.calling g mk a) (Vm.Alike.refl U.vm) qK, qD⟩, va_recv hK hP (ci := 12) (q0 := 0) rfl rfl, fun U hU hW => ⟨rfl, by rw [hU], by rw [hU]; exact hP, va_K.moved hW.alike hK, hD.weaken (fun _ _ _ _ => trivial)⟩⟩ rfl rfl hl.1 rfl (lv_room (Nat.le_of_ble_eq_true rfl)) dX12_countAll_48 ⟨Nat.le_of_ble_eq_true rfl, Nat.le_of_ble_eq_true rfl⟩) hS (fun q _ h => hFc q h) hFc (fun r9 u9 t H1 locs ht hvm hw hB hz1 hk1 hS => ?_)
            obtain ⟨hP1, hK1, hD1⟩ := hB
            rw [ht] at hP1
            obtain ⟨hw1, hw2⟩ := hw
            rw [hw2] at hP1 hD1
            rw [hw1]
            rw [F_m_next_2] at hP1 hD1
            have hD2 := hD1.weaken (B := A) (fun _ q _ h => hFc q.1 h)
            have hP := hP1
            have hD := hD2
            generalize H1 = H at hP hS ⊢
            refine lv_istore (lv' := [(6, .int (iI ((F_m_next (y) (g) (c0)).1))), (0, .ref (h)), (1, .int (iI (k))), (2, .int (iI (g))), (3, .long (iL (q))), (5, .int (iI (c0)))]) hx hb dX12_countAll_51 hl (by decide) rfl (fun ls hl => ?_)
            refine lv_lload_n hx hb dX12_countAll_53 rfl (lv_at hl 4 rfl) ?_
            refine lv_iload hx hb dX12_countAll_54 (lv_at hl 0 rfl) ?_
            refine lv_bipush (v := iI (-9 : Int)) hx hb dX12_countAll_56 (by decide) ?_
            refine wi_icmp_ne (tgt := 65) hx hb (by first | assumption | (unfold iR; omega) | exact F_R01 (by assumption)) ⟨by decide, by decide⟩ dX12_countAll_58 (by decide) (fun c_58 => ?_) (fun c_58 => ?_)
            · skip
              rw [if_neg c_58] at hres
              refine lv_aload_n hx hb dX12_countAll_65 rfl (lv_at hl 1 rfl) ?_
              refine va_get (D := (dC, dI)) (ci := 12) (v := .ref (ad 28)) (C := RX12) (T := TX12) (N := 34) hx hb hts hin hown hK hP 0 rfl rfl 28 (by decide) (hts (.fieldLink RX12 74 "LikeWordsModel" "way" "[J") (by decide +kernel)) (fun _ h9 => h9) rfl dX12_countAll_66 ?_
              refine lv_bipush (v := iI (31 : Int)) hx hb dX12_countAll_69 (by decide) ?_
              refine lv_iload hx hb dX12_countAll_71 (lv_at hl 0 rfl) ?_
              refine wi_imul hx hb dX12_countAll_73 ?_
              refine lv_iload_n hx hb dX12_countAll_74 rfl (lv_at hl 2 rfl) ?_
              refine wi_iadd hx hb dX12_countAll_75 ?_
              refine lv_iconst (v := iI (1 : Int)) hx hb dX12_countAll_76 (by decide) ?_
              refine wi_isub hx hb dX12_countAll_77 ?_
              refine wi_lald (f := (y).2 28) hx hb hK hP 20 1 rfl rfl (i := ((((31 : Int)) * ((F_m_next (y) (g) (c0)).1)) + (k)) - ((1 : Int))) (by omega) (by omega) (by decide) dX12_countAll_78 ?_
              refine wi_ladd hx hb dX12_countAll_79 ?_
              refine lv_lstore_n (lv' := [(3, .long (iL ((q) + (((y).2 28) (((((31 : Int)) * ((F_m_next (y) (g) (c0)).1)) + (k)) - ((1 : Int))).toNat)))), (6, .int (iI ((F_m_next (y) (g) (c0)).1))), (0, .ref (h)), (1, .int (iI (k))), (2, .int (iI (g))), (5, .int (iI (c0)))]) hx hb dX12_countAll_80 rfl hl (by decide) rfl (fun ls hl => ?_)
              refine lv_iinc (v := iI ((c0) + (1 : Int))) (lv' := [(5, .int (iI ((c0) + (1 : Int)))), (3, .long (iL ((q) + (((y).2 28) (((((31 : Int)) * ((F_m_next (y) (g) (c0)).1)) + (k)) - ((1 : Int))).toNat)))), (6, .int (iI ((F_m_next (y) (g) (c0)).1))), (0, .ref (h)), (1, .int (iI (k))), (2, .int (iI (g)))]) hx hb dX12_countAll_81 hl (k := 5) rfl (iI_add _ _) (by decide) rfl (fun ls hl => ?_)
              refine lv_goto (tgt := 31) hx hb dX12_countAll_84 (by decide) ?_
              exact ih.2.2 (y) (k) (g) ((q) + (((y).2 28) (((((31 : Int)) * ((F_m_next (y) (g) (c0)).1)) + (k)) - ((1 : Int))).toNat)) ((c0) + (1 : Int)) (sm) (by omega) (by omega) (by omega) (by first | assumption | omega) (by omega) (by omega) (by omega) (by omega) hres _ _ ls hP hD hS (lv_sub hl [3, 4, 5, 1, 0] rfl)
            · skip
              rw [if_pos c_58] at hres
              refine lv_lconst (v := iL 0) hx hb dX12_countAll_61 (by decide) ?_
              refine lv_goto (tgt := 79) hx hb dX12_countAll_62 (by decide) ?_
              refine wi_ladd hx hb dX12_countAll_79 ?_
              refine lv_lstore_n (lv' := [(3, .long (iL ((q) + ((0 : Int))))), (6, .int (iI ((F_m_next (y) (g) (c0)).1))), (0, .ref (h)), (1, .int (iI (k))), (2, .int (iI (g))), (5, .int (iI (c0)))]) hx hb dX12_countAll_80 rfl hl (by decide) rfl (fun ls hl => ?_)
              refine lv_iinc (v := iI ((c0) + (1 : Int))) (lv' := [(5, .int (iI ((c0) + (1 : Int)))), (3, .long (iL ((q) + ((0 : Int))))), (6, .int (iI ((F_m_next (y) (g) (c0)).1))), (0, .ref (h)), (1, .int (iI (k))), (2, .int (iI (g)))]) hx hb dX12_countAll_81 hl (k := 5) rfl (iI_add _ _) (by decide) rfl (fun ls hl => ?_)
              refine lv_goto (tgt := 31) hx hb dX12_countAll_84 (by decide) ?_
              exact ih.2.2 (y) (k) (g) ((q) + ((0 : Int))) ((c0) + (1 : Int)) (sm) (by omega) (by omega) (by omega) (by first | assumption | omega) (by omega) (by omega) (by omega) (by omega) hres _ _ ls hP hD hS (lv_sub hl [3, 4, 5, 1, 0] rfl)
  have key : ∀ (H : Heap) (locs : List Loc), va_P (dC, dI) vwCl (mW h ad cI cJ cZ (x)) H → va_S A s.heap H locs → W p l e (headSpec wsX12_countAll ({ frames := 1, cells := 0, slots := 0, locals := 23 })).room s m ([.ref h] : List Value).toArray below meth c H locs 0 0 (MQ below (va_Qv (fun u : MS => u = (F_m_countAll (x)).2) (mAt dC dI h ad cI cJ cZ A) A) ([.ref h] : List Value).toArray s 0 0 A) (F0 m 0 ls []) := by
    intro H locs hP hS
    have hres : F_m_countAll_s 190000 0 (x) ((0 : Int)) (0) (0) (0) = F_m_countAll (x) := rfl
    refine lv_iconst (v := iI (0 : Int)) hx hb dX12_countAll_0 (by decide) ?_
    refine lv_istore_n (lv' := [(1, .int (iI ((0 : Int)))), (0, .ref (h))]) hx hb dX12_countAll_1 rfl hl (by decide) rfl (fun ls hl => ?_)
    exact (L (190000)).1 (x) ((0 : Int)) (sm_rf _ _ _) (by omega) (by omega) (by omega) hres _ _ ls hP hD hS (lv_sub hl [1, 0] rfl)
  exact key _ _ hP hS
theorem F_m_countAll_sfr : ∀ n : Nat, (∀ (y : MS) (v0 : Int) (v1 : Int) (v2 : Int) (v3 : Int), same [] [28] y (F_m_countAll_s n 0 y v0 v1 v2 v3).2) ∧ (∀ (y : MS) (v0 : Int) (v1 : Int) (v2 : Int) (v3 : Int), same [] [28] y (F_m_countAll_s n 1 y v0 v1 v2 v3).2) ∧ (∀ (y : MS) (v0 : Int) (v1 : Int) (v2 : Int) (v3 : Int), same [] [28] y (F_m_countAll_s n 2 y v0 v1 v2 v3).2) := by
  intro n
  induction n with
  | zero => exact ⟨fun y _ _ _ _ => sm_rf _ _ _, fun y _ _ _ _ => sm_rf _ _ _, fun y _ _ _ _ => sm_rf _ _ _⟩
  | succ n ih =>
    refine ⟨?_, ?_, ?_⟩
    · intro y k q0 q1 q2
      rw [F_m_countAll_e0]
      by_cases hc : ((30 : Int)) < (k)
      · rw [if_pos hc]
        exact (sm_rf _ _ _)
      · rw [if_neg hc]
        exact sm_tr ((sm_rf _ _ _)) (ih.2.1 (y) (k) ((0 : Int)) (0) (0))
    · intro y k g q0 q1
      rw [F_m_countAll_e1]
      by_cases hc : ((y).1 24) ≤ (g)
      · rw [if_pos hc]
        exact sm_tr ((sm_rf _ _ _)) (ih.1 (y) ((k) + (1 : Int)) (0) (0) (0))
      · rw [if_neg hc]
        by_cases hc : (k) = (0)
        · rw [if_pos hc]
          exact sm_tr ((sm_rf _ _ _)) (ih.2.2 (y) (k) (g) ((1 : Int)) ((0 : Int)))
        · rw [if_neg hc]
          exact sm_tr ((sm_rf _ _ _)) (ih.2.2 (y) (k) (g) ((0 : Int)) ((0 : Int)))
    · intro y k g q c0
      rw [F_m_countAll_e2]
      by_cases hc : ((y).1 0) ≤ (c0)
      · rw [if_pos hc]
        exact sm_tr ((sm_a (by decide) (sm_rf _ _ _))) (ih.2.1 (aU (y) 28 ((((31 : Int)) * (g)) + (k)).toNat (q)) (k) ((g) + (1 : Int)) (0) (0))
      · rw [if_neg hc]
        by_cases hc : (k) ≤ (0)
        · rw [if_pos hc]
          exact sm_tr ((sm_a (by decide) (sm_rf _ _ _))) (ih.2.1 (aU (y) 28 ((((31 : Int)) * (g)) + (k)).toNat (q)) (k) ((g) + (1 : Int)) (0) (0))
        · rw [if_neg hc]
          by_cases hc : ((F_m_next (y) (g) (c0)).1) = ((-9 : Int))
          · rw [if_pos hc]
            exact sm_tr ((sm_rf _ _ _)) (ih.2.2 (y) (k) (g) ((q) + ((0 : Int))) ((c0) + (1 : Int)))
          · rw [if_neg hc]
            exact sm_tr ((sm_rf _ _ _)) (ih.2.2 (y) (k) (g) ((q) + (((y).2 28) (((((31 : Int)) * ((F_m_next (y) (g) (c0)).1)) + (k)) - ((1 : Int))).toNat)) ((c0) + (1 : Int)))
theorem F_m_countAll_fr (x : MS)  : same [] [28] x (F_m_countAll (x)).2 := by
  unfold F_m_countAll
  exact sm_tr ((sm_rf _ _ _)) ((F_m_countAll_sfr 190000).1 (x) ((0 : Int)) (0) (0) (0))
theorem bz_up {f : Nat → Int} {i : Nat} {v : Int} (h : ∀ j : Nat, j < 850 → f j = 0 ∨ f j = 1) (hv : v = 0 ∨ v = 1) : ∀ j : Nat, j < 850 → iU f i v j = 0 ∨ iU f i v j = 1 := by
  intro j hj
  unfold iU
  split
  · exact hv
  · exact h j hj
def F_m_longest_s : Nat → Nat → MS → Int → Int → Int → Int → Int × MS
  | 0, _, x, _, _, _, _ => (0, x)
  | n + 1, t, x, p0, p1, p2, p3 => match t with
    | 0 => (fun (i : Int) => (if ((x).1 24) ≤ (i) then F_m_longest_s n 1 (x) ((0 : Int)) (0) (0) (0) else (if (i) = (0) then F_m_longest_s n 0 (aU (x) 29 (i).toNat ((1 : Int))) ((i) + (1 : Int)) (0) (0) (0) else F_m_longest_s n 0 (aU (x) 29 (i).toNat ((0 : Int))) ((i) + (1 : Int)) (0) (0) (0)))) p0
    | 1 => (fun (k : Int) => (if ((x).1 24) < (k) then ((-9 : Int), x) else F_m_longest_s n 2 (x) (k) ((0 : Int)) ((0 : Int)) (0))) p0
    | 2 => (fun (k : Int) (q : Int) (g : Int) => (if ((x).1 24) ≤ (g) then F_m_longest_s n 3 (x) (k) (q) ((0 : Int)) (0) else F_m_longest_s n 2 (aU (x) 30 (g).toNat ((0 : Int))) (k) (q) ((g) + (1 : Int)) (0))) p0 p1 p2
    | 3 => (fun (k : Int) (q : Int) (g : Int) => (if ((x).1 24) ≤ (g) then (if (q) = (0) then (k, x) else F_m_longest_s n 5 (x) (k) (q) ((0 : Int)) (0)) else F_m_longest_s n 4 (x) (k) (q) (g) ((0 : Int)))) p0 p1 p2
    | 4 => (fun (k : Int) (q : Int) (g : Int) (c0 : Int) => (if ((x).1 0) ≤ (c0) then F_m_longest_s n 3 (x) (k) (q) ((g) + (1 : Int)) (0) else (if (((x).2 29) (g).toNat) = (0) then F_m_longest_s n 3 (x) (k) (q) ((g) + (1 : Int)) (0) else (if ((F_m_next (x) (g) (c0)).1) = ((-9 : Int)) then F_m_longest_s n 4 (x) (k) (q) (g) ((c0) + (1 : Int)) else F_m_longest_s n 4 (aU (x) 30 ((F_m_next (x) (g) (c0)).1).toNat ((1 : Int))) (k) ((1 : Int)) (g) ((c0) + (1 : Int)))))) p0 p1 p2 p3
    | 5 => (fun (k : Int) (q : Int) (g : Int) => (if ((x).1 24) ≤ (g) then F_m_longest_s n 1 (x) ((k) + (1 : Int)) (0) (0) (0) else F_m_longest_s n 5 (aU (x) 29 (g).toNat (((x).2 30) (g).toNat)) (k) (q) ((g) + (1 : Int)) (0))) p0 p1 p2
    | _ => (0, x)
theorem F_m_longest_e0 (n : Nat) (x : MS) (i : Int) (q0 : Int) (q1 : Int) (q2 : Int) : F_m_longest_s (n + 1) 0 x i q0 q1 q2 = (if ((x).1 24) ≤ (i) then F_m_longest_s n 1 (x) ((0 : Int)) (0) (0) (0) else (if (i) = (0) then F_m_longest_s n 0 (aU (x) 29 (i).toNat ((1 : Int))) ((i) + (1 : Int)) (0) (0) (0) else F_m_longest_s n 0 (aU (x) 29 (i).toNat ((0 : Int))) ((i) + (1 : Int)) (0) (0) (0))) := rfl
theorem F_m_longest_e1 (n : Nat) (x : MS) (k : Int) (q0 : Int) (q1 : Int) (q2 : Int) : F_m_longest_s (n + 1) 1 x k q0 q1 q2 = (if ((x).1 24) < (k) then ((-9 : Int), x) else F_m_longest_s n 2 (x) (k) ((0 : Int)) ((0 : Int)) (0)) := rfl
theorem F_m_longest_e2 (n : Nat) (x : MS) (k : Int) (q : Int) (g : Int) (q0 : Int) : F_m_longest_s (n + 1) 2 x k q g q0 = (if ((x).1 24) ≤ (g) then F_m_longest_s n 3 (x) (k) (q) ((0 : Int)) (0) else F_m_longest_s n 2 (aU (x) 30 (g).toNat ((0 : Int))) (k) (q) ((g) + (1 : Int)) (0)) := rfl
theorem F_m_longest_e3 (n : Nat) (x : MS) (k : Int) (q : Int) (g : Int) (q0 : Int) : F_m_longest_s (n + 1) 3 x k q g q0 = (if ((x).1 24) ≤ (g) then (if (q) = (0) then (k, x) else F_m_longest_s n 5 (x) (k) (q) ((0 : Int)) (0)) else F_m_longest_s n 4 (x) (k) (q) (g) ((0 : Int))) := rfl
theorem F_m_longest_e4 (n : Nat) (x : MS) (k : Int) (q : Int) (g : Int) (c0 : Int) : F_m_longest_s (n + 1) 4 x k q g c0 = (if ((x).1 0) ≤ (c0) then F_m_longest_s n 3 (x) (k) (q) ((g) + (1 : Int)) (0) else (if (((x).2 29) (g).toNat) = (0) then F_m_longest_s n 3 (x) (k) (q) ((g) + (1 : Int)) (0) else (if ((F_m_next (x) (g) (c0)).1) = ((-9 : Int)) then F_m_longest_s n 4 (x) (k) (q) (g) ((c0) + (1 : Int)) else F_m_longest_s n 4 (aU (x) 30 ((F_m_next (x) (g) (c0)).1).toNat ((1 : Int))) (k) ((1 : Int)) (g) ((c0) + (1 : Int))))) := rfl
theorem F_m_longest_e5 (n : Nat) (x : MS) (k : Int) (q : Int) (g : Int) (q0 : Int) : F_m_longest_s (n + 1) 5 x k q g q0 = (if ((x).1 24) ≤ (g) then F_m_longest_s n 1 (x) ((k) + (1 : Int)) (0) (0) (0) else F_m_longest_s n 5 (aU (x) 29 (g).toNat (((x).2 30) (g).toNat)) (k) (q) ((g) + (1 : Int)) (0)) := rfl
def F_m_longest (x : MS)  : Int × MS := F_m_longest_s 6810000 0 (x) ((0 : Int)) (0) (0) (0)
set_option maxHeartbeats 4000000 in
set_option maxRecDepth 100000 in
/-- longest -/
theorem c_m_longest (l : Launch) (dC : Nat → ClassId) (dI : Nat → Nat → Nat) (h : Nat) (ad : Nat → Nat) (cI cJ cZ : ClassId) (sz : Nat) (x : MS)  (au : auOK x) (h29 : ∀ j : Nat, j < 850 → x.2 29 j = 0 ∨ x.2 29 j = 1) (h30 : ∀ j : Nat, j < 850 → x.2 30 j = 0 ∨ x.2 30 j = 1) : Met l yX12_longest wsX12_longest ({ frames := 1, cells := 0, slots := 0, locals := 23 }) (mPc dC dI h ad cI cJ cZ sz x [.ref h]) (va_Qi (fun (r : Int32) (u : MS) => r = iI (F_m_longest (x)).1 ∧ u = (F_m_longest (x)).2) (mAt dC dI h ad cI cJ cZ (va_A (mW h ad cI cJ cZ (x)) sz)) (va_A (mW h ad cI cJ cZ (x)) sz)) 0 0 (va_A (mW h ad cI cJ cZ (x)) sz) := by
  refine Met.ofW (cc := cX12_longest) (maxL := 6) (ret := (some .int)) (by decide) rfl ?_
  intro p e s m args below meth c s₁ B hml hv
  obtain ⟨rfl, hsz, hP, hK, hD0⟩ := hv
  have hx := B.exec
  have hb := B.bytes
  have hr := B.returns
  have hts := atoms_spec (ws := wsX12_longest) B.pre
  have hown : s.vm.findClass RX12 = some m.cls := findClass_of_methodNamed B.named
  have hlocks := B.notSynchronized
  have hin : ∀ w ∈ u_ws RX12 TX12 34, w ∈ wsX12_longest := by decide +kernel
  subst hsz
  have hD := hD0.self (sz := s.heap.size)
  generalize hAe : va_A (mW h ad cI cJ cZ (x)) s.heap.size = A at hD ⊢
  have hA : ∀ q : Nat, s.heap.size ≤ q → A q := fun q h => by rw [← hAe]; exact Or.inr h
  have hS : va_S A s.heap s.heap [] := va_S.rf
  have hl := lv_entry ([.ref h]) (n := 6) (Nat.le_of_ble_eq_true rfl)
  rw [lg_entry_eq]
  generalize (lg_sl ([.ref h]) ++ List.replicate (6 - (lg_sl ([.ref h])).length) Slot.unset).toArray = ls at hl ⊢
  have hl : lv_has ls 6 [(0, .ref (h))] := hl
  have L : ∀ n : Nat, (∀ (y : MS) (i : Int), (same [] [29, 30] x y) → (∀ j : Nat, j < 850 → y.2 29 j = 0 ∨ y.2 29 j = 1) → (∀ j : Nat, j < 850 → y.2 30 j = 0 ∨ y.2 30 j = 1) → (0 ≤ i) → (i ≤ 850) → (851 * 8000 + 100 + (850 - i) < n) → F_m_longest_s n 0 y i 0 0 0 = F_m_longest (x) → ∀ (H : Heap) (locs : List Loc) (ls : Array Slot), va_P (dC, dI) vwCl (mW h ad cI cJ cZ (y)) H → va_D A (mW h ad cI cJ cZ (y)) → va_S A s.heap H locs → lv_has ls 6 [(0, .ref (h)), (1, .int (iI (i)))] → W p l e (headSpec wsX12_longest ({ frames := 1, cells := 0, slots := 0, locals := 23 })).room s m ([.ref h] : List Value).toArray below meth c H locs 0 0 (MQ below (va_Qi (fun (r : Int32) (u : MS) => r = iI (F_m_longest (x)).1 ∧ u = (F_m_longest (x)).2) (mAt dC dI h ad cI cJ cZ A) A) ([.ref h] : List Value).toArray s 0 0 A) (F0 m 2 ls [])) ∧ (∀ (y : MS) (k : Int), (same [] [29, 30] x y) → (∀ j : Nat, j < 850 → y.2 29 j = 0 ∨ y.2 29 j = 1) → (∀ j : Nat, j < 850 → y.2 30 j = 0 ∨ y.2 30 j = 1) → (0 ≤ k) → (k ≤ 851) → ((851 - k) * 8000 + 10 < n) → F_m_longest_s n 1 y k 0 0 0 = F_m_longest (x) → ∀ (H : Heap) (locs : List Loc) (ls : Array Slot), va_P (dC, dI) vwCl (mW h ad cI cJ cZ (y)) H → va_D A (mW h ad cI cJ cZ (y)) → va_S A s.heap H locs → lv_has ls 6 [(0, .ref (h)), (1, .int (iI (k)))] → W p l e (headSpec wsX12_longest ({ frames := 1, cells := 0, slots := 0, locals := 23 })).room s m ([.ref h] : List Value).toArray below meth c H locs 0 0 (MQ below (va_Qi (fun (r : Int32) (u : MS) => r = iI (F_m_longest (x)).1 ∧ u = (F_m_longest (x)).2) (mAt dC dI h ad cI cJ cZ A) A) ([.ref h] : List Value).toArray s 0 0 A) (F0 m 33 ls [])) ∧ (∀ (y : MS) (k : Int) (q : Int) (g : Int), (same [] [29, 30] x y) → (∀ j : Nat, j < 850 → y.2 29 j = 0 ∨ y.2 29 j = 1) → (∀ j : Nat, j < 850 → y.2 30 j = 0 ∨ y.2 30 j = 1) → (0 ≤ k) → (k ≤ 850) → (q = 0 ∨ q = 1) → (0 ≤ g) → (g ≤ 850) → ((850 - k) * 8000 + 7000 + (850 - g) + 10 < n) → F_m_longest_s n 2 y k q g 0 = F_m_longest (x) → ∀ (H : Heap) (locs : List Loc) (ls : Array Slot), va_P (dC, dI) vwCl (mW h ad cI cJ cZ (y)) H → va_D A (mW h ad cI cJ cZ (y)) → va_S A s.heap H locs → lv_has ls 6 [(0, .ref (h)), (1, .int (iI (k))), (2, .int (iI (q))), (3, .int (iI (g)))] → W p l e (headSpec wsX12_longest ({ frames := 1, cells := 0, slots := 0, locals := 23 })).room s m ([.ref h] : List Value).toArray below meth c H locs 0 0 (MQ below (va_Qi (fun (r : Int32) (u : MS) => r = iI (F_m_longest (x)).1 ∧ u = (F_m_longest (x)).2) (mAt dC dI h ad cI cJ cZ A) A) ([.ref h] : List Value).toArray s 0 0 A) (F0 m 45 ls [])) ∧ (∀ (y : MS) (k : Int) (q : Int) (g : Int), (same [] [29, 30] x y) → (∀ j : Nat, j < 850 → y.2 29 j = 0 ∨ y.2 29 j = 1) → (∀ j : Nat, j < 850 → y.2 30 j = 0 ∨ y.2 30 j = 1) → (0 ≤ k) → (k ≤ 850) → (q = 0 ∨ q = 1) → (0 ≤ g) → (g ≤ 850) → ((850 - k) * 8000 + 1000 + (850 - g) * 6 + 20 < n) → F_m_longest_s n 3 y k q g 0 = F_m_longest (x) → ∀ (H : Heap) (locs : List Loc) (ls : Array Slot), va_P (dC, dI) vwCl (mW h ad cI cJ cZ (y)) H → va_D A (mW h ad cI cJ cZ (y)) → va_S A s.heap H locs → lv_has ls 6 [(0, .ref (h)), (1, .int (iI (k))), (2, .int (iI (q))), (3, .int (iI (g)))] → W p l e (headSpec wsX12_longest ({ frames := 1, cells := 0, slots := 0, locals := 23 })).room s m ([.ref h] : List Value).toArray below meth c H locs 0 0 (MQ below (va_Qi (fun (r : Int32) (u : MS) => r = iI (F_m_longest (x)).1 ∧ u = (F_m_longest (x)).2) (mAt dC dI h ad cI cJ cZ A) A) ([.ref h] : List Value).toArray s 0 0 A) (F0 m 68 ls [])) ∧ (∀ (y : MS) (k : Int) (q : Int) (g : Int) (c0 : Int), (same [] [29, 30] x y) → (∀ j : Nat, j < 850 → y.2 29 j = 0 ∨ y.2 29 j = 1) → (∀ j : Nat, j < 850 → y.2 30 j = 0 ∨ y.2 30 j = 1) → (0 ≤ k) → (k ≤ 850) → (q = 0 ∨ q = 1) → (0 ≤ g) → (g < y.1 24) → (g < 850) → (0 ≤ c0) → (c0 ≤ 4) → ((850 - k) * 8000 + 1000 + (849 - g) * 6 + (4 - c0) + 21 < n) → F_m_longest_s n 4 y k q g c0 = F_m_longest (x) → ∀ (H : Heap) (locs : List Loc) (ls : Array Slot), va_P (dC, dI) vwCl (mW h ad cI cJ cZ (y)) H → va_D A (mW h ad cI cJ cZ (y)) → va_S A s.heap H locs → lv_has ls 6 [(0, .ref (h)), (1, .int (iI (k))), (2, .int (iI (q))), (3, .int (iI (g))), (4, .int (iI (c0)))] → W p l e (headSpec wsX12_longest ({ frames := 1, cells := 0, slots := 0, locals := 23 })).room s m ([.ref h] : List Value).toArray below meth c H locs 0 0 (MQ below (va_Qi (fun (r : Int32) (u : MS) => r = iI (F_m_longest (x)).1 ∧ u = (F_m_longest (x)).2) (mAt dC dI h ad cI cJ cZ A) A) ([.ref h] : List Value).toArray s 0 0 A) (F0 m 79 ls [])) ∧ (∀ (y : MS) (k : Int) (q : Int) (g : Int), (same [] [29, 30] x y) → (∀ j : Nat, j < 850 → y.2 29 j = 0 ∨ y.2 29 j = 1) → (∀ j : Nat, j < 850 → y.2 30 j = 0 ∨ y.2 30 j = 1) → (0 ≤ k) → (k ≤ 850) → (q = 0 ∨ q = 1) → (0 ≤ g) → (g ≤ 850) → ((850 - k) * 8000 + (850 - g) + 20 < n) → F_m_longest_s n 5 y k q g 0 = F_m_longest (x) → ∀ (H : Heap) (locs : List Loc) (ls : Array Slot), va_P (dC, dI) vwCl (mW h ad cI cJ cZ (y)) H → va_D A (mW h ad cI cJ cZ (y)) → va_S A s.heap H locs → lv_has ls 6 [(0, .ref (h)), (1, .int (iI (k))), (2, .int (iI (q))), (3, .int (iI (g)))] → W p l e (headSpec wsX12_longest ({ frames := 1, cells := 0, slots := 0, locals := 23 })).room s m ([.ref h] : List Value).toArray below meth c H locs 0 0 (MQ below (va_Qi (fun (r : Int32) (u : MS) => r = iI (F_m_longest (x)).1 ∧ u = (F_m_longest (x)).2) (mAt dC dI h ad cI cJ cZ A) A) ([.ref h] : List Value).toArray s 0 0 A) (F0 m 143 ls [])) := by
    intro n
    induction n with
    | zero =>
      refine ⟨?_, ?_, ?_, ?_, ?_, ?_⟩
      · intro y i sm b1 b2 i0 i1 fu hres
        exact absurd fu (by omega)
      · intro y k sm b1 b2 k0 k1 fu hres
        exact absurd fu (by omega)
      · intro y k q g sm b1 b2 k0 k1 q01 g0 g1 fu hres
        exact absurd fu (by omega)
      · intro y k q g sm b1 b2 k0 k1 q01 g0 g1 fu hres
        exact absurd fu (by omega)
      · intro y k q g c0 sm b1 b2 k0 k1 q01 g0 g1 g2 c1 c2 fu hres
        exact absurd fu (by omega)
      · intro y k q g sm b1 b2 k0 k1 q01 g0 g1 fu hres
        exact absurd fu (by omega)
    | succ n ih =>
      refine ⟨?_, ?_, ?_, ?_, ?_, ?_⟩
      · intro y i sm b1 b2 i0 i1 fu hres H locs ls hP hD hS hl
        rw [F_m_longest_e0] at hres
        have auy := auOK_same au sm (by decide) (by decide) (by decide) (by decide)
        have u0 := auy.1.1
        have u1 := auy.1.2.1
        have u2 := auy.1.2.2.1
        have u3 := auy.1.2.2.2
        refine lv_iload_n hx hb dX12_longest_2 rfl (lv_at hl 1 rfl) ?_
        refine lv_aload_n hx hb dX12_longest_3 rfl (lv_at hl 0 rfl) ?_
        refine va_get (D := (dC, dI)) (ci := 12) (v := .int (iI ((y).1 24))) (C := RX12) (T := TX12) (N := 34) hx hb hts hin hown hK hP 0 rfl rfl 24 (by decide) (hts (.fieldLink RX12 164 "LikeWordsModel" "states" "I") (by decide +kernel)) (fun _ h9 => h9) rfl dX12_longest_4 ?_
        refine wi_icmp_ge (tgt := 31) hx hb (by first | assumption | (unfold iR; omega) | exact F_R01 (by assumption)) (by first | assumption | (unfold iR; omega) | exact F_R01 (by assumption)) dX12_longest_7 (by decide) (fun c_7 => ?_) (fun c_7 => ?_)
        · skip
          rw [if_pos c_7] at hres
          refine lv_iconst (v := iI (0 : Int)) hx hb dX12_longest_31 (by decide) ?_
          refine lv_istore_n (lv' := [(1, .int (iI ((0 : Int)))), (0, .ref (h))]) hx hb dX12_longest_32 rfl hl (by decide) rfl (fun ls hl => ?_)
          exact ih.2.1 (y) ((0 : Int)) (sm) (b1) (b2) (by omega) (by omega) (by omega) hres _ _ ls hP hD hS (lv_sub hl [1, 0] rfl)
        · skip
          rw [if_neg c_7] at hres
          refine lv_aload_n hx hb dX12_longest_10 rfl (lv_at hl 0 rfl) ?_
          refine va_get (D := (dC, dI)) (ci := 12) (v := .ref (ad 29)) (C := RX12) (T := TX12) (N := 34) hx hb hts hin hown hK hP 0 rfl rfl 29 (by decide) (hts (.fieldLink RX12 78 "LikeWordsModel" "isOn" "[Z") (by decide +kernel)) (fun _ h9 => h9) rfl dX12_longest_11 ?_
          refine lv_iload_n hx hb dX12_longest_14 rfl (lv_at hl 1 rfl) ?_
          refine lv_iload_n hx hb dX12_longest_15 rfl (lv_at hl 1 rfl) ?_
          refine wi_if_ne (tgt := 23) hx hb (by first | assumption | (unfold iR; omega) | exact F_R01 (by assumption)) dX12_longest_16 (by decide) (fun c_16 => ?_) (fun c_16 => ?_)
          · skip
            rw [if_neg c_16] at hres
            refine lv_iconst (v := iI (0 : Int)) hx hb dX12_longest_23 (by decide) ?_
            refine wi_zast (f := (y).2 29) hx hb hK hP hD hS 21 2 rfl rfl (i := i) (x := (0 : Int)) (by omega) (by omega) (by omega) (by decide) dX12_longest_24 (fun H locs hP hD hS => ?_)
            rw [mW_a29] at hP hD
            refine lv_iinc (v := iI ((i) + (1 : Int))) (lv' := [(1, .int (iI ((i) + (1 : Int)))), (0, .ref (h))]) hx hb dX12_longest_25 hl (k := 1) rfl (iI_add _ _) (by decide) rfl (fun ls hl => ?_)
            refine lv_goto (tgt := 2) hx hb dX12_longest_28 (by decide) ?_
            exact ih.1 (aU (y) 29 (i).toNat ((0 : Int))) ((i) + (1 : Int)) (sm_a (by decide) sm) (bz_up b1 (by omega)) (b2) (by omega) (by omega) (by omega) hres _ _ ls hP hD hS (lv_sub hl [1, 0] rfl)
          · skip
            rw [if_pos c_16] at hres
            refine lv_iconst (v := iI (1 : Int)) hx hb dX12_longest_19 (by decide) ?_
            refine lv_goto (tgt := 24) hx hb dX12_longest_20 (by decide) ?_
            refine wi_zast (f := (y).2 29) hx hb hK hP hD hS 21 2 rfl rfl (i := i) (x := (1 : Int)) (by omega) (by omega) (by omega) (by decide) dX12_longest_24 (fun H locs hP hD hS => ?_)
            rw [mW_a29] at hP hD
            refine lv_iinc (v := iI ((i) + (1 : Int))) (lv' := [(1, .int (iI ((i) + (1 : Int)))), (0, .ref (h))]) hx hb dX12_longest_25 hl (k := 1) rfl (iI_add _ _) (by decide) rfl (fun ls hl => ?_)
            refine lv_goto (tgt := 2) hx hb dX12_longest_28 (by decide) ?_
            exact ih.1 (aU (y) 29 (i).toNat ((1 : Int))) ((i) + (1 : Int)) (sm_a (by decide) sm) (bz_up b1 (by omega)) (b2) (by omega) (by omega) (by omega) hres _ _ ls hP hD hS (lv_sub hl [1, 0] rfl)
      · intro y k sm b1 b2 k0 k1 fu hres H locs ls hP hD hS hl
        rw [F_m_longest_e1] at hres
        have auy := auOK_same au sm (by decide) (by decide) (by decide) (by decide)
        have u0 := auy.1.1
        have u1 := auy.1.2.1
        have u2 := auy.1.2.2.1
        have u3 := auy.1.2.2.2
        refine lv_iload_n hx hb dX12_longest_33 rfl (lv_at hl 1 rfl) ?_
        refine lv_aload_n hx hb dX12_longest_34 rfl (lv_at hl 0 rfl) ?_
        refine va_get (D := (dC, dI)) (ci := 12) (v := .int (iI ((y).1 24))) (C := RX12) (T := TX12) (N := 34) hx hb hts hin hown hK hP 0 rfl rfl 24 (by decide) (hts (.fieldLink RX12 164 "LikeWordsModel" "states" "I") (by decide +kernel)) (fun _ h9 => h9) rfl dX12_longest_35 ?_
        refine wi_icmp_gt (tgt := 175) hx hb (by first | assumption | (unfold iR; omega) | exact F_R01 (by assumption)) (by first | assumption | (unfold iR; omega) | exact F_R01 (by assumption)) dX12_longest_38 (by decide) (fun c_38 => ?_) (fun c_38 => ?_)
        · skip
          rw [if_pos c_38] at hres
          refine lv_bipush (v := iI (-9 : Int)) hx hb dX12_longest_175 (by decide) ?_
          exact W.iret (v := iI ((-9 : Int))) hx hb hr (fun t ht hW => ⟨⟨iI ((-9 : Int)), y, rfl, ⟨(by have h9 := congrArg (fun z : Int × MS => iI z.1) hres; exact h9), (by have h9 := congrArg (fun z : Int × MS => z.2) hres; exact h9)⟩, by rw [ht]; exact hP, va_K.moved hW.alike hK, hD⟩, hS.F ht⟩) hS.2.2 dX12_longest_177
        · skip
          rw [if_neg c_38] at hres
          refine lv_iconst (v := iI (0 : Int)) hx hb dX12_longest_41 (by decide) ?_
          refine lv_istore_n (lv' := [(2, .int (iI ((0 : Int)))), (0, .ref (h)), (1, .int (iI (k)))]) hx hb dX12_longest_42 rfl hl (by decide) rfl (fun ls hl => ?_)
          refine lv_iconst (v := iI (0 : Int)) hx hb dX12_longest_43 (by decide) ?_
          refine lv_istore_n (lv' := [(3, .int (iI ((0 : Int)))), (2, .int (iI ((0 : Int)))), (0, .ref (h)), (1, .int (iI (k)))]) hx hb dX12_longest_44 rfl hl (by decide) rfl (fun ls hl => ?_)
          exact ih.2.2.1 (y) (k) ((0 : Int)) ((0 : Int)) (sm) (b1) (b2) (by omega) (by omega) (by omega) (by omega) (by omega) (by omega) hres _ _ ls hP hD hS (lv_sub hl [2, 3, 1, 0] rfl)
      · intro y k q g sm b1 b2 k0 k1 q01 g0 g1 fu hres H locs ls hP hD hS hl
        rw [F_m_longest_e2] at hres
        have auy := auOK_same au sm (by decide) (by decide) (by decide) (by decide)
        have u0 := auy.1.1
        have u1 := auy.1.2.1
        have u2 := auy.1.2.2.1
        have u3 := auy.1.2.2.2
        refine lv_iload_n hx hb dX12_longest_45 rfl (lv_at hl 3 rfl) ?_
        refine lv_aload_n hx hb dX12_longest_46 rfl (lv_at hl 0 rfl) ?_
        refine va_get (D := (dC, dI)) (ci := 12) (v := .int (iI ((y).1 24))) (C := RX12) (T := TX12) (N := 34) hx hb hts hin hown hK hP 0 rfl rfl 24 (by decide) (hts (.fieldLink RX12 164 "LikeWordsModel" "states" "I") (by decide +kernel)) (fun _ h9 => h9) rfl dX12_longest_47 ?_
        refine wi_icmp_ge (tgt := 66) hx hb (by first | assumption | (unfold iR; omega) | exact F_R01 (by assumption)) (by first | assumption | (unfold iR; omega) | exact F_R01 (by assumption)) dX12_longest_50 (by decide) (fun c_50 => ?_) (fun c_50 => ?_)
        · skip
          rw [if_pos c_50] at hres
          refine lv_iconst (v := iI (0 : Int)) hx hb dX12_longest_66 (by decide) ?_
          refine lv_istore_n (lv' := [(3, .int (iI ((0 : Int)))), (0, .ref (h)), (1, .int (iI (k))), (2, .int (iI (q)))]) hx hb dX12_longest_67 rfl hl (by decide) rfl (fun ls hl => ?_)
          exact ih.2.2.2.1 (y) (k) (q) ((0 : Int)) (sm) (b1) (b2) (by omega) (by omega) (by omega) (by omega) (by omega) (by omega) hres _ _ ls hP hD hS (lv_sub hl [1, 2, 3, 0] rfl)
        · skip
          rw [if_neg c_50] at hres
          refine lv_aload_n hx hb dX12_longest_53 rfl (lv_at hl 0 rfl) ?_
          refine va_get (D := (dC, dI)) (ci := 12) (v := .ref (ad 30)) (C := RX12) (T := TX12) (N := 34) hx hb hts hin hown hK hP 0 rfl rfl 30 (by decide) (hts (.fieldLink RX12 82 "LikeWordsModel" "isNext" "[Z") (by decide +kernel)) (fun _ h9 => h9) rfl dX12_longest_54 ?_
          refine lv_iload_n hx hb dX12_longest_57 rfl (lv_at hl 3 rfl) ?_
          refine lv_iconst (v := iI (0 : Int)) hx hb dX12_longest_58 (by decide) ?_
          refine wi_zast (f := (y).2 30) hx hb hK hP hD hS 22 2 rfl rfl (i := g) (x := (0 : Int)) (by omega) (by omega) (by omega) (by decide) dX12_longest_59 (fun H locs hP hD hS => ?_)
          rw [mW_a30] at hP hD
          refine lv_iinc (v := iI ((g) + (1 : Int))) (lv' := [(3, .int (iI ((g) + (1 : Int)))), (0, .ref (h)), (1, .int (iI (k))), (2, .int (iI (q)))]) hx hb dX12_longest_60 hl (k := 3) rfl (iI_add _ _) (by decide) rfl (fun ls hl => ?_)
          refine lv_goto (tgt := 45) hx hb dX12_longest_63 (by decide) ?_
          exact ih.2.2.1 (aU (y) 30 (g).toNat ((0 : Int))) (k) (q) ((g) + (1 : Int)) (sm_a (by decide) sm) (b1) (bz_up b2 (by omega)) (by omega) (by omega) (by omega) (by omega) (by omega) (by omega) hres _ _ ls hP hD hS (lv_sub hl [1, 2, 3, 0] rfl)
      · intro y k q g sm b1 b2 k0 k1 q01 g0 g1 fu hres H locs ls hP hD hS hl
        rw [F_m_longest_e3] at hres
        have auy := auOK_same au sm (by decide) (by decide) (by decide) (by decide)
        have u0 := auy.1.1
        have u1 := auy.1.2.1
        have u2 := auy.1.2.2.1
        have u3 := auy.1.2.2.2
        refine lv_iload_n hx hb dX12_longest_68 rfl (lv_at hl 3 rfl) ?_
        refine lv_aload_n hx hb dX12_longest_69 rfl (lv_at hl 0 rfl) ?_
        refine va_get (D := (dC, dI)) (ci := 12) (v := .int (iI ((y).1 24))) (C := RX12) (T := TX12) (N := 34) hx hb hts hin hown hK hP 0 rfl rfl 24 (by decide) (hts (.fieldLink RX12 164 "LikeWordsModel" "states" "I") (by decide +kernel)) (fun _ h9 => h9) rfl dX12_longest_70 ?_
        refine wi_icmp_ge (tgt := 135) hx hb (by first | assumption | (unfold iR; omega) | exact F_R01 (by assumption)) (by first | assumption | (unfold iR; omega) | exact F_R01 (by assumption)) dX12_longest_73 (by decide) (fun c_73 => ?_) (fun c_73 => ?_)
        · skip
          rw [if_pos c_73] at hres
          refine lv_iload_n hx hb dX12_longest_135 rfl (lv_at hl 2 rfl) ?_
          refine wi_if_ne (tgt := 141) hx hb (by first | assumption | (unfold iR; omega) | exact F_R01 (by assumption)) dX12_longest_136 (by decide) (fun c_136 => ?_) (fun c_136 => ?_)
          · skip
            rw [if_neg c_136] at hres
            refine lv_iconst (v := iI (0 : Int)) hx hb dX12_longest_141 (by decide) ?_
            refine lv_istore_n (lv' := [(3, .int (iI ((0 : Int)))), (0, .ref (h)), (1, .int (iI (k))), (2, .int (iI (q)))]) hx hb dX12_longest_142 rfl hl (by decide) rfl (fun ls hl => ?_)
            exact ih.2.2.2.2.2 (y) (k) (q) ((0 : Int)) (sm) (b1) (b2) (by omega) (by omega) (by omega) (by omega) (by omega) (by omega) hres _ _ ls hP hD hS (lv_sub hl [1, 2, 3, 0] rfl)
          · skip
            rw [if_pos c_136] at hres
            refine lv_iload_n hx hb dX12_longest_139 rfl (lv_at hl 1 rfl) ?_
            exact W.iret (v := iI (k)) hx hb hr (fun t ht hW => ⟨⟨iI (k), y, rfl, ⟨(by have h9 := congrArg (fun z : Int × MS => iI z.1) hres; exact h9), (by have h9 := congrArg (fun z : Int × MS => z.2) hres; exact h9)⟩, by rw [ht]; exact hP, va_K.moved hW.alike hK, hD⟩, hS.F ht⟩) hS.2.2 dX12_longest_140
        · skip
          rw [if_neg c_73] at hres
          refine lv_iconst (v := iI (0 : Int)) hx hb dX12_longest_76 (by decide) ?_
          refine lv_istore (lv' := [(4, .int (iI ((0 : Int)))), (0, .ref (h)), (1, .int (iI (k))), (2, .int (iI (q))), (3, .int (iI (g)))]) hx hb dX12_longest_77 hl (by decide) rfl (fun ls hl => ?_)
          exact ih.2.2.2.2.1 (y) (k) (q) (g) ((0 : Int)) (sm) (b1) (b2) (by omega) (by omega) (by first | assumption | omega) (by omega) (by first | assumption | omega) (by omega) (by omega) (by omega) (by omega) hres _ _ ls hP hD hS (lv_sub hl [1, 2, 3, 4, 0] rfl)
      · intro y k q g c0 sm b1 b2 k0 k1 q01 g0 g1 g2 c1 c2 fu hres H locs ls hP hD hS hl
        rw [F_m_longest_e4] at hres
        have auy := auOK_same au sm (by decide) (by decide) (by decide) (by decide)
        have u0 := auy.1.1
        have u1 := auy.1.2.1
        have u2 := auy.1.2.2.1
        have u3 := auy.1.2.2.2
        have f29 := b1 g.toNat (by omega)
        refine lv_iload hx hb dX12_longest_79 (lv_at hl 4 rfl) ?_
        refine lv_aload_n hx hb dX12_longest_81 rfl (lv_at hl 0 rfl) ?_
        refine va_get (D := (dC, dI)) (ci := 12) (v := .int (iI ((y).1 0))) (C := RX12) (T := TX12) (N := 34) hx hb hts hin hown hK hP 0 rfl rfl 0 (by decide) (hts (.fieldLink RX12 7 "LikeWordsModel" "letters" "I") (by decide +kernel)) (fun _ h9 => h9) rfl dX12_longest_82 ?_
        refine wi_icmp_ge (tgt := 129) hx hb (by first | assumption | (unfold iR; omega) | exact F_R01 (by assumption)) (by first | assumption | (unfold iR; omega) | exact F_R01 (by assumption)) dX12_longest_85 (by decide) (fun c_85 => ?_) (fun c_85 => ?_)
        · skip
          rw [if_pos c_85] at hres
          refine lv_iinc (v := iI ((g) + (1 : Int))) (lv' := [(3, .int (iI ((g) + (1 : Int)))), (0, .ref (h)), (1, .int (iI (k))), (2, .int (iI (q))), (4, .int (iI (c0)))]) hx hb dX12_longest_129 hl (k := 3) rfl (iI_add _ _) (by decide) rfl (fun ls hl => ?_)
          refine lv_goto (tgt := 68) hx hb dX12_longest_132 (by decide) ?_
          exact ih.2.2.2.1 (y) (k) (q) ((g) + (1 : Int)) (sm) (b1) (b2) (by omega) (by omega) (by omega) (by omega) (by omega) (by omega) hres _ _ ls hP hD hS (lv_sub hl [1, 2, 3, 0] rfl)
        · skip
          rw [if_neg c_85] at hres
          refine lv_aload_n hx hb dX12_longest_88 rfl (lv_at hl 0 rfl) ?_
          refine va_get (D := (dC, dI)) (ci := 12) (v := .ref (ad 29)) (C := RX12) (T := TX12) (N := 34) hx hb hts hin hown hK hP 0 rfl rfl 29 (by decide) (hts (.fieldLink RX12 78 "LikeWordsModel" "isOn" "[Z") (by decide +kernel)) (fun _ h9 => h9) rfl dX12_longest_89 ?_
          refine lv_iload_n hx hb dX12_longest_92 rfl (lv_at hl 3 rfl) ?_
          refine wi_zald (f := (y).2 29) hx hb hK hP 21 2 rfl rfl (i := g) (by omega) (by omega) (by decide) dX12_longest_93 ?_
          refine wi_if_eq (tgt := 129) hx hb (by first | assumption | (unfold iR; omega) | exact F_R01 (by assumption)) dX12_longest_94 (by decide) (fun c_94 => ?_) (fun c_94 => ?_)
          · skip
            rw [if_pos c_94] at hres
            refine lv_iinc (v := iI ((g) + (1 : Int))) (lv' := [(3, .int (iI ((g) + (1 : Int)))), (0, .ref (h)), (1, .int (iI (k))), (2, .int (iI (q))), (4, .int (iI (c0)))]) hx hb dX12_longest_129 hl (k := 3) rfl (iI_add _ _) (by decide) rfl (fun ls hl => ?_)
            refine lv_goto (tgt := 68) hx hb dX12_longest_132 (by decide) ?_
            exact ih.2.2.2.1 (y) (k) (q) ((g) + (1 : Int)) (sm) (b1) (b2) (by omega) (by omega) (by omega) (by omega) (by omega) (by omega) hres _ _ ls hP hD hS (lv_sub hl [1, 2, 3, 0] rfl)
          · skip
            rw [if_neg c_94] at hres
            have hn9 := auy.2 g c0 (by omega) (by omega) (by omega) (by omega)
            have hn8 := hn9.2
            refine lv_aload_n hx hb dX12_longest_97 rfl (lv_at hl 0 rfl) ?_
            refine lv_iload_n hx hb dX12_longest_98 rfl (lv_at hl 3 rfl) ?_
            refine lv_iload hx hb dX12_longest_99 (lv_at hl 4 rfl) ?_
            have hFc : ∀ q, va_A (mW h ad cI cJ cZ (y)) H.size q → A q := fun q hq => Or.elim hq (fun ⟨k, e, hk⟩ => hD.2 k (q, e) hk) (fun hk => hA q (Nat.le_trans hS.1 hk))
            refine va_calli (va_runV (As := [.int (iI (g)), .int (iI (c0))]) (rest := []) ⟨hx, hb, hml, hown, hts⟩ (c_m_next l dC dI h ad cI cJ cZ H.size (y) (g) (c0) (by omega) (by omega) (by omega) (by omega) hn9.1.1 hn9.1.2.1 hn9.1.2.2.1 hn9.1.2.2.2.1 hn9.1.2.2.2.2) (cwV 2 hts gX12_longest_X12_next rfl rfl rfl (by decide +kernel) ⟨Nat.le_of_ble_eq_true rfl, Nat.le_of_ble_eq_true rfl⟩) ⟨fun a U g mk q => by obtain ⟨q0, q1, qP, qK, qD⟩ := q; exact ⟨q0, q1, qP, va_K.moved (u := U) (U := U.calling g mk a) (Vm.Alike.refl U.vm) qK, qD⟩, va_recv hK hP (ci := 12) (q0 := 0) rfl rfl, fun U hU hW => ⟨rfl, by rw [hU], by rw [hU]; exact hP, va_K.moved hW.alike hK, hD.weaken (fun _ _ _ _ => trivial)⟩⟩ rfl rfl hl.1 rfl (lv_room (Nat.le_of_ble_eq_true rfl)) dX12_longest_101 ⟨Nat.le_of_ble_eq_true rfl, Nat.le_of_ble_eq_true rfl⟩) hS (fun q _ h => hFc q h) hFc (fun r9 u9 t H1 locs ht hvm hw hB hz1 hk1 hS => ?_)
            obtain ⟨hP1, hK1, hD1⟩ := hB
            rw [ht] at hP1
            obtain ⟨hw1, hw2⟩ := hw
            rw [hw2] at hP1 hD1
            rw [hw1]
            rw [F_m_next_2] at hP1 hD1
            have hD2 := hD1.weaken (B := A) (fun _ q _ h => hFc q.1 h)
            have hP := hP1
            have hD := hD2
            generalize H1 = H at hP hS ⊢
            refine lv_istore (lv' := [(5, .int (iI ((F_m_next (y) (g) (c0)).1))), (0, .ref (h)), (1, .int (iI (k))), (2, .int (iI (q))), (3, .int (iI (g))), (4, .int (iI (c0)))]) hx hb dX12_longest_104 hl (by decide) rfl (fun ls hl => ?_)
            refine lv_iload hx hb dX12_longest_106 (lv_at hl 0 rfl) ?_
            refine lv_bipush (v := iI (-9 : Int)) hx hb dX12_longest_108 (by decide) ?_
            refine wi_icmp_eq (tgt := 123) hx hb (by first | assumption | (unfold iR; omega) | exact F_R01 (by assumption)) ⟨by decide, by decide⟩ dX12_longest_110 (by decide) (fun c_110 => ?_) (fun c_110 => ?_)
            · skip
              rw [if_pos c_110] at hres
              refine lv_iinc (v := iI ((c0) + (1 : Int))) (lv' := [(4, .int (iI ((c0) + (1 : Int)))), (5, .int (iI ((F_m_next (y) (g) (c0)).1))), (0, .ref (h)), (1, .int (iI (k))), (2, .int (iI (q))), (3, .int (iI (g)))]) hx hb dX12_longest_123 hl (k := 5) rfl (iI_add _ _) (by decide) rfl (fun ls hl => ?_)
              refine lv_goto (tgt := 79) hx hb dX12_longest_126 (by decide) ?_
              exact ih.2.2.2.2.1 (y) (k) (q) (g) ((c0) + (1 : Int)) (sm) (b1) (b2) (by omega) (by omega) (by first | assumption | omega) (by omega) (by first | assumption | omega) (by omega) (by omega) (by omega) (by omega) hres _ _ ls hP hD hS (lv_sub hl [2, 3, 4, 5, 0] rfl)
            · skip
              rw [if_neg c_110] at hres
              refine lv_aload_n hx hb dX12_longest_113 rfl (lv_at hl 1 rfl) ?_
              refine va_get (D := (dC, dI)) (ci := 12) (v := .ref (ad 30)) (C := RX12) (T := TX12) (N := 34) hx hb hts hin hown hK hP 0 rfl rfl 30 (by decide) (hts (.fieldLink RX12 82 "LikeWordsModel" "isNext" "[Z") (by decide +kernel)) (fun _ h9 => h9) rfl dX12_longest_114 ?_
              refine lv_iload hx hb dX12_longest_117 (lv_at hl 0 rfl) ?_
              refine lv_iconst (v := iI (1 : Int)) hx hb dX12_longest_119 (by decide) ?_
              refine wi_zast (f := (y).2 30) hx hb hK hP hD hS 22 2 rfl rfl (i := (F_m_next (y) (g) (c0)).1) (x := (1 : Int)) (by omega) (by omega) (by omega) (by decide) dX12_longest_120 (fun H locs hP hD hS => ?_)
              rw [mW_a30] at hP hD
              refine lv_iconst (v := iI (1 : Int)) hx hb dX12_longest_121 (by decide) ?_
              refine lv_istore_n (lv' := [(2, .int (iI ((1 : Int)))), (5, .int (iI ((F_m_next (y) (g) (c0)).1))), (0, .ref (h)), (1, .int (iI (k))), (3, .int (iI (g))), (4, .int (iI (c0)))]) hx hb dX12_longest_122 rfl hl (by decide) rfl (fun ls hl => ?_)
              refine lv_iinc (v := iI ((c0) + (1 : Int))) (lv' := [(4, .int (iI ((c0) + (1 : Int)))), (2, .int (iI ((1 : Int)))), (5, .int (iI ((F_m_next (y) (g) (c0)).1))), (0, .ref (h)), (1, .int (iI (k))), (3, .int (iI (g)))]) hx hb dX12_longest_123 hl (k := 5) rfl (iI_add _ _) (by decide) rfl (fun ls hl => ?_)
              refine lv_goto (tgt := 79) hx hb dX12_longest_126 (by decide) ?_
              exact ih.2.2.2.2.1 (aU (y) 30 ((F_m_next (y) (g) (c0)).1).toNat ((1 : Int))) (k) ((1 : Int)) (g) ((c0) + (1 : Int)) (sm_a (by decide) sm) (b1) (bz_up b2 (by omega)) (by omega) (by omega) (by first | assumption | omega) (by omega) (by first | assumption | omega) (by omega) (by omega) (by omega) (by omega) hres _ _ ls hP hD hS (lv_sub hl [3, 4, 1, 5, 0] rfl)
      · intro y k q g sm b1 b2 k0 k1 q01 g0 g1 fu hres H locs ls hP hD hS hl
        rw [F_m_longest_e5] at hres
        have auy := auOK_same au sm (by decide) (by decide) (by decide) (by decide)
        have u0 := auy.1.1
        have u1 := auy.1.2.1
        have u2 := auy.1.2.2.1
        have u3 := auy.1.2.2.2
        have f30 : g < 850 → y.2 30 g.toNat = 0 ∨ y.2 30 g.toNat = 1 := fun hg => b2 g.toNat (by omega)
        refine lv_iload_n hx hb dX12_longest_143 rfl (lv_at hl 3 rfl) ?_
        refine lv_aload_n hx hb dX12_longest_144 rfl (lv_at hl 0 rfl) ?_
        refine va_get (D := (dC, dI)) (ci := 12) (v := .int (iI ((y).1 24))) (C := RX12) (T := TX12) (N := 34) hx hb hts hin hown hK hP 0 rfl rfl 24 (by decide) (hts (.fieldLink RX12 164 "LikeWordsModel" "states" "I") (by decide +kernel)) (fun _ h9 => h9) rfl dX12_longest_145 ?_
        refine wi_icmp_ge (tgt := 169) hx hb (by first | assumption | (unfold iR; omega) | exact F_R01 (by assumption)) (by first | assumption | (unfold iR; omega) | exact F_R01 (by assumption)) dX12_longest_148 (by decide) (fun c_148 => ?_) (fun c_148 => ?_)
        · skip
          rw [if_pos c_148] at hres
          refine lv_iinc (v := iI ((k) + (1 : Int))) (lv' := [(1, .int (iI ((k) + (1 : Int)))), (0, .ref (h)), (2, .int (iI (q))), (3, .int (iI (g)))]) hx hb dX12_longest_169 hl (k := 1) rfl (iI_add _ _) (by decide) rfl (fun ls hl => ?_)
          refine lv_goto (tgt := 33) hx hb dX12_longest_172 (by decide) ?_
          exact ih.2.1 (y) ((k) + (1 : Int)) (sm) (b1) (b2) (by omega) (by omega) (by omega) hres _ _ ls hP hD hS (lv_sub hl [1, 0] rfl)
        · skip
          rw [if_neg c_148] at hres
          refine lv_aload_n hx hb dX12_longest_151 rfl (lv_at hl 0 rfl) ?_
          refine va_get (D := (dC, dI)) (ci := 12) (v := .ref (ad 29)) (C := RX12) (T := TX12) (N := 34) hx hb hts hin hown hK hP 0 rfl rfl 29 (by decide) (hts (.fieldLink RX12 78 "LikeWordsModel" "isOn" "[Z") (by decide +kernel)) (fun _ h9 => h9) rfl dX12_longest_152 ?_
          refine lv_iload_n hx hb dX12_longest_155 rfl (lv_at hl 3 rfl) ?_
          refine lv_aload_n hx hb dX12_longest_156 rfl (lv_at hl 0 rfl) ?_
          refine va_get (D := (dC, dI)) (ci := 12) (v := .ref (ad 30)) (C := RX12) (T := TX12) (N := 34) hx hb hts hin hown hK hP 0 rfl rfl 30 (by decide) (hts (.fieldLink RX12 82 "LikeWordsModel" "isNext" "[Z") (by decide +kernel)) (fun _ h9 => h9) rfl dX12_longest_157 ?_
          refine lv_iload_n hx hb dX12_longest_160 rfl (lv_at hl 3 rfl) ?_
          refine wi_zald (f := (y).2 30) hx hb hK hP 22 2 rfl rfl (i := g) (by omega) (by omega) (by decide) dX12_longest_161 ?_
          refine wi_zast (f := (y).2 29) hx hb hK hP hD hS 21 2 rfl rfl (i := g) (x := ((y).2 30) (g).toNat) (f30 (by omega)) (by omega) (by omega) (by decide) dX12_longest_162 (fun H locs hP hD hS => ?_)
          rw [mW_a29] at hP hD
          refine lv_iinc (v := iI ((g) + (1 : Int))) (lv' := [(3, .int (iI ((g) + (1 : Int)))), (0, .ref (h)), (1, .int (iI (k))), (2, .int (iI (q)))]) hx hb dX12_longest_163 hl (k := 3) rfl (iI_add _ _) (by decide) rfl (fun ls hl => ?_)
          refine lv_goto (tgt := 143) hx hb dX12_longest_166 (by decide) ?_
          exact ih.2.2.2.2.2 (aU (y) 29 (g).toNat (((y).2 30) (g).toNat)) (k) (q) ((g) + (1 : Int)) (sm_a (by decide) sm) (bz_up b1 (f30 (by omega))) (b2) (by omega) (by omega) (by omega) (by omega) (by omega) (by omega) hres _ _ ls hP hD hS (lv_sub hl [1, 2, 3, 0] rfl)
  have key : ∀ (H : Heap) (locs : List Loc), va_P (dC, dI) vwCl (mW h ad cI cJ cZ (x)) H → va_S A s.heap H locs → W p l e (headSpec wsX12_longest ({ frames := 1, cells := 0, slots := 0, locals := 23 })).room s m ([.ref h] : List Value).toArray below meth c H locs 0 0 (MQ below (va_Qi (fun (r : Int32) (u : MS) => r = iI (F_m_longest (x)).1 ∧ u = (F_m_longest (x)).2) (mAt dC dI h ad cI cJ cZ A) A) ([.ref h] : List Value).toArray s 0 0 A) (F0 m 0 ls []) := by
    intro H locs hP hS
    have hres : F_m_longest_s 6810000 0 (x) ((0 : Int)) (0) (0) (0) = F_m_longest (x) := rfl
    refine lv_iconst (v := iI (0 : Int)) hx hb dX12_longest_0 (by decide) ?_
    refine lv_istore_n (lv' := [(1, .int (iI ((0 : Int)))), (0, .ref (h))]) hx hb dX12_longest_1 rfl hl (by decide) rfl (fun ls hl => ?_)
    exact (L (6810000)).1 (x) ((0 : Int)) (sm_rf _ _ _) (h29) (h30) (by omega) (by omega) (by omega) hres _ _ ls hP hD hS (lv_sub hl [1, 0] rfl)
  exact key _ _ hP hS
theorem F_m_longest_sfr : ∀ n : Nat, (∀ (y : MS) (v0 : Int) (v1 : Int) (v2 : Int) (v3 : Int), same [] [29, 30] y (F_m_longest_s n 0 y v0 v1 v2 v3).2) ∧ (∀ (y : MS) (v0 : Int) (v1 : Int) (v2 : Int) (v3 : Int), same [] [29, 30] y (F_m_longest_s n 1 y v0 v1 v2 v3).2) ∧ (∀ (y : MS) (v0 : Int) (v1 : Int) (v2 : Int) (v3 : Int), same [] [29, 30] y (F_m_longest_s n 2 y v0 v1 v2 v3).2) ∧ (∀ (y : MS) (v0 : Int) (v1 : Int) (v2 : Int) (v3 : Int), same [] [29, 30] y (F_m_longest_s n 3 y v0 v1 v2 v3).2) ∧ (∀ (y : MS) (v0 : Int) (v1 : Int) (v2 : Int) (v3 : Int), same [] [29, 30] y (F_m_longest_s n 4 y v0 v1 v2 v3).2) ∧ (∀ (y : MS) (v0 : Int) (v1 : Int) (v2 : Int) (v3 : Int), same [] [29, 30] y (F_m_longest_s n 5 y v0 v1 v2 v3).2) := by
  intro n
  induction n with
  | zero => exact ⟨fun y _ _ _ _ => sm_rf _ _ _, fun y _ _ _ _ => sm_rf _ _ _, fun y _ _ _ _ => sm_rf _ _ _, fun y _ _ _ _ => sm_rf _ _ _, fun y _ _ _ _ => sm_rf _ _ _, fun y _ _ _ _ => sm_rf _ _ _⟩
  | succ n ih =>
    refine ⟨?_, ?_, ?_, ?_, ?_, ?_⟩
    · intro y i q0 q1 q2
      rw [F_m_longest_e0]
      by_cases hc : ((y).1 24) ≤ (i)
      · rw [if_pos hc]
        exact sm_tr ((sm_rf _ _ _)) (ih.2.1 (y) ((0 : Int)) (0) (0) (0))
      · rw [if_neg hc]
        by_cases hc : (i) = (0)
        · rw [if_pos hc]
          exact sm_tr ((sm_a (by decide) (sm_rf _ _ _))) (ih.1 (aU (y) 29 (i).toNat ((1 : Int))) ((i) + (1 : Int)) (0) (0) (0))
        · rw [if_neg hc]
          exact sm_tr ((sm_a (by decide) (sm_rf _ _ _))) (ih.1 (aU (y) 29 (i).toNat ((0 : Int))) ((i) + (1 : Int)) (0) (0) (0))
    · intro y k q0 q1 q2
      rw [F_m_longest_e1]
      by_cases hc : ((y).1 24) < (k)
      · rw [if_pos hc]
        exact (sm_rf _ _ _)
      · rw [if_neg hc]
        exact sm_tr ((sm_rf _ _ _)) (ih.2.2.1 (y) (k) ((0 : Int)) ((0 : Int)) (0))
    · intro y k q g q0
      rw [F_m_longest_e2]
      by_cases hc : ((y).1 24) ≤ (g)
      · rw [if_pos hc]
        exact sm_tr ((sm_rf _ _ _)) (ih.2.2.2.1 (y) (k) (q) ((0 : Int)) (0))
      · rw [if_neg hc]
        exact sm_tr ((sm_a (by decide) (sm_rf _ _ _))) (ih.2.2.1 (aU (y) 30 (g).toNat ((0 : Int))) (k) (q) ((g) + (1 : Int)) (0))
    · intro y k q g q0
      rw [F_m_longest_e3]
      by_cases hc : ((y).1 24) ≤ (g)
      · rw [if_pos hc]
        by_cases hc : (q) = (0)
        · rw [if_pos hc]
          exact (sm_rf _ _ _)
        · rw [if_neg hc]
          exact sm_tr ((sm_rf _ _ _)) (ih.2.2.2.2.2 (y) (k) (q) ((0 : Int)) (0))
      · rw [if_neg hc]
        exact sm_tr ((sm_rf _ _ _)) (ih.2.2.2.2.1 (y) (k) (q) (g) ((0 : Int)))
    · intro y k q g c0
      rw [F_m_longest_e4]
      by_cases hc : ((y).1 0) ≤ (c0)
      · rw [if_pos hc]
        exact sm_tr ((sm_rf _ _ _)) (ih.2.2.2.1 (y) (k) (q) ((g) + (1 : Int)) (0))
      · rw [if_neg hc]
        by_cases hc : (((y).2 29) (g).toNat) = (0)
        · rw [if_pos hc]
          exact sm_tr ((sm_rf _ _ _)) (ih.2.2.2.1 (y) (k) (q) ((g) + (1 : Int)) (0))
        · rw [if_neg hc]
          by_cases hc : ((F_m_next (y) (g) (c0)).1) = ((-9 : Int))
          · rw [if_pos hc]
            exact sm_tr ((sm_rf _ _ _)) (ih.2.2.2.2.1 (y) (k) (q) (g) ((c0) + (1 : Int)))
          · rw [if_neg hc]
            exact sm_tr ((sm_a (by decide) (sm_rf _ _ _))) (ih.2.2.2.2.1 (aU (y) 30 ((F_m_next (y) (g) (c0)).1).toNat ((1 : Int))) (k) ((1 : Int)) (g) ((c0) + (1 : Int)))
    · intro y k q g q0
      rw [F_m_longest_e5]
      by_cases hc : ((y).1 24) ≤ (g)
      · rw [if_pos hc]
        exact sm_tr ((sm_rf _ _ _)) (ih.2.1 (y) ((k) + (1 : Int)) (0) (0) (0))
      · rw [if_neg hc]
        exact sm_tr ((sm_a (by decide) (sm_rf _ _ _))) (ih.2.2.2.2.2 (aU (y) 29 (g).toNat (((y).2 30) (g).toNat)) (k) (q) ((g) + (1 : Int)) (0))
theorem F_m_longest_fr (x : MS)  : same [] [29, 30] x (F_m_longest (x)).2 := by
  unfold F_m_longest
  exact sm_tr ((sm_rf _ _ _)) ((F_m_longest_sfr 6810000).1 (x) ((0 : Int)) (0) (0) (0))
