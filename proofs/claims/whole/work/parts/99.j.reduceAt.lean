-- deps: 99.i
def fuR : Nat := 5 ^ 127
theorem rdJ_len {str : Nat → List Int} {Nn : Nat} {x y : MS} {k s0 d t : Nat} {V : List Int} (h : rdJ str Nn x y k s0 d t V) : d + (V.length + t) ≤ s0 := h.2.2.2.2.1
theorem rdJ_fu {str : Nat → List Int} {Nn : Nat} {x y : MS} {k s0 d t : Nat} {V : List Int} (h : rdJ str Nn x y k s0 d t V) (s1 : s0 ≤ 127) : knm (ltM y k d ++ (V ++ rsM y t)) < fuR := by
  have h1 := knm_lt (ltM y k d ++ (V ++ rsM y t))
  have h2 := rdJ_len h
  rw [List.length_append, List.length_append, ltM_len, rsM_len] at h1
  exact Nat.lt_of_lt_of_le h1 (k5_m (by omega))
theorem rdC_sI {x y : MS} {k t9 i9 : Int} (rc : rdC x y k.toNat (x.2 1 k.toNat).toNat t9.toNat) (ti : t9 + i9 + 1 = x.2 1 k.toNat) (t0 : 0 ≤ t9) (i0 : 0 ≤ i9) (k0 : 0 ≤ k) (k1 : k < 13) (k2 : k ≠ 11) (z1 : x.2 1 k.toNat ≤ 127) : rdC x (aU y 2 ((1408 : Int) + t9).toNat (y.2 2 ((128 : Int) * k + i9).toNat)) k.toNat (x.2 1 k.toNat).toNat (t9 + (1 : Int)).toNat := by
  have h := rdC_s rc (by omega) (by omega) (by omega) (by omega)
  have e1 : ((1408 : Int) + t9).toNat = 1408 + t9.toNat := by omega
  have e2 : ((128 : Int) * k + i9).toNat = 128 * k.toNat + ((x.2 1 k.toNat).toNat - 1 - t9.toNat) := by omega
  have e3 : (t9 + (1 : Int)).toNat = t9.toNat + 1 := by omega
  rw [e1, e2, e3]; exact h
theorem rdC_eI {x y : MS} {str : Nat → List Int} {Nn Ss : Nat} {k t9 i9 : Int} (pr : plR x) (hN : plN x str Nn Ss) (rc : rdC x y k.toNat (x.2 1 k.toNat).toNat t9.toNat) (ti : t9 + i9 + 1 = x.2 1 k.toNat) (i0 : i9 < 0) (i1 : -1 ≤ i9) (ok : okL (x.1 0).toNat (ltM x k.toNat (x.2 1 k.toNat).toNat)) (z1 : x.2 1 k.toNat ≤ 127) : rdJ str Nn x (aU y 26 ((0 : Int)).toNat ((0 : Int))) k.toNat (x.2 1 k.toNat).toNat ((0 : Int)).toNat t9.toNat [] := by
  have e1 : t9.toNat = (x.2 1 k.toNat).toNat := by omega
  rw [e1] at rc ⊢
  exact rdC_end hN rc ok (fun r hr => (lM_ok pr hr).1) (by omega)
theorem rd_stepI {x y : MS} {str : Nat → List Int} {Nn Ss s0 : Nat} {k d t9 l p q r : Int} (pr : plR x) (rl : rlR x) (hN : plN x str Nn Ss) (h : rdJ str Nn x y k.toNat s0 d.toNat t9.toNat []) (k0 : 0 ≤ k) (k1 : k < 13) (k2 : k ≠ 11) (s1 : s0 ≤ 127) (d0 : 0 ≤ d) (t0 : ¬ t9 ≤ 0) (hl : l = y.2 2 ((1408 : Int) + (t9 + (-1 : Int))).toNat) (hp : p = y.2 26 d.toNat) (hq : q = y.2 19 ((4 : Int) * p + l).toNat) (hr : r = y.2 21 q.toNat) : (0 ≤ l ∧ l < x.1 0) ∧ (0 ≤ p ∧ p < 801) ∧ (0 ≤ q ∧ q < 801) ∧ (r = -9 → rdJ str Nn x (aU (aU y 2 ((128 : Int) * k + d).toNat l) 26 (d + (1 : Int)).toNat q) k.toNat s0 (d + (1 : Int)).toNat (t9 + (-1 : Int)).toNat [] ∧ ltM (aU (aU y 2 ((128 : Int) * k + d).toNat l) 26 (d + (1 : Int)).toNat q) k.toNat (d + (1 : Int)).toNat ++ ([] ++ rsM (aU (aU y 2 ((128 : Int) * k + d).toNat l) 26 (d + (1 : Int)).toNat q) (t9 + (-1 : Int)).toNat) = ltM y k.toNat d.toNat ++ ([] ++ rsM y t9.toNat)) ∧ (¬ r = -9 → (0 ≤ r ∧ r < 40) ∧ (1 ≤ y.2 13 r.toNat ∧ y.2 13 r.toNat ≤ d + 1) ∧ (0 ≤ y.2 15 r.toNat ∧ y.2 15 r.toNat ≤ 20) ∧ y.2 15 r.toNat = x.2 15 r.toNat ∧ rdJ str Nn x (aU (aU y 2 ((128 : Int) * k + d).toNat l) 26 (d + (1 : Int)).toNat q) k.toNat s0 (d + (1 : Int) - y.2 13 r.toNat).toNat (t9 + (-1 : Int)).toNat ((rM x r.toNat).take (y.2 15 r.toNat - (1 : Int) + 1).toNat) ∧ knm (ltM (aU (aU y 2 ((128 : Int) * k + d).toNat l) 26 (d + (1 : Int)).toNat q) k.toNat (d + (1 : Int) - y.2 13 r.toNat).toNat ++ ((rM x r.toNat).take (y.2 15 r.toNat - (1 : Int) + 1).toNat ++ rsM (aU (aU y 2 ((128 : Int) * k + d).toNat l) 26 (d + (1 : Int)).toNat q) (t9 + (-1 : Int)).toNat)) < knm (ltM y k.toNat d.toNat ++ ([] ++ rsM y t9.toNat))) := by
  have f := h.1
  have e13 : y.2 13 = x.2 13 := f.2 13 (by decide)
  have e15 : y.2 15 = x.2 15 := f.2 15 (by decide)
  obtain ⟨T, hT⟩ : ∃ T : Nat, t9 = (T : Int) + 1 := ⟨(t9 - 1).toNat, by omega⟩
  have eT : t9.toNat = T + 1 := by omega
  have eT1 : (t9 + (-1 : Int)).toNat = T := by omega
  have eR : ((1408 : Int) + (t9 + (-1 : Int))).toNat = 1408 + T := by omega
  have eK : ((128 : Int) * k + d).toNat = 128 * k.toNat + d.toNat := by omega
  have eD : (d + (1 : Int)).toNat = d.toNat + 1 := by omega
  rw [eT] at h
  obtain ⟨l', p', q', a1, a2, a3, a4, a5, a6, a7, a8⟩ := rd_step pr rl hN h (by omega) (by omega) s1
  have el : l = (l' : Int) := by rw [hl, eR]; exact a1
  have ep : p = (p' : Int) := by rw [hp]; exact a3
  have eq : q = (q' : Int) := by rw [hq, el, ep, show ((4 : Int) * (p' : Int) + (l' : Int)).toNat = 4 * p' + l' by omega]; exact a5
  have er : r = y.2 21 q' := by rw [hr, eq, Int.toNat_natCast]
  have r4 := pr.1
  have n8 := hN.1.2.1
  refine ⟨by omega, by omega, by omega, fun h9 => ?_, fun h9 => ?_⟩
  · rw [eT, eT1, eK, eD, el, eq]
    exact a7 (by rw [← er]; exact h9)
  · obtain ⟨R, b1, b2, b3, b4, b5, b6⟩ := a8 (by rw [← er]; exact h9)
    clear a7 a8
    have eR2 : r = (R : Int) := by rw [er]; exact b2
    have rr := (rl R (by omega)).1
    have e3 : y.2 13 R = ((lM x R).length : Int) := by rw [lM_len, e13]; have := pr.2.2.1 R (by omega); omega
    have e5 : y.2 15 R = ((rM x R).length : Int) := by rw [rM_len, e15]; omega
    have eDL : (d + (1 : Int) - y.2 13 R).toNat = d.toNat + 1 - (lM x R).length := by rw [e3]; omega
    have eRL : (rM x R).take (y.2 15 R - (1 : Int) + 1).toNat = rM x R := by rw [e5, show (((rM x R).length : Int) - (1 : Int) + 1).toNat = (rM x R).length by omega]; exact List.take_length
    rw [eR2, Int.toNat_natCast]
    refine ⟨by omega, by omega, by rw [e15]; exact rr, by rw [e15], ?_⟩
    rw [eT, eT1, eK, eD, eDL, eRL, el, eq]
    exact ⟨b5, b6⟩
theorem rd_pushI {x y : MS} {str : Nat → List Int} {Nn s0 : Nat} {k d t9 r6 i7 : Int} (h : rdJ str Nn x y k.toNat s0 d.toNat t9.toNat ((rM x r6.toNat).take (i7 + 1).toNat)) (k0 : 0 ≤ k) (k1 : k < 13) (k2 : k ≠ 11) (s1 : s0 ≤ 127) (t0 : 0 ≤ t9) (r0 : 0 ≤ r6) (i0 : ¬ i7 < 0) (i2 : i7 < x.2 15 r6.toNat) : rdJ str Nn x (aU y 2 ((1408 : Int) + t9).toNat (y.2 16 ((24 : Int) * r6 + i7).toNat)) k.toNat s0 d.toNat (t9 + (1 : Int)).toNat ((rM x r6.toNat).take (i7 + (-1 : Int) + 1).toNat) ∧ ltM (aU y 2 ((1408 : Int) + t9).toNat (y.2 16 ((24 : Int) * r6 + i7).toNat)) k.toNat d.toNat ++ ((rM x r6.toNat).take (i7 + (-1 : Int) + 1).toNat ++ rsM (aU y 2 ((1408 : Int) + t9).toNat (y.2 16 ((24 : Int) * r6 + i7).toNat)) (t9 + (1 : Int)).toNat) = ltM y k.toNat d.toNat ++ ((rM x r6.toNat).take (i7 + 1).toNat ++ rsM y t9.toNat) := by
  have e16 : y.2 16 = x.2 16 := h.1.2 16 (by decide)
  have ei : (i7 + 1).toNat = i7.toNat + 1 := by omega
  rw [ei] at h
  have h2 := rd_push (by rw [rM_len]; omega) h (by omega) (by omega) s1
  rw [ei, show ((1408 : Int) + t9).toNat = 1408 + t9.toNat by omega, show ((24 : Int) * r6 + i7).toNat = 24 * r6.toNat + i7.toNat by omega, show (t9 + (1 : Int)).toNat = t9.toNat + 1 by omega, show (i7 + (-1 : Int) + 1).toNat = i7.toNat by omega, e16]
  exact h2
theorem rd_zero {u : List Int} {i7 : Int} (h : i7 < 0) : u.take (i7 + 1).toNat = [] := by rw [show (i7 + 1).toNat = 0 by omega]; exact List.take_zero
def rdP (x : MS) (k : Int) (q : Int × MS) : Prop := ∃ d : Nat, d ≤ (x.2 1 k.toNat).toNat ∧ q.2.2 1 = iU (x.2 1) k.toNat (d : Int) ∧ (∀ i, i < 128 * k.toNat ∨ 128 * k.toNat + 128 ≤ i → i < 1408 ∨ 1536 ≤ i → q.2.2 2 i = x.2 2 i) ∧ okL (x.1 0).toNat (ltM q.2 k.toNat d) ∧ noL (lM x) (x.1 12).toNat (ltM q.2 k.toNat d) ∧ rch (lM x) (rM x) (x.1 12).toNat (ltM x k.toNat (x.2 1 k.toNat).toNat) (ltM q.2 k.toNat d)
theorem rdP_end {x y : MS} {str : Nat → List Int} {Nn : Nat} {k d t9 v : Int} (h : rdJ str Nn x y k.toNat (x.2 1 k.toNat).toNat d.toNat t9.toNat []) (t0 : t9 ≤ 0) (d0 : 0 ≤ d) : rdP x k (v, aU y 1 k.toNat d) := by
  have e0 : t9.toNat = 0 := by omega
  rw [e0] at h
  obtain ⟨f, fr, ou, ov, len, nl9, ps, rc⟩ := h
  have ez : ∀ j, ltM (aU y 1 k.toNat d) k.toNat j = ltM y k.toNat j := fun j => ltM_eq (fun i _ => by rw [yU_n (by decide)])
  have e1 : y.2 1 = x.2 1 := f.2 1 (by decide)
  have ed : (d.toNat : Int) = d := by omega
  refine ⟨d.toNat, by rw [List.length_nil] at len; omega, ?_, fun i h1 h2 => ?_, ?_, ?_, ?_⟩
  · show (aU y 1 k.toNat d).2 1 = _
    rw [yU_s, e1, ed]
  · show (aU y 1 k.toNat d).2 2 i = _
    rw [yU_n (by decide)]; exact fr i h1 h2
  · show okL _ (ltM (aU y 1 k.toNat d) k.toNat d.toNat)
    rw [ez]; exact ou
  · show noL _ _ (ltM (aU y 1 k.toNat d) k.toNat d.toNat)
    rw [ez]; exact nl9
  · show rch _ _ _ _ (ltM (aU y 1 k.toNat d) k.toNat d.toNat)
    rw [ez]
    rw [show ltM y k.toNat d.toNat ++ ([] ++ rsM y 0) = ltM y k.toNat d.toNat from by show _ ++ ([] ++ []) = _; rw [List.append_nil, List.append_nil]] at rc
    exact rc
def F_m_reduceAt_s : Nat → Nat → MS → Int → Int → Int → Int → Int → Int × MS
  | 0, _, x, _, _, _, _, _ => (0, x)
  | n + 1, t, x, p0, p1, p2, p3, p4 => match t with
    | 0 => (fun (k : Int) (t9 : Int) (i9 : Int) => (if (i9) < (0) then F_m_reduceAt_s n 1 (aU (x) 26 ((0 : Int)).toNat ((0 : Int))) (k) (t9) ((0 : Int)) (0) (0) else F_m_reduceAt_s n 0 (aU (x) 2 (((1408 : Int)) + (t9)).toNat (((x).2 2) ((((128 : Int)) * (k)) + (i9)).toNat)) (k) ((t9) + (1 : Int)) ((i9) + (-1 : Int)) (0) (0))) p0 p1 p2
    | 1 => (fun (k : Int) (t9 : Int) (d : Int) => (if (t9) ≤ (0) then (0, aU (x) 1 (k).toNat (d)) else (if (((x).2 21) (((x).2 19) ((((4 : Int)) * (((x).2 26) (d).toNat)) + (((x).2 2) (((1408 : Int)) + ((t9) + (-1 : Int))).toNat)).toNat).toNat) = ((-9 : Int)) then F_m_reduceAt_s n 1 (aU (aU (x) 2 ((((128 : Int)) * (k)) + (d)).toNat (((x).2 2) (((1408 : Int)) + ((t9) + (-1 : Int))).toNat)) 26 ((d) + (1 : Int)).toNat (((x).2 19) ((((4 : Int)) * (((x).2 26) (d).toNat)) + (((x).2 2) (((1408 : Int)) + ((t9) + (-1 : Int))).toNat)).toNat)) (k) ((t9) + (-1 : Int)) ((d) + (1 : Int)) (0) (0) else F_m_reduceAt_s n 2 (aU (aU (x) 2 ((((128 : Int)) * (k)) + (d)).toNat (((x).2 2) (((1408 : Int)) + ((t9) + (-1 : Int))).toNat)) 26 ((d) + (1 : Int)).toNat (((x).2 19) ((((4 : Int)) * (((x).2 26) (d).toNat)) + (((x).2 2) (((1408 : Int)) + ((t9) + (-1 : Int))).toNat)).toNat)) (k) ((t9) + (-1 : Int)) (((d) + (1 : Int)) - (((x).2 13) (((x).2 21) (((x).2 19) ((((4 : Int)) * (((x).2 26) (d).toNat)) + (((x).2 2) (((1408 : Int)) + ((t9) + (-1 : Int))).toNat)).toNat).toNat).toNat)) (((x).2 21) (((x).2 19) ((((4 : Int)) * (((x).2 26) (d).toNat)) + (((x).2 2) (((1408 : Int)) + ((t9) + (-1 : Int))).toNat)).toNat).toNat) ((((x).2 15) (((x).2 21) (((x).2 19) ((((4 : Int)) * (((x).2 26) (d).toNat)) + (((x).2 2) (((1408 : Int)) + ((t9) + (-1 : Int))).toNat)).toNat).toNat).toNat) - ((1 : Int)))))) p0 p1 p2
    | 2 => (fun (k : Int) (t9 : Int) (d : Int) (r6 : Int) (i7 : Int) => (if (i7) < (0) then F_m_reduceAt_s n 1 (x) (k) (t9) (d) (0) (0) else F_m_reduceAt_s n 2 (aU (x) 2 (((1408 : Int)) + (t9)).toNat (((x).2 16) ((((24 : Int)) * (r6)) + (i7)).toNat)) (k) ((t9) + (1 : Int)) (d) (r6) ((i7) + (-1 : Int)))) p0 p1 p2 p3 p4
    | _ => (0, x)
theorem F_m_reduceAt_e0 (n : Nat) (x : MS) (k : Int) (t9 : Int) (i9 : Int) (q0 : Int) (q1 : Int) : F_m_reduceAt_s (n + 1) 0 x k t9 i9 q0 q1 = (if (i9) < (0) then F_m_reduceAt_s n 1 (aU (x) 26 ((0 : Int)).toNat ((0 : Int))) (k) (t9) ((0 : Int)) (0) (0) else F_m_reduceAt_s n 0 (aU (x) 2 (((1408 : Int)) + (t9)).toNat (((x).2 2) ((((128 : Int)) * (k)) + (i9)).toNat)) (k) ((t9) + (1 : Int)) ((i9) + (-1 : Int)) (0) (0)) := rfl
theorem F_m_reduceAt_e1 (n : Nat) (x : MS) (k : Int) (t9 : Int) (d : Int) (q0 : Int) (q1 : Int) : F_m_reduceAt_s (n + 1) 1 x k t9 d q0 q1 = (if (t9) ≤ (0) then (0, aU (x) 1 (k).toNat (d)) else (if (((x).2 21) (((x).2 19) ((((4 : Int)) * (((x).2 26) (d).toNat)) + (((x).2 2) (((1408 : Int)) + ((t9) + (-1 : Int))).toNat)).toNat).toNat) = ((-9 : Int)) then F_m_reduceAt_s n 1 (aU (aU (x) 2 ((((128 : Int)) * (k)) + (d)).toNat (((x).2 2) (((1408 : Int)) + ((t9) + (-1 : Int))).toNat)) 26 ((d) + (1 : Int)).toNat (((x).2 19) ((((4 : Int)) * (((x).2 26) (d).toNat)) + (((x).2 2) (((1408 : Int)) + ((t9) + (-1 : Int))).toNat)).toNat)) (k) ((t9) + (-1 : Int)) ((d) + (1 : Int)) (0) (0) else F_m_reduceAt_s n 2 (aU (aU (x) 2 ((((128 : Int)) * (k)) + (d)).toNat (((x).2 2) (((1408 : Int)) + ((t9) + (-1 : Int))).toNat)) 26 ((d) + (1 : Int)).toNat (((x).2 19) ((((4 : Int)) * (((x).2 26) (d).toNat)) + (((x).2 2) (((1408 : Int)) + ((t9) + (-1 : Int))).toNat)).toNat)) (k) ((t9) + (-1 : Int)) (((d) + (1 : Int)) - (((x).2 13) (((x).2 21) (((x).2 19) ((((4 : Int)) * (((x).2 26) (d).toNat)) + (((x).2 2) (((1408 : Int)) + ((t9) + (-1 : Int))).toNat)).toNat).toNat).toNat)) (((x).2 21) (((x).2 19) ((((4 : Int)) * (((x).2 26) (d).toNat)) + (((x).2 2) (((1408 : Int)) + ((t9) + (-1 : Int))).toNat)).toNat).toNat) ((((x).2 15) (((x).2 21) (((x).2 19) ((((4 : Int)) * (((x).2 26) (d).toNat)) + (((x).2 2) (((1408 : Int)) + ((t9) + (-1 : Int))).toNat)).toNat).toNat).toNat) - ((1 : Int))))) := rfl
theorem F_m_reduceAt_e2 (n : Nat) (x : MS) (k : Int) (t9 : Int) (d : Int) (r6 : Int) (i7 : Int) : F_m_reduceAt_s (n + 1) 2 x k t9 d r6 i7 = (if (i7) < (0) then F_m_reduceAt_s n 1 (x) (k) (t9) (d) (0) (0) else F_m_reduceAt_s n 2 (aU (x) 2 (((1408 : Int)) + (t9)).toNat (((x).2 16) ((((24 : Int)) * (r6)) + (i7)).toNat)) (k) ((t9) + (1 : Int)) (d) (r6) ((i7) + (-1 : Int))) := rfl
def F_m_reduceAt (x : MS) (k : Int) : Int × MS := F_m_reduceAt_s (400 * fuR + 400) 0 (x) (k) ((0 : Int)) ((((x).2 1) (k).toNat) - ((1 : Int))) (0) (0)
set_option maxHeartbeats 4000000 in
set_option maxRecDepth 100000 in
/-- reduceAt -/
theorem c_m_reduceAt (l : Launch) (dC : Nat → ClassId) (dI : Nat → Nat → Nat) (h : Nat) (ad : Nat → Nat) (cI cJ cZ : ClassId) (sz : Nat) (x : MS) (k : Int) (k0 : 0 ≤ k) (k1 : k < 13) (k2 : k ≠ 11) (z0 : 0 ≤ x.2 1 k.toNat) (z1 : x.2 1 k.toNat ≤ 127) (pw : plX x) (rl : rlR x) (ok : okL (x.1 0).toNat (ltM x k.toNat (x.2 1 k.toNat).toNat)) : Met l yX12_reduceAt wsX12_reduceAt ({ frames := 0, cells := 0, slots := 0, locals := 8 }) (mPc dC dI h ad cI cJ cZ sz x [.ref h, .int (iI k)]) (va_Qv (fun u : MS => u = (F_m_reduceAt (x) (k)).2) (mAt dC dI h ad cI cJ cZ (va_A (mW h ad cI cJ cZ (x)) sz)) (va_A (mW h ad cI cJ cZ (x)) sz)) 0 0 (va_A (mW h ad cI cJ cZ (x)) sz) := by
  refine Met.ofW (cc := cX12_reduceAt) (maxL := 8) (ret := none) (by decide) rfl ?_
  intro p e s m args below meth c s₁ B hml hv
  obtain ⟨rfl, hsz, hP, hK, hD0⟩ := hv
  have hx := B.exec
  have hb := B.bytes
  have hr := B.returns
  have hts := atoms_spec (ws := wsX12_reduceAt) B.pre
  have hown : s.vm.findClass RX12 = some m.cls := findClass_of_methodNamed B.named
  have hlocks := B.notSynchronized
  have hin : ∀ w ∈ u_ws RX12 TX12 34, w ∈ wsX12_reduceAt := by decide +kernel
  subst hsz
  have hD := hD0.self (sz := s.heap.size)
  generalize hAe : va_A (mW h ad cI cJ cZ (x)) s.heap.size = A at hD ⊢
  have hA : ∀ q : Nat, s.heap.size ≤ q → A q := fun q h => by rw [← hAe]; exact Or.inr h
  have hS : va_S A s.heap s.heap [] := va_S.rf
  have hl := lv_entry ([.ref h, .int (iI k)]) (n := 8) (Nat.le_of_ble_eq_true rfl)
  rw [lg_entry_eq]
  generalize (lg_sl ([.ref h, .int (iI k)]) ++ List.replicate (8 - (lg_sl ([.ref h, .int (iI k)])).length) Slot.unset).toArray = ls at hl ⊢
  have hl : lv_has ls 8 [(0, .ref (h)), (1, .int (iI (k)))] := hl
  obtain ⟨pr, str, Nn, Ss, hN⟩ := id pw
  obtain ⟨r40, l4, _⟩ := id pr
  have L : ∀ n : Nat, (∀ (y : MS) (t9 : Int) (i9 : Int), (rdC x y k.toNat (x.2 1 k.toNat).toNat t9.toNat) → (t9 + i9 + 1 = x.2 1 k.toNat) → (0 ≤ t9) → (-1 ≤ i9) → (400 * fuR + (i9 + 1).toNat + 1 < n) → F_m_reduceAt_s n 0 y k t9 i9 0 0 = F_m_reduceAt (x) (k) → ∀ (H : Heap) (locs : List Loc) (ls : Array Slot), va_P (dC, dI) vwCl (mW h ad cI cJ cZ (y)) H → va_D A (mW h ad cI cJ cZ (y)) → va_S A s.heap H locs → lv_has ls 8 [(0, .ref (h)), (1, .int (iI (k))), (2, .int (iI (t9))), (3, .int (iI (i9)))] → W p l e (headSpec wsX12_reduceAt ({ frames := 0, cells := 0, slots := 0, locals := 8 })).room s m ([.ref h, .int (iI k)] : List Value).toArray below meth c H locs 0 0 (MQ below (va_Qv (fun u : MS => u = (F_m_reduceAt (x) (k)).2) (mAt dC dI h ad cI cJ cZ A) A) ([.ref h, .int (iI k)] : List Value).toArray s 0 0 A) (F0 m 11 ls [])) ∧ (∀ (y : MS) (t9 : Int) (d : Int), (rdJ str Nn x y k.toNat (x.2 1 k.toNat).toNat d.toNat t9.toNat []) → (0 ≤ t9) → (0 ≤ d) → (400 * knm (ltM y k.toNat d.toNat ++ ([] ++ rsM y t9.toNat)) + t9.toNat < n) → F_m_reduceAt_s n 1 y k t9 d 0 0 = F_m_reduceAt (x) (k) → ∀ (H : Heap) (locs : List Loc) (ls : Array Slot), va_P (dC, dI) vwCl (mW h ad cI cJ cZ (y)) H → va_D A (mW h ad cI cJ cZ (y)) → va_S A s.heap H locs → lv_has ls 8 [(0, .ref (h)), (1, .int (iI (k))), (2, .int (iI (t9))), (3, .int (iI (d)))] → W p l e (headSpec wsX12_reduceAt ({ frames := 0, cells := 0, slots := 0, locals := 8 })).room s m ([.ref h, .int (iI k)] : List Value).toArray below meth c H locs 0 0 (MQ below (va_Qv (fun u : MS => u = (F_m_reduceAt (x) (k)).2) (mAt dC dI h ad cI cJ cZ A) A) ([.ref h, .int (iI k)] : List Value).toArray s 0 0 A) (F0 m 55 ls [])) ∧ (∀ (y : MS) (t9 : Int) (d : Int) (r6 : Int) (i7 : Int), (rdJ str Nn x y k.toNat (x.2 1 k.toNat).toNat d.toNat t9.toNat ((rM x r6.toNat).take (i7 + 1).toNat)) → (0 ≤ t9) → (0 ≤ d) → (0 ≤ r6) → (r6 < 40) → (-1 ≤ i7) → (i7 < 20) → (i7 < x.2 15 r6.toNat) → (400 * knm (ltM y k.toNat d.toNat ++ (((rM x r6.toNat).take (i7 + 1).toNat) ++ rsM y t9.toNat)) + t9.toNat + 2 * (i7 + 1).toNat + 1 < n) → F_m_reduceAt_s n 2 y k t9 d r6 i7 = F_m_reduceAt (x) (k) → ∀ (H : Heap) (locs : List Loc) (ls : Array Slot), va_P (dC, dI) vwCl (mW h ad cI cJ cZ (y)) H → va_D A (mW h ad cI cJ cZ (y)) → va_S A s.heap H locs → lv_has ls 8 [(0, .ref (h)), (1, .int (iI (k))), (2, .int (iI (t9))), (3, .int (iI (d))), (6, .int (iI (r6))), (7, .int (iI (i7)))] → W p l e (headSpec wsX12_reduceAt ({ frames := 0, cells := 0, slots := 0, locals := 8 })).room s m ([.ref h, .int (iI k)] : List Value).toArray below meth c H locs 0 0 (MQ below (va_Qv (fun u : MS => u = (F_m_reduceAt (x) (k)).2) (mAt dC dI h ad cI cJ cZ A) A) ([.ref h, .int (iI k)] : List Value).toArray s 0 0 A) (F0 m 154 ls [])) := by
    intro n
    induction n with
    | zero =>
      refine ⟨?_, ?_, ?_⟩
      · intro y t9 i9 rc ti t0 i0 fu hres
        exact absurd fu (by omega)
      · intro y t9 d ij t0 d0 fu hres
        exact absurd fu (by omega)
      · intro y t9 d r6 i7 ij t0 d0 r0 r1 i0 i1 i2 fu hres
        exact absurd fu (by omega)
    | succ n ih =>
      refine ⟨?_, ?_, ?_⟩
      · intro y t9 i9 rc ti t0 i0 fu hres H locs ls hP hD hS hl
        rw [F_m_reduceAt_e0] at hres
        refine lv_iload_n hx hb dX12_reduceAt_11 rfl (lv_at hl 3 rfl) ?_
        refine wi_if_lt (tgt := 46) hx hb (by first | assumption | (unfold iR; omega) | exact F_R01 (by assumption)) dX12_reduceAt_12 (by decide) (fun c_12 => ?_) (fun c_12 => ?_)
        · skip
          rw [if_pos c_12] at hres
          refine lv_iconst (v := iI (0 : Int)) hx hb dX12_reduceAt_46 (by decide) ?_
          refine lv_istore_n (lv' := [(3, .int (iI ((0 : Int)))), (0, .ref (h)), (1, .int (iI (k))), (2, .int (iI (t9)))]) hx hb dX12_reduceAt_47 rfl hl (by decide) rfl (fun ls hl => ?_)
          refine lv_aload_n hx hb dX12_reduceAt_48 rfl (lv_at hl 1 rfl) ?_
          refine va_get (D := (dC, dI)) (ci := 12) (v := .ref (ad 26)) (C := RX12) (T := TX12) (N := 34) hx hb hts hin hown hK hP 0 rfl rfl 26 (by decide) (hts (.fieldLink RX12 71 "LikeWordsModel" "passed" "[I") (by decide +kernel)) (fun _ h9 => h9) rfl dX12_reduceAt_49 ?_
          refine lv_iconst (v := iI (0 : Int)) hx hb dX12_reduceAt_52 (by decide) ?_
          refine lv_iconst (v := iI (0 : Int)) hx hb dX12_reduceAt_53 (by decide) ?_
          refine wi_iast (f := (y).2 26) hx hb hK hP hD hS 19 0 rfl rfl (i := (0 : Int)) (x := (0 : Int)) (by omega) (by omega) (by decide) dX12_reduceAt_54 (fun H locs hP hD hS => ?_)
          rw [mW_a26] at hP hD
          exact ih.2.1 (aU (y) 26 ((0 : Int)).toNat ((0 : Int))) (t9) ((0 : Int)) (rdC_eI pr hN rc ti c_12 i0 ok z1) (by omega) (by omega) (by have h9 := rdJ_fu (rdC_eI pr hN rc ti c_12 i0 ok z1) (by omega); omega) hres _ _ ls hP hD hS (lv_sub hl [1, 2, 3, 0] rfl)
        · skip
          rw [if_neg c_12] at hres
          refine lv_aload_n hx hb dX12_reduceAt_15 rfl (lv_at hl 0 rfl) ?_
          refine va_get (D := (dC, dI)) (ci := 12) (v := .ref (ad 2)) (C := RX12) (T := TX12) (N := 34) hx hb hts hin hown hK hP 0 rfl rfl 2 (by decide) (hts (.fieldLink RX12 17 "LikeWordsModel" "row" "[I") (by decide +kernel)) (fun _ h9 => h9) rfl dX12_reduceAt_16 ?_
          refine lv_sipush (v := iI (1408 : Int)) hx hb dX12_reduceAt_19 (by decide) ?_
          refine lv_iload_n hx hb dX12_reduceAt_22 rfl (lv_at hl 2 rfl) ?_
          refine wi_iadd hx hb dX12_reduceAt_23 ?_
          refine lv_aload_n hx hb dX12_reduceAt_24 rfl (lv_at hl 0 rfl) ?_
          refine va_get (D := (dC, dI)) (ci := 12) (v := .ref (ad 2)) (C := RX12) (T := TX12) (N := 34) hx hb hts hin hown hK hP 0 rfl rfl 2 (by decide) (hts (.fieldLink RX12 17 "LikeWordsModel" "row" "[I") (by decide +kernel)) (fun _ h9 => h9) rfl dX12_reduceAt_25 ?_
          refine lv_sipush (v := iI (128 : Int)) hx hb dX12_reduceAt_28 (by decide) ?_
          refine lv_iload_n hx hb dX12_reduceAt_31 rfl (lv_at hl 1 rfl) ?_
          refine wi_imul hx hb dX12_reduceAt_32 ?_
          refine lv_iload_n hx hb dX12_reduceAt_33 rfl (lv_at hl 3 rfl) ?_
          refine wi_iadd hx hb dX12_reduceAt_34 ?_
          refine wi_iald (f := (y).2 2) hx hb hK hP 2 0 rfl rfl (i := (((128 : Int)) * (k)) + (i9)) (by omega) (by omega) (by decide) dX12_reduceAt_35 ?_
          refine wi_iast (f := (y).2 2) hx hb hK hP hD hS 2 0 rfl rfl (i := ((1408 : Int)) + (t9)) (x := ((y).2 2) ((((128 : Int)) * (k)) + (i9)).toNat) (by omega) (by omega) (by decide) dX12_reduceAt_36 (fun H locs hP hD hS => ?_)
          rw [mW_a2] at hP hD
          refine lv_iinc (v := iI ((t9) + (1 : Int))) (lv' := [(2, .int (iI ((t9) + (1 : Int)))), (0, .ref (h)), (1, .int (iI (k))), (3, .int (iI (i9)))]) hx hb dX12_reduceAt_37 hl (k := 2) rfl (iI_add _ _) (by decide) rfl (fun ls hl => ?_)
          refine lv_iinc (v := iI ((i9) + (-1 : Int))) (lv' := [(3, .int (iI ((i9) + (-1 : Int)))), (2, .int (iI ((t9) + (1 : Int)))), (0, .ref (h)), (1, .int (iI (k)))]) hx hb dX12_reduceAt_40 hl (k := 3) rfl (iI_add _ _) (by decide) rfl (fun ls hl => ?_)
          refine lv_goto (tgt := 11) hx hb dX12_reduceAt_43 (by decide) ?_
          exact ih.1 (aU (y) 2 (((1408 : Int)) + (t9)).toNat (((y).2 2) ((((128 : Int)) * (k)) + (i9)).toNat)) ((t9) + (1 : Int)) ((i9) + (-1 : Int)) (rdC_sI rc ti t0 (by omega) k0 k1 k2 z1) (by omega) (by omega) (by omega) (by omega) hres _ _ ls hP hD hS (lv_sub hl [2, 3, 1, 0] rfl)
      · intro y t9 d ij t0 d0 fu hres H locs ls hP hD hS hl
        rw [F_m_reduceAt_e1] at hres
        have ln := rdJ_len ij
        rw [List.length_nil] at ln
        refine lv_iload_n hx hb dX12_reduceAt_55 rfl (lv_at hl 2 rfl) ?_
        refine wi_if_le (tgt := 194) hx hb (by first | assumption | (unfold iR; omega) | exact F_R01 (by assumption)) dX12_reduceAt_56 (by decide) (fun c_56 => ?_) (fun c_56 => ?_)
        · skip
          rw [if_pos c_56] at hres
          refine lv_aload_n hx hb dX12_reduceAt_194 rfl (lv_at hl 0 rfl) ?_
          refine va_get (D := (dC, dI)) (ci := 12) (v := .ref (ad 1)) (C := RX12) (T := TX12) (N := 34) hx hb hts hin hown hK hP 0 rfl rfl 1 (by decide) (hts (.fieldLink RX12 13 "LikeWordsModel" "size" "[I") (by decide +kernel)) (fun _ h9 => h9) rfl dX12_reduceAt_195 ?_
          refine lv_iload_n hx hb dX12_reduceAt_198 rfl (lv_at hl 1 rfl) ?_
          refine lv_iload_n hx hb dX12_reduceAt_199 rfl (lv_at hl 3 rfl) ?_
          refine wi_iast (f := (y).2 1) hx hb hK hP hD hS 1 0 rfl rfl (i := k) (x := d) (by omega) (by omega) (by decide) dX12_reduceAt_200 (fun H locs hP hD hS => ?_)
          rw [mW_a1] at hP hD
          exact W.vret hx hb hr (fun t ht hW => ⟨⟨aU (y) 1 (k).toNat (d), rfl, (by have h9 := congrArg (fun z : Int × MS => z.2) hres; exact h9), by rw [ht]; exact hP, va_K.moved hW.alike hK, hD⟩, hS.F ht⟩) hS.2.2 dX12_reduceAt_201
        · skip
          rw [if_neg c_56] at hres
          have sp := rd_stepI pr rl hN ij k0 k1 k2 (by omega) d0 c_56 rfl rfl rfl rfl
          obtain ⟨sl, sq1, sq2, _⟩ := id sp
          have sr : y.2 21 (y.2 19 ((4 : Int) * y.2 26 d.toNat + y.2 2 ((1408 : Int) + (t9 + (-1 : Int))).toNat).toNat).toNat = -9 ∨ (0 ≤ y.2 21 (y.2 19 ((4 : Int) * y.2 26 d.toNat + y.2 2 ((1408 : Int) + (t9 + (-1 : Int))).toNat).toNat).toNat ∧ y.2 21 (y.2 19 ((4 : Int) * y.2 26 d.toNat + y.2 2 ((1408 : Int) + (t9 + (-1 : Int))).toNat).toNat).toNat < 40) := by
            by_cases h9 : y.2 21 (y.2 19 ((4 : Int) * y.2 26 d.toNat + y.2 2 ((1408 : Int) + (t9 + (-1 : Int))).toNat).toNat).toNat = -9
            · exact Or.inl h9
            · exact Or.inr (sp.2.2.2.2 h9).1
          refine lv_iinc (v := iI ((t9) + (-1 : Int))) (lv' := [(2, .int (iI ((t9) + (-1 : Int)))), (0, .ref (h)), (1, .int (iI (k))), (3, .int (iI (d)))]) hx hb dX12_reduceAt_59 hl (k := 2) rfl (iI_add _ _) (by decide) rfl (fun ls hl => ?_)
          refine lv_aload_n hx hb dX12_reduceAt_62 rfl (lv_at hl 1 rfl) ?_
          refine va_get (D := (dC, dI)) (ci := 12) (v := .ref (ad 2)) (C := RX12) (T := TX12) (N := 34) hx hb hts hin hown hK hP 0 rfl rfl 2 (by decide) (hts (.fieldLink RX12 17 "LikeWordsModel" "row" "[I") (by decide +kernel)) (fun _ h9 => h9) rfl dX12_reduceAt_63 ?_
          refine lv_sipush (v := iI (1408 : Int)) hx hb dX12_reduceAt_66 (by decide) ?_
          refine lv_iload_n hx hb dX12_reduceAt_69 rfl (lv_at hl 0 rfl) ?_
          refine wi_iadd hx hb dX12_reduceAt_70 ?_
          refine wi_iald (f := (y).2 2) hx hb hK hP 2 0 rfl rfl (i := ((1408 : Int)) + ((t9) + (-1 : Int))) (by omega) (by omega) (by decide) dX12_reduceAt_71 ?_
          refine lv_istore (lv' := [(4, .int (iI (((y).2 2) (((1408 : Int)) + ((t9) + (-1 : Int))).toNat))), (2, .int (iI ((t9) + (-1 : Int)))), (0, .ref (h)), (1, .int (iI (k))), (3, .int (iI (d)))]) hx hb dX12_reduceAt_72 hl (by decide) rfl (fun ls hl => ?_)
          refine lv_aload_n hx hb dX12_reduceAt_74 rfl (lv_at hl 2 rfl) ?_
          refine va_get (D := (dC, dI)) (ci := 12) (v := .ref (ad 19)) (C := RX12) (T := TX12) (N := 34) hx hb hts hin hown hK hP 0 rfl rfl 19 (by decide) (hts (.fieldLink RX12 53 "LikeWordsModel" "go" "[I") (by decide +kernel)) (fun _ h9 => h9) rfl dX12_reduceAt_75 ?_
          refine lv_iconst (v := iI (4 : Int)) hx hb dX12_reduceAt_78 (by decide) ?_
          refine lv_aload_n hx hb dX12_reduceAt_79 rfl (lv_at hl 2 rfl) ?_
          refine va_get (D := (dC, dI)) (ci := 12) (v := .ref (ad 26)) (C := RX12) (T := TX12) (N := 34) hx hb hts hin hown hK hP 0 rfl rfl 26 (by decide) (hts (.fieldLink RX12 71 "LikeWordsModel" "passed" "[I") (by decide +kernel)) (fun _ h9 => h9) rfl dX12_reduceAt_80 ?_
          refine lv_iload_n hx hb dX12_reduceAt_83 rfl (lv_at hl 4 rfl) ?_
          refine wi_iald (f := (y).2 26) hx hb hK hP 19 0 rfl rfl (i := d) (by omega) (by omega) (by decide) dX12_reduceAt_84 ?_
          refine wi_imul hx hb dX12_reduceAt_85 ?_
          refine lv_iload hx hb dX12_reduceAt_86 (lv_at hl 0 rfl) ?_
          refine wi_iadd hx hb dX12_reduceAt_88 ?_
          refine wi_iald (f := (y).2 19) hx hb hK hP 13 0 rfl rfl (i := (((4 : Int)) * (((y).2 26) (d).toNat)) + (((y).2 2) (((1408 : Int)) + ((t9) + (-1 : Int))).toNat)) (by omega) (by omega) (by decide) dX12_reduceAt_89 ?_
          refine lv_istore (lv' := [(5, .int (iI (((y).2 19) ((((4 : Int)) * (((y).2 26) (d).toNat)) + (((y).2 2) (((1408 : Int)) + ((t9) + (-1 : Int))).toNat)).toNat))), (4, .int (iI (((y).2 2) (((1408 : Int)) + ((t9) + (-1 : Int))).toNat))), (2, .int (iI ((t9) + (-1 : Int)))), (0, .ref (h)), (1, .int (iI (k))), (3, .int (iI (d)))]) hx hb dX12_reduceAt_90 hl (by decide) rfl (fun ls hl => ?_)
          refine lv_aload_n hx hb dX12_reduceAt_92 rfl (lv_at hl 3 rfl) ?_
          refine va_get (D := (dC, dI)) (ci := 12) (v := .ref (ad 2)) (C := RX12) (T := TX12) (N := 34) hx hb hts hin hown hK hP 0 rfl rfl 2 (by decide) (hts (.fieldLink RX12 17 "LikeWordsModel" "row" "[I") (by decide +kernel)) (fun _ h9 => h9) rfl dX12_reduceAt_93 ?_
          refine lv_sipush (v := iI (128 : Int)) hx hb dX12_reduceAt_96 (by decide) ?_
          refine lv_iload_n hx hb dX12_reduceAt_99 rfl (lv_at hl 4 rfl) ?_
          refine wi_imul hx hb dX12_reduceAt_100 ?_
          refine lv_iload_n hx hb dX12_reduceAt_101 rfl (lv_at hl 5 rfl) ?_
          refine wi_iadd hx hb dX12_reduceAt_102 ?_
          refine lv_iload hx hb dX12_reduceAt_103 (lv_at hl 1 rfl) ?_
          refine wi_iast (f := (y).2 2) hx hb hK hP hD hS 2 0 rfl rfl (i := (((128 : Int)) * (k)) + (d)) (x := ((y).2 2) (((1408 : Int)) + ((t9) + (-1 : Int))).toNat) (by omega) (by omega) (by decide) dX12_reduceAt_105 (fun H locs hP hD hS => ?_)
          rw [mW_a2] at hP hD
          refine lv_iinc (v := iI ((d) + (1 : Int))) (lv' := [(3, .int (iI ((d) + (1 : Int)))), (5, .int (iI (((y).2 19) ((((4 : Int)) * (((y).2 26) (d).toNat)) + (((y).2 2) (((1408 : Int)) + ((t9) + (-1 : Int))).toNat)).toNat))), (4, .int (iI (((y).2 2) (((1408 : Int)) + ((t9) + (-1 : Int))).toNat))), (2, .int (iI ((t9) + (-1 : Int)))), (0, .ref (h)), (1, .int (iI (k)))]) hx hb dX12_reduceAt_106 hl (k := 5) rfl (iI_add _ _) (by decide) rfl (fun ls hl => ?_)
          refine lv_aload_n hx hb dX12_reduceAt_109 rfl (lv_at hl 4 rfl) ?_
          refine va_get (D := (dC, dI)) (ci := 12) (v := .ref (ad 26)) (C := RX12) (T := TX12) (N := 34) hx hb hts hin hown hK hP 0 rfl rfl 26 (by decide) (hts (.fieldLink RX12 71 "LikeWordsModel" "passed" "[I") (by decide +kernel)) (fun _ h9 => h9) rfl dX12_reduceAt_110 ?_
          refine lv_iload_n hx hb dX12_reduceAt_113 rfl (lv_at hl 0 rfl) ?_
          refine lv_iload hx hb dX12_reduceAt_114 (lv_at hl 1 rfl) ?_
          refine wi_iast (f := (aU (y) 2 ((((128 : Int)) * (k)) + (d)).toNat (((y).2 2) (((1408 : Int)) + ((t9) + (-1 : Int))).toNat)).2 26) hx hb hK hP hD hS 19 0 rfl rfl (i := (d) + (1 : Int)) (x := ((y).2 19) ((((4 : Int)) * (((y).2 26) (d).toNat)) + (((y).2 2) (((1408 : Int)) + ((t9) + (-1 : Int))).toNat)).toNat) (by omega) (by omega) (by decide) dX12_reduceAt_116 (fun H locs hP hD hS => ?_)
          rw [mW_a26] at hP hD
          refine lv_aload_n hx hb dX12_reduceAt_117 rfl (lv_at hl 4 rfl) ?_
          refine va_get (D := (dC, dI)) (ci := 12) (v := .ref (ad 21)) (C := RX12) (T := TX12) (N := 34) hx hb hts hin hown hK hP 0 rfl rfl 21 (by decide) (hts (.fieldLink RX12 59 "LikeWordsModel" "ends" "[I") (by decide +kernel)) (fun _ h9 => h9) rfl dX12_reduceAt_118 ?_
          refine lv_iload hx hb dX12_reduceAt_121 (lv_at hl 1 rfl) ?_
          refine wi_iald (f := (y).2 21) hx hb hK hP 15 0 rfl rfl (i := ((y).2 19) ((((4 : Int)) * (((y).2 26) (d).toNat)) + (((y).2 2) (((1408 : Int)) + ((t9) + (-1 : Int))).toNat)).toNat) (by omega) (by omega) (by decide) dX12_reduceAt_123 ?_
          refine lv_istore (lv' := [(6, .int (iI (((y).2 21) (((y).2 19) ((((4 : Int)) * (((y).2 26) (d).toNat)) + (((y).2 2) (((1408 : Int)) + ((t9) + (-1 : Int))).toNat)).toNat).toNat))), (3, .int (iI ((d) + (1 : Int)))), (5, .int (iI (((y).2 19) ((((4 : Int)) * (((y).2 26) (d).toNat)) + (((y).2 2) (((1408 : Int)) + ((t9) + (-1 : Int))).toNat)).toNat))), (4, .int (iI (((y).2 2) (((1408 : Int)) + ((t9) + (-1 : Int))).toNat))), (2, .int (iI ((t9) + (-1 : Int)))), (0, .ref (h)), (1, .int (iI (k)))]) hx hb dX12_reduceAt_124 hl (by decide) rfl (fun ls hl => ?_)
          refine lv_iload hx hb dX12_reduceAt_126 (lv_at hl 0 rfl) ?_
          refine lv_bipush (v := iI (-9 : Int)) hx hb dX12_reduceAt_128 (by decide) ?_
          refine wi_icmp_eq (tgt := 191) hx hb (by unfold iR; omega) (by unfold iR; omega) dX12_reduceAt_130 (by decide) (fun c_130 => ?_) (fun c_130 => ?_)
          · skip
            rw [if_pos c_130] at hres
            refine lv_goto (tgt := 55) hx hb dX12_reduceAt_191 (by decide) ?_
            exact ih.2.1 (aU (aU (y) 2 ((((128 : Int)) * (k)) + (d)).toNat (((y).2 2) (((1408 : Int)) + ((t9) + (-1 : Int))).toNat)) 26 ((d) + (1 : Int)).toNat (((y).2 19) ((((4 : Int)) * (((y).2 26) (d).toNat)) + (((y).2 2) (((1408 : Int)) + ((t9) + (-1 : Int))).toNat)).toNat)) ((t9) + (-1 : Int)) ((d) + (1 : Int)) ((sp.2.2.2.1 c_130).1) (by omega) (by omega) (by rw [(sp.2.2.2.1 c_130).2]; omega) hres _ _ ls hP hD hS (lv_sub hl [5, 6, 4, 1] rfl)
          · skip
            rw [if_neg c_130] at hres
            have sk := sp.2.2.2.2 c_130
            obtain ⟨sk1, sk2, sk3, _⟩ := id sk
            refine lv_iload_n hx hb dX12_reduceAt_133 rfl (lv_at hl 1 rfl) ?_
            refine lv_aload_n hx hb dX12_reduceAt_134 rfl (lv_at hl 5 rfl) ?_
            refine va_get (D := (dC, dI)) (ci := 12) (v := .ref (ad 13)) (C := RX12) (T := TX12) (N := 34) hx hb hts hin hown hK hP 0 rfl rfl 13 (by decide) (hts (.fieldLink RX12 38 "LikeWordsModel" "leftSize" "[I") (by decide +kernel)) (fun _ h9 => h9) rfl dX12_reduceAt_135 ?_
            refine lv_iload hx hb dX12_reduceAt_138 (lv_at hl 0 rfl) ?_
            refine wi_iald (f := (y).2 13) hx hb hK hP 8 0 rfl rfl (i := ((y).2 21) (((y).2 19) ((((4 : Int)) * (((y).2 26) (d).toNat)) + (((y).2 2) (((1408 : Int)) + ((t9) + (-1 : Int))).toNat)).toNat).toNat) (by omega) (by omega) (by decide) dX12_reduceAt_140 ?_
            refine wi_isub hx hb dX12_reduceAt_141 ?_
            refine lv_istore_n (lv' := [(3, .int (iI (((d) + (1 : Int)) - (((y).2 13) (((y).2 21) (((y).2 19) ((((4 : Int)) * (((y).2 26) (d).toNat)) + (((y).2 2) (((1408 : Int)) + ((t9) + (-1 : Int))).toNat)).toNat).toNat).toNat)))), (6, .int (iI (((y).2 21) (((y).2 19) ((((4 : Int)) * (((y).2 26) (d).toNat)) + (((y).2 2) (((1408 : Int)) + ((t9) + (-1 : Int))).toNat)).toNat).toNat))), (5, .int (iI (((y).2 19) ((((4 : Int)) * (((y).2 26) (d).toNat)) + (((y).2 2) (((1408 : Int)) + ((t9) + (-1 : Int))).toNat)).toNat))), (4, .int (iI (((y).2 2) (((1408 : Int)) + ((t9) + (-1 : Int))).toNat))), (2, .int (iI ((t9) + (-1 : Int)))), (0, .ref (h)), (1, .int (iI (k)))]) hx hb dX12_reduceAt_142 rfl hl (by decide) rfl (fun ls hl => ?_)
            refine lv_aload_n hx hb dX12_reduceAt_143 rfl (lv_at hl 5 rfl) ?_
            refine va_get (D := (dC, dI)) (ci := 12) (v := .ref (ad 15)) (C := RX12) (T := TX12) (N := 34) hx hb hts hin hown hK hP 0 rfl rfl 15 (by decide) (hts (.fieldLink RX12 44 "LikeWordsModel" "rightSize" "[I") (by decide +kernel)) (fun _ h9 => h9) rfl dX12_reduceAt_144 ?_
            refine lv_iload hx hb dX12_reduceAt_147 (lv_at hl 1 rfl) ?_
            refine wi_iald (f := (y).2 15) hx hb hK hP 10 0 rfl rfl (i := ((y).2 21) (((y).2 19) ((((4 : Int)) * (((y).2 26) (d).toNat)) + (((y).2 2) (((1408 : Int)) + ((t9) + (-1 : Int))).toNat)).toNat).toNat) (by omega) (by omega) (by decide) dX12_reduceAt_149 ?_
            refine lv_iconst (v := iI (1 : Int)) hx hb dX12_reduceAt_150 (by decide) ?_
            refine wi_isub hx hb dX12_reduceAt_151 ?_
            refine lv_istore (lv' := [(7, .int (iI ((((y).2 15) (((y).2 21) (((y).2 19) ((((4 : Int)) * (((y).2 26) (d).toNat)) + (((y).2 2) (((1408 : Int)) + ((t9) + (-1 : Int))).toNat)).toNat).toNat).toNat) - ((1 : Int))))), (3, .int (iI (((d) + (1 : Int)) - (((y).2 13) (((y).2 21) (((y).2 19) ((((4 : Int)) * (((y).2 26) (d).toNat)) + (((y).2 2) (((1408 : Int)) + ((t9) + (-1 : Int))).toNat)).toNat).toNat).toNat)))), (6, .int (iI (((y).2 21) (((y).2 19) ((((4 : Int)) * (((y).2 26) (d).toNat)) + (((y).2 2) (((1408 : Int)) + ((t9) + (-1 : Int))).toNat)).toNat).toNat))), (5, .int (iI (((y).2 19) ((((4 : Int)) * (((y).2 26) (d).toNat)) + (((y).2 2) (((1408 : Int)) + ((t9) + (-1 : Int))).toNat)).toNat))), (4, .int (iI (((y).2 2) (((1408 : Int)) + ((t9) + (-1 : Int))).toNat))), (2, .int (iI ((t9) + (-1 : Int)))), (0, .ref (h)), (1, .int (iI (k)))]) hx hb dX12_reduceAt_152 hl (by decide) rfl (fun ls hl => ?_)
            exact ih.2.2 (aU (aU (y) 2 ((((128 : Int)) * (k)) + (d)).toNat (((y).2 2) (((1408 : Int)) + ((t9) + (-1 : Int))).toNat)) 26 ((d) + (1 : Int)).toNat (((y).2 19) ((((4 : Int)) * (((y).2 26) (d).toNat)) + (((y).2 2) (((1408 : Int)) + ((t9) + (-1 : Int))).toNat)).toNat)) ((t9) + (-1 : Int)) (((d) + (1 : Int)) - (((y).2 13) (((y).2 21) (((y).2 19) ((((4 : Int)) * (((y).2 26) (d).toNat)) + (((y).2 2) (((1408 : Int)) + ((t9) + (-1 : Int))).toNat)).toNat).toNat).toNat)) (((y).2 21) (((y).2 19) ((((4 : Int)) * (((y).2 26) (d).toNat)) + (((y).2 2) (((1408 : Int)) + ((t9) + (-1 : Int))).toNat)).toNat).toNat) ((((y).2 15) (((y).2 21) (((y).2 19) ((((4 : Int)) * (((y).2 26) (d).toNat)) + (((y).2 2) (((1408 : Int)) + ((t9) + (-1 : Int))).toNat)).toNat).toNat).toNat) - ((1 : Int))) ((sp.2.2.2.2 c_130).2.2.2.2.1) (by omega) (by have h9 := (sp.2.2.2.2 c_130).2.1; omega) (by have h9 := (sp.2.2.2.2 c_130).1; omega) (by have h9 := (sp.2.2.2.2 c_130).1; omega) (by have h9 := (sp.2.2.2.2 c_130).2.2.1; omega) (by have h9 := (sp.2.2.2.2 c_130).2.2.1; omega) (by have h9 := (sp.2.2.2.2 c_130).2.2.2.1; omega) (by have h9 := (sp.2.2.2.2 c_130).2.2.2.2.2; have h8 := (sp.2.2.2.2 c_130).2.2.1; omega) hres _ _ ls hP hD hS (lv_sub hl [6, 7, 5, 1, 2, 0] rfl)
      · intro y t9 d r6 i7 ij t0 d0 r0 r1 i0 i1 i2 fu hres H locs ls hP hD hS hl
        rw [F_m_reduceAt_e2] at hres
        have ln := rdJ_len ij
        have ln2 : ((rM x r6.toNat).take (i7 + 1).toNat).length = (i7 + 1).toNat := by rw [List.length_take, rM_len]; omega
        refine lv_iload hx hb dX12_reduceAt_154 (lv_at hl 5 rfl) ?_
        refine wi_if_lt (tgt := 191) hx hb (by first | assumption | (unfold iR; omega) | exact F_R01 (by assumption)) dX12_reduceAt_156 (by decide) (fun c_156 => ?_) (fun c_156 => ?_)
        · skip
          rw [if_pos c_156] at hres
          refine lv_goto (tgt := 55) hx hb dX12_reduceAt_191 (by decide) ?_
          exact ih.2.1 (y) (t9) (d) (by rw [rd_zero c_156] at ij; exact ij) (by omega) (by omega) (by rw [rd_zero c_156] at fu; omega) hres _ _ ls hP hD hS (lv_sub hl [0, 1, 2, 3] rfl)
        · skip
          rw [if_neg c_156] at hres
          refine lv_aload_n hx hb dX12_reduceAt_159 rfl (lv_at hl 0 rfl) ?_
          refine va_get (D := (dC, dI)) (ci := 12) (v := .ref (ad 2)) (C := RX12) (T := TX12) (N := 34) hx hb hts hin hown hK hP 0 rfl rfl 2 (by decide) (hts (.fieldLink RX12 17 "LikeWordsModel" "row" "[I") (by decide +kernel)) (fun _ h9 => h9) rfl dX12_reduceAt_160 ?_
          refine lv_sipush (v := iI (1408 : Int)) hx hb dX12_reduceAt_163 (by decide) ?_
          refine lv_iload_n hx hb dX12_reduceAt_166 rfl (lv_at hl 2 rfl) ?_
          refine wi_iadd hx hb dX12_reduceAt_167 ?_
          refine lv_aload_n hx hb dX12_reduceAt_168 rfl (lv_at hl 0 rfl) ?_
          refine va_get (D := (dC, dI)) (ci := 12) (v := .ref (ad 16)) (C := RX12) (T := TX12) (N := 34) hx hb hts hin hown hK hP 0 rfl rfl 16 (by decide) (hts (.fieldLink RX12 47 "LikeWordsModel" "right" "[I") (by decide +kernel)) (fun _ h9 => h9) rfl dX12_reduceAt_169 ?_
          refine lv_bipush (v := iI (24 : Int)) hx hb dX12_reduceAt_172 (by decide) ?_
          refine lv_iload hx hb dX12_reduceAt_174 (lv_at hl 4 rfl) ?_
          refine wi_imul hx hb dX12_reduceAt_176 ?_
          refine lv_iload hx hb dX12_reduceAt_177 (lv_at hl 5 rfl) ?_
          refine wi_iadd hx hb dX12_reduceAt_179 ?_
          refine wi_iald (f := (y).2 16) hx hb hK hP 11 0 rfl rfl (i := (((24 : Int)) * (r6)) + (i7)) (by omega) (by omega) (by decide) dX12_reduceAt_180 ?_
          refine wi_iast (f := (y).2 2) hx hb hK hP hD hS 2 0 rfl rfl (i := ((1408 : Int)) + (t9)) (x := ((y).2 16) ((((24 : Int)) * (r6)) + (i7)).toNat) (by omega) (by omega) (by decide) dX12_reduceAt_181 (fun H locs hP hD hS => ?_)
          rw [mW_a2] at hP hD
          refine lv_iinc (v := iI ((t9) + (1 : Int))) (lv' := [(2, .int (iI ((t9) + (1 : Int)))), (0, .ref (h)), (1, .int (iI (k))), (3, .int (iI (d))), (6, .int (iI (r6))), (7, .int (iI (i7)))]) hx hb dX12_reduceAt_182 hl (k := 2) rfl (iI_add _ _) (by decide) rfl (fun ls hl => ?_)
          refine lv_iinc (v := iI ((i7) + (-1 : Int))) (lv' := [(7, .int (iI ((i7) + (-1 : Int)))), (2, .int (iI ((t9) + (1 : Int)))), (0, .ref (h)), (1, .int (iI (k))), (3, .int (iI (d))), (6, .int (iI (r6)))]) hx hb dX12_reduceAt_185 hl (k := 5) rfl (iI_add _ _) (by decide) rfl (fun ls hl => ?_)
          refine lv_goto (tgt := 154) hx hb dX12_reduceAt_188 (by decide) ?_
          exact ih.2.2 (aU (y) 2 (((1408 : Int)) + (t9)).toNat (((y).2 16) ((((24 : Int)) * (r6)) + (i7)).toNat)) ((t9) + (1 : Int)) (d) (r6) ((i7) + (-1 : Int)) ((rd_pushI ij k0 k1 k2 (by omega) t0 r0 c_156 i2).1) (by omega) (by omega) (by omega) (by omega) (by omega) (by omega) (by omega) (by rw [(rd_pushI ij k0 k1 k2 (by omega) t0 r0 c_156 i2).2]; omega) hres _ _ ls hP hD hS (lv_sub hl [2, 3, 1, 4, 5, 0] rfl)
  have key : ∀ (H : Heap) (locs : List Loc), va_P (dC, dI) vwCl (mW h ad cI cJ cZ (x)) H → va_S A s.heap H locs → W p l e (headSpec wsX12_reduceAt ({ frames := 0, cells := 0, slots := 0, locals := 8 })).room s m ([.ref h, .int (iI k)] : List Value).toArray below meth c H locs 0 0 (MQ below (va_Qv (fun u : MS => u = (F_m_reduceAt (x) (k)).2) (mAt dC dI h ad cI cJ cZ A) A) ([.ref h, .int (iI k)] : List Value).toArray s 0 0 A) (F0 m 0 ls []) := by
    intro H locs hP hS
    have hres : F_m_reduceAt_s (400 * fuR + 400) 0 (x) (k) ((0 : Int)) ((((x).2 1) (k).toNat) - ((1 : Int))) (0) (0) = F_m_reduceAt (x) (k) := rfl
    refine lv_iconst (v := iI (0 : Int)) hx hb dX12_reduceAt_0 (by decide) ?_
    refine lv_istore_n (lv' := [(2, .int (iI ((0 : Int)))), (0, .ref (h)), (1, .int (iI (k)))]) hx hb dX12_reduceAt_1 rfl hl (by decide) rfl (fun ls hl => ?_)
    refine lv_aload_n hx hb dX12_reduceAt_2 rfl (lv_at hl 1 rfl) ?_
    refine va_get (D := (dC, dI)) (ci := 12) (v := .ref (ad 1)) (C := RX12) (T := TX12) (N := 34) hx hb hts hin hown hK hP 0 rfl rfl 1 (by decide) (hts (.fieldLink RX12 13 "LikeWordsModel" "size" "[I") (by decide +kernel)) (fun _ h9 => h9) rfl dX12_reduceAt_3 ?_
    refine lv_iload_n hx hb dX12_reduceAt_6 rfl (lv_at hl 2 rfl) ?_
    refine wi_iald (f := (x).2 1) hx hb hK hP 1 0 rfl rfl (i := k) (by omega) (by omega) (by decide) dX12_reduceAt_7 ?_
    refine lv_iconst (v := iI (1 : Int)) hx hb dX12_reduceAt_8 (by decide) ?_
    refine wi_isub hx hb dX12_reduceAt_9 ?_
    refine lv_istore_n (lv' := [(3, .int (iI ((((x).2 1) (k).toNat) - ((1 : Int))))), (2, .int (iI ((0 : Int)))), (0, .ref (h)), (1, .int (iI (k)))]) hx hb dX12_reduceAt_10 rfl hl (by decide) rfl (fun ls hl => ?_)
    exact (L ((400 * fuR + 400))).1 (x) ((0 : Int)) ((((x).2 1) (k).toNat) - ((1 : Int))) (rdC_0 x _ _) (by omega) (by omega) (by omega) (by omega) hres _ _ ls hP hD hS (lv_sub hl [2, 3, 1, 0] rfl)
  exact key _ _ hP hS
theorem F_m_reduceAt_sfr : ∀ n : Nat, (∀ (y : MS) (v0 : Int) (v1 : Int) (v2 : Int) (v3 : Int) (v4 : Int), same [] [1, 2, 26] y (F_m_reduceAt_s n 0 y v0 v1 v2 v3 v4).2) ∧ (∀ (y : MS) (v0 : Int) (v1 : Int) (v2 : Int) (v3 : Int) (v4 : Int), same [] [1, 2, 26] y (F_m_reduceAt_s n 1 y v0 v1 v2 v3 v4).2) ∧ (∀ (y : MS) (v0 : Int) (v1 : Int) (v2 : Int) (v3 : Int) (v4 : Int), same [] [1, 2, 26] y (F_m_reduceAt_s n 2 y v0 v1 v2 v3 v4).2) := by
  intro n
  induction n with
  | zero => exact ⟨fun y _ _ _ _ _ => sm_rf _ _ _, fun y _ _ _ _ _ => sm_rf _ _ _, fun y _ _ _ _ _ => sm_rf _ _ _⟩
  | succ n ih =>
    refine ⟨?_, ?_, ?_⟩
    · intro y k t9 i9 q0 q1
      rw [F_m_reduceAt_e0]
      by_cases hc : (i9) < (0)
      · rw [if_pos hc]
        exact sm_tr ((sm_a (by decide) (sm_rf _ _ _))) (ih.2.1 (aU (y) 26 ((0 : Int)).toNat ((0 : Int))) (k) (t9) ((0 : Int)) (0) (0))
      · rw [if_neg hc]
        exact sm_tr ((sm_a (by decide) (sm_rf _ _ _))) (ih.1 (aU (y) 2 (((1408 : Int)) + (t9)).toNat (((y).2 2) ((((128 : Int)) * (k)) + (i9)).toNat)) (k) ((t9) + (1 : Int)) ((i9) + (-1 : Int)) (0) (0))
    · intro y k t9 d q0 q1
      rw [F_m_reduceAt_e1]
      by_cases hc : (t9) ≤ (0)
      · rw [if_pos hc]
        exact (sm_a (by decide) (sm_rf _ _ _))
      · rw [if_neg hc]
        by_cases hc : (((y).2 21) (((y).2 19) ((((4 : Int)) * (((y).2 26) (d).toNat)) + (((y).2 2) (((1408 : Int)) + ((t9) + (-1 : Int))).toNat)).toNat).toNat) = ((-9 : Int))
        · rw [if_pos hc]
          exact sm_tr ((sm_a (by decide) (sm_a (by decide) (sm_rf _ _ _)))) (ih.2.1 (aU (aU (y) 2 ((((128 : Int)) * (k)) + (d)).toNat (((y).2 2) (((1408 : Int)) + ((t9) + (-1 : Int))).toNat)) 26 ((d) + (1 : Int)).toNat (((y).2 19) ((((4 : Int)) * (((y).2 26) (d).toNat)) + (((y).2 2) (((1408 : Int)) + ((t9) + (-1 : Int))).toNat)).toNat)) (k) ((t9) + (-1 : Int)) ((d) + (1 : Int)) (0) (0))
        · rw [if_neg hc]
          exact sm_tr ((sm_a (by decide) (sm_a (by decide) (sm_rf _ _ _)))) (ih.2.2 (aU (aU (y) 2 ((((128 : Int)) * (k)) + (d)).toNat (((y).2 2) (((1408 : Int)) + ((t9) + (-1 : Int))).toNat)) 26 ((d) + (1 : Int)).toNat (((y).2 19) ((((4 : Int)) * (((y).2 26) (d).toNat)) + (((y).2 2) (((1408 : Int)) + ((t9) + (-1 : Int))).toNat)).toNat)) (k) ((t9) + (-1 : Int)) (((d) + (1 : Int)) - (((y).2 13) (((y).2 21) (((y).2 19) ((((4 : Int)) * (((y).2 26) (d).toNat)) + (((y).2 2) (((1408 : Int)) + ((t9) + (-1 : Int))).toNat)).toNat).toNat).toNat)) (((y).2 21) (((y).2 19) ((((4 : Int)) * (((y).2 26) (d).toNat)) + (((y).2 2) (((1408 : Int)) + ((t9) + (-1 : Int))).toNat)).toNat).toNat) ((((y).2 15) (((y).2 21) (((y).2 19) ((((4 : Int)) * (((y).2 26) (d).toNat)) + (((y).2 2) (((1408 : Int)) + ((t9) + (-1 : Int))).toNat)).toNat).toNat).toNat) - ((1 : Int))))
    · intro y k t9 d r6 i7
      rw [F_m_reduceAt_e2]
      by_cases hc : (i7) < (0)
      · rw [if_pos hc]
        exact sm_tr ((sm_rf _ _ _)) (ih.2.1 (y) (k) (t9) (d) (0) (0))
      · rw [if_neg hc]
        exact sm_tr ((sm_a (by decide) (sm_rf _ _ _))) (ih.2.2 (aU (y) 2 (((1408 : Int)) + (t9)).toNat (((y).2 16) ((((24 : Int)) * (r6)) + (i7)).toNat)) (k) ((t9) + (1 : Int)) (d) (r6) ((i7) + (-1 : Int)))
theorem F_m_reduceAt_fr (x : MS) (k : Int) : same [] [1, 2, 26] x (F_m_reduceAt (x) (k)).2 := by
  unfold F_m_reduceAt
  exact sm_tr ((sm_rf _ _ _)) ((F_m_reduceAt_sfr (400 * fuR + 400)).1 (x) (k) ((0 : Int)) ((((x).2 1) (k).toNat) - ((1 : Int))) (0) (0))
