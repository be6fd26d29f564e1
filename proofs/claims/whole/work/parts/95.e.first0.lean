-- deps: 30 31 32 33 34 35 36 37 38 39 40 41 42 43 46 70 71 72 73 74 75 76 77 78 79 80 81 82 83 84 85 86 87 88 89 90 91 92 93 94 95.a 95.b 95.c 95.d
/-! replaceFirst, its equation and its row -/
def rf1 (z : KS) (v : Int) : KS := (F_t_moveDown (F_t_moveDown z 89 (z.1 88 1 - v) (z.1 87 12 + z.1 92 1) v).2 94 (z.1 88 1 - v + 1) (z.1 87 12 + z.1 92 1 + 1) v).2
def rfA (z : KS) (v : Int) : KS := (F_w_append (kS (rf1 z v) 88 1 ((rf1 z v).1 87 12)) 88 92).2
def rf2 (z : KS) (v : Int) : KS := kS (rfA z v) 88 1 ((rfA z v).1 88 1 + v)
def rf3 (z : KS) (v : Int) : Int × KS := F_a_read (rf2 z v) ((rfA z v).1 87 12) (z.1 87 12 + z.1 92 1)
def rf4 (z : KS) (v h t : Int) : Int × KS := F_g_open (rf3 z v).2 h t
def rfW (o : Int) : Int := if o = 0 then 0 else 1
theorem replaceFirst_e (z : KS) (v h t : Int) : F_g_replaceFirst z v h t = if 0 ≤ (rf3 z v).1 then (if z.1 87 12 + z.1 92 1 ≤ (rf3 z v).1 then (0, (F_g_await (F_w_drawFrom (rf4 z v h t).2 90 88 (z.1 87 12 + z.1 92 1)).2 0 (F_w_drawFrom (rf4 z v h t).2 90 88 (z.1 87 12 + z.1 92 1)).1 (rfW (rf4 z v h t).1)).2) else (0, (F_g_await (F_w_drawFrom (rf4 z v h t).2 90 88 ((rf4 z v h t).2.1 87 12)).2 0 (F_w_drawFrom (rf4 z v h t).2 90 88 ((rf4 z v h t).2.1 87 12)).1 1).2)) else (0, (rf3 z v).2) := by
  show (if (0) ≤ ((rf3 z v).1) then (if ((z.1 87 12 + z.1 92 1)) ≤ ((rf3 z v).1) then (if ((0 : Int)) = (0) then (if ((rf4 z v h t).1) = (0) then (if ((0 : Int)) = (0) then (0, (F_g_await ((F_w_drawFrom ((rf4 z v h t).2) (90) (88) ((z.1 87 12 + z.1 92 1))).2) ((0 : Int)) ((F_w_drawFrom ((rf4 z v h t).2) (90) (88) ((z.1 87 12 + z.1 92 1))).1) ((0 : Int))).2) else (0, (F_g_await ((F_w_drawFrom ((rf4 z v h t).2) (90) (88) ((z.1 87 12 + z.1 92 1))).2) ((0 : Int)) ((F_w_drawFrom ((rf4 z v h t).2) (90) (88) ((z.1 87 12 + z.1 92 1))).1) ((1 : Int))).2)) else (0, (F_g_await ((F_w_drawFrom ((rf4 z v h t).2) (90) (88) ((z.1 87 12 + z.1 92 1))).2) ((0 : Int)) ((F_w_drawFrom ((rf4 z v h t).2) (90) (88) ((z.1 87 12 + z.1 92 1))).1) ((1 : Int))).2)) else (if ((rf4 z v h t).1) = (0) then (if ((0 : Int)) = (0) then (0, (F_g_await ((F_w_drawFrom ((rf4 z v h t).2) (90) (88) (((rf4 z v h t).2).1 (87) 12)).2) ((0 : Int)) ((F_w_drawFrom ((rf4 z v h t).2) (90) (88) (((rf4 z v h t).2).1 (87) 12)).1) ((0 : Int))).2) else (0, (F_g_await ((F_w_drawFrom ((rf4 z v h t).2) (90) (88) (((rf4 z v h t).2).1 (87) 12)).2) ((0 : Int)) ((F_w_drawFrom ((rf4 z v h t).2) (90) (88) (((rf4 z v h t).2).1 (87) 12)).1) ((1 : Int))).2)) else (0, (F_g_await ((F_w_drawFrom ((rf4 z v h t).2) (90) (88) (((rf4 z v h t).2).1 (87) 12)).2) ((0 : Int)) ((F_w_drawFrom ((rf4 z v h t).2) (90) (88) (((rf4 z v h t).2).1 (87) 12)).1) ((1 : Int))).2))) else (if ((1 : Int)) = (0) then (if ((rf4 z v h t).1) = (0) then (if ((1 : Int)) = (0) then (0, (F_g_await ((F_w_drawFrom ((rf4 z v h t).2) (90) (88) ((z.1 87 12 + z.1 92 1))).2) ((0 : Int)) ((F_w_drawFrom ((rf4 z v h t).2) (90) (88) ((z.1 87 12 + z.1 92 1))).1) ((0 : Int))).2) else (0, (F_g_await ((F_w_drawFrom ((rf4 z v h t).2) (90) (88) ((z.1 87 12 + z.1 92 1))).2) ((0 : Int)) ((F_w_drawFrom ((rf4 z v h t).2) (90) (88) ((z.1 87 12 + z.1 92 1))).1) ((1 : Int))).2)) else (0, (F_g_await ((F_w_drawFrom ((rf4 z v h t).2) (90) (88) ((z.1 87 12 + z.1 92 1))).2) ((0 : Int)) ((F_w_drawFrom ((rf4 z v h t).2) (90) (88) ((z.1 87 12 + z.1 92 1))).1) ((1 : Int))).2)) else (if ((rf4 z v h t).1) = (0) then (if ((1 : Int)) = (0) then (0, (F_g_await ((F_w_drawFrom ((rf4 z v h t).2) (90) (88) (((rf4 z v h t).2).1 (87) 12)).2) ((0 : Int)) ((F_w_drawFrom ((rf4 z v h t).2) (90) (88) (((rf4 z v h t).2).1 (87) 12)).1) ((0 : Int))).2) else (0, (F_g_await ((F_w_drawFrom ((rf4 z v h t).2) (90) (88) (((rf4 z v h t).2).1 (87) 12)).2) ((0 : Int)) ((F_w_drawFrom ((rf4 z v h t).2) (90) (88) (((rf4 z v h t).2).1 (87) 12)).1) ((1 : Int))).2)) else (0, (F_g_await ((F_w_drawFrom ((rf4 z v h t).2) (90) (88) (((rf4 z v h t).2).1 (87) 12)).2) ((0 : Int)) ((F_w_drawFrom ((rf4 z v h t).2) (90) (88) (((rf4 z v h t).2).1 (87) 12)).1) ((1 : Int))).2)))) else (0, (rf3 z v).2)) = _
  by_cases c1 : 0 ≤ (rf3 z v).1
  · rw [if_pos c1, if_pos c1]
    by_cases c2 : z.1 87 12 + z.1 92 1 ≤ (rf3 z v).1
    · rw [if_pos c2, if_pos c2, if_pos rfl]
      unfold rfW
      by_cases c3 : (rf4 z v h t).1 = 0
      · rw [if_pos c3, if_pos c3, if_pos rfl]
      · rw [if_neg c3, if_neg c3]
    · rw [if_neg c2, if_neg c2, if_neg (by decide)]
      by_cases c3 : (rf4 z v h t).1 = 0
      · rw [if_pos c3, if_neg (by decide)]
      · rw [if_neg c3]
  · rw [if_neg c1, if_neg c1]
theorem tk_add (f : Nat → Int) (a b : Nat) : tk f (a + b) = tk f a ++ tk (fun j => f (a + j)) b := by
  induction b with
  | zero => rw [Nat.add_zero]; exact (List.append_nil _).symm
  | succ b ih => rw [← Nat.add_assoc, tk_s, ih, tk_s, List.append_assoc]
theorem F_w_append_s_hi {w q : Nat} (ne : w ≠ q) : ∀ (n : Nat) (y : KS) (i : Int) (p : Nat), 0 ≤ y.1 w 1 → y.1 w 1 + y.1 q 1 - i ≤ (p : Int) → (F_w_append_s w q n 0 y i).2.2 (w + 1) p = y.2 (w + 1) p := by
  intro n
  induction n with
  | zero => intro y i p _ _; rfl
  | succ n ih =>
    intro y i p h0 h
    rw [F_w_append_e0]
    by_cases c : y.1 q 1 ≤ i
    · rw [if_pos c]
    · rw [if_neg c, ih _ _ p (by rw [kA_1, kS_s]; omega) (by rw [kA_1, kS_s, kS_c (Ne.symm ne)]; omega), kA_s, kS_2, iU_n (by omega)]
theorem F_w_append_hi {y : KS} {w q : Nat} {p : Nat} (ne : w ≠ q) (h0 : 0 ≤ y.1 w 1) (h : y.1 w 1 + y.1 q 1 ≤ (p : Int)) : (F_w_append y w q).2.2 (w + 1) p = y.2 (w + 1) p := by
  unfold F_w_append
  split
  · exact F_w_append_s_hi ne _ _ _ p h0 (by omega)
  · rfl
/-- the row and the places, when the beginning of the part is replaced -/
theorem rf2_x {x z : KS} {src Ah X Y V B : List Int} (g : grL x z src Ah (X ++ Y) B) (wV : wL z 92 V) (hV : V.length ≤ X.length) : wL (rf2 z (Y.length : Int)) 88 (Ah ++ (V ++ Y)) ∧ ksame [(88, 1)] [89, 94] z (rf2 z (Y.length : Int)) ∧ (∀ p, p ≤ Ah.length + V.length → (rf2 z (Y.length : Int)).2 94 p = z.2 94 p) ∧ (∀ i, i < Y.length → (rf2 z (Y.length : Int)).2 94 (Ah.length + V.length + (i + 1)) = z.2 94 (Ah.length + X.length + (i + 1))) ∧ (rfA z (Y.length : Int)).1 87 12 = (Ah.length : Int) ∧ z.1 87 12 + z.1 92 1 = ((Ah.length + V.length : Nat) : Int) ∧ grW (rf2 z (Y.length : Int)) := by
  obtain ⟨sm, w88, w90, fr, ok1, ok2, h60, lv, st, low, ki, gw⟩ := g
  have hl : (Ah ++ (X ++ Y)).length = Ah.length + (X.length + Y.length) := by rw [List.length_append, List.length_append]
  have hl2 : (X ++ Y).length = X.length + Y.length := List.length_append
  rw [hl2] at h60
  have e1 : z.1 88 1 - (Y.length : Int) = ((Ah.length + X.length : Nat) : Int) := by rw [w88.1, hl]; push_cast; omega
  have e2 : z.1 87 12 + z.1 92 1 = ((Ah.length + V.length : Nat) : Int) := by rw [fr, wV.1]; push_cast; rfl
  have e3 : ((Ah.length + X.length : Nat) : Int) + 1 = ((Ah.length + X.length + 1 : Nat) : Int) := by push_cast; rfl
  have e4 : ((Ah.length + V.length : Nat) : Int) + 1 = ((Ah.length + V.length + 1 : Nat) : Int) := by push_cast; rfl
  have m1 := F_t_moveDown_x (y := z) (a := 89) (f := Ah.length + X.length) (t := Ah.length + V.length) (c := Y.length) (by omega) (by show _ ≤ 60; omega) (by omega)
  have fm1 := F_t_moveDown_fr z 89 ((Ah.length + X.length : Nat) : Int) ((Ah.length + V.length : Nat) : Int) (Y.length : Int)
  have r1 : r03 ((F_t_moveDown z 89 ((Ah.length + X.length : Nat) : Int) ((Ah.length + V.length : Nat) : Int) (Y.length : Int)).2.2 89) := F_t_moveDown_r (P := fun z => 0 ≤ z ∧ z ≤ 3) gw.1
  have eR : rf1 z (Y.length : Int) = (F_t_moveDown (F_t_moveDown z 89 ((Ah.length + X.length : Nat) : Int) ((Ah.length + V.length : Nat) : Int) (Y.length : Int)).2 94 ((Ah.length + X.length + 1 : Nat) : Int) ((Ah.length + V.length + 1 : Nat) : Int) (Y.length : Int)).2 := by
    unfold rf1
    rw [e1, e2, e3, e4]
  generalize (F_t_moveDown z 89 ((Ah.length + X.length : Nat) : Int) ((Ah.length + V.length : Nat) : Int) (Y.length : Int)).2 = z1 at m1 fm1 r1 eR
  have m2 := F_t_moveDown_x (y := z1) (a := 94) (f := Ah.length + X.length + 1) (t := Ah.length + V.length + 1) (c := Y.length) (by omega) (by show _ ≤ 61; omega) (by omega)
  have fm2 := F_t_moveDown_fr z1 94 ((Ah.length + X.length + 1 : Nat) : Int) ((Ah.length + V.length + 1 : Nat) : Int) (Y.length : Int)
  have r2 : ∀ j : Nat, -1000 ≤ (F_t_moveDown z1 94 ((Ah.length + X.length + 1 : Nat) : Int) ((Ah.length + V.length + 1 : Nat) : Int) (Y.length : Int)).2.2 94 j ∧ (F_t_moveDown z1 94 ((Ah.length + X.length + 1 : Nat) : Int) ((Ah.length + V.length + 1 : Nat) : Int) (Y.length : Int)).2.2 94 j < 320 := F_t_moveDown_r (P := fun z => -1000 ≤ z ∧ z < 320) (by rw [fm1.2 94 (by decide)]; exact gw.2.2.2.1)
  rw [← eR] at m2 fm2 r2
  have f12 : ksame [] [89, 94] z (rf1 z (Y.length : Int)) := km_tr (km_mono (by decide) (by decide) fm1) (km_mono (by decide) (by decide) fm2)
  have r89 : r03 ((rf1 z (Y.length : Int)).2 89) := by rw [fm2.2 89 (by decide)]; exact r1
  have e12 : (rf1 z (Y.length : Int)).1 87 12 = (Ah.length : Int) := by rw [f12.1 87 12 (by decide), fr]
  have lowr : ∀ p, p < Ah.length + V.length → (rf1 z (Y.length : Int)).2 89 p = z.2 89 p := fun p hp => by rw [fm2.2 89 (by decide)]; exact m1.2 p hp
  have hir : ∀ i, i < Y.length → (rf1 z (Y.length : Int)).2 89 (Ah.length + V.length + i) = z.2 89 (Ah.length + X.length + i) := fun i hi => by rw [fm2.2 89 (by decide)]; exact m1.1 i hi
  -- the row
  have wAh : wL (kS (rf1 z (Y.length : Int)) 88 1 ((rf1 z (Y.length : Int)).1 87 12)) 88 Ah := by
    refine ⟨by rw [kS_s, e12], ?_⟩
    rw [kS_2]
    have h2 := congrArg (List.take Ah.length) w88.2
    rw [tk_take _ (by rw [hl]; omega), List.take_left] at h2
    rw [← h2, h2]
    rw [tk_cg (fun j hj => lowr j (by omega))]
    exact h2
  have fA0 : ksame [(88, 1)] [] (rf1 z (Y.length : Int)) (kS (rf1 z (Y.length : Int)) 88 1 ((rf1 z (Y.length : Int)).1 87 12)) := km_s (by decide) (km_rf _ _ _)
  have wV1 : wL (kS (rf1 z (Y.length : Int)) 88 1 ((rf1 z (Y.length : Int)).1 87 12)) 92 V := wL_fr fA0 (by decide) (by decide) (wL_fr f12 (by decide) (by decide) wV)
  have ap := F_w_append_x (w := 88) (q := 92) rfl rfl (by decide) wAh wV1 (by show _ ≤ 60; omega)
  have fA : ksame [(88, 1)] [89] (rf1 z (Y.length : Int)) (rfA z (Y.length : Int)) := km_tr (km_mono (by decide) (by decide) fA0) (F_w_append_fr _ _ _)
  have wA : wL (rfA z (Y.length : Int)) 88 (Ah ++ V) := ap.2
  have hiA : ∀ p, Ah.length + V.length ≤ p → (rfA z (Y.length : Int)).2 89 p = (rf1 z (Y.length : Int)).2 89 p := fun p hp => F_w_append_hi (w := 88) (q := 92) (by decide) (by rw [wAh.1]; omega) (by rw [wAh.1, wV1.1]; omega)
  have f2 : ksame [(88, 1)] [89, 94] z (rf2 z (Y.length : Int)) := km_s (by decide) (km_tr (km_mono (by decide) (by decide) f12) (km_mono (by decide) (by decide) fA))
  have e94 : (rf2 z (Y.length : Int)).2 94 = (rf1 z (Y.length : Int)).2 94 := by
    show (rfA z (Y.length : Int)).2 94 = _
    rw [fA.2 94 (by decide)]
  refine ⟨⟨?_, ?_⟩, f2, fun p hp => ?_, fun i hi => ?_, by rw [fA.1 87 12 (by decide), e12], e2, ?_⟩
  · unfold rf2
    rw [kS_s, wA.1]
    simp only [List.length_append]
    push_cast
    omega
  · have eY : tk (fun j => (rfA z (Y.length : Int)).2 89 (Ah.length + V.length + j)) Y.length = Y := by
      have h2 := w88.2
      rw [hl, show Ah.length + (X.length + Y.length) = (Ah.length + X.length) + Y.length by omega, tk_add, ← List.append_assoc] at h2
      have h3 := (List.append_inj h2 (by rw [tk_len, List.length_append])).2
      rw [← h3, tk_len]
      have h4 : tk (fun j => (rfA z (Y.length : Int)).2 89 (Ah.length + V.length + j)) Y.length = tk (fun j => z.2 89 (Ah.length + X.length + j)) Y.length := tk_cg fun j hj => by rw [hiA _ (by omega), hir j hj]
      exact h4
    show tk ((rfA z (Y.length : Int)).2 89) _ = _
    rw [← List.append_assoc, List.length_append (as := Ah ++ V), tk_add, wA.2]
    rw [List.length_append (as := Ah), eY]
  · rw [e94, m2.2 p (by omega), fm1.2 94 (by decide)]
  · rw [e94, show Ah.length + V.length + (i + 1) = Ah.length + V.length + 1 + i by omega, m2.1 i hi, fm1.2 94 (by decide), show Ah.length + X.length + 1 + i = Ah.length + X.length + (i + 1) by omega]
  · have r93 : r03 ((kS (rf1 z (Y.length : Int)) 88 1 ((rf1 z (Y.length : Int)).1 87 12)).2 93) := by rw [kS_2, f12.2 93 (by decide)]; exact gw.2.2.1
    have ra : r03 ((rfA z (Y.length : Int)).2 89) := F_w_append_r (w := 88) (q := 92) (by decide) r89 r93
    unfold grW
    rw [e94, f2.2 91 (by decide), f2.2 93 (by decide), f2.2 95 (by decide), f2.2 96 (by decide), f2.2 97 (by decide), f2.2 98 (by decide), f2.2 99 (by decide), f2.2 100 (by decide)]
    exact ⟨ra, gw.2.1, gw.2.2.1, r2, gw.2.2.2.2⟩
