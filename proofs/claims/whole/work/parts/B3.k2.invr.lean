-- deps: B3.k1
/-! inverse answers alike and keeps the relation -/
theorem take_s_r2 {w q : Nat} (ne : w ≠ q) : ∀ (n : Nat) (y : KS) (i : Int), 0 ≤ i → r03 (y.2 (w + 1)) → (∀ j : Nat, (j : Int) < y.1 w 1 → 0 ≤ y.2 (q + 1) j ∧ y.2 (q + 1) j ≤ 3) → r03 ((F_w_take_s w q n 0 y i).2.2 (w + 1)) := by
  intro n
  induction n with
  | zero => intro y i _ r _; exact r
  | succ n ih =>
    intro y i i0 r h
    rw [F_w_take_e0]
    by_cases c : y.1 w 1 ≤ i
    · rw [if_pos c]; exact r
    · rw [if_neg c]
      have v := h i.toNat (by omega)
      refine ih _ _ (by omega) ?_ (fun j hj => ?_)
      · rw [kA_s]; exact iU_all (P := fun z => 0 ≤ z ∧ z ≤ 3) v r
      · rw [kA_c (show q + 1 ≠ w + 1 by omega)]; exact h j hj
theorem take_H {x : KS} {w q : Nat} (n4 : nL x ≤ 4) (hw : kW w = true) (hq : kW q = true) (ne : w ≠ q) (g : wH x q) (r : r03 (x.2 (w + 1))) (hl : x.1 q 1 ≤ kL w) : wG (F_w_take x w q).2 w ∧ wL (F_w_take x w q).2 w (wS x q) := by
  have h : wL x q (wS x q) := wL_of g.1.1
  have l : (wS x q).length ≤ 60 := by rw [wS_len]; have := g.1; omega
  have t := F_w_take_x hw hq ne h (by have := h.1; omega)
  have R : r03 ((F_w_take x w q).2.2 (w + 1)) := by
    unfold F_w_take
    refine take_s_r2 ne _ _ _ (by decide) r (fun j hj => ?_)
    rw [kS_s] at hj
    exact wH_at n4 g j (by omega)
  exact ⟨wG_of t l R (by rw [nL_w hw (F_w_take_fr x w q)]; exact g.2), t⟩
theorem Rel_walk {Q Z : KS} {Y : MS} (h : Rel Q Y) (f : ksame [(82, 1)] [83, 81] Q Z) (wa : waR Z) : Rel Z Y := by
  obtain ⟨ki, mv, sw, wd, sn⟩ := id h
  have f2 := gm_of f
  have kj := ki.2.2.2.2.2.2.1
  refine Rel_gen h f2 (by unfold okS; decide) (by unfold okA; decide) ?_ (fun _ _ h9 => ?_) (fun _ ok => rOK_fr f (by unfold rSs sMs; decide) (by unfold rAs sMa; decide) ok) (KB_k f (by decide) (by decide) ki.2.1) (KD_g f2 (by decide) ki.2.2.2.1) (KH_g f2 (by decide) (by decide) ki.2.2.2.2.2.1) ⟨?_, wa, ?_, ?_, ?_⟩ (sm_rf [] [] Y) nil_a nil_a (fun q => q) (fun _ _ _ _ => rfl) (fun q => q) mv (wdE_g f2 (by decide) (by decide) wd)
  · exact jnR_of f (by decide) (by decide) ki.1.2.1
  · rw [f.2 57 (by decide)]; exact ⟨h9, fun _ _ _ => rfl⟩
  · unfold mdR; rw [f.1 84 2 (by decide), f.2 85 (by decide), f.2 86 (by decide)]; exact kj.1
  · unfold dz; rw [f.1 64 4 (by decide), f.1 64 5 (by decide)]; exact kj.2.2.1
  · rw [f.2 69 (by decide)]; exact kj.2.2.2.1
  · rw [f.1 64 9 (by decide)]; exact kj.2.2.2.2
theorem Rel_77 {Q Z : KS} {Y : MS} (h : Rel Q Y) {S : List (Nat × Nat)} {A : List Nat} (f : gfr [(77, 1), (70, 4), (70, 5), (64, 8)] [78, 71, 72] Q Z) (ok : Q.1 0 16 = 1 → rOK Q → rOK Z) (kb : KB Z) (r : r03 (Z.2 78)) : Rel Z Y := by
  obtain ⟨ki, mv, sw, wd, sn⟩ := id h
  have kd := ki.2.2.2.1
  refine Rel_gen h f (by unfold okS; decide) (by unfold okA; decide) ?_ (fun _ _ h9 => ?_) ok kb ⟨?_, ?_, r⟩ (KH_g f (by decide) (by decide) ki.2.2.2.2.2.1) (KJ_g f (by decide) (by decide) ki.2.2.2.2.2.2.1) (sm_rf [] [] Y) nil_a nil_a (fun q => q) (fun _ _ _ _ => rfl) (fun q => q) mv (wdE_g f (by decide) (by decide) wd)
  · unfold jnR
    rw [f.1 56 1 (by decide) (by decide), f.2 57 (by decide) (by decide)]
    exact ki.1.2.1
  · rw [f.2 57 (by decide) (by decide)]; exact ⟨h9, fun _ _ _ => rfl⟩
  · rw [f.2 74 (by decide) (by decide)]; exact kd.1
  · rw [f.2 76 (by decide) (by decide)]; exact kd.2.1
/-- what inverse comes to -/
def ivC3 (Y : MS) (v : List Int) (i : Int) : Prop := ∀ j : Nat, (j : Int) < i → ∃ w d, pth Y 0 w ∧ w.length ≤ 30 ∧ rkV Y w = (j : Int) ∧ v.length + w.length ≤ 60 ∧ nfP Y (v ++ w) d ∧ d ≠ []
def ivA (Y : MS) (i : Int) : Prop := i = 2000 ∨ rk1 Y 31 ≤ i
def ivW (Y : MS) (i : Int) (w : List Int) : Prop := i < 2000 ∧ pth Y 0 w ∧ w.length ≤ 30 ∧ rkV Y w = i
def ivT (Y : MS) (v : List Int) (i : Int) : Prop := ivA Y i ∨ ∃ w, ivW Y i w ∧ (60 < v.length + w.length ∨ nfP Y (v ++ w) [])
theorem iv_no {Y : MS} {i : Int} {w : List Int} (a : ivA Y i) (b : ivW Y i w) : False := by
  have := rk_top b.2.1 b.2.2.1
  have := b.1
  have := b.2.2.2
  rcases a with a | a <;> omega
theorem iv_lt {Y : MS} (cf : cfl Y) {v : List Int} {i k : Int} (t : ivT Y v i) (i0 : 0 ≤ i) (c : ivC3 Y v k) (k2 : k ≤ 2000) : ¬ i < k := fun h => by
  obtain ⟨w, d, w1, w2, w3, w4, w5, w6⟩ := c i.toNat (by omega)
  rw [show ((i.toNat : Nat) : Int) = i by omega] at w3
  rcases t with t | ⟨u, u1, u2⟩
  · exact iv_no t ⟨by omega, w1, w2, w3⟩
  · have e : u = w := rkV_one u1.2.1 w1 (by rw [u1.2.2.2, w3])
    rw [e] at u2
    rcases u2 with u2 | u2
    · omega
    · exact w6 (nf_one cf.1 (noL_irr w5.1) (noL_irr u2.1) w5.2 u2.2)
def ivS (Q : KS) (Y : MS) (v : List Int) : Prop := Rel Q Y ∧ wL Q 73 v ∧ wG Q 73 ∧ wkI Y Q
def ivR (Y : MS) (v : List Int) (k : Nat) (q : Int × KS) : Prop := ∃ i : Int, (0 ≤ i ∧ i ≤ 2000) ∧ ivC3 Y v i ∧ ((q.1 = -9 ∧ Rel q.2 Y ∧ ivA Y i) ∨ ∃ w, ivW Y i w ∧ ((q.1 = -4 ∧ Rel q.2 Y ∧ 60 < v.length + w.length) ∨ (v.length + w.length ≤ 60 ∧ nfP Y (v ++ w) [] ∧ ∃ Q, Rel Q Y ∧ wH Q 82 ∧ wS Q 82 = w ∧ q = ((F_w_take Q (7 + 2 * k) 82).2.1 82 1, (F_w_take Q (7 + 2 * k) 82).2))))
theorem inverse_s {Y : MS} (m1 : (F_m_isMachine Y).1 = 1) (l4 : 1 ≤ Y.1 0 ∧ Y.1 0 ≤ 4) {v : List Int} {a k : Int} : ∀ n : Nat,
    (∀ (Q : KS) (i : Int), ivS Q Y v → 0 ≤ i → i ≤ 2000 → (i = 0 → rkV Y (wS Q 82) = 0) → (0 < i → rkV Y (wS Q 82) = i - 1) → ivC3 Y v i → 2 * (2000 - i) + 5 < n → ivR Y v k.toNat (F_t_inverse_s n 0 Q a k i)) ∧
    (∀ (Q : KS) (i : Int), ivS Q Y v → 0 ≤ i → i < 2000 → rkV Y (wS Q 82) = i → ivC3 Y v i → 2 * (2000 - i) + 4 < n → ivR Y v k.toNat (F_t_inverse_s n 1 Q a k i)) := by
  intro n
  induction n with
  | zero => exact ⟨fun _ _ _ _ _ _ _ _ h => by exfalso; omega, fun _ _ _ _ _ _ _ h => by exfalso; omega⟩
  | succ n ih =>
    obtain ⟨i0, i1⟩ := ih
    refine ⟨fun Q i s h0 h2 e0 e1 c fu => ?_, fun Q i s h0 h2 e c fu => ?_⟩
    · rw [F_t_inverse_e0]
      by_cases c1 : (2000 : Int) ≤ i
      · rw [if_pos c1]
        exact ⟨i, ⟨h0, h2⟩, c, Or.inl ⟨rfl, s.1, Or.inl (by omega)⟩⟩
      · rw [if_neg c1]
        by_cases c2 : i ≤ 0
        · rw [if_pos c2]
          exact i1 Q i s h0 (by omega) (by rw [e0 (by omega)]; omega) c (by omega)
        · rw [if_neg c2]
          obtain ⟨s1, s2, s3, s4⟩ := s
          have mc := (mc_of s1 m1).1
          have e9 := e1 (by omega)
          have A := advance_x mc.2.2.1 s1.1.1.2.2.2 s4 (by omega)
          generalize F_v_advance Q = T at A
          obtain ⟨f, wa, A⟩ := A
          have R := Rel_walk s1 f wa
          rcases A with ⟨a1, a2, a3⟩ | ⟨a1, a2⟩
          · rw [if_neg (show ¬ T.1 = 0 by omega)]
            refine i1 T.2 i ⟨R, ⟨by rw [f.1 73 1 (by decide)]; exact s2.1, by rw [f.2 74 (by decide)]; exact s2.2⟩, wG_fr f (by decide) (by decide) (by decide) s3, a2⟩ h0 (by omega) (by omega) c (by omega)
          · rw [if_pos a1]
            exact ⟨i, ⟨h0, h2⟩, c, Or.inl ⟨rfl, R, Or.inr (by omega)⟩⟩
    · rw [F_t_inverse_e1]
      obtain ⟨s1, s2, s3, s4⟩ := s
      obtain ⟨mc, p1, p16⟩ := mc_of s1 m1
      have ki := s1.1
      have ok := ki.2.2.2.2.1.2.2.2 p16
      have nb := nL_b ki.1.1
      have wV := wk_V s4
      have wa := s4.1
      have eN : ((nL Q : Nat) : Int) = Y.1 0 := by rw [nL_i ki.1.1]; exact s1.2.2.1.1
      have H82 : wH Q 82 := ⟨by have := wa.1; omega, pth_ok eN _ _ wV.2⟩
      have l82 : (wS Q 82).length ≤ 30 := by rw [wS_len]; have := wa.1; omega
      have iw : ivW Y i (wS Q 82) := ⟨h2, wV.2, l82, e⟩
      -- the STRING at hand into the sum
      have T := take_G (x := Q) (w := 77) (q := 73) rfl rfl (by decide) s3 ki.2.2.2.1.2.2 (by show _ ≤ ((60 : Nat) : Int); exact s3.1.2)
      rw [wL_S s2] at T
      have ft := F_w_take_fr Q 77 73
      have okt := rOK_w (w := 77) rfl (by decide) ft ok
      have Rt : Rel (F_w_take Q 77 73).2 Y := Rel_77 (S := []) (A := []) s1 (gm_mono (by decide) (by decide) (gm_of ft)) (fun _ _ => okt) (KB_ok okt) T.1.2.1
      have Ht : wH (F_w_take Q 77 73).2 82 := wH_eq (ft.1 82 1 (by decide)) (ft.2 83 (by decide)) (ft.1 1 2 (by decide)) H82
      have St : wS (F_w_take Q 77 73).2 82 = wS Q 82 := wS_fr ft (by decide) (by decide)
      have wt73 : wL (F_w_take Q 77 73).2 73 v := ⟨by rw [ft.1 73 1 (by decide)]; exact s2.1, by rw [ft.2 74 (by decide)]; exact s2.2⟩
      have gt73 : wG (F_w_take Q 77 73).2 73 := wG_fr ft (by decide) (by decide) (by decide) s3
      have kt : wkI Y (F_w_take Q 77 73).2 := by
        unfold wkI waR
        rw [ft.1 82 1 (by decide), ft.2 83 (by decide), ft.2 81 (by decide)]
        exact s4
      generalize F_w_take Q 77 73 = B at *
      obtain ⟨X1, X2, _, X4, X5⟩ := putBehind_H okt T.1 (w1 := 82) rfl (by decide) Ht
      have fp := F_t_putBehind_fr B.2 82
      have R2 : Rel (F_t_putBehind B.2 82).2 Y := Rel_77 (S := []) (A := []) Rt fp (fun _ _ => X1) (KB_ok X1) X2.2.1
      have lb : B.2.1 77 1 = (v.length : Int) := T.2.1
      have lw : B.2.1 82 1 = ((wS Q 82).length : Int) := by rw [← St, wS_len]; have := Ht.1; omega
      by_cases c1 : 60 < v.length + (wS Q 82).length
      · have Z := X4 (by omega)
        rw [Z, if_pos rfl]
        exact ⟨i, ⟨h0, by omega⟩, c, Or.inr ⟨wS Q 82, iw, Or.inl ⟨rfl, Rt, c1⟩⟩⟩
      · obtain ⟨y1, V, y2, _, _, y5, y6⟩ := X5 (by omega)
        rw [wL_S T.2, St] at y5
        have mt := (mc_of Rt m1).1
        obtain ⟨g1, g2⟩ := mt.2.2.2.2.2.2.2
        have nV : nfP Y (v ++ wS Q 82) V := ⟨by rw [← g1]; exact noL_c (fun r hr => (g2 r hr).1) y6, by rw [← g1]; exact rch_c g2 y5⟩
        rw [if_neg (show ¬ (F_t_putBehind B.2 82).1 = 0 by omega)]
        have lV := y2.1
        have H2 : wH (F_t_putBehind B.2 82).2 82 := wH_eq (fp.1 82 1 (by decide) (by decide)) (fp.2 83 (by decide) (by decide)) (fp.1 1 2 (by decide) (by decide)) Ht
        have S2 : wS (F_t_putBehind B.2 82).2 82 = wS Q 82 := by
          rw [← St]
          unfold wS
          rw [fp.1 82 1 (by decide) (by decide), fp.2 83 (by decide) (by decide)]
        by_cases c2 : (F_t_putBehind B.2 82).2.1 77 1 = 0
        · rw [if_pos c2]
          have e2 : V = [] := List.length_eq_zero_iff.mp (by omega)
          rw [e2] at nV
          exact ⟨i, ⟨h0, by omega⟩, c, Or.inr ⟨wS Q 82, iw, Or.inr ⟨by omega, nV, (F_t_putBehind B.2 82).2, R2, H2, S2, rfl⟩⟩⟩
        · rw [if_neg c2]
          have ne : V ≠ [] := fun h9 => by rw [h9] at lV; exact c2 lV
          have k2 : wkI Y (F_t_putBehind B.2 82).2 := by
            unfold wkI waR
            rw [fp.1 82 1 (by decide) (by decide), fp.2 83 (by decide) (by decide), fp.2 81 (by decide) (by decide)]
            exact kt
          have := i0 (F_t_putBehind B.2 82).2 (i + 1) ⟨R2, ⟨by rw [fp.1 73 1 (by decide) (by decide)]; exact wt73.1, by rw [fp.2 74 (by decide) (by decide)]; exact wt73.2⟩, wG_g fp (by decide) (by decide) (by decide) (by decide) gt73, k2⟩ (by omega) (by omega) (fun h9 => by exfalso; omega) (fun _ => by rw [S2]; omega) (fun j hj => by
            by_cases ej : (j : Int) = i
            · exact ⟨wS Q 82, V, wV.2, l82, by rw [e, ej], by omega, nV, ne⟩
            · exact c j (by omega)) (by omega)
          exact this
