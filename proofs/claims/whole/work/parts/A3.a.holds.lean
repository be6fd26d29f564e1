-- deps: A2.e
/-! the class: holds answers 1 exactly where all ways end alike and the LAWS hold -/
theorem jn_nf {L R : Nat → List Int} {n : Nat} (hr : ∀ r, r < n → ahd (R r) (L r)) (hc : ∀ u a b, rch L R n u a → rch L R n u b → jnb L R n a b) {A B U V : List Int} (a : rch L R n A U) (nU : noL L n U) (b : rch L R n B V) (nV : noL L n V) (j : jnb L R n A B) : U = V := by
  obtain ⟨W, w1, w2⟩ := j
  obtain ⟨N, n1, n2⟩ := nf_is hr (knm W + 1) W (Nat.lt_succ_self _)
  have e1 := nf_one hc (noL_irr nU) n2 a (rch_tr w1 n1)
  have e2 := nf_one hc (noL_irr nV) n2 b (rch_tr w2 n1)
  rw [e1, e2]
def cfK (x : KS) : Prop := ∀ u a b, rch (lS x) (rS x) (nR x) u a → rch (lS x) (rS x) (nR x) u b → jnb (lS x) (rS x) (nR x) a b
def cK (x : KS) (n0 : Int) : Prop := cfK x ∧ ∀ l : Nat, (l : Int) < n0 → jnb (lS x) (rS x) (nR x) (lwA1 x l) (lwB1 x l)
def laK (x : KS) (r q v : Nat) : Prop := (lS x r).drop ((lS x r).length - v) = (lS x q).take v → jnb (lS x) (rS x) (nR x) (rS x r ++ (lS x q).drop v) ((lS x r).take ((lS x r).length - v) ++ rS x q)
def wiK (x : KS) (r q v : Nat) : Prop := ((lS x r).take (v + (lS x q).length)).drop v = lS x q → jnb (lS x) (rS x) (nR x) (rS x r) ((lS x r).take v ++ rS x q ++ (lS x r).drop (v + (lS x q).length))
def LAK (x : KS) (r q : Nat) : Prop := ∀ v, 1 ≤ v → v < (lS x r).length → v < (lS x q).length → laK x r q v
def WIK (x : KS) (r q : Nat) : Prop := r ≠ q → ∀ v, v + (lS x q).length ≤ (lS x r).length → wiK x r q v
theorem laK_c {x : KS} {r q v : Nat} (hr : r < nR x) (hq : q < nR x) (h : cfK x) : laK x r q v := by
  intro e
  refine h ((lS x r).take ((lS x r).length - v) ++ (lS x q)) _ _ (rch_1 ⟨[], (lS x q).drop v, r, hr, ?_, rfl⟩) (rch_1 ⟨(lS x r).take ((lS x r).length - v), [], q, hq, by rw [List.append_nil], by rw [List.append_nil]⟩)
  have h1 : lS x q = (lS x r).drop ((lS x r).length - v) ++ (lS x q).drop v := by rw [e, List.take_append_drop]
  rw [List.nil_append]
  conv => lhs; rw [h1]
  rw [← List.append_assoc, List.take_append_drop]
theorem wiK_c {x : KS} {r q v : Nat} (hr : r < nR x) (hq : q < nR x) (h : cfK x) (hv : v + (lS x q).length ≤ (lS x r).length) : wiK x r q v := by
  intro e
  refine h (lS x r) _ _ (rch_1 ⟨[], [], r, hr, by rw [List.append_nil, List.nil_append], by rw [List.append_nil, List.nil_append]⟩) (rch_1 ⟨(lS x r).take v, (lS x r).drop (v + (lS x q).length), q, hq, ?_, by rw [List.append_assoc]⟩)
  rw [← e]
  conv => lhs; rw [← List.take_append_drop (v + (lS x q).length) (lS x r), ← List.take_append_drop v ((lS x r).take (v + (lS x q).length))]
  rw [List.append_assoc, List.take_take, show min v (v + (lS x q).length) = v by omega, e]
theorem cK_of {x : KS} (m : mcX x) {n0 : Int} (hl : ∀ l : Nat, (l : Int) < n0 → jnb (lS x) (rS x) (nR x) (lwA1 x l) (lwB1 x l)) (h1 : ∀ r q, r < nR x → q < nR x → LAK x r q ∧ WIK x r q) : cK x n0 := by
  refine ⟨?_, hl⟩
  have hd : ∀ u v, st1 (lS x) (rS x) (nR x) u v → knm v < knm u := st1_dec (fun r hr => (mc_ahd m hr).1)
  have loc := lcl2 (L := lS x) (R := rS x) (n := nR x) ?_ ?_
  · exact fun u a b ha hb => newman knm hd loc (knm u + 1) u a b (Nat.lt_succ_self _) ha hb
  · intro r q hr hq c d e hc hdd he k1 k2
    have n1 := congrArg List.length k1
    have n2 := congrArg List.length k2
    rw [List.length_append] at n1 n2
    have z : ∀ {u : List Int}, u ≠ [] → 1 ≤ u.length := fun {u} hu => List.length_pos_iff.mpr hu
    have zc := z hc
    have zd := z hdd
    have ze := z he
    have g := (h1 r q hr hq).1 d.length zd (by omega) (by omega)
    unfold laK at g
    rw [show (lS x r).length - d.length = c.length by omega] at g
    have e1 : (lS x r).drop c.length = d := by rw [k1, List.drop_left]
    have e2 : (lS x r).take c.length = c := by rw [k1, List.take_left]
    have e3 : (lS x q).take d.length = d := by rw [k2, List.take_left]
    have e4 : (lS x q).drop d.length = e := by rw [k2, List.drop_left]
    rw [e1, e2, e3, e4] at g
    exact g rfl
  · intro r q hr hq hne c e k1
    have n1 := congrArg List.length k1
    rw [List.length_append, List.length_append] at n1
    have g := (h1 r q hr hq).2 hne c.length (by omega)
    unfold wiK at g
    have e1 : (lS x r).take (c.length + (lS x q).length) = c ++ lS x q := by
      rw [k1, ← List.append_assoc, ← List.length_append, List.take_left]
    have e2 : (lS x r).drop (c.length + (lS x q).length) = e := by
      rw [k1, ← List.append_assoc, ← List.length_append, List.drop_left]
    have e3 : (lS x r).take c.length = c := by rw [k1, List.take_left]
    rw [e1, e2, e3, List.drop_left, List.append_assoc] at g
    exact g rfl
/-- agree, from a state of holds -/
theorem agK {x y : KS} (h : hI x y) (g3 : wG y 73) (g5 : wG y 75) {n0 : Int} : hI x (F_p_agree y).2 ∧ (¬ (F_p_agree y).1 = 0 → jnb (lS x) (rS x) (nR x) (wS y 73) (wS y 75)) ∧ ((F_p_agree y).1 = 0 → (cK x n0 → jnb (lS x) (rS x) (nR x) (wS y 73) (wS y 75)) → ¬ cK x n0) := by
  have H := hI_agree h g3 g5
  have sm := hI_M h
  obtain ⟨_, _, _, U, V, u1, u2, v1, v2, e⟩ := agree_x h.1 g3 g5
  rw [sM_lS sm, sM_rS sm, sM_nR sm] at u1 v1
  rw [sM_lS sm, sM_nR sm] at u2 v2
  have m := h.1.1
  have hr : ∀ r, r < nR x → ahd (rS x r) (lS x r) := fun r hr => by
    have := (mc_ahd m (r := r) (by rw [sM_nR sm]; exact hr)).1
    rw [sM_lS sm, sM_rS sm] at this
    exact this
  refine ⟨H.1, fun h9 => ?_, fun h9 hj ck => ?_⟩
  · by_cases c : U = V
    · exact ⟨U, u1, by rw [c]; exact v1⟩
    · rw [e, if_neg c] at h9; exact absurd rfl h9
  · have c : U = V := jn_nf hr ck.1 u1 u2 v1 v2 (hj ck)
    rw [e, if_pos c] at h9
    exact absurd h9 (by decide)
def hoQ (x : KS) (n0 : Int) (q : Int × KS) : Prop := hI x q.2 ∧ ((q.1 = 1 ∧ cK x n0) ∨ (q.1 = 0 ∧ ¬ cK x n0))
theorem holds_s {x : KS} (mx : mcX x) {n0 : Int} (n1 : 0 ≤ n0) (n8 : n0 ≤ 8) (lw : ∀ j : Nat, (j : Int) < 2 * n0 → wG x (24 + 2 * j) ∧ x.1 (24 + 2 * j) 1 ≤ 12) : ∀ n : Nat,
    (∀ (y : KS) (i : Nat), hI x y → i ≤ 8 → (∀ l : Nat, l < i → jnb (lS x) (rS x) (nR x) (lwA1 x l) (lwB1 x l)) → 90000 + (8 - (i : Int)) < n → hoQ x n0 (F_p_holds_s n 0 y n0 (i : Int) 0 0 0 0)) ∧
    (∀ (y : KS) (d : Nat), hI x y → d ≤ 40 → (∀ l : Nat, (l : Int) < n0 → jnb (lS x) (rS x) (nR x) (lwA1 x l) (lwB1 x l)) → (∀ r q, r < d → q < nR x → LAK x r q ∧ WIK x r q) → (40 - (d : Int)) * 2100 + 2050 < n → hoQ x n0 (F_p_holds_s n 1 y n0 (d : Int) 0 0 0 0)) ∧
    (∀ (y : KS) (d k : Nat), hI x y → d < nR x → k ≤ 40 → (∀ l : Nat, (l : Int) < n0 → jnb (lS x) (rS x) (nR x) (lwA1 x l) (lwB1 x l)) → (∀ r q, r < d → q < nR x → LAK x r q ∧ WIK x r q) → (∀ q, q < k → LAK x d q ∧ WIK x d q) → (40 - (d : Int)) * 2100 + (40 - (k : Int)) * 50 + 45 < n → hoQ x n0 (F_p_holds_s n 2 y n0 (d : Int) ((lS x d).length : Int) (k : Int) 0 0)) ∧
    (∀ (y : KS) (d k v : Nat), hI x y → d < nR x → k < nR x → 1 ≤ v → v ≤ 20 → (∀ l : Nat, (l : Int) < n0 → jnb (lS x) (rS x) (nR x) (lwA1 x l) (lwB1 x l)) → (∀ r q, r < d → q < nR x → LAK x r q ∧ WIK x r q) → (∀ q, q < k → LAK x d q ∧ WIK x d q) → (∀ v', 1 ≤ v' → v' < v → v' < (lS x d).length → v' < (lS x k).length → laK x d k v') → (40 - (d : Int)) * 2100 + (40 - (k : Int)) * 50 + 42 - (v : Int) < n → hoQ x n0 (F_p_holds_s n 3 y n0 (d : Int) ((lS x d).length : Int) (k : Int) ((lS x k).length : Int) (v : Int))) ∧
    (∀ (y : KS) (d k v : Nat), hI x y → d < nR x → k < nR x → v ≤ 21 → (∀ l : Nat, (l : Int) < n0 → jnb (lS x) (rS x) (nR x) (lwA1 x l) (lwB1 x l)) → (∀ r q, r < d → q < nR x → LAK x r q ∧ WIK x r q) → (∀ q, q < k → LAK x d q ∧ WIK x d q) → LAK x d k → (∀ v', v' < v → v' + (lS x k).length ≤ (lS x d).length → d ≠ k → wiK x d k v') → (40 - (d : Int)) * 2100 + (40 - (k : Int)) * 50 + 21 - (v : Int) < n → hoQ x n0 (F_p_holds_s n 4 y n0 (d : Int) ((lS x d).length : Int) (k : Int) ((lS x k).length : Int) (v : Int))) := by
  have l20 : ∀ r, r < nR x → (lS x r).length ≤ 20 := fun r hr => (mc_code mx hr).2.2.2.2.1
  have l1 : ∀ r, r < nR x → 1 ≤ (lS x r).length := fun r hr => List.length_pos_iff.mpr (mc_left0 mx r hr)
  have r40 : nR x ≤ 40 := by have := mx.2.1.1; unfold nR; omega
  intro n
  induction n with
  | zero =>
    refine ⟨fun y i _ _ _ h => ?_, fun y d _ _ _ _ h => ?_, fun y d k _ _ _ _ _ _ h => ?_, fun y d k v _ _ _ _ _ _ _ _ _ h => ?_, fun y d k v _ _ _ _ _ _ _ _ _ h => ?_⟩
    all_goals (exfalso; omega)
  | succ n ih =>
    obtain ⟨i0, i1, i2, i3, i4⟩ := ih
    refine ⟨fun y i h hi hl fu => ?_, fun y d h hd hl P2 fu => ?_, fun y d k h hd hk hl P2 P3 fu => ?_, fun y d k v h hd hk v1 v2 hl P2 P3 P4 fu => ?_, fun y d k v h hd hk v2 hl P2 P3 P4 P5 fu => ?_⟩
    · rw [F_p_holds_e0]
      by_cases c1 : n0 ≤ (i : Int)
      · rw [if_pos c1]
        exact i1 y 0 h (by omega) (fun l hl9 => hl l (by omega)) (fun r q hr => by omega) (by omega)
      · rw [if_neg c1, if_neg (by omega)]
        have a1 : 24 + 2 * ((2 : Int) * (i : Int)).toNat = 24 + 2 * (2 * i) := by omega
        have a2 : 24 + 2 * ((2 : Int) * (i : Int) + (1 : Int)).toNat = 24 + 2 * (2 * i + 1) := by omega
        rw [a1, a2]
        have la := hI_lw h n8 lw (j := 2 * i) (by omega)
        have lb := hI_lw h n8 lw (j := 2 * i + 1) (by omega)
        have k1 : kW (24 + 2 * (2 * i)) = true := by have h9 := kW_law (i := (2 : Int) * (i : Int)) (by omega) (by omega); rw [a1] at h9; exact h9
        have k2 : kW (24 + 2 * (2 * i + 1)) = true := by have h9 := kW_law (i := (2 : Int) * (i : Int) + (1 : Int)) (by omega) (by omega); rw [a2] at h9; exact h9
        have t1 := hI_take3 h (c := 24 + 2 * (2 * i)) k1 (by omega) la.1
        have f1 := F_w_take_fr y 73 (24 + 2 * (2 * i))
        have lb2 : wG (F_w_take y 73 (24 + 2 * (2 * i))).2 (24 + 2 * (2 * i + 1)) := wG_fr f1 (by intro h9; simp at h9; omega) (by intro h9; simp at h9; omega) (by intro h9; simp at h9) lb.1
        have sb2 : wS (F_w_take y 73 (24 + 2 * (2 * i))).2 (24 + 2 * (2 * i + 1)) = wS y (24 + 2 * (2 * i + 1)) := by
          unfold wS
          rw [f1.1 (24 + 2 * (2 * i + 1)) 1 (by intro h9; simp at h9; omega), f1.2 (24 + 2 * (2 * i + 1) + 1) (by intro h9; simp at h9; omega)]
        have t2 := hI_take5 t1.1 (c := 24 + 2 * (2 * i + 1)) k2 (by omega) lb2
        have A := agK t2.1 (t2.2.2.2.1 t1.2.1) t2.2.1 (n0 := n0)
        rw [wL_S t2.2.2.1, t2.2.2.2.2, wL_S t1.2.2, sb2, la.2.2.2, lb.2.2.2] at A
        generalize F_p_agree (F_w_take (F_w_take y 73 (24 + 2 * (2 * i))).2 75 (24 + 2 * (2 * i + 1))).2 = Q at A
        by_cases c3 : Q.1 = 0
        · rw [if_pos c3]
          exact ⟨A.1, Or.inr ⟨rfl, A.2.2 c3 (fun ck => ck.2 i (by omega))⟩⟩
        · rw [if_neg c3]
          have := i0 Q.2 (i + 1) A.1 (by omega) (fun l hl9 => by
            by_cases e : l = i
            · rw [e]; exact A.2.1 c3
            · exact hl l (by omega)) (by omega)
          exact this
    · rw [F_p_holds_e1]
      have eh : y.1 58 6 = x.1 58 6 := (hI_M h).2.1.1
      have nr : (nR x : Int) = x.1 58 6 := by have := mx.2.1.1; unfold nR; omega
      by_cases c1 : y.1 58 6 ≤ (d : Int)
      · rw [if_pos c1]
        exact ⟨h, Or.inl ⟨rfl, cK_of mx hl (fun r q hr hq => P2 r q (by omega) hq)⟩⟩
      · rw [if_neg c1]
        have hp := hI_span h (d := (d : Int)) (by omega) (by omega)
        rw [Int.toNat_natCast] at hp
        rw [hp.1]
        have := i2 y d 0 h (by omega) (by omega) hl P2 (fun q hq => by omega) (by omega)
        exact this
    · rw [F_p_holds_e2]
      have eh : y.1 58 6 = x.1 58 6 := (hI_M h).2.1.1
      have nr : (nR x : Int) = x.1 58 6 := by have := mx.2.1.1; unfold nR; omega
      by_cases c1 : y.1 58 6 ≤ (k : Int)
      · rw [if_pos c1]
        have := i1 y (d + 1) h (by omega) hl (fun r q hr hq => by
          by_cases e : r = d
          · rw [e]; exact P3 q (by omega)
          · exact P2 r q (by omega) hq) (by omega)
        exact this
      · rw [if_neg c1]
        have hp := hI_span h (d := (k : Int)) (by omega) (by omega)
        rw [Int.toNat_natCast] at hp
        rw [hp.1]
        have := i3 y d k 1 h hd (by omega) (by omega) (by omega) hl P2 P3 (fun v' h1 h2 => by omega) (by omega)
        exact this
    · rw [F_p_holds_e3]
      have g4 : LAK x d k → hoQ x n0 (F_p_holds_s n 4 y n0 (d : Int) ((lS x d).length : Int) (k : Int) ((lS x k).length : Int) ((0 : Int))) := fun P => by
        have := i4 y d k 0 h hd hk (by omega) hl P2 P3 P (fun v' h9 => by omega) (by have := l20 k hk; have := l1 k hk; omega)
        exact this
      by_cases c1 : ((lS x d).length : Int) ≤ (v : Int)
      · rw [if_pos c1]
        exact g4 (fun v' h1 h2 h3 => P4 v' h1 (by omega) h2 h3)
      · rw [if_neg c1]
        by_cases c2 : ((lS x k).length : Int) ≤ (v : Int)
        · rw [if_pos c2]
          exact g4 (fun v' h1 h2 h3 => P4 v' h1 (by omega) h2 h3)
        · rw [if_neg c2]
          have m := h.1.1
          have sm := hI_M h
          have hr : d < nR y := by rw [sM_nR sm]; exact hd
          have hq : k < nR y := by rw [sM_nR sm]; exact hk
          have X := F_p_meets_x m hr hq (v := v) (by rw [sM_lS sm]; omega) (by rw [sM_lS sm]; omega) h.2.2.1 h.2.2.2
          have eh : y.1 58 6 = x.1 58 6 := sm.2.1.1
          have nr : (nR x : Int) = x.1 58 6 := by have := mx.2.1.1; unfold nR; omega
          have hm := hI_meets h (d := (d : Int)) (k := (k : Int)) (v := (v : Int)) (by omega) (by omega) (by omega) (by omega) (by omega) (by rw [sM_lS sm, Int.toNat_natCast]; omega) (by rw [sM_lS sm, Int.toNat_natCast]; omega)
          rw [sM_lS sm, sM_rS sm] at X
          have go : ∀ z, hI x z → laK x d k v → hoQ x n0 (F_p_holds_s n 3 z n0 (d : Int) ((lS x d).length : Int) (k : Int) ((lS x k).length : Int) ((v : Int) + (1 : Int))) := fun z hz hv => by
            have := i3 z d k (v + 1) hz hd hk (by omega) (by have := l20 d hd; omega) hl P2 P3 (fun v' h1 h2 h3 h4 => by
              by_cases e : v' = v
              · rw [e]; exact hv
              · exact P4 v' h1 (by omega) h3 h4) (by omega)
            exact this
          rcases X with ⟨ne, e⟩ | ⟨eq, e1, t⟩
          · rw [e, if_pos rfl]
            exact go y h (fun e9 => absurd e9 ne)
          · rw [e1, if_neg (by decide)]
            have wg := hm.2.2 (by rw [e1]; decide)
            have A := agK hm.1 wg.1 wg.2 (n0 := n0)
            rw [wL_S t.2.1, wL_S t.2.2.1] at A
            generalize F_p_agree (F_p_meets y (d : Int) (k : Int) (v : Int)).2 = Q at A
            by_cases c3 : Q.1 = 0
            · rw [if_pos c3]
              exact ⟨A.1, Or.inr ⟨rfl, A.2.2 c3 (fun ck => laK_c hd hk ck.1 eq)⟩⟩
            · rw [if_neg c3]
              exact go Q.2 A.1 (fun _ => A.2.1 c3)
    · rw [F_p_holds_e4]
      have g2 : WIK x d k → hoQ x n0 (F_p_holds_s n 2 y n0 (d : Int) ((lS x d).length : Int) ((k : Int) + (1 : Int)) 0 0) := fun P => by
        have := i2 y d (k + 1) h hd (by omega) hl P2 (fun q hq => by
          by_cases e : q = k
          · rw [e]; exact ⟨P4, P⟩
          · exact P3 q (by omega)) (by omega)
        exact this
      by_cases c0 : (d : Int) = (k : Int)
      · rw [if_pos c0]
        exact g2 (fun ne => absurd (show d = k by omega) ne)
      · rw [if_neg c0]
        by_cases c1 : ((lS x d).length : Int) < (v : Int) + ((lS x k).length : Int)
        · rw [if_pos c1]
          exact g2 (fun ne v' h9 => P5 v' (by omega) h9 ne)
        · rw [if_neg c1]
          have m := h.1.1
          have sm := hI_M h
          have hr : d < nR y := by rw [sM_nR sm]; exact hd
          have hq : k < nR y := by rw [sM_nR sm]; exact hk
          have lv : v + (lS x k).length ≤ (lS x d).length := by omega
          have X := F_p_encloses_x m hr hq (v := v) (by rw [sM_lS sm]; exact lv) h.2.2.1 h.2.2.2
          have eh : y.1 58 6 = x.1 58 6 := sm.2.1.1
          have nr : (nR x : Int) = x.1 58 6 := by have := mx.2.1.1; unfold nR; omega
          have hm := hI_encloses h (d := (d : Int)) (k := (k : Int)) (v := (v : Int)) (by omega) (by omega) (by omega) (by omega) (by omega) (by rw [sM_lS sm, Int.toNat_natCast, Int.toNat_natCast]; omega)
          rw [sM_lS sm, sM_rS sm] at X
          have go : ∀ z, hI x z → wiK x d k v → hoQ x n0 (F_p_holds_s n 4 z n0 (d : Int) ((lS x d).length : Int) (k : Int) ((lS x k).length : Int) ((v : Int) + (1 : Int))) := fun z hz hv => by
            have := i4 z d k (v + 1) hz hd hk (by have := l20 d hd; have := l1 k hk; omega) hl P2 P3 P4 (fun v' h1 h2 h3 => by
              by_cases e : v' = v
              · rw [e]; exact hv
              · exact P5 v' (by omega) h2 h3) (by omega)
            exact this
          rcases X with ⟨ne, e⟩ | ⟨eq, e1, t⟩
          · rw [e, if_pos rfl]
            exact go y h (fun e9 => absurd e9 ne)
          · rw [e1, if_neg (by decide)]
            have wg := hm.2.2 (by rw [e1]; decide)
            have A := agK hm.1 wg.1 wg.2 (n0 := n0)
            rw [wL_S t.2.1, wL_S t.2.2.1] at A
            generalize F_p_agree (F_p_encloses y (d : Int) (k : Int) (v : Int)).2 = Q at A
            by_cases c3 : Q.1 = 0
            · rw [if_pos c3]
              exact ⟨A.1, Or.inr ⟨rfl, A.2.2 c3 (fun ck => wiK_c hd hk ck.1 lv eq)⟩⟩
            · rw [if_neg c3]
              exact go Q.2 A.1 (fun _ => A.2.1 c3)
theorem holds_x {x : KS} (ok : rOK x) {n0 : Int} (n1 : 0 ≤ n0) (n8 : n0 ≤ 8) (lw : ∀ j : Nat, (j : Int) < 2 * n0 → wG x (24 + 2 * j) ∧ x.1 (24 + 2 * j) 1 ≤ 12) (r3 : r03 (x.2 74)) (r6 : r03 (x.2 76)) : hoQ x n0 (F_p_holds x n0) :=
  (holds_s ok.1 n1 n8 lw 90100).1 x 0 ⟨ok, gm_rf _ _ _, r3, r6⟩ (by omega) (fun l hl => by omega) (by omega)
