-- deps: A2.b
/-! the class: Walk.advance goes to the STRING of the next number -/
theorem rng_c (f : Nat → Int) (r : Nat) : (List.range (r + 1)).map f = f 0 :: (List.range r).map (fun j => f (j + 1)) := by
  rw [List.range_succ_eq_map, List.map_cons, List.map_map]
  rfl
theorem way_x {Y : MS} {st ls : Nat → Int} {len : Nat} (h : skP Y st ls len) : ∀ (r k : Nat), k + r = len → xsm Y len st ls k + rk2 Y (st k) ((List.range r).map (fun j => ls (k + j))) = xsm Y len st ls len ∧ pth Y (st k) ((List.range r).map (fun j => ls (k + j))) := by
  intro r
  induction r with
  | zero =>
    intro k e
    have ek : k = len := by omega
    rw [ek]
    refine ⟨?_, trivial⟩
    show _ + (0 : Int) = _
    omega
  | succ r ih =>
    intro k e
    obtain ⟨a, b⟩ := ih (k + 1) (by omega)
    obtain ⟨⟨l0, l1⟩, hn, es⟩ := h.2.2 k (by omega)
    have ef : (fun j => ls (k + (j + 1))) = (fun j => ls (k + 1 + j)) := funext fun j => by rw [show k + (j + 1) = k + 1 + j by omega]
    rw [rng_c, Nat.add_zero, ef]
    rw [es] at a b
    refine ⟨?_, ⟨l0, l1⟩, hn, b⟩
    rw [← a]
    have x1 : xsm Y len st ls (k + 1) = xsm Y len st ls k + wsm Y (wN Y (len - k - 1)) (st k) (ls k).toNat := rfl
    have r1 : rk2 Y (st k) (ls k :: (List.range r).map (fun j => ls (k + 1 + j))) = wsm Y (wN Y ((List.range r).map (fun j => ls (k + 1 + j))).length) (st k) (ls k).toNat + rk2 Y (F_m_next Y (st k) (ls k)).1 ((List.range r).map (fun j => ls (k + 1 + j))) := rfl
    rw [x1, r1, List.length_map, List.length_range, show len - k - 1 = r by omega]
    omega
/-- the walk stands at its STRING -/
def wkI (Y : MS) (y : KS) : Prop := waR y ∧ skP Y (y.2 81) (y.2 83) (y.1 82 1).toNat
theorem wk_V {Y : MS} {y : KS} (h : wkI Y y) : rk2 Y 0 (wS y 82) = xsm Y (y.1 82 1).toNat (y.2 81) (y.2 83) (y.1 82 1).toNat ∧ pth Y 0 (wS y 82) := by
  obtain ⟨a, b⟩ := way_x h.2 (y.1 82 1).toNat 0 (Nat.zero_add _)
  have e : (List.range (y.1 82 1).toNat).map (fun j => y.2 83 (0 + j)) = wS y 82 := by
    unfold wS
    exact List.map_congr_left (fun j _ => by rw [Nat.zero_add])
  rw [e, h.2.1] at a b
  have z : xsm Y (y.1 82 1).toNat (y.2 81) (y.2 83) 0 = 0 := rfl
  exact ⟨by omega, b⟩
theorem wk_begin {Y : MS} {x : KS} (s1 : 1 ≤ Y.1 24) (wa : waR x) : wkI Y (F_v_begin x).2 ∧ wS (F_v_begin x).2 82 = [] := by
  have e1 : (F_v_begin x).2.1 82 1 = 0 := kS_s (x := x) (c := 82) (k := 1) (v := (0 : Int))
  have g81 : (F_v_begin x).2.2 81 = iU (x.2 81) 0 ((0 : Int)) := kA_s (x := (F_w_wipe x 82).2) (c := 81) (j := 0) (v := (0 : Int))
  have e81 : (F_v_begin x).2.2 81 0 = 0 := by rw [g81, iU_s]
  have e83 : (F_v_begin x).2.2 83 = x.2 83 := (F_v_begin_fr x).2 83 (by decide)
  refine ⟨⟨⟨by rw [e1]; omega, by rw [e83]; exact wa.2.1, fun j => ?_⟩, e81, fun j hj => ?_, fun j hj => ?_⟩, ?_⟩
  · rw [g81]
    by_cases e : j = 0
    · rw [e, iU_s]; omega
    · rw [iU_n e]; exact wa.2.2 j
  · rw [e1] at hj
    have ej : j = 0 := by omega
    rw [ej, e81]; omega
  · rw [e1] at hj; omega
  · unfold wS; rw [e1]; rfl
/-- what advance answers -/
def avQ (Y : MS) (x : KS) (q : Int × KS) : Prop := ksame [(82, 1)] [83, 81] x q.2 ∧ waR q.2 ∧ ((q.1 = 1 ∧ wkI Y q.2 ∧ rkV Y (wS q.2 82) = rkV Y (wS x 82) + 1) ∨ (q.1 = 0 ∧ rk1 Y 31 ≤ rkV Y (wS x 82) + 1))
theorem wk_len {y : KS} : (wS y 82).length = (y.1 82 1).toNat := wS_len y 82
theorem stE_fr {X y : KS} {Y : MS} {S : List (Nat × Nat)} {A : List Nat} (f : ksame S A X y) (h1 : (1, 2) ∉ S) (h2 : (64, 7) ∉ S) (h3 : 66 ∉ A) (h : stE X Y) : stE y Y := by
  obtain ⟨a, b⟩ := h
  refine ⟨by rw [f.1 64 7 h2, f.1 1 2 h1]; exact a, fun g l g0 g1 l0 l1 => ?_⟩
  rw [F_a_step_cg (f.1 1 2 h1) (f.1 64 7 h2) (f.2 66 h3)]
  exact b g l g0 g1 l0 l1
theorem wN_stop {Y : MS} (h4 : Y.1 0 ≤ 4) {m : Nat} (h : wN Y m 0 = 0) : ∀ k, m ≤ k → wN Y k 0 = 0 := by
  intro k hk
  induction hk with
  | refl => exact h
  | @step k _ ih =>
    have a := wN_4 h4 k 0
    have b := wN_nn (x := Y) (k + 1) 0
    show wN Y (k + 1) 0 = 0
    omega
theorem rk1_stop {Y : MS} (h4 : Y.1 0 ≤ 4) {m : Nat} (h : wN Y m 0 = 0) : ∀ k, m ≤ k → rk1 Y k = rk1 Y m := by
  intro k hk
  induction hk with
  | refl => rfl
  | @step k hk2 ih => rw [rk1_s, wN_stop h4 h k hk2, ih]; omega
/-- the first search of advance, from STRING x.82 -/
theorem av_1 {x : KS} {Y : MS} (hs : stE x Y) (ma : maR x) (wk : wkI Y x) (hB : rk1 Y (x.1 82 1).toNat ≤ 2000) : ksame [] [83, 81] x (F_v_seek x (x.1 82 1 - (1 : Int))).2 ∧ waR (F_v_seek x (x.1 82 1 - (1 : Int))).2 ∧ (F_v_seek x (x.1 82 1 - (1 : Int))).2.2 81 0 = 0 ∧ (((F_v_seek x (x.1 82 1 - (1 : Int))).1 = 1 ∧ skP Y ((F_v_seek x (x.1 82 1 - (1 : Int))).2.2 81) ((F_v_seek x (x.1 82 1 - (1 : Int))).2.2 83) (x.1 82 1).toNat ∧ xsm Y (x.1 82 1).toNat ((F_v_seek x (x.1 82 1 - (1 : Int))).2.2 81) ((F_v_seek x (x.1 82 1 - (1 : Int))).2.2 83) (x.1 82 1).toNat = rk2 Y 0 (wS x 82) + 1) ∨ ((F_v_seek x (x.1 82 1 - (1 : Int))).1 = 0 ∧ rk2 Y 0 (wS x 82) + 1 = wN Y (x.1 82 1).toNat 0)) := by
  obtain ⟨v1, v2⟩ := wk_V wk
  obtain ⟨wa, hp⟩ := id wk
  have u30 := wa.1
  have wok := F_v_seek_ok ma (by rw [hs.1.2.1]; exact hs.1.2.2.2) wa (x.1 82 1 - (1 : Int))
  refine ⟨F_v_seek_fr x _, wok, ?_⟩
  by_cases c : x.1 82 1 = 0
  · have e : F_v_seek x (x.1 82 1 - (1 : Int)) = ((0 : Int), x) := by
      unfold F_v_seek
      rw [show (10000100 : Nat) = 10000099 + 1 from rfl, F_v_seek_e0, if_neg (by decide), if_pos (by omega)]
    rw [e]
    have ew : wS x 82 = [] := List.eq_nil_of_length_eq_zero (by rw [wk_len, c]; rfl)
    refine ⟨hp.1, Or.inr ⟨rfl, ?_⟩⟩
    rw [ew, c]
    rfl
  · obtain ⟨k, hk⟩ : ∃ k : Nat, (x.1 82 1).toNat = k + 1 := ⟨(x.1 82 1).toNat - 1, by omega⟩
    have ek : x.1 82 1 - (1 : Int) = (k : Int) := by omega
    obtain ⟨⟨l0, l1⟩, hn, es⟩ := hp.2.2 k (by omega)
    have S := seek_x hs (len := (x.1 82 1).toNat) (by omega) (by omega) (by omega) hB (k := k) (by omega) ⟨hp.1, fun j hj => hp.2.1 j (by omega), fun j hj => hp.2.2 j (by omega)⟩ (by omega) l1 (fun j _ => wa.2.1 j)
    have wt := wsm_at (x := Y) (f := wN Y 0) l0 hn
    have xe : xsm Y (x.1 82 1).toNat (x.2 81) (x.2 83) (k + 1) = xsm Y (x.1 82 1).toNat (x.2 81) (x.2 83) k + wsm Y (wN Y ((x.1 82 1).toNat - k - 1)) (x.2 81 k) (x.2 83 k).toNat := rfl
    have C : xsm Y (x.1 82 1).toNat (x.2 81) (x.2 83) k + wsm Y (wN Y ((x.1 82 1).toNat - k - 1)) (x.2 81 k) (x.2 83 k + 1).toNat = rk2 Y 0 (wS x 82) + 1 := by
      rw [v1]
      have hx : xsm Y (x.1 82 1).toNat (x.2 81) (x.2 83) (x.1 82 1).toNat = xsm Y (x.1 82 1).toNat (x.2 81) (x.2 83) (k + 1) := congrArg _ hk
      rw [hx, xe, show (x.1 82 1).toNat - k - 1 = 0 by omega, show (x.2 83 k + 1).toNat = (x.2 83 k).toNat + 1 by omega, wt]
      have w1 : wN Y 0 (F_m_next Y (x.2 81 k) (x.2 83 k)).1 = 1 := rfl
      rw [w1]
      omega
    rw [C, ← ek] at S
    exact ⟨S.2.2.1, S.2.2.2⟩
theorem advance_x {x : KS} {Y : MS} (hs : stE x Y) (ma : maR x) (wk : wkI Y x) (hB : rkV Y (wS x 82) + 1 ≤ 2000) : avQ Y x (F_v_advance x) := by
  have n1 := hs.1.2.2.2.1
  have n4 := hs.1.2.2.2.2
  have sN1 := hs.1.2.2.1
  have l2 : 1 ≤ x.1 1 2 ∧ x.1 1 2 ≤ 4 := by rw [hs.1.2.1]; exact hs.1.2.2.2
  obtain ⟨v1, v2⟩ := wk_V wk
  have u30 := wk.1.1
  have vb := rkV_b v2
  rw [wk_len] at vb
  have eV : rkV Y (wS x 82) = rk1 Y (x.1 82 1).toNat + rk2 Y 0 (wS x 82) := by unfold rkV; rw [wk_len]
  have fr := F_v_advance_fr x
  obtain ⟨f1, w1, z1, S1⟩ := av_1 hs ma wk (by omega)
  refine ⟨fr, ?_⟩
  unfold F_v_advance
  have q82 : (F_v_seek x (x.1 82 1 - (1 : Int))).2.1 82 1 = x.1 82 1 := f1.1 82 1 List.not_mem_nil
  have hs1 : stE (F_v_seek x (x.1 82 1 - (1 : Int))).2 Y := stE_fr f1 List.not_mem_nil List.not_mem_nil (by decide) hs
  have ma1 : maR (F_v_seek x (x.1 82 1 - (1 : Int))).2 := by unfold maR; rw [f1.1 64 7 List.not_mem_nil, f1.2 65 (by decide), f1.2 66 (by decide)]; exact ma
  generalize F_v_seek x (x.1 82 1 - (1 : Int)) = Q at f1 w1 z1 S1 q82 hs1 ma1
  rcases S1 with ⟨e, sp, sx⟩ | ⟨e, sx⟩
  · rw [e, if_neg (by decide)]
    have wk2 : wkI Y Q.2 := ⟨w1, by rw [q82]; exact sp⟩
    refine ⟨w1, Or.inl ⟨rfl, wk2, ?_⟩⟩
    have v3 := (wk_V wk2).1
    rw [q82, sx] at v3
    unfold rkV
    rw [wk_len, wk_len]
    show rk1 Y (Q.2.1 82 1).toNat + rk2 Y 0 (wS Q.2 82) = _
    rw [q82, v3]
    omega
  · rw [e, if_pos rfl]
    have rn : rk1 Y ((x.1 82 1).toNat + 1) = rkV Y (wS x 82) + 1 := by rw [rk1_s]; omega
    by_cases c : x.1 82 1 = 30
    · have pu : F_w_push Q.2 82 ((0 : Int)) = ((0 : Int), Q.2) := by
        unfold F_w_push
        rw [if_neg (by omega), if_neg (by show ¬ Q.2.1 82 1 < ((30 : Nat) : Int); omega)]
      rw [pu, if_pos rfl]
      refine ⟨w1, Or.inr ⟨rfl, ?_⟩⟩
      rw [← rn, c]
      exact Int.le_refl _
    · have pu : F_w_push Q.2 82 ((0 : Int)) = ((1 : Int), kA (kS Q.2 82 1 (Q.2.1 82 1 + (1 : Int))) 83 (Q.2.1 82 1).toNat ((0 : Int))) := by
        unfold F_w_push
        rw [if_neg (by omega), if_pos (by show Q.2.1 82 1 < ((30 : Nat) : Int); omega)]
      rw [pu, if_neg (show ¬ (1 : Int) = 0 by decide)]
      have p82 : (kA (kA (kS Q.2 82 1 (Q.2.1 82 1 + (1 : Int))) 83 (Q.2.1 82 1).toNat ((0 : Int))) 83 ((0 : Int)).toNat ((-1 : Int))).1 82 1 = x.1 82 1 + 1 := by
        have h9 := kS_s (x := Q.2) (c := 82) (k := 1) (v := Q.2.1 82 1 + (1 : Int))
        rw [q82] at h9 ⊢
        exact h9
      have p81 : (kA (kA (kS Q.2 82 1 (Q.2.1 82 1 + (1 : Int))) 83 (Q.2.1 82 1).toNat ((0 : Int))) 83 ((0 : Int)).toNat ((-1 : Int))).2 81 = Q.2.2 81 := by rw [kA_c (by decide), kA_c (by decide), kS_2]
      have p83 : (kA (kA (kS Q.2 82 1 (Q.2.1 82 1 + (1 : Int))) 83 (Q.2.1 82 1).toNat ((0 : Int))) 83 ((0 : Int)).toNat ((-1 : Int))).2 83 = iU (iU (Q.2.2 83) (Q.2.1 82 1).toNat 0) 0 (-1) := by rw [kA_s, kA_s, kS_2]; rfl
      have fP : ksame [(82, 1)] [83, 81] Q.2 (kA (kA (kS Q.2 82 1 (Q.2.1 82 1 + (1 : Int))) 83 (Q.2.1 82 1).toNat ((0 : Int))) 83 ((0 : Int)).toNat ((-1 : Int))) := km_a (by decide) (km_a (by decide) (km_s (by decide) (km_rf _ _ _)))
      generalize kA (kA (kS Q.2 82 1 (Q.2.1 82 1 + (1 : Int))) 83 (Q.2.1 82 1).toNat ((0 : Int))) 83 ((0 : Int)).toNat ((-1 : Int)) = Z at p82 p81 p83 fP
      have hsZ : stE Z Y := stE_fr fP (by decide) (by decide) (by decide) hs1
      have maZ : maR Z := by unfold maR; rw [fP.1 64 7 (by decide), fP.2 65 (by decide), fP.2 66 (by decide)]; exact ma1
      have wZ : waR Z := by
        refine ⟨by rw [p82]; omega, fun j => ?_, by rw [p81]; exact w1.2.2⟩
        rw [p83, yU_if, yU_if]
        by_cases c1 : j = 0
        · rw [if_pos c1]; omega
        · rw [if_neg c1]
          by_cases c2 : j = (Q.2.1 82 1).toNat
          · rw [if_pos c2]; omega
          · rw [if_neg c2]; exact w1.2.1 j
      have z83 : Z.2 83 0 = -1 := by rw [p83, iU_s]
      have lZ : (Z.1 82 1).toNat = (x.1 82 1).toNat + 1 := by omega
      have S := seek_x hsZ (len := (Z.1 82 1).toNat) (by omega) (by omega) (by omega) (by rw [lZ, rn]; omega) (k := 0) (by omega) ⟨by rw [p81]; exact z1, fun j hj => by have ej : j = 0 := (by omega); rw [ej, p81, z1]; omega, fun j hj => by omega⟩ (by omega) (by omega) (fun j _ => wZ.2.1 j)
      have C : xsm Y (Z.1 82 1).toNat (Z.2 81) (Z.2 83) 0 + wsm Y (wN Y ((Z.1 82 1).toNat - 0 - 1)) (Z.2 81 0) (Z.2 83 0 + 1).toNat = 0 := by
        rw [z83]
        rfl
      rw [C] at S
      have wok := F_v_seek_ok maZ (by rw [hsZ.1.2.1]; exact hsZ.1.2.2.2) wZ ((0 : Nat) : Int)
      refine ⟨wok, ?_⟩
      show ((F_v_seek Z ((0 : Nat) : Int)).1 = 1 ∧ _) ∨ ((F_v_seek Z ((0 : Nat) : Int)).1 = 0 ∧ _)
      have k82 : (F_v_seek Z ((0 : Nat) : Int)).2.1 82 1 = Z.1 82 1 := (F_v_seek_fr Z _).1 82 1 List.not_mem_nil
      generalize F_v_seek Z ((0 : Nat) : Int) = T at S wok k82
      obtain ⟨_, _, _, ⟨t1, t2, t3⟩ | ⟨t1, t2⟩⟩ := S
      · have wk2 : wkI Y T.2 := ⟨wok, by rw [k82]; exact t2⟩
        refine Or.inl ⟨t1, wk2, ?_⟩
        have v3 := (wk_V wk2).1
        rw [k82, t3] at v3
        have e9 : rkV Y (wS T.2 82) = rk1 Y (T.2.1 82 1).toNat + rk2 Y 0 (wS T.2 82) := by unfold rkV; rw [wk_len]
        rw [e9, k82, lZ, v3, rn]
        omega
      · refine Or.inr ⟨t1, ?_⟩
        rw [lZ] at t2
        rw [rk1_stop n4 t2.symm 31 (by omega), rn]
        exact Int.le_refl _
