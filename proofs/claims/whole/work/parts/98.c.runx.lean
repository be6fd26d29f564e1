-- deps: 30 31 32 33 34 35 36 37 38 39 40 41 42 43 46 70 71 72 73 74 75 76 77 78 79 80 81 82 83 84 85 86 87 88 89 90 91 92 93 94 95 97 98.a 98.b
/-! Rewriter.run reduces: by RULES to a STRING without a LEFT side -/
def F_r_go (z : KS) (w2 : Nat) : Int × KS := if (F_r_putRestBack z w2).1 = 0 then (0, (F_r_putRestBack z w2).2) else if (F_g_run (F_r_putRestBack z w2).2 w2).1 = 0 then (0, (F_g_run (F_r_putRestBack z w2).2 w2).2) else (1, (F_g_run (F_r_putRestBack z w2).2 w2).2)
def F_r_ro (x : KS) (w1 w2 : Nat) : Int × KS := F_r_readOn (F_w_wipe (F_r_run_s w1 70 (kS x 70 4 0) (min (x.1 w1 1) 60 - 1)) w2).2 w2
def F_r_run (x : KS) (w1 w2 : Nat) : Int × KS := if (F_r_ro x w1 w2).1 = 0 then (0, (F_r_ro x w1 w2).2) else if 0 < (F_r_ro x w1 w2).2.1 70 4 then F_r_go (if (F_r_ro x w1 w2).2.1 70 5 = 0 then kNg (F_r_ro x w1 w2).2 else (F_r_ro x w1 w2).2) w2 else (1, (F_r_ro x w1 w2).2)
/-- LETTERS are small numbers, in the rest and in the target -/
theorem F_r_replace_s_r {w : Nat} (hw : kW w = true) : ∀ (n : Nat) (y : KS) (r i : Int), r03 (y.2 71) → r03 (y.2 (w + 1)) → r03 ((F_r_replace_s w n 0 y r i).2.2 71) ∧ r03 ((F_r_replace_s w n 0 y r i).2.2 (w + 1)) := by
  have w71 : w + 1 ≠ 71 := kR_ne hw rfl
  intro n
  induction n with
  | zero => intro y r i h1 h2; exact ⟨h1, h2⟩
  | succ n ih =>
    intro y r i h1 h2
    rw [F_r_replace_e0]
    split
    · exact ⟨h1, h2⟩
    · have b := F_u_signAt_b (kS y 70 4 (y.1 70 4 + 1)) r 0 i
      refine ih _ _ _ ?_ ?_
      · rw [kA_s, kS_2]; exact r03_U h1 b.1 b.2
      · rw [kA_c w71, kS_2]; exact h2
theorem F_r_replace_r {w : Nat} (hw : kW w = true) {y : KS} {r : Int} (h1 : r03 (y.2 71)) (h2 : r03 (y.2 (w + 1))) : r03 ((F_r_replace y w r).2.2 71) ∧ r03 ((F_r_replace y w r).2.2 (w + 1)) := by
  unfold F_r_replace
  repeat' split
  all_goals first | exact ⟨h1, h2⟩ | exact F_r_replace_s_r hw _ _ _ _ h1 h2
theorem F_w_push_r {w : Nat} (hw : kW w = true) {y : KS} {v : Int} (h1 : r03 (y.2 71)) (h2 : r03 (y.2 (w + 1))) (v0 : 0 ≤ v) (v3 : v ≤ 3) : r03 ((F_w_push y w v).2.2 71) ∧ r03 ((F_w_push y w v).2.2 (w + 1)) := by
  have w71 : w + 1 ≠ 71 := kR_ne hw rfl
  unfold F_w_push
  repeat' split
  all_goals first | exact ⟨h1, h2⟩ | skip
  refine ⟨?_, ?_⟩
  · rw [kA_c (Ne.symm w71), kS_2]; exact h1
  · rw [kA_s, kS_2]; exact r03_U h2 v0 v3
theorem F_r_readOn_s_r {w : Nat} (hw : kW w = true) : ∀ (n : Nat) (y : KS) (d : Int), r03 (y.2 71) → r03 (y.2 (w + 1)) → r03 ((F_r_readOn_s w n 0 y d).2.2 71) ∧ r03 ((F_r_readOn_s w n 0 y d).2.2 (w + 1)) := by
  have w72 : w + 1 ≠ 72 := kR_ne hw rfl
  intro n
  induction n with
  | zero => intro y d h1 h2; exact ⟨h1, h2⟩
  | succ n ih =>
    intro y d h1 h2
    rw [F_r_readOn_e0]
    have k1 : r03 ((kS y 70 4 (y.1 70 4 - 1)).2 71) := h1
    have k2 : r03 ((kS y 70 4 (y.1 70 4 - 1)).2 (w + 1)) := h2
    have pu := F_w_push_r hw (v := y.2 71 (y.1 70 4 - 1).toNat) k1 k2 (h1 _).1 (h1 _).2
    have rp := fun r => F_r_replace_r hw (r := r) k1 k2
    have on : ∀ z : KS, r03 (z.2 71) ∧ r03 (z.2 (w + 1)) → ∀ k v e, r03 ((F_r_readOn_s w n 0 (kA z 72 k v) e).2.2 71) ∧ r03 ((F_r_readOn_s w n 0 (kA z 72 k v) e).2.2 (w + 1)) := fun z hz k v e => ih _ _ (by rw [kA_c (by decide)]; exact hz.1) (by rw [kA_c w72]; exact hz.2)
    repeat' split
    all_goals first | exact ⟨h1, h2⟩ | exact pu | exact rp _ | exact ih _ _ pu.1 pu.2 | exact ih _ _ (rp _).1 (rp _).2 | exact on _ pu _ _ _ | exact on _ (rp _) _ _ _
theorem F_r_run_s_r {w1 w2 : Nat} (hw1 : kW w1 = true) (hw2 : kW w2 = true) : ∀ (n : Nat) (y : KS) (i : Int), r03 (y.2 71) → r03 (y.2 (w1 + 1)) → r03 (y.2 (w2 + 1)) → r03 ((F_r_run_s w1 n y i).2 71) ∧ r03 ((F_r_run_s w1 n y i).2 (w2 + 1)) := by
  intro n
  induction n with
  | zero => intro y i h1 h2 h3; exact ⟨h1, h3⟩
  | succ n ih =>
    intro y i h1 h2 h3
    unfold F_r_run_s
    split
    · exact ⟨h1, h3⟩
    · refine ih _ _ ?_ ?_ ?_
      · rw [kA_s, kS_2]; exact r03_U h1 (h2 _).1 (h2 _).2
      · rw [kA_c (kR_ne hw1 rfl), kS_2]; exact h2
      · rw [kA_c (kR_ne hw2 rfl), kS_2]; exact h3
theorem F_r_putRestBack_s_r {w : Nat} (hw : kW w = true) : ∀ (n : Nat) (y : KS) (i : Int), r03 (y.2 71) → r03 (y.2 (w + 1)) → r03 ((F_r_putRestBack_s w n 0 y i).2.2 (w + 1)) := by
  intro n
  induction n with
  | zero => intro y i _ h2; exact h2
  | succ n ih =>
    intro y i h1 h2
    rw [F_r_putRestBack_e0]
    have pu := F_w_push_r hw (v := y.2 71 i.toNat) h1 h2 (h1 _).1 (h1 _).2
    repeat' split
    all_goals first | exact h2 | exact pu.2 | exact ih _ _ pu.1 pu.2
/-- a new Grower is at rest -/
theorem gR0_new {x y : KS} (sm : sM x y) : gR0 x (kNg y) ∧ kWl (kNg y) = 32768 := by
  have a0 : ∀ c, 87 ≤ c → (kNg y).2 c = fun _ => 0 := fun c hc => if_neg (by omega)
  have lo2 : ∀ c, c < 87 → (kNg y).2 c = y.2 c := fun c hc => if_pos hc
  have lo1 : ∀ c, c < 87 → c ≠ 70 → (kNg y).1 c = y.1 c := fun c hc h7 => by
    show (if c = 70 then iU (y.1 70) 5 1 else if c < 87 then y.1 c else _) = y.1 c
    rw [if_neg h7, if_pos hc]
  have s9 : (kNg y).1 101 9 = 32768 := rfl
  have w9 : kWl (kNg y) = 32768 := rfl
  have rz : ∀ j : Nat, iRL ((fun _ : Nat => (0 : Int)) j) := fun j => ⟨by show _ ≤ (0 : Int); decide, by show (0 : Int) < _; decide⟩
  have z3 : ∀ j : Nat, 0 ≤ (fun _ : Nat => (0 : Int)) j ∧ (fun _ : Nat => (0 : Int)) j ≤ 3 := fun j => ⟨by show (0 : Int) ≤ 0; decide, by show (0 : Int) ≤ 3; decide⟩
  refine ⟨⟨sM_tr sm ⟨⟨lo1 1 (by decide) (by decide), lo2 2 (by decide), lo2 3 (by decide)⟩, ⟨by rw [lo1 58 (by decide) (by decide)], lo2 59 (by decide), lo2 60 (by decide), lo2 61 (by decide), lo2 62 (by decide), lo2 63 (by decide)⟩, by rw [lo1 64 (by decide) (by decide)], lo2 65 (by decide), lo2 66 (by decide)⟩, ?_, ?_, ?_⟩, w9⟩
  · unfold grW
    rw [a0 89 (by decide), a0 91 (by decide), a0 93 (by decide), a0 94 (by decide), a0 95 (by decide), a0 96 (by decide), a0 97 (by decide), a0 98 (by decide), a0 99 (by decide), a0 100 (by decide)]
    exact ⟨z3, z3, z3, fun j => ⟨by show (-1000 : Int) ≤ 0; decide, by show (0 : Int) < 320; decide⟩, rz, rz, fun j => ⟨by show (0 : Int) ≤ 0; decide, by show (0 : Int) ≤ 60; decide⟩, fun j => ⟨by show (0 : Int) ≤ 0; decide, by show (0 : Int) ≤ 1000; decide⟩, fun j => Or.inl rfl, fun j => Or.inl rfl⟩
  · intro i _ hne
    rw [a0 102 (by decide)] at hne
    exact absurd rfl hne
  · rw [w9]
    refine ⟨rfl, Or.inl rfl, ?_, ?_, ?_, ?_⟩
    · rw [a0 102 (by decide)]; exact rz
    · rw [a0 103 (by decide)]; exact rz
    · rw [a0 104 (by decide)]; exact rz
    · rw [a0 105 (by decide)]; exact rz
/-- how it ends: a STRING without a LEFT side, by RULES -/
theorem gR0_fr {S : List (Nat × Nat)} {A : List Nat} {x y z : KS} (g : gR0 x y) (f : ksame S A y z) (sm : sM x z) (h9 : (101, 9) ∉ S) (hA : ∀ q, q ∈ [89, 91, 93, 94, 95, 96, 97, 98, 99, 100, 102, 103, 104, 105] → q ∉ A) : gR0 x z := by
  obtain ⟨_, gw, ki, kn⟩ := g
  have ew : kWl z = kWl y := kWl_fr f h9
  refine ⟨sm, grW_of f (fun a ha hb => hA a ((by decide : ∀ q, q ∈ [89, 91, 93, 94, 95, 96, 97, 98, 99, 100] → q ∈ [89, 91, 93, 94, 95, 96, 97, 98, 99, 100, 102, 103, 104, 105]) a hb) ha) gw, knI_of f h9 (hA 102 (by decide)) (hA 103 (by decide)) (hA 104 (by decide)) (hA 105 (by decide)) ki, ?_⟩
  rw [ew]
  exact knR_of f h9 (hA 102 (by decide)) (hA 103 (by decide)) (hA 104 (by decide)) (hA 105 (by decide)) kn
theorem F_r_run_x {x y : KS} (mx : mcX x) {w1 w2 : Nat} (hw1 : kW w1 = true) (hw2 : kW w2 = true) (h60 : kL w2 = 60) (l2 : w2 < 87) {W : List Int} (sm : sM x y) (h : wL y w1 W) (ok : okL (nL x) W) (hl : W.length ≤ 60) (p0 : y.2 72 0 = 0) (r71 : r03 (y.2 71)) (rw1 : r03 (y.2 (w1 + 1))) (rw2 : r03 (y.2 (w2 + 1))) (g : y.1 70 5 ≠ 0 → gR0 x y) : (F_r_run y w1 w2).1 = 1 ∧ ∃ V : List Int, wL (F_r_run y w1 w2).2 w2 V ∧ okL (nL x) V ∧ rch (lS x) (rS x) (nR x) W V ∧ noL (lS x) (nR x) V := by
  have v70 : 70 ≠ w2 := w_ne hw2 rfl
  have em : min (y.1 w1 1) 60 - 1 = (W.length : Int) - 1 := by rw [h.1]; omega
  have pl := F_r_plain_x mx hw1 hw2 h60 sm h ok hl p0
  rw [← em] at pl
  have pl : (F_r_ro y w1 w2).1 = 1 ∧ roI x (F_r_ro y w1 w2).2 w2 W := pl
  have rr : r03 ((F_r_ro y w1 w2).2.2 71) ∧ r03 ((F_r_ro y w1 w2).2.2 (w2 + 1)) := by
    have a := F_r_run_s_r hw1 hw2 70 (kS y 70 4 0) (min (y.1 w1 1) 60 - 1) r71 rw1 rw2
    exact F_r_readOn_s_r hw2 20010 _ _ a.1 a.2
  have f71 : ksame [(70, 4)] [71] y (F_r_run_s w1 70 (kS y 70 4 0) (min (y.1 w1 1) 60 - 1)) := by
    rw [em]
    have f0 : ksame [(70, 4)] [] y (kS y 70 4 0) := km_s (by decide) (km_rf _ _ _)
    have h1 : wL (kS y 70 4 0) w1 (W ++ []) := by rw [List.append_nil]; exact wL_fr f0 (by intro h9; simp at h9) (by simp) h
    exact km_tr (km_mono (by decide) (by decide) f0) (F_r_run_s_x hw1 70 (kS y 70 4 0) W [] h1 (by rw [kS_s]; exact Int.le_refl _) (by unfold rL; rw [kS_s]; rfl) (by omega)).2.1
  have fro : ksame [(70, 4), (w2, 1)] [71, w2 + 1, 72] y (F_r_ro y w1 w2).2 := by
    refine km_tr (km_tr (km_mono (by intro p hp; rw [List.mem_singleton] at hp; rw [hp]; exact List.Mem.head _) (by intro p hp; rw [List.mem_singleton] at hp; rw [hp]; exact List.Mem.head _) f71) ?_) (km_mono ?_ ?_ (F_r_readOn_fr _ w2))
    · exact km_s (List.Mem.tail _ (List.Mem.head _)) (km_rf _ _ _)
    · intro p hp; simp at hp ⊢; rcases hp with e | e <;> simp [e]
    · intro p hp; simp at hp ⊢; rcases hp with e | e | e <;> simp [e]
  have n09 : (101, 9) ∉ [(70, 4), (w2, 1)] := by intro h9; simp at h9
  have nq : ∀ q, q ∈ [89, 91, 93, 94, 95, 96, 97, 98, 99, 100, 102, 103, 104, 105] → q ∉ [71, w2 + 1, 72] := fun q hq h9 => by
    simp at hq h9
    omega
  have kg : y.1 70 5 ≠ 0 → gR0 x (F_r_ro y w1 w2).2 := fun hg => gR0_fr (g hg) fro pl.2.1 n09 nq
  have k5 : (F_r_ro y w1 w2).2.1 70 5 = y.1 70 5 := fro.1 70 5 (by intro h9; simp at h9)
  unfold F_r_run
  rw [pl.1, if_neg (by decide)]
  obtain ⟨smc, ⟨u0, r0, ur⟩, ok1, ok2, plc9, nl, rc⟩ := pl.2
  have wc := wL_of u0
  by_cases c : 0 < (F_r_ro y w1 w2).2.1 70 4
  · rw [if_pos c]
    have hz : ∃ z, z = (if (F_r_ro y w1 w2).2.1 70 5 = 0 then kNg (F_r_ro y w1 w2).2 else (F_r_ro y w1 w2).2) ∧ gR0 x z ∧ wL z w2 (wS (F_r_ro y w1 w2).2 w2) ∧ z.1 70 4 = (F_r_ro y w1 w2).2.1 70 4 ∧ z.2 71 = (F_r_ro y w1 w2).2.2 71 ∧ z.2 (w2 + 1) = (F_r_ro y w1 w2).2.2 (w2 + 1) := by
      by_cases c5 : (F_r_ro y w1 w2).2.1 70 5 = 0
      · rw [if_pos c5]
        have e1 : (kNg (F_r_ro y w1 w2).2).1 w2 1 = (F_r_ro y w1 w2).2.1 w2 1 := by
          show (if w2 = 70 then iU ((F_r_ro y w1 w2).2.1 70) 5 1 else if w2 < 87 then (F_r_ro y w1 w2).2.1 w2 else _) 1 = _
          rw [if_neg (Ne.symm v70), if_pos l2]
        have e2 : (kNg (F_r_ro y w1 w2).2).2 (w2 + 1) = (F_r_ro y w1 w2).2.2 (w2 + 1) := if_pos (by have := kW_ne hw2 (d := 86) rfl; omega)
        exact ⟨_, rfl, (gR0_new smc).1, ⟨by rw [e1]; exact wc.1, by rw [e2]; exact wc.2⟩, rfl, rfl, e2⟩
      · rw [if_neg c5]
        exact ⟨_, rfl, kg (by rw [← k5]; exact c5), wc, rfl, rfl, rfl⟩
    obtain ⟨z, ez, gz, wz, z4, z71, zw⟩ := hz
    rw [← ez]
    have er : rL z = rL (F_r_ro y w1 w2).2 := by unfold rL; rw [z71, z4]
    have lw : ((wS (F_r_ro y w1 w2).2 w2).length : Int) = (F_r_ro y w1 w2).2.1 w2 1 := by rw [wS_len]; omega
    have pb := F_r_putRestBack_x hw2 h60 wz (by rw [z4]; exact r0) (by rw [lw, z4]; exact ur)
    rw [er] at pb
    have fp := F_r_putRestBack_fr z w2
    have rz := F_r_putRestBack_s_r hw2 70 z (z.1 70 4 - 1) (by rw [z71]; exact rr.1) (by rw [zw]; exact rr.2)
    have rz : r03 ((F_r_putRestBack z w2).2.2 (w2 + 1)) := rz
    have okS : okL (nL x) (wS (F_r_ro y w1 w2).2 w2 ++ rL (F_r_ro y w1 w2).2) := okL_app.mpr ⟨ok1, ok2⟩
    have lS9 : (wS (F_r_ro y w1 w2).2 w2 ++ rL (F_r_ro y w1 w2).2).length ≤ 60 := by rw [List.length_append, wS_len, rL_len]; omega
    have sme : sM x (F_r_putRestBack z w2).2 := sM_tr gz.1 (sM_of fp (fun p hp => by rw [List.mem_singleton] at hp; rw [hp]; exact sMs_w hw2) (fun a ha => by rw [List.mem_singleton] at ha; rw [ha]; exact sMa_w hw2))
    have ge : gR0 x (F_r_putRestBack z w2).2 := gR0_fr gz fp sme (by intro h9; simp at h9) (fun q hq h9 => by simp at hq h9; omega)
    unfold F_r_go
    rw [pb.1, if_neg (by decide)]
    obtain ⟨g1, z9, V, eR, gI, _, lV, rV, nV⟩ := F_g_run_x mx hw2 l2 ge pb.2 rz okS lS9
    rw [g1, if_neg (by decide)]
    have tk9 := F_w_take_x (x := z9) (w := w2) (q := 88) (Q := V) hw2 rfl (by omega) (by have := gI.1.2.1; rw [List.nil_append] at this; exact this) (by rw [h60]; exact lV)
    have rV2 := rch_tr rc rV
    refine ⟨rfl, V, ?_, rch_okL mx rV2 ok, rV2, nV⟩
    show wL (F_g_run (F_r_putRestBack z w2).2 w2).2 w2 V
    rw [eR]
    exact tk9
  · rw [if_neg c]
    have er : rL (F_r_ro y w1 w2).2 = [] := List.length_eq_zero_iff.mp (by rw [rL_len]; omega)
    rw [er, List.append_nil] at rc
    exact ⟨rfl, _, wc, ok1, rc, nl⟩
