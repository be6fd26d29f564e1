-- deps: 98.a 98.b 98.c 98.d
/-! The Rewriter between calls: what it needs, what it leaves; the room that it may still take -/
def kM (x : KS) : Nat := if x.1 70 5 = 0 then 87 else 106
def kPo (x : KS) : Nat := if x.1 70 5 = 0 then 23 else kCw x
def kPs (x : KS) : Nat := if x.1 70 5 = 0 then 1180289 else kSw x
def kG (x y : KS) : Prop := y.1 70 5 = x.1 70 5 ∧ y.1 101 9 = x.1 101 9
def kLe (x y : KS) : Prop := kPo y ≤ kPo x ∧ kPs y ≤ kPs x
theorem kM_ge (x : KS) : 87 ≤ kM x := by unfold kM; split <;> omega
theorem kG_rf (x : KS) : kG x x := ⟨rfl, rfl⟩
theorem kG_tr {x y z : KS} (h : kG x y) (g : kG y z) : kG x z := ⟨g.1.trans h.1, g.2.trans h.2⟩
theorem kG_of {S : List (Nat × Nat)} {A : List Nat} {x y : KS} (h : ksame S A x y) (h1 : (70, 5) ∉ S) (h2 : (101, 9) ∉ S) : kG x y := ⟨h.1 70 5 h1, h.1 101 9 h2⟩
theorem kG_s {x y : KS} {c k : Nat} {v : Int} (h1 : (70, 5) ≠ (c, k)) (h2 : (101, 9) ≠ (c, k)) (g : kG x y) : kG x (kS y c k v) := kG_tr g (kG_of (S := [(c, k)]) (A := []) (km_s (List.Mem.head _) (km_rf _ _ _)) (by rw [List.mem_singleton]; exact h1) (by rw [List.mem_singleton]; exact h2))
theorem kG_a {x y : KS} {c j : Nat} {v : Int} (g : kG x y) : kG x (kA y c j v) := g
theorem kG_M {x y : KS} (g : kG x y) : kM y = kM x := by unfold kM; rw [g.1]
theorem kG_W {x y : KS} (g : kG x y) : kWl y = kWl x := by unfold kWl; rw [g.2]
theorem kG_p {x y : KS} (g : kG x y) : kPo y = kPo x ∧ kPs y = kPs x := by unfold kPo kPs kCw kSw; rw [g.1, g.2]; exact ⟨rfl, rfl⟩
theorem kLe_rf (x : KS) : kLe x x := ⟨Nat.le_refl _, Nat.le_refl _⟩
theorem kLe_tr {x y z : KS} (h : kLe x y) (g : kLe y z) : kLe x z := ⟨Nat.le_trans g.1 h.1, Nat.le_trans g.2 h.2⟩
theorem kLe_G {x y : KS} (g : kG x y) : kLe x y := ⟨Nat.le_of_eq (kG_p g).1, Nat.le_of_eq (kG_p g).2⟩
/-- below the Grower's cells the two are the same, but for the scalars S and the arrays A -/
def gfr (S : List (Nat × Nat)) (A : List Nat) (x y : KS) : Prop := (∀ c k, c < 87 → (c, k) ∉ S → y.1 c k = x.1 c k) ∧ ∀ c, c < 87 → c ∉ A → y.2 c = x.2 c
theorem gm_of {S : List (Nat × Nat)} {A : List Nat} {x y : KS} (h : ksame S A x y) : gfr S A x y := ⟨fun c k _ hk => h.1 c k hk, fun c _ hc => h.2 c hc⟩
theorem gm_rf (S : List (Nat × Nat)) (A : List Nat) (x : KS) : gfr S A x x := ⟨fun _ _ _ _ => rfl, fun _ _ _ => rfl⟩
theorem gm_tr {S : List (Nat × Nat)} {A : List Nat} {x y z : KS} (h : gfr S A x y) (g : gfr S A y z) : gfr S A x z := ⟨fun c k h7 hk => (g.1 c k h7 hk).trans (h.1 c k h7 hk), fun k h7 hk => (g.2 k h7 hk).trans (h.2 k h7 hk)⟩
theorem gm_mono {S S' : List (Nat × Nat)} {A A' : List Nat} {x y : KS} (hS : ∀ k ∈ S', k ∈ S) (hA : ∀ k ∈ A', k ∈ A) (h : gfr S' A' x y) : gfr S A x y := ⟨fun c k h7 hk => h.1 c k h7 (fun q => hk (hS _ q)), fun k h7 hk => h.2 k h7 (fun q => hk (hA k q))⟩
theorem gm_s {S : List (Nat × Nat)} {A : List Nat} {x y : KS} {c k : Nat} {v : Int} (hk : (c, k) ∈ S) (h : gfr S A x y) : gfr S A x (kS y c k v) := gm_tr h (gm_of (km_s hk (km_rf _ _ _)))
theorem gm_a {S : List (Nat × Nat)} {A : List Nat} {x y : KS} {c i : Nat} {v : Int} (hk : c ∈ A) (h : gfr S A x y) : gfr S A x (kA y c i v) := gm_tr h (gm_of (km_a hk (km_rf _ _ _)))
/-- what only leaves out cells of the Grower -/
theorem gm_cut {S S' : List (Nat × Nat)} {A A' : List Nat} {x y : KS} (hS : ∀ p ∈ S', p ∈ S ∨ 87 ≤ p.1) (hA : ∀ a ∈ A', a ∈ A ∨ 87 ≤ a) (h : ksame S' A' x y) : gfr S A x y := by
  refine ⟨fun c k h7 hk => h.1 c k (fun q => ?_), fun c h7 hc => h.2 c (fun q => ?_)⟩
  · rcases hS _ q with e | e
    · exact hk e
    · exact absurd h7 (by have e2 : 87 ≤ c := e; omega)
  · rcases hA _ q with e | e
    · exact hc e
    · omega
theorem gm_M {S : List (Nat × Nat)} {A : List Nat} {x y : KS} (h : gfr S A x y) (hS : ∀ p ∈ S, sMs p) (hA : ∀ a ∈ A, sMa a) : sM x y := by
  have s : ∀ c k, c < 87 → ¬ sMs (c, k) → y.1 c k = x.1 c k := fun c k h7 hn => h.1 c k h7 (fun q => hn (hS _ q))
  have a : ∀ c, c ∈ [2, 3, 59, 60, 61, 62, 63, 65, 66] → y.2 c = x.2 c := fun c hc => h.2 c (by simp at hc; omega) (fun q => hA _ q hc)
  exact ⟨⟨funext fun k => s 1 k (by decide) (fun q => q.1 rfl), a 2 (by decide), a 3 (by decide)⟩, ⟨s 58 6 (by decide) (fun q => q.2.1 rfl), a 59 (by decide), a 60 (by decide), a 61 (by decide), a 62 (by decide), a 63 (by decide)⟩, s 64 7 (by decide) (fun q => q.2.2 rfl), a 65 (by decide), a 66 (by decide)⟩
theorem F_r_run_s_fr (w1 : Nat) : ∀ (n : Nat) (y : KS) (i : Int), ksame [(70, 4)] [71] y (F_r_run_s w1 n y i) := by
  intro n
  induction n with
  | zero => intro y i; exact km_rf _ _ _
  | succ n ih =>
    intro y i
    unfold F_r_run_s
    split
    · exact km_rf _ _ _
    · exact km_tr (km_a (by decide) (km_s (by decide) (km_rf _ _ _))) (ih _ _)
theorem F_r_ro_fr (x : KS) (w1 w2 : Nat) : ksame [(70, 4), (w2, 1)] [71, w2 + 1, 72] x (F_r_ro x w1 w2).2 := by
  unfold F_r_ro
  refine km_tr (km_tr ?_ (km_s (List.Mem.tail _ (List.Mem.head _)) (km_rf _ _ _))) (km_mono ?_ ?_ (F_r_readOn_fr _ w2))
  · exact km_tr (km_s (List.Mem.head _) (km_rf _ _ _)) (km_mono (km1 (List.Mem.head _) km0) (km1 (List.Mem.head _) km0) (F_r_run_s_fr w1 70 _ _))
  · exact km1 (List.Mem.head _) (km1 (List.Mem.tail _ (List.Mem.head _)) km0)
  · exact km1 (List.Mem.tail _ (List.Mem.head _)) (km1 (List.Mem.tail _ (List.Mem.tail _ (List.Mem.head _))) (km1 (List.Mem.head _) km0))
theorem kNg_fr (x : KS) : gfr [(70, 5)] [] x (kNg x) := by
  refine ⟨fun c k h7 hk => ?_, fun c h7 _ => if_pos h7⟩
  show (if c = 70 then iU (x.1 70) 5 1 else if c < 87 then x.1 c else _) k = x.1 c k
  by_cases c7 : c = 70
  · subst c7
    rw [if_pos rfl]
    exact iU_n (fun e => hk (by rw [e]; exact List.Mem.head _))
  · rw [if_neg c7, if_pos h7]
theorem F_g_run_gfr (x : KS) (w1 : Nat) : gfr [(64, 8), (w1, 1)] [w1 + 1] x (F_g_run x w1).2 := by
  refine gm_cut ?_ ?_ (F_g_run_fr x w1)
  · intro p hp
    simp only [List.mem_cons, List.not_mem_nil, or_false] at hp ⊢
    rcases hp with e | e | e | e | e | e | e | e | e | e | e <;> subst e <;> simp
  · intro p hp
    simp only [List.mem_cons, List.not_mem_nil, or_false] at hp ⊢
    rcases hp with e | e | e | e | e | e | e | e | e | e | e | e | e | e | e <;> subst e <;> simp
theorem F_r_run_fr (x : KS) (w1 w2 : Nat) : gfr [(70, 4), (70, 5), (64, 8), (w2, 1)] [71, 72, w2 + 1] x (F_r_run x w1 w2).2 := by
  have f0 : gfr [(70, 4), (70, 5), (64, 8), (w2, 1)] [71, 72, w2 + 1] x (F_r_ro x w1 w2).2 := gm_mono (km1 (List.Mem.head _) (km1 (List.Mem.tail _ (List.Mem.tail _ (List.Mem.tail _ (List.Mem.head _)))) km0)) (km1 (List.Mem.head _) (km1 (List.Mem.tail _ (List.Mem.tail _ (List.Mem.head _))) (km1 (List.Mem.tail _ (List.Mem.head _)) km0))) (gm_of (F_r_ro_fr x w1 w2))
  have f1 : ∀ z : KS, gfr [(70, 4), (70, 5), (64, 8), (w2, 1)] [71, 72, w2 + 1] z (F_r_putRestBack z w2).2 := fun z => gm_mono (km1 (List.Mem.tail _ (List.Mem.tail _ (List.Mem.tail _ (List.Mem.head _)))) km0) (km1 (List.Mem.tail _ (List.Mem.tail _ (List.Mem.head _))) km0) (gm_of (F_r_putRestBack_fr z w2))
  have f2 : ∀ z : KS, gfr [(70, 4), (70, 5), (64, 8), (w2, 1)] [71, 72, w2 + 1] z (F_g_run z w2).2 := fun z => gm_mono (km1 (List.Mem.tail _ (List.Mem.tail _ (List.Mem.head _))) (km1 (List.Mem.tail _ (List.Mem.tail _ (List.Mem.tail _ (List.Mem.head _)))) km0)) (km1 (List.Mem.tail _ (List.Mem.tail _ (List.Mem.head _))) km0) (F_g_run_gfr z w2)
  have f3 : ∀ z : KS, gfr [(70, 4), (70, 5), (64, 8), (w2, 1)] [71, 72, w2 + 1] z (F_r_go z w2).2 := fun z => by
    unfold F_r_go
    repeat' split
    all_goals first | exact f1 z | exact gm_tr (f1 z) (f2 _)
  have f4 : ∀ z : KS, gfr [(70, 4), (70, 5), (64, 8), (w2, 1)] [71, 72, w2 + 1] z (kNg z) := fun z => gm_mono (km1 (List.Mem.tail _ (List.Mem.head _)) km0) km0 (kNg_fr z)
  unfold F_r_run
  repeat' split
  all_goals first | exact f0 | exact gm_tr f0 (f3 _) | exact gm_tr (gm_tr f0 (f4 _)) (f3 _)
theorem F_r_run_M {w2 : Nat} (hw : kW w2 = true) (x : KS) (w1 : Nat) : sM x (F_r_run x w1 w2).2 := by
  refine gm_M (F_r_run_fr x w1 w2) ?_ ?_
  · intro p hp
    simp only [List.mem_cons, List.not_mem_nil, or_false] at hp
    rcases hp with e | e | e | e <;> subst e
    · unfold sMs; decide
    · unfold sMs; decide
    · unfold sMs; decide
    · exact sMs_w hw
  · intro a ha
    simp only [List.mem_cons, List.not_mem_nil, or_false] at ha
    rcases ha with e | e | e <;> subst e
    · unfold sMa; decide
    · unfold sMa; decide
    · exact sMa_w hw
/-- the row of places -/
def p72 (y : KS) : Prop := y.2 72 0 = 0 ∧ ∀ j : Nat, -1000 ≤ y.2 72 j ∧ y.2 72 j < 320
theorem p72_U {y : KS} {j : Nat} {v : Int} (h : p72 y) (hj : 1 ≤ j) (h0 : -1000 ≤ v) (h1 : v < 320) : p72 (kA y 72 j v) := by
  unfold p72
  rw [kA_s]
  exact ⟨(iU_n (by omega)).trans h.1, iU_all (P := fun z => -1000 ≤ z ∧ z < 320) ⟨h0, h1⟩ h.2⟩
theorem p72_fr {S : List (Nat × Nat)} {A : List Nat} {y z : KS} (f : ksame S A y z) (h : 72 ∉ A) (p : p72 y) : p72 z := by unfold p72; rw [f.2 72 h]; exact p
theorem F_w_push_u {y : KS} {w : Nat} {v : Int} (h : ¬ (F_w_push y w v).1 = 0) : (F_w_push y w v).2.1 w 1 = y.1 w 1 + 1 := by
  revert h
  unfold F_w_push
  repeat' split
  all_goals first | (intro h; exact absurd rfl h) | (intro _; exact kS_s)
theorem F_r_readOn_s_p {w : Nat} (hw : kW w = true) : ∀ (n : Nat) (y : KS) (d : Int), maR y → ruR y → stV y → rwI y w → p72 y → p72 (F_r_readOn_s w n 0 y d).2 := by
  have w72 : w + 1 ≠ 72 := kR_ne hw rfl
  intro n
  induction n with
  | zero => intro y d _ _ _ _ h; exact h
  | succ n ih =>
    intro y d ma ru sv wi h
    rw [F_r_readOn_e0]
    split
    · exact h
    · split
      · exact h
      · rename_i c1 c2
        have fk : ksame [(70, 4)] [] y (kS y 70 4 (y.1 70 4 - 1)) := km_s (by decide) (km_rf _ _ _)
        have mk : maR (kS y 70 4 (y.1 70 4 - 1)) := maR_of fk (by decide) (by decide) (by decide) ma
        have rk : ruR (kS y 70 4 (y.1 70 4 - 1)) := ruR_of fk (by decide) (by decide) (by decide) (by decide) (by decide) (by decide) ru
        have sk : stV (kS y 70 4 (y.1 70 4 - 1)) := sv
        have wk : rwI (kS y 70 4 (y.1 70 4 - 1)) w := rwI_rest hw (by omega) (by have := wi.2.1; omega) wi
        have pk9 : p72 (kS y 70 4 (y.1 70 4 - 1)) := h
        generalize kS y 70 4 (y.1 70 4 - 1) = k at mk rk sk wk pk9
        generalize y.2 71 (y.1 70 4 - 1).toNat = v
        generalize y.2 72 (y.1 w 1).toNat = s
        have sb := F_a_step_b mk s v
        have qp := F_w_push_q k w v hw
        have wp := rwI_push (v := v) hw wk
        have pp : p72 (F_w_push k w v).2 := p72_fr (F_w_push_fr k w v) (by rw [List.mem_singleton]; exact Ne.symm w72) pk9
        split
        · rename_i c3
          split
          · exact pp
          · rename_i c4
            split
            · exact ih _ _ (maR_q qp mk) (ruR_q qp rk) (stV_q qp sk) wp pp
            · have u := F_w_push_u c4
              have f7 : ksame [] [72] (F_w_push k w v).2 (kA (F_w_push k w v).2 72 ((F_w_push k w v).2.1 w 1).toNat (F_a_step k s v).1) := km_a (by decide) (km_rf _ _ _)
              exact ih _ _ (maR_of f7 (by decide) (by decide) (by decide) (maR_q qp mk)) (ruR_of f7 (by decide) (by decide) (by decide) (by decide) (by decide) (by decide) (ruR_q qp rk)) (by unfold stV; rw [kA_c (by decide), kA_c (by decide)]; exact stV_q qp sk) (rwI_place sb.1 sb.2 wp) (p72_U pp (by rw [u]; have := wk.1.1; omega) sb.1 sb.2)
        · rename_i c3
          have qr := F_r_replace_q k w (-1 - (F_a_step k s v).1) hw
          have wr : rwI (F_r_replace k w (-1 - (F_a_step k s v).1)).2 w := F_r_replace_ok hw rk (F_a_step_v sk (by omega)).2 wk
          have pr : p72 (F_r_replace k w (-1 - (F_a_step k s v).1)).2 := p72_fr (F_r_replace_fr k w _) (by decide) pk9
          split
          · exact pr
          · split
            · exact ih _ _ (maR_q qr mk) (ruR_q qr rk) (stV_q qr sk) wr pr
            · exfalso; omega
/-- LETTERS of a row that is taken -/
theorem F_w_take_s_r {w q : Nat} : ∀ (n : Nat) (y : KS) (i : Int), r03 (y.2 (w + 1)) → r03 (y.2 (q + 1)) → r03 ((F_w_take_s w q n 0 y i).2.2 (w + 1)) := by
  intro n
  induction n with
  | zero => intro y i h _; exact h
  | succ n ih =>
    intro y i h1 h2
    rw [F_w_take_e0]
    split
    · exact h1
    · have e1 : r03 ((kA y (w + 1) i.toNat (y.2 (q + 1) i.toNat)).2 (w + 1)) := by rw [kA_s]; exact r03_U h1 (h2 _).1 (h2 _).2
      refine ih _ _ e1 ?_
      by_cases c : q + 1 = w + 1
      · have c2 : q = w := by omega
        rw [c2] at e1 ⊢
        exact e1
      · rw [kA_c c]; exact h2
theorem F_w_take_r {x : KS} {w q : Nat} (h1 : r03 (x.2 (w + 1))) (h2 : r03 (x.2 (q + 1))) : r03 ((F_w_take x w q).2.2 (w + 1)) := F_w_take_s_r _ _ _ h1 h2
theorem F_g_run_s_r {x : KS} (mx : mcX x) {w1 : Nat} (hw : kW w1 = true) (ne : w1 + 1 < 87) {src : List Int} : ∀ n : Nat, (∀ (y : KS) (p9 : Int) (S : List Int), gAt x src y S → r03 (y.2 (w1 + 1)) → r03 ((F_g_run_s w1 n 0 y p9 0).2.2 (w1 + 1))) ∧ (∀ (y : KS) (p9 t9 : Int) (S : List Int), gAt x src y S → r03 (y.2 (w1 + 1)) → r03 ((F_g_run_s w1 n 1 y p9 t9).2.2 (w1 + 1))) := by
  intro n
  induction n with
  | zero => exact ⟨fun y _ _ _ h => h, fun y _ _ _ _ h => h⟩
  | succ n ih =>
    refine ⟨fun y p9 S g h => ?_, fun y p9 t9 S g h => ?_⟩
    · rw [F_g_run_e0]
      split
      · exact h
      · exact ih.2 y p9 0 S g h
    · rw [F_g_run_e1]
      have hg : r03 ((F_g_growOn y).2.2 (w1 + 1)) := by rw [(F_g_growOn_fr y).2 (w1 + 1) (by simp; omega)]; exact h
      split
      · exact ih.1 y _ S g h
      · rcases gAt_on mx g with ⟨k1, z, ez, k2, k3, k4⟩ | ⟨k1, S', k2, k3, k4, k5, k6⟩
        · rw [if_pos k1]
          refine F_w_take_r hg ?_
          rw [← ez]
          exact k2.1.2.2.2.2.2.2.2.2.2.2.2.1
        · rw [if_neg (by rw [k1]; decide)]
          have hr : r03 ((F_g_replace (F_g_growOn y).2 ((F_g_growOn y).2.2 99 ((F_g_growOn y).2.1 87 13).toNat)).2.2 (w1 + 1)) := by rw [(F_g_replace_fr (F_g_growOn y).2 _).2 (w1 + 1) (by simp; omega)]; exact hg
          split
          · refine ih.2 _ p9 _ S' (gAt_widen k6) ?_
            rw [(F_k_widen_fr _).2 (w1 + 1) (by simp; omega)]
            exact hr
          · exact ih.2 _ p9 _ S' k6 hr
theorem F_g_run_r {x y : KS} (mx : mcX x) {w1 : Nat} (hw : kW w1 = true) (ne : w1 + 1 < 87) {W : List Int} (g : gR0 x y) (h : wL y w1 W) (hr : r03 (y.2 (w1 + 1))) (ok : okL (nL x) W) (h60 : W.length ≤ 60) : r03 ((F_g_run y w1).2.2 (w1 + 1)) := by
  have b := ruB_x mx hw (by omega) g h hr ok h60
  refine (F_g_run_s_r mx hw ne runF).1 (ruB y w1) 0 W b.1 ?_
  have fd := F_w_drawFrom_fr (kS (kA (kS (F_w_wipe (F_w_wipe y 88).2 90).2 87 12 0) 94 (0 : Int).toNat 0) 87 13 0) 90 w1 0
  have fa := F_g_await_fr (F_w_drawFrom (kS (kA (kS (F_w_wipe (F_w_wipe y 88).2 90).2 87 12 0) 94 (0 : Int).toNat 0) 87 13 0) 90 w1 0).2 0 (F_w_drawFrom (kS (kA (kS (F_w_wipe (F_w_wipe y 88).2 90).2 87 12 0) 94 (0 : Int).toNat 0) 87 13 0) 90 w1 0).1 1
  unfold ruB
  rw [fa.2 (w1 + 1) (by simp; omega), fd.2 (w1 + 1) (by simp; omega), kS_2, kA_c (by omega)]
  exact hr
