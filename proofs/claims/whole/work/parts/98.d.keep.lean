-- deps: 30 31 32 33 34 35 36 37 38 39 40 41 42 43 46 70 71 72 73 74 75 76 77 78 79 80 81 82 83 84 85 86 87 88 89 90 91 92 93 94 95 97 98.a 98.b 98.c
/-! what run leaves: the Grower at rest, and whether anything is kept -/
def wl2 (y : KS) : Prop := y.1 101 9 = 32768 ∨ y.1 101 9 = 262144
theorem keep_4 {y : KS} (h : wl2 y) (f t : Int) : (F_k_keep y f t).2.1 101 4 = 0 := by
  have h0 : 0 ≤ (F_k_firstPlace y).1 := by
    unfold F_k_firstPlace
    refine (iNI_b ?_ ?_).1
    · rcases h with e | e <;> rw [e] <;> decide
    · rcases h with e | e <;> rw [e] <;> decide
  obtain ⟨p, e⟩ := F_k_keep_s_x (y := y) f t 10 (F_k_firstPlace y).1 (F_k_firstPlace y).1 (F_k_firstPlace y).1 h0 (by omega) (by omega)
  have e2 : (F_k_keep y f t).2 = kpW y f t p := e
  rw [e2]
  unfold kpW
  rw [kS_s]
theorem keI_fr {S : List (Nat × Nat)} {A : List Nat} {y z : KS} (f : ksame S A y z) (h4 : (101, 4) ∉ S) (h9 : (101, 9) ∉ S) (h2 : 102 ∉ A) (k : keI y) : keI z := by
  unfold keI
  rw [f.1 101 4 h4, f.1 101 9 h9, f.2 102 h2]
  exact k
theorem wl2_fr {S : List (Nat × Nat)} {A : List Nat} {y z : KS} (f : ksame S A y z) (h9 : (101, 9) ∉ S) (k : wl2 y) : wl2 z := by
  unfold wl2
  rw [f.1 101 9 h9]
  exact k
theorem keI_growOn_s : ∀ (n : Nat) (y : KS) (i : Int), wl2 y → keI y → keI (F_g_growOn_s n 0 y i).2 := by
  intro n
  induction n with
  | zero => intro y i _ k; exact k
  | succ n ih =>
    intro y i w k
    rw [growOn_e]
    have fg : ksame [(87, 12), (64, 8), (90, 1), (88, 1)] [97, 98, 94, 89] y (F_g_grow (gTk y)).2 := km_tr (km_mono (by decide) (by decide) (gTk_fr y)) (km_mono (by decide) (by decide) (F_g_grow_fr (gTk y)))
    have kg : keI (F_g_grow (gTk y)).2 := keI_fr fg (by decide) (by decide) (by decide) k
    have wg : wl2 (F_g_grow (gTk y)).2 := wl2_fr fg (by decide) w
    have wc : wl2 (gCl y) := wl2_fr (gCl_fr y) (by decide) w
    have kc : keI (gCl y) := by
      refine keI_0 ?_
      unfold gCl
      rw [kS_c (by decide)]
      exact keep_4 (wl2_fr (gTa_fr y) (by decide) w) _ _
    repeat' split
    all_goals first | exact k | exact ih _ _ wc kc | exact ih _ _ wg kg | exact keI_fr (S := []) (A := [98]) (km_a (by decide) (km_rf _ _ _)) (by decide) (by decide) (by decide) kg
theorem keI_widen {y : KS} (k : keI y) : keI (F_k_widen y).2 := by
  unfold F_k_widen
  split
  · exact k
  · refine ⟨Or.inr ?_, fun _ i _ => rfl⟩
    show (kZw y 262144).1 101 4 = 1
    unfold kZw
    rw [kS_k (by decide), kS_s]
theorem wl2_widen {y : KS} (w : wl2 y) : wl2 (F_k_widen y).2 := by
  unfold F_k_widen
  split
  · exact w
  · right
    show (kZw y 262144).1 101 9 = 262144
    unfold kZw
    rw [kS_s]
theorem keI_run_s {w1 : Nat} (h : w1 < 87) : ∀ n : Nat, (∀ (y : KS) (p q : Int), wl2 y → keI y → keI (F_g_run_s w1 n 0 y p q).2) ∧ (∀ (y : KS) (p t : Int), wl2 y → keI y → keI (F_g_run_s w1 n 1 y p t).2) := by
  intro n
  induction n with
  | zero => exact ⟨fun y _ _ _ k => k, fun y _ _ _ k => k⟩
  | succ n ih =>
    refine ⟨fun y p q w k => ?_, fun y p t w k => ?_⟩
    · rw [F_g_run_e0]
      split
      · exact k
      · exact ih.2 _ _ _ w k
    · rw [F_g_run_e1]
      have kg : keI (F_g_growOn y).2 := keI_growOn_s 300 y 0 w k
      have wg : wl2 (F_g_growOn y).2 := wl2_fr (F_g_growOn_fr y) (by decide) w
      have kr : ∀ b, keI (F_g_replace (F_g_growOn y).2 b).2 := fun b => keI_fr (F_g_replace_fr _ b) (by decide) (by decide) (by decide) kg
      have wr : ∀ b, wl2 (F_g_replace (F_g_growOn y).2 b).2 := fun b => wl2_fr (F_g_replace_fr _ b) (by decide) wg
      split
      · exact ih.1 _ _ _ w k
      · split
        · exact keI_fr (F_w_take_fr (F_g_growOn y).2 w1 88) (by intro h9; simp at h9) (by intro h9; simp at h9) (by intro h9; simp at h9; omega) kg
        · split
          · exact ih.2 _ _ _ (wl2_widen (wr _)) (keI_widen (kr _))
          · exact ih.2 _ _ _ (wr _) (kr _)
theorem knR_wl2 {y : KS} {wl : Nat} (k : knR y wl) : wl2 y := by
  unfold wl2
  rw [k.1]
  rcases k.2.1 with e | e <;> subst e
  · exact Or.inl rfl
  · exact Or.inr rfl
theorem keI_run {w1 : Nat} (h : w1 < 87) {y : KS} (w : wl2 y) (k : keI y) : keI (F_g_run y w1).2 := by
  have f0 : ksame [(88, 1), (90, 1), (87, 12), (87, 13)] [94] y (kS (kA (kS (F_w_wipe (F_w_wipe y 88).2 90).2 87 12 0) 94 (0 : Int).toNat 0) 87 13 0) := km_s (by decide) (km_a (by decide) (km_s (by decide) (km_s (by decide) (km_s (by decide) (km_rf _ _ _)))))
  have fd := F_w_drawFrom_fr (kS (kA (kS (F_w_wipe (F_w_wipe y 88).2 90).2 87 12 0) 94 (0 : Int).toNat 0) 87 13 0) 90 w1 0
  have fw := F_g_await_fr (F_w_drawFrom (kS (kA (kS (F_w_wipe (F_w_wipe y 88).2 90).2 87 12 0) 94 (0 : Int).toNat 0) 87 13 0) 90 w1 0).2 0 (F_w_drawFrom (kS (kA (kS (F_w_wipe (F_w_wipe y 88).2 90).2 87 12 0) 94 (0 : Int).toNat 0) 87 13 0) 90 w1 0).1 1
  exact (keI_run_s h runF).1 _ 0 0 (wl2_fr fw (by decide) (wl2_fr fd (by intro h9; simp at h9) (wl2_fr f0 (by decide) w))) (keI_fr fw (by decide) (by decide) (by decide) (keI_fr fd (by intro h9; simp at h9) (by intro h9; simp at h9) (by simp) (keI_fr f0 (by decide) (by decide) (by decide) k)))
/-- run leaves the Grower at rest -/
theorem F_g_run_rest {x y : KS} (mx : mcX x) {w1 : Nat} (hw : kW w1 = true) (ne : w1 < 87) {W : List Int} (g : gR0 x y) (h : wL y w1 W) (hr : r03 (y.2 (w1 + 1))) (ok : okL (nL x) W) (h60 : W.length ≤ 60) : gR0 x (F_g_run y w1).2 := by
  obtain ⟨_, z, V, eR, gI, kn, lV, rV, nV⟩ := F_g_run_x mx hw ne g h hr ok h60
  rw [eR]
  have f := F_w_take_fr z w1 88
  obtain ⟨sm, w88, w90, fr, ok1, ok2, h6, lv, st, low, ki, gw⟩ := gI.1
  have sz : sM x (F_w_take z w1 88).2 := sM_tr sm (sM_of f (fun p hp => by rw [List.mem_singleton] at hp; rw [hp]; exact sMs_w hw) (fun a ha => by rw [List.mem_singleton] at ha; rw [ha]; exact sMa_w hw))
  exact gR0_fr ⟨sm, gw, ki, kn⟩ f sz (by intro h9; simp at h9) (fun q hq h9 => by simp at hq h9; omega)
