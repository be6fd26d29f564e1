-- deps: 30 31 32 33 34 35 36 37 38 39 40 41 42 43 46 70 71 72 73 74 75 76 77 78 79 80 81 82 83 84 85 86 87 88 89 90 91 92 93 94.a 94.b 94.c
/-! a level is closed; LETTERS come back till one brings in a LEFT side -/
def gSp (y : KS) : Int := if y.2 100 (lvl y) = 0 then y.2 98 (lvl y) else 0
def gTa (y : KS) : KS := (F_k_take y (y.2 95 (lvl y)) (y.2 96 (lvl y)) (gSp y)).2
def gCl (y : KS) : KS := kS (F_k_keep (gTa y) ((gTa y).1 87 12 + (if y.2 99 (lvl y) = 0 then 0 else gSp y)) ((gTa y).1 88 1 - (if y.2 99 (lvl y) = 0 then gSp y else 0))).2 87 13 (y.1 87 13 - 1)
theorem F_k_take_s_fr (h9 t9 v : Int) : ∀ (n : Nat) (y : KS) (i : Int), ksame [(101, 5), (101, 6)] [] y (F_k_take_s n 0 y h9 t9 v i).2 := by
  intro n
  induction n with
  | zero => intro y i; exact km_rf _ _ _
  | succ n ih =>
    intro y i
    rw [F_k_take_e0]
    split
    · exact km_rf _ _ _
    · refine km_tr ?_ (ih _ _)
      unfold F_k_drop
      split
      · exact km_s (by decide) (km_rf _ _ _)
      · exact km_s (by decide) (km_rf _ _ _)
theorem gTa_fr (y : KS) : ksame [(101, 5), (101, 6)] [] y (gTa y) := km_tr (km_s (by decide) (km_s (by decide) (km_rf _ _ _))) (F_k_take_s_fr _ _ _ _ _ _)
theorem growOn_e (n : Nat) (y : KS) (i : Int) : F_g_growOn_s (n + 1) 0 y i = if 240 ≤ i then (0, y) else if y.2 97 (lvl y) ≤ 0 then (if y.1 87 13 ≤ 0 then (0, y) else F_g_growOn_s n 0 (gCl y) (i + 1)) else (if (F_g_grow (gTk y)).1 = 0 then F_g_growOn_s n 0 (F_g_grow (gTk y)).2 (i + 1) else (1, kA (F_g_grow (gTk y)).2 98 ((F_g_grow (gTk y)).2.1 87 13).toNat 0)) := by
  rw [F_g_growOn_e0]
  by_cases c1 : 240 ≤ i
  · rw [if_pos c1, if_pos c1]
  · rw [if_neg c1, if_neg c1]
    have cl : (y.1 87 13).toNat = lvl y := rfl
    rw [cl]
    by_cases c2 : y.2 97 (lvl y) ≤ 0
    · rw [if_pos c2, if_pos c2]
      by_cases c3 : y.1 87 13 ≤ 0
      · rw [if_pos c3, if_pos c3]
      · rw [if_neg c3, if_neg c3]
        have key : ∀ v, gSp y = v → (∀ z, z = (F_k_take y (y.2 95 (lvl y)) (y.2 96 (lvl y)) v).2 → z = gTa y) := fun v hv z hz => by rw [hz, ← hv]; rfl
        by_cases c4 : y.2 100 (lvl y) = 0
        · rw [if_pos c4]
          have hs : gSp y = y.2 98 (lvl y) := by unfold gSp; rw [if_pos c4]
          rw [key _ hs _ rfl]
          have e99 : (gTa y).2 99 ((gTa y).1 87 13).toNat = y.2 99 (lvl y) := by rw [(gTa_fr y).2 99 (by decide), (gTa_fr y).1 87 13 (by decide)]; rfl
          have eK : ∀ f t, (F_k_keep (gTa y) f t).2.1 87 13 = y.1 87 13 := fun f t => by rw [(F_k_keep_fr _ f t).1 87 13 (by decide), (gTa_fr y).1 87 13 (by decide)]
          rw [e99]
          unfold gCl
          by_cases c5 : y.2 99 (lvl y) = 0
          · rw [if_pos c5, if_pos c5, if_pos c5, if_pos c5, eK, hs]
          · rw [if_neg c5, if_neg c5, if_neg c5, if_neg c5, eK, hs]
        · rw [if_neg c4]
          have hs : gSp y = 0 := by unfold gSp; rw [if_neg c4]
          rw [key _ hs _ rfl]
          have e99 : (gTa y).2 99 ((gTa y).1 87 13).toNat = y.2 99 (lvl y) := by rw [(gTa_fr y).2 99 (by decide), (gTa_fr y).1 87 13 (by decide)]; rfl
          have eK : ∀ f t, (F_k_keep (gTa y) f t).2.1 87 13 = y.1 87 13 := fun f t => by rw [(F_k_keep_fr _ f t).1 87 13 (by decide), (gTa_fr y).1 87 13 (by decide)]
          rw [e99]
          unfold gCl
          by_cases c5 : y.2 99 (lvl y) = 0
          · rw [if_pos c5, if_pos c5, if_pos c5, if_pos c5, eK, hs]
          · rw [if_neg c5, if_neg c5, if_neg c5, if_neg c5, eK, hs]
    · rw [if_neg c2, if_neg c2]
      rfl
