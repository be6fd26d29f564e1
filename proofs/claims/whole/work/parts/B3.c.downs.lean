-- deps: B3.b
/-! bringDown keeps the relation; reduce, like -/
theorem bd_0 {X : KS} {Y : MS} (bp : bdP X) (sn : snR X Y) (e0 : X.1 1 2 = Y.1 0) {w1 w2 : Nat} (g1 : wG X w1) (p0 : X.1 0 16 = 0) : ksame [(w2, 1)] [57, w2 + 1] X (F_t_bringDown X w1 w2).2 ∧ (X.1 0 15 ≠ 0 → X.1 56 1 ≤ 10000 → ldn (X.2 57) (X.1 56 1) → ((w2 + 1 ≠ 57) → ldn ((F_t_bringDown X w1 w2).2.2 57) (X.1 56 1) ∧ ∀ w : Int, 0 ≤ w → w < X.1 56 1 → rp ((F_t_bringDown X w1 w2).2.2 57) w = rp (X.2 57) w)) := by
  have triv : ksame [(w2, 1)] [57, w2 + 1] X X ∧ (X.1 0 15 ≠ 0 → X.1 56 1 ≤ 10000 → ldn (X.2 57) (X.1 56 1) → ((w2 + 1 ≠ 57) → ldn (X.2 57) (X.1 56 1) ∧ ∀ w : Int, 0 ≤ w → w < X.1 56 1 → rp (X.2 57) w = rp (X.2 57) w)) := ⟨km_rf _ _ _, fun _ _ h1 _ => ⟨h1, fun _ _ _ => rfl⟩⟩
  unfold F_t_bringDown
  rcases isSeen_v bp.1.1 with ⟨e1, e2⟩ | ⟨e1, e2⟩
  · rw [if_pos e1]; exact triv
  · rw [if_neg (show ¬ (F_t_isSeen X).1 = 0 by omega), if_pos p0]
    by_cases c : X.1 w1 1 ≤ X.1 0 15
    · rw [if_pos c, if_pos p0]
      have fl := F_j_leastOf_fr X (F_s_numberOf X w1).1
      have fw := F_s_write_fr (F_j_leastOf X (F_s_numberOf X w1).1).2 w2 (F_j_leastOf X (F_s_numberOf X w1).1).1
      refine ⟨km_tr (km_mono nil_p (fun q hq => by rw [List.mem_singleton] at hq; rw [hq]; exact List.Mem.head _) fl) (km_mono (fun q hq => hq) (fun q hq => List.mem_cons_of_mem _ hq) fw), fun h15 h9 hl hw => ?_⟩
      rcases sn with ⟨h1, _⟩ | ⟨m, hm⟩
      · exact absurd h1 h15
      · have sx := bp.2.2.1
        have nb := nL_b sx
        obtain ⟨v1, v2⟩ := numberOf_v sx g1 (by have := bp.2.2.2.2.2; omega)
        have m1 := hm.1
        have ll : (wS X w1).length ≤ m := by rw [wS_len]; omega
        have lx := bp.2.2.2.2.2
        have en : (F_s_numberOf X w1).1 = num (nL X) (wS X w1) := by
          rw [v1, scX_gS sx _ (by omega)]
          rfl
        have n0 := num_0 nb.1 g1.2.2
        have n1 := num_lt nb.1 g1.2.2 ll
        have ei : ((nL X : Nat) : Int) = Y.1 0 := by rw [nL_i sx]; exact e0
        rw [ei, ← hm.2.2.1.1] at n1
        have L := leastOf_x (x := X) (v := (F_s_numberOf X w1).1) hl h9 (by rw [en]; exact n0) (by rw [en]; exact n1)
        have e57 : (F_s_write (F_j_leastOf X (F_s_numberOf X w1).1).2 w2 (F_j_leastOf X (F_s_numberOf X w1).1).1).2.2 57 = (F_j_leastOf X (F_s_numberOf X w1).1).2.2 57 := fw.2 57 (fun h8 => by rw [List.mem_singleton] at h8; exact hw h8.symm)
        show ldn ((F_s_write (F_j_leastOf X (F_s_numberOf X w1).1).2 w2 (F_j_leastOf X (F_s_numberOf X w1).1).1).2.2 57) _ ∧ ∀ w : Int, 0 ≤ w → w < X.1 56 1 → rp ((F_s_write (F_j_leastOf X (F_s_numberOf X w1).1).2 w2 (F_j_leastOf X (F_s_numberOf X w1).1).1).2.2 57) w = rp (X.2 57) w
        rw [e57]
        exact L.2
    · rw [if_neg c]; exact triv
theorem bd_Rel {X : KS} {Y : MS} (h : Rel X Y) {a w2 : Nat} (ha : a < 8) (h2 : w2 = 73 ∨ w2 = 75) : Rel (F_t_bringDown X (7 + 2 * a) w2).2 Y := by
  obtain ⟨ki, mv, sw, wd, sn⟩ := id h
  have bp := KI_bd ki
  have kd := ki.2.2.2.1
  have kj := ki.2.2.2.2.2.2.1
  have kh := ki.2.2.2.2.2.1
  have g1 := kh.1 a ha
  have hw2 : kW w2 = true := by rcases h2 with e | e <;> rw [e] <;> rfl
  have hL2 : kL w2 = 60 := by rcases h2 with e | e <;> rw [e] <;> rfl
  have k1 := kW_slot (i := (a : Int)) (by omega) (by omega)
  have k2 := kL_slot (i := (a : Int)) (by omega) (by omega)
  rw [Int.toNat_natCast] at k1 k2
  have r2 : r03 (X.2 (w2 + 1)) := by
    rcases h2 with e | e <;> rw [e]
    · exact kd.1
    · exact kd.2.1
  have Bb := (bringDown_x bp k1 hw2 (by omega) k2 hL2 (by omega) g1 r2).1
  have Br := (bringDown_x bp k1 hw2 (by omega) k2 hL2 (by omega) g1 r2).2.1
  have f := F_t_bringDown_fr X (7 + 2 * a) w2
  have b0 := fun p0 => bd_0 (w2 := w2) bp sn sw.1 g1 p0
  have b1 : X.1 0 16 = 1 → gfr [(70, 4), (70, 5), (64, 8), (w2, 1)] [71, 72, w2 + 1] X (F_t_bringDown X (7 + 2 * a) w2).2 ∧ (rOK X → rOK (F_t_bringDown X (7 + 2 * a) w2).2) := fun p1 => by
    have ok2 := Bb.2.2.2.2.1
    rw [f.1 0 16 (by decide) (by intro h9; simp at h9 <;> omega)] at ok2
    refine ⟨?_, fun _ => ok2 p1⟩
    unfold F_t_bringDown
    rcases isSeen_v bp.1.1 with ⟨e1, e2⟩ | ⟨e1, e2⟩
    · rw [if_pos e1]; exact gm_rf _ _ _
    · rw [if_neg (show ¬ (F_t_isSeen X).1 = 0 by omega), if_neg (show ¬ X.1 0 16 = 0 by omega), if_neg (show ¬ X.1 0 16 = 0 by omega)]
      have fr := F_r_run_fr X (7 + 2 * a) w2
      by_cases c : (F_r_run X (7 + 2 * a) w2).1 = 0
      · rw [if_pos c]; exact gm_mono (fun q hq => by simp only [List.mem_cons, List.not_mem_nil, or_false] at hq ⊢; exact hq) (fun q hq => by simp only [List.mem_cons, List.not_mem_nil, or_false] at hq ⊢; omega) fr
      · rw [if_neg c]; exact gm_mono (fun q hq => by simp only [List.mem_cons, List.not_mem_nil, or_false] at hq ⊢; exact hq) (fun q hq => by simp only [List.mem_cons, List.not_mem_nil, or_false] at hq ⊢; omega) fr
  generalize (F_t_bringDown X (7 + 2 * a) w2) = Q at *
  have p01 := bp.2.1
  have okX := ki.2.2.2.2.1.2.2.2
  refine Rel_gen h f (fun p hp => ?_) (fun q hq => ?_) Bb.2.2.2.1 (fun h15 h9 hl => ?_) (fun p1 ok => (b1 p1).2 ok) ?_ ?_ (KH_g f (fun p hp => ?_) (fun q hq => ?_) kh) (KJ_g f (fun p hp h9 => ?_) (fun q hq h9 => ?_) kj) (sm_rf [] [] Y) nil_a nil_a (fun q => q) (fun _ _ _ _ => rfl) (fun q => q) mv (wdE_g f (fun p hp => ?_) (fun q hq => ?_) wd)
  · simp only [List.mem_cons, List.not_mem_nil, or_false] at hp
    unfold okS
    rcases h2 with e | e <;> rw [e] at hp <;> rcases hp with hp | hp | hp | hp <;> rw [hp] <;> decide
  · simp only [List.mem_cons, List.not_mem_nil, or_false] at hq
    unfold okA
    rcases h2 with e | e <;> rw [e] at hq <;> rcases hq with hq | hq | hq | hq <;> rw [hq] <;> decide
  · rcases p01 with p0 | p1
    · exact (b0 p0).2 h15 h9 hl (by omega)
    · rw [(b1 p1).1.2 57 (by decide) (by intro h8; simp at h8 <;> omega)]
      exact ⟨hl, fun _ _ _ => rfl⟩
  · rcases p01 with p0 | p1
    · exact KB_k (b0 p0).1 (fun p hp => by rw [List.mem_singleton] at hp; rw [hp]; constructor <;> intro h9 <;> simp at h9 <;> omega) (fun q hq h9 => by simp only [List.mem_cons, List.not_mem_nil, or_false] at hq h9; omega) ki.2.1
    · exact KB_ok ((b1 p1).2 (okX p1))
  · rcases h2 with e | e
    · rw [e] at Br f
      exact ⟨Br, by rw [f.2 76 (by decide) (by decide)]; exact kd.2.1, by rw [f.2 78 (by decide) (by decide)]; exact kd.2.2⟩
    · rw [e] at Br f
      exact ⟨by rw [f.2 74 (by decide) (by decide)]; exact kd.1, Br, by rw [f.2 78 (by decide) (by decide)]; exact kd.2.2⟩
  · simp only [List.mem_cons, List.not_mem_nil, or_false] at hp
    rcases h2 with e | e <;> rw [e] at hp <;> rcases hp with hp | hp | hp | hp <;> rw [hp] <;> decide
  · simp only [List.mem_cons, List.not_mem_nil, or_false] at hq
    omega
  · simp only [List.mem_cons, List.not_mem_nil, or_false] at hp h9
    rcases h2 with e | e <;> rw [e] at hp <;> rcases hp with hp | hp | hp | hp <;> rw [hp] at h9 <;> revert h9 <;> decide
  · simp only [List.mem_cons, List.not_mem_nil, or_false] at hq h9
    omega
  · simp only [List.mem_cons, List.not_mem_nil, or_false] at hp
    rcases h2 with e | e <;> rw [e] at hp <;> rcases hp with hp | hp | hp | hp <;> rw [hp] <;> decide
  · simp only [List.mem_cons, List.not_mem_nil, or_false] at hq
    omega
