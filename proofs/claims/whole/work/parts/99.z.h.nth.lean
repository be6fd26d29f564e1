-- deps: 99.z.g
theorem pick_E {x y : MS} {i9 : Int} (f : slF x y) (mz : mzH x) (cy : cyI x x 31) (hwy : wyR x) (i0 : 0 ≤ i9) (ri : iRL i9) : (iRL i9 ∧ auOK y ∧ 1 ≤ y.1 24 ∧ wyR y ∧ wyOK y) ∧ (((F_m_pick y i9 ((9 : Int))).1 = 0 ∧ (F_m_pick y i9 ((9 : Int))).2 = y ∧ rk1 x 31 ≤ i9) ∨ ((F_m_pick y i9 ((9 : Int))).1 = 1 ∧ slD y (F_m_pick y i9 ((9 : Int))).2 9 ∧ ∃ w, slK x (F_m_pick y i9 ((9 : Int))).2 9 w ∧ w.length ≤ 30 ∧ noL (lM x) (x.1 12).toNat w ∧ rkV x w = i9)) := by
  obtain ⟨my, eL, eR, e12, e0⟩ := mz_e f mz
  have nx : ∀ a c : Int, (F_m_next y a c).1 = (F_m_next x a c).1 := fun a c => nx_same f.1 (by decide) (by decide) (by decide) (by decide) a c
  have e28 : y.2 28 = x.2 28 := f.1.2 28 (by decide)
  have e24 : y.1 24 = x.1 24 := f.1.1 24 List.not_mem_nil
  have auy := plX_auOK my.1
  have st := rkA_b (rkA_0 my.1 [])
  have cyy : cyI y y 31 := fun j g h1 h2 => by rw [e28, wN_e nx e0]; exact cy j g h1 (by omega)
  have wyy : wyR y := by unfold wyR; rw [e28]; exact hwy
  have woy := cy_wyOK auy (sm_rf _ _ _) cyy
  refine ⟨⟨ri, auy, by omega, wyy, woy⟩, ?_⟩
  have fr := F_m_pick_fr y i9 ((9 : Int))
  rcases F_m_pick_p y i9 ((9 : Int)) ri i0 (by decide) (by decide) auy (by omega) wyy woy my.1 cyy f.2.1 with ⟨h1, h2, h3⟩ | ⟨h1, h2, h3, h4, h5, h6, h7, h8⟩
  · exact Or.inl ⟨h1, h2, by rw [← rk1_e nx e0]; exact h3⟩
  · refine Or.inr ⟨h1, ⟨sm_mono (by decide) (by decide) fr, h3, fun j hj => by rw [h2]; exact iU_n hj, fun i hi _ => h4 i hi⟩, slM (F_m_pick y i9 ((9 : Int))).2 9, ⟨by rw [h2]; exact iU_s, rfl, by rw [← e0]; exact h6, Nat.le_trans h5 (by decide)⟩, h5, by rw [← eL, ← e12]; exact h7, by rw [← rkV_e nx e0]; exact h8⟩

def ntQ (x : MS) (i0 k : Int) (q : Int × MS) : Prop := (¬ (0 ≤ k ∧ k ≤ 7) ∧ q = (-1, x)) ∨ ((0 ≤ k ∧ k ≤ 7) ∧ ((i0 < 0 ∧ q = (-2, x)) ∨ (0 ≤ i0 ∧ (((F_m_isMachine x).1 = 0 ∧ q = (-3, x)) ∨ (¬ (F_m_isMachine x).1 = 0 ∧ ((q = (-9, x) ∧ rk1 x 31 ≤ i0) ∨ ∃ w, noL (lM x) (x.1 12).toNat w ∧ w.length ≤ 30 ∧ rkV x w = i0 ∧ q.1 = (w.length : Int) ∧ slC x q.2 k.toNat w))))))
theorem nt_5 {x : MS} {i0 k : Int} (hk : 0 ≤ k ∧ k ≤ 7) (hi : 0 ≤ i0) (hm : ¬ (F_m_isMachine x).1 = 0) (mz : mzH x) (cy : cyI x x 31) (hwy : wyR x) (hrw : rwR x) (ri : iRL i0) (h : ¬ (F_m_pick x i0 ((9 : Int))).1 = 0) : ntQ x i0 k ((F_m_copy (F_m_pick x i0 ((9 : Int))).2 ((9 : Int)) k).2.2 1 k.toNat, (F_m_copy (F_m_pick x i0 ((9 : Int))).2 ((9 : Int)) k).2) := by
  obtain ⟨_, d, w, kw, wl, wn, wr⟩ := (pick_E (slF_0 hrw) mz cy hwy hi ri).2.resolve_left (fun h9 => h h9.1)
  have C := slC_c (c := k.toNat) (slD_F (slF_0 hrw) d (by decide)) kw (by omega)
  rw [show (k.toNat : Int) = k by omega] at C
  exact Or.inr ⟨hk, Or.inr ⟨hi, Or.inr ⟨hm, Or.inr ⟨w, wn, wl, wr, C.2.2.2.2.1, C⟩⟩⟩⟩
theorem nt_9 {x : MS} {i0 k : Int} (hk : 0 ≤ k ∧ k ≤ 7) (hi : 0 ≤ i0) (hm : ¬ (F_m_isMachine x).1 = 0) (mz : mzH x) (cy : cyI x x 31) (hwy : wyR x) (hrw : rwR x) (ri : iRL i0) (h : (F_m_pick x i0 ((9 : Int))).1 = 0) : ntQ x i0 k (-9, (F_m_pick x i0 ((9 : Int))).2) := by
  rcases (pick_E (slF_0 hrw) mz cy hwy hi ri).2 with ⟨_, h2, h3⟩ | ⟨h1, _⟩
  · exact Or.inr ⟨hk, Or.inr ⟨hi, Or.inr ⟨hm, Or.inl ⟨by rw [h2], h3⟩⟩⟩⟩
  · exact absurd (h.symm.trans h1) (by decide)
set_option maxHeartbeats 4000000 in
theorem F_m_nth_p (x : MS) (i0 : Int) (k : Int) (ri : iRL i0) (mz : ¬ (F_m_isMachine x).1 = 0 → mzH x) (hrw : rwR x) (cy : ¬ (F_m_isMachine x).1 = 0 → cyI x x 31) (hwy : wyR x) : ntQ x i0 k (F_m_nth (x) (i0) (k)) := by
  unfold F_m_nth
  by_cases c_4 : ((F_m_isSlot (x) (k)).1) = (0)
  · rw [if_pos c_4]
    exact Or.inl ⟨F_in_00 (by rw [← F_m_isSlot_1 x k]; exact c_4), rfl⟩
  · rw [if_neg c_4]
    obtain ⟨k0, k1⟩ := F_in_1 (by rw [← F_m_isSlot_1 x k]; exact c_4)
    by_cases c_12 : (0) ≤ (iC (i0) ((0 : Int)))
    · rw [if_pos c_12]
      have ii0 : 0 ≤ i0 := by rcases Int.lt_trichotomy i0 0 with q9 | q9 | q9 <;> first | omega | (exfalso; have := (iC_lt (a := i0) (b := 0)).mpr q9; omega)
      by_cases c_22 : ((F_m_isMachine (x)).1) = (0)
      · rw [if_pos c_22]
        exact Or.inr ⟨by omega, Or.inr ⟨ii0, Or.inl ⟨c_22, rfl⟩⟩⟩
      · rw [if_neg c_22]
        by_cases c_35 : ((F_m_pick (x) (i0) ((9 : Int))).1) = (0)
        · rw [if_pos c_35]
          exact nt_9 (by omega) ii0 c_22 (mz c_22) (cy c_22) hwy hrw ri c_35
        · rw [if_neg c_35]
          exact nt_5 (by omega) ii0 c_22 (mz c_22) (cy c_22) hwy hrw ri c_35
    · rw [if_neg c_12]
      exact Or.inr ⟨by omega, Or.inl ⟨iC_lt.mp (by omega), rfl⟩⟩
