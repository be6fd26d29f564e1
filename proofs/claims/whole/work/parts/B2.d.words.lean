-- deps: B2.c
/-! clear, letter, slot -/
theorem slH_o {Y Z : MS} {k : Nat} (e0 : Z.1 0 = Y.1 0) (e1 : Z.2 1 k = Y.2 1 k) (e2 : ∀ i, i < 60 → Z.2 2 (128 * k + i) = Y.2 2 (128 * k + i)) (h : slH Y k) : slM Z k = slM Y k ∧ slH Z k := by
  have h1 := h.1
  have e : slM Z k = slM Y k := slM_o e1 (fun i hi => e2 i (by omega))
  exact ⟨e, by rw [e1]; exact h.1, by rw [e, e0]; exact h.2⟩
theorem wS_fr {S : List (Nat × Nat)} {A : List Nat} {x y : KS} {w : Nat} (f : ksame S A x y) (h1 : (w, 1) ∉ S) (h2 : w + 1 ∉ A) : wS y w = wS x w := by
  unfold wS
  rw [f.1 w 1 h1, f.2 _ h2]
theorem clear_R {X : KS} {Y : MS} (h : Rel X Y) : (F_t_clear X).1 = (F_m_clear Y).1 ∧ Rel (F_t_clear X).2 (F_m_clear Y).2 := by
  obtain ⟨ki, mv, sw, wd, sn⟩ := id h
  have kh := ki.2.2.2.2.2.1
  have f := F_w_wipe_fr X 4
  have g4 := wipe_G (x := X) (w := 4) kh.2.2.1
  have z : ∀ k : Nat, k < 8 → (aU Y 1 8 0).2 1 k = Y.2 1 k := fun k hk => iU_n (by omega)
  have z8 : (aU Y 1 8 0).2 1 8 = 0 := by show iU (Y.2 1) 8 0 8 = 0; exact iU_s
  have nl : slM (aU Y 1 8 0) 8 = [] := by unfold slM ltM; rw [z8]; rfl
  refine ⟨(wd_get kh.2 (mv.2.1 8 (by omega)) wd.2).1, Rel_str h f (by decide) nil_a ⟨fun j hj => ?_, g4.1⟩ (Y' := aU Y 1 8 0) (sm_a (by decide) (sm_rf _ _ _)) mv.1.2.2.2.2.2.2.2.2.2.1 (fun k hk => ?_) ⟨fun k hk => ?_, ?_⟩⟩
  · exact wG_fr f (by intro h9; simp at h9; omega) (by intro h9; simp at h9) (by decide) (kh.1 j hj)
  · by_cases e : k = 8
    · rw [e]
      exact ⟨by rw [z8]; decide, by rw [nl]; intro l hl; exact absurd hl List.not_mem_nil⟩
    · exact (slH_o (Y := Y) (Z := aU Y 1 8 0) rfl (z k (by omega)) (fun _ _ => rfl) (mv.2.1 k hk)).2
  · show wS (F_w_wipe X 4).2 (7 + 2 * k) = _
    rw [wS_fr f (by intro h9; simp at h9; omega) (by intro h9; simp at h9), wd.1 k hk]
    exact (slH_o (Y := Y) (Z := aU Y 1 8 0) rfl (z k (by omega)) (fun _ _ => rfl) (mv.2.1 k (by omega))).1.symm
  · show wS (F_w_wipe X 4).2 4 = _
    rw [wL_S g4.2, nl]
theorem isLetter_v {X : KS} {L : Int} (e : X.1 1 2 = L) (l : Int) : ((F_t_isLetter X l).1 = 0 ∧ ¬ (0 ≤ l ∧ l ≤ L - 1)) ∨ ((F_t_isLetter X l).1 = 1 ∧ (0 ≤ l ∧ l ≤ L - 1)) := by
  unfold F_t_isLetter
  rw [e]
  repeat' split
  all_goals first | exact Or.inl ⟨rfl, by omega⟩ | exact Or.inr ⟨rfl, by omega⟩
theorem letter_R {X : KS} {Y : MS} (h : Rel X Y) (z : Int) : (F_t_letter X z).1 = (F_m_letter Y z).1 ∧ Rel (F_t_letter X z).2 (F_m_letter Y z).2 := by
  obtain ⟨ki, mv, sw, wd, sn⟩ := id h
  have kh := ki.2.2.2.2.2.1
  have lt := mv.1.1
  unfold F_t_letter F_m_letter
  rcases in_v Y z 0 (Y.1 0 - 1) with ⟨p, q⟩ | ⟨p, q⟩
  · have i0 := isLetter_v sw.1 z
    rw [if_pos p, if_pos (show (F_t_isLetter X z).1 = 0 by omega)]
    exact ⟨rfl, h⟩
  · have i0 := isLetter_v sw.1 z
    rw [if_neg (show ¬ (F_m_in Y z 0 (Y.1 0 - 1)).1 = 0 by omega), if_neg (show ¬ (F_t_isLetter X z).1 = 0 by omega)]
    obtain ⟨e1, e2⟩ := wd_get kh.2 (mv.2.1 8 (by omega)) wd.2
    have w4 := wL_G kh.2
    have g1 := kh.2.1
    have T8 : ((8 : Int)).toNat = 8 := rfl
    rw [T8]
    by_cases c : Y.2 1 8 = 60
    · have pu : F_w_push X 4 z = ((0 : Int), X) := by
        unfold F_w_push
        rw [if_neg (by omega), if_neg (by show ¬ X.1 4 1 < ((60 : Nat) : Int); omega)]
      rw [if_pos c, pu, if_pos rfl]
      exact ⟨rfl, h⟩
    · have ll : (wS X 4).length < 60 := by rw [wS_len]; omega
      obtain ⟨pu, wp⟩ := push_w (y := X) (w := 4) rfl w4.1 ll z
      rw [if_neg c]
      have fr : ksame [(4, 1)] [5] X (F_w_push X 4 z).2 := F_w_push_fr X 4 z
      have pu1 : (F_w_push X 4 z).1 = 1 := by rw [pu]
      rw [if_neg (show ¬ (F_w_push X 4 z).1 = 0 by omega)]
      have s1 : (F_w_push X 4 z).2.1 4 1 = X.1 4 1 + 1 := by
        rw [pu]
        show (kS X 4 1 (X.1 4 1 + (1 : Int))).1 4 1 = _
        exact kS_s
      have r5 : r03 ((F_w_push X 4 z).2.2 5) := by
        rw [pu]
        show r03 (iU (X.2 5) (X.1 4 1).toNat z)
        have hz : 0 ≤ z ∧ z ≤ 3 := by omega
        exact iU_all (P := fun v => 0 ≤ v ∧ v ≤ 3) hz kh.2.2.1
      have nX : nL (F_w_push X 4 z).2 = nL X := by unfold nL; rw [fr.1 1 2 (by decide)]
      have eN : nL X = (Y.1 0).toNat := by unfold nL; rw [sw.1]
      have ok1 : okL (nL X) (wS X 4 ++ [z]) := okL_app.mpr ⟨kh.2.2.2, okL_1 q.1 (by rw [eN]; omega)⟩
      have g4 : wG (F_w_push X 4 z).2 4 := ⟨by rw [s1]; omega, r5, by rw [wL_S wp, nX]; exact ok1⟩
      have y1 : (aU (aU Y 2 (1024 + Y.2 1 8).toNat z) 1 8 (Y.2 1 8 + 1)).2 1 = iU (Y.2 1) 8 (Y.2 1 8 + 1) := rfl
      have y2 : (aU (aU Y 2 (1024 + Y.2 1 8).toNat z) 1 8 (Y.2 1 8 + 1)).2 2 = iU (Y.2 2) (1024 + Y.2 1 8).toNat z := rfl
      have s8 := (mv.2.1 8 (by omega)).1
      have oth : ∀ k : Nat, k < 8 → slM (aU (aU Y 2 (1024 + Y.2 1 8).toNat z) 1 8 (Y.2 1 8 + 1)) k = slM Y k ∧ slH (aU (aU Y 2 (1024 + Y.2 1 8).toNat z) 1 8 (Y.2 1 8 + 1)) k := fun k hk => slH_o rfl (by rw [y1, iU_n (by omega)]) (fun i hi => by rw [y2, iU_n (by omega)]) (mv.2.1 k (by omega))
      have e8 : slM (aU (aU Y 2 (1024 + Y.2 1 8).toNat z) 1 8 (Y.2 1 8 + 1)) 8 = slM Y 8 ++ [z] := by
        unfold slM ltM
        rw [y1, iU_s, show (Y.2 1 8 + 1).toNat = (Y.2 1 8).toNat + 1 by omega, List.range_succ, List.map_append]
        have a1 : (List.range (Y.2 1 8).toNat).map (fun i => (aU (aU Y 2 (1024 + Y.2 1 8).toNat z) 1 8 (Y.2 1 8 + 1)).2 2 (128 * 8 + i)) = (List.range (Y.2 1 8).toNat).map (fun i => Y.2 2 (128 * 8 + i)) := List.map_congr_left (fun i hi => by
          have := List.mem_range.mp hi
          rw [y2, iU_n (by omega)])
        rw [a1]
        have a2 : (aU (aU Y 2 (1024 + Y.2 1 8).toNat z) 1 8 (Y.2 1 8 + 1)).2 2 (128 * 8 + (Y.2 1 8).toNat) = z := by
          rw [y2, show 128 * 8 + (Y.2 1 8).toNat = (1024 + Y.2 1 8).toNat by omega, iU_s]
        show _ ++ [(aU (aU Y 2 (1024 + Y.2 1 8).toNat z) 1 8 (Y.2 1 8 + 1)).2 2 (128 * 8 + (Y.2 1 8).toNat)] = _
        rw [a2]
      refine ⟨?_, Rel_str h fr (by decide) (by decide) ⟨fun j hj => ?_, g4⟩ (Y' := aU (aU Y 2 (1024 + Y.2 1 8).toNat z) 1 8 (Y.2 1 8 + 1)) (sm_a (by decide) (sm_a (by decide) (sm_rf _ _ _))) ?_ (fun k hk => ?_) ⟨fun k hk => ?_, ?_⟩⟩
      · show (F_w_push X 4 z).2.1 4 1 = iU (Y.2 1) 8 (Y.2 1 8 + 1) 8
        rw [s1, iU_s, e1]
      · exact wG_fr fr (by intro h9; simp at h9; omega) (by intro h9; simp at h9; omega) (by decide) (kh.1 j hj)
      · intro k hk
        rw [y2]
        by_cases e : k = (1024 + Y.2 1 8).toNat
        · rw [e, iU_s]; omega
        · rw [iU_n e]; exact mv.1.2.2.2.2.2.2.2.2.2.1 k hk
      · by_cases e : k = 8
        · rw [e]
          refine ⟨by rw [y1, iU_s]; omega, ?_⟩
          rw [e8, ← wd.2]
          show okL (Y.1 0).toNat _
          rw [← eN]
          exact ok1
        · exact (oth k (by omega)).2
      · rw [(oth k hk).1, wS_fr fr (by intro h9; simp at h9; omega) (by intro h9; simp at h9; omega)]
        exact wd.1 k hk
      · rw [wL_S wp, e8, wd.2]
theorem slot_R {X : KS} {Y : MS} (h : Rel X Y) (k : Int) : (F_t_slot X k).1 = (F_m_slot Y k).1 ∧ Rel (F_t_slot X k).2 (F_m_slot Y k).2 := by
  obtain ⟨ki, mv, sw, wd, sn⟩ := id h
  have kh := ki.2.2.2.2.2.1
  unfold F_t_slot F_m_slot
  have i1 := isSlot_v X k
  rcases mSlot_v Y k with ⟨c, d⟩ | ⟨c, d⟩
  · rw [if_pos c, if_pos (show (F_t_isSlot X k).1 = 0 by omega)]
    exact ⟨rfl, h⟩
  · rw [if_neg (show ¬ (F_m_isSlot Y k).1 = 0 by omega), if_neg (show ¬ (F_t_isSlot X k).1 = 0 by omega)]
    have ek : k = ((k.toNat : Nat) : Int) := by omega
    have kw := kW_slot (i := k) (by omega) (by omega)
    have kl := kL_slot (i := k) (by omega) (by omega)
    have k8 : k.toNat < 8 := by omega
    generalize k.toNat = n at *
    have T := take_G (x := X) (w := 7 + 2 * n) (q := 4) kw rfl (by omega) kh.2 (kh.1 n k8).2.1 (by rw [kl]; exact kh.2.1.2)
    have ft := F_w_take_fr X (7 + 2 * n) 4
    have g5 : r03 ((F_w_take X (7 + 2 * n) 4).2.2 (4 + 1)) := by rw [ft.2 5 (by intro h9; simp at h9; omega)]; exact kh.2.2.1
    have W := wipe_G (x := (F_w_take X (7 + 2 * n) 4).2) (w := 4) g5
    have fw := F_w_wipe_fr (F_w_take X (7 + 2 * n) 4).2 4
    have f : ksame [(7 + 2 * n, 1), (4, 1)] [7 + 2 * n + 1] X (F_w_wipe (F_w_take X (7 + 2 * n) 4).2 4).2 := km_tr (km_mono (fun q hq => by rw [List.mem_singleton] at hq; rw [hq]; exact List.Mem.head _) (fun q hq => hq) ft) (km_mono (fun q hq => List.mem_cons_of_mem _ hq) (fun q hq => absurd hq List.not_mem_nil) fw)
    have gk : wG (F_w_wipe (F_w_take X (7 + 2 * n) 4).2 4).2 (7 + 2 * n) := wG_fr fw (by intro h9; simp at h9; omega) (by intro h9; simp at h9) (by decide) T.1
    have wk : wS (F_w_wipe (F_w_take X (7 + 2 * n) 4).2 4).2 (7 + 2 * n) = wS X 4 := by rw [wS_fr fw (by intro h9; simp at h9; omega) (by intro h9; simp at h9)]; exact wL_S T.2
    have s8 := mv.2.1 8 (by omega)
    have l60 : (slM Y 8).length ≤ 60 := by rw [slM_len]; have := s8.1; omega
    have C := copy_D (x := Y) (y := Y) (a := 8) (b := n) mv.1.2.2.2.2.2.2.2.2.2.1 (u := slM Y 8) ⟨by rw [slM_len]; have := s8.1; omega, rfl, s8.2, l60⟩ (by omega) (by omega)
    have fc := F_m_copy_fr Y ((8 : Int)) (n : Int)
    rw [ek]
    have C : slD Y (F_m_copy Y ((8 : Int)) (n : Int)).2 n ∧ slK Y (F_m_copy Y ((8 : Int)) (n : Int)).2 n (slM Y 8) := C
    generalize F_m_copy Y ((8 : Int)) (n : Int) = Z at C fc
    have T8 : ((8 : Int)).toNat = 8 := rfl
    rw [T8]
    have y1 : (aU Z.2 1 8 0).2 1 = iU (Z.2.2 1) 8 0 := rfl
    have y2 : (aU Z.2 1 8 0).2 2 = Z.2.2 2 := rfl
    have e0 : (aU Z.2 1 8 0).1 0 = Y.1 0 := fc.1 0 List.not_mem_nil
    have nl : slM (aU Z.2 1 8 0) 8 = [] := by unfold slM ltM; rw [y1, iU_s]; rfl
    have en : slM (aU Z.2 1 8 0) n = slM Y 8 := by
      have h9 : slM (aU Z.2 1 8 0) n = slM Z.2 n := slM_o (by rw [y1, iU_n (by omega)]) (fun _ _ => rfl)
      rw [h9]; exact C.2.2.1
    have oth : ∀ j : Nat, j < 8 → j ≠ n → slM (aU Z.2 1 8 0) j = slM Y j ∧ slH (aU Z.2 1 8 0) j := fun j hj hn => slH_o e0 (by rw [y1, iU_n (by omega)]; exact C.1.2.2.1 j hn) (fun i hi => by rw [y2]; exact C.1.2.2.2 _ (by omega) (by omega)) (mv.2.1 j (by omega))
    have sn1 : (aU Z.2 1 8 0).2 1 n = ((slM Y 8).length : Int) := by rw [y1, iU_n (by omega)]; exact C.2.1
    refine ⟨?_, Rel_str h f (fun p hp => ?_) (fun a ha => ?_) ⟨fun j hj => ?_, W.1⟩ (Y' := aU Z.2 1 8 0) (sm_a (by decide) fc) ?_ (fun j hj => ?_) ⟨fun j hj => ?_, ?_⟩⟩
    · show (F_w_wipe (F_w_take X (7 + 2 * n) 4).2 4).2.1 (7 + 2 * n) 1 = iU (Z.2.2 1) 8 0 ((n : Nat) : Int).toNat
      have h9 := congrArg List.length wk
      rw [wS_len, wd.2] at h9
      have g9 := gk.1
      rw [Int.toNat_natCast]
      rw [y1] at sn1
      rw [sn1]
      omega
    · simp only [List.mem_cons, List.not_mem_nil, or_false] at hp
      rcases hp with hp | hp <;> rw [hp] <;> constructor <;> simp only <;> omega
    · rw [List.mem_singleton] at ha; omega
    · by_cases e : j = n
      · rw [e]; exact gk
      · exact wG_fr f (by intro h9; simp at h9; omega) (by intro h9; simp at h9; omega) (by intro h9; simp at h9) (kh.1 j hj)
    · intro q hq
      rw [y2]
      exact C.1.2.1 q hq
    · by_cases e : j = 8
      · rw [e]
        exact ⟨by rw [y1, iU_s]; decide, by rw [nl]; intro l hl; exact absurd hl List.not_mem_nil⟩
      · by_cases e2 : j = n
        · rw [e2]
          exact ⟨by rw [sn1]; omega, by rw [en, e0]; exact s8.2⟩
        · exact (oth j (by omega) e2).2
    · by_cases e : j = n
      · rw [e, wk, en]; exact wd.2
      · rw [(oth j hj e).1, wS_fr f (by intro h9; simp at h9; omega) (by intro h9; simp at h9; omega)]
        exact wd.1 j hj
    · rw [wL_S W.2, nl]
