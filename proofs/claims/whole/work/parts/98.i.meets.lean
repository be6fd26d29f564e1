-- deps: 98.e 98.f 98.h
/-! The meetings of LEFT sides, as lists: leftPart, copy, meets, encloses -/
theorem ln_and (a b : Nat) : lN a &&& lN b = lN (a &&& b) := by
  apply Int64.toBitVec_inj.1
  show BitVec.ofNat 64 a &&& BitVec.ofNat 64 b = BitVec.ofNat 64 (a &&& b)
  apply BitVec.eq_of_getLsbD_eq
  intro i hi
  simp [hi]
theorem iN_v {a k : Nat} (ha : a < 2 ^ 62) : iN (a : Int) ((2 ^ k - 1 : Nat) : Int) = ((a % 2 ^ k : Nat) : Int) := by
  unfold iN
  have h : a % 2 ^ k ≤ a := Nat.mod_le _ _
  rw [iL_n, iL_n, ln_and, Nat.and_two_pow_sub_one_eq_mod, pf_lI (by omega)]
theorem vl_fold (n : Nat) : ∀ (b : List Int) (s : Nat), b.foldl (fun a l => a * n + l.toNat) s = s * n ^ b.length + vl n b := by
  intro b
  induction b with
  | nil => intro s; show s = s * n ^ 0 + 0; rw [Nat.pow_zero, Nat.mul_one, Nat.add_zero]
  | cons l t ih =>
    intro s
    show t.foldl (fun a l => a * n + l.toNat) (s * n + l.toNat) = s * n ^ (t.length + 1) + t.foldl (fun a l => a * n + l.toNat) (0 * n + l.toNat)
    rw [ih, ih, Nat.pow_succ, Nat.zero_mul, Nat.zero_add, Nat.add_mul, Nat.mul_comm (n ^ t.length) n, ← Nat.mul_assoc, Nat.add_assoc]
theorem vl_app (n : Nat) (a b : List Int) : vl n (a ++ b) = vl n a * n ^ b.length + vl n b := by
  show (a ++ b).foldl _ 0 = _
  rw [List.foldl_append]
  exact vl_fold n b _
theorem vl_mid {a b c : List Int} (ob : okL 4 b) (oc : okL 4 c) : vl 4 (a ++ (b ++ c)) / 4 ^ c.length % 4 ^ b.length = vl 4 b := by
  have hb := vl4_lt ob
  have hc := vl4_lt oc
  have p : 0 < 4 ^ c.length := Nat.pow_pos (by decide)
  rw [← List.append_assoc, vl_app, Nat.add_comm, Nat.add_mul_div_right _ _ p, Nat.div_eq_of_lt hc, Nat.zero_add, vl_app, Nat.add_comm, Nat.add_mul_mod_self_right]
  exact Nat.mod_eq_of_lt hb
theorem mc_code {x : KS} (m : mcX x) {r : Nat} (hr : r < nR x) : r < 40 ∧ x.2 60 r = ((lS x r).length : Int) ∧ x.2 61 r = ((rS x r).length : Int) ∧ x.2 62 r = ((vl 4 (lS x r) : Nat) : Int) ∧ (lS x r).length ≤ 20 ∧ (rS x r).length ≤ (lS x r).length := by
  obtain ⟨sx, ru, re, so, ma, ml⟩ := id m
  have h58 := ru.1
  have hr' : (r : Int) < x.1 58 6 := by unfold nR at hr; omega
  obtain ⟨G, B, G', B', h1, h2, h3, h4, h5, h6, h7, h8, h9, h10⟩ := re r hr'
  have nb := nL_b sx
  have g20 := sx.1.2.1
  have e := lS_v (x := x) (r := r) (by omega) nb.1 nb.2 h4 (by omega) h5
  have a := mc_ahd m hr
  have b60 := ru.2.2.1 r
  have b61 := ru.2.2.2.1 r
  refine ⟨by omega, ?_, ?_, ?_, a.2.1, ?_⟩
  · rw [lS_len]; omega
  · rw [rS_len]; omega
  · rw [h5, e]
  · rcases a.1 with h | h
    · omega
    · omega
theorem tdsplit (u : List Int) {f t : Nat} (h1 : f ≤ t) (h2 : t ≤ u.length) : u = u.take f ++ (((u.take t).drop f) ++ u.drop t) ∧ ((u.take t).drop f).length = t - f := by
  constructor
  · have e : u.take f = (u.take t).take f := by rw [List.take_take, Nat.min_eq_left h1]
    rw [e, ← List.append_assoc, List.take_append_drop, List.take_append_drop]
  · rw [List.length_drop, List.length_take, Nat.min_eq_left h2]
theorem F_u_leftPart_x {x : KS} (m : mcX x) {r : Nat} (hr : r < nR x) {f t : Nat} (h1 : f ≤ t) (h2 : t ≤ (lS x r).length) : (F_u_leftPart x (r : Int) (f : Int) (t : Int)).1 = ((vl 4 (((lS x r).take t).drop f) : Nat) : Int) := by
  obtain ⟨r40, c60, c61, c62, l20, _⟩ := mc_code m hr
  have ok4 : okL 4 (lS x r) := okL4 m (mc_ahd m hr).2.2.1
  obtain ⟨sp, ln⟩ := tdsplit (lS x r) h1 h2
  have ob : okL 4 (((lS x r).take t).drop f) := fun l hl => ok4 l (List.mem_of_mem_take (List.mem_of_mem_drop hl))
  have oc : okL 4 ((lS x r).drop t) := fun l hl => ok4 l (List.mem_of_mem_drop hl)
  have hC := vl4_lt ok4
  have p20 : 4 ^ (lS x r).length ≤ 4 ^ 20 := Nat.pow_le_pow_right (by decide) l20
  have n20 : (4 : Nat) ^ 20 < 2 ^ 62 := by decide
  unfold F_u_leftPart
  rw [if_neg (by omega), if_pos (by omega), Int.toNat_natCast, c60, c62]
  show iN (iSr ((vl 4 (lS x r) : Nat) : Int) (2 * (((lS x r).length : Int) - (t : Int)))) (iSl 1 (2 * ((t : Int) - (f : Int))) - 1) = _
  have e1 : (2 : Int) * (((lS x r).length : Int) - (t : Int)) = ((2 * ((lS x r).length - t) : Nat) : Int) := by omega
  have e2 : (2 : Int) * ((t : Int) - (f : Int)) = ((2 * (t - f) : Nat) : Int) := by omega
  have p2 : (1 : Nat) * 2 ^ (2 * (t - f)) < 2 ^ 63 := by
    have : (2 : Nat) ^ (2 * (t - f)) ≤ 2 ^ 40 := Nat.pow_le_pow_right (by decide) (by omega)
    have : (2 : Nat) ^ 40 < 2 ^ 63 := by decide
    omega
  have one : (1 : Int) = ((1 : Nat) : Int) := rfl
  have e3 : iSl 1 ((2 * (t - f) : Nat) : Int) = ((1 * 2 ^ (2 * (t - f)) : Nat) : Int) := iSl_v (a := 1) (by omega) p2
  have pos : 1 ≤ 2 ^ (2 * (t - f)) := Nat.one_le_pow _ _ (by decide)
  have e4 : (((1 * 2 ^ (2 * (t - f)) : Nat) : Int) - 1) = ((2 ^ (2 * (t - f)) - 1 : Nat) : Int) := by rw [Nat.one_mul]; omega
  rw [e1, iSr_v (by omega) (by omega), e2, e3, e4, iN_v (Nat.lt_of_le_of_lt (Nat.div_le_self _ _) (by omega)), k4_2, k4_2]
  have ld : ((lS x r).drop t).length = (lS x r).length - t := List.length_drop
  have := vl_mid (a := (lS x r).take f) ob oc
  rw [← sp, ln, ld] at this
  rw [this]
/-- a side of a RULE -/
def sd (x : KS) (b : Int) (r : Nat) : List Int := if b = 0 then rS x r else lS x r
theorem sd_get {x : KS} {b : Int} {r i : Nat} (hb : b = 0 ∨ b = 1) (hi : i < (sd x b r).length) : (sd x b r)[i] = (F_u_signAt x (r : Int) b (i : Int)).1 := by
  rcases hb with e | e <;> subst e
  · have e : sd x 0 r = rS x r := rfl
    simp only [e]
    unfold rS
    rw [List.getElem_map, List.getElem_range]
  · have e : sd x 1 r = lS x r := rfl
    simp only [e]
    unfold lS
    rw [List.getElem_map, List.getElem_range]
theorem push_x {y : KS} {w : Nat} {P : List Int} {v : Int} (h60 : kL w = 60) (h : wL y w P) (hl : P.length < 60) : (F_w_push y w v).1 = 1 ∧ wL (F_w_push y w v).2 w (P ++ [v]) := by
  have pu : F_w_push y w v = (1, kA (kS y w 1 (y.1 w 1 + 1)) (w + 1) (y.1 w 1).toNat v) := by
    unfold F_w_push
    rw [h.1, if_neg (by omega), if_pos (by rw [h60]; show (P.length : Int) < 60; omega)]
  rw [pu]
  exact ⟨rfl, wL_push h rfl⟩
theorem sM_push {x y : KS} {w : Nat} (hw : kW w = true) {v : Int} (sm : sM x y) : sM x (F_w_push y w v).2 := sM_tr sm (sM_of (F_w_push_fr y w v) (fun p hp => by rw [List.mem_singleton] at hp; rw [hp]; exact sMs_w hw) (fun a ha => by rw [List.mem_singleton] at ha; rw [ha]; exact sMa_w hw))
theorem F_u_copy_s_x {x : KS} {w : Nat} (hw : kW w = true) (h60 : kL w = 60) {b : Int} (hb : b = 0 ∨ b = 1) {r t : Nat} (ht : t ≤ (sd x b r).length) (f : Int) : ∀ (n : Nat) (y : KS) (P : List Int) (i : Nat), sM x y → wL y w P → i ≤ t → t - i < n → P.length + (t - i) ≤ 60 → wL (F_u_copy_s w n 0 y (r : Int) b f (t : Int) (i : Int)).2 w (P ++ ((sd x b r).take t).drop i) := by
  intro n
  induction n with
  | zero => intro y P i _ _ h1 h2; exfalso; omega
  | succ n ih =>
    intro y P i sm h h1 h2 h3
    rw [F_u_copy_e0]
    by_cases c : t ≤ i
    · rw [if_pos (by omega)]
      have e : i = t := by omega
      subst e
      rw [List.drop_of_length_le (by rw [List.length_take]; omega), List.append_nil]
      exact h
    · rw [if_neg (by omega)]
      have hlt : i < ((sd x b r).take t).length := by rw [List.length_take]; omega
      rw [List.drop_eq_getElem_cons hlt, List.getElem_take, sd_get hb (by omega), ← sM_sg sm]
      have pu := push_x (v := (F_u_signAt y (r : Int) b (i : Int)).1) h60 h (by omega)
      have := ih _ _ (i + 1) (sM_push hw sm) pu.2 (by omega) (by omega) (by rw [List.length_append, List.length_singleton]; omega)
      rw [show P ++ (F_u_signAt y (r : Int) b (i : Int)).1 :: ((sd x b r).take t).drop (i + 1) = P ++ [(F_u_signAt y (r : Int) b (i : Int)).1] ++ ((sd x b r).take t).drop (i + 1) by simp]
      exact this
theorem F_u_copy_s_r {w : Nat} : ∀ (n : Nat) (y : KS) (r b f t i : Int), r03 (y.2 (w + 1)) → r03 ((F_u_copy_s w n 0 y r b f t i).2.2 (w + 1)) := by
  intro n
  induction n with
  | zero => intro y r b f t i h; exact h
  | succ n ih =>
    intro y r b f t i h
    rw [F_u_copy_e0]
    split
    · exact h
    · refine ih _ _ _ _ _ _ ?_
      have sb := F_u_signAt_b y r b i
      unfold F_w_push
      repeat' split
      all_goals first | exact h | (rw [kA_s, kS_2]; exact r03_U h sb.1 sb.2)
/-- one copying -/
theorem copy_G {x y : KS} (sm : sM x y) {w : Nat} (hw : kW w = true) (h60 : kL w = 60) {b : Int} (hb : b = 0 ∨ b = 1) {r f t : Nat} {P : List Int} (h : wL y w P) (ft : f ≤ t) (ht : t ≤ (sd x b r).length) (hl : P.length + (t - f) ≤ 60) (r3 : r03 (y.2 (w + 1))) : sM x (F_u_copy y w (r : Int) b (f : Int) (t : Int)).2 ∧ wL (F_u_copy y w (r : Int) b (f : Int) (t : Int)).2 w (P ++ ((sd x b r).take t).drop f) ∧ r03 ((F_u_copy y w (r : Int) b (f : Int) (t : Int)).2.2 (w + 1)) := by
  have fr := F_u_copy_fr y w (r : Int) b (f : Int) (t : Int)
  refine ⟨sM_tr sm (sM_of fr (fun p hp => by rw [List.mem_singleton] at hp; rw [hp]; exact sMs_w hw) (fun a ha => by rw [List.mem_singleton] at ha; rw [ha]; exact sMa_w hw)), ?_, ?_⟩
  · unfold F_u_copy
    rw [show max ((f : Nat) : Int) 0 = ((f : Nat) : Int) by omega]
    exact F_u_copy_s_x hw h60 hb ht _ 1010 y P f sm h ft (by omega) hl
  · unfold F_u_copy
    exact F_u_copy_s_r _ _ _ _ _ _ _ r3
theorem spanOf_x {x y : KS} (m : mcX x) (sm : sM x y) {r : Nat} (hr : r < nR x) {b : Int} (hb : b = 0 ∨ b = 1) : (F_u_spanOf y (r : Int) b).1 = ((sd x b r).length : Int) := by
  obtain ⟨r40, c60, c61, c62, l20, _⟩ := mc_code m hr
  unfold F_u_spanOf
  rw [if_neg (by omega), if_pos (by omega), Int.toNat_natCast]
  rcases hb with e | e <;> subst e
  · rw [if_pos rfl]
    show y.2 61 r = ((rS x r).length : Int)
    rw [sm.2.1.2.2.2.1]; exact c61
  · rw [if_neg (by decide)]
    show y.2 60 r = ((lS x r).length : Int)
    rw [sm.2.1.2.2.1]; exact c60
theorem sd_1 (x : KS) (r : Nat) : sd x 1 r = lS x r := rfl
theorem sd_0 (x : KS) (r : Nat) : sd x 0 r = rS x r := rfl
theorem td0 (u : List Int) : (u.take u.length).drop 0 = u := by rw [List.take_length, List.drop_zero]
/-- both STRINGS of the proof -/
def st2 (x z : KS) (A B : List Int) : Prop := sM x z ∧ wL z 73 A ∧ wL z 75 B ∧ r03 (z.2 74) ∧ r03 (z.2 76)
theorem cp73 {x z : KS} {b : Int} (hb : b = 0 ∨ b = 1) {r f t : Nat} {P : List Int} (sm : sM x z) (h : wL z 73 P) (ft : f ≤ t) (ht : t ≤ (sd x b r).length) (hl : P.length + (t - f) ≤ 60) (r3 : r03 (z.2 74)) (r6 : r03 (z.2 76)) : sM x (F_u_copy z 73 (r : Int) b (f : Int) (t : Int)).2 ∧ wL (F_u_copy z 73 (r : Int) b (f : Int) (t : Int)).2 73 (P ++ ((sd x b r).take t).drop f) ∧ r03 ((F_u_copy z 73 (r : Int) b (f : Int) (t : Int)).2.2 74) ∧ r03 ((F_u_copy z 73 (r : Int) b (f : Int) (t : Int)).2.2 76) := by
  have c := copy_G sm (w := 73) rfl rfl hb (r := r) h ft ht hl r3
  refine ⟨c.1, c.2.1, c.2.2, ?_⟩
  rw [(F_u_copy_fr z 73 (r : Int) b (f : Int) (t : Int)).2 76 (by decide)]
  exact r6
theorem cp75 {x z : KS} {b : Int} (hb : b = 0 ∨ b = 1) {r f t : Nat} {A P : List Int} (h : st2 x z A P) (ft : f ≤ t) (ht : t ≤ (sd x b r).length) (hl : P.length + (t - f) ≤ 60) : st2 x (F_u_copy z 75 (r : Int) b (f : Int) (t : Int)).2 A (P ++ ((sd x b r).take t).drop f) := by
  obtain ⟨sm, ha, hp, r3, r6⟩ := h
  have c := copy_G sm (w := 75) rfl rfl hb (r := r) hp ft ht hl r6
  have fr := F_u_copy_fr z 75 (r : Int) b (f : Int) (t : Int)
  exact ⟨c.1, wL_fr fr (by decide) (by decide) ha, c.2.1, by rw [fr.2 74 (by decide)]; exact r3, c.2.2⟩
theorem wp75 {x z : KS} {A : List Int} (sm : sM x z) (ha : wL z 73 A) (r3 : r03 (z.2 74)) (r6 : r03 (z.2 76)) : st2 x (F_w_wipe z 75).2 A [] := ⟨sM_s sm (sMs_w rfl), wL_fr (F_w_wipe_fr z 75) (by decide) (by decide) ha, ⟨kS_s, rfl⟩, r3, r6⟩
def mt1 (x : KS) (r : Int) : KS := (F_u_copy (F_w_wipe x 73).2 73 r 0 0 (F_u_spanOf (F_w_wipe x 73).2 r 0).1).2
def mt2 (z : KS) (q v : Int) : KS := (F_u_copy z 73 q 1 v (F_u_spanOf z q 1).1).2
def mt4 (z : KS) (r t : Int) : KS := (F_u_copy (F_w_wipe z 75).2 75 r 1 0 t).2
def mt5 (z : KS) (q : Int) : KS := (F_u_copy z 75 q 0 0 (F_u_spanOf z q 0).1).2
def mt6 (z : KS) (r f : Int) : KS := (F_u_copy z 75 r 1 f (F_u_spanOf z r 1).1).2
theorem mt1_x {x : KS} (m : mcX x) {r : Nat} (hr : r < nR x) (r3 : r03 (x.2 74)) (r6 : r03 (x.2 76)) : sM x (mt1 x (r : Int)) ∧ wL (mt1 x (r : Int)) 73 (rS x r) ∧ r03 ((mt1 x (r : Int)).2 74) ∧ r03 ((mt1 x (r : Int)).2 76) := by
  obtain ⟨_, _, _, _, lr20, rr⟩ := mc_code m hr
  have s0 : sM x (F_w_wipe x 73).2 := sM_s (sM_rf x) (sMs_w rfl)
  unfold mt1
  rw [show (F_u_spanOf (F_w_wipe x 73).2 (r : Int) 0).1 = ((rS x r).length : Int) from spanOf_x m s0 hr (Or.inl rfl)]
  have c := cp73 (x := x) (z := (F_w_wipe x 73).2) (b := 0) (Or.inl rfl) (r := r) (f := 0) (t := (rS x r).length) (P := []) s0 ⟨kS_s, rfl⟩ (by omega) (by rw [sd_0]; exact Nat.le_refl _) (by show 0 + _ ≤ 60; omega) r3 r6
  rw [sd_0, td0, List.nil_append] at c
  exact c
theorem mt2_x {x z : KS} (m : mcX x) {q v : Nat} {A : List Int} (hq : q < nR x) (hv : v ≤ (lS x q).length) (hA : A.length ≤ 20) (h : sM x z ∧ wL z 73 A ∧ r03 (z.2 74) ∧ r03 (z.2 76)) : sM x (mt2 z (q : Int) (v : Int)) ∧ wL (mt2 z (q : Int) (v : Int)) 73 (A ++ (lS x q).drop v) ∧ r03 ((mt2 z (q : Int) (v : Int)).2 74) ∧ r03 ((mt2 z (q : Int) (v : Int)).2 76) := by
  obtain ⟨_, _, _, _, lq20, rq⟩ := mc_code m hq
  unfold mt2
  rw [show (F_u_spanOf z (q : Int) 1).1 = ((lS x q).length : Int) from spanOf_x m h.1 hq (Or.inr rfl)]
  have c := cp73 (b := 1) (Or.inr rfl) (r := q) (f := v) (t := (lS x q).length) h.1 h.2.1 hv (by rw [sd_1]; exact Nat.le_refl _) (by omega) h.2.2.1 h.2.2.2
  rw [sd_1, List.take_length] at c
  exact c
theorem mt4_x {x z : KS} (m : mcX x) {r t : Nat} {A : List Int} (hr : r < nR x) (ht : t ≤ (lS x r).length) (h : sM x z ∧ wL z 73 A ∧ r03 (z.2 74) ∧ r03 (z.2 76)) : st2 x (mt4 z (r : Int) (t : Int)) A ((lS x r).take t) := by
  obtain ⟨_, _, _, _, lr20, rr⟩ := mc_code m hr
  have c := cp75 (b := 1) (Or.inr rfl) (r := r) (f := 0) (t := t) (wp75 h.1 h.2.1 h.2.2.1 h.2.2.2) (by omega) (by rw [sd_1]; exact ht) (by show 0 + _ ≤ 60; omega)
  rw [sd_1, List.drop_zero, List.nil_append] at c
  exact c
theorem mt5_x {x z : KS} (m : mcX x) {q : Nat} {A B : List Int} (hq : q < nR x) (hB : B.length ≤ 20) (h : st2 x z A B) : st2 x (mt5 z (q : Int)) A (B ++ rS x q) := by
  obtain ⟨_, _, _, _, lq20, rq⟩ := mc_code m hq
  unfold mt5
  rw [show (F_u_spanOf z (q : Int) 0).1 = ((rS x q).length : Int) from spanOf_x m h.1 hq (Or.inl rfl)]
  have c := cp75 (b := 0) (Or.inl rfl) (r := q) (f := 0) (t := (rS x q).length) h (by omega) (by rw [sd_0]; exact Nat.le_refl _) (by omega)
  rw [sd_0, td0] at c
  exact c
theorem mt6_x {x z : KS} (m : mcX x) {r f : Nat} {A B : List Int} (hr : r < nR x) (hf : f ≤ (lS x r).length) (hB : B.length ≤ 40) (h : st2 x z A B) : st2 x (mt6 z (r : Int) (f : Int)) A (B ++ (lS x r).drop f) := by
  obtain ⟨_, _, _, _, lr20, rr⟩ := mc_code m hr
  unfold mt6
  rw [show (F_u_spanOf z (r : Int) 1).1 = ((lS x r).length : Int) from spanOf_x m h.1 hr (Or.inr rfl)]
  have c := cp75 (b := 1) (Or.inr rfl) (r := r) (f := f) (t := (lS x r).length) h hf (by rw [sd_1]; exact Nat.le_refl _) (by omega)
  rw [sd_1, List.take_length] at c
  exact c
theorem meets_eq (x : KS) (r q v : Int) : F_p_meets x r q v = if iC (F_u_leftPart x r ((F_u_spanOf x r 1).1 - v) (F_u_spanOf x r 1).1).1 (F_u_leftPart x q 0 v).1 = 0 then (1, mt5 (mt4 (mt2 (mt1 x r) q v) r ((F_u_spanOf x r 1).1 - v)) q) else (0, x) := rfl
theorem encloses_eq (x : KS) (r q v : Int) : F_p_encloses x r q v = if iC (F_u_leftPart x r v (v + (F_u_spanOf x q 1).1)).1 (F_u_leftPart x q 0 (F_u_spanOf x q 1).1).1 = 0 then (1, mt6 (mt5 (mt4 (mt1 x r) r v) q) r (v + (F_u_spanOf x q 1).1)) else (0, x) := rfl
theorem code_eq {k : Nat} {u v : List Int} (hu : okL 4 u) (hv : okL 4 v) (lu : u.length = k) (lv : v.length = k) : vl 4 u = vl 4 v ↔ u = v := by
  constructor
  · intro h
    rw [← dl_vl k u lu hu, ← dl_vl k v lv hv, h]
  · intro h; rw [h]
/-- meets -/
theorem F_p_meets_x {x : KS} (m : mcX x) {r q v : Nat} (hr : r < nR x) (hq : q < nR x) (h1 : v ≤ (lS x r).length) (h2 : v ≤ (lS x q).length) (r3 : r03 (x.2 74)) (r6 : r03 (x.2 76)) :
    ((lS x r).drop ((lS x r).length - v) ≠ (lS x q).take v ∧ F_p_meets x (r : Int) (q : Int) (v : Int) = (0, x)) ∨
    ((lS x r).drop ((lS x r).length - v) = (lS x q).take v ∧ (F_p_meets x (r : Int) (q : Int) (v : Int)).1 = 1 ∧ st2 x (F_p_meets x (r : Int) (q : Int) (v : Int)).2 (rS x r ++ (lS x q).drop v) ((lS x r).take ((lS x r).length - v) ++ rS x q)) := by
  obtain ⟨_, _, _, _, lr20, rr⟩ := mc_code m hr
  obtain ⟨_, _, _, _, lq20, rq⟩ := mc_code m hq
  have sr : (F_u_spanOf x (r : Int) 1).1 = ((lS x r).length : Int) := spanOf_x m (sM_rf x) hr (Or.inr rfl)
  have ok4 : ∀ {k : Nat}, k < nR x → okL 4 (lS x k) := fun hk => okL4 m (mc_ahd m hk).2.2.1
  have e1 : ((lS x r).length : Int) - (v : Int) = (((lS x r).length - v : Nat) : Int) := by omega
  have p1 := F_u_leftPart_x m hr (f := (lS x r).length - v) (t := (lS x r).length) (by omega) (Nat.le_refl _)
  have p2 : (F_u_leftPart x (q : Int) 0 (v : Int)).1 = ((vl 4 (((lS x q).take v).drop 0) : Nat) : Int) := F_u_leftPart_x m hq (f := 0) (t := v) (by omega) h2
  rw [List.take_length] at p1
  rw [List.drop_zero] at p2
  have ce := code_eq (k := v) (u := (lS x r).drop ((lS x r).length - v)) (v := (lS x q).take v) (fun l hl => ok4 hr l (List.mem_of_mem_drop hl)) (fun l hl => ok4 hq l (List.mem_of_mem_take hl)) (by rw [List.length_drop]; omega) (by rw [List.length_take]; omega)
  rw [meets_eq, sr, e1, p1, p2]
  by_cases c : (lS x r).drop ((lS x r).length - v) = (lS x q).take v
  · right
    rw [if_pos (kiC_eq.mpr (by rw [ce.mpr c]))]
    refine ⟨c, rfl, ?_⟩
    exact mt5_x m hq (by rw [List.length_take]; omega) (mt4_x m hr (by omega) (mt2_x m hq h2 (by omega) (mt1_x m hr r3 r6)))
  · left
    rw [if_neg (fun h => c (ce.mp (by have := kiC_eq.mp h; omega)))]
    exact ⟨c, rfl⟩
/-- encloses -/
theorem F_p_encloses_x {x : KS} (m : mcX x) {r q v : Nat} (hr : r < nR x) (hq : q < nR x) (h1 : v + (lS x q).length ≤ (lS x r).length) (r3 : r03 (x.2 74)) (r6 : r03 (x.2 76)) :
    (((lS x r).take (v + (lS x q).length)).drop v ≠ lS x q ∧ F_p_encloses x (r : Int) (q : Int) (v : Int) = (0, x)) ∨
    (((lS x r).take (v + (lS x q).length)).drop v = lS x q ∧ (F_p_encloses x (r : Int) (q : Int) (v : Int)).1 = 1 ∧ st2 x (F_p_encloses x (r : Int) (q : Int) (v : Int)).2 (rS x r) ((lS x r).take v ++ rS x q ++ (lS x r).drop (v + (lS x q).length))) := by
  obtain ⟨_, _, _, _, lr20, rr⟩ := mc_code m hr
  obtain ⟨_, _, _, _, lq20, rq⟩ := mc_code m hq
  have sq : (F_u_spanOf x (q : Int) 1).1 = ((lS x q).length : Int) := spanOf_x m (sM_rf x) hq (Or.inr rfl)
  have ok4 : ∀ {k : Nat}, k < nR x → okL 4 (lS x k) := fun hk => okL4 m (mc_ahd m hk).2.2.1
  have e1 : (v : Int) + ((lS x q).length : Int) = ((v + (lS x q).length : Nat) : Int) := by omega
  have p1 := F_u_leftPart_x m hr (f := v) (t := v + (lS x q).length) (by omega) h1
  have p2 : (F_u_leftPart x (q : Int) 0 ((lS x q).length : Int)).1 = ((vl 4 (((lS x q).take (lS x q).length).drop 0) : Nat) : Int) := F_u_leftPart_x m hq (f := 0) (t := (lS x q).length) (by omega) (Nat.le_refl _)
  rw [td0] at p2
  have ce := code_eq (k := (lS x q).length) (u := ((lS x r).take (v + (lS x q).length)).drop v) (v := lS x q) (fun l hl => ok4 hr l (List.mem_of_mem_take (List.mem_of_mem_drop hl))) (ok4 hq) (by rw [List.length_drop, List.length_take]; omega) rfl
  rw [encloses_eq, sq, e1, p1, p2]
  by_cases c : ((lS x r).take (v + (lS x q).length)).drop v = lS x q
  · right
    rw [if_pos (kiC_eq.mpr (by rw [ce.mpr c]))]
    refine ⟨c, rfl, ?_⟩
    exact mt6_x m hr h1 (by rw [List.length_append, List.length_take]; omega) (mt5_x m hq (by rw [List.length_take]; omega) (mt4_x m hr (by omega) (mt1_x m hr r3 r6)))
  · left
    rw [if_neg (fun h => c (ce.mp (by have := kiC_eq.mp h; omega)))]
    exact ⟨c, rfl⟩
