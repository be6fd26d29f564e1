-- deps: 30 31 32 33 34 35 36 37 38 39 40 41 42 43 70 71 72 73 74 75 76 77 78 79 80 81 82 83 84 85 86 88
/-! STRINGS as lists: what is put behind, drawn, taken, compared, packed and unpacked -/
def wL (y : KS) (w : Nat) (P : List Int) : Prop := y.1 w 1 = (P.length : Int) ∧ tk (y.2 (w + 1)) P.length = P
theorem wL_S {y : KS} {w : Nat} {P : List Int} (h : wL y w P) : wS y w = P := by rw [wS_tk, h.1, Int.toNat_natCast]; exact h.2
theorem wL_of {y : KS} {w : Nat} (h : 0 ≤ y.1 w 1) : wL y w (wS y w) := ⟨by rw [wS_len]; omega, by rw [wS_len]; rfl⟩
theorem wL_fr {S : List (Nat × Nat)} {A : List Nat} {y z : KS} {w : Nat} {P : List Int} (h : ksame S A y z) (h1 : (w, 1) ∉ S) (h2 : w + 1 ∉ A) (hl : wL y w P) : wL z w P := ⟨(h.1 w 1 h1).trans hl.1, by rw [h.2 _ h2]; exact hl.2⟩
theorem wL_push {y : KS} {w : Nat} {P : List Int} {l v : Int} (h : wL y w P) (hv : v = y.1 w 1) : wL (kA (kS y w 1 (v + 1)) (w + 1) v.toNat l) w (P ++ [l]) := by
  subst hv
  refine ⟨?_, ?_⟩
  · rw [kA_1, kS_s, h.1, List.length_append, List.length_singleton]
    push_cast
    rfl
  · rw [kA_s, kS_2, h.1, Int.toNat_natCast, List.length_append, List.length_singleton, tk_s, iU_s, tk_iU (Nat.le_refl _), h.2]
theorem ww_ne {c d : Nat} (hc : kW c = true) (hd : kW d = true) : c ≠ d + 1 := fun e => by have := kW_1 hd; rw [← e, hc] at this; cases this
theorem wL_other {y : KS} {w q : Nat} {Q : List Int} {l v : Int} {j : Nat} (hw : kW w = true) (hq : kW q = true) (ne : w ≠ q) (h : wL y q Q) : wL (kA (kS y w 1 v) (w + 1) j l) q Q := by
  refine ⟨?_, ?_⟩
  · rw [kA_1, kS_c (Ne.symm ne)]; exact h.1
  · rw [kA_c (fun e => ne (Nat.succ.inj e).symm), kS_2]; exact h.2
theorem tk_at {f : Nat → Int} {P Q : List Int} {l : Int} (h : tk f (P ++ l :: Q).length = P ++ l :: Q) : f P.length = l := by
  have h1 := congrArg (List.take (P.length + 1)) h
  rw [tk_take f (by rw [List.length_append, List.length_cons]; omega), tk_s, List.take_append, List.take_of_length_le (by omega), show P.length + 1 - P.length = 1 by omega] at h1
  have := List.append_inj h1 (by rw [tk_len])
  exact (List.cons.inj this.2).1
theorem F_w_append_s_x {w q : Nat} (hw : kW w = true) (hq : kW q = true) (ne : w ≠ q) : ∀ (n : Nat) (y : KS) (P A Q : List Int), wL y w P → wL y q (A ++ Q) → Q.length < n → (F_w_append_s w q n 0 y (A.length : Int)).1 = 1 ∧ wL (F_w_append_s w q n 0 y (A.length : Int)).2 w (P ++ Q) := by
  intro n
  induction n with
  | zero => intro y P A Q _ _ h; exfalso; omega
  | succ n ih =>
    intro y P A Q h1 h2 h3
    rw [F_w_append_e0, h2.1]
    cases Q with
    | nil => rw [if_pos (by rw [List.append_nil]; exact Int.le_refl _), List.append_nil]; exact ⟨rfl, h1⟩
    | cons l Q =>
      rw [if_neg (by rw [List.length_append, List.length_cons]; push_cast; omega), Int.toNat_natCast, tk_at h2.2]
      have e : (A.length : Int) + 1 = ((A ++ [l]).length : Int) := by rw [List.length_append, List.length_singleton]; push_cast; rfl
      rw [e]
      have := ih (kA (kS y w 1 (y.1 w 1 + 1)) (w + 1) (y.1 w 1).toNat l) (P ++ [l]) (A ++ [l]) Q (wL_push h1 rfl) (by rw [List.append_assoc]; exact wL_other hw hq ne h2) (by rw [List.length_cons] at h3; omega)
      rw [List.append_assoc] at this
      exact this
theorem F_w_append_x {x : KS} {w q : Nat} {P Q : List Int} (hw : kW w = true) (hq : kW q = true) (ne : w ≠ q) (h1 : wL x w P) (h2 : wL x q Q) (hl : P.length + Q.length ≤ kL w) : (F_w_append x w q).1 = 1 ∧ wL (F_w_append x w q).2 w (P ++ Q) := by
  have k60 := kL_le w
  unfold F_w_append
  rw [h1.1, h2.1, if_pos (by omega)]
  exact F_w_append_s_x hw hq ne 100 x P [] Q h1 h2 (by omega)
theorem F_w_drawFrom_s_x {w q : Nat} (hw : kW w = true) (hq : kW q = true) (ne : w ≠ q) {Q : List Int} (b : Int) : ∀ (n : Nat) (y : KS) (P T : List Int), wL y w P → wL y q (Q ++ T) → P.length + T.length ≤ kL w → T.length < n → (F_w_drawFrom_s w q n 0 y (Q.length : Int) b).1 = (P.length : Int) + T.length - b ∧ wL (F_w_drawFrom_s w q n 0 y (Q.length : Int) b).2 w (P ++ T.reverse) ∧ wL (F_w_drawFrom_s w q n 0 y (Q.length : Int) b).2 q Q := by
  intro n
  induction n with
  | zero => intro y P T _ _ _ h; exfalso; omega
  | succ n ih =>
    intro y P T h1 h2 h3 h4
    rw [F_w_drawFrom_e0, h2.1, h1.1]
    by_cases hT : T = []
    · subst hT
      rw [if_pos (by rw [List.append_nil]; exact Int.le_refl _)]
      rw [List.append_nil] at h2
      refine ⟨?_, ?_, h2⟩
      · show (P.length : Int) - b = (P.length : Int) + ((0 : Nat) : Int) - b; omega
      · rw [List.reverse_nil, List.append_nil]; exact h1
    · obtain ⟨t, l, e⟩ := snoc_of T hT
      subst e
      rw [List.length_append, List.length_singleton] at h3 h4
      have hl : ((Q ++ (t ++ [l])).length : Int) = Q.length + t.length + 1 := by rw [List.length_append, List.length_append, List.length_singleton]; push_cast; omega
      rw [hl, if_neg (by omega), if_neg (by omega), if_neg (by omega)]
      have e1 : ((Q.length : Int) + t.length + 1 - 1).toNat = (Q ++ t).length := by rw [List.length_append]; omega
      have e2 : y.2 (q + 1) (Q ++ t).length = l := by
        have := h2.2
        rw [← List.append_assoc] at this
        exact tk_at this
      rw [e1, e2, show (Q.length : Int) + t.length + 1 - 1 = Q.length + t.length by omega]
      have hq0 : wL (kS y q 1 (Q.length + t.length)) q (Q ++ t) := by
        refine ⟨by rw [kS_s, List.length_append]; push_cast; rfl, ?_⟩
        rw [kS_2]
        have := congrArg (List.take (Q ++ t).length) h2.2
        rw [tk_take _ (by rw [List.length_append, List.length_append, List.length_append]; omega), ← List.append_assoc, List.take_left] at this
        exact this
      have hp0 : wL (kS y q 1 (Q.length + t.length)) w P := ⟨by rw [kS_c ne]; exact h1.1, h1.2⟩
      have hi := ih _ (P ++ [l]) t (wL_push (l := l) (v := (P.length : Int)) hp0 hp0.1.symm) (wL_other hw hq ne hq0) (by rw [List.length_append, List.length_singleton]; omega) (by omega)
      refine ⟨?_, ?_, hi.2.2⟩
      · rw [hi.1, List.length_append, List.length_append, List.length_singleton]; push_cast; omega
      · have := hi.2.1
        rw [List.reverse_append, List.reverse_singleton]
        rw [List.append_assoc] at this
        exact this
theorem F_w_drawFrom_x {x : KS} {w q : Nat} {P Q T : List Int} (hw : kW w = true) (hq : kW q = true) (ne : w ≠ q) (h1 : wL x w P) (h2 : wL x q (Q ++ T)) (hl : P.length + T.length ≤ kL w) : (F_w_drawFrom x w q (Q.length : Int)).1 = (T.length : Int) ∧ wL (F_w_drawFrom x w q (Q.length : Int)).2 w (P ++ T.reverse) ∧ wL (F_w_drawFrom x w q (Q.length : Int)).2 q Q := by
  have k60 := kL_le w
  have := F_w_drawFrom_s_x hw hq ne (Q := Q) (x.1 w 1) 100 x P T h1 h2 hl (by omega)
  refine ⟨?_, this.2⟩
  have h := this.1
  rw [h1.1] at h
  unfold F_w_drawFrom
  rw [h1.1, h]
  omega
theorem F_w_take_s_x {w q : Nat} (hw : kW w = true) (hq : kW q = true) (ne : w ≠ q) : ∀ (n : Nat) (y : KS) (A Q : List Int), y.1 w 1 = ((A ++ Q).length : Int) → tk (y.2 (w + 1)) A.length = A → wL y q (A ++ Q) → Q.length < n → wL (F_w_take_s w q n 0 y (A.length : Int)).2 w (A ++ Q) := by
  intro n
  induction n with
  | zero => intro y A Q _ _ _ h; exfalso; omega
  | succ n ih =>
    intro y A Q h0 h1 h2 h3
    rw [F_w_take_e0, h0]
    cases Q with
    | nil =>
      rw [if_pos (by rw [List.append_nil]; exact Int.le_refl _)]
      rw [List.append_nil] at h0 ⊢
      exact ⟨h0, h1⟩
    | cons l Q =>
      rw [if_neg (by rw [List.length_append, List.length_cons]; push_cast; omega), Int.toNat_natCast, tk_at h2.2]
      have e : (A.length : Int) + 1 = ((A ++ [l]).length : Int) := by rw [List.length_append, List.length_singleton]; push_cast; rfl
      have e2 : A ++ l :: Q = (A ++ [l]) ++ Q := by simp
      rw [e, e2]
      refine ih _ (A ++ [l]) Q ?_ ?_ ?_ (by rw [List.length_cons] at h3; omega)
      · rw [kA_1, h0, e2]
      · rw [kA_s, List.length_append, List.length_singleton, tk_s, iU_s, tk_iU (Nat.le_refl _), h1]
      · rw [← e2]
        refine ⟨by rw [kA_1]; exact h2.1, ?_⟩
        rw [kA_c (fun e => ne (Nat.succ.inj e).symm)]
        exact h2.2
theorem F_w_take_x {x : KS} {w q : Nat} {Q : List Int} (hw : kW w = true) (hq : kW q = true) (ne : w ≠ q) (h : wL x q Q) (hl : Q.length ≤ kL w) : wL (F_w_take x w q).2 w Q := by
  have k60 := kL_le w
  unfold F_w_take
  rw [h.1, show min (Q.length : Int) ((kL w : Nat) : Int) = (Q.length : Int) by omega]
  refine F_w_take_s_x hw hq ne 100 _ [] Q kS_s rfl ⟨?_, h.2⟩ (by omega)
  rw [kS_c (Ne.symm ne)]
  exact h.1
theorem F_w_isSame_s_x {x : KS} {w q : Nat} : ∀ (n : Nat) (A P Q : List Int), wL x w (A ++ P) → wL x q (A ++ Q) → P.length = Q.length → P.length < n → (F_w_isSame_s w q n 0 x (A.length : Int)).1 = if P = Q then 1 else 0 := by
  intro n
  induction n with
  | zero => intro A P Q _ _ _ h; exfalso; omega
  | succ n ih =>
    intro A P Q h1 h2 h3 h4
    rw [F_w_isSame_e0, h1.1]
    cases P with
    | nil =>
      have : Q = [] := List.length_eq_zero_iff.mp h3.symm
      subst this
      rw [if_pos (by rw [List.append_nil]; exact Int.le_refl _), if_pos rfl]
    | cons l P =>
      cases Q with
      | nil => simp at h3
      | cons m Q =>
        rw [if_neg (by rw [List.length_append, List.length_cons]; push_cast; omega), Int.toNat_natCast, tk_at h1.2, tk_at h2.2]
        by_cases c : l = m
        · subst c
          have e : (A.length : Int) + 1 = ((A ++ [l]).length : Int) := by rw [List.length_append, List.length_singleton]; push_cast; rfl
          have e2 : ∀ R : List Int, A ++ l :: R = (A ++ [l]) ++ R := fun R => by simp
          rw [e2] at h1 h2
          rw [if_pos rfl, e, ih (A ++ [l]) P Q h1 h2 (by simpa using h3) (by rw [List.length_cons] at h4; omega)]
          by_cases c2 : P = Q
          · rw [if_pos c2, if_pos (by rw [c2])]
          · rw [if_neg c2, if_neg (fun h => c2 (List.cons.inj h).2)]
        · rw [if_neg c, if_neg (fun h => c (List.cons.inj h).1)]
theorem F_w_isSame_x {x : KS} {w q : Nat} {P Q : List Int} (h1 : wL x w P) (h2 : wL x q Q) (hl : P.length ≤ 60) : (F_w_isSame x w q).1 = if P = Q then 1 else 0 := by
  unfold F_w_isSame
  rw [h1.1, h2.1]
  by_cases c : P.length = Q.length
  · rw [if_pos (by rw [c])]
    exact F_w_isSame_s_x 100 [] P Q h1 h2 c (by omega)
  · rw [if_neg (by omega), if_neg (fun h => c (by rw [h]))]
theorem pkL_div {b : Nat} (a c : List Int) (h : okL 4 c) : pk b (a ++ c) / 4 ^ c.length = pk b a := by
  have e : pk b (a ++ c) = pk (pk b a) c := by unfold pk; rw [List.foldl_append]
  have h1 := pk_b (b := pk b a) c.length c rfl h
  rw [e]
  exact Nat.div_eq_of_lt_le h1.1 h1.2
theorem pk_61 {u : List Int} (h : okL 4 u) (hl : u.length ≤ 30) : pk 1 u < 2 ^ 62 := by
  have h1 := (pk_b (b := 1) u.length u rfl h).2
  have h3 := p4_m hl
  rw [p4_30] at h3
  have h5 : (2 : Nat) ^ 62 = 4611686018427387904 := by decide
  omega
theorem iSr_4 {q k : Nat} (h : q < 2 ^ 62) (hk : k < 32) : iSr (q : Int) (2 * (k : Int)) = ((q / 4 ^ k : Nat) : Int) := by
  rw [show 2 * (k : Int) = ((2 * k : Nat) : Int) by push_cast; rfl, iSr_v (by omega) h, k4_2]
theorem F_w_unpack_s_2 {w : Nat} (h t : Int) {u : List Int} (ou : okL 4 u) (ul : u.length ≤ 30) : ∀ (n : Nat) (y : KS) (g : Int) (P a c : List Int), u = a ++ c → wL y w (P ++ a) → (P ++ u).length ≤ kL w → c.length < n → ∃ (m : Nat) (z : KS), m + c.length + 1 = n ∧ F_w_unpack_s w n 2 y h t g ((pk 1 u : Nat) : Int) ((c.length : Int) - 1) = F_w_unpack_s w m 0 z h t (g + 1) 0 0 ∧ wL z w (P ++ u) := by
  intro n
  induction n with
  | zero => intro y g P a c _ _ _ h; exfalso; omega
  | succ n ih =>
    intro y g P a c e h1 h2 h3
    rw [F_w_unpack_e2]
    cases c with
    | nil =>
      rw [List.append_nil] at e
      subst e
      exact ⟨n, y, by simp, by rw [if_pos (by show ((0 : Nat) : Int) - 1 < 0; omega)], h1⟩
    | cons l c =>
      have hc : (((l :: c).length : Nat) : Int) - 1 = (c.length : Int) := by rw [List.length_cons]; push_cast; omega
      rw [hc, if_neg (by omega), h1.1]
      have hlen : (P ++ u).length = (P ++ a).length + c.length + 1 := by rw [e, List.length_append, List.length_append, List.length_append, List.length_cons]; omega
      have hcl : c.length < 32 := by rw [e, List.length_append, List.length_cons] at ul; omega
      rw [if_neg (by omega), iSr_4 (pk_61 ou ul) hcl, iN_3]
      have okc : okL 4 c := fun z hz => ou z (by rw [e]; exact List.mem_append_right _ (List.mem_cons_of_mem _ hz))
      have okl := ou l (by rw [e]; exact List.mem_append_right _ List.mem_cons_self)
      have e2 : pk 1 u / 4 ^ c.length = pk 1 a * 4 + l.toNat := by
        rw [← pk_s, e, show a ++ l :: c = (a ++ [l]) ++ c by simp]
        exact pkL_div _ _ okc
      have e3 : ((pk 1 u / 4 ^ c.length % 4 : Nat) : Int) = l := by rw [e2]; omega
      rw [e3, show (c.length : Int) + -1 = (c.length : Int) - 1 by omega]
      obtain ⟨m, z, hm, hz, hw⟩ := ih _ g P (a ++ [l]) c (by rw [e]; simp) (by rw [← List.append_assoc]; exact wL_push (l := l) (v := ((P ++ a).length : Int)) h1 h1.1.symm) h2 (by rw [List.length_cons] at h3; omega)
      exact ⟨m, z, by rw [List.length_cons]; omega, hz, hw⟩
theorem F_w_unpack_s_1 {w : Nat} (h t : Int) {u : List Int} (ou : okL 4 u) (ul : u.length ≤ 30) : ∀ (n : Nat) (y : KS) (g : Int) (P a c : List Int), u = a ++ c → wL y w P → (P ++ u).length ≤ kL w → a.length + u.length + 1 < n → ∃ (m : Nat) (z : KS), m + a.length + u.length + 2 = n ∧ F_w_unpack_s w n 1 y h t g ((pk 1 u : Nat) : Int) (c.length : Int) = F_w_unpack_s w m 0 z h t (g + 1) 0 0 ∧ wL z w (P ++ u) := by
  intro n
  induction n with
  | zero => intro y g P a c _ _ _ h; exfalso; omega
  | succ n ih =>
    intro y g P a c e h1 h2 h3
    have hul : u.length = a.length + c.length := by rw [e, List.length_append]
    rw [F_w_unpack_e1]
    have okc : okL 4 c := fun z hz => ou z (by rw [e]; exact List.mem_append_right _ hz)
    have oka : okL 4 a := fun z hz => ou z (by rw [e]; exact List.mem_append_left _ hz)
    by_cases ha : a = []
    · subst ha
      rw [List.nil_append] at e
      subst e
      have two := F_w_unpack_s_2 (w := w) h t ou ul n y g P [] u rfl (by rw [List.append_nil]; exact h1) h2 (by simp at h3; omega)
      obtain ⟨m, z, hm, hz, hw⟩ := two
      refine ⟨m, z, by simp at h3 ⊢; omega, ?_, hw⟩
      by_cases c1 : (30 : Int) ≤ (u.length : Int)
      · rw [if_pos c1]; exact hz
      · rw [if_neg c1, if_pos ?_]
        · exact hz
        · rw [iSr_4 (pk_61 ou ul) (by omega)]
          have := pkL_div (b := 1) [] u ou
          rw [List.nil_append] at this
          rw [this]
          decide
    · obtain ⟨s, l, ea⟩ := snoc_of a ha
      subst ea
      rw [List.length_append, List.length_singleton] at hul h3
      rw [if_neg (by omega), if_neg ?_]
      · have e2 : (c.length : Int) + 1 = ((l :: c).length : Int) := by rw [List.length_cons]; push_cast; rfl
        rw [e2]
        obtain ⟨m, z, hm, hz, hw⟩ := ih y g P s (l :: c) (by rw [e]; simp) h1 h2 (by omega)
        exact ⟨m, z, by rw [List.length_append, List.length_singleton]; omega, hz, hw⟩
      · rw [iSr_4 (pk_61 ou ul) (by omega), e, pkL_div _ _ okc, Int.not_le, kiC_gt]
        have h4 := (pk_b (b := 1) s.length s rfl (okL_app.mp oka).1).1
        have h5 : 1 ≤ 4 ^ s.length := Nat.one_le_pow _ _ (by decide)
        rw [pk_s]
        omega
theorem F_w_unpack_x {x : KS} {w : Nat} {u v : List Int} (ou : okL 4 u) (ov : okL 4 v) (ul : u.length ≤ 30) (vl : v.length ≤ 30) (hl : (u ++ v).length ≤ kL w) : wL (F_w_unpack x w ((pk 1 u : Nat) : Int) ((pk 1 v : Nat) : Int)).2 w (u ++ v) := by
  unfold F_w_unpack
  have h0 : wL (kS x w 1 0) w [] := ⟨kS_s, rfl⟩
  rw [show (300 : Nat) = 299 + 1 from rfl, F_w_unpack_e0, if_neg (by decide), if_pos rfl]
  obtain ⟨m, z, hm, hz, hw⟩ := F_w_unpack_s_1 (w := w) ((pk 1 u : Nat) : Int) ((pk 1 v : Nat) : Int) ou ul 299 (kS x w 1 0) 0 [] u [] (by rw [List.append_nil]) h0 (by rw [List.length_append] at hl; rw [List.nil_append]; omega) (by omega)
  rw [show ((0 : Int)) = (([] : List Int).length : Int) from rfl] at hz
  rw [show ((0 : Int)) = (([] : List Int).length : Int) from rfl, hz]
  obtain ⟨m', rfl⟩ : ∃ m', m = m' + 1 := ⟨m - 1, by omega⟩
  rw [F_w_unpack_e0, if_neg (by decide), if_neg (by decide)]
  rw [List.nil_append] at hw
  obtain ⟨k, z2, hk, hz2, hw2⟩ := F_w_unpack_s_1 (w := w) ((pk 1 u : Nat) : Int) ((pk 1 v : Nat) : Int) ov vl m' z ((([] : List Int).length : Int) + 1) u v [] (by rw [List.append_nil]) hw hl (by omega)
  rw [show ((0 : Int)) = (([] : List Int).length : Int) from rfl, hz2]
  obtain ⟨k', rfl⟩ : ∃ k', k = k' + 1 := ⟨k - 1, by omega⟩
  rw [F_w_unpack_e0, if_pos (by decide)]
  exact hw2
