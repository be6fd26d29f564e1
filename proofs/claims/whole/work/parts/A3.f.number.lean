-- deps: A3.e
/-! the class: the number of a STRING, the STRING of a number -/
/-- X counts as Y says -/
def cnE (X : KS) (Y : MS) : Prop := ∀ k : Nat, k < 32 → X.2 69 k = wN Y k 0
theorem below_s {X : KS} {Y : MS} (h : cnE X Y) {v : Int} (v1 : v ≤ 32) : ∀ (n i : Nat), (i : Int) ≤ v → v - (i : Int) < n → F_a_countBelow_s n 0 X v (rk1 Y i) (i : Int) = (rk1 Y v.toNat, X) := by
  intro n
  induction n with
  | zero => intro i h1 h2; exfalso; omega
  | succ n ih =>
    intro i h1 h2
    rw [F_a_countBelow_e0]
    by_cases c : v ≤ (i : Int)
    · rw [if_pos c, show v.toNat = i by omega]
    · rw [if_neg c, if_neg (by omega), Int.toNat_natCast, h i (by omega)]
      exact ih (i + 1) (by omega) (by omega)
theorem below_x {X : KS} {Y : MS} (h : cnE X Y) {v : Int} (v0 : 0 ≤ v) (v1 : v ≤ 32) : F_a_countBelow X v = (rk1 Y v.toNat, X) := below_s h v1 50 0 (by omega) (by omega)
/-- ways of v LETTERS stand in the row -/
def wyV (X y : KS) (v : Nat) : Prop := wyK X y ∧ maR y ∧ ∀ j : Nat, (j : Int) < X.1 64 7 → y.2 (kWs (y.1 64 4)) j = kWn X v j
theorem waysBy_x {X y : KS} {Y : MS} (hs : stE X Y) {v : Nat} (h : wyV X y v) {s z : Int} (s0 : 0 ≤ s) (s1 : s < Y.1 24) (z0 : 0 ≤ z) (z1 : z < Y.1 0) : (F_a_waysBy y s z).1 = (if (F_m_next Y s z).1 = -9 then 0 else wN Y v (F_m_next Y s z).1) ∧ (F_a_step y s z).1 = (F_a_step X s z).1 := by
  have es : (F_a_step y s z).1 = (F_a_step X s z).1 := F_a_step_cg h.1.1 h.1.2.1 h.1.2.2.1 s z
  refine ⟨?_, es⟩
  unfold F_a_waysBy
  rw [es]
  have e1 := hs.1.1
  rcases hs.2 s z s0 s1 z0 z1 with ⟨h1, h2⟩ | ⟨h1, h2, h3⟩
  · rw [if_pos h1, if_pos h2]
  · rw [if_neg (by omega), if_neg (by omega), h2]
    show y.2 (kWs (y.1 64 4)) _ = _
    rw [h.2.2 _ (by omega), kW_eq hs _ _ (by omega), show (((F_m_next Y s z).1.toNat : Nat) : Int) = (F_m_next Y s z).1 by omega]
theorem count_w {X y : KS} {Y : MS} (hs : stE X Y) (wy : wyK X y) (ma : maR y) {v : Int} (v0 : 0 ≤ v) (v1 : v ≤ 100) : wyV X (F_a_countWays y v).2 v.toNat := by
  have l2 := stE_l hs
  have ms := stE_ms hs
  have msy := maS_k wy ms
  obtain ⟨a, b⟩ := F_a_countWays_x ma (by rw [wy.1]; exact l2) msy wy.2.2.2 v0 v1
  refine ⟨⟨a.1.trans wy.1, a.2.1.trans wy.2.1, a.2.2.1.trans wy.2.2.1, a.2.2.2⟩, maR_k (F_a_countWays_fr y v) ma, fun j hj => ?_⟩
  rw [b j (by rw [wy.2.1]; exact hj), kWn_cg wy.1 wy.2.1 wy.2.2.1]
theorem number_s {X : KS} {Y : MS} (hs : stE X Y) {w : Nat} (hw : kW w = true) {V : List Int} (l30 : V.length ≤ 30) (hV : ∀ j : Nat, j < V.length → V[j]? = some (X.2 (w + 1) j)) (eu : X.1 w 1 = (V.length : Int)) {T : Int} : ∀ n : Nat,
    (∀ (y : KS) (q s : Int) (i : Nat), wyK X y → maR y → ksame [(64, 4), (64, 5)] [67, 68] X y → i ≤ V.length → 0 ≤ s → s < Y.1 24 → pth Y s (V.drop i) → q + rk2 Y s (V.drop i) = T → (V.length - i) * 10 + 2 < n → (F_a_numberOf_s w n 0 y q s (i : Int) 0).1 = T) ∧
    (∀ (y : KS) (q s : Int) (i z : Nat) (l : Int) (t : List Int), wyV X y (V.length - 1 - i) → ksame [(64, 4), (64, 5)] [67, 68] X y → i < V.length → 0 ≤ s → s < Y.1 24 → V.drop i = l :: t → V.drop (i + 1) = t → pth Y s (l :: t) → (z : Int) ≤ l → q + (wsm Y (wN Y (V.length - 1 - i)) s l.toNat - wsm Y (wN Y (V.length - 1 - i)) s z) + rk2 Y (F_m_next Y s l).1 t = T → (V.length - i) * 10 - z < n → (F_a_numberOf_s w n 1 y q s (i : Int) (z : Int)).1 = T) := by
  have n4 := hs.1.2.2.2.2
  have hr : w + 1 ∉ [67, 68] := row67 hw
  have hc : ∀ k, (w, k) ∉ [(64, 4), (64, 5)] := fun k h9 => by
    simp only [List.mem_cons, List.not_mem_nil, or_false, Prod.mk.injEq] at h9
    have e9 : w = 64 := by omega
    rw [e9] at hw
    exact absurd hw (by decide)
  intro n
  induction n with
  | zero => exact ⟨fun y q s i _ _ _ _ _ _ _ _ h => by omega, fun y q s i z l t _ _ h1 _ _ _ _ hp h3 _ h => by exfalso; have := hp.1; omega⟩
  | succ n ih =>
    refine ⟨fun y q s i wy ma fr hi s0 s1 hp e fu => ?_, fun y q s i z l t wv fr hi s0 s1 d1 d2 hp zl e fu => ?_⟩
    · rw [F_a_numberOf_e0, fr.1 w 1 (hc 1), eu]
      by_cases c : (V.length : Int) ≤ (i : Int)
      · rw [if_pos c]
        rw [List.drop_eq_nil_of_le (by omega)] at e
        have z9 : rk2 Y s [] = 0 := rfl
        show q = T
        omega
      · rw [if_neg c]
        have hi2 : i < V.length := by omega
        have dd := List.drop_eq_getElem_cons hi2
        rw [dd] at hp e
        have wv := count_w hs wy ma (v := (V.length : Int) - (1 : Int) - (i : Int)) (by omega) (by omega)
        rw [show ((V.length : Int) - (1 : Int) - (i : Int)).toNat = V.length - 1 - i by omega] at wv
        have lt : (V.drop (i + 1)).length = V.length - 1 - i := by rw [List.length_drop]; omega
        have re : rk2 Y s (V[i] :: V.drop (i + 1)) = wsm Y (wN Y (V.drop (i + 1)).length) s V[i].toNat + rk2 Y (F_m_next Y s V[i]).1 (V.drop (i + 1)) := rfl
        rw [re, lt] at e
        have z9 : wsm Y (wN Y (V.length - 1 - i)) s 0 = 0 := rfl
        exact ih.2 _ q s i 0 V[i] (V.drop (i + 1)) wv (km_tr fr (F_a_countWays_fr _ _)) hi2 s0 s1 dd rfl hp hp.1.1 (by omega) (by omega)
    · have l0 := hp.1
      have gi : V[i]? = some l := by
        have h9 : (V.drop i)[0]? = some l := by rw [d1]; rfl
        rw [List.getElem?_drop, Nat.add_zero] at h9
        exact h9
      have el : y.2 (w + 1) i = l := by
        rw [fr.2 (w + 1) hr]
        exact Option.some.inj ((hV i hi).symm.trans gi)
      rw [F_a_numberOf_e1, Int.toNat_natCast, el]
      obtain ⟨wb, es⟩ := waysBy_x hs wv (s := s) (z := (z : Int)) s0 s1 (by omega) (by omega)
      by_cases c : l ≤ (z : Int)
      · rw [if_pos c]
        have ez : z = l.toNat := by omega
        obtain ⟨_, es2⟩ := waysBy_x hs wv (s := s) (z := l) s0 s1 l0.1 l0.2
        rw [es2]
        have ns : max (F_a_step X s l).1 ((0 : Int)) = (F_m_next Y s l).1 ∧ 0 ≤ (F_m_next Y s l).1 ∧ (F_m_next Y s l).1 < Y.1 24 := by
          rcases hs.2 s l s0 s1 l0.1 l0.2 with ⟨h1, h2⟩ | ⟨h1, h2, h3⟩
          · exact absurd h2 hp.2.1
          · omega
        rw [ns.1]
        rw [ez] at e
        have := ih.1 y q (F_m_next Y s l).1 (i + 1) wv.1 wv.2.1 fr (by omega) ns.2.1 ns.2.2 (by rw [d2]; exact hp.2.2) (by rw [d2]; omega) (by omega)
        exact this
      · rw [if_neg c, wb]
        have ws := wsm_s Y (wN Y (V.length - 1 - i)) s z
        have := ih.2 y (q + (if (F_m_next Y s (z : Int)).1 = -9 then 0 else wN Y (V.length - 1 - i) (F_m_next Y s (z : Int)).1)) s i (z + 1) l t wv fr hi s0 s1 d1 d2 hp (by omega) (by omega) (by omega)
        exact this
theorem numberOf_x {X : KS} {Y : MS} (hs : stE X Y) (ma : maR X) (d : dz X) (hc : cnE X Y) {w : Nat} (hw : kW w = true) {V : List Int} (h : wL X w V) (l30 : V.length ≤ 30) (hp : pth Y 0 V) : (F_a_numberOf X w).1 = rkV Y V := by
  have s1 := hs.1.2.2.1
  have hV : ∀ j : Nat, j < V.length → V[j]? = some (X.2 (w + 1) j) := fun j hj => by
    have e := h.2
    conv => lhs; rw [← e]
    unfold tk
    rw [List.getElem?_map, List.getElem?_range hj]
    rfl
  unfold F_a_numberOf
  rw [below_x hc (by rw [h.1]; omega) (by rw [h.1]; omega)]
  exact (number_s hs hw l30 hV h.1 (T := rkV Y V) 700).1 X _ 0 0 ⟨rfl, rfl, rfl, d⟩ ma (km_rf _ _ _) (Nat.zero_le _) (Int.le_refl _) (by omega) hp (by rw [List.drop_zero, h.1, Int.toNat_natCast]; rfl) (by omega)
/-! the STRING of a number -/
def rkp (Y : MS) : Nat → Int → List Int → Int
  | _, _, [] => 0
  | m, g, l :: t => wsm Y (wN Y (m - 1)) g l.toNat + rkp Y (m - 1) (F_m_next Y g l).1 t
theorem rkp_e {Y : MS} : ∀ (u : List Int) (g : Int), rkp Y u.length g u = rk2 Y g u := by
  intro u
  induction u with
  | nil => intro g; rfl
  | cons l t ih =>
    intro g
    show wsm Y (wN Y ((l :: t).length - 1)) g l.toNat + rkp Y ((l :: t).length - 1) (F_m_next Y g l).1 t = _
    rw [List.length_cons, Nat.add_sub_cancel, ih]
    rfl
theorem rkp_s {Y : MS} (l : Int) : ∀ (u : List Int) (m : Nat) (g : Int), rkp Y m g (u ++ [l]) = rkp Y m g u + wsm Y (wN Y (m - u.length - 1)) (lds Y g u) l.toNat := by
  intro u
  induction u with
  | nil =>
    intro m g
    show wsm Y (wN Y (m - 1)) g l.toNat + 0 = 0 + wsm Y (wN Y (m - 0 - 1)) g l.toNat
    rw [Nat.sub_zero]
    omega
  | cons a t ih =>
    intro m g
    show wsm Y (wN Y (m - 1)) g a.toNat + rkp Y (m - 1) (F_m_next Y g a).1 (t ++ [l]) = wsm Y (wN Y (m - 1)) g a.toNat + rkp Y (m - 1) (F_m_next Y g a).1 t + wsm Y (wN Y (m - (a :: t).length - 1)) (lds Y (F_m_next Y g a).1 t) l.toNat
    rw [ih, List.length_cons, show m - 1 - t.length - 1 = m - (t.length + 1) - 1 by omega]
    omega
def wrQ (X : KS) (Y : MS) (w : Nat) (nn : Int) (q : Int × KS) : Prop := ksame [(w, 1), (64, 4), (64, 5)] [67, 68, w + 1] X q.2 ∧ dz q.2 ∧ ((q.1 = 0 ∧ q.2 = X ∧ rk1 Y 31 ≤ nn) ∨ (q.1 = 1 ∧ ∃ V, wL q.2 w V ∧ V.length ≤ 30 ∧ pth Y 0 V ∧ rkV Y V = nn))
theorem pth_b {X : KS} {Y : MS} (hs : stE X Y) : ∀ (u : List Int) (g : Int), 0 ≤ g → g < Y.1 24 → pth Y g u → 0 ≤ lds Y g u ∧ lds Y g u < Y.1 24 := by
  intro u
  induction u with
  | nil => intro g g0 g1 _; exact ⟨g0, g1⟩
  | cons l t ih =>
    intro g g0 g1 h
    obtain ⟨h1, h2, h3⟩ := h
    rcases hs.2 g l g0 g1 h1.1 h1.2 with ⟨_, k⟩ | ⟨k1, k2, k3⟩
    · exact absurd k h2
    · exact ih _ (by omega) k3 h3
theorem push_w {y : KS} {w : Nat} (hL : kL w = 60) {P : List Int} (h : wL y w P) (hl : P.length < 60) (z : Int) : F_w_push y w z = ((1 : Int), kA (kS y w 1 (y.1 w 1 + (1 : Int))) (w + 1) (y.1 w 1).toNat z) ∧ wL (F_w_push y w z).2 w (P ++ [z]) := by
  have e : F_w_push y w z = ((1 : Int), kA (kS y w 1 (y.1 w 1 + (1 : Int))) (w + 1) (y.1 w 1).toNat z) := by
    unfold F_w_push
    rw [if_neg (by rw [h.1]; omega), if_pos (by rw [h.1, hL]; omega)]
  refine ⟨e, ?_⟩
  rw [e]
  refine ⟨?_, ?_⟩
  · show (kS y w 1 (y.1 w 1 + (1 : Int))).1 w 1 = _
    rw [kS_s, h.1, List.length_append]
    rfl
  · show tk ((kA (kS y w 1 (y.1 w 1 + (1 : Int))) (w + 1) (y.1 w 1).toNat z).2 (w + 1)) (P ++ [z]).length = P ++ [z]
    rw [kA_s, kS_2, h.1, Int.toNat_natCast, List.length_append]
    unfold tk
    show (List.range (P.length + 1)).map (iU (y.2 (w + 1)) P.length z) = P ++ [z]
    rw [List.range_succ, List.map_append]
    congr 1
    · refine Eq.trans (List.map_congr_left (fun j hj => ?_)) h.2
      exact iU_n (by have := List.mem_range.mp hj; omega)
    · show [iU (y.2 (w + 1)) P.length z P.length] = [z]
      rw [iU_s]
theorem write_s {X : KS} {Y : MS} (hs : stE X Y) (hc : cnE X Y) {w : Nat} (hw : kW w = true) (hL : kL w = 60) {nn : Int} : ∀ n : Nat,
    (∀ (b : Int) (g : Nat), maR X → dz X → 0 ≤ b → g ≤ 31 → b = nn - rk1 Y g → (31 - g) + 1000 < n → wrQ X Y w nn (F_a_writeNumber_s w n 0 X nn b (g : Int) 0 0 0)) ∧
    (∀ (y : KS) (b s : Int) (g i : Nat) (P : List Int), wyK X y → maR y → ksame [(w, 1), (64, 4), (64, 5)] [67, 68, w + 1] X y → wL y w P → P.length = i → g ≤ 30 → i ≤ g → pth Y 0 P → s = lds Y 0 P → 0 ≤ b → b < wN Y (g - i) s → rkp Y g 0 P + b = nn - rk1 Y g → (g - i) * 10 + 2 < n → wrQ X Y w nn (F_a_writeNumber_s w n 1 y nn b (g : Int) s (i : Int) 0)) ∧
    (∀ (y : KS) (b s : Int) (g i z : Nat) (P : List Int), wyV X y (g - 1 - i) → ksame [(w, 1), (64, 4), (64, 5)] [67, 68, w + 1] X y → wL y w P → P.length = i → g ≤ 30 → i < g → pth Y 0 P → s = lds Y 0 P → (z : Int) < Y.1 0 → 0 ≤ b → b + wsm Y (wN Y (g - 1 - i)) s z < wN Y (g - i) s → rkp Y g 0 P + wsm Y (wN Y (g - 1 - i)) s z + b = nn - rk1 Y g → (g - i) * 10 - z < n → wrQ X Y w nn (F_a_writeNumber_s w n 2 y nn b (g : Int) s (i : Int) (z : Int))) := by
  have n1 := hs.1.2.2.2.1
  have n4 := hs.1.2.2.2.2
  have s1 := hs.1.2.2.1
  intro n
  induction n with
  | zero =>
    refine ⟨fun b g _ _ _ _ _ h => ?_, fun y b s g i P _ _ _ _ _ _ _ _ _ _ _ _ h => ?_, fun y b s g i z P _ _ _ _ _ _ _ _ _ _ _ _ h => ?_⟩
    all_goals (exfalso; omega)
  | succ n ih =>
    obtain ⟨i0, i1, i2⟩ := ih
    refine ⟨fun b g ma d b0 g31 eb fu => ?_, fun y b s g i P wy ma fr wl pl g30 ig pp es b0 b1 eb fu => ?_, fun y b s g i z P wv fr wl pl g30 ig pp es zl b0 b1 eb fu => ?_⟩
    · rw [F_a_writeNumber_e0]
      by_cases c : (30 : Int) < (g : Int)
      · rw [if_pos c, if_neg (by omega)]
        refine ⟨km_rf _ _ _, d, Or.inl ⟨rfl, rfl, ?_⟩⟩
        rw [show (31 : Nat) = g by omega]
        omega
      · rw [if_neg c, Int.toNat_natCast, hc g (by omega)]
        have ic := iC_lt (a := b) (b := wN Y g 0)
        by_cases c2 : iC b (wN Y g 0) < 0
        · rw [if_pos c2, if_pos (by omega)]
          have e0 : rkp Y g 0 [] = 0 := rfl
          have fw := F_w_wipe_fr X w
          have := i1 (F_w_wipe X w).2 b 0 g 0 [] (F_w_wipe_k hw d) (by
            unfold maR
            rw [fw.1 64 7 (by intro h9; rw [List.mem_singleton, Prod.mk.injEq] at h9; have e9 : w = 64 := (by omega); rw [e9] at hw; exact absurd hw (by decide)), fw.2 65 List.not_mem_nil, fw.2 66 List.not_mem_nil]
            exact ma) (km_mono (fun q hq => List.mem_cons.mpr (Or.inl (List.mem_singleton.mp hq))) (fun k h9 => absurd h9 List.not_mem_nil) fw) ⟨kS_s, rfl⟩ rfl (by omega) (Nat.zero_le _) trivial rfl b0 (ic.mp c2) (by omega) (by omega)
          exact this
        · rw [if_neg c2]
          have nb : ¬ b < wN Y g 0 := fun h9 => c2 (ic.mpr h9)
          have := i0 (b - wN Y g 0) (g + 1) ma d (by omega) (by omega) (by rw [rk1_s]; omega) (by omega)
          exact this
    · rw [F_a_writeNumber_e1]
      by_cases c : (g : Int) ≤ (i : Int)
      · rw [if_pos c]
        have eg : g = i := by omega
        rw [eg, Nat.sub_self] at b1
        have w0 : wN Y 0 s = 1 := rfl
        refine ⟨fr, wy.2.2.2, Or.inr ⟨rfl, P, wl, by omega, pp, ?_⟩⟩
        have e2 := rkp_e (Y := Y) P 0
        rw [eg, ← pl, e2] at eb
        unfold rkV
        omega
      · rw [if_neg c]
        have wv := count_w hs wy ma (v := (g : Int) - (1 : Int) - (i : Int)) (by omega) (by omega)
        rw [show ((g : Int) - (1 : Int) - (i : Int)).toNat = g - 1 - i by omega] at wv
        have fc := F_a_countWays_fr y ((g : Int) - (1 : Int) - (i : Int))
        have wl2 : wL (F_a_countWays y ((g : Int) - (1 : Int) - (i : Int))).2 w P := by
          refine ⟨?_, ?_⟩
          · rw [fc.1 w 1 (by intro h9; simp only [List.mem_cons, List.not_mem_nil, or_false, Prod.mk.injEq] at h9; omega)]; exact wl.1
          · rw [fc.2 (w + 1) (row67 hw)]; exact wl.2
        have z9 : wsm Y (wN Y (g - 1 - i)) s 0 = 0 := rfl
        have := i2 _ b s g i 0 P wv (km_tr fr (km_mono (fun q hq => List.mem_cons_of_mem _ hq) (fun q hq => by simp only [List.mem_cons, List.not_mem_nil, or_false] at hq ⊢; omega) fc)) wl2 pl g30 (by omega) pp es (by omega) b0 (by omega) (by omega) (by omega)
        exact this
    · have sb := pth_b hs P 0 (Int.le_refl _) (by omega) pp
      rw [← es] at sb
      have l1 : y.1 1 2 = Y.1 0 := by rw [wv.1.1]; exact hs.1.2.1
      have gN : wN Y (g - i) s = wsm Y (wN Y (g - 1 - i)) s (Y.1 0).toNat := by rw [show g - i = (g - 1 - i) + 1 by omega]; rfl
      obtain ⟨wb, _⟩ := waysBy_x hs wv (s := s) (z := (z : Int)) sb.1 sb.2 (by omega) zl
      have ws := wsm_s Y (wN Y (g - 1 - i)) s z
      -- taking the LETTER z
      have tak : b < (if (F_m_next Y s (z : Int)).1 = -9 then 0 else wN Y (g - 1 - i) (F_m_next Y s (z : Int)).1) → wrQ X Y w nn (F_a_writeNumber_s w n 1 (F_w_push y w (z : Int)).2 nn b (g : Int) (max (F_a_step (F_w_push y w (z : Int)).2 s (z : Int)).1 ((0 : Int))) ((i : Int) + (1 : Int)) 0) := fun hb => by
        have hn : ¬ (F_m_next Y s (z : Int)).1 = -9 := fun e => by rw [if_pos e] at hb; omega
        rw [if_neg hn] at hb
        obtain ⟨pe, pw⟩ := push_w hL wl (by omega) (z : Int)
        have fp := F_w_push_fr y w (z : Int)
        have wyp : wyK y (F_w_push y w (z : Int)).2 := F_a_push_k hw wv.1.2.2.2
        have es2 : (F_a_step (F_w_push y w (z : Int)).2 s (z : Int)).1 = (F_a_step X s (z : Int)).1 := F_a_step_cg (wyp.1.trans wv.1.1) (wyp.2.1.trans wv.1.2.1) (wyp.2.2.1.trans wv.1.2.2.1) _ _
        have nx : max (F_a_step X s (z : Int)).1 ((0 : Int)) = (F_m_next Y s (z : Int)).1 := by
          rcases hs.2 s (z : Int) sb.1 sb.2 (by omega) zl with ⟨_, k⟩ | ⟨k1, k2, k3⟩
          · exact absurd k hn
          · omega
        rw [es2, nx]
        have := i1 (F_w_push y w (z : Int)).2 b (F_m_next Y s (z : Int)).1 g (i + 1) (P ++ [(z : Int)]) ⟨wyp.1.trans wv.1.1, wyp.2.1.trans wv.1.2.1, wyp.2.2.1.trans wv.1.2.2.1, wyp.2.2.2⟩ (by
          unfold maR
          have k65 : 65 ∉ [w + 1] := by intro h9; rw [List.mem_singleton] at h9; have e9 : w = 64 := (by omega); rw [e9] at hw; exact absurd hw (by decide)
          rw [wyp.2.1, fp.2 65 k65, wyp.2.2.1]
          exact wv.2.1) (km_tr fr (km_mono (by intro k h9; rw [List.mem_singleton] at h9; rw [h9]; exact List.mem_cons_self) (by intro k h9; rw [List.mem_singleton] at h9; rw [h9]; simp) fp)) pw (by rw [List.length_append, pl]; rfl) g30 (by omega) ((pth_s Y (z : Int) P 0).mpr ⟨pp, ⟨by omega, zl⟩, by rw [← es]; exact hn⟩) (by rw [lds_s, ← es]) b0 (by rw [show g - (i + 1) = g - 1 - i by omega]; exact hb) (by rw [rkp_s, pl, ← es, Int.toNat_natCast, show g - i - 1 = g - 1 - i by omega]; exact eb) (by omega)
        exact this
      rw [F_a_writeNumber_e2, l1, wb]
      by_cases c : Y.1 0 - (1 : Int) ≤ (z : Int)
      · rw [if_pos c]
        refine tak ?_
        rw [gN, show (Y.1 0).toNat = z + 1 by omega] at b1
        omega
      · rw [if_neg c]
        have ic := iC_lt (a := b) (b := if (F_m_next Y s (z : Int)).1 = -9 then 0 else wN Y (g - 1 - i) (F_m_next Y s (z : Int)).1)
        by_cases c2 : iC b (if (F_m_next Y s (z : Int)).1 = -9 then 0 else wN Y (g - 1 - i) (F_m_next Y s (z : Int)).1) < 0
        · rw [if_pos c2]
          exact tak (ic.mp c2)
        · rw [if_neg c2]
          have nb : ¬ b < (if (F_m_next Y s (z : Int)).1 = -9 then 0 else wN Y (g - 1 - i) (F_m_next Y s (z : Int)).1) := fun h9 => c2 (ic.mpr h9)
          have := i2 y (b - (if (F_m_next Y s (z : Int)).1 = -9 then 0 else wN Y (g - 1 - i) (F_m_next Y s (z : Int)).1)) s g i (z + 1) P wv fr wl pl g30 ig pp es (by omega) (by omega) (by omega) (by omega) (by omega)
          exact this
theorem writeN_x {X : KS} {Y : MS} (hs : stE X Y) (ma : maR X) (d : dz X) (hc : cnE X Y) {w : Nat} (hw : kW w = true) (hL : kL w = 60) {nn : Int} (h0 : 0 ≤ nn) : wrQ X Y w nn (F_a_writeNumber X w nn) := by
  have z : rk1 Y 0 = 0 := rfl
  exact (write_s hs hc hw hL (nn := nn) 2000).1 nn 0 ma d h0 (by omega) (by omega) (by omega)
