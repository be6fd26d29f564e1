-- deps: 99.z.a
theorem mk_tA {x y z : MS} {v1 v2 w : List Int} {ws : List (List Int)} (mz : mzH x) (h : mkI x y v1 v2 ws) (f : slF y z) (k9 : slK x z 9 w) (k1 : slK x z 10 v1) (k2 : slK x z 12 v2) : (mzH z ∧ rwR z ∧ slH z 9 ∧ slH z ((10 : Int)).toNat) ∧ (((F_m_times z ((9 : Int)) ((10 : Int))).1 = 0 ∧ 60 < w.length + v1.length ∧ (F_m_times z ((9 : Int)) ((10 : Int))).2 = z) ∨ ((F_m_times z ((9 : Int)) ((10 : Int))).1 = 1 ∧ w.length + v1.length ≤ 60 ∧ ∃ d, mkI x (F_m_times z ((9 : Int)) ((10 : Int))).2 v1 v2 ws ∧ slK x (F_m_times z ((9 : Int)) ((10 : Int))).2 9 d ∧ nfP x (w ++ v1) d)) := mk_t (b := 10) mz h f k9 k1 k2 (Or.inl ⟨rfl, rfl⟩)
theorem mk_tB {x y z : MS} {v1 v2 w : List Int} {ws : List (List Int)} (mz : mzH x) (h : mkI x y v1 v2 ws) (f : slF y z) (k9 : slK x z 9 w) (k1 : slK x z 10 v1) (k2 : slK x z 12 v2) : (mzH z ∧ rwR z ∧ slH z 9 ∧ slH z ((12 : Int)).toNat) ∧ (((F_m_times z ((9 : Int)) ((12 : Int))).1 = 0 ∧ 60 < w.length + v2.length ∧ (F_m_times z ((9 : Int)) ((12 : Int))).2 = z) ∨ ((F_m_times z ((9 : Int)) ((12 : Int))).1 = 1 ∧ w.length + v2.length ≤ 60 ∧ ∃ d, mkI x (F_m_times z ((9 : Int)) ((12 : Int))).2 v1 v2 ws ∧ slK x (F_m_times z ((9 : Int)) ((12 : Int))).2 9 d ∧ nfP x (w ++ v2) d)) := mk_t (b := 12) mz h f k9 k1 k2 (Or.inr ⟨rfl, rfl⟩)
theorem mkI_h {x z : MS} {v1 v2 d : List Int} {ws : List (List Int)} (h : mkI x z v1 v2 ws) (k9 : slK x z 9 d) : z.1 31 = (ws.length : Int) ∧ z.1 31 ≤ 300 ∧ (0 ≤ z.2 1 9 ∧ z.2 1 9 ≤ 60) ∧ rwR z ∧ (∀ k : Nat, k < 301 → iR (z.2 32 k)) ∧ (∀ k : Nat, k < 18060 → iR (z.2 33 k)) := by
  obtain ⟨f0, k1, k2, md, wl, hh⟩ := h
  obtain ⟨g1, g2, g3, g4⟩ := k9
  have m1 := md.1
  exact ⟨m1, by omega, by omega, f0.2.1, fun k hk => by have := md.2.1 k hk; unfold iR; omega, fun k hk => by have := md.2.2 k hk; unfold iR; omega⟩
theorem mk_01 {x z : MS} {v1 v2 d : List Int} {ws : List (List Int)} (h : mkI x z v1 v2 ws) (k9 : slK x z 9 d) : (F_m_isMade z).1 = 0 ∨ (F_m_isMade z).1 = 1 := by
  rcases mk_m h k9 with e | e
  · exact Or.inr e.1
  · exact Or.inl e.1
theorem mk_w {x y : MS} {v1 v2 : List Int} {ws : List (List Int)} {k9 : Int} (h : mkI x y v1 v2 ws) (k0 : 0 ≤ k9) (k1 : k9 < y.1 31) : ∃ w, ws[k9.toNat]? = some w := by
  have m1 := h.2.2.2.1.1
  exact ⟨ws[k9.toNat]'(by omega), List.getElem?_eq_getElem _⟩
theorem mkV_x {v1 v2 v : List Int} {k9 s9 : Int} (k0 : 0 ≤ k9) (s0 : 0 ≤ s9) (s1 : s9 < 2) (hv : (s9 = 0 ∧ v = v1) ∨ (¬ s9 = 0 ∧ v = v2)) : mkV v1 v2 ((2 : Int) * k9 + s9).toNat = v ∧ ((2 : Int) * k9 + s9).toNat / 2 = k9.toNat := by
  refine ⟨?_, by omega⟩
  unfold mkV
  rcases hv with ⟨e, hv⟩ | ⟨e, hv⟩
  · rw [if_pos (by omega), hv]
  · rw [if_neg (by omega), hv]
theorem mkE_y {x z : MS} {a b : Nat} {v1 v2 v w d : List Int} {ws : List (List Int)} {k9 s9 : Int} (k0 : 0 ≤ k9) (s0 : 0 ≤ s9) (s1 : s9 < 2) (hv : (s9 = 0 ∧ v = v1) ∨ (¬ s9 = 0 ∧ v = v2)) (n1 : nfP x (slM x a) v1) (n2 : nfP x (slM x b) v2) (mi : mkI x z v1 v2 ws) (mc : mkC x v1 v2 ((2 : Int) * k9 + s9).toNat ws) (hk : ws[k9.toNat]? = some w) (c : w.length + v.length ≤ 60) (nd : nfP x (w ++ v) d) (hd : d ∈ ws) : mkE x z a b ((2 : Int) * k9 + (s9 + (1 : Int))).toNat := by
  obtain ⟨e1, e2⟩ := mkV_x k0 s0 s1 hv
  refine ⟨v1, v2, ws, n1, n2, mi, ?_⟩
  rw [show ((2 : Int) * k9 + (s9 + (1 : Int))).toNat = ((2 : Int) * k9 + s9).toNat + 1 by omega]
  exact ⟨ws, w, d, mc, by rw [e2]; exact hk, by rw [e1]; exact c, by rw [e1]; exact nd, Or.inl ⟨hd, rfl⟩⟩
theorem mkE_n {x z : MS} {a b : Nat} {v1 v2 v w d : List Int} {ws : List (List Int)} {k9 s9 : Int} (k0 : 0 ≤ k9) (s0 : 0 ≤ s9) (s1 : s9 < 2) (hv : (s9 = 0 ∧ v = v1) ∨ (¬ s9 = 0 ∧ v = v2)) (n1 : nfP x (slM x a) v1) (n2 : nfP x (slM x b) v2) (mi : mkI x z v1 v2 ws) (k9d : slK x z 9 d) (mc : mkC x v1 v2 ((2 : Int) * k9 + s9).toNat ws) (hk : ws[k9.toNat]? = some w) (c : w.length + v.length ≤ 60) (nd : nfP x (w ++ v) d) (hd : d ∉ ws) (hl : ¬ z.1 31 = 300) : mkE x (F_m_keepMade z).2 a b ((2 : Int) * k9 + (s9 + (1 : Int))).toNat ∧ (F_m_keepMade z).2.1 31 = (ws.length : Int) + 1 := by
  obtain ⟨e1, e2⟩ := mkV_x k0 s0 s1 hv
  have m1 := mi.2.2.2.1.1
  have hl2 : ws.length ≠ 300 := by omega
  have mk := mk_k mi k9d hl2
  refine ⟨⟨v1, v2, ws ++ [d], n1, n2, mk, ?_⟩, ?_⟩
  · rw [show ((2 : Int) * k9 + (s9 + (1 : Int))).toNat = ((2 : Int) * k9 + s9).toNat + 1 by omega]
    exact ⟨ws, w, d, mc, by rw [e2]; exact hk, by rw [e1]; exact c, by rw [e1]; exact nd, Or.inr ⟨hd, hl2, rfl⟩⟩
  · have h9 := mk.2.2.2.1.1
    rw [List.length_append, List.length_singleton] at h9
    omega
theorem mk_0 {x y : MS} {v1 v2 : List Int} (f : slF x y) (k1 : slK x y 10 v1) (k2 : slK x y 12 v2) (hm : ∀ k : Nat, k < 301 → 0 ≤ x.2 32 k ∧ x.2 32 k ≤ 60) (hr : ∀ k : Nat, k < 18060 → 0 ≤ x.2 33 k ∧ x.2 33 k ≤ 3) : mkI x (aU (sU y 31 ((0 : Int))) 1 ((9 : Int)).toNat ((0 : Int))) v1 v2 [] ∧ slK x (aU (sU y 31 ((0 : Int))) 1 ((9 : Int)).toNat ((0 : Int))) 9 [] := by
  show mkI x (aU (sU y 31 0) 1 9 0) v1 v2 [] ∧ slK x (aU (sU y 31 0) 1 9 0) 9 []
  have hw2 : rwR (sU y 31 0) := f.2.1
  obtain ⟨d, k⟩ := zero_D (x := x) (y := sU y 31 0) (k := 9) hw2
  have e1 : (sU y 31 0).2 = y.2 := rfl
  have K : ∀ {j : Nat} {u : List Int}, j ≠ 9 → j ≠ 11 → slK x y j u → slK x (aU (sU y 31 0) 1 9 0) j u := fun {j u} h1 h2 hu => slD_K d h1 h2 hu
  have e32 : (aU (sU y 31 0) 1 9 0).2 32 = x.2 32 := (yU_n (by decide)).trans (f.1.2 32 (by decide))
  have e33 : (aU (sU y 31 0) 1 9 0).2 33 = x.2 33 := (yU_n (by decide)).trans (f.1.2 33 (by decide))
  have fs : same [31] [1, 2, 26, 32, 33] x (aU (sU y 31 0) 1 9 0) := sm_a (by decide) (sm_s (by decide) (sm_mono (by decide) (by decide) f.1))
  refine ⟨⟨⟨fs, d.2.1, fun j hj => (d.2.2.1 j (by omega)).trans (f.2.2.1 j hj), fun i hi => (d.2.2.2 i (by omega) (by omega)).trans (f.2.2.2 i hi)⟩, K (by decide) (by decide) k1, K (by decide) (by decide) k2, ⟨(show (sU y 31 0).1 31 = 0 from yS_s), by rw [e32]; exact hm, by rw [e33]; exact hr⟩, Nat.zero_le _, fun k w hk => ?_⟩, k⟩
  have := (List.getElem?_eq_some_iff.mp hk).1
  exact absurd this (by simp)
theorem mkE_0 {x z : MS} {a b : Nat} {v1 v2 : List Int} (n1 : nfP x (slM x a) v1) (n2 : nfP x (slM x b) v2) (h : mkI x z v1 v2 [] ∧ slK x z 9 []) : mkE x (F_m_keepMade z).2 a b ((2 : Int) * (0 : Int)).toNat ∧ (F_m_keepMade z).2.1 31 = 1 := by
  have mk := mk_k h.1 h.2 (by decide)
  exact ⟨⟨v1, v2, [[]], n1, n2, mk, rfl⟩, mk.2.2.2.1.1⟩
theorem mkE_b {x y : MS} {a b t : Nat} (h : mkE x y a b t) : 0 ≤ y.1 31 ∧ y.1 31 ≤ 300 := by
  obtain ⟨v1, v2, ws, _, _, mi, _⟩ := h
  have m1 := mi.2.2.2.1.1
  have m2 := mi.2.2.2.2.1
  omega
def mkQ (x : MS) (a b : Int) (q : Int × MS) : Prop := (¬ ((0 ≤ a ∧ a ≤ 7) ∧ (0 ≤ b ∧ b ≤ 7)) ∧ q = (-1, x)) ∨ (((0 ≤ a ∧ a ≤ 7) ∧ (0 ≤ b ∧ b ≤ 7)) ∧ (((F_m_isMachine x).1 = 0 ∧ q = (-3, x)) ∨ (¬ (F_m_isMachine x).1 = 0 ∧ mkF x q.2 ∧ ∃ v1 v2, nfP x (slM x a.toNat) v1 ∧ nfP x (slM x b.toNat) v2 ∧ ((q.1 = -4 ∧ ∃ t ws w, mkC x v1 v2 t ws ∧ ws[t / 2]? = some w ∧ (60 < w.length + (mkV v1 v2 t).length ∨ ∃ d, w.length + (mkV v1 v2 t).length ≤ 60 ∧ nfP x (w ++ mkV v1 v2 t) d ∧ d ∉ ws ∧ ws.length = 300)) ∨ ∃ ws, mkC x v1 v2 (2 * ws.length) ws ∧ q.1 = (ws.length : Int)))))
theorem mk_41 {x y z : MS} {a b k9 s9 : Int} {v1 v2 v w : List Int} {ws : List (List Int)} (hab : (0 ≤ a ∧ a ≤ 7) ∧ (0 ≤ b ∧ b ≤ 7)) (hm : ¬ (F_m_isMachine x).1 = 0) (k0 : 0 ≤ k9) (s0 : 0 ≤ s9) (s1 : s9 < 2) (hv : (s9 = 0 ∧ v = v1) ∨ (¬ s9 = 0 ∧ v = v2)) (n1 : nfP x (slM x a.toNat) v1) (n2 : nfP x (slM x b.toNat) v2) (mi : mkI x y v1 v2 ws) (f : slF y z) (mc : mkC x v1 v2 ((2 : Int) * k9 + s9).toNat ws) (hk : ws[k9.toNat]? = some w) (c : 60 < w.length + v.length) {q : MS} (eq : q = z) : mkQ x a b (-4, q) := by
  obtain ⟨e1, e2⟩ := mkV_x k0 s0 s1 hv
  rw [eq]
  exact Or.inr ⟨hab, Or.inr ⟨hm, mkF_s mi.1 f, v1, v2, n1, n2, Or.inl ⟨rfl, _, ws, w, mc, by rw [e2]; exact hk, Or.inl (by rw [e1]; exact c)⟩⟩⟩
theorem mk_42 {x z : MS} {a b k9 s9 : Int} {v1 v2 v w d : List Int} {ws : List (List Int)} (hab : (0 ≤ a ∧ a ≤ 7) ∧ (0 ≤ b ∧ b ≤ 7)) (hm : ¬ (F_m_isMachine x).1 = 0) (k0 : 0 ≤ k9) (s0 : 0 ≤ s9) (s1 : s9 < 2) (hv : (s9 = 0 ∧ v = v1) ∨ (¬ s9 = 0 ∧ v = v2)) (n1 : nfP x (slM x a.toNat) v1) (n2 : nfP x (slM x b.toNat) v2) (mi : mkI x z v1 v2 ws) (mc : mkC x v1 v2 ((2 : Int) * k9 + s9).toNat ws) (hk : ws[k9.toNat]? = some w) (c : w.length + v.length ≤ 60) (nd : nfP x (w ++ v) d) (hd : d ∉ ws) (hl : z.1 31 = 300) : mkQ x a b (-4, z) := by
  obtain ⟨e1, e2⟩ := mkV_x k0 s0 s1 hv
  have m1 := mi.2.2.2.1.1
  exact Or.inr ⟨hab, Or.inr ⟨hm, mi.1, v1, v2, n1, n2, Or.inl ⟨rfl, _, ws, w, mc, by rw [e2]; exact hk, Or.inr ⟨d, by rw [e1]; exact c, by rw [e1]; exact nd, hd, by omega⟩⟩⟩⟩
theorem mk_5 {x y : MS} {a b k9 : Int} (hab : (0 ≤ a ∧ a ≤ 7) ∧ (0 ≤ b ∧ b ≤ 7)) (hm : ¬ (F_m_isMachine x).1 = 0) (ex : mkE x y a.toNat b.toNat ((2 : Int) * k9).toNat) (k0 : 0 ≤ k9) (e : k9 = y.1 31) : mkQ x a b (y.1 31, y) := by
  obtain ⟨v1, v2, ws, n1, n2, mi, mc⟩ := ex
  have m1 := mi.2.2.2.1.1
  rw [show ((2 : Int) * k9).toNat = 2 * ws.length by omega] at mc
  exact Or.inr ⟨hab, Or.inr ⟨hm, mi.1, v1, v2, n1, n2, Or.inr ⟨ws, mc, m1⟩⟩⟩
def F_m_makes_s : Nat → Nat → MS → Int → Int → Int → Int → Int × MS
  | 0, _, x, _, _, _, _ => (0, x)
  | n + 1, t, x, p0, p1, p2, p3 => match t with
    | 0 => (fun (a : Int) (b : Int) (k9 : Int) => (if ((x).1 31) ≤ (k9) then ((x).1 31, x) else F_m_makes_s n 1 (x) (a) (b) (k9) ((0 : Int)))) p0 p1 p2
    | 1 => (fun (a : Int) (b : Int) (k9 : Int) (s9 : Int) => (if ((2 : Int)) ≤ (s9) then F_m_makes_s n 0 (x) (a) (b) ((k9) + (1 : Int)) (0) else (if (s9) = (0) then (if ((F_m_times ((F_m_put33 (aU (x) 1 ((9 : Int)).toNat ((0 : Int))) ((9 : Int)) (((60 : Int)) * (k9)) (((x).2 32) (k9).toNat)).2) ((9 : Int)) ((10 : Int))).1) = (0) then ((-4 : Int), (F_m_times ((F_m_put33 (aU (x) 1 ((9 : Int)).toNat ((0 : Int))) ((9 : Int)) (((60 : Int)) * (k9)) (((x).2 32) (k9).toNat)).2) ((9 : Int)) ((10 : Int))).2) else (if ((F_m_isMade ((F_m_times ((F_m_put33 (aU (x) 1 ((9 : Int)).toNat ((0 : Int))) ((9 : Int)) (((60 : Int)) * (k9)) (((x).2 32) (k9).toNat)).2) ((9 : Int)) ((10 : Int))).2)).1) = (0) then (if (((F_m_times ((F_m_put33 (aU (x) 1 ((9 : Int)).toNat ((0 : Int))) ((9 : Int)) (((60 : Int)) * (k9)) (((x).2 32) (k9).toNat)).2) ((9 : Int)) ((10 : Int))).2).1 31) = ((300 : Int)) then ((-4 : Int), (F_m_times ((F_m_put33 (aU (x) 1 ((9 : Int)).toNat ((0 : Int))) ((9 : Int)) (((60 : Int)) * (k9)) (((x).2 32) (k9).toNat)).2) ((9 : Int)) ((10 : Int))).2) else F_m_makes_s n 1 ((F_m_keepMade ((F_m_times ((F_m_put33 (aU (x) 1 ((9 : Int)).toNat ((0 : Int))) ((9 : Int)) (((60 : Int)) * (k9)) (((x).2 32) (k9).toNat)).2) ((9 : Int)) ((10 : Int))).2)).2) (a) (b) (k9) ((s9) + (1 : Int))) else F_m_makes_s n 1 ((F_m_times ((F_m_put33 (aU (x) 1 ((9 : Int)).toNat ((0 : Int))) ((9 : Int)) (((60 : Int)) * (k9)) (((x).2 32) (k9).toNat)).2) ((9 : Int)) ((10 : Int))).2) (a) (b) (k9) ((s9) + (1 : Int)))) else (if ((F_m_times ((F_m_put33 (aU (x) 1 ((9 : Int)).toNat ((0 : Int))) ((9 : Int)) (((60 : Int)) * (k9)) (((x).2 32) (k9).toNat)).2) ((9 : Int)) ((12 : Int))).1) = (0) then ((-4 : Int), (F_m_times ((F_m_put33 (aU (x) 1 ((9 : Int)).toNat ((0 : Int))) ((9 : Int)) (((60 : Int)) * (k9)) (((x).2 32) (k9).toNat)).2) ((9 : Int)) ((12 : Int))).2) else (if ((F_m_isMade ((F_m_times ((F_m_put33 (aU (x) 1 ((9 : Int)).toNat ((0 : Int))) ((9 : Int)) (((60 : Int)) * (k9)) (((x).2 32) (k9).toNat)).2) ((9 : Int)) ((12 : Int))).2)).1) = (0) then (if (((F_m_times ((F_m_put33 (aU (x) 1 ((9 : Int)).toNat ((0 : Int))) ((9 : Int)) (((60 : Int)) * (k9)) (((x).2 32) (k9).toNat)).2) ((9 : Int)) ((12 : Int))).2).1 31) = ((300 : Int)) then ((-4 : Int), (F_m_times ((F_m_put33 (aU (x) 1 ((9 : Int)).toNat ((0 : Int))) ((9 : Int)) (((60 : Int)) * (k9)) (((x).2 32) (k9).toNat)).2) ((9 : Int)) ((12 : Int))).2) else F_m_makes_s n 1 ((F_m_keepMade ((F_m_times ((F_m_put33 (aU (x) 1 ((9 : Int)).toNat ((0 : Int))) ((9 : Int)) (((60 : Int)) * (k9)) (((x).2 32) (k9).toNat)).2) ((9 : Int)) ((12 : Int))).2)).2) (a) (b) (k9) ((s9) + (1 : Int))) else F_m_makes_s n 1 ((F_m_times ((F_m_put33 (aU (x) 1 ((9 : Int)).toNat ((0 : Int))) ((9 : Int)) (((60 : Int)) * (k9)) (((x).2 32) (k9).toNat)).2) ((9 : Int)) ((12 : Int))).2) (a) (b) (k9) ((s9) + (1 : Int))))))) p0 p1 p2 p3
    | _ => (0, x)
theorem F_m_makes_e0 (n : Nat) (x : MS) (a : Int) (b : Int) (k9 : Int) (q0 : Int) : F_m_makes_s (n + 1) 0 x a b k9 q0 = (if ((x).1 31) ≤ (k9) then ((x).1 31, x) else F_m_makes_s n 1 (x) (a) (b) (k9) ((0 : Int))) := rfl
theorem F_m_makes_e1 (n : Nat) (x : MS) (a : Int) (b : Int) (k9 : Int) (s9 : Int) : F_m_makes_s (n + 1) 1 x a b k9 s9 = (if ((2 : Int)) ≤ (s9) then F_m_makes_s n 0 (x) (a) (b) ((k9) + (1 : Int)) (0) else (if (s9) = (0) then (if ((F_m_times ((F_m_put33 (aU (x) 1 ((9 : Int)).toNat ((0 : Int))) ((9 : Int)) (((60 : Int)) * (k9)) (((x).2 32) (k9).toNat)).2) ((9 : Int)) ((10 : Int))).1) = (0) then ((-4 : Int), (F_m_times ((F_m_put33 (aU (x) 1 ((9 : Int)).toNat ((0 : Int))) ((9 : Int)) (((60 : Int)) * (k9)) (((x).2 32) (k9).toNat)).2) ((9 : Int)) ((10 : Int))).2) else (if ((F_m_isMade ((F_m_times ((F_m_put33 (aU (x) 1 ((9 : Int)).toNat ((0 : Int))) ((9 : Int)) (((60 : Int)) * (k9)) (((x).2 32) (k9).toNat)).2) ((9 : Int)) ((10 : Int))).2)).1) = (0) then (if (((F_m_times ((F_m_put33 (aU (x) 1 ((9 : Int)).toNat ((0 : Int))) ((9 : Int)) (((60 : Int)) * (k9)) (((x).2 32) (k9).toNat)).2) ((9 : Int)) ((10 : Int))).2).1 31) = ((300 : Int)) then ((-4 : Int), (F_m_times ((F_m_put33 (aU (x) 1 ((9 : Int)).toNat ((0 : Int))) ((9 : Int)) (((60 : Int)) * (k9)) (((x).2 32) (k9).toNat)).2) ((9 : Int)) ((10 : Int))).2) else F_m_makes_s n 1 ((F_m_keepMade ((F_m_times ((F_m_put33 (aU (x) 1 ((9 : Int)).toNat ((0 : Int))) ((9 : Int)) (((60 : Int)) * (k9)) (((x).2 32) (k9).toNat)).2) ((9 : Int)) ((10 : Int))).2)).2) (a) (b) (k9) ((s9) + (1 : Int))) else F_m_makes_s n 1 ((F_m_times ((F_m_put33 (aU (x) 1 ((9 : Int)).toNat ((0 : Int))) ((9 : Int)) (((60 : Int)) * (k9)) (((x).2 32) (k9).toNat)).2) ((9 : Int)) ((10 : Int))).2) (a) (b) (k9) ((s9) + (1 : Int)))) else (if ((F_m_times ((F_m_put33 (aU (x) 1 ((9 : Int)).toNat ((0 : Int))) ((9 : Int)) (((60 : Int)) * (k9)) (((x).2 32) (k9).toNat)).2) ((9 : Int)) ((12 : Int))).1) = (0) then ((-4 : Int), (F_m_times ((F_m_put33 (aU (x) 1 ((9 : Int)).toNat ((0 : Int))) ((9 : Int)) (((60 : Int)) * (k9)) (((x).2 32) (k9).toNat)).2) ((9 : Int)) ((12 : Int))).2) else (if ((F_m_isMade ((F_m_times ((F_m_put33 (aU (x) 1 ((9 : Int)).toNat ((0 : Int))) ((9 : Int)) (((60 : Int)) * (k9)) (((x).2 32) (k9).toNat)).2) ((9 : Int)) ((12 : Int))).2)).1) = (0) then (if (((F_m_times ((F_m_put33 (aU (x) 1 ((9 : Int)).toNat ((0 : Int))) ((9 : Int)) (((60 : Int)) * (k9)) (((x).2 32) (k9).toNat)).2) ((9 : Int)) ((12 : Int))).2).1 31) = ((300 : Int)) then ((-4 : Int), (F_m_times ((F_m_put33 (aU (x) 1 ((9 : Int)).toNat ((0 : Int))) ((9 : Int)) (((60 : Int)) * (k9)) (((x).2 32) (k9).toNat)).2) ((9 : Int)) ((12 : Int))).2) else F_m_makes_s n 1 ((F_m_keepMade ((F_m_times ((F_m_put33 (aU (x) 1 ((9 : Int)).toNat ((0 : Int))) ((9 : Int)) (((60 : Int)) * (k9)) (((x).2 32) (k9).toNat)).2) ((9 : Int)) ((12 : Int))).2)).2) (a) (b) (k9) ((s9) + (1 : Int))) else F_m_makes_s n 1 ((F_m_times ((F_m_put33 (aU (x) 1 ((9 : Int)).toNat ((0 : Int))) ((9 : Int)) (((60 : Int)) * (k9)) (((x).2 32) (k9).toNat)).2) ((9 : Int)) ((12 : Int))).2) (a) (b) (k9) ((s9) + (1 : Int)))))) := rfl
def F_m_makes (x : MS) (a : Int) (b : Int) : Int × MS := (if ((F_m_isSlot (x) (a)).1) = (0) then ((-1 : Int), x) else (if ((F_m_isSlot (x) (b)).1) = (0) then ((-1 : Int), x) else (if ((F_m_isMachine (x)).1) = (0) then ((-3 : Int), x) else F_m_makes_s 2000 0 ((F_m_keepMade (aU (sU ((F_m_reduceAt ((F_m_copy ((F_m_reduceAt ((F_m_copy (x) (a) ((10 : Int))).2) ((10 : Int))).2) (b) ((12 : Int))).2) ((12 : Int))).2) 31 ((0 : Int))) 1 ((9 : Int)).toNat ((0 : Int)))).2) (a) (b) ((0 : Int)) (0))))
set_option maxHeartbeats 4000000 in
set_option maxRecDepth 100000 in
/-- makes -/
theorem c_m_makes (l : Launch) (dC : Nat → ClassId) (dI : Nat → Nat → Nat) (h : Nat) (ad : Nat → Nat) (cI cJ cZ : ClassId) (sz : Nat) (x : MS) (a : Int) (b : Int) (ra : iR a) (rb : iR b) (sn : iR (x.1 6)) (ic : x.1 27 = 0 ∨ x.1 27 = 1) (mz : ¬ (F_m_isMachine x).1 = 0 → mzH x) (hrw : rwR x) (hs : ∀ k : Nat, k < 9 → slH x k) (hm : ∀ k : Nat, k < 301 → 0 ≤ x.2 32 k ∧ x.2 32 k ≤ 60) (hr0 : ∀ k : Nat, k < 18060 → 0 ≤ x.2 33 k ∧ x.2 33 k ≤ 3) : Met l yX12_makes wsX12_makes ({ frames := 2, cells := 0, slots := 0, locals := 57 }) (mPc dC dI h ad cI cJ cZ sz x [.ref h, .int (iI a), .int (iI b)]) (va_Qi (fun (r : Int32) (u : MS) => r = iI (F_m_makes (x) (a) (b)).1 ∧ u = (F_m_makes (x) (a) (b)).2) (mAt dC dI h ad cI cJ cZ (va_A (mW h ad cI cJ cZ (x)) sz)) (va_A (mW h ad cI cJ cZ (x)) sz)) 0 0 (va_A (mW h ad cI cJ cZ (x)) sz) := by
  refine Met.ofW (cc := cX12_makes) (maxL := 5) (ret := (some .int)) (by decide) rfl ?_
  intro p e s m args below meth c s₁ B hml hv
  obtain ⟨rfl, hsz, hP, hK, hD0⟩ := hv
  have hx := B.exec
  have hb := B.bytes
  have hr := B.returns
  have hts := atoms_spec (ws := wsX12_makes) B.pre
  have hown : s.vm.findClass RX12 = some m.cls := findClass_of_methodNamed B.named
  have hlocks := B.notSynchronized
  have hin : ∀ w ∈ u_ws RX12 TX12 34, w ∈ wsX12_makes := by decide +kernel
  subst hsz
  have hD := hD0.self (sz := s.heap.size)
  generalize hAe : va_A (mW h ad cI cJ cZ (x)) s.heap.size = A at hD ⊢
  have hA : ∀ q : Nat, s.heap.size ≤ q → A q := fun q h => by rw [← hAe]; exact Or.inr h
  have hS : va_S A s.heap s.heap [] := va_S.rf
  have hl := lv_entry ([.ref h, .int (iI a), .int (iI b)]) (n := 5) (Nat.le_of_ble_eq_true rfl)
  rw [lg_entry_eq]
  generalize (lg_sl ([.ref h, .int (iI a), .int (iI b)]) ++ List.replicate (5 - (lg_sl ([.ref h, .int (iI a), .int (iI b)])).length) Slot.unset).toArray = ls at hl ⊢
  have hl : lv_has ls 5 [(0, .ref (h)), (1, .int (iI (a))), (2, .int (iI (b)))] := hl
  have L : ∀ n : Nat, (∀ (y : MS) (k9 : Int), (mkE x y a.toNat b.toNat ((2 : Int) * k9).toNat) → (mzH x) → (¬ (F_m_isMachine x).1 = 0) → ((0 ≤ a ∧ a ≤ 7) ∧ (0 ≤ b ∧ b ≤ 7)) → (0 ≤ k9) → (k9 ≤ y.1 31) → (k9 ≤ 300) → ((301 - k9) * 5 + 5 < n) → F_m_makes_s n 0 y a b k9 0 = F_m_makes (x) (a) (b) → ∀ (H : Heap) (locs : List Loc) (ls : Array Slot), va_P (dC, dI) vwCl (mW h ad cI cJ cZ (y)) H → va_D A (mW h ad cI cJ cZ (y)) → va_S A s.heap H locs → lv_has ls 5 [(0, .ref (h)), (1, .int (iI (a))), (2, .int (iI (b))), (3, .int (iI (k9)))] → W p l e (headSpec wsX12_makes ({ frames := 2, cells := 0, slots := 0, locals := 57 })).room s m ([.ref h, .int (iI a), .int (iI b)] : List Value).toArray below meth c H locs 0 0 (MQ below (va_Qi (fun (r : Int32) (u : MS) => r = iI (F_m_makes (x) (a) (b)).1 ∧ u = (F_m_makes (x) (a) (b)).2) (mAt dC dI h ad cI cJ cZ A) A) ([.ref h, .int (iI a), .int (iI b)] : List Value).toArray s 0 0 A) (F0 m 71 ls [])) ∧ (∀ (y : MS) (k9 : Int) (s9 : Int), (mkE x y a.toNat b.toNat ((2 : Int) * k9 + s9).toNat) → (mzH x) → (¬ (F_m_isMachine x).1 = 0) → ((0 ≤ a ∧ a ≤ 7) ∧ (0 ≤ b ∧ b ≤ 7)) → (0 ≤ k9) → (k9 < y.1 31) → (k9 < 300) → (0 ≤ s9) → (s9 ≤ 2) → ((301 - k9) * 5 + 4 - s9 < n) → F_m_makes_s n 1 y a b k9 s9 = F_m_makes (x) (a) (b) → ∀ (H : Heap) (locs : List Loc) (ls : Array Slot), va_P (dC, dI) vwCl (mW h ad cI cJ cZ (y)) H → va_D A (mW h ad cI cJ cZ (y)) → va_S A s.heap H locs → lv_has ls 5 [(0, .ref (h)), (1, .int (iI (a))), (2, .int (iI (b))), (3, .int (iI (k9))), (4, .int (iI (s9)))] → W p l e (headSpec wsX12_makes ({ frames := 2, cells := 0, slots := 0, locals := 57 })).room s m ([.ref h, .int (iI a), .int (iI b)] : List Value).toArray below meth c H locs 0 0 (MQ below (va_Qi (fun (r : Int32) (u : MS) => r = iI (F_m_makes (x) (a) (b)).1 ∧ u = (F_m_makes (x) (a) (b)).2) (mAt dC dI h ad cI cJ cZ A) A) ([.ref h, .int (iI a), .int (iI b)] : List Value).toArray s 0 0 A) (F0 m 82 ls [])) := by
    intro n
    induction n with
    | zero =>
      refine ⟨?_, ?_⟩
      · intro y k9 ex mz0 hm1 hab k0 k1 k2 fu hres
        exact absurd fu (by omega)
      · intro y k9 s9 ex mz0 hm1 hab k0 k1 k2 s0 s1 fu hres
        exact absurd fu (by omega)
    | succ n ih =>
      refine ⟨?_, ?_⟩
      · intro y k9 ex mz0 hm1 hab k0 k1 k2 fu hres H locs ls hP hD hS hl
        rw [F_m_makes_e0] at hres
        have mb := mkE_b ex
        refine lv_iload_n hx hb dX12_makes_71 rfl (lv_at hl 3 rfl) ?_
        refine lv_aload_n hx hb dX12_makes_72 rfl (lv_at hl 0 rfl) ?_
        refine va_get (D := (dC, dI)) (ci := 12) (v := .int (iI ((y).1 31))) (C := RX12) (T := TX12) (N := 34) hx hb hts hin hown hK hP 0 rfl rfl 31 (by decide) (hts (.fieldLink RX12 263 "LikeWordsModel" "made" "I") (by decide +kernel)) (fun _ h9 => h9) rfl dX12_makes_73 ?_
        refine wi_icmp_ge (tgt := 176) hx hb (by first | assumption | (unfold iR; omega) | exact F_R01 (by assumption)) (by first | assumption | (unfold iR; omega) | exact F_R01 (by assumption)) dX12_makes_76 (by decide) (fun c_76 => ?_) (fun c_76 => ?_)
        · skip
          rw [if_pos c_76] at hres
          refine lv_aload_n hx hb dX12_makes_176 rfl (lv_at hl 0 rfl) ?_
          refine va_get (D := (dC, dI)) (ci := 12) (v := .int (iI ((y).1 31))) (C := RX12) (T := TX12) (N := 34) hx hb hts hin hown hK hP 0 rfl rfl 31 (by decide) (hts (.fieldLink RX12 263 "LikeWordsModel" "made" "I") (by decide +kernel)) (fun _ h9 => h9) rfl dX12_makes_177 ?_
          exact W.iret (v := iI ((y).1 31)) hx hb hr (fun t ht hW => ⟨⟨iI ((y).1 31), y, rfl, ⟨(by have h9 := congrArg (fun z : Int × MS => iI z.1) hres; exact h9), (by have h9 := congrArg (fun z : Int × MS => z.2) hres; exact h9)⟩, by rw [ht]; exact hP, va_K.moved hW.alike hK, hD⟩, hS.F ht⟩) hS.2.2 dX12_makes_180
        · skip
          rw [if_neg c_76] at hres
          refine lv_iconst (v := iI (0 : Int)) hx hb dX12_makes_79 (by decide) ?_
          refine lv_istore (lv' := [(4, .int (iI ((0 : Int)))), (0, .ref (h)), (1, .int (iI (a))), (2, .int (iI (b))), (3, .int (iI (k9)))]) hx hb dX12_makes_80 hl (by decide) rfl (fun ls hl => ?_)
          exact ih.2 (y) (k9) ((0 : Int)) (by rw [show ((2 : Int) * k9 + (0 : Int)) = (2 : Int) * k9 by omega]; exact ex) (mz0) (hm1) (hab) (k0) (by omega) (by omega) (by omega) (by omega) (by omega) hres _ _ ls hP hD hS (lv_sub hl [1, 2, 3, 4, 0] rfl)
      · intro y k9 s9 ex mz0 hm1 hab k0 k1 k2 s0 s1 fu hres H locs ls hP hD hS hl
        rw [F_m_makes_e1] at hres
        have mb := mkE_b ex
        refine lv_iload hx hb dX12_makes_82 (lv_at hl 4 rfl) ?_
        refine lv_iconst (v := iI (2 : Int)) hx hb dX12_makes_84 (by decide) ?_
        refine wi_icmp_ge (tgt := 170) hx hb (by first | assumption | (unfold iR; omega) | exact F_R01 (by assumption)) ⟨by decide, by decide⟩ dX12_makes_85 (by decide) (fun c_85 => ?_) (fun c_85 => ?_)
        · skip
          rw [if_pos c_85] at hres
          refine lv_iinc (v := iI ((k9) + (1 : Int))) (lv' := [(3, .int (iI ((k9) + (1 : Int)))), (0, .ref (h)), (1, .int (iI (a))), (2, .int (iI (b))), (4, .int (iI (s9)))]) hx hb dX12_makes_170 hl (k := 3) rfl (iI_add _ _) (by decide) rfl (fun ls hl => ?_)
          refine lv_goto (tgt := 71) hx hb dX12_makes_173 (by decide) ?_
          exact ih.1 (y) ((k9) + (1 : Int)) (by rw [show (2 : Int) * (k9 + (1 : Int)) = (2 : Int) * k9 + s9 by omega]; exact ex) (mz0) (hm1) (hab) (by omega) (by omega) (by omega) (by omega) hres _ _ ls hP hD hS (lv_sub hl [1, 2, 3, 0] rfl)
        · skip
          rw [if_neg c_85] at hres
          obtain ⟨v1, v2, ws, n1, n2, mi, mc⟩ := id ex
          obtain ⟨w0, hw0⟩ := mk_w mi k0 k1
          have pp := mk_p mz0 mi k0 hw0
          refine lv_aload_n hx hb dX12_makes_88 rfl (lv_at hl 0 rfl) ?_
          refine va_get (D := (dC, dI)) (ci := 12) (v := .ref (ad 1)) (C := RX12) (T := TX12) (N := 34) hx hb hts hin hown hK hP 0 rfl rfl 1 (by decide) (hts (.fieldLink RX12 13 "LikeWordsModel" "size" "[I") (by decide +kernel)) (fun _ h9 => h9) rfl dX12_makes_89 ?_
          refine lv_bipush (v := iI (9 : Int)) hx hb dX12_makes_92 (by decide) ?_
          refine lv_iconst (v := iI (0 : Int)) hx hb dX12_makes_94 (by decide) ?_
          refine wi_iast (f := (y).2 1) hx hb hK hP hD hS 1 0 rfl rfl (i := (9 : Int)) (x := (0 : Int)) (by omega) (by omega) (by decide) dX12_makes_95 (fun H locs hP hD hS => ?_)
          rw [mW_a1] at hP hD
          have z9 : (aU (y) 1 ((9 : Int)).toNat ((0 : Int))).2 1 ((9 : Int)).toNat = 0 := by rw [yU_s]; exact iU_s
          refine lv_aload_n hx hb dX12_makes_96 rfl (lv_at hl 0 rfl) ?_
          refine lv_bipush (v := iI (9 : Int)) hx hb dX12_makes_97 (by decide) ?_
          refine lv_aload_n hx hb dX12_makes_99 rfl (lv_at hl 0 rfl) ?_
          refine va_get (D := (dC, dI)) (ci := 12) (v := .ref (ad 33)) (C := RX12) (T := TX12) (N := 34) hx hb hts hin hown hK hP 0 rfl rfl 33 (by decide) (hts (.fieldLink RX12 88 "LikeWordsModel" "madeRow" "[I") (by decide +kernel)) (fun _ h9 => h9) rfl dX12_makes_100 ?_
          refine lv_bipush (v := iI (60 : Int)) hx hb dX12_makes_103 (by decide) ?_
          refine lv_iload_n hx hb dX12_makes_105 rfl (lv_at hl 3 rfl) ?_
          refine wi_imul hx hb dX12_makes_106 ?_
          refine lv_aload_n hx hb dX12_makes_107 rfl (lv_at hl 0 rfl) ?_
          refine va_get (D := (dC, dI)) (ci := 12) (v := .ref (ad 32)) (C := RX12) (T := TX12) (N := 34) hx hb hts hin hown hK hP 0 rfl rfl 32 (by decide) (hts (.fieldLink RX12 85 "LikeWordsModel" "madeSize" "[I") (by decide +kernel)) (fun _ h9 => h9) rfl dX12_makes_108 ?_
          refine lv_iload_n hx hb dX12_makes_111 rfl (lv_at hl 3 rfl) ?_
          refine wi_iald (f := (y).2 32) hx hb hK hP 23 0 rfl rfl (i := k9) (by omega) (by omega) (by decide) dX12_makes_112 ?_
          have hFc : ∀ q, va_A (mW h ad cI cJ cZ (aU (y) 1 ((9 : Int)).toNat ((0 : Int)))) H.size q → A q := fun q hq => Or.elim hq (fun ⟨k, e, hk⟩ => hD.2 k (q, e) hk) (fun hk => hA q (Nat.le_trans hS.1 hk))
          refine va_callv (va_runV (As := [.int (iI ((9 : Int))), .ref (ad 33), .int (iI (((60 : Int)) * (k9))), .int (iI (((y).2 32) (k9).toNat))]) (rest := []) ⟨hx, hb, hml, hown, hts⟩ (c_m_put33 l dC dI h ad cI cJ cZ H.size (aU (y) 1 ((9 : Int)).toNat ((0 : Int))) ((9 : Int)) (((60 : Int)) * (k9)) (((y).2 32) (k9).toNat) (by decide) (by decide) (by omega) (by omega) (by omega) (by omega) (by omega)) (cwV 4 hts gX12_makes_X12_put rfl rfl rfl (by decide +kernel) ⟨Nat.le_of_ble_eq_true rfl, Nat.le_of_ble_eq_true rfl⟩) ⟨fun a U g mk q => by obtain ⟨q0, q1, qP, qK, qD⟩ := q; exact ⟨q0, q1, qP, va_K.moved (u := U) (U := U.calling g mk a) (Vm.Alike.refl U.vm) qK, qD⟩, va_recv hK hP (ci := 12) (q0 := 0) rfl rfl, fun U hU hW => ⟨rfl, by rw [hU], by rw [hU]; exact hP, va_K.moved hW.alike hK, hD.weaken (fun _ _ _ _ => trivial)⟩⟩ rfl rfl hl.1 rfl (lv_room (Nat.le_of_ble_eq_true rfl)) dX12_makes_113 ⟨Nat.le_of_ble_eq_true rfl, Nat.le_of_ble_eq_true rfl⟩) hS (fun q _ h => hFc q h) hFc (fun u9 t H1 locs ht hvm hw hB hz1 hk1 hS => ?_)
          obtain ⟨hP1, hK1, hD1⟩ := hB
          rw [ht] at hP1
          rw [hw] at hP1 hD1
          have hD2 := hD1.weaken (B := A) (fun _ q _ h => hFc q.1 h)
          have hP := hP1
          have hD := hD2
          generalize H1 = H at hP hS ⊢
          have tA := mk_tA mz0 mi pp.2.1 pp.2.2.1 pp.2.2.2.1 pp.2.2.2.2
          have tB := mk_tB mz0 mi pp.2.1 pp.2.2.1 pp.2.2.2.1 pp.2.2.2.2
          refine lv_aload_n hx hb dX12_makes_116 rfl (lv_at hl 0 rfl) ?_
          refine lv_bipush (v := iI (9 : Int)) hx hb dX12_makes_117 (by decide) ?_
          refine lv_iload hx hb dX12_makes_119 (lv_at hl 4 rfl) ?_
          refine wi_if_ne (tgt := 129) hx hb (by first | assumption | (unfold iR; omega) | exact F_R01 (by assumption)) dX12_makes_121 (by decide) (fun c_121 => ?_) (fun c_121 => ?_)
          · skip
            rw [if_neg c_121] at hres
            refine lv_bipush (v := iI (12 : Int)) hx hb dX12_makes_129 (by decide) ?_
            have hFc : ∀ q, va_A (mW h ad cI cJ cZ ((F_m_put33 (aU (y) 1 ((9 : Int)).toNat ((0 : Int))) ((9 : Int)) (((60 : Int)) * (k9)) (((y).2 32) (k9).toNat)).2)) H.size q → A q := fun q hq => Or.elim hq (fun ⟨k, e, hk⟩ => hD.2 k (q, e) hk) (fun hk => hA q (Nat.le_trans hS.1 hk))
            refine va_calli (va_runV (As := [.int (iI ((9 : Int))), .int (iI ((12 : Int)))]) (rest := []) ⟨hx, hb, hml, hown, hts⟩ (c_m_times l dC dI h ad cI cJ cZ H.size ((F_m_put33 (aU (y) 1 ((9 : Int)).toNat ((0 : Int))) ((9 : Int)) (((60 : Int)) * (k9)) (((y).2 32) (k9).toNat)).2) ((9 : Int)) ((12 : Int)) rfl (by decide) tB.1.1 tB.1.2.1 tB.1.2.2.1 tB.1.2.2.2) (cwV 2 hts gX12_makes_X12_times rfl rfl rfl (by decide +kernel) ⟨Nat.le_of_ble_eq_true rfl, Nat.le_of_ble_eq_true rfl⟩) ⟨fun a U g mk q => by obtain ⟨q0, q1, qP, qK, qD⟩ := q; exact ⟨q0, q1, qP, va_K.moved (u := U) (U := U.calling g mk a) (Vm.Alike.refl U.vm) qK, qD⟩, va_recv hK hP (ci := 12) (q0 := 0) rfl rfl, fun U hU hW => ⟨rfl, by rw [hU], by rw [hU]; exact hP, va_K.moved hW.alike hK, hD.weaken (fun _ _ _ _ => trivial)⟩⟩ rfl rfl hl.1 rfl (lv_room (Nat.le_of_ble_eq_true rfl)) dX12_makes_131 ⟨Nat.le_of_ble_eq_true rfl, Nat.le_of_ble_eq_true rfl⟩) hS (fun q _ h => hFc q h) hFc (fun r9 u9 t H1 locs ht hvm hw hB hz1 hk1 hS => ?_)
            obtain ⟨hP1, hK1, hD1⟩ := hB
            rw [ht] at hP1
            obtain ⟨hw1, hw2⟩ := hw
            rw [hw2] at hP1 hD1
            rw [hw1]
            have hD2 := hD1.weaken (B := A) (fun _ q _ h => hFc q.1 h)
            have hP := hP1
            have hD := hD2
            generalize H1 = H at hP hS ⊢
            have t01 : (F_m_times ((F_m_put33 (aU (y) 1 ((9 : Int)).toNat ((0 : Int))) ((9 : Int)) (((60 : Int)) * (k9)) (((y).2 32) (k9).toNat)).2) ((9 : Int)) ((12 : Int))).1 = 0 ∨ (F_m_times ((F_m_put33 (aU (y) 1 ((9 : Int)).toNat ((0 : Int))) ((9 : Int)) (((60 : Int)) * (k9)) (((y).2 32) (k9).toNat)).2) ((9 : Int)) ((12 : Int))).1 = 1 := by rcases tB.2 with h9 | h9; exact Or.inl h9.1; exact Or.inr h9.1
            refine wi_if_ne (tgt := 140) hx hb (by first | assumption | (unfold iR; omega) | exact F_R01 (by assumption)) dX12_makes_134 (by decide) (fun c_134 => ?_) (fun c_134 => ?_)
            · skip
              rw [if_neg c_134] at hres
              obtain ⟨_, c5, d5, mi5, k5, n5⟩ := tB.2.resolve_left (fun h9 => c_134 h9.1)
              have hv : (s9 = 0 ∧ v2 = v1) ∨ (¬ s9 = 0 ∧ v2 = v2) := Or.inr ⟨c_121, rfl⟩
              have im := mk_m mi5 k5
              have im01 := mk_01 mi5 k5
              have mh := mkI_h mi5 k5
              have sl5 : s9 < 2 := by omega
              refine lv_aload_n hx hb dX12_makes_140 rfl (lv_at hl 0 rfl) ?_
              have hFc : ∀ q, va_A (mW h ad cI cJ cZ ((F_m_times ((F_m_put33 (aU (y) 1 ((9 : Int)).toNat ((0 : Int))) ((9 : Int)) (((60 : Int)) * (k9)) (((y).2 32) (k9).toNat)).2) ((9 : Int)) ((12 : Int))).2)) H.size q → A q := fun q hq => Or.elim hq (fun ⟨k, e, hk⟩ => hD.2 k (q, e) hk) (fun hk => hA q (Nat.le_trans hS.1 hk))
              refine va_calli (va_runV (As := []) (rest := []) ⟨hx, hb, hml, hown, hts⟩ (c_m_isMade l dC dI h ad cI cJ cZ H.size ((F_m_times ((F_m_put33 (aU (y) 1 ((9 : Int)).toNat ((0 : Int))) ((9 : Int)) (((60 : Int)) * (k9)) (((y).2 32) (k9).toNat)).2) ((9 : Int)) ((12 : Int))).2)  (by have h9 := mh.1; omega) (by have h9 := mh.2.1; omega) mh.2.2.1.1 mh.2.2.1.2 mh.2.2.2.1 mh.2.2.2.2.1 mh.2.2.2.2.2) (cwV 0 hts gX12_makes_X12_isMade rfl rfl rfl (by decide +kernel) ⟨Nat.le_of_ble_eq_true rfl, Nat.le_of_ble_eq_true rfl⟩) ⟨fun a U g mk q => by obtain ⟨q0, q1, qP, qK, qD⟩ := q; exact ⟨q0, q1, qP, va_K.moved (u := U) (U := U.calling g mk a) (Vm.Alike.refl U.vm) qK, qD⟩, va_recv hK hP (ci := 12) (q0 := 0) rfl rfl, fun U hU hW => ⟨rfl, by rw [hU], by rw [hU]; exact hP, va_K.moved hW.alike hK, hD.weaken (fun _ _ _ _ => trivial)⟩⟩ rfl rfl hl.1 rfl (lv_room (Nat.le_of_ble_eq_true rfl)) dX12_makes_141 ⟨Nat.le_of_ble_eq_true rfl, Nat.le_of_ble_eq_true rfl⟩) hS (fun q _ h => hFc q h) hFc (fun r9 u9 t H1 locs ht hvm hw hB hz1 hk1 hS => ?_)
              obtain ⟨hP1, hK1, hD1⟩ := hB
              rw [ht] at hP1
              obtain ⟨hw1, hw2⟩ := hw
              rw [hw2] at hP1 hD1
              rw [hw1]
              rw [F_m_isMade_2] at hP1 hD1
              have hD2 := hD1.weaken (B := A) (fun _ q _ h => hFc q.1 h)
              have hP := hP1
              have hD := hD2
              generalize H1 = H at hP hS ⊢
              refine wi_if_ne (tgt := 164) hx hb (by first | assumption | (unfold iR; omega) | exact F_R01 (by assumption)) dX12_makes_144 (by decide) (fun c_144 => ?_) (fun c_144 => ?_)
              · skip
                rw [if_neg c_144] at hres
                refine lv_iinc (v := iI ((s9) + (1 : Int))) (lv' := [(4, .int (iI ((s9) + (1 : Int)))), (0, .ref (h)), (1, .int (iI (a))), (2, .int (iI (b))), (3, .int (iI (k9)))]) hx hb dX12_makes_164 hl (k := 4) rfl (iI_add _ _) (by decide) rfl (fun ls hl => ?_)
                refine lv_goto (tgt := 82) hx hb dX12_makes_167 (by decide) ?_
                exact ih.2 ((F_m_times ((F_m_put33 (aU (y) 1 ((9 : Int)).toNat ((0 : Int))) ((9 : Int)) (((60 : Int)) * (k9)) (((y).2 32) (k9).toNat)).2) ((9 : Int)) ((12 : Int))).2) (k9) ((s9) + (1 : Int)) (mkE_y k0 s0 sl5 hv n1 n2 mi5 mc hw0 c5 n5 (by rcases im with h9 | h9; exact h9.2; (exfalso; omega))) (mz0) (hm1) (hab) (k0) (by have h9 := mh.1; have h8 := mi.2.2.2.1.1; omega) (by omega) (by omega) (by omega) (by omega) hres _ _ ls hP hD hS (lv_sub hl [1, 2, 3, 4, 0] rfl)
              · skip
                rw [if_pos c_144] at hres
                refine lv_aload_n hx hb dX12_makes_147 rfl (lv_at hl 0 rfl) ?_
                refine va_get (D := (dC, dI)) (ci := 12) (v := .int (iI (((F_m_times ((F_m_put33 (aU (y) 1 ((9 : Int)).toNat ((0 : Int))) ((9 : Int)) (((60 : Int)) * (k9)) (((y).2 32) (k9).toNat)).2) ((9 : Int)) ((12 : Int))).2).1 31))) (C := RX12) (T := TX12) (N := 34) hx hb hts hin hown hK hP 0 rfl rfl 31 (by decide) (hts (.fieldLink RX12 263 "LikeWordsModel" "made" "I") (by decide +kernel)) (fun _ h9 => h9) rfl dX12_makes_148 ?_
                refine lv_sipush (v := iI (300 : Int)) hx hb dX12_makes_151 (by decide) ?_
                refine wi_icmp_ne (tgt := 160) hx hb (by first | assumption | (unfold iR; omega) | exact F_R01 (by assumption)) ⟨by decide, by decide⟩ dX12_makes_154 (by decide) (fun c_154 => ?_) (fun c_154 => ?_)
                · skip
                  rw [if_neg c_154] at hres
                  refine lv_aload_n hx hb dX12_makes_160 rfl (lv_at hl 0 rfl) ?_
                  have hFc : ∀ q, va_A (mW h ad cI cJ cZ ((F_m_times ((F_m_put33 (aU (y) 1 ((9 : Int)).toNat ((0 : Int))) ((9 : Int)) (((60 : Int)) * (k9)) (((y).2 32) (k9).toNat)).2) ((9 : Int)) ((12 : Int))).2)) H.size q → A q := fun q hq => Or.elim hq (fun ⟨k, e, hk⟩ => hD.2 k (q, e) hk) (fun hk => hA q (Nat.le_trans hS.1 hk))
                  refine va_callv (va_runV (As := []) (rest := []) ⟨hx, hb, hml, hown, hts⟩ (c_m_keepMade l dC dI h ad cI cJ cZ H.size ((F_m_times ((F_m_put33 (aU (y) 1 ((9 : Int)).toNat ((0 : Int))) ((9 : Int)) (((60 : Int)) * (k9)) (((y).2 32) (k9).toNat)).2) ((9 : Int)) ((12 : Int))).2)  (by have h9 := mh.1; omega) (by have h9 := mh.2.1; omega) mh.2.2.1.1 mh.2.2.1.2) (cwV 0 hts gX12_makes_X12_keepMade rfl rfl rfl (by decide +kernel) ⟨Nat.le_of_ble_eq_true rfl, Nat.le_of_ble_eq_true rfl⟩) ⟨fun a U g mk q => by obtain ⟨q0, q1, qP, qK, qD⟩ := q; exact ⟨q0, q1, qP, va_K.moved (u := U) (U := U.calling g mk a) (Vm.Alike.refl U.vm) qK, qD⟩, va_recv hK hP (ci := 12) (q0 := 0) rfl rfl, fun U hU hW => ⟨rfl, by rw [hU], by rw [hU]; exact hP, va_K.moved hW.alike hK, hD.weaken (fun _ _ _ _ => trivial)⟩⟩ rfl rfl hl.1 rfl (lv_room (Nat.le_of_ble_eq_true rfl)) dX12_makes_161 ⟨Nat.le_of_ble_eq_true rfl, Nat.le_of_ble_eq_true rfl⟩) hS (fun q _ h => hFc q h) hFc (fun u9 t H1 locs ht hvm hw hB hz1 hk1 hS => ?_)
                  obtain ⟨hP1, hK1, hD1⟩ := hB
                  rw [ht] at hP1
                  rw [hw] at hP1 hD1
                  have hD2 := hD1.weaken (B := A) (fun _ q _ h => hFc q.1 h)
                  have hP := hP1
                  have hD := hD2
                  generalize H1 = H at hP hS ⊢
                  refine lv_iinc (v := iI ((s9) + (1 : Int))) (lv' := [(4, .int (iI ((s9) + (1 : Int)))), (0, .ref (h)), (1, .int (iI (a))), (2, .int (iI (b))), (3, .int (iI (k9)))]) hx hb dX12_makes_164 hl (k := 4) rfl (iI_add _ _) (by decide) rfl (fun ls hl => ?_)
                  refine lv_goto (tgt := 82) hx hb dX12_makes_167 (by decide) ?_
                  exact ih.2 ((F_m_keepMade ((F_m_times ((F_m_put33 (aU (y) 1 ((9 : Int)).toNat ((0 : Int))) ((9 : Int)) (((60 : Int)) * (k9)) (((y).2 32) (k9).toNat)).2) ((9 : Int)) ((12 : Int))).2)).2) (k9) ((s9) + (1 : Int)) ((mkE_n k0 s0 sl5 hv n1 n2 mi5 k5 mc hw0 c5 n5 (by rcases im with h9 | h9; (exfalso; omega); exact h9.2) (by omega)).1) (mz0) (hm1) (hab) (k0) (by have h9 := (mkE_n k0 s0 sl5 hv n1 n2 mi5 k5 mc hw0 c5 n5 (by rcases im with h9 | h9; (exfalso; omega); exact h9.2) (by omega)).2; have h8 := mi.2.2.2.1.1; omega) (by omega) (by omega) (by omega) (by omega) hres _ _ ls hP hD hS (lv_sub hl [1, 2, 3, 4, 0] rfl)
                · skip
                  rw [if_pos c_154] at hres
                  refine lv_bipush (v := iI (-4 : Int)) hx hb dX12_makes_157 (by decide) ?_
                  exact W.iret (v := iI ((-4 : Int))) hx hb hr (fun t ht hW => ⟨⟨iI ((-4 : Int)), (F_m_times ((F_m_put33 (aU (y) 1 ((9 : Int)).toNat ((0 : Int))) ((9 : Int)) (((60 : Int)) * (k9)) (((y).2 32) (k9).toNat)).2) ((9 : Int)) ((12 : Int))).2, rfl, ⟨(by have h9 := congrArg (fun z : Int × MS => iI z.1) hres; exact h9), (by have h9 := congrArg (fun z : Int × MS => z.2) hres; exact h9)⟩, by rw [ht]; exact hP, va_K.moved hW.alike hK, hD⟩, hS.F ht⟩) hS.2.2 dX12_makes_159
            · skip
              rw [if_pos c_134] at hres
              refine lv_bipush (v := iI (-4 : Int)) hx hb dX12_makes_137 (by decide) ?_
              exact W.iret (v := iI ((-4 : Int))) hx hb hr (fun t ht hW => ⟨⟨iI ((-4 : Int)), (F_m_times ((F_m_put33 (aU (y) 1 ((9 : Int)).toNat ((0 : Int))) ((9 : Int)) (((60 : Int)) * (k9)) (((y).2 32) (k9).toNat)).2) ((9 : Int)) ((12 : Int))).2, rfl, ⟨(by have h9 := congrArg (fun z : Int × MS => iI z.1) hres; exact h9), (by have h9 := congrArg (fun z : Int × MS => z.2) hres; exact h9)⟩, by rw [ht]; exact hP, va_K.moved hW.alike hK, hD⟩, hS.F ht⟩) hS.2.2 dX12_makes_139
          · skip
            rw [if_pos c_121] at hres
            refine lv_bipush (v := iI (10 : Int)) hx hb dX12_makes_124 (by decide) ?_
            refine lv_goto (tgt := 131) hx hb dX12_makes_126 (by decide) ?_
            have hFc : ∀ q, va_A (mW h ad cI cJ cZ ((F_m_put33 (aU (y) 1 ((9 : Int)).toNat ((0 : Int))) ((9 : Int)) (((60 : Int)) * (k9)) (((y).2 32) (k9).toNat)).2)) H.size q → A q := fun q hq => Or.elim hq (fun ⟨k, e, hk⟩ => hD.2 k (q, e) hk) (fun hk => hA q (Nat.le_trans hS.1 hk))
            refine va_calli (va_runV (As := [.int (iI ((9 : Int))), .int (iI ((10 : Int)))]) (rest := []) ⟨hx, hb, hml, hown, hts⟩ (c_m_times l dC dI h ad cI cJ cZ H.size ((F_m_put33 (aU (y) 1 ((9 : Int)).toNat ((0 : Int))) ((9 : Int)) (((60 : Int)) * (k9)) (((y).2 32) (k9).toNat)).2) ((9 : Int)) ((10 : Int)) rfl (by decide) tA.1.1 tA.1.2.1 tA.1.2.2.1 tA.1.2.2.2) (cwV 2 hts gX12_makes_X12_times rfl rfl rfl (by decide +kernel) ⟨Nat.le_of_ble_eq_true rfl, Nat.le_of_ble_eq_true rfl⟩) ⟨fun a U g mk q => by obtain ⟨q0, q1, qP, qK, qD⟩ := q; exact ⟨q0, q1, qP, va_K.moved (u := U) (U := U.calling g mk a) (Vm.Alike.refl U.vm) qK, qD⟩, va_recv hK hP (ci := 12) (q0 := 0) rfl rfl, fun U hU hW => ⟨rfl, by rw [hU], by rw [hU]; exact hP, va_K.moved hW.alike hK, hD.weaken (fun _ _ _ _ => trivial)⟩⟩ rfl rfl hl.1 rfl (lv_room (Nat.le_of_ble_eq_true rfl)) dX12_makes_131 ⟨Nat.le_of_ble_eq_true rfl, Nat.le_of_ble_eq_true rfl⟩) hS (fun q _ h => hFc q h) hFc (fun r9 u9 t H1 locs ht hvm hw hB hz1 hk1 hS => ?_)
            obtain ⟨hP1, hK1, hD1⟩ := hB
            rw [ht] at hP1
            obtain ⟨hw1, hw2⟩ := hw
            rw [hw2] at hP1 hD1
            rw [hw1]
            have hD2 := hD1.weaken (B := A) (fun _ q _ h => hFc q.1 h)
            have hP := hP1
            have hD := hD2
            generalize H1 = H at hP hS ⊢
            have t01 : (F_m_times ((F_m_put33 (aU (y) 1 ((9 : Int)).toNat ((0 : Int))) ((9 : Int)) (((60 : Int)) * (k9)) (((y).2 32) (k9).toNat)).2) ((9 : Int)) ((10 : Int))).1 = 0 ∨ (F_m_times ((F_m_put33 (aU (y) 1 ((9 : Int)).toNat ((0 : Int))) ((9 : Int)) (((60 : Int)) * (k9)) (((y).2 32) (k9).toNat)).2) ((9 : Int)) ((10 : Int))).1 = 1 := by rcases tA.2 with h9 | h9; exact Or.inl h9.1; exact Or.inr h9.1
            refine wi_if_ne (tgt := 140) hx hb (by first | assumption | (unfold iR; omega) | exact F_R01 (by assumption)) dX12_makes_134 (by decide) (fun c_134 => ?_) (fun c_134 => ?_)
            · skip
              rw [if_neg c_134] at hres
              obtain ⟨_, c5, d5, mi5, k5, n5⟩ := tA.2.resolve_left (fun h9 => c_134 h9.1)
              have hv : (s9 = 0 ∧ v1 = v1) ∨ (¬ s9 = 0 ∧ v1 = v2) := Or.inl ⟨c_121, rfl⟩
              have im := mk_m mi5 k5
              have im01 := mk_01 mi5 k5
              have mh := mkI_h mi5 k5
              have sl5 : s9 < 2 := by omega
              refine lv_aload_n hx hb dX12_makes_140 rfl (lv_at hl 0 rfl) ?_
              have hFc : ∀ q, va_A (mW h ad cI cJ cZ ((F_m_times ((F_m_put33 (aU (y) 1 ((9 : Int)).toNat ((0 : Int))) ((9 : Int)) (((60 : Int)) * (k9)) (((y).2 32) (k9).toNat)).2) ((9 : Int)) ((10 : Int))).2)) H.size q → A q := fun q hq => Or.elim hq (fun ⟨k, e, hk⟩ => hD.2 k (q, e) hk) (fun hk => hA q (Nat.le_trans hS.1 hk))
              refine va_calli (va_runV (As := []) (rest := []) ⟨hx, hb, hml, hown, hts⟩ (c_m_isMade l dC dI h ad cI cJ cZ H.size ((F_m_times ((F_m_put33 (aU (y) 1 ((9 : Int)).toNat ((0 : Int))) ((9 : Int)) (((60 : Int)) * (k9)) (((y).2 32) (k9).toNat)).2) ((9 : Int)) ((10 : Int))).2)  (by have h9 := mh.1; omega) (by have h9 := mh.2.1; omega) mh.2.2.1.1 mh.2.2.1.2 mh.2.2.2.1 mh.2.2.2.2.1 mh.2.2.2.2.2) (cwV 0 hts gX12_makes_X12_isMade rfl rfl rfl (by decide +kernel) ⟨Nat.le_of_ble_eq_true rfl, Nat.le_of_ble_eq_true rfl⟩) ⟨fun a U g mk q => by obtain ⟨q0, q1, qP, qK, qD⟩ := q; exact ⟨q0, q1, qP, va_K.moved (u := U) (U := U.calling g mk a) (Vm.Alike.refl U.vm) qK, qD⟩, va_recv hK hP (ci := 12) (q0 := 0) rfl rfl, fun U hU hW => ⟨rfl, by rw [hU], by rw [hU]; exact hP, va_K.moved hW.alike hK, hD.weaken (fun _ _ _ _ => trivial)⟩⟩ rfl rfl hl.1 rfl (lv_room (Nat.le_of_ble_eq_true rfl)) dX12_makes_141 ⟨Nat.le_of_ble_eq_true rfl, Nat.le_of_ble_eq_true rfl⟩) hS (fun q _ h => hFc q h) hFc (fun r9 u9 t H1 locs ht hvm hw hB hz1 hk1 hS => ?_)
              obtain ⟨hP1, hK1, hD1⟩ := hB
              rw [ht] at hP1
              obtain ⟨hw1, hw2⟩ := hw
              rw [hw2] at hP1 hD1
              rw [hw1]
              rw [F_m_isMade_2] at hP1 hD1
              have hD2 := hD1.weaken (B := A) (fun _ q _ h => hFc q.1 h)
              have hP := hP1
              have hD := hD2
              generalize H1 = H at hP hS ⊢
              refine wi_if_ne (tgt := 164) hx hb (by first | assumption | (unfold iR; omega) | exact F_R01 (by assumption)) dX12_makes_144 (by decide) (fun c_144 => ?_) (fun c_144 => ?_)
              · skip
                rw [if_neg c_144] at hres
                refine lv_iinc (v := iI ((s9) + (1 : Int))) (lv' := [(4, .int (iI ((s9) + (1 : Int)))), (0, .ref (h)), (1, .int (iI (a))), (2, .int (iI (b))), (3, .int (iI (k9)))]) hx hb dX12_makes_164 hl (k := 4) rfl (iI_add _ _) (by decide) rfl (fun ls hl => ?_)
                refine lv_goto (tgt := 82) hx hb dX12_makes_167 (by decide) ?_
                exact ih.2 ((F_m_times ((F_m_put33 (aU (y) 1 ((9 : Int)).toNat ((0 : Int))) ((9 : Int)) (((60 : Int)) * (k9)) (((y).2 32) (k9).toNat)).2) ((9 : Int)) ((10 : Int))).2) (k9) ((s9) + (1 : Int)) (mkE_y k0 s0 sl5 hv n1 n2 mi5 mc hw0 c5 n5 (by rcases im with h9 | h9; exact h9.2; (exfalso; omega))) (mz0) (hm1) (hab) (k0) (by have h9 := mh.1; have h8 := mi.2.2.2.1.1; omega) (by omega) (by omega) (by omega) (by omega) hres _ _ ls hP hD hS (lv_sub hl [1, 2, 3, 4, 0] rfl)
              · skip
                rw [if_pos c_144] at hres
                refine lv_aload_n hx hb dX12_makes_147 rfl (lv_at hl 0 rfl) ?_
                refine va_get (D := (dC, dI)) (ci := 12) (v := .int (iI (((F_m_times ((F_m_put33 (aU (y) 1 ((9 : Int)).toNat ((0 : Int))) ((9 : Int)) (((60 : Int)) * (k9)) (((y).2 32) (k9).toNat)).2) ((9 : Int)) ((10 : Int))).2).1 31))) (C := RX12) (T := TX12) (N := 34) hx hb hts hin hown hK hP 0 rfl rfl 31 (by decide) (hts (.fieldLink RX12 263 "LikeWordsModel" "made" "I") (by decide +kernel)) (fun _ h9 => h9) rfl dX12_makes_148 ?_
                refine lv_sipush (v := iI (300 : Int)) hx hb dX12_makes_151 (by decide) ?_
                refine wi_icmp_ne (tgt := 160) hx hb (by first | assumption | (unfold iR; omega) | exact F_R01 (by assumption)) ⟨by decide, by decide⟩ dX12_makes_154 (by decide) (fun c_154 => ?_) (fun c_154 => ?_)
                · skip
                  rw [if_neg c_154] at hres
                  refine lv_aload_n hx hb dX12_makes_160 rfl (lv_at hl 0 rfl) ?_
                  have hFc : ∀ q, va_A (mW h ad cI cJ cZ ((F_m_times ((F_m_put33 (aU (y) 1 ((9 : Int)).toNat ((0 : Int))) ((9 : Int)) (((60 : Int)) * (k9)) (((y).2 32) (k9).toNat)).2) ((9 : Int)) ((10 : Int))).2)) H.size q → A q := fun q hq => Or.elim hq (fun ⟨k, e, hk⟩ => hD.2 k (q, e) hk) (fun hk => hA q (Nat.le_trans hS.1 hk))
                  refine va_callv (va_runV (As := []) (rest := []) ⟨hx, hb, hml, hown, hts⟩ (c_m_keepMade l dC dI h ad cI cJ cZ H.size ((F_m_times ((F_m_put33 (aU (y) 1 ((9 : Int)).toNat ((0 : Int))) ((9 : Int)) (((60 : Int)) * (k9)) (((y).2 32) (k9).toNat)).2) ((9 : Int)) ((10 : Int))).2)  (by have h9 := mh.1; omega) (by have h9 := mh.2.1; omega) mh.2.2.1.1 mh.2.2.1.2) (cwV 0 hts gX12_makes_X12_keepMade rfl rfl rfl (by decide +kernel) ⟨Nat.le_of_ble_eq_true rfl, Nat.le_of_ble_eq_true rfl⟩) ⟨fun a U g mk q => by obtain ⟨q0, q1, qP, qK, qD⟩ := q; exact ⟨q0, q1, qP, va_K.moved (u := U) (U := U.calling g mk a) (Vm.Alike.refl U.vm) qK, qD⟩, va_recv hK hP (ci := 12) (q0 := 0) rfl rfl, fun U hU hW => ⟨rfl, by rw [hU], by rw [hU]; exact hP, va_K.moved hW.alike hK, hD.weaken (fun _ _ _ _ => trivial)⟩⟩ rfl rfl hl.1 rfl (lv_room (Nat.le_of_ble_eq_true rfl)) dX12_makes_161 ⟨Nat.le_of_ble_eq_true rfl, Nat.le_of_ble_eq_true rfl⟩) hS (fun q _ h => hFc q h) hFc (fun u9 t H1 locs ht hvm hw hB hz1 hk1 hS => ?_)
                  obtain ⟨hP1, hK1, hD1⟩ := hB
                  rw [ht] at hP1
                  rw [hw] at hP1 hD1
                  have hD2 := hD1.weaken (B := A) (fun _ q _ h => hFc q.1 h)
                  have hP := hP1
                  have hD := hD2
                  generalize H1 = H at hP hS ⊢
                  refine lv_iinc (v := iI ((s9) + (1 : Int))) (lv' := [(4, .int (iI ((s9) + (1 : Int)))), (0, .ref (h)), (1, .int (iI (a))), (2, .int (iI (b))), (3, .int (iI (k9)))]) hx hb dX12_makes_164 hl (k := 4) rfl (iI_add _ _) (by decide) rfl (fun ls hl => ?_)
                  refine lv_goto (tgt := 82) hx hb dX12_makes_167 (by decide) ?_
                  exact ih.2 ((F_m_keepMade ((F_m_times ((F_m_put33 (aU (y) 1 ((9 : Int)).toNat ((0 : Int))) ((9 : Int)) (((60 : Int)) * (k9)) (((y).2 32) (k9).toNat)).2) ((9 : Int)) ((10 : Int))).2)).2) (k9) ((s9) + (1 : Int)) ((mkE_n k0 s0 sl5 hv n1 n2 mi5 k5 mc hw0 c5 n5 (by rcases im with h9 | h9; (exfalso; omega); exact h9.2) (by omega)).1) (mz0) (hm1) (hab) (k0) (by have h9 := (mkE_n k0 s0 sl5 hv n1 n2 mi5 k5 mc hw0 c5 n5 (by rcases im with h9 | h9; (exfalso; omega); exact h9.2) (by omega)).2; have h8 := mi.2.2.2.1.1; omega) (by omega) (by omega) (by omega) (by omega) hres _ _ ls hP hD hS (lv_sub hl [1, 2, 3, 4, 0] rfl)
                · skip
                  rw [if_pos c_154] at hres
                  refine lv_bipush (v := iI (-4 : Int)) hx hb dX12_makes_157 (by decide) ?_
                  exact W.iret (v := iI ((-4 : Int))) hx hb hr (fun t ht hW => ⟨⟨iI ((-4 : Int)), (F_m_times ((F_m_put33 (aU (y) 1 ((9 : Int)).toNat ((0 : Int))) ((9 : Int)) (((60 : Int)) * (k9)) (((y).2 32) (k9).toNat)).2) ((9 : Int)) ((10 : Int))).2, rfl, ⟨(by have h9 := congrArg (fun z : Int × MS => iI z.1) hres; exact h9), (by have h9 := congrArg (fun z : Int × MS => z.2) hres; exact h9)⟩, by rw [ht]; exact hP, va_K.moved hW.alike hK, hD⟩, hS.F ht⟩) hS.2.2 dX12_makes_159
            · skip
              rw [if_pos c_134] at hres
              refine lv_bipush (v := iI (-4 : Int)) hx hb dX12_makes_137 (by decide) ?_
              exact W.iret (v := iI ((-4 : Int))) hx hb hr (fun t ht hW => ⟨⟨iI ((-4 : Int)), (F_m_times ((F_m_put33 (aU (y) 1 ((9 : Int)).toNat ((0 : Int))) ((9 : Int)) (((60 : Int)) * (k9)) (((y).2 32) (k9).toNat)).2) ((9 : Int)) ((10 : Int))).2, rfl, ⟨(by have h9 := congrArg (fun z : Int × MS => iI z.1) hres; exact h9), (by have h9 := congrArg (fun z : Int × MS => z.2) hres; exact h9)⟩, by rw [ht]; exact hP, va_K.moved hW.alike hK, hD⟩, hS.F ht⟩) hS.2.2 dX12_makes_139
  have key : ∀ (H : Heap) (locs : List Loc), va_P (dC, dI) vwCl (mW h ad cI cJ cZ (x)) H → va_S A s.heap H locs → W p l e (headSpec wsX12_makes ({ frames := 2, cells := 0, slots := 0, locals := 57 })).room s m ([.ref h, .int (iI a), .int (iI b)] : List Value).toArray below meth c H locs 0 0 (MQ below (va_Qi (fun (r : Int32) (u : MS) => r = iI (F_m_makes (x) (a) (b)).1 ∧ u = (F_m_makes (x) (a) (b)).2) (mAt dC dI h ad cI cJ cZ A) A) ([.ref h, .int (iI a), .int (iI b)] : List Value).toArray s 0 0 A) (F0 m 0 ls []) := by
    intro H locs hP hS
    have hres : (if ((F_m_isSlot (x) (a)).1) = (0) then ((-1 : Int), x) else (if ((F_m_isSlot (x) (b)).1) = (0) then ((-1 : Int), x) else (if ((F_m_isMachine (x)).1) = (0) then ((-3 : Int), x) else F_m_makes_s 2000 0 ((F_m_keepMade (aU (sU ((F_m_reduceAt ((F_m_copy ((F_m_reduceAt ((F_m_copy (x) (a) ((10 : Int))).2) ((10 : Int))).2) (b) ((12 : Int))).2) ((12 : Int))).2) 31 ((0 : Int))) 1 ((9 : Int)).toNat ((0 : Int)))).2) (a) (b) ((0 : Int)) (0)))) = F_m_makes (x) (a) (b) := rfl
    refine lv_iload_n hx hb dX12_makes_0 rfl (lv_at hl 1 rfl) ?_
    have hFc : ∀ q, va_A (mW h ad cI cJ cZ (x)) H.size q → A q := fun q hq => Or.elim hq (fun ⟨k, e, hk⟩ => hD.2 k (q, e) hk) (fun hk => hA q (Nat.le_trans hS.1 hk))
    refine va_calli (va_runS (As := [.int (iI (a))]) (rest := []) ⟨hx, hb, hml, hown, hts⟩ (c_m_isSlot l dC dI h ad cI cJ cZ H.size (x) (a) (by first | assumption | exact iR_L (by assumption) | exact ⟨by decide, by decide⟩ | omega | (unfold iR; omega) | (unfold iRL; omega))) (va_cwS 1 hts gX12_makes_X12_isSlot rfl rfl rfl (by decide +kernel) ⟨Nat.le_of_ble_eq_true rfl, Nat.le_of_ble_eq_true rfl⟩) ⟨fun a U g mk q => by obtain ⟨q0, q1, qP, qK, qD⟩ := q; exact ⟨q0, q1, qP, va_K.moved (u := U) (U := U.calling g mk a) (Vm.Alike.refl U.vm) qK, qD⟩, fun U hU hW => ⟨rfl, by rw [hU], by rw [hU]; exact hP, va_K.moved hW.alike hK, hD.weaken (fun _ _ _ _ => trivial)⟩⟩ rfl rfl hl.1 rfl (lv_room (Nat.le_of_ble_eq_true rfl)) dX12_makes_1 ⟨Nat.le_of_ble_eq_true rfl, Nat.le_of_ble_eq_true rfl⟩) hS (fun q _ h => hFc q h) hFc (fun r9 u9 t H1 locs ht hvm hw hB hz1 hk1 hS => ?_)
    obtain ⟨hP1, hK1, hD1⟩ := hB
    rw [ht] at hP1
    obtain ⟨hw1, hw2⟩ := hw
    rw [hw2] at hP1 hD1
    rw [hw1]
    rw [F_m_isSlot_2] at hP1 hD1
    have hD2 := hD1.weaken (B := A) (fun _ q _ h => hFc q.1 h)
    have hP := hP1
    have hD := hD2
    generalize H1 = H at hP hS ⊢
    refine wi_if_eq (tgt := 14) hx hb (by rw [F_m_isSlot_1]; exact F_R01 (F_in_01 _ _ _)) dX12_makes_4 (by decide) (fun c_4 => ?_) (fun c_4 => ?_)
    · skip
      rw [if_pos c_4] at hres
      refine lv_iconst (v := iI (-1 : Int)) hx hb dX12_makes_14 (by decide) ?_
      exact W.iret (v := iI ((-1 : Int))) hx hb hr (fun t ht hW => ⟨⟨iI ((-1 : Int)), x, rfl, ⟨(by have h9 := congrArg (fun z : Int × MS => iI z.1) hres; exact h9), (by have h9 := congrArg (fun z : Int × MS => z.2) hres; exact h9)⟩, by rw [ht]; exact hP, va_K.moved hW.alike hK, hD⟩, hS.F ht⟩) hS.2.2 dX12_makes_15
    · skip
      rw [if_neg c_4] at hres
      refine lv_iload_n hx hb dX12_makes_7 rfl (lv_at hl 2 rfl) ?_
      have hFc : ∀ q, va_A (mW h ad cI cJ cZ (x)) H.size q → A q := fun q hq => Or.elim hq (fun ⟨k, e, hk⟩ => hD.2 k (q, e) hk) (fun hk => hA q (Nat.le_trans hS.1 hk))
      refine va_calli (va_runS (As := [.int (iI (b))]) (rest := []) ⟨hx, hb, hml, hown, hts⟩ (c_m_isSlot l dC dI h ad cI cJ cZ H.size (x) (b) (by first | assumption | exact iR_L (by assumption) | exact ⟨by decide, by decide⟩ | omega | (unfold iR; omega) | (unfold iRL; omega))) (va_cwS 1 hts gX12_makes_X12_isSlot rfl rfl rfl (by decide +kernel) ⟨Nat.le_of_ble_eq_true rfl, Nat.le_of_ble_eq_true rfl⟩) ⟨fun a U g mk q => by obtain ⟨q0, q1, qP, qK, qD⟩ := q; exact ⟨q0, q1, qP, va_K.moved (u := U) (U := U.calling g mk a) (Vm.Alike.refl U.vm) qK, qD⟩, fun U hU hW => ⟨rfl, by rw [hU], by rw [hU]; exact hP, va_K.moved hW.alike hK, hD.weaken (fun _ _ _ _ => trivial)⟩⟩ rfl rfl hl.1 rfl (lv_room (Nat.le_of_ble_eq_true rfl)) dX12_makes_8 ⟨Nat.le_of_ble_eq_true rfl, Nat.le_of_ble_eq_true rfl⟩) hS (fun q _ h => hFc q h) hFc (fun r9 u9 t H1 locs ht hvm hw hB hz1 hk1 hS => ?_)
      obtain ⟨hP1, hK1, hD1⟩ := hB
      rw [ht] at hP1
      obtain ⟨hw1, hw2⟩ := hw
      rw [hw2] at hP1 hD1
      rw [hw1]
      rw [F_m_isSlot_2] at hP1 hD1
      have hD2 := hD1.weaken (B := A) (fun _ q _ h => hFc q.1 h)
      have hP := hP1
      have hD := hD2
      generalize H1 = H at hP hS ⊢
      refine wi_if_ne (tgt := 16) hx hb (by rw [F_m_isSlot_1]; exact F_R01 (F_in_01 _ _ _)) dX12_makes_11 (by decide) (fun c_11 => ?_) (fun c_11 => ?_)
      · skip
        rw [if_neg c_11] at hres
        obtain ⟨a0, a1⟩ := F_in_1 (by rw [← F_m_isSlot_1 x a]; exact c_4)
        obtain ⟨b0, b1⟩ := F_in_1 (by rw [← F_m_isSlot_1 x b]; exact c_11)
        refine lv_aload_n hx hb dX12_makes_16 rfl (lv_at hl 0 rfl) ?_
        have hFc : ∀ q, va_A (mW h ad cI cJ cZ (x)) H.size q → A q := fun q hq => Or.elim hq (fun ⟨k, e, hk⟩ => hD.2 k (q, e) hk) (fun hk => hA q (Nat.le_trans hS.1 hk))
        refine va_calli (va_runV (As := []) (rest := []) ⟨hx, hb, hml, hown, hts⟩ (c_m_isMachine l dC dI h ad cI cJ cZ H.size (x)  sn ic) (cwV 0 hts gX12_makes_X12_isMachine rfl rfl rfl (by decide +kernel) ⟨Nat.le_of_ble_eq_true rfl, Nat.le_of_ble_eq_true rfl⟩) ⟨fun a U g mk q => by obtain ⟨q0, q1, qP, qK, qD⟩ := q; exact ⟨q0, q1, qP, va_K.moved (u := U) (U := U.calling g mk a) (Vm.Alike.refl U.vm) qK, qD⟩, va_recv hK hP (ci := 12) (q0 := 0) rfl rfl, fun U hU hW => ⟨rfl, by rw [hU], by rw [hU]; exact hP, va_K.moved hW.alike hK, hD.weaken (fun _ _ _ _ => trivial)⟩⟩ rfl rfl hl.1 rfl (lv_room (Nat.le_of_ble_eq_true rfl)) dX12_makes_17 ⟨Nat.le_of_ble_eq_true rfl, Nat.le_of_ble_eq_true rfl⟩) hS (fun q _ h => hFc q h) hFc (fun r9 u9 t H1 locs ht hvm hw hB hz1 hk1 hS => ?_)
        obtain ⟨hP1, hK1, hD1⟩ := hB
        rw [ht] at hP1
        obtain ⟨hw1, hw2⟩ := hw
        rw [hw2] at hP1 hD1
        rw [hw1]
        rw [F_m_isMachine_2] at hP1 hD1
        have hD2 := hD1.weaken (B := A) (fun _ q _ h => hFc q.1 h)
        have hP := hP1
        have hD := hD2
        generalize H1 = H at hP hS ⊢
        refine wi_if_ne (tgt := 26) hx hb (F_R01 (F_m_isMachine_01 x)) dX12_makes_20 (by decide) (fun c_20 => ?_) (fun c_20 => ?_)
        · skip
          rw [if_neg c_20] at hres
          have mz0 := mz c_20
          have zb := (hs a.toNat (by omega)).1
          have f0 := slF_0 hrw
          refine lv_aload_n hx hb dX12_makes_26 rfl (lv_at hl 0 rfl) ?_
          refine lv_iload_n hx hb dX12_makes_27 rfl (lv_at hl 1 rfl) ?_
          refine lv_bipush (v := iI (10 : Int)) hx hb dX12_makes_28 (by decide) ?_
          have hFc : ∀ q, va_A (mW h ad cI cJ cZ (x)) H.size q → A q := fun q hq => Or.elim hq (fun ⟨k, e, hk⟩ => hD.2 k (q, e) hk) (fun hk => hA q (Nat.le_trans hS.1 hk))
          refine va_callv (va_runV (As := [.int (iI (a)), .int (iI ((10 : Int)))]) (rest := []) ⟨hx, hb, hml, hown, hts⟩ (c_m_copy l dC dI h ad cI cJ cZ H.size (x) (a) ((10 : Int)) (by omega) (by omega) (by omega) (by omega) (by omega) (by omega)) (cwV 2 hts gX12_makes_X12_copy rfl rfl rfl (by decide +kernel) ⟨Nat.le_of_ble_eq_true rfl, Nat.le_of_ble_eq_true rfl⟩) ⟨fun a U g mk q => by obtain ⟨q0, q1, qP, qK, qD⟩ := q; exact ⟨q0, q1, qP, va_K.moved (u := U) (U := U.calling g mk a) (Vm.Alike.refl U.vm) qK, qD⟩, va_recv hK hP (ci := 12) (q0 := 0) rfl rfl, fun U hU hW => ⟨rfl, by rw [hU], by rw [hU]; exact hP, va_K.moved hW.alike hK, hD.weaken (fun _ _ _ _ => trivial)⟩⟩ rfl rfl hl.1 rfl (lv_room (Nat.le_of_ble_eq_true rfl)) dX12_makes_30 ⟨Nat.le_of_ble_eq_true rfl, Nat.le_of_ble_eq_true rfl⟩) hS (fun q _ h => hFc q h) hFc (fun u9 t H1 locs ht hvm hw hB hz1 hk1 hS => ?_)
          obtain ⟨hP1, hK1, hD1⟩ := hB
          rw [ht] at hP1
          rw [hw] at hP1 hD1
          have hD2 := hD1.weaken (B := A) (fun _ q _ h => hFc q.1 h)
          have hP := hP1
          have hD := hD2
          generalize H1 = H at hP hS ⊢
          have d1 : slD (x) ((F_m_copy (x) (a) ((10 : Int))).2) 10 ∧ slK x ((F_m_copy (x) (a) ((10 : Int))).2) 10 (slM x a.toNat) := by
            have h9 := copy_D (x := x) (a := a.toNat) (b := 10) f0.2.1 (slF_H f0 (by omega) (hs a.toNat (by omega))) (by omega) (by omega)
            rw [show (a.toNat : Int) = a by omega] at h9
            exact h9
          have f1 := slD_F f0 d1.1 (by decide)
          have r1 := slH_r f1 mz0 d1.2 (by omega) (by omega)
          refine lv_aload_n hx hb dX12_makes_33 rfl (lv_at hl 0 rfl) ?_
          refine lv_bipush (v := iI (10 : Int)) hx hb dX12_makes_34 (by decide) ?_
          have hFc : ∀ q, va_A (mW h ad cI cJ cZ ((F_m_copy (x) (a) ((10 : Int))).2)) H.size q → A q := fun q hq => Or.elim hq (fun ⟨k, e, hk⟩ => hD.2 k (q, e) hk) (fun hk => hA q (Nat.le_trans hS.1 hk))
          refine va_callv (va_runV (As := [.int (iI ((10 : Int)))]) (rest := []) ⟨hx, hb, hml, hown, hts⟩ (c_m_reduceAt l dC dI h ad cI cJ cZ H.size ((F_m_copy (x) (a) ((10 : Int))).2) ((10 : Int)) (by omega) (by omega) (by omega) r1.1.2.1.1 r1.1.2.1.2 r1.1.2.2.1 r1.1.2.2.2.1 r1.1.2.2.2.2) (cwV 1 hts gX12_makes_X12_reduceAt rfl rfl rfl (by decide +kernel) ⟨Nat.le_of_ble_eq_true rfl, Nat.le_of_ble_eq_true rfl⟩) ⟨fun a U g mk q => by obtain ⟨q0, q1, qP, qK, qD⟩ := q; exact ⟨q0, q1, qP, va_K.moved (u := U) (U := U.calling g mk a) (Vm.Alike.refl U.vm) qK, qD⟩, va_recv hK hP (ci := 12) (q0 := 0) rfl rfl, fun U hU hW => ⟨rfl, by rw [hU], by rw [hU]; exact hP, va_K.moved hW.alike hK, hD.weaken (fun _ _ _ _ => trivial)⟩⟩ rfl rfl hl.1 rfl (lv_room (Nat.le_of_ble_eq_true rfl)) dX12_makes_36 ⟨Nat.le_of_ble_eq_true rfl, Nat.le_of_ble_eq_true rfl⟩) hS (fun q _ h => hFc q h) hFc (fun u9 t H1 locs ht hvm hw hB hz1 hk1 hS => ?_)
          obtain ⟨hP1, hK1, hD1⟩ := hB
          rw [ht] at hP1
          rw [hw] at hP1 hD1
          have hD2 := hD1.weaken (B := A) (fun _ q _ h => hFc q.1 h)
          have hP := hP1
          have hD := hD2
          generalize H1 = H at hP hS ⊢
          obtain ⟨e1, w1, kv1, nv1⟩ := red_D f1 mz0 d1.2 (by omega) (by omega)
          have g1 : slF x ((F_m_reduceAt ((F_m_copy (x) (a) ((10 : Int))).2) ((10 : Int))).2) := slD_F f1 e1 (by decide)
          have zc := (slK_H (slF_0e g1) (slF_H g1 (show b.toNat < 9 by omega) (hs b.toNat (by omega)))).1
          refine lv_aload_n hx hb dX12_makes_39 rfl (lv_at hl 0 rfl) ?_
          refine lv_iload_n hx hb dX12_makes_40 rfl (lv_at hl 2 rfl) ?_
          refine lv_bipush (v := iI (12 : Int)) hx hb dX12_makes_41 (by decide) ?_
          have hFc : ∀ q, va_A (mW h ad cI cJ cZ ((F_m_reduceAt ((F_m_copy (x) (a) ((10 : Int))).2) ((10 : Int))).2)) H.size q → A q := fun q hq => Or.elim hq (fun ⟨k, e, hk⟩ => hD.2 k (q, e) hk) (fun hk => hA q (Nat.le_trans hS.1 hk))
          refine va_callv (va_runV (As := [.int (iI (b)), .int (iI ((12 : Int)))]) (rest := []) ⟨hx, hb, hml, hown, hts⟩ (c_m_copy l dC dI h ad cI cJ cZ H.size ((F_m_reduceAt ((F_m_copy (x) (a) ((10 : Int))).2) ((10 : Int))).2) (b) ((12 : Int)) (by omega) (by omega) (by omega) (by omega) zc.1 (by omega)) (cwV 2 hts gX12_makes_X12_copy rfl rfl rfl (by decide +kernel) ⟨Nat.le_of_ble_eq_true rfl, Nat.le_of_ble_eq_true rfl⟩) ⟨fun a U g mk q => by obtain ⟨q0, q1, qP, qK, qD⟩ := q; exact ⟨q0, q1, qP, va_K.moved (u := U) (U := U.calling g mk a) (Vm.Alike.refl U.vm) qK, qD⟩, va_recv hK hP (ci := 12) (q0 := 0) rfl rfl, fun U hU hW => ⟨rfl, by rw [hU], by rw [hU]; exact hP, va_K.moved hW.alike hK, hD.weaken (fun _ _ _ _ => trivial)⟩⟩ rfl rfl hl.1 rfl (lv_room (Nat.le_of_ble_eq_true rfl)) dX12_makes_43 ⟨Nat.le_of_ble_eq_true rfl, Nat.le_of_ble_eq_true rfl⟩) hS (fun q _ h => hFc q h) hFc (fun u9 t H1 locs ht hvm hw hB hz1 hk1 hS => ?_)
          obtain ⟨hP1, hK1, hD1⟩ := hB
          rw [ht] at hP1
          rw [hw] at hP1 hD1
          have hD2 := hD1.weaken (B := A) (fun _ q _ h => hFc q.1 h)
          have hP := hP1
          have hD := hD2
          generalize H1 = H at hP hS ⊢
          have d2 : slD ((F_m_reduceAt ((F_m_copy (x) (a) ((10 : Int))).2) ((10 : Int))).2) ((F_m_copy ((F_m_reduceAt ((F_m_copy (x) (a) ((10 : Int))).2) ((10 : Int))).2) (b) ((12 : Int))).2) 12 ∧ slK x ((F_m_copy ((F_m_reduceAt ((F_m_copy (x) (a) ((10 : Int))).2) ((10 : Int))).2) (b) ((12 : Int))).2) 12 (slM x b.toNat) := by
            have h9 := copy_D (x := x) (a := b.toNat) (b := 12) g1.2.1 (slF_H g1 (by omega) (hs b.toNat (by omega))) (by omega) (by omega)
            rw [show (b.toNat : Int) = b by omega] at h9
            exact h9
          have f2 := slD_F g1 d2.1 (by decide)
          have r2 := slH_r f2 mz0 d2.2 (by omega) (by omega)
          have kv1c := slD_K d2.1 (by decide) (by decide) kv1
          refine lv_aload_n hx hb dX12_makes_46 rfl (lv_at hl 0 rfl) ?_
          refine lv_bipush (v := iI (12 : Int)) hx hb dX12_makes_47 (by decide) ?_
          have hFc : ∀ q, va_A (mW h ad cI cJ cZ ((F_m_copy ((F_m_reduceAt ((F_m_copy (x) (a) ((10 : Int))).2) ((10 : Int))).2) (b) ((12 : Int))).2)) H.size q → A q := fun q hq => Or.elim hq (fun ⟨k, e, hk⟩ => hD.2 k (q, e) hk) (fun hk => hA q (Nat.le_trans hS.1 hk))
          refine va_callv (va_runV (As := [.int (iI ((12 : Int)))]) (rest := []) ⟨hx, hb, hml, hown, hts⟩ (c_m_reduceAt l dC dI h ad cI cJ cZ H.size ((F_m_copy ((F_m_reduceAt ((F_m_copy (x) (a) ((10 : Int))).2) ((10 : Int))).2) (b) ((12 : Int))).2) ((12 : Int)) (by omega) (by omega) (by omega) r2.1.2.1.1 r2.1.2.1.2 r2.1.2.2.1 r2.1.2.2.2.1 r2.1.2.2.2.2) (cwV 1 hts gX12_makes_X12_reduceAt rfl rfl rfl (by decide +kernel) ⟨Nat.le_of_ble_eq_true rfl, Nat.le_of_ble_eq_true rfl⟩) ⟨fun a U g mk q => by obtain ⟨q0, q1, qP, qK, qD⟩ := q; exact ⟨q0, q1, qP, va_K.moved (u := U) (U := U.calling g mk a) (Vm.Alike.refl U.vm) qK, qD⟩, va_recv hK hP (ci := 12) (q0 := 0) rfl rfl, fun U hU hW => ⟨rfl, by rw [hU], by rw [hU]; exact hP, va_K.moved hW.alike hK, hD.weaken (fun _ _ _ _ => trivial)⟩⟩ rfl rfl hl.1 rfl (lv_room (Nat.le_of_ble_eq_true rfl)) dX12_makes_49 ⟨Nat.le_of_ble_eq_true rfl, Nat.le_of_ble_eq_true rfl⟩) hS (fun q _ h => hFc q h) hFc (fun u9 t H1 locs ht hvm hw hB hz1 hk1 hS => ?_)
          obtain ⟨hP1, hK1, hD1⟩ := hB
          rw [ht] at hP1
          rw [hw] at hP1 hD1
          have hD2 := hD1.weaken (B := A) (fun _ q _ h => hFc q.1 h)
          have hP := hP1
          have hD := hD2
          generalize H1 = H at hP hS ⊢
          obtain ⟨e2, w2, kv2, nv2⟩ := red_D f2 mz0 d2.2 (by omega) (by omega)
          have g2 : slF x ((F_m_reduceAt ((F_m_copy ((F_m_reduceAt ((F_m_copy (x) (a) ((10 : Int))).2) ((10 : Int))).2) (b) ((12 : Int))).2) ((12 : Int))).2) := slD_F f2 e2 (by decide)
          have kv1d := slD_K e2 (by decide) (by decide) kv1c
          refine lv_aload_n hx hb dX12_makes_52 rfl (lv_at hl 0 rfl) ?_
          refine lv_iconst (v := iI (0 : Int)) hx hb dX12_makes_53 (by decide) ?_
          refine va_put (D := (dC, dI)) (ci := 12) (v := .int (iI ((0 : Int)))) (ty := .int) (C := RX12) (T := TX12) (N := 34) hx hb hts hin tyX12 tyX12_ok nmX12 hown hK hP hD hS 0 rfl rfl 31 (by decide) (hts (.fieldLink RX12 263 "LikeWordsModel" "made" "I") (by decide +kernel)) (fun _ h9 => h9) rfl (by decide +kernel) rfl rfl (Nat.le_of_ble_eq_true rfl) dX12_makes_54 (fun H locs hP hD hS => ?_)
          rw [mW_s31] at hP hD
          refine lv_aload_n hx hb dX12_makes_57 rfl (lv_at hl 0 rfl) ?_
          refine va_get (D := (dC, dI)) (ci := 12) (v := .ref (ad 1)) (C := RX12) (T := TX12) (N := 34) hx hb hts hin hown hK hP 0 rfl rfl 1 (by decide) (hts (.fieldLink RX12 13 "LikeWordsModel" "size" "[I") (by decide +kernel)) (fun _ h9 => h9) rfl dX12_makes_58 ?_
          refine lv_bipush (v := iI (9 : Int)) hx hb dX12_makes_61 (by decide) ?_
          refine lv_iconst (v := iI (0 : Int)) hx hb dX12_makes_63 (by decide) ?_
          refine wi_iast (f := (sU ((F_m_reduceAt ((F_m_copy ((F_m_reduceAt ((F_m_copy (x) (a) ((10 : Int))).2) ((10 : Int))).2) (b) ((12 : Int))).2) ((12 : Int))).2) 31 ((0 : Int))).2 1) hx hb hK hP hD hS 1 0 rfl rfl (i := (9 : Int)) (x := (0 : Int)) (by omega) (by omega) (by decide) dX12_makes_64 (fun H locs hP hD hS => ?_)
          rw [mW_a1] at hP hD
          have m0 : mkI x (aU (sU ((F_m_reduceAt ((F_m_copy ((F_m_reduceAt ((F_m_copy (x) (a) ((10 : Int))).2) ((10 : Int))).2) (b) ((12 : Int))).2) ((12 : Int))).2) 31 ((0 : Int))) 1 ((9 : Int)).toNat ((0 : Int))) w1 w2 [] ∧ slK x (aU (sU ((F_m_reduceAt ((F_m_copy ((F_m_reduceAt ((F_m_copy (x) (a) ((10 : Int))).2) ((10 : Int))).2) (b) ((12 : Int))).2) ((12 : Int))).2) 31 ((0 : Int))) 1 ((9 : Int)).toNat ((0 : Int))) 9 [] := mk_0 g2 kv1d kv2 hm hr0
          have mh := mkI_h m0.1 m0.2
          refine lv_aload_n hx hb dX12_makes_65 rfl (lv_at hl 0 rfl) ?_
          have hFc : ∀ q, va_A (mW h ad cI cJ cZ (aU (sU ((F_m_reduceAt ((F_m_copy ((F_m_reduceAt ((F_m_copy (x) (a) ((10 : Int))).2) ((10 : Int))).2) (b) ((12 : Int))).2) ((12 : Int))).2) 31 ((0 : Int))) 1 ((9 : Int)).toNat ((0 : Int)))) H.size q → A q := fun q hq => Or.elim hq (fun ⟨k, e, hk⟩ => hD.2 k (q, e) hk) (fun hk => hA q (Nat.le_trans hS.1 hk))
          refine va_callv (va_runV (As := []) (rest := []) ⟨hx, hb, hml, hown, hts⟩ (c_m_keepMade l dC dI h ad cI cJ cZ H.size (aU (sU ((F_m_reduceAt ((F_m_copy ((F_m_reduceAt ((F_m_copy (x) (a) ((10 : Int))).2) ((10 : Int))).2) (b) ((12 : Int))).2) ((12 : Int))).2) 31 ((0 : Int))) 1 ((9 : Int)).toNat ((0 : Int)))  (by have h9 := mh.1; omega) (by have h9 := mh.2.1; omega) mh.2.2.1.1 mh.2.2.1.2) (cwV 0 hts gX12_makes_X12_keepMade rfl rfl rfl (by decide +kernel) ⟨Nat.le_of_ble_eq_true rfl, Nat.le_of_ble_eq_true rfl⟩) ⟨fun a U g mk q => by obtain ⟨q0, q1, qP, qK, qD⟩ := q; exact ⟨q0, q1, qP, va_K.moved (u := U) (U := U.calling g mk a) (Vm.Alike.refl U.vm) qK, qD⟩, va_recv hK hP (ci := 12) (q0 := 0) rfl rfl, fun U hU hW => ⟨rfl, by rw [hU], by rw [hU]; exact hP, va_K.moved hW.alike hK, hD.weaken (fun _ _ _ _ => trivial)⟩⟩ rfl rfl hl.1 rfl (lv_room (Nat.le_of_ble_eq_true rfl)) dX12_makes_66 ⟨Nat.le_of_ble_eq_true rfl, Nat.le_of_ble_eq_true rfl⟩) hS (fun q _ h => hFc q h) hFc (fun u9 t H1 locs ht hvm hw hB hz1 hk1 hS => ?_)
          obtain ⟨hP1, hK1, hD1⟩ := hB
          rw [ht] at hP1
          rw [hw] at hP1 hD1
          have hD2 := hD1.weaken (B := A) (fun _ q _ h => hFc q.1 h)
          have hP := hP1
          have hD := hD2
          generalize H1 = H at hP hS ⊢
          have me := mkE_0 nv1 nv2 m0
          refine lv_iconst (v := iI (0 : Int)) hx hb dX12_makes_69 (by decide) ?_
          refine lv_istore_n (lv' := [(3, .int (iI ((0 : Int)))), (0, .ref (h)), (1, .int (iI (a))), (2, .int (iI (b)))]) hx hb dX12_makes_70 rfl hl (by decide) rfl (fun ls hl => ?_)
          exact (L (2000)).1 ((F_m_keepMade (aU (sU ((F_m_reduceAt ((F_m_copy ((F_m_reduceAt ((F_m_copy (x) (a) ((10 : Int))).2) ((10 : Int))).2) (b) ((12 : Int))).2) ((12 : Int))).2) 31 ((0 : Int))) 1 ((9 : Int)).toNat ((0 : Int)))).2) ((0 : Int)) (me.1) (mz0) (c_20) (by omega) (by omega) (by have h9 := me.2; omega) (by omega) (by omega) hres _ _ ls hP hD hS (lv_sub hl [1, 2, 3, 0] rfl)
        · skip
          rw [if_pos c_20] at hres
          refine lv_bipush (v := iI (-3 : Int)) hx hb dX12_makes_23 (by decide) ?_
          exact W.iret (v := iI ((-3 : Int))) hx hb hr (fun t ht hW => ⟨⟨iI ((-3 : Int)), x, rfl, ⟨(by have h9 := congrArg (fun z : Int × MS => iI z.1) hres; exact h9), (by have h9 := congrArg (fun z : Int × MS => z.2) hres; exact h9)⟩, by rw [ht]; exact hP, va_K.moved hW.alike hK, hD⟩, hS.F ht⟩) hS.2.2 dX12_makes_25
      · skip
        rw [if_pos c_11] at hres
        refine lv_iconst (v := iI (-1 : Int)) hx hb dX12_makes_14 (by decide) ?_
        exact W.iret (v := iI ((-1 : Int))) hx hb hr (fun t ht hW => ⟨⟨iI ((-1 : Int)), x, rfl, ⟨(by have h9 := congrArg (fun z : Int × MS => iI z.1) hres; exact h9), (by have h9 := congrArg (fun z : Int × MS => z.2) hres; exact h9)⟩, by rw [ht]; exact hP, va_K.moved hW.alike hK, hD⟩, hS.F ht⟩) hS.2.2 dX12_makes_15
  exact key _ _ hP hS
theorem F_m_makes_sfr : ∀ n : Nat, (∀ (y : MS) (v0 : Int) (v1 : Int) (v2 : Int) (v3 : Int), same [31] [1, 2, 26, 32, 33] y (F_m_makes_s n 0 y v0 v1 v2 v3).2) ∧ (∀ (y : MS) (v0 : Int) (v1 : Int) (v2 : Int) (v3 : Int), same [31] [1, 2, 26, 32, 33] y (F_m_makes_s n 1 y v0 v1 v2 v3).2) := by
  intro n
  induction n with
  | zero => exact ⟨fun y _ _ _ _ => sm_rf _ _ _, fun y _ _ _ _ => sm_rf _ _ _⟩
  | succ n ih =>
    refine ⟨?_, ?_⟩
    · intro y a b k9 q0
      rw [F_m_makes_e0]
      by_cases hc : ((y).1 31) ≤ (k9)
      · rw [if_pos hc]
        exact (sm_rf _ _ _)
      · rw [if_neg hc]
        exact sm_tr ((sm_rf _ _ _)) (ih.2 (y) (a) (b) (k9) ((0 : Int)))
    · intro y a b k9 s9
      rw [F_m_makes_e1]
      by_cases hc : ((2 : Int)) ≤ (s9)
      · rw [if_pos hc]
        exact sm_tr ((sm_rf _ _ _)) (ih.1 (y) (a) (b) ((k9) + (1 : Int)) (0))
      · rw [if_neg hc]
        by_cases hc : (s9) = (0)
        · rw [if_pos hc]
          by_cases hc : ((F_m_times ((F_m_put33 (aU (y) 1 ((9 : Int)).toNat ((0 : Int))) ((9 : Int)) (((60 : Int)) * (k9)) (((y).2 32) (k9).toNat)).2) ((9 : Int)) ((10 : Int))).1) = (0)
          · rw [if_pos hc]
            exact (sm_tr (sm_tr (sm_a (by decide) (sm_rf _ _ _)) (sm_mono (by decide) (by decide) (F_m_put33_fr (aU (y) 1 ((9 : Int)).toNat ((0 : Int))) ((9 : Int)) (((60 : Int)) * (k9)) (((y).2 32) (k9).toNat)))) (sm_mono (by decide) (by decide) (F_m_times_fr ((F_m_put33 (aU (y) 1 ((9 : Int)).toNat ((0 : Int))) ((9 : Int)) (((60 : Int)) * (k9)) (((y).2 32) (k9).toNat)).2) ((9 : Int)) ((10 : Int)))))
          · rw [if_neg hc]
            by_cases hc : ((F_m_isMade ((F_m_times ((F_m_put33 (aU (y) 1 ((9 : Int)).toNat ((0 : Int))) ((9 : Int)) (((60 : Int)) * (k9)) (((y).2 32) (k9).toNat)).2) ((9 : Int)) ((10 : Int))).2)).1) = (0)
            · rw [if_pos hc]
              by_cases hc : (((F_m_times ((F_m_put33 (aU (y) 1 ((9 : Int)).toNat ((0 : Int))) ((9 : Int)) (((60 : Int)) * (k9)) (((y).2 32) (k9).toNat)).2) ((9 : Int)) ((10 : Int))).2).1 31) = ((300 : Int))
              · rw [if_pos hc]
                exact (sm_tr (sm_tr (sm_a (by decide) (sm_rf _ _ _)) (sm_mono (by decide) (by decide) (F_m_put33_fr (aU (y) 1 ((9 : Int)).toNat ((0 : Int))) ((9 : Int)) (((60 : Int)) * (k9)) (((y).2 32) (k9).toNat)))) (sm_mono (by decide) (by decide) (F_m_times_fr ((F_m_put33 (aU (y) 1 ((9 : Int)).toNat ((0 : Int))) ((9 : Int)) (((60 : Int)) * (k9)) (((y).2 32) (k9).toNat)).2) ((9 : Int)) ((10 : Int)))))
              · rw [if_neg hc]
                exact sm_tr ((sm_tr (sm_tr (sm_tr (sm_a (by decide) (sm_rf _ _ _)) (sm_mono (by decide) (by decide) (F_m_put33_fr (aU (y) 1 ((9 : Int)).toNat ((0 : Int))) ((9 : Int)) (((60 : Int)) * (k9)) (((y).2 32) (k9).toNat)))) (sm_mono (by decide) (by decide) (F_m_times_fr ((F_m_put33 (aU (y) 1 ((9 : Int)).toNat ((0 : Int))) ((9 : Int)) (((60 : Int)) * (k9)) (((y).2 32) (k9).toNat)).2) ((9 : Int)) ((10 : Int))))) (sm_mono (by decide) (by decide) (F_m_keepMade_fr ((F_m_times ((F_m_put33 (aU (y) 1 ((9 : Int)).toNat ((0 : Int))) ((9 : Int)) (((60 : Int)) * (k9)) (((y).2 32) (k9).toNat)).2) ((9 : Int)) ((10 : Int))).2))))) (ih.2 ((F_m_keepMade ((F_m_times ((F_m_put33 (aU (y) 1 ((9 : Int)).toNat ((0 : Int))) ((9 : Int)) (((60 : Int)) * (k9)) (((y).2 32) (k9).toNat)).2) ((9 : Int)) ((10 : Int))).2)).2) (a) (b) (k9) ((s9) + (1 : Int)))
            · rw [if_neg hc]
              exact sm_tr ((sm_tr (sm_tr (sm_a (by decide) (sm_rf _ _ _)) (sm_mono (by decide) (by decide) (F_m_put33_fr (aU (y) 1 ((9 : Int)).toNat ((0 : Int))) ((9 : Int)) (((60 : Int)) * (k9)) (((y).2 32) (k9).toNat)))) (sm_mono (by decide) (by decide) (F_m_times_fr ((F_m_put33 (aU (y) 1 ((9 : Int)).toNat ((0 : Int))) ((9 : Int)) (((60 : Int)) * (k9)) (((y).2 32) (k9).toNat)).2) ((9 : Int)) ((10 : Int)))))) (ih.2 ((F_m_times ((F_m_put33 (aU (y) 1 ((9 : Int)).toNat ((0 : Int))) ((9 : Int)) (((60 : Int)) * (k9)) (((y).2 32) (k9).toNat)).2) ((9 : Int)) ((10 : Int))).2) (a) (b) (k9) ((s9) + (1 : Int)))
        · rw [if_neg hc]
          by_cases hc : ((F_m_times ((F_m_put33 (aU (y) 1 ((9 : Int)).toNat ((0 : Int))) ((9 : Int)) (((60 : Int)) * (k9)) (((y).2 32) (k9).toNat)).2) ((9 : Int)) ((12 : Int))).1) = (0)
          · rw [if_pos hc]
            exact (sm_tr (sm_tr (sm_a (by decide) (sm_rf _ _ _)) (sm_mono (by decide) (by decide) (F_m_put33_fr (aU (y) 1 ((9 : Int)).toNat ((0 : Int))) ((9 : Int)) (((60 : Int)) * (k9)) (((y).2 32) (k9).toNat)))) (sm_mono (by decide) (by decide) (F_m_times_fr ((F_m_put33 (aU (y) 1 ((9 : Int)).toNat ((0 : Int))) ((9 : Int)) (((60 : Int)) * (k9)) (((y).2 32) (k9).toNat)).2) ((9 : Int)) ((12 : Int)))))
          · rw [if_neg hc]
            by_cases hc : ((F_m_isMade ((F_m_times ((F_m_put33 (aU (y) 1 ((9 : Int)).toNat ((0 : Int))) ((9 : Int)) (((60 : Int)) * (k9)) (((y).2 32) (k9).toNat)).2) ((9 : Int)) ((12 : Int))).2)).1) = (0)
            · rw [if_pos hc]
              by_cases hc : (((F_m_times ((F_m_put33 (aU (y) 1 ((9 : Int)).toNat ((0 : Int))) ((9 : Int)) (((60 : Int)) * (k9)) (((y).2 32) (k9).toNat)).2) ((9 : Int)) ((12 : Int))).2).1 31) = ((300 : Int))
              · rw [if_pos hc]
                exact (sm_tr (sm_tr (sm_a (by decide) (sm_rf _ _ _)) (sm_mono (by decide) (by decide) (F_m_put33_fr (aU (y) 1 ((9 : Int)).toNat ((0 : Int))) ((9 : Int)) (((60 : Int)) * (k9)) (((y).2 32) (k9).toNat)))) (sm_mono (by decide) (by decide) (F_m_times_fr ((F_m_put33 (aU (y) 1 ((9 : Int)).toNat ((0 : Int))) ((9 : Int)) (((60 : Int)) * (k9)) (((y).2 32) (k9).toNat)).2) ((9 : Int)) ((12 : Int)))))
              · rw [if_neg hc]
                exact sm_tr ((sm_tr (sm_tr (sm_tr (sm_a (by decide) (sm_rf _ _ _)) (sm_mono (by decide) (by decide) (F_m_put33_fr (aU (y) 1 ((9 : Int)).toNat ((0 : Int))) ((9 : Int)) (((60 : Int)) * (k9)) (((y).2 32) (k9).toNat)))) (sm_mono (by decide) (by decide) (F_m_times_fr ((F_m_put33 (aU (y) 1 ((9 : Int)).toNat ((0 : Int))) ((9 : Int)) (((60 : Int)) * (k9)) (((y).2 32) (k9).toNat)).2) ((9 : Int)) ((12 : Int))))) (sm_mono (by decide) (by decide) (F_m_keepMade_fr ((F_m_times ((F_m_put33 (aU (y) 1 ((9 : Int)).toNat ((0 : Int))) ((9 : Int)) (((60 : Int)) * (k9)) (((y).2 32) (k9).toNat)).2) ((9 : Int)) ((12 : Int))).2))))) (ih.2 ((F_m_keepMade ((F_m_times ((F_m_put33 (aU (y) 1 ((9 : Int)).toNat ((0 : Int))) ((9 : Int)) (((60 : Int)) * (k9)) (((y).2 32) (k9).toNat)).2) ((9 : Int)) ((12 : Int))).2)).2) (a) (b) (k9) ((s9) + (1 : Int)))
            · rw [if_neg hc]
              exact sm_tr ((sm_tr (sm_tr (sm_a (by decide) (sm_rf _ _ _)) (sm_mono (by decide) (by decide) (F_m_put33_fr (aU (y) 1 ((9 : Int)).toNat ((0 : Int))) ((9 : Int)) (((60 : Int)) * (k9)) (((y).2 32) (k9).toNat)))) (sm_mono (by decide) (by decide) (F_m_times_fr ((F_m_put33 (aU (y) 1 ((9 : Int)).toNat ((0 : Int))) ((9 : Int)) (((60 : Int)) * (k9)) (((y).2 32) (k9).toNat)).2) ((9 : Int)) ((12 : Int)))))) (ih.2 ((F_m_times ((F_m_put33 (aU (y) 1 ((9 : Int)).toNat ((0 : Int))) ((9 : Int)) (((60 : Int)) * (k9)) (((y).2 32) (k9).toNat)).2) ((9 : Int)) ((12 : Int))).2) (a) (b) (k9) ((s9) + (1 : Int)))
theorem F_m_makes_fr (x : MS) (a : Int) (b : Int) : same [31] [1, 2, 26, 32, 33] x (F_m_makes (x) (a) (b)).2 := by
  unfold F_m_makes
  by_cases hc : ((F_m_isSlot (x) (a)).1) = (0)
  · rw [if_pos hc]
    exact (sm_rf _ _ _)
  · rw [if_neg hc]
    by_cases hc : ((F_m_isSlot (x) (b)).1) = (0)
    · rw [if_pos hc]
      exact (sm_rf _ _ _)
    · rw [if_neg hc]
      by_cases hc : ((F_m_isMachine (x)).1) = (0)
      · rw [if_pos hc]
        exact (sm_rf _ _ _)
      · rw [if_neg hc]
        exact sm_tr ((sm_tr (sm_a (by decide) (sm_s (by decide) (sm_tr (sm_tr (sm_tr (sm_tr (sm_rf _ _ _) (sm_mono (by decide) (by decide) (F_m_copy_fr (x) (a) ((10 : Int))))) (sm_mono (by decide) (by decide) (F_m_reduceAt_fr ((F_m_copy (x) (a) ((10 : Int))).2) ((10 : Int))))) (sm_mono (by decide) (by decide) (F_m_copy_fr ((F_m_reduceAt ((F_m_copy (x) (a) ((10 : Int))).2) ((10 : Int))).2) (b) ((12 : Int))))) (sm_mono (by decide) (by decide) (F_m_reduceAt_fr ((F_m_copy ((F_m_reduceAt ((F_m_copy (x) (a) ((10 : Int))).2) ((10 : Int))).2) (b) ((12 : Int))).2) ((12 : Int))))))) (sm_mono (by decide) (by decide) (F_m_keepMade_fr (aU (sU ((F_m_reduceAt ((F_m_copy ((F_m_reduceAt ((F_m_copy (x) (a) ((10 : Int))).2) ((10 : Int))).2) (b) ((12 : Int))).2) ((12 : Int))).2) 31 ((0 : Int))) 1 ((9 : Int)).toNat ((0 : Int))))))) ((F_m_makes_sfr 2000).1 ((F_m_keepMade (aU (sU ((F_m_reduceAt ((F_m_copy ((F_m_reduceAt ((F_m_copy (x) (a) ((10 : Int))).2) ((10 : Int))).2) (b) ((12 : Int))).2) ((12 : Int))).2) 31 ((0 : Int))) 1 ((9 : Int)).toNat ((0 : Int)))).2) (a) (b) ((0 : Int)) (0))
set_option maxHeartbeats 4000000 in
theorem F_m_makes_p (x : MS) (a : Int) (b : Int) (ra : iR a) (rb : iR b) (sn : iR (x.1 6)) (ic : x.1 27 = 0 ∨ x.1 27 = 1) (mz : ¬ (F_m_isMachine x).1 = 0 → mzH x) (hrw : rwR x) (hs : ∀ k : Nat, k < 9 → slH x k) (hm : ∀ k : Nat, k < 301 → 0 ≤ x.2 32 k ∧ x.2 32 k ≤ 60) (hr0 : ∀ k : Nat, k < 18060 → 0 ≤ x.2 33 k ∧ x.2 33 k ≤ 3) : mkQ x a b (F_m_makes (x) (a) (b)) := by
  have L : ∀ n : Nat, (∀ (y : MS) (k9 : Int), (mkE x y a.toNat b.toNat ((2 : Int) * k9).toNat) → (mzH x) → (¬ (F_m_isMachine x).1 = 0) → ((0 ≤ a ∧ a ≤ 7) ∧ (0 ≤ b ∧ b ≤ 7)) → (0 ≤ k9) → (k9 ≤ y.1 31) → (k9 ≤ 300) → ((301 - k9) * 5 + 5 < n) → mkQ x a b (F_m_makes_s n 0 y a b k9 0)) ∧ (∀ (y : MS) (k9 : Int) (s9 : Int), (mkE x y a.toNat b.toNat ((2 : Int) * k9 + s9).toNat) → (mzH x) → (¬ (F_m_isMachine x).1 = 0) → ((0 ≤ a ∧ a ≤ 7) ∧ (0 ≤ b ∧ b ≤ 7)) → (0 ≤ k9) → (k9 < y.1 31) → (k9 < 300) → (0 ≤ s9) → (s9 ≤ 2) → ((301 - k9) * 5 + 4 - s9 < n) → mkQ x a b (F_m_makes_s n 1 y a b k9 s9)) := by
    intro n
    induction n with
    | zero =>
      refine ⟨?_, ?_⟩
      · intro y k9 ex mz0 hm1 hab k0 k1 k2 fu
        exact absurd fu (by omega)
      · intro y k9 s9 ex mz0 hm1 hab k0 k1 k2 s0 s1 fu
        exact absurd fu (by omega)
    | succ n ih =>
      refine ⟨?_, ?_⟩
      · intro y k9 ex mz0 hm1 hab k0 k1 k2 fu
        rw [F_m_makes_e0]
        have mb := mkE_b ex
        by_cases c_76 : ((y).1 31) ≤ (k9)
        · rw [if_pos c_76]
          exact mk_5 hab hm1 ex k0 (by omega)
        · rw [if_neg c_76]
          exact ih.2 (y) (k9) ((0 : Int)) (by rw [show ((2 : Int) * k9 + (0 : Int)) = (2 : Int) * k9 by omega]; exact ex) (mz0) (hm1) (hab) (k0) (by omega) (by omega) (by omega) (by omega) (by omega)
      · intro y k9 s9 ex mz0 hm1 hab k0 k1 k2 s0 s1 fu
        rw [F_m_makes_e1]
        have mb := mkE_b ex
        by_cases c_85 : ((2 : Int)) ≤ (s9)
        · rw [if_pos c_85]
          exact ih.1 (y) ((k9) + (1 : Int)) (by rw [show (2 : Int) * (k9 + (1 : Int)) = (2 : Int) * k9 + s9 by omega]; exact ex) (mz0) (hm1) (hab) (by omega) (by omega) (by omega) (by omega)
        · rw [if_neg c_85]
          obtain ⟨v1, v2, ws, n1, n2, mi, mc⟩ := id ex
          obtain ⟨w0, hw0⟩ := mk_w mi k0 k1
          have pp := mk_p mz0 mi k0 hw0
          have z9 : (aU (y) 1 ((9 : Int)).toNat ((0 : Int))).2 1 ((9 : Int)).toNat = 0 := by rw [yU_s]; exact iU_s
          have tA := mk_tA mz0 mi pp.2.1 pp.2.2.1 pp.2.2.2.1 pp.2.2.2.2
          have tB := mk_tB mz0 mi pp.2.1 pp.2.2.1 pp.2.2.2.1 pp.2.2.2.2
          by_cases c_121 : (s9) = (0)
          · rw [if_pos c_121]
            have t01 : (F_m_times ((F_m_put33 (aU (y) 1 ((9 : Int)).toNat ((0 : Int))) ((9 : Int)) (((60 : Int)) * (k9)) (((y).2 32) (k9).toNat)).2) ((9 : Int)) ((10 : Int))).1 = 0 ∨ (F_m_times ((F_m_put33 (aU (y) 1 ((9 : Int)).toNat ((0 : Int))) ((9 : Int)) (((60 : Int)) * (k9)) (((y).2 32) (k9).toNat)).2) ((9 : Int)) ((10 : Int))).1 = 1 := by rcases tA.2 with h9 | h9; exact Or.inl h9.1; exact Or.inr h9.1
            by_cases c_134 : ((F_m_times ((F_m_put33 (aU (y) 1 ((9 : Int)).toNat ((0 : Int))) ((9 : Int)) (((60 : Int)) * (k9)) (((y).2 32) (k9).toNat)).2) ((9 : Int)) ((10 : Int))).1) = (0)
            · rw [if_pos c_134]
              exact (by rcases tA.2 with h9 | h9; exact mk_41 (v := v1) hab hm1 k0 s0 (by omega) (Or.inl ⟨c_121, rfl⟩) n1 n2 mi pp.2.1 mc hw0 h9.2.1 h9.2.2; (exfalso; have h8 := h9.1; omega))
            · rw [if_neg c_134]
              obtain ⟨_, c5, d5, mi5, k5, n5⟩ := tA.2.resolve_left (fun h9 => c_134 h9.1)
              have hv : (s9 = 0 ∧ v1 = v1) ∨ (¬ s9 = 0 ∧ v1 = v2) := Or.inl ⟨c_121, rfl⟩
              have im := mk_m mi5 k5
              have im01 := mk_01 mi5 k5
              have mh := mkI_h mi5 k5
              have sl5 : s9 < 2 := by omega
              by_cases c_144 : ((F_m_isMade ((F_m_times ((F_m_put33 (aU (y) 1 ((9 : Int)).toNat ((0 : Int))) ((9 : Int)) (((60 : Int)) * (k9)) (((y).2 32) (k9).toNat)).2) ((9 : Int)) ((10 : Int))).2)).1) = (0)
              · rw [if_pos c_144]
                by_cases c_154 : (((F_m_times ((F_m_put33 (aU (y) 1 ((9 : Int)).toNat ((0 : Int))) ((9 : Int)) (((60 : Int)) * (k9)) (((y).2 32) (k9).toNat)).2) ((9 : Int)) ((10 : Int))).2).1 31) = ((300 : Int))
                · rw [if_pos c_154]
                  exact mk_42 hab hm1 k0 s0 sl5 hv n1 n2 mi5 mc hw0 c5 n5 (by rcases im with h9 | h9; (exfalso; omega); exact h9.2) (by omega)
                · rw [if_neg c_154]
                  exact ih.2 ((F_m_keepMade ((F_m_times ((F_m_put33 (aU (y) 1 ((9 : Int)).toNat ((0 : Int))) ((9 : Int)) (((60 : Int)) * (k9)) (((y).2 32) (k9).toNat)).2) ((9 : Int)) ((10 : Int))).2)).2) (k9) ((s9) + (1 : Int)) ((mkE_n k0 s0 sl5 hv n1 n2 mi5 k5 mc hw0 c5 n5 (by rcases im with h9 | h9; (exfalso; omega); exact h9.2) (by omega)).1) (mz0) (hm1) (hab) (k0) (by have h9 := (mkE_n k0 s0 sl5 hv n1 n2 mi5 k5 mc hw0 c5 n5 (by rcases im with h9 | h9; (exfalso; omega); exact h9.2) (by omega)).2; have h8 := mi.2.2.2.1.1; omega) (by omega) (by omega) (by omega) (by omega)
              · rw [if_neg c_144]
                exact ih.2 ((F_m_times ((F_m_put33 (aU (y) 1 ((9 : Int)).toNat ((0 : Int))) ((9 : Int)) (((60 : Int)) * (k9)) (((y).2 32) (k9).toNat)).2) ((9 : Int)) ((10 : Int))).2) (k9) ((s9) + (1 : Int)) (mkE_y k0 s0 sl5 hv n1 n2 mi5 mc hw0 c5 n5 (by rcases im with h9 | h9; exact h9.2; (exfalso; omega))) (mz0) (hm1) (hab) (k0) (by have h9 := mh.1; have h8 := mi.2.2.2.1.1; omega) (by omega) (by omega) (by omega) (by omega)
          · rw [if_neg c_121]
            have t01 : (F_m_times ((F_m_put33 (aU (y) 1 ((9 : Int)).toNat ((0 : Int))) ((9 : Int)) (((60 : Int)) * (k9)) (((y).2 32) (k9).toNat)).2) ((9 : Int)) ((12 : Int))).1 = 0 ∨ (F_m_times ((F_m_put33 (aU (y) 1 ((9 : Int)).toNat ((0 : Int))) ((9 : Int)) (((60 : Int)) * (k9)) (((y).2 32) (k9).toNat)).2) ((9 : Int)) ((12 : Int))).1 = 1 := by rcases tB.2 with h9 | h9; exact Or.inl h9.1; exact Or.inr h9.1
            by_cases c_134 : ((F_m_times ((F_m_put33 (aU (y) 1 ((9 : Int)).toNat ((0 : Int))) ((9 : Int)) (((60 : Int)) * (k9)) (((y).2 32) (k9).toNat)).2) ((9 : Int)) ((12 : Int))).1) = (0)
            · rw [if_pos c_134]
              exact (by rcases tB.2 with h9 | h9; exact mk_41 (v := v2) hab hm1 k0 s0 (by omega) (Or.inr ⟨c_121, rfl⟩) n1 n2 mi pp.2.1 mc hw0 h9.2.1 h9.2.2; (exfalso; have h8 := h9.1; omega))
            · rw [if_neg c_134]
              obtain ⟨_, c5, d5, mi5, k5, n5⟩ := tB.2.resolve_left (fun h9 => c_134 h9.1)
              have hv : (s9 = 0 ∧ v2 = v1) ∨ (¬ s9 = 0 ∧ v2 = v2) := Or.inr ⟨c_121, rfl⟩
              have im := mk_m mi5 k5
              have im01 := mk_01 mi5 k5
              have mh := mkI_h mi5 k5
              have sl5 : s9 < 2 := by omega
              by_cases c_144 : ((F_m_isMade ((F_m_times ((F_m_put33 (aU (y) 1 ((9 : Int)).toNat ((0 : Int))) ((9 : Int)) (((60 : Int)) * (k9)) (((y).2 32) (k9).toNat)).2) ((9 : Int)) ((12 : Int))).2)).1) = (0)
              · rw [if_pos c_144]
                by_cases c_154 : (((F_m_times ((F_m_put33 (aU (y) 1 ((9 : Int)).toNat ((0 : Int))) ((9 : Int)) (((60 : Int)) * (k9)) (((y).2 32) (k9).toNat)).2) ((9 : Int)) ((12 : Int))).2).1 31) = ((300 : Int))
                · rw [if_pos c_154]
                  exact mk_42 hab hm1 k0 s0 sl5 hv n1 n2 mi5 mc hw0 c5 n5 (by rcases im with h9 | h9; (exfalso; omega); exact h9.2) (by omega)
                · rw [if_neg c_154]
                  exact ih.2 ((F_m_keepMade ((F_m_times ((F_m_put33 (aU (y) 1 ((9 : Int)).toNat ((0 : Int))) ((9 : Int)) (((60 : Int)) * (k9)) (((y).2 32) (k9).toNat)).2) ((9 : Int)) ((12 : Int))).2)).2) (k9) ((s9) + (1 : Int)) ((mkE_n k0 s0 sl5 hv n1 n2 mi5 k5 mc hw0 c5 n5 (by rcases im with h9 | h9; (exfalso; omega); exact h9.2) (by omega)).1) (mz0) (hm1) (hab) (k0) (by have h9 := (mkE_n k0 s0 sl5 hv n1 n2 mi5 k5 mc hw0 c5 n5 (by rcases im with h9 | h9; (exfalso; omega); exact h9.2) (by omega)).2; have h8 := mi.2.2.2.1.1; omega) (by omega) (by omega) (by omega) (by omega)
              · rw [if_neg c_144]
                exact ih.2 ((F_m_times ((F_m_put33 (aU (y) 1 ((9 : Int)).toNat ((0 : Int))) ((9 : Int)) (((60 : Int)) * (k9)) (((y).2 32) (k9).toNat)).2) ((9 : Int)) ((12 : Int))).2) (k9) ((s9) + (1 : Int)) (mkE_y k0 s0 sl5 hv n1 n2 mi5 mc hw0 c5 n5 (by rcases im with h9 | h9; exact h9.2; (exfalso; omega))) (mz0) (hm1) (hab) (k0) (by have h9 := mh.1; have h8 := mi.2.2.2.1.1; omega) (by omega) (by omega) (by omega) (by omega)
  unfold F_m_makes
  by_cases c_4 : ((F_m_isSlot (x) (a)).1) = (0)
  · rw [if_pos c_4]
    exact Or.inl ⟨by first | (have h9 := F_in_00 (by rw [← F_m_isSlot_1 x b]; exact c_11); omega) | (have h9 := F_in_00 (by rw [← F_m_isSlot_1 x a]; exact c_4); omega), rfl⟩
  · rw [if_neg c_4]
    by_cases c_11 : ((F_m_isSlot (x) (b)).1) = (0)
    · rw [if_pos c_11]
      exact Or.inl ⟨by first | (have h9 := F_in_00 (by rw [← F_m_isSlot_1 x b]; exact c_11); omega) | (have h9 := F_in_00 (by rw [← F_m_isSlot_1 x a]; exact c_4); omega), rfl⟩
    · rw [if_neg c_11]
      obtain ⟨a0, a1⟩ := F_in_1 (by rw [← F_m_isSlot_1 x a]; exact c_4)
      obtain ⟨b0, b1⟩ := F_in_1 (by rw [← F_m_isSlot_1 x b]; exact c_11)
      by_cases c_20 : ((F_m_isMachine (x)).1) = (0)
      · rw [if_pos c_20]
        exact Or.inr ⟨by omega, Or.inl ⟨c_20, rfl⟩⟩
      · rw [if_neg c_20]
        have mz0 := mz c_20
        have zb := (hs a.toNat (by omega)).1
        have f0 := slF_0 hrw
        have d1 : slD (x) ((F_m_copy (x) (a) ((10 : Int))).2) 10 ∧ slK x ((F_m_copy (x) (a) ((10 : Int))).2) 10 (slM x a.toNat) := by
          have h9 := copy_D (x := x) (a := a.toNat) (b := 10) f0.2.1 (slF_H f0 (by omega) (hs a.toNat (by omega))) (by omega) (by omega)
          rw [show (a.toNat : Int) = a by omega] at h9
          exact h9
        have f1 := slD_F f0 d1.1 (by decide)
        have r1 := slH_r f1 mz0 d1.2 (by omega) (by omega)
        obtain ⟨e1, w1, kv1, nv1⟩ := red_D f1 mz0 d1.2 (by omega) (by omega)
        have g1 : slF x ((F_m_reduceAt ((F_m_copy (x) (a) ((10 : Int))).2) ((10 : Int))).2) := slD_F f1 e1 (by decide)
        have zc := (slK_H (slF_0e g1) (slF_H g1 (show b.toNat < 9 by omega) (hs b.toNat (by omega)))).1
        have d2 : slD ((F_m_reduceAt ((F_m_copy (x) (a) ((10 : Int))).2) ((10 : Int))).2) ((F_m_copy ((F_m_reduceAt ((F_m_copy (x) (a) ((10 : Int))).2) ((10 : Int))).2) (b) ((12 : Int))).2) 12 ∧ slK x ((F_m_copy ((F_m_reduceAt ((F_m_copy (x) (a) ((10 : Int))).2) ((10 : Int))).2) (b) ((12 : Int))).2) 12 (slM x b.toNat) := by
          have h9 := copy_D (x := x) (a := b.toNat) (b := 12) g1.2.1 (slF_H g1 (by omega) (hs b.toNat (by omega))) (by omega) (by omega)
          rw [show (b.toNat : Int) = b by omega] at h9
          exact h9
        have f2 := slD_F g1 d2.1 (by decide)
        have r2 := slH_r f2 mz0 d2.2 (by omega) (by omega)
        have kv1c := slD_K d2.1 (by decide) (by decide) kv1
        obtain ⟨e2, w2, kv2, nv2⟩ := red_D f2 mz0 d2.2 (by omega) (by omega)
        have g2 : slF x ((F_m_reduceAt ((F_m_copy ((F_m_reduceAt ((F_m_copy (x) (a) ((10 : Int))).2) ((10 : Int))).2) (b) ((12 : Int))).2) ((12 : Int))).2) := slD_F f2 e2 (by decide)
        have kv1d := slD_K e2 (by decide) (by decide) kv1c
        have m0 : mkI x (aU (sU ((F_m_reduceAt ((F_m_copy ((F_m_reduceAt ((F_m_copy (x) (a) ((10 : Int))).2) ((10 : Int))).2) (b) ((12 : Int))).2) ((12 : Int))).2) 31 ((0 : Int))) 1 ((9 : Int)).toNat ((0 : Int))) w1 w2 [] ∧ slK x (aU (sU ((F_m_reduceAt ((F_m_copy ((F_m_reduceAt ((F_m_copy (x) (a) ((10 : Int))).2) ((10 : Int))).2) (b) ((12 : Int))).2) ((12 : Int))).2) 31 ((0 : Int))) 1 ((9 : Int)).toNat ((0 : Int))) 9 [] := mk_0 g2 kv1d kv2 hm hr0
        have mh := mkI_h m0.1 m0.2
        have me := mkE_0 nv1 nv2 m0
        exact (L (2000)).1 ((F_m_keepMade (aU (sU ((F_m_reduceAt ((F_m_copy ((F_m_reduceAt ((F_m_copy (x) (a) ((10 : Int))).2) ((10 : Int))).2) (b) ((12 : Int))).2) ((12 : Int))).2) 31 ((0 : Int))) 1 ((9 : Int)).toNat ((0 : Int)))).2) ((0 : Int)) (me.1) (mz0) (c_20) (by omega) (by omega) (by have h9 := me.2; omega) (by omega) (by omega)
