-- deps: 99.y
/-! makes, step by step -/
theorem put33_w {x : MS} {o9 b g s : Nat} (hs : x.2 1 o9 = (s : Int)) (hg : g ≤ 128) (hw : rwR x) (hA : ∀ i, i < g → 0 ≤ x.2 33 (b + i) ∧ x.2 33 (b + i) ≤ 3) : rwR (F_m_put33 x (o9 : Int) (b : Int) (g : Int)).2 := by
  obtain ⟨_, a2⟩ := put33_s (b := b) (g := g) hs 200 0 x (Nat.zero_le _) (by omega) rfl rfl (fun q => (if_neg (by omega)).symm)
  intro k hk
  have a2 : (F_m_put33 x (o9 : Int) (b : Int) (g : Int)).2.2 2 k = _ := a2 k
  rw [a2]
  by_cases hc : 128 * o9 + s ≤ k ∧ k < 128 * o9 + s + g
  · rw [if_pos hc]; exact hA _ (by omega)
  · rw [if_neg hc]; exact hw k hk
def mkV (v1 v2 : List Int) (t : Nat) : List Int := if t % 2 = 0 then v1 else v2
def mkC (x : MS) (v1 v2 : List Int) : Nat → List (List Int) → Prop
  | 0, ws => ws = [[]]
  | t + 1, ws2 => ∃ ws w d, mkC x v1 v2 t ws ∧ ws[t / 2]? = some w ∧ w.length + (mkV v1 v2 t).length ≤ 60 ∧ nfP x (w ++ mkV v1 v2 t) d ∧ ((d ∈ ws ∧ ws2 = ws) ∨ (d ∉ ws ∧ ws.length ≠ 300 ∧ ws2 = ws ++ [d]))
def mkF (x y : MS) : Prop := same [31] [1, 2, 26, 32, 33] x y ∧ rwR y ∧ (∀ j, j < 9 → y.2 1 j = x.2 1 j) ∧ (∀ i, i < 1152 → y.2 2 i = x.2 2 i)
theorem mkF_s {x y z : MS} (h : mkF x y) (f : slF y z) : mkF x z := ⟨sm_tr h.1 (sm_mono (by decide) (by decide) f.1), f.2.1, fun j hj => (f.2.2.1 j hj).trans (h.2.2.1 j hj), fun i hi => (f.2.2.2 i hi).trans (h.2.2.2 i hi)⟩
theorem mkF_mz {x y : MS} (f : mkF x y) (h : mzH x) : mzH y ∧ lM y = lM x ∧ rM y = rM x ∧ y.1 12 = x.1 12 ∧ y.1 0 = x.1 0 := by
  have f := f.1
  have e13 := f.2 13 (by decide)
  have e14 := f.2 14 (by decide)
  have e15 := f.2 15 (by decide)
  have e16 := f.2 16 (by decide)
  have g0 := f.1 0 (by decide)
  have g12 := f.1 12 (by decide)
  obtain ⟨⟨pr, str, N, S, hN⟩, rl, rt⟩ := h
  refine ⟨⟨⟨plR_eq pr g0 g12 e13 e14, str, N, S, ?_⟩, ?_, ?_⟩, lM_eq e13 e14, rM_eq e15 e16, g12, g0⟩
  · unfold plN at hN ⊢
    rw [lM_eq e13 e14, g0, g12, f.1 17 (by decide), f.1 24 (by decide), f.2 19 (by decide), f.2 21 (by decide), f.2 23 (by decide), f.2 25 (by decide)]
    exact hN
  · unfold rlR at rl ⊢
    rw [lM_eq e13 e14, rM_eq e15 e16, g0, g12, e15]; exact rl
  · unfold rtR at rt ⊢; rw [e16]; exact rt
def mkI (x y : MS) (v1 v2 : List Int) (ws : List (List Int)) : Prop := mkF x y ∧ slK x y 10 v1 ∧ slK x y 12 v2 ∧ mdI y ws.length ∧ ws.length ≤ 300 ∧ (∀ k w, ws[k]? = some w → mdM y k = w ∧ okL (x.1 0).toNat w ∧ w.length ≤ 60)
def mkE (x y : MS) (a b t : Nat) : Prop := ∃ v1 v2 ws, nfP x (slM x a) v1 ∧ nfP x (slM x b) v2 ∧ mkI x y v1 v2 ws ∧ mkC x v1 v2 t ws
theorem slK_e {x y z : MS} (e : y.1 0 = x.1 0) {k : Nat} {u : List Int} : slK y z k u ↔ slK x z k u := by unfold slK; rw [e]
theorem nfP_e {x y : MS} (h1 : lM y = lM x) (h2 : rM y = rM x) (h3 : y.1 12 = x.1 12) {u v : List Int} : nfP y u v ↔ nfP x u v := by unfold nfP; rw [h1, h2, h3]
theorem mk_p {x y : MS} {v1 v2 : List Int} {ws : List (List Int)} {k9 : Int} {w : List Int} (mz : mzH x) (h : mkI x y v1 v2 ws) (k0 : 0 ≤ k9) (hk : ws[k9.toNat]? = some w) : (0 ≤ y.2 32 k9.toNat ∧ y.2 32 k9.toNat ≤ 60) ∧ slF y (F_m_put33 (aU y 1 ((9 : Int)).toNat ((0 : Int))) ((9 : Int)) ((60 : Int) * k9) (y.2 32 k9.toNat)).2 ∧ slK x (F_m_put33 (aU y 1 ((9 : Int)).toNat ((0 : Int))) ((9 : Int)) ((60 : Int) * k9) (y.2 32 k9.toNat)).2 9 w ∧ slK x (F_m_put33 (aU y 1 ((9 : Int)).toNat ((0 : Int))) ((9 : Int)) ((60 : Int) * k9) (y.2 32 k9.toNat)).2 10 v1 ∧ slK x (F_m_put33 (aU y 1 ((9 : Int)).toNat ((0 : Int))) ((9 : Int)) ((60 : Int) * k9) (y.2 32 k9.toNat)).2 12 v2 := by
  obtain ⟨f, k1, k2, md, wl, hh⟩ := h
  have hlt : k9.toNat < ws.length := (List.getElem?_eq_some_iff.mp hk).1
  obtain ⟨e1, o1, l1⟩ := hh _ _ hk
  have z := md.2.1 k9.toNat (by omega)
  obtain ⟨g, hg⟩ : ∃ g : Nat, y.2 32 k9.toNat = (g : Int) := ⟨(y.2 32 k9.toNat).toNat, by omega⟩
  obtain ⟨K, rfl⟩ : ∃ K : Nat, k9 = (K : Int) := ⟨k9.toNat, by omega⟩
  rw [Int.toNat_natCast] at *
  obtain ⟨d1, s1⟩ := zero_D (x := x) (y := y) (k := 9) f.2.1
  have hs : (aU y 1 9 0).2 1 9 = ((0 : Nat) : Int) := s1.1
  have a33 : (aU y 1 9 0).2 33 = y.2 33 := yU_n (by decide)
  have E := put33_x (b := 60 * K) (g := g) hs (by omega)
  have Q := put33_w (b := 60 * K) (g := g) hs (by omega) d1.2.1 (fun i hi => by rw [a33]; exact md.2.2 _ (by omega))
  have ew : slM (aU y 1 9 0) 9 ++ sgM (aU y 1 9 0) 33 (60 * K) g = w := by
    rw [s1.2.1, List.nil_append, sgM_A a33, ← e1]; unfold mdM; rw [hg, Int.toNat_natCast]
  rw [ew] at E
  have eS : F_m_put33 (aU y 1 ((9 : Int)).toNat ((0 : Int))) ((9 : Int)) ((60 : Int) * (K : Int)) (y.2 32 K) = F_m_put33 (aU y 1 9 0) ((9 : Nat) : Int) ((60 * K : Nat) : Int) (g : Int) := by
    rw [hg, show ((60 * K : Nat) : Int) = (60 : Int) * (K : Int) by omega]; rfl
  rw [eS]
  have D : slD (aU y 1 9 0) (F_m_put33 (aU y 1 9 0) ((9 : Nat) : Int) ((60 * K : Nat) : Int) (g : Int)).2 9 := ⟨sm_mono (by decide) (by decide) E.1, Q, E.2.1, fun i hi _ => E.2.2.1 i hi⟩
  have D2 := slD_t d1 D
  exact ⟨z, slD_F (slF_0 f.2.1) D2 (Or.inl rfl), ⟨E.2.2.2.1, E.2.2.2.2, o1, l1⟩, slD_K D2 (by decide) (by decide) k1, slD_K D2 (by decide) (by decide) k2⟩
theorem mk_c {x y z : MS} {v1 v2 : List Int} {ws : List (List Int)} (h : mkI x y v1 v2 ws) (f : slF y z) (k1 : slK x z 10 v1) (k2 : slK x z 12 v2) : mkI x z v1 v2 ws := by
  obtain ⟨f0, _, _, md, wl, hh⟩ := h
  have e31 : z.1 31 = y.1 31 := f.1.1 31 List.not_mem_nil
  have e32 : z.2 32 = y.2 32 := f.1.2 32 (by decide)
  have e33 : z.2 33 = y.2 33 := f.1.2 33 (by decide)
  refine ⟨mkF_s f0 f, k1, k2, ⟨by rw [e31]; exact md.1, by rw [e32]; exact md.2.1, by rw [e33]; exact md.2.2⟩, wl, fun k w hk => ?_⟩
  unfold mdM
  rw [e32, sgM_A e33]; exact hh k w hk
theorem mk_t {x y z : MS} {v1 v2 v w : List Int} {ws : List (List Int)} {b : Nat} (mz : mzH x) (h : mkI x y v1 v2 ws) (f : slF y z) (k9 : slK x z 9 w) (k1 : slK x z 10 v1) (k2 : slK x z 12 v2) (hb : (b = 10 ∧ v = v1) ∨ (b = 12 ∧ v = v2)) : (mzH z ∧ rwR z ∧ slH z 9 ∧ slH z b) ∧ (((F_m_times z ((9 : Int)) (b : Int)).1 = 0 ∧ 60 < w.length + v.length ∧ (F_m_times z ((9 : Int)) (b : Int)).2 = z) ∨ ((F_m_times z ((9 : Int)) (b : Int)).1 = 1 ∧ w.length + v.length ≤ 60 ∧ ∃ d, mkI x (F_m_times z ((9 : Int)) (b : Int)).2 v1 v2 ws ∧ slK x (F_m_times z ((9 : Int)) (b : Int)).2 9 d ∧ nfP x (w ++ v) d)) := by
  obtain ⟨my, eL, eR, e12, e0⟩ := mkF_mz h.1 mz
  obtain ⟨mzz, eL2, eR2, e122, e02⟩ := mz_e f my
  have kb : slK x z b v := by
    rcases hb with ⟨e1, e2⟩ | ⟨e1, e2⟩
    · rw [e1, e2]; exact k1
    · rw [e1, e2]; exact k2
  have ez : z.1 0 = x.1 0 := e02.trans e0
  refine ⟨⟨mzz, f.2.1, slK_H ez k9, slK_H ez kb⟩, ?_⟩
  rcases times_D f my ((slK_e e0).mpr k9) ((slK_e e0).mpr kb) (by omega) with ⟨c, e⟩ | ⟨c, e, d, n, kn, nn⟩
  · exact Or.inl ⟨congrArg Prod.fst e, c, congrArg Prod.snd e⟩
  · exact Or.inr ⟨e, c, n, mk_c h (slD_F f d (Or.inl rfl)) (slD_K d (by decide) (by decide) k1) (slD_K d (by decide) (by decide) k2), (slK_e e0).mp kn, (nfP_e eL eR e12).mp nn⟩
theorem mk_m {x z : MS} {v1 v2 d : List Int} {ws : List (List Int)} (h : mkI x z v1 v2 ws) (k9 : slK x z 9 d) : ((F_m_isMade z).1 = 1 ∧ d ∈ ws) ∨ ((F_m_isMade z).1 = 0 ∧ d ∉ ws) := by
  obtain ⟨f0, k1, k2, md, wl, hh⟩ := h
  obtain ⟨g1, g2, g3, g4⟩ := k9
  have hm := md.1
  rcases F_m_isMade_p z (by omega) (by omega) (by omega) (by omega) (fun k hk => (md.2.1 k hk).1) with ⟨e, j, hj, ej⟩ | ⟨e, hn⟩
  · refine Or.inl ⟨e, ?_⟩
    have hj2 : j < ws.length := by omega
    have h9 := hh j ws[j] (List.getElem?_eq_getElem hj2)
    rw [g2, h9.1] at ej
    rw [← ej]; exact List.getElem_mem hj2
  · refine Or.inr ⟨e, fun hd => ?_⟩
    obtain ⟨j, hj, ej⟩ := List.getElem_of_mem hd
    have h9 := hh j ws[j] (List.getElem?_eq_getElem hj)
    exact hn j (by omega) (by rw [g2, h9.1, ej])
theorem mk_k {x z : MS} {v1 v2 d : List Int} {ws : List (List Int)} (h : mkI x z v1 v2 ws) (k9 : slK x z 9 d) (hl : ws.length ≠ 300) : mkI x (F_m_keepMade z).2 v1 v2 (ws ++ [d]) := by
  obtain ⟨f0, k1, k2, md, wl, hh⟩ := h
  obtain ⟨g1, g2, g3, g4⟩ := k9
  obtain ⟨fr, m1, m2, m3⟩ := keep_x md (by omega) (by omega) (by omega) f0.2.1
  generalize (F_m_keepMade z).2 = q at fr m1 m2 m3 ⊢
  have e1 : q.2 1 = z.2 1 := fr.2 1 (by decide)
  have e2 : q.2 2 = z.2 2 := fr.2 2 (by decide)
  have K : ∀ {j : Nat} {u : List Int}, slK x z j u → slK x q j u := fun {j u} hu => ⟨by rw [e1]; exact hu.1, by rw [slM_o (congrFun e1 j) (fun i _ => congrFun e2 _)]; exact hu.2.1, hu.2.2⟩
  refine ⟨⟨sm_tr f0.1 (sm_mono (by decide) (by decide) fr), by unfold rwR; rw [e2]; exact f0.2.1, by rw [e1]; exact f0.2.2.1, by rw [e2]; exact f0.2.2.2⟩, K k1, K k2, by rw [List.length_append]; exact m1, by rw [List.length_append, List.length_singleton]; omega, fun k w hk => ?_⟩
  by_cases ek : k < ws.length
  · rw [List.getElem?_append_left ek] at hk
    rw [m2 k ek]; exact hh k w hk
  · have hk2 : k < (ws ++ [d]).length := (List.getElem?_eq_some_iff.mp hk).1
    rw [List.length_append, List.length_singleton] at hk2
    have e : k = ws.length := by omega
    rw [e, List.getElem?_append_right (Nat.le_refl _), Nat.sub_self] at hk
    have ew : d = w := Option.some.inj hk
    rw [e, m3, g2, ← ew]
    exact ⟨rfl, g3, g4⟩
