-- deps: A2.a
/-! the class: Walk.seek finds the next STRING of the same length -/
def stE (X : KS) (Y : MS) : Prop := (X.1 64 7 = Y.1 24 ∧ X.1 1 2 = Y.1 0 ∧ 1 ≤ Y.1 24 ∧ 1 ≤ Y.1 0 ∧ Y.1 0 ≤ 4) ∧ ∀ g l : Int, 0 ≤ g → g < Y.1 24 → 0 ≤ l → l < Y.1 0 → ((F_a_step X g l).1 < 0 ∧ (F_m_next Y g l).1 = -9) ∨ (0 ≤ (F_a_step X g l).1 ∧ (F_a_step X g l).1 = (F_m_next Y g l).1 ∧ (F_m_next Y g l).1 < Y.1 24)
def tW (Y : MS) (r : Nat) (g : Int) (c : Nat) : Int := wsm Y (fun q => 1 + tE Y r q) g c
theorem tW_m {Y : MS} {r : Nat} (g : Int) {c d : Nat} (h : c ≤ d) : tW Y r g c ≤ tW Y r g d := wsm_m (fun q => by have := tE_nn (x := Y) r q; show 0 ≤ 1 + tE Y r q; omega) g h
theorem tW_at {Y : MS} {r : Nat} {g l : Int} (l0 : 0 ≤ l) (h : ¬ (F_m_next Y g l).1 = -9) : tW Y r g (l.toNat + 1) = tW Y r g l.toNat + (1 + tE Y r (F_m_next Y g l).1) := wsm_at (f := fun q => 1 + tE Y r q) l0 h
/-- STATES st and LETTERS ls: a way of k LETTERS from STATE 0 -/
def skP (Y : MS) (st ls : Nat → Int) (k : Nat) : Prop := st 0 = 0 ∧ (∀ j, j ≤ k → 0 ≤ st j ∧ st j < Y.1 24) ∧ ∀ j, j < k → (0 ≤ ls j ∧ ls j < Y.1 0) ∧ ¬ (F_m_next Y (st j) (ls j)).1 = -9 ∧ st (j + 1) = (F_m_next Y (st j) (ls j)).1
def xsm (Y : MS) (len : Nat) (st ls : Nat → Int) : Nat → Int
  | 0 => 0
  | j + 1 => xsm Y len st ls j + wsm Y (wN Y (len - j - 1)) (st j) (ls j).toNat
def rms (Y : MS) (len : Nat) (st ls : Nat → Int) : Nat → Int
  | 0 => 0
  | j + 1 => rms Y len st ls j + (1 + tW Y (len - j - 1) (st j) (Y.1 0).toNat - tW Y (len - j - 1) (st j) ((ls j).toNat + 1))
theorem xsm_s (Y : MS) (len : Nat) (st ls : Nat → Int) (j : Nat) : xsm Y len st ls (j + 1) = xsm Y len st ls j + wsm Y (wN Y (len - j - 1)) (st j) (ls j).toNat := rfl
theorem rms_s (Y : MS) (len : Nat) (st ls : Nat → Int) (j : Nat) : rms Y len st ls (j + 1) = rms Y len st ls j + (1 + tW Y (len - j - 1) (st j) (Y.1 0).toNat - tW Y (len - j - 1) (st j) ((ls j).toNat + 1)) := rfl
theorem xsm_e {Y : MS} {len : Nat} {st ls st2 ls2 : Nat → Int} : ∀ k : Nat, (∀ j, j < k → st2 j = st j ∧ ls2 j = ls j) → xsm Y len st2 ls2 k = xsm Y len st ls k := by
  intro k
  induction k with
  | zero => intro _; rfl
  | succ k ih =>
    intro h
    unfold xsm
    rw [ih (fun j hj => h j (by omega)), (h k (by omega)).1, (h k (by omega)).2]
theorem rms_e {Y : MS} {len : Nat} {st ls st2 ls2 : Nat → Int} : ∀ k : Nat, (∀ j, j < k → st2 j = st j ∧ ls2 j = ls j) → rms Y len st2 ls2 k = rms Y len st ls k := by
  intro k
  induction k with
  | zero => intro _; rfl
  | succ k ih =>
    intro h
    unfold rms
    rw [ih (fun j hj => h j (by omega)), (h k (by omega)).1, (h k (by omega)).2]
theorem rms_nn {Y : MS} {len : Nat} {st ls : Nat → Int} : ∀ k : Nat, (∀ j, j < k → 0 ≤ ls j ∧ ls j < Y.1 0) → 0 ≤ rms Y len st ls k := by
  intro k
  induction k with
  | zero => intro _; exact Int.le_refl 0
  | succ k ih =>
    intro h
    have a := ih (fun j hj => h j (by omega))
    have b := h k (by omega)
    have m := tW_m (Y := Y) (r := len - k - 1) (st k) (show (ls k).toNat + 1 ≤ (Y.1 0).toNat by omega)
    unfold rms
    omega
/-- what is left to do is no more than the whole -/
theorem rms_t {Y : MS} {len : Nat} {st ls : Nat → Int} : ∀ k : Nat, k < len → skP Y st ls k → rms Y len st ls k + (1 + tW Y (len - k - 1) (st k) (Y.1 0).toNat) ≤ tE Y len 0 := by
  intro k
  induction k with
  | zero =>
    intro hk h
    obtain ⟨r, rfl⟩ : ∃ r, len = r + 1 := ⟨len - 1, by omega⟩
    rw [h.1]
    show (0 : Int) + _ ≤ 1 + wsm Y (fun q => 1 + tE Y r q) 0 (Y.1 0).toNat
    unfold tW
    rw [show r + 1 - 0 - 1 = r by omega]
    omega
  | succ k ih =>
    intro hk h
    have a := ih (by omega) ⟨h.1, fun j hj => h.2.1 j (by omega), fun j hj => h.2.2 j (by omega)⟩
    obtain ⟨⟨l0, l1⟩, hn, e⟩ := h.2.2 k (by omega)
    have t := tW_at (r := len - k - 1) l0 hn
    have z : 0 ≤ tW Y (len - k - 1) (st k) (ls k).toNat := tW_m (r := len - k - 1) (st k) (Nat.zero_le _)
    obtain ⟨r, hr⟩ : ∃ r, len - k - 1 = r + 1 := ⟨len - k - 2, by omega⟩
    have te : tE Y (len - k - 1) (st (k + 1)) = 1 + tW Y (len - (k + 1) - 1) (st (k + 1)) (Y.1 0).toNat := by
      rw [hr, show len - (k + 1) - 1 = r by omega]; rfl
    rw [← e] at t
    unfold rms
    omega
/-- what seek answers: a way whose number among those of its length is C, or all are passed -/
def skR (X : KS) (Y : MS) (len : Nat) (C : Int) (q : Int × KS) : Prop := ksame [] [83, 81] X q.2 ∧ (∀ j, len ≤ j → -1 ≤ q.2.2 83 j ∧ q.2.2 83 j ≤ 3) ∧ q.2.2 81 0 = 0 ∧ ((q.1 = 1 ∧ skP Y (q.2.2 81) (q.2.2 83) len ∧ xsm Y len (q.2.2 81) (q.2.2 83) len = C) ∨ (q.1 = 0 ∧ C = wN Y len 0))
theorem seek_s {X : KS} {Y : MS} (hs : stE X Y) {len : Nat} (el : X.1 82 1 = (len : Int)) (l30 : len ≤ 30) {C v : Int} : ∀ n : Nat,
    (∀ (y : KS) (k : Nat) (d : Int), ksame [] [83, 81] X y → k < len → skP Y (y.2 81) (y.2 83) k → -1 ≤ y.2 83 k → y.2 83 k < Y.1 0 → (∀ j, len ≤ j → -1 ≤ y.2 83 j ∧ y.2 83 j ≤ 3) → xsm Y len (y.2 81) (y.2 83) k + wsm Y (wN Y (len - k - 1)) (y.2 81 k) (y.2 83 k + 1).toNat = C → 0 ≤ d → rms Y len (y.2 81) (y.2 83) k + (1 + tW Y (len - k - 1) (y.2 81 k) (Y.1 0).toNat - tW Y (len - k - 1) (y.2 81 k) (y.2 83 k + 1).toNat) + d ≤ 1000000 → 7 * (rms Y len (y.2 81) (y.2 83) k + (1 + tW Y (len - k - 1) (y.2 81 k) (Y.1 0).toNat - tW Y (len - k - 1) (y.2 81 k) (y.2 83 k + 1).toNat)) + 8 ≤ n → skR X Y len C (F_v_seek_s n 0 y v (k : Int) d 0)) ∧
    (∀ (y : KS) (k : Nat) (d z : Int), ksame [] [83, 81] X y → k < len → skP Y (y.2 81) (y.2 83) k → (∀ j, len ≤ j → -1 ≤ y.2 83 j ∧ y.2 83 j ≤ 3) → 0 ≤ z → z ≤ Y.1 0 → xsm Y len (y.2 81) (y.2 83) k + wsm Y (wN Y (len - k - 1)) (y.2 81 k) z.toNat = C → 0 ≤ d → rms Y len (y.2 81) (y.2 83) k + (1 + tW Y (len - k - 1) (y.2 81 k) (Y.1 0).toNat - tW Y (len - k - 1) (y.2 81 k) z.toNat) + d ≤ 1000000 → 7 * (rms Y len (y.2 81) (y.2 83) k + (1 + tW Y (len - k - 1) (y.2 81 k) (Y.1 0).toNat - tW Y (len - k - 1) (y.2 81 k) z.toNat)) + 2 + (Y.1 0 - z) ≤ n → skR X Y len C (F_v_seek_s n 1 y v (k : Int) d z)) := by
  obtain ⟨⟨e24, e0, s1, n1, n4⟩, hst⟩ := hs
  intro n
  induction n with
  | zero =>
    refine ⟨fun y k d fr hk hp a0 a1 _ _ _ _ fu => ?_, fun y k d z fr hk hp _ z0 z1 _ _ _ fu => ?_⟩
    · exfalso
      have r := rms_nn (Y := Y) (len := len) (st := y.2 81) (ls := y.2 83) k (fun j hj => (hp.2.2 j hj).1)
      have m := tW_m (Y := Y) (r := len - k - 1) (y.2 81 k) (show (y.2 83 k + 1).toNat ≤ (Y.1 0).toNat by omega)
      omega
    · exfalso
      have r := rms_nn (Y := Y) (len := len) (st := y.2 81) (ls := y.2 83) k (fun j hj => (hp.2.2 j hj).1)
      have m := tW_m (Y := Y) (r := len - k - 1) (y.2 81 k) (show z.toNat ≤ (Y.1 0).toNat by omega)
      omega
  | succ n ih =>
    refine ⟨fun y k d fr hk hp a0 a1 hj xc d0 po fu => ?_, fun y k d z fr hk hp hj z0 z1 xc d0 po fu => ?_⟩
    · have r := rms_nn (Y := Y) (len := len) (st := y.2 81) (ls := y.2 83) k (fun j hj => (hp.2.2 j hj).1)
      have m := tW_m (Y := Y) (r := len - k - 1) (y.2 81 k) (show (y.2 83 k + 1).toNat ≤ (Y.1 0).toNat by omega)
      rw [F_v_seek_e0, if_neg (by omega), if_neg (by omega), Int.toNat_natCast]
      exact ih.2 y k d (y.2 83 k + 1) fr hk hp hj (by omega) (by omega) xc d0 po (by omega)
    · have r := rms_nn (Y := Y) (len := len) (st := y.2 81) (ls := y.2 83) k (fun j hj => (hp.2.2 j hj).1)
      have m := tW_m (Y := Y) (r := len - k - 1) (y.2 81 k) (show z.toNat ≤ (Y.1 0).toNat by omega)
      have lc : (F_a_letterCount y).1 = Y.1 0 := by show y.1 1 2 = _; rw [fr.1 1 2 List.not_mem_nil]; exact e0
      have sg : ∀ y2 : KS, ksame [] [83, 81] X y2 → ∀ s c : Int, (F_a_step y2 s c).1 = (F_a_step X s c).1 := fun y2 f2 s c => F_a_step_cg (f2.1 1 2 List.not_mem_nil) (f2.1 64 7 List.not_mem_nil) (f2.2 66 (by decide)) s c
      have f83 : ksame [] [83, 81] X (kA y 83 k z) := km_a (by decide) fr
      have u82 : y.1 82 1 = (len : Int) := by rw [fr.1 82 1 List.not_mem_nil]; exact el
      rw [F_v_seek_e1, lc, Int.toNat_natCast, sg y fr, sg _ f83, u82]
      by_cases c1 : Y.1 0 ≤ z
      · rw [if_pos c1, if_neg (by omega)]
        have ez : z.toNat = (Y.1 0).toNat := by omega
        rw [ez] at xc po fu
        cases k with
        | zero =>
          obtain ⟨n', rfl⟩ : ∃ n', n = n' + 1 := ⟨n - 1, by omega⟩
          have res : F_v_seek_s (n' + 1) 0 y v (((0 : Nat) : Int) + (-1 : Int)) (d + (1 : Int)) 0 = ((0 : Int), y) := by
            rw [F_v_seek_e0]
            by_cases c : (1000000 : Int) ≤ d + 1
            · rw [if_pos c]
            · rw [if_neg c, if_pos (by omega)]
          rw [res]
          refine ⟨fr, hj, hp.1, Or.inr ⟨rfl, ?_⟩⟩
          obtain ⟨q, rfl⟩ : ∃ q, len = q + 1 := ⟨len - 1, by omega⟩
          rw [← xc, hp.1]
          show (0 : Int) + wsm Y (wN Y (q + 1 - 0 - 1)) 0 (Y.1 0).toNat = wsm Y (wN Y q) 0 (Y.1 0).toNat
          rw [show q + 1 - 0 - 1 = q by omega, Int.zero_add]
        | succ k =>
          rw [show (((k + 1 : Nat) : Int) + (-1 : Int)) = (k : Int) by omega]
          obtain ⟨⟨b0, b1⟩, bn, be⟩ := hp.2.2 k (by omega)
          have wa := wsm_at (x := Y) (f := wN Y (len - k - 1)) b0 bn
          obtain ⟨q, hq⟩ : ∃ q, len - k - 1 = q + 1 := ⟨len - k - 2, by omega⟩
          have eN : wN Y (len - k - 1) (y.2 81 (k + 1)) = wsm Y (wN Y (len - (k + 1) - 1)) (y.2 81 (k + 1)) (Y.1 0).toNat := by
            rw [hq, show len - (k + 1) - 1 = q by omega]; rfl
          rw [← be] at wa
          have ea : (y.2 83 k + 1).toNat = (y.2 83 k).toNat + 1 := by omega
          have x1 : xsm Y len (y.2 81) (y.2 83) (k + 1) = xsm Y len (y.2 81) (y.2 83) k + wsm Y (wN Y (len - k - 1)) (y.2 81 k) (y.2 83 k).toNat := rfl
          have r1 : rms Y len (y.2 81) (y.2 83) (k + 1) = rms Y len (y.2 81) (y.2 83) k + (1 + tW Y (len - k - 1) (y.2 81 k) (Y.1 0).toNat - tW Y (len - k - 1) (y.2 81 k) ((y.2 83 k).toNat + 1)) := rfl
          exact ih.1 y k (d + 1) fr (by omega) ⟨hp.1, fun j h => hp.2.1 j (by omega), fun j h => hp.2.2 j (by omega)⟩ (by omega) b1 hj (by rw [ea]; omega) (by omega) (by rw [ea]; omega) (by rw [ea]; omega)
      · rw [if_neg c1]
        rcases hst (y.2 81 k) z (hp.2.1 k (Nat.le_refl _)).1 (hp.2.1 k (Nat.le_refl _)).2 z0 (by omega) with ⟨h1, h2⟩ | ⟨h1, h2, h3⟩
        · rw [if_neg (by omega)]
          have ez : (z + 1).toNat = z.toNat + 1 := by omega
          have w9 : wsm Y (wN Y (len - k - 1)) (y.2 81 k) (z.toNat + 1) = wsm Y (wN Y (len - k - 1)) (y.2 81 k) z.toNat := by
            rw [wsm_s, show ((z.toNat : Nat) : Int) = z by omega, if_pos h2, Int.add_zero]
          have t9 : tW Y (len - k - 1) (y.2 81 k) (z.toNat + 1) = tW Y (len - k - 1) (y.2 81 k) z.toNat := by
            unfold tW
            rw [wsm_s, show ((z.toNat : Nat) : Int) = z by omega, if_pos h2, Int.add_zero]
          exact ih.2 y k d (z + 1) fr hk hp hj (by omega) (by omega) (by rw [ez, w9]; exact xc) d0 (by rw [ez, t9]; exact po) (by rw [ez, t9]; omega)
        · rw [if_pos h1, if_pos (by omega), h2]
          have hn : ¬ (F_m_next Y (y.2 81 k) z).1 = -9 := by omega
          have tz := tW_at (Y := Y) (r := len - k - 1) z0 hn
          have ek1 : ((k : Int) + (1 : Int)).toNat = k + 1 := by omega
          rw [ek1]
          have g81 : (kA (kA y 83 k z) 81 (k + 1) (F_m_next Y (y.2 81 k) z).1).2 81 = iU (y.2 81) (k + 1) (F_m_next Y (y.2 81 k) z).1 := by rw [kA_s, kA_c (by decide)]
          have g83 : (kA (kA y 83 k z) 81 (k + 1) (F_m_next Y (y.2 81 k) z).1).2 83 = iU (y.2 83) k z := by rw [kA_c (by decide), kA_s]
          have ag : ∀ j, j < k → iU (y.2 81) (k + 1) (F_m_next Y (y.2 81 k) z).1 j = y.2 81 j ∧ iU (y.2 83) k z j = y.2 83 j := fun j h => ⟨iU_n (by omega), iU_n (by omega)⟩
          have k81 : iU (y.2 81) (k + 1) (F_m_next Y (y.2 81 k) z).1 k = y.2 81 k := iU_n (by omega)
          have fr2 : ksame [] [83, 81] X (kA (kA y 83 k z) 81 (k + 1) (F_m_next Y (y.2 81 k) z).1) := km_a (by decide) f83
          by_cases c2 : (k : Int) + 1 < (len : Int)
          · rw [if_pos c2]
            have q81 : (kA (kA (kA y 83 k z) 81 (k + 1) (F_m_next Y (y.2 81 k) z).1) 83 (k + 1) ((-1 : Int))).2 81 = iU (y.2 81) (k + 1) (F_m_next Y (y.2 81 k) z).1 := by rw [kA_c (by decide), g81]
            have q83 : (kA (kA (kA y 83 k z) 81 (k + 1) (F_m_next Y (y.2 81 k) z).1) 83 (k + 1) ((-1 : Int))).2 83 = iU (iU (y.2 83) k z) (k + 1) ((-1 : Int)) := by rw [kA_s, g83]
            have ag2 : ∀ j, j < k → iU (y.2 81) (k + 1) (F_m_next Y (y.2 81 k) z).1 j = y.2 81 j ∧ iU (iU (y.2 83) k z) (k + 1) ((-1 : Int)) j = y.2 83 j := fun j h => ⟨iU_n (by omega), by rw [iU_n (by omega), iU_n (by omega)]⟩
            have lk : iU (iU (y.2 83) k z) (k + 1) ((-1 : Int)) k = z := by rw [iU_n (by omega), iU_s]
            have sk1 : iU (y.2 81) (k + 1) (F_m_next Y (y.2 81 k) z).1 (k + 1) = (F_m_next Y (y.2 81 k) z).1 := iU_s
            have lk1 : iU (iU (y.2 83) k z) (k + 1) ((-1 : Int)) (k + 1) = -1 := iU_s
            have H := ih.1 (kA (kA (kA y 83 k z) 81 (k + 1) (F_m_next Y (y.2 81 k) z).1) 83 (k + 1) ((-1 : Int))) (k + 1) (d + 1) (km_a (by decide) fr2) (by omega)
            rw [q81, q83, sk1, lk1] at H
            have x1 : xsm Y len (iU (y.2 81) (k + 1) (F_m_next Y (y.2 81 k) z).1) (iU (iU (y.2 83) k z) (k + 1) ((-1 : Int))) (k + 1) = xsm Y len (y.2 81) (y.2 83) k + wsm Y (wN Y (len - k - 1)) (y.2 81 k) z.toNat := by
              rw [xsm_s, xsm_e k ag2, k81, lk]
            have r1 : rms Y len (iU (y.2 81) (k + 1) (F_m_next Y (y.2 81 k) z).1) (iU (iU (y.2 83) k z) (k + 1) ((-1 : Int))) (k + 1) = rms Y len (y.2 81) (y.2 83) k + (1 + tW Y (len - k - 1) (y.2 81 k) (Y.1 0).toNat - tW Y (len - k - 1) (y.2 81 k) (z.toNat + 1)) := by
              rw [rms_s, rms_e k ag2, k81, lk]
            obtain ⟨q, hq⟩ : ∃ q, len - k - 1 = q + 1 := ⟨len - k - 2, by omega⟩
            have te : tE Y (len - k - 1) (F_m_next Y (y.2 81 k) z).1 = 1 + tW Y (len - (k + 1) - 1) (F_m_next Y (y.2 81 k) z).1 (Y.1 0).toNat := by
              rw [hq, show len - (k + 1) - 1 = q by omega]; rfl
            have z9 : tW Y (len - (k + 1) - 1) (F_m_next Y (y.2 81 k) z).1 ((-1 : Int) + 1).toNat = 0 := rfl
            have w9 : wsm Y (wN Y (len - (k + 1) - 1)) (F_m_next Y (y.2 81 k) z).1 ((-1 : Int) + 1).toNat = 0 := rfl
            rw [x1, r1, z9, w9] at H
            refine H ⟨by rw [iU_n (by omega)]; exact hp.1, fun j h => ?_, fun j h => ?_⟩ (by decide) (by omega) (fun j h => by rw [iU_n (by omega), iU_n (by omega)]; exact hj j h) (by omega) (by omega) (by omega) (by omega)
            · by_cases e : j = k + 1
              · rw [e, iU_s]; omega
              · rw [iU_n e]; exact hp.2.1 j (by omega)
            · by_cases e : j = k
              · rw [e, k81, lk, sk1]; exact ⟨⟨z0, by omega⟩, hn, rfl⟩
              · rw [(ag2 j (by omega)).1, (ag2 j (by omega)).2, iU_n (by omega)]; exact hp.2.2 j (by omega)
          · rw [if_neg c2]
            have el2 : len = k + 1 := by omega
            refine ⟨fr2, fun j h => by rw [g83, iU_n (by omega)]; exact hj j h, by rw [g81, iU_n (by omega)]; exact hp.1, Or.inl ⟨rfl, ⟨by rw [g81, iU_n (by omega)]; exact hp.1, fun j h => ?_, fun j h => ?_⟩, ?_⟩⟩
            · rw [g81]
              by_cases e : j = k + 1
              · rw [e, iU_s]; omega
              · rw [iU_n e]; exact hp.2.1 j (by omega)
            · rw [g81, g83]
              by_cases e : j = k
              · rw [e, k81, iU_s, iU_s]; exact ⟨⟨z0, by omega⟩, hn, rfl⟩
              · rw [(ag j (by omega)).1, (ag j (by omega)).2, iU_n (by omega)]; exact hp.2.2 j (by omega)
            · rw [g81, g83, el2]
              rw [xsm_s, xsm_e k ag, k81, iU_s, ← el2]
              exact xc
theorem seek_x {X : KS} {Y : MS} (hs : stE X Y) {len : Nat} (el : X.1 82 1 = (len : Int)) (l1 : 1 ≤ len) (l30 : len ≤ 30) (hB : rk1 Y len ≤ 2000) {k : Nat} (hk : k < len) (hp : skP Y (X.2 81) (X.2 83) k) (a0 : -1 ≤ X.2 83 k) (a1 : X.2 83 k < Y.1 0) (hj : ∀ j, len ≤ j → -1 ≤ X.2 83 j ∧ X.2 83 j ≤ 3) : skR X Y len (xsm Y len (X.2 81) (X.2 83) k + wsm Y (wN Y (len - k - 1)) (X.2 81 k) (X.2 83 k + 1).toNat) (F_v_seek X (k : Int)) := by
  have n4 := hs.1.2.2.2.2
  have t := rms_t k hk hp
  have b := tE_b n4 l1
  have z : 0 ≤ tW Y (len - k - 1) (X.2 81 k) (X.2 83 k + 1).toNat := tW_m (r := len - k - 1) (X.2 81 k) (Nat.zero_le _)
  exact (seek_s hs el l30 (v := (k : Int)) 10000100).1 X k 0 (km_rf _ _ _) hk hp a0 a1 hj rfl (Int.le_refl _) (by omega) (by omega)
