-- deps: B6.a
/-! what the contracts ask, out of the relation -/
theorem R_l2 {X : KS} {Y : MS} (h : Rel X Y) : 1 ≤ X.1 1 2 ∧ X.1 1 2 ≤ 4 := h.1.1.1.1.1
theorem R_ru {X : KS} {Y : MS} (h : Rel X Y) : ruR X := h.1.1.2.2.1
theorem R_ma {X : KS} {Y : MS} (h : Rel X Y) : maR X := h.1.1.2.2.2
theorem R_s {X : KS} {Y : MS} (h : Rel X Y) : 0 ≤ X.1 0 15 ∧ X.1 0 15 ≤ 20 := h.1.2.2.2.2.1.1
theorem R_p {X : KS} {Y : MS} (h : Rel X Y) : X.1 0 16 = 0 ∨ X.1 0 16 = 1 := h.1.2.2.2.2.1.2.2.1
theorem R_u4 {X : KS} {Y : MS} (h : Rel X Y) : 0 ≤ X.1 4 1 ∧ X.1 4 1 ≤ 60 := h.1.2.2.2.2.2.1.2.1
theorem R_h {X : KS} {Y : MS} (h : Rel X Y) : 0 ≤ X.1 0 14 ∧ X.1 0 14 ≤ 8 := h.1.2.2.1.1
theorem R_d {X : KS} {Y : MS} (h : Rel X Y) : KD X := h.1.2.2.2.1
theorem R_j {X : KS} {Y : MS} (h : Rel X Y) : KJ X := h.1.2.2.2.2.2.2.1
theorem R_rc {X : KS} {Y : MS} (h : Rel X Y) : iRL (X.2 69 31) := by
  have a := (R_j h).2.2.2.1 31
  unfold iRL
  omega
theorem R_mc {X : KS} {Y : MS} (h : Rel X Y) (q : (F_t_isProved X).1 = 1) : mcE X Y := by
  rcases mach_v h.1.2.2.2.2.1 h.2.2.2.2 with ⟨a, b⟩ | ⟨a, b, c⟩
  · omega
  · exact c
theorem R_mc0 {X : KS} {Y : MS} (h : Rel X Y) (q : ¬ (F_t_isProved X).1 = 0) : mcE X Y := by
  rcases mach_v h.1.2.2.2.2.1 h.2.2.2.2 with ⟨a, b⟩ | ⟨a, b, c⟩
  · omega
  · exact c
theorem R_h0 {X : KS} {Y : MS} (h : Rel X Y) (q : (F_t_isProved X).1 = 1) : 1 ≤ X.1 64 7 := by
  have a := (R_mc h q).2.2.1.1
  omega
theorem M_lt {X : KS} {Y : MS} (h : Rel X Y) : 1 ≤ Y.1 0 ∧ Y.1 0 ≤ 4 := h.2.1.1.1
theorem M_zs {X : KS} {Y : MS} (h : Rel X Y) : ∀ k : Nat, k < 9 → 0 ≤ Y.2 1 k ∧ Y.2 1 k ≤ 60 := fun k hk => (h.2.1.2.1 k hk).1
theorem M_sn {X : KS} {Y : MS} (h : Rel X Y) : iR (Y.1 6) := h.2.1.2.2.2.2.1
theorem M_ic {X : KS} {Y : MS} (h : Rel X Y) : Y.1 27 = 0 ∨ Y.1 27 = 1 := h.2.1.2.2.2.2.2
theorem M_j {X : KS} {Y : MS} (h : Rel X Y) : jOK Y := h.2.1.1.2.2.2.2.2.2.1
theorem M_rw {X : KS} {Y : MS} (h : Rel X Y) : rwR Y := h.2.1.1.2.2.2.2.2.2.2.2.2.1
theorem M_wy {X : KS} {Y : MS} (h : Rel X Y) : wyR Y := h.2.1.1.2.2.2.2.2.2.2.2.2.2
theorem M_law {X : KS} {Y : MS} (h : Rel X Y) : 0 ≤ Y.1 3 ∧ Y.1 3 ≤ 8 := by
  have a := h.2.2.1.2.1
  have b := R_h h
  omega
theorem M_aa {X : KS} {Y : MS} (h : Rel X Y) (q : ¬ Y.1 6 = -9) : 0 ≤ Y.1 7 ∧ Y.1 7 ≤ 10001 := by
  obtain ⟨m, -, -, -, e7, l7, -⟩ := (Rel_mz h).2 q
  have g := gS_nn (M_lt h).1 (m + 1)
  omega
theorem M_pl {X : KS} {Y : MS} (h : Rel X Y) (q : ¬ Y.1 6 = -9) : mzH Y := by
  rcases seen_v h.2.2.2.2 with ⟨_, _, c⟩ | ⟨_, _, m, hm⟩
  · exact absurd c q
  · exact hm.2.1.2.1
theorem M_rr {X : KS} {Y : MS} (h : Rel X Y) (q : ¬ Y.1 6 = -9) : 0 ≤ Y.1 12 ∧ Y.1 12 ≤ 40 := (M_pl h q).1.1.1
theorem M_zz {X : KS} {Y : MS} (h : Rel X Y) (q : ¬ Y.1 6 = -9) : ∀ k : Nat, (k : Int) < Y.1 12 → 0 ≤ Y.2 13 k ∧ Y.2 13 k ≤ 24 ∧ 0 ≤ Y.2 15 k ∧ Y.2 15 k ≤ 24 := fun k hk => by
  have a := ((M_pl h q).1.1.2.2.1 k hk).1
  have b := ((M_pl h q).2.1 k hk).1
  omega
theorem M_mc {X : KS} {Y : MS} (h : Rel X Y) (q : ¬ (F_m_isMachine Y).1 = 0) : mcE X Y := by
  rcases mach_v h.1.2.2.2.2.1 h.2.2.2.2 with ⟨a, b⟩ | ⟨a, b, c⟩
  · exact absurd b q
  · exact c
theorem M_mz {X : KS} {Y : MS} (h : Rel X Y) (q : ¬ (F_m_isMachine Y).1 = 0) : mzH Y := (M_mc h q).2.2.2.2.2.2.1
theorem M_cy {X : KS} {Y : MS} (h : Rel X Y) (q : ¬ (F_m_isMachine Y).1 = 0) : cyI Y Y 31 := (M_mc h q).2.2.2.2.2.1
theorem M_au {X : KS} {Y : MS} (h : Rel X Y) (q : ¬ (F_m_isMachine Y).1 = 0) : auOK Y := plX_auOK (M_mz h q).1
theorem M_nn {X : KS} {Y : MS} (h : Rel X Y) (q : ¬ (F_m_isMachine Y).1 = 0) : 0 ≤ Y.1 24 ∧ Y.1 24 ≤ 850 := ⟨(M_au h q).1.1, (M_au h q).1.2.1⟩
theorem M_st1 {X : KS} {Y : MS} (h : Rel X Y) (q : ¬ (F_m_isMachine Y).1 = 0) : 1 ≤ Y.1 24 := (M_mc h q).2.2.1.1.2.2.1
theorem M_ok {X : KS} {Y : MS} (h : Rel X Y) (q : ¬ (F_m_isMachine Y).1 = 0) : wyOK Y := cy_wyOK (M_au h q) ⟨fun _ _ => rfl, fun _ _ => rfl⟩ (M_cy h q)
/-! before see -/
theorem nrm_G (X : KS) : kG X (nrm X) := by
  refine ⟨?_, ?_⟩
  · show (nr1 X).1 70 5 = _
    unfold nr1
    split
    · rw [kS_c (by decide)]
    · rfl
  · show (nr1 X).1 101 9 = _
    unfold nr1
    split
    · rw [kS_k (by decide)]
    · rfl
theorem tw_nrm {D : va_G} {cl : List vw_C} {A : Nat → Prop} {cI cJ cZ cR : ClassId} {ad : Nat → Nat} {X : KS} {wb : va_W} {H : Heap} (J : tw D cl A (kWd cI cJ cZ cR (kWl X) ad (kM X) X) wb H) : tw D cl A (kWd cI cJ cZ cR (kWl (nrm X)) ad (kM (nrm X)) (nrm X)) wb H := by
  rw [nrm_Wl, kG_M (nrm_G X), nrm_W]
  exact J
/-! what the law counts out of its script -/
def sb (a : Int) : Int := if a = 0 then 0 else 1
theorem sb_1 (a : Int) : sb a = 0 ∨ sb a = 1 := by
  unfold sb
  split
  · exact Or.inl rfl
  · exact Or.inr rfl
def sn2 (xs : Nat → Int32) (j k : Nat) : Int := iO (iSl (sc xs j) 32) (iN (sc xs k) 4294967295)
theorem sn2_R (xs : Nat → Int32) (j k : Nat) : iRL (sn2 xs j k) := ⟨Int64.le_toInt _, Int64.toInt_lt _⟩
section LW
variable {p : Program} {l : Launch} {e : Env} {s : State} {m : MethodId} {below : List Frame} {meth : Method} {c : Code} {dC : Nat → ClassId} {dI : Nat → Nat → Nat} {cI cJ cZ cR eI eJ eZ : ClassId} {b L : Nat} {xs : Nat → Int32} {H : Heap} {locs : List Loc} {ls : Array Slot} {Q : State → Prop} {rest : List Value} {pc : Nat} {kc kn : Nat}
theorem lc_b (C0 : lwC p s m c dC dI cI cJ cZ cR eI eJ eZ b L xs) {a : Int} (ra : iR a) (d0 : decode cL_law pc = .ok (.ifCond .eq 7, 3)) (d1 : decode cL_law (pc + 3) = .ok (.iconst 1, 1)) (d2 : decode cL_law (pc + 4) = .ok (.goto 4, 3)) (d3 : decode cL_law (pc + 7) = .ok (.iconst 0, 1)) (kk : W p l e room_1 s m #[Value.ref b] below meth c H locs kc kn Q (F0 m (pc + 8) ls (.int (iI (sb a)) :: rest))) : W p l e room_1 s m #[Value.ref b] below meth c H locs kc kn Q (F0 m pc ls (.int (iI a) :: rest)) := by
  have hx := C0.1.1
  have hb := C0.1.2.1
  refine wi_if_eq (tgt := pc + 7) hx hb ra d0 (by omega) (fun h9 => ?_) (fun h9 => ?_)
  · exact lv_iconst (v := iI (sb a)) hx hb d3 (by unfold sb; rw [if_pos h9]; rfl) kk
  · refine lv_iconst (v := iI (sb a)) hx hb d1 (by unfold sb; rw [if_neg h9]; rfl) ?_
    exact lv_goto (tgt := pc + 8) hx hb d2 (by omega) kk
end LW
/-- how the law goes on behind a call -/
def lwK (p : Program) (l : Launch) (e : Env) (s : State) (m : MethodId) (below : List Frame) (meth : Method) (c : Code) (dC : Nat → ClassId) (dI : Nat → Nat → Nat) (cI cJ cZ cR eI eJ eZ : ClassId) (b h : Nat) (am : Nat → Nat) (ls : Array Slot) (Q : State → Prop) (q : Nat) : Prop := ∀ (X1 : KS) (Y1 : MS) (ad1 : Nat → Nat) (H1 : Heap) (locs1 : List Loc), Rel X1 Y1 → ad1 0 = q → tw (dC, dI) vwCl (lwFr s) (kWd cI cJ cZ cR (kWl X1) ad1 (kM X1) X1) (mW h am eI eJ eZ Y1) H1 → va_S (lwFr s) s.heap H1 locs1 → W p l e room_1 s m #[Value.ref b] below meth c H1 locs1 (lwc X1) (lws X1) Q (F0 m 849 ls [])
