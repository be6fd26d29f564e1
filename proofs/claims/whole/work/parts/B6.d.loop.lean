-- deps: B6.c
/-! the law's loop, and its start -/
theorem iNI_R (a b : Int) : iR (iNI a b) := ⟨Int32.le_toInt _, Int32.toInt_lt _⟩
set_option maxHeartbeats 4000000 in
set_option maxRecDepth 100000 in
theorem lw_loop {p : Program} {l : Launch} {e : Env} {s : State} {m : MethodId} {below : List Frame} {meth : Method} {c : Code} {dC : Nat → ClassId} {dI : Nat → Nat → Nat} {cI cJ cZ cR eI eJ eZ : ClassId} {b L : Nat} {xs : Nat → Int32} {h : Nat} {am : Nat → Nat} (C0 : lwC p s m c dC dI cI cJ cZ cR eI eJ eZ b L xs) (hr : meth.sig.returnType = ret) (hlocks : meth.locks = false) :
    ∀ (n i : Nat), i ≤ L → L + 1 ≤ i + n → ∀ (X : KS) (Y : MS) (ad : Nat → Nat) (H : Heap) (locs : List Loc) (ls : Array Slot), Rel X Y → tw (dC, dI) vwCl (lwFr s) (kWd cI cJ cZ cR (kWl X) ad (kM X) X) (mW h am eI eJ eZ Y) H → va_S (lwFr s) s.heap H locs → lv_has ls 4 [(0, .ref b), (1, .ref (ad 0)), (2, .ref h), (3, .int (iI (i : Int)))] → W p l e room_1 s m #[Value.ref b] below meth c H locs (lwc X) (lws X) (lw_Z below #[Value.ref b] s) (F0 m 18 ls []) := by
  have hx := C0.1.1
  have hb := C0.1.2.1
  have hL := C0.2.1.2.2
  have hX := C0.2.1.1
  have hbl := C0.2.1.2.1
  have hbA : ¬ lwFr s b := Nat.not_le.mpr hbl
  intro n
  induction n with
  | zero =>
    intro i h1 h2
    exact absurd h2 (by omega)
  | succ n ih =>
    intro i hi hin X Y ad H locs ls R J hS hl
    refine lv_iload_n hx hb dL_law_18 rfl (lv_at hl 3 rfl) ?_
    refine lv_aload_n hx hb dL_law_19 rfl (lv_at hl 0 rfl) ?_
    refine va_slen hx hb hX hbl hbA hS dL_law_20 ?_
    rw [show Int32.ofNat L = iI (L : Int) from iI_nat _]
    refine lv_iconst (v := iI 4) hx hb dL_law_21 (by decide) ?_
    refine wi_isub hx hb dL_law_22 ?_
    refine wi_icmp_gt (tgt := 855) hx hb ⟨by omega, by omega⟩ ⟨by omega, by omega⟩ dL_law_23 (by decide) (fun c_23 => ?_) (fun c_23 => ?_)
    · refine lv_iconst (v := 1) hx hb dL_law_855 (by decide) ?_
      refine va_forget (fun q hq => hS.2.2 q hq) ?_
      refine W.widen (k := 600000) (n := 7302250) (Nat.le_trans (lwc_le _) (by decide)) (Nat.le_trans (lws_le _) (by decide)) ?_
      exact lw_ret hx hb hr hlocks dL_law_856
    · have hi4 : i + 4 ≤ L := by omega
      have K : lwK p l e s m below meth c dC dI cI cJ cZ cR eI eJ eZ b h am ls (lw_Z below #[Value.ref b] s) (ad 0) := by
        intro X1 Y1 ad1 H1 locs1 R1 h1 J1 S1
        refine lv_iinc (v := iI ((i : Int) + 4)) (lv' := [(3, .int (iI ((i : Int) + 4))), (0, .ref b), (1, .ref (ad 0)), (2, .ref h)]) hx hb dL_law_849 hl (k := 3) rfl (iI_add _ _) (by decide) rfl (fun ls hl => ?_)
        refine lv_goto (tgt := 18) hx hb dL_law_852 (by decide) ?_
        have hl2 : lv_has ls 4 [(0, .ref b), (1, .ref (ad 0)), (2, .ref h), (3, .int (iI ((i : Int) + 4)))] := lv_sub hl [1, 2, 3, 0] rfl
        rw [← h1, show (i : Int) + 4 = ((i + 4 : Nat) : Int) by omega] at hl2
        exact ih (i + 4) hi4 (by omega) X1 Y1 ad1 H1 locs1 ls R1 J1 S1 hl2
      refine lv_aload_n hx hb dL_law_26 rfl (lv_at hl 0 rfl) ?_
      refine lv_iload_n hx hb dL_law_27 rfl (lv_at hl 3 rfl) ?_
      refine va_sld hx hb hX hbl hbA hS (iI_in (z := (i : Int)) (by omega) (by omega) (by omega)) dL_law_28 ?_
      rw [iI_clamp ⟨by omega, by omega⟩, show ((i : Int)).toNat = i by omega, sc_I xs]
      refine lv_bipush (v := iI 31) hx hb dL_law_29 (by decide) ?_
      refine wk_iand hx hb dL_law_31 ?_
      have hv := iNI_R (sc xs i) 31
      generalize iNI (sc xs i) 31 = v at hv ⊢
      by_cases c_0 : v = 0
      · exact lv_tableIn (off := 120) (tgt := 152) hx hb dL_law_32 (by rw [iI_toInt hv]; omega) (by rw [iI_toInt hv]; omega) (by rw [iI_toInt hv, c_0]; rfl) (by decide) (lc_letters C0 R J hS hi4 hl K)
      by_cases c_1 : v = 1
      · exact lv_tableIn (off := 143) (tgt := 175) hx hb dL_law_32 (by rw [iI_toInt hv]; omega) (by rw [iI_toInt hv]; omega) (by rw [iI_toInt hv, c_1]; rfl) (by decide) (lc_letter C0 R J hS hi4 hl K)
      by_cases c_2 : v = 2
      · exact lv_tableIn (off := 166) (tgt := 198) hx hb dL_law_32 (by rw [iI_toInt hv]; omega) (by rw [iI_toInt hv]; omega) (by rw [iI_toInt hv, c_2]; rfl) (by decide) (lc_clear C0 R J hS hi4 hl K)
      by_cases c_3 : v = 3
      · exact lv_tableIn (off := 179) (tgt := 211) hx hb dL_law_32 (by rw [iI_toInt hv]; omega) (by rw [iI_toInt hv]; omega) (by rw [iI_toInt hv, c_3]; rfl) (by decide) (lc_slot C0 R J hS hi4 hl K)
      by_cases c_4 : v = 4
      · exact lv_tableIn (off := 202) (tgt := 234) hx hb dL_law_32 (by rw [iI_toInt hv]; omega) (by rw [iI_toInt hv]; omega) (by rw [iI_toInt hv, c_4]; rfl) (by decide) (lc_at C0 R J hS hi4 hl K)
      by_cases c_5 : v = 5
      · exact lv_tableIn (off := 235) (tgt := 267) hx hb dL_law_32 (by rw [iI_toInt hv]; omega) (by rw [iI_toInt hv]; omega) (by rw [iI_toInt hv, c_5]; rfl) (by decide) (lc_length C0 R J hS hi4 hl K)
      by_cases c_6 : v = 6
      · exact lv_tableIn (off := 258) (tgt := 290) hx hb dL_law_32 (by rw [iI_toInt hv]; omega) (by rw [iI_toInt hv]; omega) (by rw [iI_toInt hv, c_6]; rfl) (by decide) (lc_law C0 R J hS hi4 hl K)
      by_cases c_7 : v = 7
      · exact lv_tableIn (off := 291) (tgt := 323) hx hb dL_law_32 (by rw [iI_toInt hv]; omega) (by rw [iI_toInt hv]; omega) (by rw [iI_toInt hv, c_7]; rfl) (by decide) (lc_free C0 R J hS hi4 hl K)
      by_cases c_8 : v = 8
      · exact lv_tableIn (off := 304) (tgt := 336) hx hb dL_law_32 (by rw [iI_toInt hv]; omega) (by rw [iI_toInt hv]; omega) (by rw [iI_toInt hv, c_8]; rfl) (by decide) (lc_see C0 R J hS hi4 hl K)
      by_cases c_9 : v = 9
      · exact lv_tableIn (off := 327) (tgt := 359) hx hb dL_law_32 (by rw [iI_toInt hv]; omega) (by rw [iI_toInt hv]; omega) (by rw [iI_toInt hv, c_9]; rfl) (by decide) (lc_seen C0 R J hS hi4 hl K)
      by_cases c_10 : v = 10
      · exact lv_tableIn (off := 340) (tgt := 372) hx hb dL_law_32 (by rw [iI_toInt hv]; omega) (by rw [iI_toInt hv]; omega) (by rw [iI_toInt hv, c_10]; rfl) (by decide) (lc_least C0 R J hS hi4 hl K)
      by_cases c_11 : v = 11
      · exact lv_tableIn (off := 353) (tgt := 385) hx hb dL_law_32 (by rw [iI_toInt hv]; omega) (by rw [iI_toInt hv]; omega) (by rw [iI_toInt hv, c_11]; rfl) (by decide) (lc_rule C0 R J hS hi4 hl K)
      by_cases c_12 : v = 12
      · exact lv_tableIn (off := 412) (tgt := 444) hx hb dL_law_32 (by rw [iI_toInt hv]; omega) (by rw [iI_toInt hv]; omega) (by rw [iI_toInt hv, c_12]; rfl) (by decide) (lc_closed C0 R J hS hi4 hl K)
      by_cases c_13 : v = 13
      · exact lv_tableIn (off := 425) (tgt := 457) hx hb dL_law_32 (by rw [iI_toInt hv]; omega) (by rw [iI_toInt hv]; omega) (by rw [iI_toInt hv, c_13]; rfl) (by decide) (lc_reduce C0 R J hS hi4 hl K)
      by_cases c_14 : v = 14
      · exact lv_tableIn (off := 458) (tgt := 490) hx hb dL_law_32 (by rw [iI_toInt hv]; omega) (by rw [iI_toInt hv]; omega) (by rw [iI_toInt hv, c_14]; rfl) (by decide) (lc_like C0 R J hS hi4 hl K)
      by_cases c_15 : v = 15
      · exact lv_tableIn (off := 491) (tgt := 523) hx hb dL_law_32 (by rw [iI_toInt hv]; omega) (by rw [iI_toInt hv]; omega) (by rw [iI_toInt hv, c_15]; rfl) (by decide) (lc_states C0 R J hS hi4 hl K)
      by_cases c_16 : v = 16
      · exact lv_tableIn (off := 504) (tgt := 536) hx hb dL_law_32 (by rw [iI_toInt hv]; omega) (by rw [iI_toInt hv]; omega) (by rw [iI_toInt hv, c_16]; rfl) (by decide) (lc_leads C0 R J hS hi4 hl K)
      by_cases c_17 : v = 17
      · exact lv_tableIn (off := 537) (tgt := 569) hx hb dL_law_32 (by rw [iI_toInt hv]; omega) (by rw [iI_toInt hv]; omega) (by rw [iI_toInt hv, c_17]; rfl) (by decide) (lc_count C0 R J hS hi4 hl K)
      by_cases c_18 : v = 18
      · exact lv_tableIn (off := 561) (tgt := 593) hx hb dL_law_32 (by rw [iI_toInt hv]; omega) (by rw [iI_toInt hv]; omega) (by rw [iI_toInt hv, c_18]; rfl) (by decide) (lc_size C0 R J hS hi4 hl K)
      by_cases c_19 : v = 19
      · exact lv_tableIn (off := 575) (tgt := 607) hx hb dL_law_32 (by rw [iI_toInt hv]; omega) (by rw [iI_toInt hv]; omega) (by rw [iI_toInt hv, c_19]; rfl) (by decide) (lc_nth C0 R J hS hi4 hl K)
      by_cases c_20 : v = 20
      · exact lv_tableIn (off := 638) (tgt := 670) hx hb dL_law_32 (by rw [iI_toInt hv]; omega) (by rw [iI_toInt hv]; omega) (by rw [iI_toInt hv, c_20]; rfl) (by decide) (lc_rank C0 R J hS hi4 hl K)
      by_cases c_21 : v = 21
      · exact lv_tableIn (off := 662) (tgt := 694) hx hb dL_law_32 (by rw [iI_toInt hv]; omega) (by rw [iI_toInt hv]; omega) (by rw [iI_toInt hv, c_21]; rfl) (by decide) (lc_power C0 R J hS hi4 hl K)
      by_cases c_22 : v = 22
      · exact lv_tableIn (off := 705) (tgt := 737) hx hb dL_law_32 (by rw [iI_toInt hv]; omega) (by rw [iI_toInt hv]; omega) (by rw [iI_toInt hv, c_22]; rfl) (by decide) (lc_order C0 R J hS hi4 hl K)
      by_cases c_23 : v = 23
      · exact lv_tableIn (off := 728) (tgt := 760) hx hb dL_law_32 (by rw [iI_toInt hv]; omega) (by rw [iI_toInt hv]; omega) (by rw [iI_toInt hv, c_23]; rfl) (by decide) (lc_inverse C0 R J hS hi4 hl K)
      by_cases c_24 : v = 24
      · exact lv_tableIn (off := 761) (tgt := 793) hx hb dL_law_32 (by rw [iI_toInt hv]; omega) (by rw [iI_toInt hv]; omega) (by rw [iI_toInt hv, c_24]; rfl) (by decide) (lc_makes C0 R J hS hi4 hl K)
      by_cases c_25 : v = 25
      · exact lv_tableIn (off := 794) (tgt := 826) hx hb dL_law_32 (by rw [iI_toInt hv]; omega) (by rw [iI_toInt hv]; omega) (by rw [iI_toInt hv, c_25]; rfl) (by decide) (lc_total C0 R J hS hi4 hl K)
      refine lv_tableOut (tgt := 849) hx hb dL_law_32 (by rw [iI_toInt hv]; omega) (by decide) ?_
      exact K X Y ad H locs R rfl J hS
