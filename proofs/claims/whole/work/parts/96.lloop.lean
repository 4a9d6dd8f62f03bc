/-! the law: its loop, its start -/
theorem li_sub {L i : Nat} (hL : L ≤ 2561) (hi : i < 2 ^ 31) : (nI L - 5 < nI i → L < i + 5) ∧ (¬ nI L - 5 < nI i → i + 5 ≤ L) := by
  by_cases h5 : 5 ≤ L
  · have e : nI L - 5 = nI (L - 5) := by
      have e1 : nI L = nI (L - 5) + 5 := by
        show nI L = nI (L - 5) + nI 5
        rw [nI_add, Nat.sub_add_cancel h5]
      rw [e1, Int32.add_sub_cancel]
    rw [e, nI_ltI (by omega) hi]
    constructor <;> intro h <;> omega
  · have h0 : nI L - 5 < 0 := by
      match L, h5 with
      | 0, _ => decide
      | 1, _ => decide
      | 2, _ => decide
      | 3, _ => decide
      | 4, _ => decide
      | n + 5, h => exact absurd (Nat.le_add_left 5 n) h
    have h1 : nI L - 5 < nI i := Int32.lt_of_lt_of_le h0 (nI_pos' hi)
    exact ⟨fun _ => by omega, fun c => absurd h1 c⟩
theorem li_inc (i : Nat) : nI i + Int32.ofInt 5 = nI (i + 5) := nI_add i 5
set_option maxHeartbeats 4000000 in
set_option maxRecDepth 100000 in
theorem lw_loop {p : Program} (l : Launch) {e : Env} {s : State} {m : MethodId} {below : List Frame} {meth : Method} {c : Code} {cells slots : Nat} {b L : Nat} {xs : Nat → Int32} {D : va_G} {cA : Nat → ClassId} {st ad ad' : Nat → Nat} {d : Nat} (C0 : lw_At p s m meth c b L xs) (hL : L ≤ 2561) (E : lwV s D cA st ad ad') (hc : cells ≤ 600000) (hsl : slots ≤ 7302250) :
    ∀ (k i : Nat) (N : fl_M) (W9 : Nat → Nat → Int32) (n c0 : Nat) (ls : Array Slot) (H : Heap) (locs : List Loc), L < i + 5 * k + 5 → i ≤ 2561 → n ≤ 20 * i → lv_has ls 4 [(0, .ref b), (1, .ref (ad 0)), (2, .ref (ad' 0)), (3, .int (nI i))] → lwM s D cA ad ad' (XX (V N W9)) N H locs → lwJ N W9 n d c0 → W p l e room_1 s m #[Value.ref b] below meth c H locs cells slots (lw_Z below #[Value.ref b] s) (F0 m 28 ls []) := by
  intro k
  induction k with
  | zero =>
    intro i N W9 n c0 ls H locs hk hi hn0 hl h j
    obtain ⟨hx, hb, hr, hml, hown, hts0, hX, hbl, hlocks, hgv⟩ := C0
    refine lv_iload_n hx hb d_LW_law_28 rfl (lv_at hl 3 rfl) ?_
    refine lv_aload_n hx hb d_LW_law_29 rfl (lv_at hl 0 rfl) ?_
    refine va_slen hx hb hX hbl (fun c => absurd hbl (Nat.not_lt.mpr c)) h.2.2 d_LW_law_30 ?_
    refine lv_iconst (v := 5) hx hb d_LW_law_31 (by decide) ?_
    refine lv_isub hx hb d_LW_law_32 ?_
    refine lv_icmp_gt (tgt := 899) hx hb d_LW_law_33 (by decide) (fun _ => ?_) (fun h9 => absurd ((li_sub hL (by omega)).2 h9) (by omega))
    refine lv_iconst (v := 1) hx hb d_LW_law_899 (by decide) ?_
    refine lw_drop h.2.2.2.2 (W.widen hc hsl ?_)
    exact lw_ret hx hb hr hlocks d_LW_law_900
  | succ k ih =>
    intro i N W9 n c0 ls H locs hk hi hn0 hl h j
    have C1 := C0
    obtain ⟨hx, hb, hr, hml, hown, hts0, hX, hbl, hlocks, hgv⟩ := C1
    refine lv_iload_n hx hb d_LW_law_28 rfl (lv_at hl 3 rfl) ?_
    refine lv_aload_n hx hb d_LW_law_29 rfl (lv_at hl 0 rfl) ?_
    refine va_slen hx hb hX hbl (fun c => absurd hbl (Nat.not_lt.mpr c)) h.2.2 d_LW_law_30 ?_
    refine lv_iconst (v := 5) hx hb d_LW_law_31 (by decide) ?_
    refine lv_isub hx hb d_LW_law_32 ?_
    refine lv_icmp_gt (tgt := 899) hx hb d_LW_law_33 (by decide) (fun _ => ?_) (fun h9 => ?_)
    · refine lv_iconst (v := 1) hx hb d_LW_law_899 (by decide) ?_
      refine lw_drop h.2.2.2.2 (W.widen hc hsl ?_)
      exact lw_ret hx hb hr hlocks d_LW_law_900
    · have hik0 := (li_sub hL (by omega)).2 h9
      have hik : i + 4 < L := by omega
      have hn : n + 100 < 2 ^ 31 := by omega
      have kk : ∀ (N : fl_M) (W9 : Nat → Nat → Int32) (n' c0 : Nat) (H : Heap) (locs : List Loc), lwM s D cA ad ad' (XX (V N W9)) N H locs → lwJ N W9 n' d c0 → n' ≤ n + 100 → W p l e room_1 s m #[Value.ref b] below meth c H locs cells slots (lw_Z below #[Value.ref b] s) (F0 m 893 ls []) := by
        intro N W9 n' c0 H locs h j hn'
        refine lv_iinc (k := 3) (v := nI (i + 5)) (lv' := [(3, .int (nI (i + 5))), (0, .ref b), (1, .ref (ad 0)), (2, .ref (ad' 0))]) hx hb d_LW_law_893 hl rfl (li_inc i) (by decide) rfl (fun ls hl => ?_)
        refine lv_goto (tgt := 28) hx hb d_LW_law_896 (by decide) ?_
        have hl := lv_sub (l' := [(0, .ref b), (1, .ref (ad 0)), (2, .ref (ad' 0)), (3, .int (nI (i + 5)))]) hl [1, 2, 3, 0] rfl
        exact ih (i + 5) N W9 n' c0 ls H locs (by omega) (by omega) (by omega) hl h j
      refine lv_aload_n hx hb d_LW_law_36 rfl (lv_at hl 0 rfl) ?_
      refine lv_iload_n hx hb d_LW_law_37 rfl (lv_at hl 3 rfl) ?_
      refine va_sld hx hb hX hbl (fun c => absurd hbl (Nat.not_lt.mpr c)) h.2.2 (vp_in_nI (show i < L by omega) (by omega)) d_LW_law_38 ?_
      refine lv_bipush (v := 31) hx hb d_LW_law_39 (by decide) ?_
      refine lv_iand hx hb d_LW_law_41 ?_
      generalize xs (nI i).toNatClampNeg = x9
      obtain ⟨t, ht, e1⟩ := pk_andE x9 (m := 31) 5 rfl
      revert e1
      match t, ht with
      | 0, _ =>
        intro e1
        rw [e1]
        refine lv_tableIn (off := 90) (tgt := 132) hx hb d_LW_law_42 (by decide) (by decide) (by decide) (by decide) ?_
        exact lw_c0 l C0 hL E hik hl h j hn hc hsl kk
      | 1, _ =>
        intro e1
        rw [e1]
        refine lv_tableIn (off := 133) (tgt := 175) hx hb d_LW_law_42 (by decide) (by decide) (by decide) (by decide) ?_
        exact lw_c1 l C0 hL E hik hl h j hn hc hsl kk
      | 2, _ =>
        intro e1
        rw [e1]
        refine lv_tableIn (off := 202) (tgt := 244) hx hb d_LW_law_42 (by decide) (by decide) (by decide) (by decide) ?_
        exact lw_c2 l C0 hL E hik hl h j hn hc hsl kk
      | 3, _ =>
        intro e1
        rw [e1]
        refine lv_tableIn (off := 225) (tgt := 267) hx hb d_LW_law_42 (by decide) (by decide) (by decide) (by decide) ?_
        exact lw_c3 l C0 hL E hik hl h j hn hc hsl kk
      | 4, _ =>
        intro e1
        rw [e1]
        refine lv_tableIn (off := 274) (tgt := 316) hx hb d_LW_law_42 (by decide) (by decide) (by decide) (by decide) ?_
        exact lw_c4 l C0 hL E hik hl h j hn hc hsl kk
      | 5, _ =>
        intro e1
        rw [e1]
        refine lv_tableIn (off := 351) (tgt := 393) hx hb d_LW_law_42 (by decide) (by decide) (by decide) (by decide) ?_
        exact lw_c5 l C0 hL E hik hl h j hn hc hsl kk
      | 6, _ =>
        intro e1
        rw [e1]
        refine lv_tableIn (off := 400) (tgt := 442) hx hb d_LW_law_42 (by decide) (by decide) (by decide) (by decide) ?_
        exact lw_c6 l C0 hL E hik hl h j hn hc hsl kk
      | 7, _ =>
        intro e1
        rw [e1]
        refine lv_tableIn (off := 423) (tgt := 465) hx hb d_LW_law_42 (by decide) (by decide) (by decide) (by decide) ?_
        exact lw_c7 l C0 hL E hik hl h j hn hc hsl kk
      | 8, _ =>
        intro e1
        rw [e1]
        refine lv_tableIn (off := 436) (tgt := 478) hx hb d_LW_law_42 (by decide) (by decide) (by decide) (by decide) ?_
        exact lw_c8 l C0 hL E hik hl h j hn hc hsl kk
      | 9, _ =>
        intro e1
        rw [e1]
        refine lv_tableIn (off := 485) (tgt := 527) hx hb d_LW_law_42 (by decide) (by decide) (by decide) (by decide) ?_
        exact lw_c9 l C0 hL E hik hl h j hn hc hsl kk
      | 10, _ =>
        intro e1
        rw [e1]
        refine lv_tableIn (off := 518) (tgt := 560) hx hb d_LW_law_42 (by decide) (by decide) (by decide) (by decide) ?_
        exact lw_c10 l C0 hL E hik hl h j hn hc hsl kk
      | 11, _ =>
        intro e1
        rw [e1]
        refine lv_tableIn (off := 541) (tgt := 583) hx hb d_LW_law_42 (by decide) (by decide) (by decide) (by decide) ?_
        exact lw_c11 l C0 hL E hik hl h j hn hc hsl kk
      | 12, _ =>
        intro e1
        rw [e1]
        refine lv_tableIn (off := 574) (tgt := 616) hx hb d_LW_law_42 (by decide) (by decide) (by decide) (by decide) ?_
        exact lw_c12 l C0 hL E hik hl h j hn hc hsl kk
      | 13, _ =>
        intro e1
        rw [e1]
        refine lv_tableIn (off := 587) (tgt := 629) hx hb d_LW_law_42 (by decide) (by decide) (by decide) (by decide) ?_
        exact lw_c13 l C0 hL E hik hl h j hn hc hsl kk
      | 14, _ =>
        intro e1
        rw [e1]
        refine lv_tableIn (off := 600) (tgt := 642) hx hb d_LW_law_42 (by decide) (by decide) (by decide) (by decide) ?_
        exact lw_c14 l C0 hL E hik hl h j hn hc hsl kk
      | 15, _ =>
        intro e1
        rw [e1]
        refine lv_tableIn (off := 613) (tgt := 655) hx hb d_LW_law_42 (by decide) (by decide) (by decide) (by decide) ?_
        exact lw_c15 l C0 hL E hik hl h j hn hc hsl kk
      | 16, _ =>
        intro e1
        rw [e1]
        refine lv_tableIn (off := 652) (tgt := 694) hx hb d_LW_law_42 (by decide) (by decide) (by decide) (by decide) ?_
        exact lw_c16 l C0 hL E hik hl h j hn hc hsl kk
      | 17, _ =>
        intro e1
        rw [e1]
        refine lv_tableIn (off := 691) (tgt := 733) hx hb d_LW_law_42 (by decide) (by decide) (by decide) (by decide) ?_
        exact lw_c17 l C0 hL E hik hl h j hn hc hsl kk
      | 18, _ =>
        intro e1
        rw [e1]
        refine lv_tableIn (off := 771) (tgt := 813) hx hb d_LW_law_42 (by decide) (by decide) (by decide) (by decide) ?_
        exact lw_c18 l C0 hL E hik hl h j hn hc hsl kk
      | t + 19, ht =>
        intro e1
        rw [e1]
        refine lv_tableOut (tgt := 893) hx hb d_LW_law_42 (Or.inr ?_) (by decide) ?_
        · rw [nI_toInt (by omega)]
          omega
        · exact kk N W9 n c0 H locs h j (by omega)
