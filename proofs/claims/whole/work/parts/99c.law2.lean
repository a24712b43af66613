theorem gLoopc {L k : Nat} (hL : L ≤ 3072) (hk : k ≤ 513) (h : ¬ nI L - 6 < nI (6 * k)) : 6 * k + 6 ≤ L := by
  by_cases z : 6 ≤ L
  · rw [show nI L - 6 = nI (L - 6) from gSub (b := 6) rfl rfl z] at h
    have h2 : ¬ L - 6 < 6 * k := fun q => h ((gLt rfl rfl (by omega) (by omega)).mpr q)
    omega
  · refine absurd (Int32.lt_of_lt_of_le (?_ : nI L - 6 < 0) (show (0 : Int32) ≤ nI (6 * k) from nI_le (a := 0) (by omega) (by omega))) h
    match L, z with
    | 0, _ => decide
    | 1, _ => decide
    | 2, _ => decide
    | 3, _ => decide
    | 4, _ => decide
    | 5, _ => decide
    | n + 6, z => exact absurd (by omega) z

set_option maxHeartbeats 4000000 in
set_option maxRecDepth 100000 in
theorem law_body {p : Program} {l : Launch} {e : Env} {s : State} {m : MethodId} {below : List Frame} {meth : Method} {c : Code} {G : gW} {b0 L : Nat} {xs : Nat → Int32} (hL : L ≤ 3072) (C0 : gLC G p s m meth c b0 L xs) {k B : Nat} (hk6 : 6 * k + 6 ≤ L) (hB : s.heap.size ≤ B) {H : Heap} {locs : List Loc} (hw : gWo G B (B + 156) H) (hS : va_S (fun q => s.heap.size ≤ q) s.heap H locs) {ls : Array Slot} (hl : lv_has ls 4 [(3, .int (nI (6 * k))), (2, .ref (B + 156)), (1, .ref B), (0, .ref b0)]) {Q : State → Prop} (kk : ∀ (H1 : Heap) (locs1 : List Loc) (ls1 : Array Slot), gWo G B (B + 156) H1 → va_S (fun q => s.heap.size ≤ q) s.heap H1 locs1 → lv_has ls1 4 [(3, .int (nI (6 * k))), (2, .ref (B + 156)), (1, .ref B), (0, .ref b0)] → W p l e room_1 s m #[Value.ref b0] below meth c H1 locs1 186 5311 Q (F0 m 1248 ls1 [])) : W p l e room_1 s m #[Value.ref b0] below meth c H locs 186 5311 Q (F0 m 27 ls []) := by
  have hx := C0.1
  have hb := C0.2.1
  have hX := C0.2.2.2.2.2.1
  have hbl := C0.2.2.2.2.2.2.1
  refine lv_aload_n hx hb dL_law_27 rfl (lv_at hl 3 rfl) ?_
  refine lv_iload_n hx hb dL_law_28 rfl (lv_at hl 0 rfl) ?_
  refine g_sld (j := 6 * k) hx hb hX hbl hS rfl (by omega) hL dL_law_29 ?_
  refine lv_bipush (v := 63) hx hb dL_law_30 (by decide) ?_
  refine lv_iand hx hb dL_law_32 ?_
  generalize xs (6 * k) &&& 63 = x
  by_cases h0 : x = 0
  · exact lv_tableIn (off := 147) (tgt := 180) hx hb dL_law_33 (by rw [h0]; decide) (by rw [h0]; decide) (by rw [h0]; decide) (by decide) (law_pigeon hL C0 hk6 hB hw hS hl kk)
  by_cases h1 : x = 1
  · exact lv_tableIn (off := 180) (tgt := 213) hx hb dL_law_33 (by rw [h1]; decide) (by rw [h1]; decide) (by rw [h1]; decide) (by decide) (law_of hL C0 hk6 hB hw hS hl kk)
  by_cases h2 : x = 2
  · exact lv_tableIn (off := 213) (tgt := 246) hx hb dL_law_33 (by rw [h2]; decide) (by rw [h2]; decide) (by rw [h2]; decide) (by decide) (law_joy hL C0 hk6 hB hw hS hl kk)
  by_cases h3 : x = 3
  · exact lv_tableIn (off := 246) (tgt := 279) hx hb dL_law_33 (by rw [h3]; decide) (by rw [h3]; decide) (by rw [h3]; decide) (by decide) (law_letter hL C0 hk6 hB hw hS hl kk)
  by_cases h4 : x = 4
  · exact lv_tableIn (off := 279) (tgt := 312) hx hb dL_law_33 (by rw [h4]; decide) (by rw [h4]; decide) (by rw [h4]; decide) (by decide) (law_tire hL C0 hk6 hB hw hS hl kk)
  by_cases h5 : x = 5
  · exact lv_tableIn (off := 312) (tgt := 345) hx hb dL_law_33 (by rw [h5]; decide) (by rw [h5]; decide) (by rw [h5]; decide) (by decide) (law_phrase hL C0 hk6 hB hw hS hl kk)
  by_cases h6 : x = 6
  · exact lv_tableIn (off := 355) (tgt := 388) hx hb dL_law_33 (by rw [h6]; decide) (by rw [h6]; decide) (by rw [h6]; decide) (by decide) (law_row hL C0 hk6 hB hw hS hl kk)
  by_cases h7 : x = 7
  · exact lv_tableIn (off := 398) (tgt := 431) hx hb dL_law_33 (by rw [h7]; decide) (by rw [h7]; decide) (by rw [h7]; decide) (by decide) (law_feed hL C0 hk6 hB hw hS hl kk)
  by_cases h8 : x = 8
  · exact lv_tableIn (off := 421) (tgt := 454) hx hb dL_law_33 (by rw [h8]; decide) (by rw [h8]; decide) (by rw [h8]; decide) (by decide) (law_loft hL C0 hk6 hB hw hS hl kk)
  by_cases h9 : x = 9
  · exact lv_tableIn (off := 434) (tgt := 467) hx hb dL_law_33 (by rw [h9]; decide) (by rw [h9]; decide) (by rw [h9]; decide) (by decide) (law_told hL C0 hk6 hB hw hS hl kk)
  by_cases h10 : x = 10
  · exact lv_tableIn (off := 457) (tgt := 490) hx hb dL_law_33 (by rw [h10]; decide) (by rw [h10]; decide) (by rw [h10]; decide) (by decide) (law_pass hL C0 hk6 hB hw hS hl kk)
  by_cases h11 : x = 11
  · exact lv_tableIn (off := 480) (tgt := 513) hx hb dL_law_33 (by rw [h11]; decide) (by rw [h11]; decide) (by rw [h11]; decide) (by decide) (law_on hL C0 hk6 hB hw hS hl kk)
  by_cases h12 : x = 12
  · exact lv_tableIn (off := 513) (tgt := 546) hx hb dL_law_33 (by rw [h12]; decide) (by rw [h12]; decide) (by rw [h12]; decide) (by decide) (law_wording hL C0 hk6 hB hw hS hl kk)
  by_cases h13 : x = 13
  · exact lv_tableIn (off := 546) (tgt := 579) hx hb dL_law_33 (by rw [h13]; decide) (by rw [h13]; decide) (by rw [h13]; decide) (by decide) (law_birds hL C0 hk6 hB hw hS hl kk)
  by_cases h14 : x = 14
  · exact lv_tableIn (off := 569) (tgt := 602) hx hb dL_law_33 (by rw [h14]; decide) (by rw [h14]; decide) (by rw [h14]; decide) (by decide) (law_see hL C0 hk6 hB hw hS hl kk)
  by_cases h15 : x = 15
  · exact lv_tableIn (off := 628) (tgt := 661) hx hb dL_law_33 (by rw [h15]; decide) (by rw [h15]; decide) (by rw [h15]; decide) (by decide) (law_can hL C0 hk6 hB hw hS hl kk)
  by_cases h16 : x = 16
  · exact lv_tableIn (off := 661) (tgt := 694) hx hb dL_law_33 (by rw [h16]; decide) (by rw [h16]; decide) (by rw [h16]; decide) (by decide) (law_odds hL C0 hk6 hB hw hS hl kk)
  by_cases h17 : x = 17
  · exact lv_tableIn (off := 695) (tgt := 728) hx hb dL_law_33 (by rw [h17]; decide) (by rw [h17]; decide) (by rw [h17]; decide) (by decide) (law_mean hL C0 hk6 hB hw hS hl kk)
  by_cases h18 : x = 18
  · exact lv_tableIn (off := 719) (tgt := 752) hx hb dL_law_33 (by rw [h18]; decide) (by rw [h18]; decide) (by rw [h18]; decide) (by decide) (law_plan hL C0 hk6 hB hw hS hl kk)
  by_cases h19 : x = 19
  · exact lv_tableIn (off := 752) (tgt := 785) hx hb dL_law_33 (by rw [h19]; decide) (by rw [h19]; decide) (by rw [h19]; decide) (by decide) (law_ends hL C0 hk6 hB hw hS hl kk)
  by_cases h20 : x = 20
  · exact lv_tableIn (off := 775) (tgt := 808) hx hb dL_law_33 (by rw [h20]; decide) (by rw [h20]; decide) (by rw [h20]; decide) (by decide) (law_book hL C0 hk6 hB hw hS hl kk)
  by_cases h21 : x = 21
  · exact lv_tableIn (off := 808) (tgt := 841) hx hb dL_law_33 (by rw [h21]; decide) (by rw [h21]; decide) (by rw [h21]; decide) (by decide) (law_looked hL C0 hk6 hB hw hS hl kk)
  by_cases h22 : x = 22
  · exact lv_tableIn (off := 821) (tgt := 854) hx hb dL_law_33 (by rw [h22]; decide) (by rw [h22]; decide) (by rw [h22]; decide) (by decide) (law_judge hL C0 hk6 hB hw hS hl kk)
  by_cases h23 : x = 23
  · exact lv_tableIn (off := 854) (tgt := 887) hx hb dL_law_33 (by rw [h23]; decide) (by rw [h23]; decide) (by rw [h23]; decide) (by decide) (law_image hL C0 hk6 hB hw hS hl kk)
  by_cases h24 : x = 24
  · exact lv_tableIn (off := 867) (tgt := 900) hx hb dL_law_33 (by rw [h24]; decide) (by rw [h24]; decide) (by rw [h24]; decide) (by decide) (law_undo hL C0 hk6 hB hw hS hl kk)
  by_cases h25 : x = 25
  · exact lv_tableIn (off := 880) (tgt := 913) hx hb dL_law_33 (by rw [h25]; decide) (by rw [h25]; decide) (by rw [h25]; decide) (by decide) (law_act hL C0 hk6 hB hw hS hl kk)
  by_cases h26 : x = 26
  · exact lv_tableIn (off := 923) (tgt := 956) hx hb dL_law_33 (by rw [h26]; decide) (by rw [h26]; decide) (by rw [h26]; decide) (by decide) (law_trace hL C0 hk6 hB hw hS hl kk)
  by_cases h27 : x = 27
  · exact lv_tableIn (off := 946) (tgt := 979) hx hb dL_law_33 (by rw [h27]; decide) (by rw [h27]; decide) (by rw [h27]; decide) (by decide) (law_taken hL C0 hk6 hB hw hS hl kk)
  by_cases h28 : x = 28
  · exact lv_tableIn (off := 979) (tgt := 1012) hx hb dL_law_33 (by rw [h28]; decide) (by rw [h28]; decide) (by rw [h28]; decide) (by decide) (law_count hL C0 hk6 hB hw hS hl kk)
  by_cases h29 : x = 29
  · exact lv_tableIn (off := 1002) (tgt := 1035) hx hb dL_law_33 (by rw [h29]; decide) (by rw [h29]; decide) (by rw [h29]; decide) (by decide) (law_tape hL C0 hk6 hB hw hS hl kk)
  by_cases h30 : x = 30
  · exact lv_tableIn (off := 1045) (tgt := 1078) hx hb dL_law_33 (by rw [h30]; decide) (by rw [h30]; decide) (by rw [h30]; decide) (by decide) (law_item hL C0 hk6 hB hw hS hl kk)
  by_cases h31 : x = 31
  · exact lv_tableIn (off := 1118) (tgt := 1151) hx hb dL_law_33 (by rw [h31]; decide) (by rw [h31]; decide) (by rw [h31]; decide) (by decide) (law_read hL C0 hk6 hB hw hS hl kk)
  by_cases h32 : x = 32
  · exact lv_tableIn (off := 1152) (tgt := 1185) hx hb dL_law_33 (by rw [h32]; decide) (by rw [h32]; decide) (by rw [h32]; decide) (by decide) (law_shift hL C0 hk6 hB hw hS hl kk)
  have t0 := lv_neT (k := 0) (a := 0) h0 (by decide)
  have t1 := lv_neT (k := 1) (a := 1) h1 (by decide)
  have t2 := lv_neT (k := 2) (a := 2) h2 (by decide)
  have t3 := lv_neT (k := 3) (a := 3) h3 (by decide)
  have t4 := lv_neT (k := 4) (a := 4) h4 (by decide)
  have t5 := lv_neT (k := 5) (a := 5) h5 (by decide)
  have t6 := lv_neT (k := 6) (a := 6) h6 (by decide)
  have t7 := lv_neT (k := 7) (a := 7) h7 (by decide)
  have t8 := lv_neT (k := 8) (a := 8) h8 (by decide)
  have t9 := lv_neT (k := 9) (a := 9) h9 (by decide)
  have t10 := lv_neT (k := 10) (a := 10) h10 (by decide)
  have t11 := lv_neT (k := 11) (a := 11) h11 (by decide)
  have t12 := lv_neT (k := 12) (a := 12) h12 (by decide)
  have t13 := lv_neT (k := 13) (a := 13) h13 (by decide)
  have t14 := lv_neT (k := 14) (a := 14) h14 (by decide)
  have t15 := lv_neT (k := 15) (a := 15) h15 (by decide)
  have t16 := lv_neT (k := 16) (a := 16) h16 (by decide)
  have t17 := lv_neT (k := 17) (a := 17) h17 (by decide)
  have t18 := lv_neT (k := 18) (a := 18) h18 (by decide)
  have t19 := lv_neT (k := 19) (a := 19) h19 (by decide)
  have t20 := lv_neT (k := 20) (a := 20) h20 (by decide)
  have t21 := lv_neT (k := 21) (a := 21) h21 (by decide)
  have t22 := lv_neT (k := 22) (a := 22) h22 (by decide)
  have t23 := lv_neT (k := 23) (a := 23) h23 (by decide)
  have t24 := lv_neT (k := 24) (a := 24) h24 (by decide)
  have t25 := lv_neT (k := 25) (a := 25) h25 (by decide)
  have t26 := lv_neT (k := 26) (a := 26) h26 (by decide)
  have t27 := lv_neT (k := 27) (a := 27) h27 (by decide)
  have t28 := lv_neT (k := 28) (a := 28) h28 (by decide)
  have t29 := lv_neT (k := 29) (a := 29) h29 (by decide)
  have t30 := lv_neT (k := 30) (a := 30) h30 (by decide)
  have t31 := lv_neT (k := 31) (a := 31) h31 (by decide)
  have t32 := lv_neT (k := 32) (a := 32) h32 (by decide)
  exact lv_tableOut (tgt := 1248) hx hb dL_law_33 (by omega) (by decide) (kk H locs ls hw hS hl)
set_option maxHeartbeats 4000000 in
set_option maxRecDepth 100000 in
theorem law_loop {p : Program} {l : Launch} {e : Env} {s : State} {m : MethodId} {below : List Frame} {meth : Method} {c : Code} {G : gW} {b0 L : Nat} {xs : Nat → Int32} (hL : L ≤ 3072) (C0 : gLC G p s m meth c b0 L xs) (hr : meth.sig.returnType = ret) (hlk : meth.locks = false) {B : Nat} (hB : s.heap.size ≤ B) : ∀ (d k : Nat), k + d = 513 → ∀ (H : Heap) (locs : List Loc), gWo G B (B + 156) H → va_S (fun q => s.heap.size ≤ q) s.heap H locs → ∀ ls : Array Slot, lv_has ls 4 [(3, .int (nI (6 * k))), (2, .ref (B + 156)), (1, .ref B), (0, .ref b0)] → W p l e room_1 s m #[Value.ref b0] below meth c H locs 186 5311 (lw_Z below #[Value.ref b0] s) (F0 m 18 ls []) := by
  have hx := C0.1
  have hb := C0.2.1
  have hX := C0.2.2.2.2.2.1
  have hbl := C0.2.2.2.2.2.2.1
  intro d
  induction d with
  | zero =>
    intro k hk H locs hw hS ls hl
    refine lv_iload_n hx hb dL_law_18 rfl (lv_at hl 0 rfl) ?_
    refine lv_aload_n hx hb dL_law_19 rfl (lv_at hl 3 rfl) ?_
    refine va_slen hx hb hX hbl (Nat.not_le.mpr hbl) hS dL_law_20 ?_
    refine lv_bipush (v := 6) hx hb dL_law_21 (by decide) ?_
    refine lv_isub hx hb dL_law_23 ?_
    refine lv_icmp_gt (tgt := 1254) hx hb dL_law_24 (by decide) (fun c9 => ?_) (fun c9 => ?_)
    · refine lv_iconst (v := 1) hx hb dL_law_1254 (by decide) ?_
      refine va_forget (fun q hq => hS.2.2 q hq) ?_
      refine W.widen (k := 600000) (n := 7302250) (Nat.le_of_ble_eq_true rfl) (Nat.le_of_ble_eq_true rfl) ?_
      exact lw_ret hx hb hr hlk dL_law_1255
    · exact absurd (gLoopc hL (by omega) c9) (by omega)
  | succ d ih =>
    intro k hk H locs hw hS ls hl
    refine lv_iload_n hx hb dL_law_18 rfl (lv_at hl 0 rfl) ?_
    refine lv_aload_n hx hb dL_law_19 rfl (lv_at hl 3 rfl) ?_
    refine va_slen hx hb hX hbl (Nat.not_le.mpr hbl) hS dL_law_20 ?_
    refine lv_bipush (v := 6) hx hb dL_law_21 (by decide) ?_
    refine lv_isub hx hb dL_law_23 ?_
    refine lv_icmp_gt (tgt := 1254) hx hb dL_law_24 (by decide) (fun c9 => ?_) (fun c9 => ?_)
    · refine lv_iconst (v := 1) hx hb dL_law_1254 (by decide) ?_
      refine va_forget (fun q hq => hS.2.2 q hq) ?_
      refine W.widen (k := 600000) (n := 7302250) (Nat.le_of_ble_eq_true rfl) (Nat.le_of_ble_eq_true rfl) ?_
      exact lw_ret hx hb hr hlk dL_law_1255
    · refine law_body hL C0 (gLoopc hL (by omega) c9) hB hw hS hl (fun H1 locs1 ls1 hw1 hS1 hl1 => ?_)
      refine lv_iinc (v := nI (6 * (k + 1))) (lv' := [(3, .int (nI (6 * (k + 1)))), (2, .ref (B + 156)), (1, .ref B), (0, .ref b0)]) hx hb dL_law_1248 hl1 (k := 0) rfl (by rw [show 6 * (k + 1) = 6 * k + 6 by omega]; exact gAdd rfl (show Int32.ofInt 6 = nI 6 from rfl)) (by decide) rfl (fun ls2 hl2 => ?_)
      refine lv_goto (tgt := 18) hx hb dL_law_1251 (by decide) ?_
      exact ih (k + 1) (by omega) H1 locs1 hw1 hS1 ls2 hl2
