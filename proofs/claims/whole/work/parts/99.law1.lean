/-! THE LAW, case by case -/
set_option maxHeartbeats 4000000 in
set_option maxRecDepth 100000 in
theorem law_act {p : Program} {l : Launch} {e : Env} {s : State} {m : MethodId} {below : List Frame} {meth : Method} {c : Code} {G : gW} {b0 L : Nat} {xs : Nat → Int32} (hL : L ≤ 3072) (C0 : gLC G p s m meth c b0 L xs) {k B : Nat} (hk6 : 6 * k + 6 ≤ L) (hB : s.heap.size ≤ B) {H : Heap} {locs : List Loc} (hw : gWo G B (B + 156) H) (hS : va_S (fun q => s.heap.size ≤ q) s.heap H locs) {ls : Array Slot} (hl : lv_has ls 4 [(3, .int (nI (6 * k))), (2, .ref (B + 156)), (1, .ref B), (0, .ref b0)]) {Q : State → Prop} (kk : ∀ (H1 : Heap) (locs1 : List Loc) (ls1 : Array Slot), gWo G B (B + 156) H1 → va_S (fun q => s.heap.size ≤ q) s.heap H1 locs1 → lv_has ls1 4 [(3, .int (nI (6 * k))), (2, .ref (B + 156)), (1, .ref B), (0, .ref b0)] → W p l e room_1 s m #[Value.ref b0] below meth c H1 locs1 186 5311 Q (F0 m 1248 ls1 [])) : W p l e room_1 s m #[Value.ref b0] below meth c H locs 186 5311 Q (F0 m 913 ls []) := by
  obtain ⟨hx, hb, hml, hown, hT, hX, hbl, hE2, hG9⟩ := C0
  have hE := hE2.1
  have hK := hE.2.1
  obtain ⟨π, πk, μ, α, f, g, lc, lp, lk, A, acc, acck, ⟨hI, hIk, hTA, ⟨rn, hrn, hr9⟩, hTs, ⟨tn, htn, hTn⟩, hlc, h6, hk1, hk2, hRL, him⟩, ⟨hCN, hLf⟩, zM⟩ := hw
  obtain ⟨⟨f2, h4, hcl⟩, hlp⟩ := gLfs_open h6 hLf hk1
  have hh := gHold_of h6 hk1 hRL
  obtain ⟨⟨n, hn, hz, -⟩, hki, ⟨sn, hsn, hs9, hsp⟩, ⟨pn, hpn, hp9, hpok⟩, ⟨bn, hbn, hb9, hbk⟩, -⟩ := id hI
  refine lv_aload_n hx hb dL_law_913 rfl (lv_at hl 2 rfl) ?_
  refine lv_aload_n hx hb dL_law_914 rfl (lv_at hl 3 rfl) ?_
  refine lv_iload_n hx hb dL_law_915 rfl (lv_at hl 0 rfl) ?_
  refine lv_iconst (v := 1) hx hb dL_law_916 (by decide) ?_
  refine lv_iadd hx hb dL_law_917 ?_
  refine g_sld (j := (6 * k) + 1) hx hb hX hbl hS (gAdd rfl rfl) (by omega) hL dL_law_918 ?_
  refine lv_aload_n hx hb dL_law_919 rfl (lv_at hl 3 rfl) ?_
  refine lv_iload_n hx hb dL_law_920 rfl (lv_at hl 0 rfl) ?_
  refine lv_iconst (v := 2) hx hb dL_law_921 (by decide) ?_
  refine lv_iadd hx hb dL_law_922 ?_
  refine g_sld (j := (6 * k) + 2) hx hb hX hbl hS (gAdd rfl rfl) (by omega) hL dL_law_923 ?_
  refine lv_aload_n hx hb dL_law_924 rfl (lv_at hl 3 rfl) ?_
  refine lv_iload_n hx hb dL_law_925 rfl (lv_at hl 0 rfl) ?_
  refine lv_iconst (v := 3) hx hb dL_law_926 (by decide) ?_
  refine lv_iadd hx hb dL_law_927 ?_
  refine g_sld (j := (6 * k) + 3) hx hb hX hbl hS (gAdd rfl rfl) (by omega) hL dL_law_928 ?_
  refine g_ki (g_runV (T := TX11) (ci := 11) (N := 13) (rest := []) hx hb hml hown hE hT (c_X11_act l G B lp π πk f2 μ α lk g acc hcl hI hlp  (xs ((6 * k) + 1)) (xs ((6 * k) + 2)) (xs ((6 * k) + 3))) gM_X11_act gm_L_120 gi_X11_act gs_RX11_yX11_act_yX11_act rfl (gCN_at hCN) (gCW_v.mpr ⟨h4, hCN⟩) rfl hl.1 ⟨rfl, rfl⟩ ⟨Nat.le_of_ble_eq_true rfl, Nat.le_of_ble_eq_true rfl⟩ ⟨Nat.le_of_ble_eq_true rfl, Nat.le_of_ble_eq_true rfl⟩ rfl (Nat.le_of_ble_eq_true rfl) dL_law_929) hS (fun q hq => gAr_up hB hlp hq) (fun r1 H1 locs q1 k1 hS => ?_)
  obtain ⟨e1, hW⟩ := q1
  have hCN := (gCW_v.mp hW).2
  have h4 := (gCW_v.mp hW).1
  have hLf := gLfs_step h6 hLf hk1 h4 hcl k1
  have zM := gMA_free zM k1 (fun q a _ => gAr_no hlp a)
  refine lv_aload_n hx hb dL_law_932 rfl (lv_at hl 1 rfl) ?_
  refine lv_aload_n hx hb dL_law_933 rfl (lv_at hl 3 rfl) ?_
  refine lv_iload_n hx hb dL_law_934 rfl (lv_at hl 0 rfl) ?_
  refine lv_iconst (v := 1) hx hb dL_law_935 (by decide) ?_
  refine lv_iadd hx hb dL_law_936 ?_
  refine g_sld (j := (6 * k) + 1) hx hb hX hbl hS (gAdd rfl rfl) (by omega) hL dL_law_937 ?_
  refine lv_aload_n hx hb dL_law_938 rfl (lv_at hl 3 rfl) ?_
  refine lv_iload_n hx hb dL_law_939 rfl (lv_at hl 0 rfl) ?_
  refine lv_iconst (v := 2) hx hb dL_law_940 (by decide) ?_
  refine lv_iadd hx hb dL_law_941 ?_
  refine g_sld (j := (6 * k) + 2) hx hb hX hbl hS (gAdd rfl rfl) (by omega) hL dL_law_942 ?_
  refine lv_aload_n hx hb dL_law_943 rfl (lv_at hl 3 rfl) ?_
  refine lv_iload_n hx hb dL_law_944 rfl (lv_at hl 0 rfl) ?_
  refine lv_iconst (v := 3) hx hb dL_law_945 (by decide) ?_
  refine lv_iadd hx hb dL_law_946 ?_
  refine g_sld (j := (6 * k) + 3) hx hb hX hbl hS (gAdd rfl rfl) (by omega) hL dL_law_947 ?_
  obtain ⟨fs9, hat⟩ := gMA_at zM
  obtain ⟨sA, s7, zM⟩ := zM
  refine g_ki (g_runV (T := TX12) (ci := 12) (N := 45) (rest := [.int r1]) hx hb hml hown hE hT (c_X12_act l G (B + 156) π μ (gR (gR f 10 sA) 7 s7) g n hz hn (fun k hk => hki k (by omega)) (xs ((6 * k) + 1)) (xs ((6 * k) + 2)) (xs ((6 * k) + 3))) gM_X12_act gm_L_123 gi_X12_act gs_RX12_yX12_act_yX12_act rfl hat zM rfl hl.1 ⟨rfl, rfl⟩ ⟨Nat.le_of_ble_eq_true rfl, Nat.le_of_ble_eq_true rfl⟩ ⟨Nat.le_of_ble_eq_true rfl, Nat.le_of_ble_eq_true rfl⟩ rfl (Nat.le_of_ble_eq_true rfl) dL_law_948) hS (fun q h => Nat.le_trans hB (Nat.le_trans (Nat.le_add_right _ _) h.1)) (fun r2 H2 locs q2 k2 hS => ?_)
  obtain ⟨e2, zM⟩ := q2
  have zM : gMA G (B + 156) π (gqAct π μ (xs (6 * k + 1)) (xs (6 * k + 2)) (xs (6 * k + 3))).2 f g H2 := ⟨sA, s7, zM⟩
  obtain ⟨hCN, hLf⟩ := gWC_free h6 ⟨hCN, hLf⟩ k2 (fun q _ a h => absurd a (Nat.not_lt.mpr h.1))
  refine lv_icmp_eq (tgt := 1248) hx hb dL_law_951 (by decide) (fun _ => ?_) (fun c9 => absurd (e1.trans e2.symm) c9)
  exact kk _ _ _ ⟨π, πk, (gqAct π μ (xs (6 * k + 1)) (xs (6 * k + 2)) (xs (6 * k + 3))).2, (gqActA π α (xs (6 * k + 1)) (xs (6 * k + 2)) (xs (6 * k + 3))), f, g, lc, lp, lk, A, acc, acck, ⟨hI, hIk, (gTA_act hTA), gAct_n, (gTpe_same (gAct_r (by decide) (by decide)) (gAct_r (by decide) (by decide)) hTs), ⟨tn, (gAct_4 (by decide)).trans htn, by rw [gAct_r (by decide) (by decide)]; exact hTn⟩, ((gAct_4 (by decide)).trans hlc), h6, hk1, hk2, hRL, (fun h9 => him (fun z9 => h9 ((gAct_4 (by decide)).trans z9)))⟩, ⟨(gCN_mu (gAct_r (by decide) (by decide)) (gAct_r (by decide) (by decide)) (gAct_r (by decide) (by decide)) (gAct_4 (by decide)) (gAct_4 (by decide)) (gAct_4 (by decide)) hCN), hLf⟩, zM⟩ hS hl

set_option maxHeartbeats 4000000 in
set_option maxRecDepth 100000 in
theorem law_see {p : Program} {l : Launch} {e : Env} {s : State} {m : MethodId} {below : List Frame} {meth : Method} {c : Code} {G : gW} {b0 L : Nat} {xs : Nat → Int32} (hL : L ≤ 3072) (C0 : gLC G p s m meth c b0 L xs) {k B : Nat} (hk6 : 6 * k + 6 ≤ L) (hB : s.heap.size ≤ B) {H : Heap} {locs : List Loc} (hw : gWo G B (B + 156) H) (hS : va_S (fun q => s.heap.size ≤ q) s.heap H locs) {ls : Array Slot} (hl : lv_has ls 4 [(3, .int (nI (6 * k))), (2, .ref (B + 156)), (1, .ref B), (0, .ref b0)]) {Q : State → Prop} (kk : ∀ (H1 : Heap) (locs1 : List Loc) (ls1 : Array Slot), gWo G B (B + 156) H1 → va_S (fun q => s.heap.size ≤ q) s.heap H1 locs1 → lv_has ls1 4 [(3, .int (nI (6 * k))), (2, .ref (B + 156)), (1, .ref B), (0, .ref b0)] → W p l e room_1 s m #[Value.ref b0] below meth c H1 locs1 186 5311 Q (F0 m 1248 ls1 [])) : W p l e room_1 s m #[Value.ref b0] below meth c H locs 186 5311 Q (F0 m 602 ls []) := by
  obtain ⟨hx, hb, hml, hown, hT, hX, hbl, hE2, hG9⟩ := C0
  have hE := hE2.1
  have hK := hE.2.1
  obtain ⟨π, πk, μ, α, f, g, lc, lp, lk, A, acc, acck, ⟨hI, hIk, hTA, ⟨rn, hrn, hr9⟩, hTs, ⟨tn, htn, hTn⟩, hlc, h6, hk1, hk2, hRL, him⟩, ⟨hCN, hLf⟩, zM⟩ := hw
  obtain ⟨⟨f2, h4, hcl⟩, hlp⟩ := gLfs_open h6 hLf hk1
  have hh := gHold_of h6 hk1 hRL
  obtain ⟨⟨n, hn, hz, -⟩, hki, ⟨sn, hsn, hs9, hsp⟩, ⟨pn, hpn, hp9, hpok⟩, ⟨bn, hbn, hb9, hbk⟩, -⟩ := id hI
  refine lv_aload_n hx hb dL_law_602 rfl (lv_at hl 2 rfl) ?_
  refine lv_aload_n hx hb dL_law_603 rfl (lv_at hl 3 rfl) ?_
  refine lv_iload_n hx hb dL_law_604 rfl (lv_at hl 0 rfl) ?_
  refine lv_iconst (v := 1) hx hb dL_law_605 (by decide) ?_
  refine lv_iadd hx hb dL_law_606 ?_
  refine g_sld (j := (6 * k) + 1) hx hb hX hbl hS (gAdd rfl rfl) (by omega) hL dL_law_607 ?_
  refine lv_aload_n hx hb dL_law_608 rfl (lv_at hl 3 rfl) ?_
  refine lv_iload_n hx hb dL_law_609 rfl (lv_at hl 0 rfl) ?_
  refine lv_iconst (v := 2) hx hb dL_law_610 (by decide) ?_
  refine lv_iadd hx hb dL_law_611 ?_
  refine g_sld (j := (6 * k) + 2) hx hb hX hbl hS (gAdd rfl rfl) (by omega) hL dL_law_612 ?_
  refine lv_aload_n hx hb dL_law_613 rfl (lv_at hl 3 rfl) ?_
  refine lv_iload_n hx hb dL_law_614 rfl (lv_at hl 0 rfl) ?_
  refine lv_iconst (v := 3) hx hb dL_law_615 (by decide) ?_
  refine lv_iadd hx hb dL_law_616 ?_
  refine g_sld (j := (6 * k) + 3) hx hb hX hbl hS (gAdd rfl rfl) (by omega) hL dL_law_617 ?_
  refine lv_if_eq (tgt := 625) hx hb dL_law_618 (by decide) (fun c1 => ?_) (fun c1 => ?_)
  · refine lv_iconst (v := 0) hx hb dL_law_625 (by decide) ?_
    refine g_ki (g_runV (T := TX11) (ci := 11) (N := 13) (rest := []) hx hb hml hown hE hT (c_X11_see l G B lp π πk f2 μ α lk g acc hcl hI hlp  (xs ((6 * k) + 1)) (xs ((6 * k) + 2)) 0) gM_X11_see gm_L_73 gi_X11_see gs_RX11_yX11_see_yX11_see rfl (gCN_at hCN) (gCW_v.mpr ⟨h4, hCN⟩) rfl hl.1 ⟨rfl, rfl⟩ ⟨Nat.le_of_ble_eq_true rfl, Nat.le_of_ble_eq_true rfl⟩ ⟨Nat.le_of_ble_eq_true rfl, Nat.le_of_ble_eq_true rfl⟩ rfl (Nat.le_of_ble_eq_true rfl) dL_law_626) hS (fun q hq => gAr_up hB hlp hq) (fun r1 H1 locs q1 k1 hS => ?_)
    obtain ⟨e1, hW⟩ := q1
    have hCN := (gCW_v.mp hW).2
    have h4 := (gCW_v.mp hW).1
    have hLf := gLfs_step h6 hLf hk1 h4 hcl k1
    have zM := gMA_free zM k1 (fun q a _ => gAr_no hlp a)
    refine lv_aload_n hx hb dL_law_629 rfl (lv_at hl 1 rfl) ?_
    refine lv_aload_n hx hb dL_law_630 rfl (lv_at hl 3 rfl) ?_
    refine lv_iload_n hx hb dL_law_631 rfl (lv_at hl 0 rfl) ?_
    refine lv_iconst (v := 1) hx hb dL_law_632 (by decide) ?_
    refine lv_iadd hx hb dL_law_633 ?_
    refine g_sld (j := (6 * k) + 1) hx hb hX hbl hS (gAdd rfl rfl) (by omega) hL dL_law_634 ?_
    refine lv_aload_n hx hb dL_law_635 rfl (lv_at hl 3 rfl) ?_
    refine lv_iload_n hx hb dL_law_636 rfl (lv_at hl 0 rfl) ?_
    refine lv_iconst (v := 2) hx hb dL_law_637 (by decide) ?_
    refine lv_iadd hx hb dL_law_638 ?_
    refine g_sld (j := (6 * k) + 2) hx hb hX hbl hS (gAdd rfl rfl) (by omega) hL dL_law_639 ?_
    refine lv_aload_n hx hb dL_law_640 rfl (lv_at hl 3 rfl) ?_
    refine lv_iload_n hx hb dL_law_641 rfl (lv_at hl 0 rfl) ?_
    refine lv_iconst (v := 3) hx hb dL_law_642 (by decide) ?_
    refine lv_iadd hx hb dL_law_643 ?_
    refine g_sld (j := (6 * k) + 3) hx hb hX hbl hS (gAdd rfl rfl) (by omega) hL dL_law_644 ?_
    refine lv_if_eq (tgt := 652) hx hb dL_law_645 (by decide) (fun c2 => ?_) (fun c2 => ?_)
    · refine lv_iconst (v := 0) hx hb dL_law_652 (by decide) ?_
      obtain ⟨fs9, hat⟩ := gMA_at zM
      obtain ⟨sA, s7, zM⟩ := zM
      refine g_ki (g_runV (T := TX12) (ci := 12) (N := 45) (rest := [.int r1]) hx hb hml hown hE hT (c_X12_see l G (B + 156) π μ (gR (gR f 10 sA) 7 s7) g n hz hn sn hs9 hsn (xs ((6 * k) + 1)) (xs ((6 * k) + 2)) 0) gM_X12_see gm_L_77 gi_X12_see gs_RX12_yX12_see_yX12_see rfl hat zM rfl hl.1 ⟨rfl, rfl⟩ ⟨Nat.le_of_ble_eq_true rfl, Nat.le_of_ble_eq_true rfl⟩ ⟨Nat.le_of_ble_eq_true rfl, Nat.le_of_ble_eq_true rfl⟩ rfl (Nat.le_of_ble_eq_true rfl) dL_law_653) hS (fun q h => Nat.le_trans hB (Nat.le_trans (Nat.le_add_right _ _) h.1)) (fun r2 H2 locs q2 k2 hS => ?_)
      obtain ⟨e2, zM⟩ := q2
      have zM : gMA G (B + 156) (gqSee π (xs ((6 * k) + 1)) (xs ((6 * k) + 2)) 0).2 μ f g H2 := ⟨sA, s7, zM⟩
      obtain ⟨hCN, hLf⟩ := gWC_free h6 ⟨hCN, hLf⟩ k2 (fun q _ a h => absurd a (Nat.not_lt.mpr h.1))
      refine lv_icmp_eq (tgt := 1248) hx hb dL_law_656 (by decide) (fun _ => ?_) (fun c9 => absurd (e1.trans e2.symm) c9)
      exact kk _ _ _ ⟨(gqSee π (xs ((6 * k) + 1)) (xs ((6 * k) + 2)) 0).2, πk, μ, α, f, g, lc, lp, lk, A, acc, acck, ⟨(gInv_see hI), hIk, hTA, ⟨rn, hrn, hr9⟩, hTs, ⟨tn, htn, hTn⟩, hlc, h6, (gLk_same hk1 gH_see), hk2, hRL, him⟩, ⟨hCN, hLf⟩, zM⟩ hS hl
    · exact absurd c1 c2
  · refine lv_iconst (v := 1) hx hb dL_law_621 (by decide) ?_
    refine lv_goto (tgt := 626) hx hb dL_law_622 (by decide) ?_
    refine g_ki (g_runV (T := TX11) (ci := 11) (N := 13) (rest := []) hx hb hml hown hE hT (c_X11_see l G B lp π πk f2 μ α lk g acc hcl hI hlp  (xs ((6 * k) + 1)) (xs ((6 * k) + 2)) 1) gM_X11_see gm_L_73 gi_X11_see gs_RX11_yX11_see_yX11_see rfl (gCN_at hCN) (gCW_v.mpr ⟨h4, hCN⟩) rfl hl.1 ⟨rfl, rfl⟩ ⟨Nat.le_of_ble_eq_true rfl, Nat.le_of_ble_eq_true rfl⟩ ⟨Nat.le_of_ble_eq_true rfl, Nat.le_of_ble_eq_true rfl⟩ rfl (Nat.le_of_ble_eq_true rfl) dL_law_626) hS (fun q hq => gAr_up hB hlp hq) (fun r1 H1 locs q1 k1 hS => ?_)
    obtain ⟨e1, hW⟩ := q1
    have hCN := (gCW_v.mp hW).2
    have h4 := (gCW_v.mp hW).1
    have hLf := gLfs_step h6 hLf hk1 h4 hcl k1
    have zM := gMA_free zM k1 (fun q a _ => gAr_no hlp a)
    refine lv_aload_n hx hb dL_law_629 rfl (lv_at hl 1 rfl) ?_
    refine lv_aload_n hx hb dL_law_630 rfl (lv_at hl 3 rfl) ?_
    refine lv_iload_n hx hb dL_law_631 rfl (lv_at hl 0 rfl) ?_
    refine lv_iconst (v := 1) hx hb dL_law_632 (by decide) ?_
    refine lv_iadd hx hb dL_law_633 ?_
    refine g_sld (j := (6 * k) + 1) hx hb hX hbl hS (gAdd rfl rfl) (by omega) hL dL_law_634 ?_
    refine lv_aload_n hx hb dL_law_635 rfl (lv_at hl 3 rfl) ?_
    refine lv_iload_n hx hb dL_law_636 rfl (lv_at hl 0 rfl) ?_
    refine lv_iconst (v := 2) hx hb dL_law_637 (by decide) ?_
    refine lv_iadd hx hb dL_law_638 ?_
    refine g_sld (j := (6 * k) + 2) hx hb hX hbl hS (gAdd rfl rfl) (by omega) hL dL_law_639 ?_
    refine lv_aload_n hx hb dL_law_640 rfl (lv_at hl 3 rfl) ?_
    refine lv_iload_n hx hb dL_law_641 rfl (lv_at hl 0 rfl) ?_
    refine lv_iconst (v := 3) hx hb dL_law_642 (by decide) ?_
    refine lv_iadd hx hb dL_law_643 ?_
    refine g_sld (j := (6 * k) + 3) hx hb hX hbl hS (gAdd rfl rfl) (by omega) hL dL_law_644 ?_
    refine lv_if_eq (tgt := 652) hx hb dL_law_645 (by decide) (fun c3 => ?_) (fun c3 => ?_)
    · exact absurd c3 c1
    · refine lv_iconst (v := 1) hx hb dL_law_648 (by decide) ?_
      refine lv_goto (tgt := 653) hx hb dL_law_649 (by decide) ?_
      obtain ⟨fs9, hat⟩ := gMA_at zM
      obtain ⟨sA, s7, zM⟩ := zM
      refine g_ki (g_runV (T := TX12) (ci := 12) (N := 45) (rest := [.int r1]) hx hb hml hown hE hT (c_X12_see l G (B + 156) π μ (gR (gR f 10 sA) 7 s7) g n hz hn sn hs9 hsn (xs ((6 * k) + 1)) (xs ((6 * k) + 2)) 1) gM_X12_see gm_L_77 gi_X12_see gs_RX12_yX12_see_yX12_see rfl hat zM rfl hl.1 ⟨rfl, rfl⟩ ⟨Nat.le_of_ble_eq_true rfl, Nat.le_of_ble_eq_true rfl⟩ ⟨Nat.le_of_ble_eq_true rfl, Nat.le_of_ble_eq_true rfl⟩ rfl (Nat.le_of_ble_eq_true rfl) dL_law_653) hS (fun q h => Nat.le_trans hB (Nat.le_trans (Nat.le_add_right _ _) h.1)) (fun r2 H2 locs q2 k2 hS => ?_)
      obtain ⟨e2, zM⟩ := q2
      have zM : gMA G (B + 156) (gqSee π (xs ((6 * k) + 1)) (xs ((6 * k) + 2)) 1).2 μ f g H2 := ⟨sA, s7, zM⟩
      obtain ⟨hCN, hLf⟩ := gWC_free h6 ⟨hCN, hLf⟩ k2 (fun q _ a h => absurd a (Nat.not_lt.mpr h.1))
      refine lv_icmp_eq (tgt := 1248) hx hb dL_law_656 (by decide) (fun _ => ?_) (fun c9 => absurd (e1.trans e2.symm) c9)
      exact kk _ _ _ ⟨(gqSee π (xs ((6 * k) + 1)) (xs ((6 * k) + 2)) 1).2, πk, μ, α, f, g, lc, lp, lk, A, acc, acck, ⟨(gInv_see hI), hIk, hTA, ⟨rn, hrn, hr9⟩, hTs, ⟨tn, htn, hTn⟩, hlc, h6, (gLk_same hk1 gH_see), hk2, hRL, him⟩, ⟨hCN, hLf⟩, zM⟩ hS hl

set_option maxHeartbeats 4000000 in
set_option maxRecDepth 100000 in
theorem law_item {p : Program} {l : Launch} {e : Env} {s : State} {m : MethodId} {below : List Frame} {meth : Method} {c : Code} {G : gW} {b0 L : Nat} {xs : Nat → Int32} (hL : L ≤ 3072) (C0 : gLC G p s m meth c b0 L xs) {k B : Nat} (hk6 : 6 * k + 6 ≤ L) (hB : s.heap.size ≤ B) {H : Heap} {locs : List Loc} (hw : gWo G B (B + 156) H) (hS : va_S (fun q => s.heap.size ≤ q) s.heap H locs) {ls : Array Slot} (hl : lv_has ls 4 [(3, .int (nI (6 * k))), (2, .ref (B + 156)), (1, .ref B), (0, .ref b0)]) {Q : State → Prop} (kk : ∀ (H1 : Heap) (locs1 : List Loc) (ls1 : Array Slot), gWo G B (B + 156) H1 → va_S (fun q => s.heap.size ≤ q) s.heap H1 locs1 → lv_has ls1 4 [(3, .int (nI (6 * k))), (2, .ref (B + 156)), (1, .ref B), (0, .ref b0)] → W p l e room_1 s m #[Value.ref b0] below meth c H1 locs1 186 5311 Q (F0 m 1248 ls1 [])) : W p l e room_1 s m #[Value.ref b0] below meth c H locs 186 5311 Q (F0 m 1078 ls []) := by
  obtain ⟨hx, hb, hml, hown, hT, hX, hbl, hE2, hG9⟩ := C0
  have hE := hE2.1
  have hK := hE.2.1
  obtain ⟨π, πk, μ, α, f, g, lc, lp, lk, A, acc, acck, ⟨hI, hIk, hTA, ⟨rn, hrn, hr9⟩, hTs, ⟨tn, htn, hTn⟩, hlc, h6, hk1, hk2, hRL, him⟩, ⟨hCN, hLf⟩, zM⟩ := hw
  obtain ⟨⟨f2, h4, hcl⟩, hlp⟩ := gLfs_open h6 hLf hk1
  have hh := gHold_of h6 hk1 hRL
  obtain ⟨⟨n, hn, hz, -⟩, hki, ⟨sn, hsn, hs9, hsp⟩, ⟨pn, hpn, hp9, hpok⟩, ⟨bn, hbn, hb9, hbk⟩, -⟩ := id hI
  refine lv_aload_n hx hb dL_law_1078 rfl (lv_at hl 2 rfl) ?_
  refine lv_aload_n hx hb dL_law_1079 rfl (lv_at hl 3 rfl) ?_
  refine lv_iload_n hx hb dL_law_1080 rfl (lv_at hl 0 rfl) ?_
  refine lv_iconst (v := 1) hx hb dL_law_1081 (by decide) ?_
  refine lv_iadd hx hb dL_law_1082 ?_
  refine g_sld (j := (6 * k) + 1) hx hb hX hbl hS (gAdd rfl rfl) (by omega) hL dL_law_1083 ?_
  refine lv_aload_n hx hb dL_law_1084 rfl (lv_at hl 3 rfl) ?_
  refine lv_iload_n hx hb dL_law_1085 rfl (lv_at hl 0 rfl) ?_
  refine lv_iconst (v := 2) hx hb dL_law_1086 (by decide) ?_
  refine lv_iadd hx hb dL_law_1087 ?_
  refine g_sld (j := (6 * k) + 2) hx hb hX hbl hS (gAdd rfl rfl) (by omega) hL dL_law_1088 ?_
  refine lv_aload_n hx hb dL_law_1089 rfl (lv_at hl 3 rfl) ?_
  refine lv_iload_n hx hb dL_law_1090 rfl (lv_at hl 0 rfl) ?_
  refine lv_iconst (v := 3) hx hb dL_law_1091 (by decide) ?_
  refine lv_iadd hx hb dL_law_1092 ?_
  refine g_sld (j := (6 * k) + 3) hx hb hX hbl hS (gAdd rfl rfl) (by omega) hL dL_law_1093 ?_
  refine lv_i2l hx hb dL_law_1094 rfl ?_
  refine lv_bipush (v := 32) hx hb dL_law_1095 (by decide) ?_
  refine lv_lshl hx hb dL_law_1097 rfl ?_
  refine lv_aload_n hx hb dL_law_1098 rfl (lv_at hl 3 rfl) ?_
  refine lv_iload_n hx hb dL_law_1099 rfl (lv_at hl 0 rfl) ?_
  refine lv_iconst (v := 4) hx hb dL_law_1100 (by decide) ?_
  refine lv_iadd hx hb dL_law_1101 ?_
  refine g_sld (j := (6 * k) + 4) hx hb hX hbl hS (gAdd rfl rfl) (by omega) hL dL_law_1102 ?_
  refine lv_i2l hx hb dL_law_1103 rfl ?_
  refine lv_ldc2 (v := 4294967295) hx hb hown (hT _ gl_L_140) dL_law_1104 ?_
  refine lv_land hx hb dL_law_1107 ?_
  refine lv_lor hx hb dL_law_1108 ?_
  refine g_ki (g_runV (T := TX11) (ci := 11) (N := 13) (rest := []) hx hb hml hown hE hT (c_X11_item l G B lp π πk f2 μ α lk g acc hcl hI hlp hTs (xs ((6 * k) + 1)) (xs ((6 * k) + 2)) ((((xs ((6 * k) + 3)).toInt64) <<< ((32 : Int32).toInt64 &&& 63)) ||| (((xs ((6 * k) + 4)).toInt64) &&& 4294967295))) gM_X11_item gm_L_142 gi_X11_item gs_RX11_yX11_item_yX11_item rfl (gCN_at hCN) (gCW_v.mpr ⟨h4, hCN⟩) rfl hl.1 ⟨rfl, rfl⟩ ⟨Nat.le_of_ble_eq_true rfl, Nat.le_of_ble_eq_true rfl⟩ ⟨Nat.le_of_ble_eq_true rfl, Nat.le_of_ble_eq_true rfl⟩ rfl (Nat.le_of_ble_eq_true rfl) dL_law_1109) hS (fun q hq => gAr_up hB hlp hq) (fun r1 H1 locs q1 k1 hS => ?_)
  obtain ⟨e1, hW⟩ := q1
  have hCN := (gCW_v.mp hW).2
  have h4 := (gCW_v.mp hW).1
  have hLf := gLfs_step h6 hLf hk1 h4 hcl k1
  have zM := gMA_free zM k1 (fun q a _ => gAr_no hlp a)
  refine lv_aload_n hx hb dL_law_1112 rfl (lv_at hl 1 rfl) ?_
  refine lv_aload_n hx hb dL_law_1113 rfl (lv_at hl 3 rfl) ?_
  refine lv_iload_n hx hb dL_law_1114 rfl (lv_at hl 0 rfl) ?_
  refine lv_iconst (v := 1) hx hb dL_law_1115 (by decide) ?_
  refine lv_iadd hx hb dL_law_1116 ?_
  refine g_sld (j := (6 * k) + 1) hx hb hX hbl hS (gAdd rfl rfl) (by omega) hL dL_law_1117 ?_
  refine lv_aload_n hx hb dL_law_1118 rfl (lv_at hl 3 rfl) ?_
  refine lv_iload_n hx hb dL_law_1119 rfl (lv_at hl 0 rfl) ?_
  refine lv_iconst (v := 2) hx hb dL_law_1120 (by decide) ?_
  refine lv_iadd hx hb dL_law_1121 ?_
  refine g_sld (j := (6 * k) + 2) hx hb hX hbl hS (gAdd rfl rfl) (by omega) hL dL_law_1122 ?_
  refine lv_aload_n hx hb dL_law_1123 rfl (lv_at hl 3 rfl) ?_
  refine lv_iload_n hx hb dL_law_1124 rfl (lv_at hl 0 rfl) ?_
  refine lv_iconst (v := 3) hx hb dL_law_1125 (by decide) ?_
  refine lv_iadd hx hb dL_law_1126 ?_
  refine g_sld (j := (6 * k) + 3) hx hb hX hbl hS (gAdd rfl rfl) (by omega) hL dL_law_1127 ?_
  refine lv_i2l hx hb dL_law_1128 rfl ?_
  refine lv_bipush (v := 32) hx hb dL_law_1129 (by decide) ?_
  refine lv_lshl hx hb dL_law_1131 rfl ?_
  refine lv_aload_n hx hb dL_law_1132 rfl (lv_at hl 3 rfl) ?_
  refine lv_iload_n hx hb dL_law_1133 rfl (lv_at hl 0 rfl) ?_
  refine lv_iconst (v := 4) hx hb dL_law_1134 (by decide) ?_
  refine lv_iadd hx hb dL_law_1135 ?_
  refine g_sld (j := (6 * k) + 4) hx hb hX hbl hS (gAdd rfl rfl) (by omega) hL dL_law_1136 ?_
  refine lv_i2l hx hb dL_law_1137 rfl ?_
  refine lv_ldc2 (v := 4294967295) hx hb hown (hT _ gl_L_140) dL_law_1138 ?_
  refine lv_land hx hb dL_law_1141 ?_
  refine lv_lor hx hb dL_law_1142 ?_
  obtain ⟨fs9, hat⟩ := gMA_at zM
  obtain ⟨sA, s7, zM⟩ := zM
  refine g_ki (g_runV (T := TX12) (ci := 12) (N := 45) (rest := [.int r1]) hx hb hml hown hE hT (c_X12_item l G (B + 156) π μ (gR (gR f 10 sA) 7 s7) g (gTpe_z hTs) (xs ((6 * k) + 1)) (xs ((6 * k) + 2)) ((((xs ((6 * k) + 3)).toInt64) <<< ((32 : Int32).toInt64 &&& 63)) ||| (((xs ((6 * k) + 4)).toInt64) &&& 4294967295))) gM_X12_item gm_L_146 gi_X12_item gs_RX12_yX12_item_yX12_item rfl hat zM rfl hl.1 ⟨rfl, rfl⟩ ⟨Nat.le_of_ble_eq_true rfl, Nat.le_of_ble_eq_true rfl⟩ ⟨Nat.le_of_ble_eq_true rfl, Nat.le_of_ble_eq_true rfl⟩ rfl (Nat.le_of_ble_eq_true rfl) dL_law_1143) hS (fun q h => Nat.le_trans hB (Nat.le_trans (Nat.le_add_right _ _) h.1)) (fun r2 H2 locs q2 k2 hS => ?_)
  obtain ⟨e2, zM⟩ := q2
  have zM : gMA G (B + 156) π μ f (gqItem μ g (xs ((6 * k) + 1)) (xs ((6 * k) + 2)) ((((xs ((6 * k) + 3)).toInt64) <<< ((32 : Int32).toInt64 &&& 63)) ||| (((xs ((6 * k) + 4)).toInt64) &&& 4294967295))).2 H2 := ⟨sA, s7, zM⟩
  obtain ⟨hCN, hLf⟩ := gWC_free h6 ⟨hCN, hLf⟩ k2 (fun q _ a h => absurd a (Nat.not_lt.mpr h.1))
  refine lv_icmp_eq (tgt := 1248) hx hb dL_law_1146 (by decide) (fun _ => ?_) (fun c9 => absurd (e1.trans e2.symm) c9)
  exact kk _ _ _ ⟨π, πk, μ, α, f, (gqItem μ g (xs ((6 * k) + 1)) (xs ((6 * k) + 2)) ((((xs ((6 * k) + 3)).toInt64) <<< ((32 : Int32).toInt64 &&& 63)) ||| (((xs ((6 * k) + 4)).toInt64) &&& 4294967295))).2, lc, lp, lk, A, acc, acck, ⟨hI, hIk, hTA, ⟨rn, hrn, hr9⟩, hTs, ⟨tn, htn, hTn⟩, hlc, h6, hk1, hk2, hRL, him⟩, ⟨hCN, hLf⟩, zM⟩ hS hl

set_option maxHeartbeats 4000000 in
set_option maxRecDepth 100000 in
theorem law_image {p : Program} {l : Launch} {e : Env} {s : State} {m : MethodId} {below : List Frame} {meth : Method} {c : Code} {G : gW} {b0 L : Nat} {xs : Nat → Int32} (hL : L ≤ 3072) (C0 : gLC G p s m meth c b0 L xs) {k B : Nat} (hk6 : 6 * k + 6 ≤ L) (hB : s.heap.size ≤ B) {H : Heap} {locs : List Loc} (hw : gWo G B (B + 156) H) (hS : va_S (fun q => s.heap.size ≤ q) s.heap H locs) {ls : Array Slot} (hl : lv_has ls 4 [(3, .int (nI (6 * k))), (2, .ref (B + 156)), (1, .ref B), (0, .ref b0)]) {Q : State → Prop} (kk : ∀ (H1 : Heap) (locs1 : List Loc) (ls1 : Array Slot), gWo G B (B + 156) H1 → va_S (fun q => s.heap.size ≤ q) s.heap H1 locs1 → lv_has ls1 4 [(3, .int (nI (6 * k))), (2, .ref (B + 156)), (1, .ref B), (0, .ref b0)] → W p l e room_1 s m #[Value.ref b0] below meth c H1 locs1 186 5311 Q (F0 m 1248 ls1 [])) : W p l e room_1 s m #[Value.ref b0] below meth c H locs 186 5311 Q (F0 m 887 ls []) := by
  obtain ⟨hx, hb, hml, hown, hT, hX, hbl, hE2, hG9⟩ := C0
  have hE := hE2.1
  have hK := hE.2.1
  obtain ⟨π, πk, μ, α, f, g, lc, lp, lk, A, acc, acck, ⟨hI, hIk, hTA, ⟨rn, hrn, hr9⟩, hTs, ⟨tn, htn, hTn⟩, hlc, h6, hk1, hk2, hRL, him⟩, ⟨hCN, hLf⟩, zM⟩ := hw
  obtain ⟨⟨f2, h4, hcl⟩, hlp⟩ := gLfs_open h6 hLf hk1
  have hh := gHold_of h6 hk1 hRL
  obtain ⟨⟨n, hn, hz, -⟩, hki, ⟨sn, hsn, hs9, hsp⟩, ⟨pn, hpn, hp9, hpok⟩, ⟨bn, hbn, hb9, hbk⟩, -⟩ := id hI
  refine lv_aload_n hx hb dL_law_887 rfl (lv_at hl 2 rfl) ?_
  refine g_ki (g_runV (T := TX11) (ci := 11) (N := 13) (rest := []) hx hb hml hown hE hT (c_X11_image l G B lp π πk f2 μ α lk g acc hcl hI hlp  ) gM_X11_image gm_L_112 gi_X11_image gs_RX11_yX11_image_yX11_image rfl (gCN_at hCN) (gCW_v.mpr ⟨h4, hCN⟩) rfl hl.1 ⟨rfl, rfl⟩ ⟨Nat.le_of_ble_eq_true rfl, Nat.le_of_ble_eq_true rfl⟩ ⟨Nat.le_of_ble_eq_true rfl, Nat.le_of_ble_eq_true rfl⟩ rfl (Nat.le_of_ble_eq_true rfl) dL_law_888) hS (fun q hq => gAr_up hB hlp hq) (fun r1 H1 locs q1 k1 hS => ?_)
  obtain ⟨e1, hW⟩ := q1
  have hCN := (gCW_v.mp hW).2
  have h4 := (gCW_v.mp hW).1
  have hLf := gLfs_step h6 hLf hk1 h4 hcl k1
  have zM := gMA_free zM k1 (fun q a _ => gAr_no hlp a)
  refine lv_aload_n hx hb dL_law_891 rfl (lv_at hl 1 rfl) ?_
  obtain ⟨fs9, hat⟩ := gMA_at zM
  obtain ⟨sA, s7, zM⟩ := zM
  refine g_ki (g_runV (T := TX12) (ci := 12) (N := 45) (rest := [.int r1]) hx hb hml hown hE hT (c_X12_image l G (B + 156) π μ (gR (gR f 10 sA) 7 s7) g  ) gM_X12_image gm_L_115 gi_X12_image gs_RX12_yX12_image_yX12_image rfl hat zM rfl hl.1 ⟨rfl, rfl⟩ ⟨Nat.le_of_ble_eq_true rfl, Nat.le_of_ble_eq_true rfl⟩ ⟨Nat.le_of_ble_eq_true rfl, Nat.le_of_ble_eq_true rfl⟩ rfl (Nat.le_of_ble_eq_true rfl) dL_law_892) hS (fun q h => Nat.le_trans hB (Nat.le_trans (Nat.le_add_right _ _) h.1)) (fun r2 H2 locs q2 k2 hS => ?_)
  obtain ⟨e2, zM⟩ := q2
  have zM : gMA G (B + 156) π (gU μ 4 2 1) (gR f 9 (gEn π)) g H2 := ⟨sA, s7, zM⟩
  obtain ⟨hCN, hLf⟩ := gWC_free h6 ⟨hCN, hLf⟩ k2 (fun q _ a h => absurd a (Nat.not_lt.mpr h.1))
  refine lv_icmp_eq (tgt := 1248) hx hb dL_law_895 (by decide) (fun _ => ?_) (fun c9 => absurd (e1.trans e2.symm) c9)
  exact kk _ _ _ ⟨π, π, (gU μ 4 2 1), α, (gR f 9 (gEn π)), g, lc, lp, lp, A, acc, acc, ⟨hI, hI, ⟨hTA.1.trans (gU_ne (by decide)).symm, hTA.2.trans (gU_o (by decide)).symm⟩, ⟨rn, hrn, (gU_o (by decide)).trans hr9⟩, (gTpe_same (gU_ne (by decide)) (gU_ne (by decide)) hTs), ⟨tn, (gU_o (by decide)).trans htn, by rw [gU_ne (by decide)]; exact hTn⟩, ((gU_o (by decide)).trans hlc), h6, hk1, hk1, hRL, (fun _ => rfl)⟩, ⟨hCN, hLf⟩, zM⟩ hS hl

set_option maxHeartbeats 4000000 in
set_option maxRecDepth 100000 in
theorem law_undo {p : Program} {l : Launch} {e : Env} {s : State} {m : MethodId} {below : List Frame} {meth : Method} {c : Code} {G : gW} {b0 L : Nat} {xs : Nat → Int32} (hL : L ≤ 3072) (C0 : gLC G p s m meth c b0 L xs) {k B : Nat} (hk6 : 6 * k + 6 ≤ L) (hB : s.heap.size ≤ B) {H : Heap} {locs : List Loc} (hw : gWo G B (B + 156) H) (hS : va_S (fun q => s.heap.size ≤ q) s.heap H locs) {ls : Array Slot} (hl : lv_has ls 4 [(3, .int (nI (6 * k))), (2, .ref (B + 156)), (1, .ref B), (0, .ref b0)]) {Q : State → Prop} (kk : ∀ (H1 : Heap) (locs1 : List Loc) (ls1 : Array Slot), gWo G B (B + 156) H1 → va_S (fun q => s.heap.size ≤ q) s.heap H1 locs1 → lv_has ls1 4 [(3, .int (nI (6 * k))), (2, .ref (B + 156)), (1, .ref B), (0, .ref b0)] → W p l e room_1 s m #[Value.ref b0] below meth c H1 locs1 186 5311 Q (F0 m 1248 ls1 [])) : W p l e room_1 s m #[Value.ref b0] below meth c H locs 186 5311 Q (F0 m 900 ls []) := by
  obtain ⟨hx, hb, hml, hown, hT, hX, hbl, hE2, hG9⟩ := C0
  have hE := hE2.1
  have hK := hE.2.1
  obtain ⟨π, πk, μ, α, f, g, lc, lp, lk, A, acc, acck, ⟨hI, hIk, hTA, ⟨rn, hrn, hr9⟩, hTs, ⟨tn, htn, hTn⟩, hlc, h6, hk1, hk2, hRL, him⟩, ⟨hCN, hLf⟩, zM⟩ := hw
  obtain ⟨⟨f2, h4, hcl⟩, hlp⟩ := gLfs_open h6 hLf hk1
  have hh := gHold_of h6 hk1 hRL
  obtain ⟨⟨n, hn, hz, -⟩, hki, ⟨sn, hsn, hs9, hsp⟩, ⟨pn, hpn, hp9, hpok⟩, ⟨bn, hbn, hb9, hbk⟩, -⟩ := id hI
  refine lv_aload_n hx hb dL_law_900 rfl (lv_at hl 2 rfl) ?_
  refine g_ki (g_runV (T := TX11) (ci := 11) (N := 13) (rest := []) hx hb hml hown hE hT (c_X11_undo l G B lp lk π πk μ α g hIk) gM_X11_undo gm_L_116 gi_X11_undo gs_RX11_yX11_undo_yX11_undo rfl (gCN_at hCN) hCN rfl hl.1 ⟨rfl, rfl⟩ ⟨Nat.le_of_ble_eq_true rfl, Nat.le_of_ble_eq_true rfl⟩ ⟨Nat.le_of_ble_eq_true rfl, Nat.le_of_ble_eq_true rfl⟩ rfl (Nat.le_of_ble_eq_true rfl) dL_law_901) hS (fun q hq => Nat.le_trans hB (Nat.le_trans (Nat.le_add_right _ _) hq.1)) (fun r1 H1 locs q1 k1 hS => ?_)
  obtain ⟨e1, hCN⟩ := q1
  have hLf := gLfs_free hLf k1 (fun q a _ _ _ _ h => absurd h.2 (Nat.not_lt.mpr a)) h6
  have zM := gMA_free zM k1 (fun q a _ h => absurd h.2 (Nat.not_lt.mpr (Nat.le_trans (Nat.add_le_add_left (by decide) B) a)))
  refine lv_aload_n hx hb dL_law_904 rfl (lv_at hl 1 rfl) ?_
  obtain ⟨fs9, hat⟩ := gMA_at zM
  obtain ⟨sA, s7, zM⟩ := zM
  refine g_ki (g_runV (T := TX12) (ci := 12) (N := 45) (rest := [.int r1]) hx hb hml hown hE hT (c_X12_undo l G (B + 156) π μ (gR (gR f 10 sA) 7 s7) g πk (fun h9 j _ => congrFun (him h9) j) ) gM_X12_undo gm_L_119 gi_X12_undo gs_RX12_yX12_undo_yX12_undo rfl hat zM rfl hl.1 ⟨rfl, rfl⟩ ⟨Nat.le_of_ble_eq_true rfl, Nat.le_of_ble_eq_true rfl⟩ ⟨Nat.le_of_ble_eq_true rfl, Nat.le_of_ble_eq_true rfl⟩ rfl (Nat.le_of_ble_eq_true rfl) dL_law_905) hS (fun q h => Nat.le_trans hB (Nat.le_trans (Nat.le_add_right _ _) h.1)) (fun r2 H2 locs q2 k2 hS => ?_)
  obtain ⟨e2, zM⟩ := q2
  have zM : gMA G (B + 156) (if μ 4 2 = 0 then π else πk) μ f g H2 := ⟨sA, s7, zM⟩
  obtain ⟨hCN, hLf⟩ := gWC_free h6 ⟨hCN, hLf⟩ k2 (fun q _ a h => absurd a (Nat.not_lt.mpr h.1))
  refine lv_icmp_eq (tgt := 1248) hx hb dL_law_908 (by decide) (fun _ => ?_) (fun c9 => absurd (e1.trans e2.symm) c9)
  exact kk _ _ _ ⟨(if μ 4 2 = 0 then π else πk), πk, μ, α, f, g, lc, (if μ 4 2 = 0 then lp else lk), lk, A, (if μ 4 2 = 0 then acc else acck), acck, ⟨(by split; exact hI; exact hIk), hIk, hTA, ⟨rn, hrn, hr9⟩, hTs, ⟨tn, htn, hTn⟩, hlc, h6, (by by_cases hm : μ 4 2 = 0; rw [if_pos hm, if_pos hm, if_pos hm]; exact hk1; rw [if_neg hm, if_neg hm, if_neg hm]; exact hk2), hk2, hRL, him⟩, ⟨hCN, hLf⟩, zM⟩ hS hl
