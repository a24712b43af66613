set_option maxHeartbeats 4000000 in
set_option maxRecDepth 100000 in
theorem c_X12_cheers (l : Launch) (G : gW) (b : Nat) (π μ f : gPS) (g : Nat → Int64) (sn : Nat) (hz3 : π 15 3 = nI sn) (hsn : sn ≤ 5) (hsp : ∀ k, k < sn → ∃ q, q < 6 ∧ π 8 k = nI q) (L : gLf) (hh : gHold π f L) (w : Nat) (hw : w < 12) : gCI l yX12_cheers cX12_cheers 5 .int (gRm 6 142) G [.ref b, .int (nI w)] (fun H => gM7 G b π μ f g H) (fun r H => r = gChs π L w sn 10 ∧ gM7 G b π μ f g H) (fun q => b ≤ q ∧ q < b + 30) := by
  refine g_start (by decide) (Nat.le_of_ble_eq_true rfl) ?_
  intro pp_ ee_ s mm_ aa_ below meth cc_ ls Q hQ hX hE hP hl
  obtain ⟨hx, hb, hr, hml, hown, hT, hlk, hnm⟩ := hX
  have hK := hE.2.1
  obtain ⟨s7, h1⟩ := hP
  have hS : va_S (fun q => b ≤ q ∧ q < b + 30) s.heap s.heap [] := va_S.rf
  have hl : lv_has ls 5 [(0, .ref b), (1, .int (nI w))] := hl
  refine lv_aload_n hx hb dX12_cheers_0 rfl (lv_at hl 0 rfl) ?_
  refine g_get (v := .ref (b + 1)) (T := TX12) (ci := 12) (N := 45) hx hb hown hK (gY_X12 hT) rfl (h1 0 _ rfl) 0 (by decide) (hT _ gf_X12_9) rfl dX12_cheers_1 ?_
  refine lv_iload_n hx hb dX12_cheers_4 rfl (lv_at hl 1 rfl) ?_
  refine g_ia (j := w) (v := π 0 w) hx hb hK (h1 1 _ rfl) rfl (by omega) (Nat.le_of_ble_eq_true rfl) rfl dX12_cheers_5 ?_
  refine lv_istore_n (lv' := [(2, .int (π 0 w)), (0, .ref b), (1, .int (nI w))]) hx hb dX12_cheers_6 rfl hl (by decide) rfl (fun ls hl => ?_)
  refine lv_iconst (v := 0) hx hb dX12_cheers_7 (by decide) ?_
  refine lv_istore_n (lv' := [(3, .int 0), (2, .int (π 0 w)), (0, .ref b), (1, .int (nI w))]) hx hb dX12_cheers_8 rfl hl (by decide) rfl (fun ls hl => ?_)
  refine lv_iconst (v := 0) hx hb dX12_cheers_9 (by decide) ?_
  refine lv_istore (lv' := [(4, .int 0), (3, .int 0), (2, .int (π 0 w)), (0, .ref b), (1, .int (nI w))]) hx hb dX12_cheers_10 hl (by decide) rfl (fun ls hl => ?_)
  have loop : ∀ (d k : Nat), k + d = 10 → ∀ (P9 : gPS) (s7 : Nat → Int32), (∀ y, gU P9 0 w y = gU π 0 w y) → ∀ (H : Heap) (locs : List Loc), gSg G b (gLM G b P9 μ (gR f 7 s7) g) H → va_S (fun q => b ≤ q ∧ q < b + 30) s.heap H locs → ∀ ls, lv_has ls 5 [(0, .ref b), (1, .int (nI w)), (2, .int (π 0 w)), (3, .int (gChs π L w sn k)), (4, .int (nI k))] → W pp_ l ee_ (gRm 6 142) s mm_ aa_ below meth cc_ H locs 0 0 Q (F0 mm_ 12 ls []) := by
    intro d
    induction d with
    | zero =>
      intro k hk P9 s7 hPP H locs h1 hS ls hl
      have hk : k = 10 := by omega
      refine lv_iload hx hb dX12_cheers_12 (lv_at hl 4 rfl) ?_
      refine lv_bipush (v := 10) hx hb dX12_cheers_14 (by decide) ?_
      refine lv_icmp_ge (tgt := 47) hx hb dX12_cheers_16 (by decide) (fun c1 => ?_) (fun c1 => ?_)
      · have c1 : 10 ≤ k := (gLe (a := 10) (b := k) rfl rfl (by omega) (by omega)).mp c1
        refine lv_aload_n hx hb dX12_cheers_47 rfl (lv_at hl 0 rfl) ?_
        refine g_get (v := .ref (b + 1)) (T := TX12) (ci := 12) (N := 45) hx hb hown hK (gY_X12 hT) rfl (h1 0 _ rfl) 0 (by decide) (hT _ gf_X12_9) rfl dX12_cheers_48 ?_
        refine lv_iload_n hx hb dX12_cheers_51 rfl (lv_at hl 1 rfl) ?_
        refine lv_iload_n hx hb dX12_cheers_52 rfl (lv_at hl 2 rfl) ?_
        refine g_is (j := w) hx hb hK hS (h1 1 _ rfl) rfl (by omega) (Nat.le_of_ble_eq_true rfl) (by omega) dX12_cheers_53 (fun H2 locs c3 oq hS => ?_)
        have h1 : gSg G b (gLM G b (gU P9 0 w (π 0 w)) μ (gR f 7 s7) g) H2 := gSg_set h1 1 c3 oq
        refine lv_iload_n hx hb dX12_cheers_54 rfl (lv_at hl 3 rfl) ?_
        rw [← hQ]
        exact g_iret hx hb hr hlk hS dX12_cheers_55 ⟨by rw [hk], s7, by rw [hPP, gU_id rfl] at h1; exact h1⟩
      · have c1 : ¬ 10 ≤ k := fun z => c1 ((gLe (a := 10) (b := k) rfl rfl (by omega) (by omega)).mpr z)
        exact absurd c1 (by omega)
    | succ d ih =>
      intro k hk P9 s7 hPP H locs h1 hS ls hl
      refine lv_iload hx hb dX12_cheers_12 (lv_at hl 4 rfl) ?_
      refine lv_bipush (v := 10) hx hb dX12_cheers_14 (by decide) ?_
      refine lv_icmp_ge (tgt := 47) hx hb dX12_cheers_16 (by decide) (fun c4 => ?_) (fun c4 => ?_)
      · have c4 : 10 ≤ k := (gLe (a := 10) (b := k) rfl rfl (by omega) (by omega)).mp c4
        exact absurd c4 (by omega)
      · have c4 : ¬ 10 ≤ k := fun z => c4 ((gLe (a := 10) (b := k) rfl rfl (by omega) (by omega)).mpr z)
        refine lv_aload_n hx hb dX12_cheers_19 rfl (lv_at hl 0 rfl) ?_
        refine g_get (v := .ref (b + 1)) (T := TX12) (ci := 12) (N := 45) hx hb hown hK (gY_X12 hT) rfl (h1 0 _ rfl) 0 (by decide) (hT _ gf_X12_9) rfl dX12_cheers_20 ?_
        refine lv_iload_n hx hb dX12_cheers_23 rfl (lv_at hl 1 rfl) ?_
        refine lv_iload hx hb dX12_cheers_24 (lv_at hl 4 rfl) ?_
        refine g_is (j := w) hx hb hK hS (h1 1 _ rfl) rfl (by omega) (Nat.le_of_ble_eq_true rfl) (by omega) dX12_cheers_26 (fun H5 locs c6 oq hS => ?_)
        have h1 : gSg G b (gLM G b (gU P9 0 w (nI k)) μ (gR f 7 s7) g) H5 := gSg_set h1 1 c6 oq
        refine lv_aload_n hx hb dX12_cheers_27 rfl (lv_at hl 0 rfl) ?_
        rw [hPP] at h1
        refine g_ki (g_runV (T := TX12) (ci := 12) (N := 45) (rest := []) hx hb hml hown hE hT (c_X12_isSeen l G b (gU π 0 w (nI k)) μ f g sn hz3 hsn hsp L (gHold_eq hh rfl)) gM_X12_isSeen gm_X12_275 gi_X12_isSeen gs_RX12_yX12_isSeen_yX12_isSeen rfl (h1 0 _ rfl) ⟨s7, h1⟩ rfl hl.1 ⟨rfl, rfl⟩ ⟨Nat.le_of_ble_eq_true rfl, Nat.le_of_ble_eq_true rfl⟩ ⟨Nat.zero_le _, Nat.zero_le _⟩ rfl (Nat.le_of_ble_eq_true rfl) dX12_cheers_28) hS (by intro q hq; omega) (fun r10 H7 locs q8 k9 hS => ?_)
        obtain ⟨rfl, s7, h1⟩ := q8
        refine lv_if_eq (tgt := 41) hx hb dX12_cheers_31 (by decide) (fun c11 => ?_) (fun c11 => ?_)
        · have c11 : ¬ (gSn (gU π 0 w (nI k)) L 0 sn = true) := gB_0.mp c11
          refine lv_iinc (v := nI (k + 1)) (lv' := [(4, .int (nI (k + 1))), (0, .ref b), (1, .int (nI w)), (2, .int (π 0 w)), (3, .int (gChs π L w sn k))]) hx hb dX12_cheers_41 hl (k := 4) rfl (gAdd rfl (show Int32.ofInt 1 = nI 1 from rfl)) (by decide) rfl (fun ls hl => ?_)
          refine lv_goto (tgt := 12) hx hb dX12_cheers_44 (by decide) ?_
          exact ih (k + 1) (by omega) (gU π 0 w (nI k)) s7 (fun y => gU_uu) _ _ h1 hS _ (by have hl := lv_sub hl [1, 2, 3, 4, 0] rfl; rw [show (gChs π L w sn k : Int32) = gChs π L w sn (k + 1) from by rw [gChs, if_neg c11]] at hl; exact hl)
        · have c11 : gSn (gU π 0 w (nI k)) L 0 sn = true := gB_1.mp c11
          refine lv_iload_n hx hb dX12_cheers_34 rfl (lv_at hl 3 rfl) ?_
          refine lv_iconst (v := 1) hx hb dX12_cheers_35 (by decide) ?_
          refine lv_iload hx hb dX12_cheers_36 (lv_at hl 4 rfl) ?_
          refine lv_ishl hx hb dX12_cheers_38 ?_
          refine lv_ior hx hb dX12_cheers_39 ?_
          refine lv_istore_n (lv' := [(3, .int ((gChs π L w sn k) ||| (1 <<< ((nI k) &&& 31)))), (0, .ref b), (1, .int (nI w)), (2, .int (π 0 w)), (4, .int (nI k))]) hx hb dX12_cheers_40 rfl hl (by decide) rfl (fun ls hl => ?_)
          refine lv_iinc (v := nI (k + 1)) (lv' := [(4, .int (nI (k + 1))), (3, .int ((gChs π L w sn k) ||| (1 <<< ((nI k) &&& 31)))), (0, .ref b), (1, .int (nI w)), (2, .int (π 0 w))]) hx hb dX12_cheers_41 hl (k := 4) rfl (gAdd rfl (show Int32.ofInt 1 = nI 1 from rfl)) (by decide) rfl (fun ls hl => ?_)
          refine lv_goto (tgt := 12) hx hb dX12_cheers_44 (by decide) ?_
          exact ih (k + 1) (by omega) (gU π 0 w (nI k)) s7 (fun y => gU_uu) _ _ h1 hS _ (by have hl := lv_sub hl [2, 3, 4, 1, 0] rfl; rw [show ((gChs π L w sn k) ||| (1 <<< ((nI k) &&& 31)) : Int32) = gChs π L w sn (k + 1) from by rw [gChs, if_pos c11]] at hl; exact hl)
  exact loop (10 - 0) 0 (by first | omega | simp) π s7 (fun _ => rfl) _ _ h1 hS _ (lv_sub hl [3, 4, 2, 1, 0] rfl)

set_option maxHeartbeats 4000000 in
set_option maxRecDepth 100000 in
theorem c_X12_can (l : Launch) (G : gW) (b : Nat) (π μ f : gPS) (g : Nat → Int64) (n : Nat) (hz : π 15 0 = nI n) (hn : n ≤ 6) (sn : Nat) (hz3 : π 15 3 = nI sn) (hsn : sn ≤ 5) (hsp : ∀ k, k < sn → ∃ q, q < 6 ∧ π 8 k = nI q) (L : gLf) (hh : gHold π f L) (p q : Int32) : gCI l yX12_can cX12_can 7 .int (gRm 6 142) G [.ref b, .int p, .int q] (fun H => gM7 G b π μ f g H) (fun r H => r = (if 0 ≤ p ∧ p < π 15 0 then (if 0 ≤ q ∧ q ≤ 1 then (if q = 0 then (gCan π L p.toNatClampNeg sn 10).1 else (gCan π L p.toNatClampNeg sn 10).2) else -1) else -1) ∧ gM7 G b π μ f g H) (fun q => b ≤ q ∧ q < b + 30) := by
  refine g_start (by decide) (Nat.le_of_ble_eq_true rfl) ?_
  intro pp_ ee_ s mm_ aa_ below meth cc_ ls Q hQ hX hE hP hl
  obtain ⟨hx, hb, hr, hml, hown, hT, hlk, hnm⟩ := hX
  have hK := hE.2.1
  obtain ⟨s7, h1⟩ := hP
  have hS : va_S (fun q => b ≤ q ∧ q < b + 30) s.heap s.heap [] := va_S.rf
  have hl : lv_has ls 7 [(0, .ref b), (1, .int p), (2, .int q)] := hl
  refine lv_aload_n hx hb dX12_can_0 rfl (lv_at hl 0 rfl) ?_
  refine lv_iload_n hx hb dX12_can_1 rfl (lv_at hl 1 rfl) ?_
  refine g_ki (g_runV (T := TX12) (ci := 12) (N := 45) (rest := []) hx hb hml hown hE hT (c_X12_isOne l G b π μ (gR f 7 s7) g n hz (by omega) p) gM_X12_isOne gm_X12_112 gi_X12_isOne gs_RX12_yX12_isOne_yX12_isOne rfl (h1 0 _ rfl) h1 rfl hl.1 ⟨rfl, rfl⟩ ⟨Nat.le_of_ble_eq_true rfl, Nat.le_of_ble_eq_true rfl⟩ ⟨Nat.zero_le _, Nat.zero_le _⟩ rfl (Nat.le_of_ble_eq_true rfl) dX12_can_2) hS (fun _ h => h.elim) (fun r4 H1 locs q2 k3 hS => ?_)
  subst q2
  have h1 := gSg_free h1 k3 (by intro k hk q; simp only [List.length_cons, List.length_nil] at hk; omega)
  refine lv_if_eq (tgt := 17) hx hb dX12_can_5 (by decide) (fun c5 => ?_) (fun c5 => ?_)
  · have c5 : ¬ (0 ≤ p ∧ p < π 15 0) := gB_0.mp c5
    refine lv_iconst (v := (-1)) hx hb dX12_can_17 (by decide) ?_
    rw [← hQ]
    exact g_iret hx hb hr hlk hS dX12_can_18 ⟨by simp only [if_neg c5], s7, h1⟩
  · have c5 : 0 ≤ p ∧ p < π 15 0 := gB_1.mp c5
    obtain ⟨j, hj, ej⟩ := gIx hz (by omega) c5
    subst ej
    refine lv_iload_n hx hb dX12_can_8 rfl (lv_at hl 2 rfl) ?_
    refine lv_iconst (v := 0) hx hb dX12_can_9 (by decide) ?_
    refine lv_iconst (v := 1) hx hb dX12_can_10 (by decide) ?_
    refine g_ki (g_runS (rest := []) hx hb hml hown hE hT (c_X12_within l G q 0 1) gM_X12_within gm_X12_108 gt_X12_within trivial rfl hl.1 ⟨rfl, rfl⟩ ⟨Nat.le_of_ble_eq_true rfl, Nat.le_of_ble_eq_true rfl⟩ ⟨Nat.zero_le _, Nat.zero_le _⟩ rfl (Nat.le_of_ble_eq_true rfl) dX12_can_11) hS (fun _ h => h.elim) (fun r9 H6 locs q7 k8 hS => ?_)
    subst q7
    have h1 := gSg_free h1 k8 (by intro k hk q; simp only [List.length_cons, List.length_nil] at hk; omega)
    refine lv_if_ne (tgt := 19) hx hb dX12_can_14 (by decide) (fun c10 => ?_) (fun c10 => ?_)
    · have c10 : 0 ≤ q ∧ q ≤ 1 := gB_1.mp c10
      refine lv_aload_n hx hb dX12_can_19 rfl (lv_at hl 0 rfl) ?_
      refine g_get (v := .ref (b + 4)) (T := TX12) (ci := 12) (N := 45) hx hb hown hK (gY_X12 hT) rfl (h1 0 _ rfl) 5 (by decide) (hT _ gf_X12_21) rfl dX12_can_20 ?_
      refine lv_iload_n hx hb dX12_can_23 rfl (lv_at hl 1 rfl) ?_
      refine g_ia (j := j) (v := π 3 j) hx hb hK (h1 4 _ rfl) rfl (by omega) (Nat.le_of_ble_eq_true rfl) rfl dX12_can_24 ?_
      refine lv_istore_n (lv' := [(3, .int (π 3 j)), (0, .ref b), (1, .int (nI j)), (2, .int q)]) hx hb dX12_can_25 rfl hl (by decide) rfl (fun ls hl => ?_)
      refine lv_iconst (v := 0) hx hb dX12_can_26 (by decide) ?_
      refine lv_istore (lv' := [(4, .int 0), (3, .int (π 3 j)), (0, .ref b), (1, .int (nI j)), (2, .int q)]) hx hb dX12_can_27 hl (by decide) rfl (fun ls hl => ?_)
      refine lv_bipush (v := (-5)) hx hb dX12_can_29 (by decide) ?_
      refine lv_istore (lv' := [(5, .int (-5)), (4, .int 0), (3, .int (π 3 j)), (0, .ref b), (1, .int (nI j)), (2, .int q)]) hx hb dX12_can_31 hl (by decide) rfl (fun ls hl => ?_)
      refine lv_bipush (v := 9) hx hb dX12_can_33 (by decide) ?_
      refine lv_istore (lv' := [(6, .int 9), (5, .int (-5)), (4, .int 0), (3, .int (π 3 j)), (0, .ref b), (1, .int (nI j)), (2, .int q)]) hx hb dX12_can_35 hl (by decide) rfl (fun ls hl => ?_)
      have e90 : (9 : Int32) = 9 - nI 0 := by decide
      have hl : lv_has ls 7 [(6, .int (9 - nI 0)), (5, .int (-5)), (4, .int 0), (3, .int (π 3 j)), (0, .ref b), (1, .int (nI j)), (2, .int q)] := hl
      have loop : ∀ (d k : Nat), k + d = 10 → ∀ (P9 : gPS) (s7 : Nat → Int32), (∀ y, gU P9 3 j y = gU π 3 j y) → ∀ (H : Heap) (locs : List Loc), gSg G b (gLM G b P9 μ (gR f 7 s7) g) H → va_S (fun q => b ≤ q ∧ q < b + 30) s.heap H locs → ∀ ls, lv_has ls 7 [(0, .ref b), (1, .int (nI j)), (2, .int q), (3, .int (π 3 j)), (4, .int ((gCan π L j sn k).1)), (5, .int ((gCan π L j sn k).2)), (6, .int (9 - nI k))] → W pp_ l ee_ (gRm 6 142) s mm_ aa_ below meth cc_ H locs 0 0 Q (F0 mm_ 37 ls []) := by
        intro d
        induction d with
        | zero =>
          intro k hk P9 s7 hPP H locs h1 hS ls hl
          have hk : k = 10 := by omega
          refine lv_iload hx hb dX12_can_37 (lv_at hl 6 rfl) ?_
          refine lv_if_lt (tgt := 73) hx hb dX12_can_39 (by decide) (fun c11 => ?_) (fun c11 => ?_)
          · refine lv_aload_n hx hb dX12_can_73 rfl (lv_at hl 0 rfl) ?_
            refine g_get (v := .ref (b + 4)) (T := TX12) (ci := 12) (N := 45) hx hb hown hK (gY_X12 hT) rfl (h1 0 _ rfl) 5 (by decide) (hT _ gf_X12_21) rfl dX12_can_74 ?_
            refine lv_iload_n hx hb dX12_can_77 rfl (lv_at hl 1 rfl) ?_
            refine lv_iload_n hx hb dX12_can_78 rfl (lv_at hl 3 rfl) ?_
            refine g_is (j := j) hx hb hK hS (h1 4 _ rfl) rfl (by omega) (Nat.le_of_ble_eq_true rfl) (by omega) dX12_can_79 (fun H12 locs c13 oq hS => ?_)
            have h1 : gSg G b (gLM G b (gU P9 3 j (π 3 j)) μ (gR f 7 s7) g) H12 := gSg_set h1 4 c13 oq
            refine lv_iload_n hx hb dX12_can_80 rfl (lv_at hl 2 rfl) ?_
            refine lv_if_ne (tgt := 89) hx hb dX12_can_81 (by decide) (fun c14 => ?_) (fun c14 => ?_)
            · refine lv_iload hx hb dX12_can_89 (lv_at hl 5 rfl) ?_
              rw [← hQ]
              exact g_iret hx hb hr hlk hS dX12_can_91 ⟨by simp only [if_pos c5, if_pos c10, nI_clamp (show j < 2 ^ 31 by omega), if_neg c14, hk], s7, by rw [hPP, gU_id rfl] at h1; exact h1⟩
            · refine lv_iload hx hb dX12_can_84 (lv_at hl 4 rfl) ?_
              refine lv_goto (tgt := 91) hx hb dX12_can_86 (by decide) ?_
              rw [← hQ]
              exact g_iret hx hb hr hlk hS dX12_can_91 ⟨by simp only [if_pos c5, if_pos c10, nI_clamp (show j < 2 ^ 31 by omega), if_pos c14, hk], s7, by rw [hPP, gU_id rfl] at h1; exact h1⟩
          · exact absurd (by rw [hk]; decide) c11
        | succ d ih =>
          intro k hk P9 s7 hPP H locs h1 hS ls hl
          refine lv_iload hx hb dX12_can_37 (lv_at hl 6 rfl) ?_
          refine lv_if_lt (tgt := 73) hx hb dX12_can_39 (by decide) (fun c15 => ?_) (fun c15 => ?_)
          · exact absurd c15 (by rw [gDn k (by omega)]; exact nI_pos (by omega))
          · rw [gDn k (by omega)] at hl
            refine lv_aload_n hx hb dX12_can_42 rfl (lv_at hl 0 rfl) ?_
            refine g_get (v := .ref (b + 4)) (T := TX12) (ci := 12) (N := 45) hx hb hown hK (gY_X12 hT) rfl (h1 0 _ rfl) 5 (by decide) (hT _ gf_X12_21) rfl dX12_can_43 ?_
            refine lv_iload_n hx hb dX12_can_46 rfl (lv_at hl 1 rfl) ?_
            refine lv_iload hx hb dX12_can_47 (lv_at hl 6 rfl) ?_
            refine g_is (j := j) hx hb hK hS (h1 4 _ rfl) rfl (by omega) (Nat.le_of_ble_eq_true rfl) (by omega) dX12_can_49 (fun H16 locs c17 oq hS => ?_)
            have h1 : gSg G b (gLM G b (gU P9 3 j (nI (9 - k))) μ (gR f 7 s7) g) H16 := gSg_set h1 4 c17 oq
            refine lv_aload_n hx hb dX12_can_50 rfl (lv_at hl 0 rfl) ?_
            rw [hPP] at h1
            refine g_ki (g_runV (T := TX12) (ci := 12) (N := 45) (rest := []) hx hb hml hown hE hT (c_X12_isSeen l G b (gU π 3 j (nI (9 - k))) μ f g sn hz3 hsn hsp L (gHold_eq hh rfl)) gM_X12_isSeen gm_X12_275 gi_X12_isSeen gs_RX12_yX12_isSeen_yX12_isSeen rfl (h1 0 _ rfl) ⟨s7, h1⟩ rfl hl.1 ⟨rfl, rfl⟩ ⟨Nat.le_of_ble_eq_true rfl, Nat.le_of_ble_eq_true rfl⟩ ⟨Nat.zero_le _, Nat.zero_le _⟩ rfl (Nat.le_of_ble_eq_true rfl) dX12_can_51) hS (by intro q hq; omega) (fun r21 H18 locs q19 k20 hS => ?_)
            obtain ⟨rfl, s7, h1⟩ := q19
            refine lv_if_ne (tgt := 60) hx hb dX12_can_54 (by decide) (fun c22 => ?_) (fun c22 => ?_)
            · have c22 : gSn (gU π 3 j (nI (9 - k))) L 0 sn = true := gB_1.mp c22
              refine lv_iinc (v := ((gCan π L j sn k).1) + 1) (lv' := [(4, .int (((gCan π L j sn k).1) + 1)), (0, .ref b), (1, .int (nI j)), (2, .int q), (3, .int (π 3 j)), (5, .int ((gCan π L j sn k).2)), (6, .int (nI (9 - k)))]) hx hb dX12_can_60 hl (k := 4) rfl rfl (by decide) rfl (fun ls hl => ?_)
              refine lv_iload hx hb dX12_can_63 (lv_at hl 6 rfl) ?_
              refine lv_istore (lv' := [(5, .int (nI (9 - k))), (4, .int (((gCan π L j sn k).1) + 1)), (0, .ref b), (1, .int (nI j)), (2, .int q), (3, .int (π 3 j)), (6, .int (nI (9 - k)))]) hx hb dX12_can_65 hl (by decide) rfl (fun ls hl => ?_)
              refine lv_iinc (v := (nI (9 - k)) + (-1)) (lv' := [(6, .int ((nI (9 - k)) + (-1))), (5, .int (nI (9 - k))), (4, .int (((gCan π L j sn k).1) + 1)), (0, .ref b), (1, .int (nI j)), (2, .int q), (3, .int (π 3 j))]) hx hb dX12_can_67 hl (k := 6) rfl rfl (by decide) rfl (fun ls hl => ?_)
              refine lv_goto (tgt := 37) hx hb dX12_can_70 (by decide) ?_
              exact ih (k + 1) (by omega) (gU π 3 j (nI (9 - k))) s7 (fun y => gU_uu) _ _ h1 hS _ (by have hl := lv_sub hl [3, 4, 5, 6, 2, 1, 0] rfl; rw [show (((gCan π L j sn k).1) + 1 : Int32) = (gCan π L j sn (k + 1)).1 from by rw [gCan, if_pos c22]] at hl; rw [show ((nI (9 - k)) + (-1) : Int32) = 9 - nI (k + 1) from gDn_s k (by omega)] at hl; rw [show (nI (9 - k) : Int32) = (gCan π L j sn (k + 1)).2 from by rw [gCan, if_pos c22]] at hl; exact hl)
            · have c22 : ¬ (gSn (gU π 3 j (nI (9 - k))) L 0 sn = true) := gB_0.mp c22
              refine lv_goto (tgt := 67) hx hb dX12_can_57 (by decide) ?_
              refine lv_iinc (v := (nI (9 - k)) + (-1)) (lv' := [(6, .int ((nI (9 - k)) + (-1))), (0, .ref b), (1, .int (nI j)), (2, .int q), (3, .int (π 3 j)), (4, .int ((gCan π L j sn k).1)), (5, .int ((gCan π L j sn k).2))]) hx hb dX12_can_67 hl (k := 6) rfl rfl (by decide) rfl (fun ls hl => ?_)
              refine lv_goto (tgt := 37) hx hb dX12_can_70 (by decide) ?_
              exact ih (k + 1) (by omega) (gU π 3 j (nI (9 - k))) s7 (fun y => gU_uu) _ _ h1 hS _ (by have hl := lv_sub hl [1, 2, 3, 4, 5, 6, 0] rfl; rw [show ((gCan π L j sn k).1 : Int32) = (gCan π L j sn (k + 1)).1 from by rw [gCan, if_neg c22]] at hl; rw [show ((gCan π L j sn k).2 : Int32) = (gCan π L j sn (k + 1)).2 from by rw [gCan, if_neg c22]] at hl; rw [show ((nI (9 - k)) + (-1) : Int32) = 9 - nI (k + 1) from gDn_s k (by omega)] at hl; exact hl)
      exact loop (10 - 0) 0 (by first | omega | simp) π s7 (fun _ => rfl) _ _ h1 hS _ (lv_sub hl [4, 5, 6, 3, 2, 1, 0] rfl)
    · have c10 : ¬ (0 ≤ q ∧ q ≤ 1) := gB_0.mp c10
      refine lv_iconst (v := (-1)) hx hb dX12_can_17 (by decide) ?_
      rw [← hQ]
      exact g_iret hx hb hr hlk hS dX12_can_18 ⟨by simp only [if_pos c5, if_neg c10, nI_clamp (show j < 2 ^ 31 by omega)], s7, h1⟩

set_option maxHeartbeats 4000000 in
set_option maxRecDepth 100000 in
theorem c_X12_wording (l : Launch) (G : gW) (b : Nat) (π μ f : gPS) (g : Nat → Int64) (n : Nat) (hz : π 15 0 = nI n) (hn : n ≤ 6) (L : gLf) (hh : gHold π f L) (p fa : Int32) : gCI l yX12_wording cX12_wording 5 .int (gRm 5 121) G [.ref b, .int p, .int fa] (fun H => gM7 G b π μ f g H) (fun r H => r = (if 0 ≤ p ∧ p < π 15 0 then (if 0 ≤ fa ∧ fa ≤ 255 then gWor π L p.toNatClampNeg fa 4096 else -2) else -1) ∧ gM7 G b π μ f g H) (fun q => b ≤ q ∧ q < b + 30) := by
  refine g_start (by decide) (Nat.le_of_ble_eq_true rfl) ?_
  intro pp_ ee_ s mm_ aa_ below meth cc_ ls Q hQ hX hE hP hl
  obtain ⟨hx, hb, hr, hml, hown, hT, hlk, hnm⟩ := hX
  have hK := hE.2.1
  obtain ⟨s7, h1⟩ := hP
  have hS : va_S (fun q => b ≤ q ∧ q < b + 30) s.heap s.heap [] := va_S.rf
  have hl : lv_has ls 5 [(0, .ref b), (1, .int p), (2, .int fa)] := hl
  refine lv_aload_n hx hb dX12_wording_0 rfl (lv_at hl 0 rfl) ?_
  refine lv_iload_n hx hb dX12_wording_1 rfl (lv_at hl 1 rfl) ?_
  refine g_ki (g_runV (T := TX12) (ci := 12) (N := 45) (rest := []) hx hb hml hown hE hT (c_X12_isOne l G b π μ (gR f 7 s7) g n hz (by omega) p) gM_X12_isOne gm_X12_112 gi_X12_isOne gs_RX12_yX12_isOne_yX12_isOne rfl (h1 0 _ rfl) h1 rfl hl.1 ⟨rfl, rfl⟩ ⟨Nat.le_of_ble_eq_true rfl, Nat.le_of_ble_eq_true rfl⟩ ⟨Nat.zero_le _, Nat.zero_le _⟩ rfl (Nat.le_of_ble_eq_true rfl) dX12_wording_2) hS (fun _ h => h.elim) (fun r4 H1 locs q2 k3 hS => ?_)
  subst q2
  have h1 := gSg_free h1 k3 (by intro k hk q; simp only [List.length_cons, List.length_nil] at hk; omega)
  refine lv_if_ne (tgt := 10) hx hb dX12_wording_5 (by decide) (fun c5 => ?_) (fun c5 => ?_)
  · have c5 : 0 ≤ p ∧ p < π 15 0 := gB_1.mp c5
    obtain ⟨j, hj, ej⟩ := gIx hz (by omega) c5
    subst ej
    refine lv_iload_n hx hb dX12_wording_10 rfl (lv_at hl 2 rfl) ?_
    refine lv_iconst (v := 0) hx hb dX12_wording_11 (by decide) ?_
    refine lv_sipush (v := 255) hx hb dX12_wording_12 (by decide) ?_
    refine g_ki (g_runS (rest := []) hx hb hml hown hE hT (c_X12_within l G fa 0 255) gM_X12_within gm_X12_108 gt_X12_within trivial rfl hl.1 ⟨rfl, rfl⟩ ⟨Nat.le_of_ble_eq_true rfl, Nat.le_of_ble_eq_true rfl⟩ ⟨Nat.zero_le _, Nat.zero_le _⟩ rfl (Nat.le_of_ble_eq_true rfl) dX12_wording_15) hS (fun _ h => h.elim) (fun r9 H6 locs q7 k8 hS => ?_)
    subst q7
    have h1 := gSg_free h1 k8 (by intro k hk q; simp only [List.length_cons, List.length_nil] at hk; omega)
    refine lv_if_ne (tgt := 24) hx hb dX12_wording_18 (by decide) (fun c10 => ?_) (fun c10 => ?_)
    · have c10 : 0 ≤ fa ∧ fa ≤ 255 := gB_1.mp c10
      refine lv_bipush (v := (-5)) hx hb dX12_wording_24 (by decide) ?_
      refine lv_istore_n (lv' := [(3, .int (-5)), (0, .ref b), (1, .int (nI j)), (2, .int fa)]) hx hb dX12_wording_26 rfl hl (by decide) rfl (fun ls hl => ?_)
      refine lv_iconst (v := 0) hx hb dX12_wording_27 (by decide) ?_
      refine lv_istore (lv' := [(4, .int 0), (3, .int (-5)), (0, .ref b), (1, .int (nI j)), (2, .int fa)]) hx hb dX12_wording_28 hl (by decide) rfl (fun ls hl => ?_)
      have loop : ∀ (d k : Nat), k + d = 4096 → ∀ (s7 : Nat → Int32), ∀ (H : Heap) (locs : List Loc), gSg G b (gLM G b π μ (gR f 7 s7) g) H → va_S (fun q => b ≤ q ∧ q < b + 30) s.heap H locs → ∀ ls, lv_has ls 5 [(0, .ref b), (1, .int (nI j)), (2, .int fa), (3, .int (gWor π L j fa k)), (4, .int (nI k))] → W pp_ l ee_ (gRm 5 121) s mm_ aa_ below meth cc_ H locs 0 0 Q (F0 mm_ 30 ls []) := by
        intro d
        induction d with
        | zero =>
          intro k hk s7  H locs h1 hS ls hl
          have hk : k = 4096 := by omega
          refine lv_iload hx hb dX12_wording_30 (lv_at hl 4 rfl) ?_
          refine lv_sipush (v := 4096) hx hb dX12_wording_32 (by decide) ?_
          refine lv_icmp_ge (tgt := 91) hx hb dX12_wording_35 (by decide) (fun c11 => ?_) (fun c11 => ?_)
          · have c11 : 4096 ≤ k := (gLe (a := 4096) (b := k) rfl rfl (by omega) (by omega)).mp c11
            refine lv_iload_n hx hb dX12_wording_91 rfl (lv_at hl 3 rfl) ?_
            rw [← hQ]
            exact g_iret hx hb hr hlk hS dX12_wording_92 ⟨by simp only [if_pos c5, if_pos c10, nI_clamp (show j < 2 ^ 31 by omega), ← hk], s7, h1⟩
          · have c11 : ¬ 4096 ≤ k := fun z => c11 ((gLe (a := 4096) (b := k) rfl rfl (by omega) (by omega)).mpr z)
            exact absurd c11 (by omega)
        | succ d ih =>
          intro k hk s7  H locs h1 hS ls hl
          refine lv_iload hx hb dX12_wording_30 (lv_at hl 4 rfl) ?_
          refine lv_sipush (v := 4096) hx hb dX12_wording_32 (by decide) ?_
          refine lv_icmp_ge (tgt := 91) hx hb dX12_wording_35 (by decide) (fun c12 => ?_) (fun c12 => ?_)
          · have c12 : 4096 ≤ k := (gLe (a := 4096) (b := k) rfl rfl (by omega) (by omega)).mp c12
            exact absurd c12 (by omega)
          · have c12 : ¬ 4096 ≤ k := fun z => c12 ((gLe (a := 4096) (b := k) rfl rfl (by omega) (by omega)).mpr z)
            refine lv_iload_n hx hb dX12_wording_38 rfl (lv_at hl 3 rfl) ?_
            refine lv_bipush (v := (-5)) hx hb dX12_wording_39 (by decide) ?_
            refine lv_icmp_eq (tgt := 56) hx hb dX12_wording_41 (by decide) (fun c13 => ?_) (fun c13 => ?_)
            · refine lv_iload_n hx hb dX12_wording_56 rfl (lv_at hl 2 rfl) ?_
              refine lv_aload_n hx hb dX12_wording_57 rfl (lv_at hl 0 rfl) ?_
              refine lv_iload hx hb dX12_wording_58 (lv_at hl 4 rfl) ?_
              refine g_ki (g_runV (T := TX12) (ci := 12) (N := 45) (rest := [.int fa]) hx hb hml hown hE hT (c_X12_meant l G b π μ (gR f 7 s7) g (nI k)) gM_X12_meant gm_X12_250 gi_X12_meant gs_RX12_yX12_meant_yX12_meant rfl (h1 0 _ rfl) h1 rfl hl.1 ⟨rfl, rfl⟩ ⟨Nat.le_of_ble_eq_true rfl, Nat.le_of_ble_eq_true rfl⟩ ⟨Nat.zero_le _, Nat.zero_le _⟩ rfl (Nat.le_of_ble_eq_true rfl) dX12_wording_60) hS (fun _ h => h.elim) (fun r17 H14 locs q15 k16 hS => ?_)
              subst q15
              have h1 := gSg_free h1 k16 (by intro k hk q; simp only [List.length_cons, List.length_nil] at hk; omega)
              refine lv_iconst (v := (-1)) hx hb dX12_wording_63 (by decide) ?_
              refine lv_ixor hx hb dX12_wording_64 ?_
              refine lv_iand hx hb dX12_wording_65 ?_
              refine lv_if_eq (tgt := 72) hx hb dX12_wording_66 (by decide) (fun c18 => ?_) (fun c18 => ?_)
              · refine lv_aload_n hx hb dX12_wording_72 rfl (lv_at hl 0 rfl) ?_
                refine lv_iload_n hx hb dX12_wording_73 rfl (lv_at hl 1 rfl) ?_
                refine lv_iload hx hb dX12_wording_74 (lv_at hl 4 rfl) ?_
                refine g_ki (g_runV (T := TX12) (ci := 12) (N := 45) (rest := []) hx hb hml hown hE hT (c_X12_joyOf l G b π μ f g j (by omega) (nI k) L hh) gM_X12_joyOf gm_X12_126 gi_X12_joyOf gs_RX12_yX12_joyOf_yX12_joyOf rfl (h1 0 _ rfl) ⟨s7, h1⟩ rfl hl.1 ⟨rfl, rfl⟩ ⟨Nat.le_of_ble_eq_true rfl, Nat.le_of_ble_eq_true rfl⟩ ⟨Nat.zero_le _, Nat.zero_le _⟩ rfl (Nat.le_of_ble_eq_true rfl) dX12_wording_76) hS (by intro q hq; omega) (fun r22 H19 locs q20 k21 hS => ?_)
                obtain ⟨rfl, s7, h1⟩ := q20
                refine lv_if_le (tgt := 85) hx hb dX12_wording_79 (by decide) (fun c23 => ?_) (fun c23 => ?_)
                · refine lv_iinc (v := nI (k + 1)) (lv' := [(4, .int (nI (k + 1))), (0, .ref b), (1, .int (nI j)), (2, .int fa), (3, .int (gWor π L j fa k))]) hx hb dX12_wording_85 hl (k := 4) rfl (gAdd rfl (show Int32.ofInt 1 = nI 1 from rfl)) (by decide) rfl (fun ls hl => ?_)
                  refine lv_goto (tgt := 30) hx hb dX12_wording_88 (by decide) ?_
                  exact ih (k + 1) (by omega) s7  _ _ h1 hS _ (by have hl := lv_sub hl [1, 2, 3, 4, 0] rfl; rw [show (gWor π L j fa k : Int32) = gWor π L j fa (k + 1) from by rw [gWor, if_neg (fun z => z.1 c13), if_neg (Decidable.not_not.mpr c18), if_neg (Int32.not_lt.mpr c23)]] at hl; exact hl)
                · refine lv_iload hx hb dX12_wording_82 (lv_at hl 4 rfl) ?_
                  refine lv_istore_n (lv' := [(3, .int (nI k)), (0, .ref b), (1, .int (nI j)), (2, .int fa), (4, .int (nI k))]) hx hb dX12_wording_84 rfl hl (by decide) rfl (fun ls hl => ?_)
                  refine lv_iinc (v := nI (k + 1)) (lv' := [(4, .int (nI (k + 1))), (3, .int (nI k)), (0, .ref b), (1, .int (nI j)), (2, .int fa)]) hx hb dX12_wording_85 hl (k := 4) rfl (gAdd rfl (show Int32.ofInt 1 = nI 1 from rfl)) (by decide) rfl (fun ls hl => ?_)
                  refine lv_goto (tgt := 30) hx hb dX12_wording_88 (by decide) ?_
                  exact ih (k + 1) (by omega) s7  _ _ h1 hS _ (by have hl := lv_sub hl [2, 3, 4, 1, 0] rfl; rw [show (nI k : Int32) = gWor π L j fa (k + 1) from by rw [gWor, if_neg (fun z => z.1 c13), if_neg (Decidable.not_not.mpr c18), if_pos (Int32.not_le.mp c23)]] at hl; exact hl)
              · refine lv_goto (tgt := 85) hx hb dX12_wording_69 (by decide) ?_
                refine lv_iinc (v := nI (k + 1)) (lv' := [(4, .int (nI (k + 1))), (0, .ref b), (1, .int (nI j)), (2, .int fa), (3, .int (gWor π L j fa k))]) hx hb dX12_wording_85 hl (k := 4) rfl (gAdd rfl (show Int32.ofInt 1 = nI 1 from rfl)) (by decide) rfl (fun ls hl => ?_)
                refine lv_goto (tgt := 30) hx hb dX12_wording_88 (by decide) ?_
                exact ih (k + 1) (by omega) s7  _ _ h1 hS _ (by have hl := lv_sub hl [1, 2, 3, 4, 0] rfl; rw [show (gWor π L j fa k : Int32) = gWor π L j fa (k + 1) from by rw [gWor, if_neg (fun z => z.1 c13), if_pos c18]] at hl; exact hl)
            · refine lv_iload hx hb dX12_wording_44 (lv_at hl 4 rfl) ?_
              refine g_ki (g_runS (rest := []) hx hb hml hown hE hT (c_J6_bitCount_0f7a4 l G (nI k)) gM_J6_bitCount_0f7a4 gm_X12_211 gt_J6_bitCount_0f7a4 trivial rfl hl.1 ⟨rfl, rfl⟩ ⟨Nat.le_of_ble_eq_true rfl, Nat.le_of_ble_eq_true rfl⟩ ⟨Nat.zero_le _, Nat.zero_le _⟩ rfl (Nat.le_of_ble_eq_true rfl) dX12_wording_46) hS (fun _ h => h.elim) (fun r27 H24 locs q25 k26 hS => ?_)
              subst q25
              have h1 := gSg_free h1 k26 (by intro k hk q; simp only [List.length_cons, List.length_nil] at hk; omega)
              refine lv_iload_n hx hb dX12_wording_49 rfl (lv_at hl 3 rfl) ?_
              refine g_ki (g_runS (rest := [.int (gBc (nI k))]) hx hb hml hown hE hT (c_J6_bitCount_0f7a4 l G (gWor π L j fa k)) gM_J6_bitCount_0f7a4 gm_X12_211 gt_J6_bitCount_0f7a4 trivial rfl hl.1 ⟨rfl, rfl⟩ ⟨Nat.le_of_ble_eq_true rfl, Nat.le_of_ble_eq_true rfl⟩ ⟨Nat.zero_le _, Nat.zero_le _⟩ rfl (Nat.le_of_ble_eq_true rfl) dX12_wording_50) hS (fun _ h => h.elim) (fun r31 H28 locs q29 k30 hS => ?_)
              subst q29
              have h1 := gSg_free h1 k30 (by intro k hk q; simp only [List.length_cons, List.length_nil] at hk; omega)
              refine lv_icmp_ge (tgt := 85) hx hb dX12_wording_53 (by decide) (fun c32 => ?_) (fun c32 => ?_)
              · refine lv_iinc (v := nI (k + 1)) (lv' := [(4, .int (nI (k + 1))), (0, .ref b), (1, .int (nI j)), (2, .int fa), (3, .int (gWor π L j fa k))]) hx hb dX12_wording_85 hl (k := 4) rfl (gAdd rfl (show Int32.ofInt 1 = nI 1 from rfl)) (by decide) rfl (fun ls hl => ?_)
                refine lv_goto (tgt := 30) hx hb dX12_wording_88 (by decide) ?_
                exact ih (k + 1) (by omega) s7  _ _ h1 hS _ (by have hl := lv_sub hl [1, 2, 3, 4, 0] rfl; rw [show (gWor π L j fa k : Int32) = gWor π L j fa (k + 1) from by rw [gWor, if_pos ⟨c13, c32⟩]] at hl; exact hl)
              · refine lv_iload_n hx hb dX12_wording_56 rfl (lv_at hl 2 rfl) ?_
                refine lv_aload_n hx hb dX12_wording_57 rfl (lv_at hl 0 rfl) ?_
                refine lv_iload hx hb dX12_wording_58 (lv_at hl 4 rfl) ?_
                refine g_ki (g_runV (T := TX12) (ci := 12) (N := 45) (rest := [.int fa]) hx hb hml hown hE hT (c_X12_meant l G b π μ (gR f 7 s7) g (nI k)) gM_X12_meant gm_X12_250 gi_X12_meant gs_RX12_yX12_meant_yX12_meant rfl (h1 0 _ rfl) h1 rfl hl.1 ⟨rfl, rfl⟩ ⟨Nat.le_of_ble_eq_true rfl, Nat.le_of_ble_eq_true rfl⟩ ⟨Nat.zero_le _, Nat.zero_le _⟩ rfl (Nat.le_of_ble_eq_true rfl) dX12_wording_60) hS (fun _ h => h.elim) (fun r36 H33 locs q34 k35 hS => ?_)
                subst q34
                have h1 := gSg_free h1 k35 (by intro k hk q; simp only [List.length_cons, List.length_nil] at hk; omega)
                refine lv_iconst (v := (-1)) hx hb dX12_wording_63 (by decide) ?_
                refine lv_ixor hx hb dX12_wording_64 ?_
                refine lv_iand hx hb dX12_wording_65 ?_
                refine lv_if_eq (tgt := 72) hx hb dX12_wording_66 (by decide) (fun c37 => ?_) (fun c37 => ?_)
                · refine lv_aload_n hx hb dX12_wording_72 rfl (lv_at hl 0 rfl) ?_
                  refine lv_iload_n hx hb dX12_wording_73 rfl (lv_at hl 1 rfl) ?_
                  refine lv_iload hx hb dX12_wording_74 (lv_at hl 4 rfl) ?_
                  refine g_ki (g_runV (T := TX12) (ci := 12) (N := 45) (rest := []) hx hb hml hown hE hT (c_X12_joyOf l G b π μ f g j (by omega) (nI k) L hh) gM_X12_joyOf gm_X12_126 gi_X12_joyOf gs_RX12_yX12_joyOf_yX12_joyOf rfl (h1 0 _ rfl) ⟨s7, h1⟩ rfl hl.1 ⟨rfl, rfl⟩ ⟨Nat.le_of_ble_eq_true rfl, Nat.le_of_ble_eq_true rfl⟩ ⟨Nat.zero_le _, Nat.zero_le _⟩ rfl (Nat.le_of_ble_eq_true rfl) dX12_wording_76) hS (by intro q hq; omega) (fun r41 H38 locs q39 k40 hS => ?_)
                  obtain ⟨rfl, s7, h1⟩ := q39
                  refine lv_if_le (tgt := 85) hx hb dX12_wording_79 (by decide) (fun c42 => ?_) (fun c42 => ?_)
                  · refine lv_iinc (v := nI (k + 1)) (lv' := [(4, .int (nI (k + 1))), (0, .ref b), (1, .int (nI j)), (2, .int fa), (3, .int (gWor π L j fa k))]) hx hb dX12_wording_85 hl (k := 4) rfl (gAdd rfl (show Int32.ofInt 1 = nI 1 from rfl)) (by decide) rfl (fun ls hl => ?_)
                    refine lv_goto (tgt := 30) hx hb dX12_wording_88 (by decide) ?_
                    exact ih (k + 1) (by omega) s7  _ _ h1 hS _ (by have hl := lv_sub hl [1, 2, 3, 4, 0] rfl; rw [show (gWor π L j fa k : Int32) = gWor π L j fa (k + 1) from by rw [gWor, if_neg (fun z => c32 z.2), if_neg (Decidable.not_not.mpr c37), if_neg (Int32.not_lt.mpr c42)]] at hl; exact hl)
                  · refine lv_iload hx hb dX12_wording_82 (lv_at hl 4 rfl) ?_
                    refine lv_istore_n (lv' := [(3, .int (nI k)), (0, .ref b), (1, .int (nI j)), (2, .int fa), (4, .int (nI k))]) hx hb dX12_wording_84 rfl hl (by decide) rfl (fun ls hl => ?_)
                    refine lv_iinc (v := nI (k + 1)) (lv' := [(4, .int (nI (k + 1))), (3, .int (nI k)), (0, .ref b), (1, .int (nI j)), (2, .int fa)]) hx hb dX12_wording_85 hl (k := 4) rfl (gAdd rfl (show Int32.ofInt 1 = nI 1 from rfl)) (by decide) rfl (fun ls hl => ?_)
                    refine lv_goto (tgt := 30) hx hb dX12_wording_88 (by decide) ?_
                    exact ih (k + 1) (by omega) s7  _ _ h1 hS _ (by have hl := lv_sub hl [2, 3, 4, 1, 0] rfl; rw [show (nI k : Int32) = gWor π L j fa (k + 1) from by rw [gWor, if_neg (fun z => c32 z.2), if_neg (Decidable.not_not.mpr c37), if_pos (Int32.not_le.mp c42)]] at hl; exact hl)
                · refine lv_goto (tgt := 85) hx hb dX12_wording_69 (by decide) ?_
                  refine lv_iinc (v := nI (k + 1)) (lv' := [(4, .int (nI (k + 1))), (0, .ref b), (1, .int (nI j)), (2, .int fa), (3, .int (gWor π L j fa k))]) hx hb dX12_wording_85 hl (k := 4) rfl (gAdd rfl (show Int32.ofInt 1 = nI 1 from rfl)) (by decide) rfl (fun ls hl => ?_)
                  refine lv_goto (tgt := 30) hx hb dX12_wording_88 (by decide) ?_
                  exact ih (k + 1) (by omega) s7  _ _ h1 hS _ (by have hl := lv_sub hl [1, 2, 3, 4, 0] rfl; rw [show (gWor π L j fa k : Int32) = gWor π L j fa (k + 1) from by rw [gWor, if_neg (fun z => c32 z.2), if_pos c37]] at hl; exact hl)
      exact loop (4096 - 0) 0 (by first | omega | simp) s7 _ _ h1 hS _ (lv_sub hl [2, 3, 4, 1, 0] rfl)
    · have c10 : ¬ (0 ≤ fa ∧ fa ≤ 255) := gB_0.mp c10
      refine lv_bipush (v := (-2)) hx hb dX12_wording_21 (by decide) ?_
      rw [← hQ]
      exact g_iret hx hb hr hlk hS dX12_wording_23 ⟨by simp only [if_pos c5, if_neg c10, nI_clamp (show j < 2 ^ 31 by omega)], s7, h1⟩
  · have c5 : ¬ (0 ≤ p ∧ p < π 15 0) := gB_0.mp c5
    refine lv_iconst (v := (-1)) hx hb dX12_wording_8 (by decide) ?_
    rw [← hQ]
    exact g_iret hx hb hr hlk hS dX12_wording_9 ⟨by simp only [if_neg c5], s7, h1⟩

set_option maxHeartbeats 4000000 in
set_option maxRecDepth 100000 in
theorem c_X12_birds (l : Launch) (G : gW) (b : Nat) (π μ f : gPS) (g : Nat → Int64) (n : Nat) (hz : π 15 0 = nI n) (hn : n ≤ 6) (L : gLf) (hh : gHold π f L) (fa : Int32) : gCI l yX12_birds cX12_birds 7 .int (gRm 7 164) G [.ref b, .int fa] (fun H => gM7 G b π μ f g H) (fun r H => r = (if 0 ≤ fa ∧ fa ≤ 255 then gBir π L n fa (2 ^ n) else -2) ∧ gM7 G b π μ f g H) (fun q => b ≤ q ∧ q < b + 30) := by
  refine g_start (by decide) (Nat.le_of_ble_eq_true rfl) ?_
  intro pp_ ee_ s mm_ aa_ below meth cc_ ls Q hQ hX hE hP hl
  obtain ⟨hx, hb, hr, hml, hown, hT, hlk, hnm⟩ := hX
  have hK := hE.2.1
  obtain ⟨s7, h1⟩ := hP
  have hS : va_S (fun q => b ≤ q ∧ q < b + 30) s.heap s.heap [] := va_S.rf
  have hl : lv_has ls 7 [(0, .ref b), (1, .int fa)] := hl
  refine lv_iload_n hx hb dX12_birds_0 rfl (lv_at hl 1 rfl) ?_
  refine lv_iconst (v := 0) hx hb dX12_birds_1 (by decide) ?_
  refine lv_sipush (v := 255) hx hb dX12_birds_2 (by decide) ?_
  refine g_ki (g_runS (rest := []) hx hb hml hown hE hT (c_X12_within l G fa 0 255) gM_X12_within gm_X12_108 gt_X12_within trivial rfl hl.1 ⟨rfl, rfl⟩ ⟨Nat.le_of_ble_eq_true rfl, Nat.le_of_ble_eq_true rfl⟩ ⟨Nat.zero_le _, Nat.zero_le _⟩ rfl (Nat.le_of_ble_eq_true rfl) dX12_birds_5) hS (fun _ h => h.elim) (fun r4 H1 locs q2 k3 hS => ?_)
  subst q2
  have h1 := gSg_free h1 k3 (by intro k hk q; simp only [List.length_cons, List.length_nil] at hk; omega)
  refine lv_if_ne (tgt := 14) hx hb dX12_birds_8 (by decide) (fun c5 => ?_) (fun c5 => ?_)
  · have c5 : 0 ≤ fa ∧ fa ≤ 255 := gB_1.mp c5
    refine lv_aload_n hx hb dX12_birds_14 rfl (lv_at hl 0 rfl) ?_
    refine g_ki (g_runV (T := TX12) (ci := 12) (N := 45) (rest := []) hx hb hml hown hE hT (c_X12_ready l G b π μ f g n hz (by omega) L hh) gM_X12_ready gm_X12_259 gi_X12_ready gs_RX12_yX12_ready_yX12_ready rfl (h1 0 _ rfl) ⟨s7, h1⟩ rfl hl.1 ⟨rfl, rfl⟩ ⟨Nat.le_of_ble_eq_true rfl, Nat.le_of_ble_eq_true rfl⟩ ⟨Nat.zero_le _, Nat.zero_le _⟩ rfl (Nat.le_of_ble_eq_true rfl) dX12_birds_15) hS (by intro q hq; omega) (fun r9 H6 locs q7 k8 hS => ?_)
    obtain ⟨rfl, s7, h1⟩ := q7
    refine lv_istore_n (lv' := [(2, .int (gRdy π L n)), (0, .ref b), (1, .int fa)]) hx hb dX12_birds_18 rfl hl (by decide) rfl (fun ls hl => ?_)
    refine lv_bipush (v := (-5)) hx hb dX12_birds_19 (by decide) ?_
    refine lv_istore_n (lv' := [(3, .int (-5)), (2, .int (gRdy π L n)), (0, .ref b), (1, .int fa)]) hx hb dX12_birds_21 rfl hl (by decide) rfl (fun ls hl => ?_)
    refine lv_iconst (v := 0) hx hb dX12_birds_22 (by decide) ?_
    refine lv_istore (lv' := [(4, .int 0), (3, .int (-5)), (2, .int (gRdy π L n)), (0, .ref b), (1, .int fa)]) hx hb dX12_birds_23 hl (by decide) rfl (fun ls hl => ?_)
    have hn7 : n < 7 := by omega
    have hpw := gPw_le n hn7
    have loop : ∀ (d k : Nat), k + d = (2 ^ n) → ∀ (s7 : Nat → Int32), ∀ (H : Heap) (locs : List Loc), gSg G b (gLM G b π μ (gR f 7 s7) g) H → va_S (fun q => b ≤ q ∧ q < b + 30) s.heap H locs → ∀ ls, lv_has ls 7 [(0, .ref b), (1, .int fa), (2, .int (gRdy π L n)), (3, .int (gBir π L n fa k)), (4, .int (nI k))] → W pp_ l ee_ (gRm 7 164) s mm_ aa_ below meth cc_ H locs 0 0 Q (F0 mm_ 25 ls []) := by
      intro d
      induction d with
      | zero =>
        intro k hk s7  H locs h1 hS ls hl
        have hk : k = (2 ^ n) := by omega
        refine lv_iload hx hb dX12_birds_25 (lv_at hl 4 rfl) ?_
        refine lv_iconst (v := 1) hx hb dX12_birds_27 (by decide) ?_
        refine lv_aload_n hx hb dX12_birds_28 rfl (lv_at hl 0 rfl) ?_
        refine g_get (v := .int (π 15 0)) (T := TX12) (ci := 12) (N := 45) hx hb hown hK (gY_X12 hT) rfl (h1 0 _ rfl) 3 (by decide) (hT _ gf_X12_105) rfl dX12_birds_29 ?_
        refine lv_ishl hx hb dX12_birds_32 ?_
        refine lv_icmp_ge (tgt := 134) hx hb dX12_birds_33 (by decide) (fun c10 => ?_) (fun c10 => ?_)
        · have c10 : (2 ^ n) ≤ k := (gLe (a := 2 ^ n) (b := k) (by rw [hz]; exact gPw n hn7) rfl (by omega) (by omega)).mp c10
          refine lv_iload_n hx hb dX12_birds_134 rfl (lv_at hl 3 rfl) ?_
          rw [← hQ]
          exact g_iret hx hb hr hlk hS dX12_birds_135 ⟨by simp only [if_pos c5, ← hk], s7, h1⟩
        · have c10 : ¬ (2 ^ n) ≤ k := fun z => c10 ((gLe (a := 2 ^ n) (b := k) (by rw [hz]; exact gPw n hn7) rfl (by omega) (by omega)).mpr z)
          exact absurd c10 (by omega)
      | succ d ih =>
        intro k hk s7  H locs h1 hS ls hl
        refine lv_iload hx hb dX12_birds_25 (lv_at hl 4 rfl) ?_
        refine lv_iconst (v := 1) hx hb dX12_birds_27 (by decide) ?_
        refine lv_aload_n hx hb dX12_birds_28 rfl (lv_at hl 0 rfl) ?_
        refine g_get (v := .int (π 15 0)) (T := TX12) (ci := 12) (N := 45) hx hb hown hK (gY_X12 hT) rfl (h1 0 _ rfl) 3 (by decide) (hT _ gf_X12_105) rfl dX12_birds_29 ?_
        refine lv_ishl hx hb dX12_birds_32 ?_
        refine lv_icmp_ge (tgt := 134) hx hb dX12_birds_33 (by decide) (fun c11 => ?_) (fun c11 => ?_)
        · have c11 : (2 ^ n) ≤ k := (gLe (a := 2 ^ n) (b := k) (by rw [hz]; exact gPw n hn7) rfl (by omega) (by omega)).mp c11
          exact absurd c11 (by omega)
        · have c11 : ¬ (2 ^ n) ≤ k := fun z => c11 ((gLe (a := 2 ^ n) (b := k) (by rw [hz]; exact gPw n hn7) rfl (by omega) (by omega)).mpr z)
          refine lv_iload hx hb dX12_birds_36 (lv_at hl 4 rfl) ?_
          refine lv_iload_n hx hb dX12_birds_38 rfl (lv_at hl 2 rfl) ?_
          refine lv_iconst (v := (-1)) hx hb dX12_birds_39 (by decide) ?_
          refine lv_ixor hx hb dX12_birds_40 ?_
          refine lv_iand hx hb dX12_birds_41 ?_
          refine lv_if_ne (tgt := 128) hx hb dX12_birds_42 (by decide) (fun c12 => ?_) (fun c12 => ?_)
          · refine lv_iinc (v := nI (k + 1)) (lv' := [(4, .int (nI (k + 1))), (0, .ref b), (1, .int fa), (2, .int (gRdy π L n)), (3, .int (gBir π L n fa k))]) hx hb dX12_birds_128 hl (k := 4) rfl (gAdd rfl (show Int32.ofInt 1 = nI 1 from rfl)) (by decide) rfl (fun ls hl => ?_)
            refine lv_goto (tgt := 25) hx hb dX12_birds_131 (by decide) ?_
            exact ih (k + 1) (by omega) s7  _ _ h1 hS _ (by have hl := lv_sub hl [1, 2, 3, 4, 0] rfl; rw [show (gBir π L n fa k : Int32) = gBir π L n fa (k + 1) from by rw [gBir, if_pos c12]] at hl; exact hl)
          · refine lv_iload_n hx hb dX12_birds_45 rfl (lv_at hl 3 rfl) ?_
            refine lv_bipush (v := (-5)) hx hb dX12_birds_46 (by decide) ?_
            refine lv_icmp_eq (tgt := 66) hx hb dX12_birds_48 (by decide) (fun c13 => ?_) (fun c13 => ?_)
            · refine lv_aload_n hx hb dX12_birds_66 rfl (lv_at hl 0 rfl) ?_
              refine g_get (v := .int (π 15 1)) (T := TX12) (ci := 12) (N := 45) hx hb hown hK (gY_X12 hT) rfl (h1 0 _ rfl) 2 (by decide) (hT _ gf_X12_241) rfl dX12_birds_67 ?_
              refine lv_istore (lv' := [(5, .int (π 15 1)), (0, .ref b), (1, .int fa), (2, .int (gRdy π L n)), (3, .int (gBir π L n fa k)), (4, .int (nI k))]) hx hb dX12_birds_70 hl (by decide) rfl (fun ls hl => ?_)
              refine lv_iconst (v := 0) hx hb dX12_birds_72 (by decide) ?_
              refine lv_istore (lv' := [(6, .int 0), (5, .int (π 15 1)), (0, .ref b), (1, .int fa), (2, .int (gRdy π L n)), (3, .int (gBir π L n fa k)), (4, .int (nI k))]) hx hb dX12_birds_73 hl (by decide) rfl (fun ls hl => ?_)
              have inner : ∀ (di i : Nat), i + di = n → ∀ (s7 : Nat → Int32), ∀ (H : Heap) (locs : List Loc), gSg G b (gLM G b π μ (gR f 7 s7) g) H → va_S (fun q => b ≤ q ∧ q < b + 30) s.heap H locs → ∀ ls, lv_has ls 7 [(0, .ref b), (1, .int fa), (2, .int (gRdy π L n)), (3, .int (gBir π L n fa k)), (4, .int (nI k)), (5, .int (gBri π (nI k) i)), (6, .int (nI i))] → W pp_ l ee_ (gRm 7 164) s mm_ aa_ below meth cc_ H locs 0 0 Q (F0 mm_ 75 ls []) := by
                intro di
                induction di with
                | zero =>
                  intro i hki s7  H locs h1 hS ls hl
                  have hki : i = n := by omega
                  refine lv_iload hx hb dX12_birds_75 (lv_at hl 6 rfl) ?_
                  refine lv_aload_n hx hb dX12_birds_77 rfl (lv_at hl 0 rfl) ?_
                  refine g_get (v := .int (π 15 0)) (T := TX12) (ci := 12) (N := 45) hx hb hown hK (gY_X12 hT) rfl (h1 0 _ rfl) 3 (by decide) (hT _ gf_X12_105) rfl dX12_birds_78 ?_
                  refine lv_icmp_ge (tgt := 116) hx hb dX12_birds_81 (by decide) (fun c14 => ?_) (fun c14 => ?_)
                  · have c14 : n ≤ i := (gLe (a := n) (b := i) hz rfl (by omega) (by omega)).mp c14
                    rw [hki] at hl
                    refine lv_iload_n hx hb dX12_birds_116 rfl (lv_at hl 1 rfl) ?_
                    refine lv_iload hx hb dX12_birds_117 (lv_at hl 5 rfl) ?_
                    refine lv_iconst (v := (-1)) hx hb dX12_birds_119 (by decide) ?_
                    refine lv_ixor hx hb dX12_birds_120 ?_
                    refine lv_iand hx hb dX12_birds_121 ?_
                    refine lv_if_ne (tgt := 128) hx hb dX12_birds_122 (by decide) (fun c15 => ?_) (fun c15 => ?_)
                    · refine lv_iinc (v := nI (k + 1)) (lv' := [(4, .int (nI (k + 1))), (0, .ref b), (1, .int fa), (2, .int (gRdy π L n)), (3, .int (gBir π L n fa k)), (5, .int (gBri π (nI k) n)), (6, .int (nI n))]) hx hb dX12_birds_128 hl (k := 4) rfl (gAdd rfl (show Int32.ofInt 1 = nI 1 from rfl)) (by decide) rfl (fun ls hl => ?_)
                      refine lv_goto (tgt := 25) hx hb dX12_birds_131 (by decide) ?_
                      exact ih (k + 1) (by omega) s7  _ _ h1 hS _ (by have hl := lv_sub hl [1, 2, 3, 4, 0] rfl; rw [show (gBir π L n fa k : Int32) = gBir π L n fa (k + 1) from by rw [gBir, if_neg (Decidable.not_not.mpr c12), if_neg (fun z => z.1 c13), if_neg c15]] at hl; exact hl)
                    · refine lv_iload hx hb dX12_birds_125 (lv_at hl 4 rfl) ?_
                      refine lv_istore_n (lv' := [(3, .int (nI k)), (0, .ref b), (1, .int fa), (2, .int (gRdy π L n)), (4, .int (nI k)), (5, .int (gBri π (nI k) n)), (6, .int (nI n))]) hx hb dX12_birds_127 rfl hl (by decide) rfl (fun ls hl => ?_)
                      refine lv_iinc (v := nI (k + 1)) (lv' := [(4, .int (nI (k + 1))), (3, .int (nI k)), (0, .ref b), (1, .int fa), (2, .int (gRdy π L n)), (5, .int (gBri π (nI k) n)), (6, .int (nI n))]) hx hb dX12_birds_128 hl (k := 4) rfl (gAdd rfl (show Int32.ofInt 1 = nI 1 from rfl)) (by decide) rfl (fun ls hl => ?_)
                      refine lv_goto (tgt := 25) hx hb dX12_birds_131 (by decide) ?_
                      exact ih (k + 1) (by omega) s7  _ _ h1 hS _ (by have hl := lv_sub hl [2, 3, 4, 1, 0] rfl; rw [show (nI k : Int32) = gBir π L n fa (k + 1) from by rw [gBir, if_neg (Decidable.not_not.mpr c12), if_neg (fun z => z.1 c13), if_pos c15]] at hl; exact hl)
                  · have c14 : ¬ n ≤ i := fun z => c14 ((gLe (a := n) (b := i) hz rfl (by omega) (by omega)).mpr z)
                    exact absurd c14 (by omega)
                | succ di ihi =>
                  intro i hki s7  H locs h1 hS ls hl
                  refine lv_iload hx hb dX12_birds_75 (lv_at hl 6 rfl) ?_
                  refine lv_aload_n hx hb dX12_birds_77 rfl (lv_at hl 0 rfl) ?_
                  refine g_get (v := .int (π 15 0)) (T := TX12) (ci := 12) (N := 45) hx hb hown hK (gY_X12 hT) rfl (h1 0 _ rfl) 3 (by decide) (hT _ gf_X12_105) rfl dX12_birds_78 ?_
                  refine lv_icmp_ge (tgt := 116) hx hb dX12_birds_81 (by decide) (fun c16 => ?_) (fun c16 => ?_)
                  · have c16 : n ≤ i := (gLe (a := n) (b := i) hz rfl (by omega) (by omega)).mp c16
                    exact absurd c16 (by omega)
                  · have c16 : ¬ n ≤ i := fun z => c16 ((gLe (a := n) (b := i) hz rfl (by omega) (by omega)).mpr z)
                    refine lv_iload hx hb dX12_birds_84 (lv_at hl 4 rfl) ?_
                    refine lv_iload hx hb dX12_birds_86 (lv_at hl 6 rfl) ?_
                    refine g_ki (g_runS (rest := []) hx hb hml hown hE hT (c_X12_has l G (nI k) i) gM_X12_has gm_X12_223 gt_X12_has trivial rfl hl.1 ⟨rfl, rfl⟩ ⟨Nat.le_of_ble_eq_true rfl, Nat.le_of_ble_eq_true rfl⟩ ⟨Nat.zero_le _, Nat.zero_le _⟩ rfl (Nat.le_of_ble_eq_true rfl) dX12_birds_88) hS (fun _ h => h.elim) (fun r20 H17 locs q18 k19 hS => ?_)
                    subst q18
                    have h1 := gSg_free h1 k19 (by intro k hk q; simp only [List.length_cons, List.length_nil] at hk; omega)
                    refine lv_if_eq (tgt := 110) hx hb dX12_birds_91 (by decide) (fun c21 => ?_) (fun c21 => ?_)
                    · have c21 : ¬ (¬ (nI k) >>> (nI i &&& 31) &&& 1 = 0) := gB_0.mp c21
                      refine lv_iinc (v := nI (i + 1)) (lv' := [(6, .int (nI (i + 1))), (0, .ref b), (1, .int fa), (2, .int (gRdy π L n)), (3, .int (gBir π L n fa k)), (4, .int (nI k)), (5, .int (gBri π (nI k) i))]) hx hb dX12_birds_110 hl (k := 6) rfl (gAdd rfl (show Int32.ofInt 1 = nI 1 from rfl)) (by decide) rfl (fun ls hl => ?_)
                      refine lv_goto (tgt := 75) hx hb dX12_birds_113 (by decide) ?_
                      exact ihi (i + 1) (by omega) s7  _ _ h1 hS _ (by have hl := lv_sub hl [1, 2, 3, 4, 5, 6, 0] rfl; rw [show (gBri π (nI k) i : Int32) = gBri π (nI k) (i + 1) from by rw [gBri, if_pos (Decidable.not_not.mp c21)]] at hl; exact hl)
                    · have c21 : ¬ (nI k) >>> (nI i &&& 31) &&& 1 = 0 := gB_1.mp c21
                      refine lv_iload hx hb dX12_birds_94 (lv_at hl 5 rfl) ?_
                      refine lv_aload_n hx hb dX12_birds_96 rfl (lv_at hl 0 rfl) ?_
                      refine lv_aload_n hx hb dX12_birds_97 rfl (lv_at hl 0 rfl) ?_
                      refine g_get (v := .ref (b + 5)) (T := TX12) (ci := 12) (N := 45) hx hb hown hK (gY_X12 hT) rfl (h1 0 _ rfl) 6 (by decide) (hT _ gf_X12_24) rfl dX12_birds_98 ?_
                      refine lv_iload hx hb dX12_birds_101 (lv_at hl 6 rfl) ?_
                      refine g_ia (j := i) (v := π 4 i) hx hb hK (h1 5 _ rfl) rfl (by omega) (Nat.le_of_ble_eq_true rfl) rfl dX12_birds_103 ?_
                      refine g_ki (g_runV (T := TX12) (ci := 12) (N := 45) (rest := [.int (gBri π (nI k) i)]) hx hb hml hown hE hT (c_X12_meant l G b π μ (gR f 7 s7) g (π 4 i)) gM_X12_meant gm_X12_250 gi_X12_meant gs_RX12_yX12_meant_yX12_meant rfl (h1 0 _ rfl) h1 rfl hl.1 ⟨rfl, rfl⟩ ⟨Nat.le_of_ble_eq_true rfl, Nat.le_of_ble_eq_true rfl⟩ ⟨Nat.zero_le _, Nat.zero_le _⟩ rfl (Nat.le_of_ble_eq_true rfl) dX12_birds_104) hS (fun _ h => h.elim) (fun r25 H22 locs q23 k24 hS => ?_)
                      subst q23
                      have h1 := gSg_free h1 k24 (by intro k hk q; simp only [List.length_cons, List.length_nil] at hk; omega)
                      refine lv_ior hx hb dX12_birds_107 ?_
                      refine lv_istore (lv' := [(5, .int ((gBri π (nI k) i) ||| (gMean (π 1) (π 4 i) 12))), (0, .ref b), (1, .int fa), (2, .int (gRdy π L n)), (3, .int (gBir π L n fa k)), (4, .int (nI k)), (6, .int (nI i))]) hx hb dX12_birds_108 hl (by decide) rfl (fun ls hl => ?_)
                      refine lv_iinc (v := nI (i + 1)) (lv' := [(6, .int (nI (i + 1))), (5, .int ((gBri π (nI k) i) ||| (gMean (π 1) (π 4 i) 12))), (0, .ref b), (1, .int fa), (2, .int (gRdy π L n)), (3, .int (gBir π L n fa k)), (4, .int (nI k))]) hx hb dX12_birds_110 hl (k := 6) rfl (gAdd rfl (show Int32.ofInt 1 = nI 1 from rfl)) (by decide) rfl (fun ls hl => ?_)
                      refine lv_goto (tgt := 75) hx hb dX12_birds_113 (by decide) ?_
                      exact ihi (i + 1) (by omega) s7  _ _ h1 hS _ (by have hl := lv_sub hl [2, 3, 4, 5, 6, 1, 0] rfl; rw [show ((gBri π (nI k) i) ||| (gMean (π 1) (π 4 i) 12) : Int32) = gBri π (nI k) (i + 1) from by rw [gBri, if_neg c21]] at hl; exact hl)
              exact inner (n - 0) 0 (by first | omega | simp) s7 _ _ h1 hS _ (lv_sub hl [2, 3, 4, 5, 6, 1, 0] rfl)
            · refine lv_iload hx hb dX12_birds_51 (lv_at hl 4 rfl) ?_
              refine g_ki (g_runS (rest := []) hx hb hml hown hE hT (c_J6_bitCount_0f7a4 l G (nI k)) gM_J6_bitCount_0f7a4 gm_X12_211 gt_J6_bitCount_0f7a4 trivial rfl hl.1 ⟨rfl, rfl⟩ ⟨Nat.le_of_ble_eq_true rfl, Nat.le_of_ble_eq_true rfl⟩ ⟨Nat.zero_le _, Nat.zero_le _⟩ rfl (Nat.le_of_ble_eq_true rfl) dX12_birds_53) hS (fun _ h => h.elim) (fun r29 H26 locs q27 k28 hS => ?_)
              subst q27
              have h1 := gSg_free h1 k28 (by intro k hk q; simp only [List.length_cons, List.length_nil] at hk; omega)
              refine lv_iload_n hx hb dX12_birds_56 rfl (lv_at hl 3 rfl) ?_
              refine g_ki (g_runS (rest := [.int (gBc (nI k))]) hx hb hml hown hE hT (c_J6_bitCount_0f7a4 l G (gBir π L n fa k)) gM_J6_bitCount_0f7a4 gm_X12_211 gt_J6_bitCount_0f7a4 trivial rfl hl.1 ⟨rfl, rfl⟩ ⟨Nat.le_of_ble_eq_true rfl, Nat.le_of_ble_eq_true rfl⟩ ⟨Nat.zero_le _, Nat.zero_le _⟩ rfl (Nat.le_of_ble_eq_true rfl) dX12_birds_57) hS (fun _ h => h.elim) (fun r33 H30 locs q31 k32 hS => ?_)
              subst q31
              have h1 := gSg_free h1 k32 (by intro k hk q; simp only [List.length_cons, List.length_nil] at hk; omega)
              refine lv_icmp_lt (tgt := 66) hx hb dX12_birds_60 (by decide) (fun c34 => ?_) (fun c34 => ?_)
              · refine lv_aload_n hx hb dX12_birds_66 rfl (lv_at hl 0 rfl) ?_
                refine g_get (v := .int (π 15 1)) (T := TX12) (ci := 12) (N := 45) hx hb hown hK (gY_X12 hT) rfl (h1 0 _ rfl) 2 (by decide) (hT _ gf_X12_241) rfl dX12_birds_67 ?_
                refine lv_istore (lv' := [(5, .int (π 15 1)), (0, .ref b), (1, .int fa), (2, .int (gRdy π L n)), (3, .int (gBir π L n fa k)), (4, .int (nI k))]) hx hb dX12_birds_70 hl (by decide) rfl (fun ls hl => ?_)
                refine lv_iconst (v := 0) hx hb dX12_birds_72 (by decide) ?_
                refine lv_istore (lv' := [(6, .int 0), (5, .int (π 15 1)), (0, .ref b), (1, .int fa), (2, .int (gRdy π L n)), (3, .int (gBir π L n fa k)), (4, .int (nI k))]) hx hb dX12_birds_73 hl (by decide) rfl (fun ls hl => ?_)
                have inner : ∀ (di i : Nat), i + di = n → ∀ (s7 : Nat → Int32), ∀ (H : Heap) (locs : List Loc), gSg G b (gLM G b π μ (gR f 7 s7) g) H → va_S (fun q => b ≤ q ∧ q < b + 30) s.heap H locs → ∀ ls, lv_has ls 7 [(0, .ref b), (1, .int fa), (2, .int (gRdy π L n)), (3, .int (gBir π L n fa k)), (4, .int (nI k)), (5, .int (gBri π (nI k) i)), (6, .int (nI i))] → W pp_ l ee_ (gRm 7 164) s mm_ aa_ below meth cc_ H locs 0 0 Q (F0 mm_ 75 ls []) := by
                  intro di
                  induction di with
                  | zero =>
                    intro i hki s7  H locs h1 hS ls hl
                    have hki : i = n := by omega
                    refine lv_iload hx hb dX12_birds_75 (lv_at hl 6 rfl) ?_
                    refine lv_aload_n hx hb dX12_birds_77 rfl (lv_at hl 0 rfl) ?_
                    refine g_get (v := .int (π 15 0)) (T := TX12) (ci := 12) (N := 45) hx hb hown hK (gY_X12 hT) rfl (h1 0 _ rfl) 3 (by decide) (hT _ gf_X12_105) rfl dX12_birds_78 ?_
                    refine lv_icmp_ge (tgt := 116) hx hb dX12_birds_81 (by decide) (fun c35 => ?_) (fun c35 => ?_)
                    · have c35 : n ≤ i := (gLe (a := n) (b := i) hz rfl (by omega) (by omega)).mp c35
                      rw [hki] at hl
                      refine lv_iload_n hx hb dX12_birds_116 rfl (lv_at hl 1 rfl) ?_
                      refine lv_iload hx hb dX12_birds_117 (lv_at hl 5 rfl) ?_
                      refine lv_iconst (v := (-1)) hx hb dX12_birds_119 (by decide) ?_
                      refine lv_ixor hx hb dX12_birds_120 ?_
                      refine lv_iand hx hb dX12_birds_121 ?_
                      refine lv_if_ne (tgt := 128) hx hb dX12_birds_122 (by decide) (fun c36 => ?_) (fun c36 => ?_)
                      · refine lv_iinc (v := nI (k + 1)) (lv' := [(4, .int (nI (k + 1))), (0, .ref b), (1, .int fa), (2, .int (gRdy π L n)), (3, .int (gBir π L n fa k)), (5, .int (gBri π (nI k) n)), (6, .int (nI n))]) hx hb dX12_birds_128 hl (k := 4) rfl (gAdd rfl (show Int32.ofInt 1 = nI 1 from rfl)) (by decide) rfl (fun ls hl => ?_)
                        refine lv_goto (tgt := 25) hx hb dX12_birds_131 (by decide) ?_
                        exact ih (k + 1) (by omega) s7  _ _ h1 hS _ (by have hl := lv_sub hl [1, 2, 3, 4, 0] rfl; rw [show (gBir π L n fa k : Int32) = gBir π L n fa (k + 1) from by rw [gBir, if_neg (Decidable.not_not.mpr c12), if_neg (fun z => absurd z.2 (Int32.not_le.mpr c34)), if_neg c36]] at hl; exact hl)
                      · refine lv_iload hx hb dX12_birds_125 (lv_at hl 4 rfl) ?_
                        refine lv_istore_n (lv' := [(3, .int (nI k)), (0, .ref b), (1, .int fa), (2, .int (gRdy π L n)), (4, .int (nI k)), (5, .int (gBri π (nI k) n)), (6, .int (nI n))]) hx hb dX12_birds_127 rfl hl (by decide) rfl (fun ls hl => ?_)
                        refine lv_iinc (v := nI (k + 1)) (lv' := [(4, .int (nI (k + 1))), (3, .int (nI k)), (0, .ref b), (1, .int fa), (2, .int (gRdy π L n)), (5, .int (gBri π (nI k) n)), (6, .int (nI n))]) hx hb dX12_birds_128 hl (k := 4) rfl (gAdd rfl (show Int32.ofInt 1 = nI 1 from rfl)) (by decide) rfl (fun ls hl => ?_)
                        refine lv_goto (tgt := 25) hx hb dX12_birds_131 (by decide) ?_
                        exact ih (k + 1) (by omega) s7  _ _ h1 hS _ (by have hl := lv_sub hl [2, 3, 4, 1, 0] rfl; rw [show (nI k : Int32) = gBir π L n fa (k + 1) from by rw [gBir, if_neg (Decidable.not_not.mpr c12), if_neg (fun z => absurd z.2 (Int32.not_le.mpr c34)), if_pos c36]] at hl; exact hl)
                    · have c35 : ¬ n ≤ i := fun z => c35 ((gLe (a := n) (b := i) hz rfl (by omega) (by omega)).mpr z)
                      exact absurd c35 (by omega)
                  | succ di ihi =>
                    intro i hki s7  H locs h1 hS ls hl
                    refine lv_iload hx hb dX12_birds_75 (lv_at hl 6 rfl) ?_
                    refine lv_aload_n hx hb dX12_birds_77 rfl (lv_at hl 0 rfl) ?_
                    refine g_get (v := .int (π 15 0)) (T := TX12) (ci := 12) (N := 45) hx hb hown hK (gY_X12 hT) rfl (h1 0 _ rfl) 3 (by decide) (hT _ gf_X12_105) rfl dX12_birds_78 ?_
                    refine lv_icmp_ge (tgt := 116) hx hb dX12_birds_81 (by decide) (fun c37 => ?_) (fun c37 => ?_)
                    · have c37 : n ≤ i := (gLe (a := n) (b := i) hz rfl (by omega) (by omega)).mp c37
                      exact absurd c37 (by omega)
                    · have c37 : ¬ n ≤ i := fun z => c37 ((gLe (a := n) (b := i) hz rfl (by omega) (by omega)).mpr z)
                      refine lv_iload hx hb dX12_birds_84 (lv_at hl 4 rfl) ?_
                      refine lv_iload hx hb dX12_birds_86 (lv_at hl 6 rfl) ?_
                      refine g_ki (g_runS (rest := []) hx hb hml hown hE hT (c_X12_has l G (nI k) i) gM_X12_has gm_X12_223 gt_X12_has trivial rfl hl.1 ⟨rfl, rfl⟩ ⟨Nat.le_of_ble_eq_true rfl, Nat.le_of_ble_eq_true rfl⟩ ⟨Nat.zero_le _, Nat.zero_le _⟩ rfl (Nat.le_of_ble_eq_true rfl) dX12_birds_88) hS (fun _ h => h.elim) (fun r41 H38 locs q39 k40 hS => ?_)
                      subst q39
                      have h1 := gSg_free h1 k40 (by intro k hk q; simp only [List.length_cons, List.length_nil] at hk; omega)
                      refine lv_if_eq (tgt := 110) hx hb dX12_birds_91 (by decide) (fun c42 => ?_) (fun c42 => ?_)
                      · have c42 : ¬ (¬ (nI k) >>> (nI i &&& 31) &&& 1 = 0) := gB_0.mp c42
                        refine lv_iinc (v := nI (i + 1)) (lv' := [(6, .int (nI (i + 1))), (0, .ref b), (1, .int fa), (2, .int (gRdy π L n)), (3, .int (gBir π L n fa k)), (4, .int (nI k)), (5, .int (gBri π (nI k) i))]) hx hb dX12_birds_110 hl (k := 6) rfl (gAdd rfl (show Int32.ofInt 1 = nI 1 from rfl)) (by decide) rfl (fun ls hl => ?_)
                        refine lv_goto (tgt := 75) hx hb dX12_birds_113 (by decide) ?_
                        exact ihi (i + 1) (by omega) s7  _ _ h1 hS _ (by have hl := lv_sub hl [1, 2, 3, 4, 5, 6, 0] rfl; rw [show (gBri π (nI k) i : Int32) = gBri π (nI k) (i + 1) from by rw [gBri, if_pos (Decidable.not_not.mp c42)]] at hl; exact hl)
                      · have c42 : ¬ (nI k) >>> (nI i &&& 31) &&& 1 = 0 := gB_1.mp c42
                        refine lv_iload hx hb dX12_birds_94 (lv_at hl 5 rfl) ?_
                        refine lv_aload_n hx hb dX12_birds_96 rfl (lv_at hl 0 rfl) ?_
                        refine lv_aload_n hx hb dX12_birds_97 rfl (lv_at hl 0 rfl) ?_
                        refine g_get (v := .ref (b + 5)) (T := TX12) (ci := 12) (N := 45) hx hb hown hK (gY_X12 hT) rfl (h1 0 _ rfl) 6 (by decide) (hT _ gf_X12_24) rfl dX12_birds_98 ?_
                        refine lv_iload hx hb dX12_birds_101 (lv_at hl 6 rfl) ?_
                        refine g_ia (j := i) (v := π 4 i) hx hb hK (h1 5 _ rfl) rfl (by omega) (Nat.le_of_ble_eq_true rfl) rfl dX12_birds_103 ?_
                        refine g_ki (g_runV (T := TX12) (ci := 12) (N := 45) (rest := [.int (gBri π (nI k) i)]) hx hb hml hown hE hT (c_X12_meant l G b π μ (gR f 7 s7) g (π 4 i)) gM_X12_meant gm_X12_250 gi_X12_meant gs_RX12_yX12_meant_yX12_meant rfl (h1 0 _ rfl) h1 rfl hl.1 ⟨rfl, rfl⟩ ⟨Nat.le_of_ble_eq_true rfl, Nat.le_of_ble_eq_true rfl⟩ ⟨Nat.zero_le _, Nat.zero_le _⟩ rfl (Nat.le_of_ble_eq_true rfl) dX12_birds_104) hS (fun _ h => h.elim) (fun r46 H43 locs q44 k45 hS => ?_)
                        subst q44
                        have h1 := gSg_free h1 k45 (by intro k hk q; simp only [List.length_cons, List.length_nil] at hk; omega)
                        refine lv_ior hx hb dX12_birds_107 ?_
                        refine lv_istore (lv' := [(5, .int ((gBri π (nI k) i) ||| (gMean (π 1) (π 4 i) 12))), (0, .ref b), (1, .int fa), (2, .int (gRdy π L n)), (3, .int (gBir π L n fa k)), (4, .int (nI k)), (6, .int (nI i))]) hx hb dX12_birds_108 hl (by decide) rfl (fun ls hl => ?_)
                        refine lv_iinc (v := nI (i + 1)) (lv' := [(6, .int (nI (i + 1))), (5, .int ((gBri π (nI k) i) ||| (gMean (π 1) (π 4 i) 12))), (0, .ref b), (1, .int fa), (2, .int (gRdy π L n)), (3, .int (gBir π L n fa k)), (4, .int (nI k))]) hx hb dX12_birds_110 hl (k := 6) rfl (gAdd rfl (show Int32.ofInt 1 = nI 1 from rfl)) (by decide) rfl (fun ls hl => ?_)
                        refine lv_goto (tgt := 75) hx hb dX12_birds_113 (by decide) ?_
                        exact ihi (i + 1) (by omega) s7  _ _ h1 hS _ (by have hl := lv_sub hl [2, 3, 4, 5, 6, 1, 0] rfl; rw [show ((gBri π (nI k) i) ||| (gMean (π 1) (π 4 i) 12) : Int32) = gBri π (nI k) (i + 1) from by rw [gBri, if_neg c42]] at hl; exact hl)
                exact inner (n - 0) 0 (by first | omega | simp) s7 _ _ h1 hS _ (lv_sub hl [2, 3, 4, 5, 6, 1, 0] rfl)
              · refine lv_goto (tgt := 128) hx hb dX12_birds_63 (by decide) ?_
                refine lv_iinc (v := nI (k + 1)) (lv' := [(4, .int (nI (k + 1))), (0, .ref b), (1, .int fa), (2, .int (gRdy π L n)), (3, .int (gBir π L n fa k))]) hx hb dX12_birds_128 hl (k := 4) rfl (gAdd rfl (show Int32.ofInt 1 = nI 1 from rfl)) (by decide) rfl (fun ls hl => ?_)
                refine lv_goto (tgt := 25) hx hb dX12_birds_131 (by decide) ?_
                exact ih (k + 1) (by omega) s7  _ _ h1 hS _ (by have hl := lv_sub hl [1, 2, 3, 4, 0] rfl; rw [show (gBir π L n fa k : Int32) = gBir π L n fa (k + 1) from by rw [gBir, if_neg (Decidable.not_not.mpr c12), if_pos ⟨c13, Int32.not_lt.mp c34⟩]] at hl; exact hl)
    exact loop ((2 ^ n) - 0) 0 (by first | omega | simp) s7 _ _ h1 hS _ (lv_sub hl [3, 4, 2, 1, 0] rfl)
  · have c5 : ¬ (0 ≤ fa ∧ fa ≤ 255) := gB_0.mp c5
    refine lv_bipush (v := (-2)) hx hb dX12_birds_11 (by decide) ?_
    rw [← hQ]
    exact g_iret hx hb hr hlk hS dX12_birds_13 ⟨by simp only [if_neg c5], s7, h1⟩
