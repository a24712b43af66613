set_option maxHeartbeats 4000000 in
set_option maxRecDepth 100000 in
theorem c_X12_odds (l : Launch) (G : gW) (b : Nat) (π μ f : gPS) (g : Nat → Int64) (n : Nat) (hz : π 15 0 = nI n) (hn : n ≤ 6) (L : gLf) (hh : gHold π f L) (p q : Int32) : gCL l yX12_odds cX12_odds 5 (gRm 5 121) G [.ref b, .int p, .int q] (fun H => gM7 G b π μ f g H) (fun r H => r = (if 0 ≤ p ∧ p < π 15 0 then (if 0 ≤ q ∧ q ≤ 1 then gPt (gOdd π L p.toNatClampNeg 12).toInt64 12 q else -9223372036854775808) else -9223372036854775808) ∧ gM7 G b π μ f g H) (fun q => b ≤ q ∧ q < b + 30) := by
  refine g_start (by decide) (Nat.le_of_ble_eq_true rfl) ?_
  intro pp_ ee_ s mm_ aa_ below meth cc_ ls Q hQ hX hE hP hl
  obtain ⟨hx, hb, hr, hml, hown, hT, hlk, hnm⟩ := hX
  have hK := hE.2.1
  obtain ⟨s7, h1⟩ := hP
  have hS : va_S (fun q => b ≤ q ∧ q < b + 30) s.heap s.heap [] := va_S.rf
  have hl : lv_has ls 5 [(0, .ref b), (1, .int p), (2, .int q)] := hl
  refine lv_aload_n hx hb dX12_odds_0 rfl (lv_at hl 0 rfl) ?_
  refine lv_iload_n hx hb dX12_odds_1 rfl (lv_at hl 1 rfl) ?_
  refine g_ki (g_runV (T := TX12) (ci := 12) (N := 45) (rest := []) hx hb hml hown hE hT (c_X12_isOne l G b π μ (gR f 7 s7) g n hz (by omega) p) gM_X12_isOne gm_X12_112 gi_X12_isOne gs_RX12_yX12_isOne_yX12_isOne rfl (h1 0 _ rfl) h1 rfl hl.1 ⟨rfl, rfl⟩ ⟨Nat.le_of_ble_eq_true rfl, Nat.le_of_ble_eq_true rfl⟩ ⟨Nat.zero_le _, Nat.zero_le _⟩ rfl (Nat.le_of_ble_eq_true rfl) dX12_odds_2) hS (fun _ h => h.elim) (fun r4 H1 locs q2 k3 hS => ?_)
  subst q2
  have h1 := gSg_free h1 k3 (by intro k hk q; simp only [List.length_cons, List.length_nil] at hk; omega)
  refine lv_if_eq (tgt := 17) hx hb dX12_odds_5 (by decide) (fun c5 => ?_) (fun c5 => ?_)
  · have c5 : ¬ (0 ≤ p ∧ p < π 15 0) := gB_0.mp c5
    refine lv_ldc2 (v := -9223372036854775808) hx hb hown (hT _ gl_X12_282) dX12_odds_17 ?_
    rw [← hQ]
    exact g_lret hx hb hr hlk hS dX12_odds_20 ⟨by simp only [if_neg c5], s7, h1⟩
  · have c5 : 0 ≤ p ∧ p < π 15 0 := gB_1.mp c5
    obtain ⟨k, hk, ek⟩ := gIx hz (by omega) c5
    subst ek
    refine lv_iload_n hx hb dX12_odds_8 rfl (lv_at hl 2 rfl) ?_
    refine lv_iconst (v := 0) hx hb dX12_odds_9 (by decide) ?_
    refine lv_iconst (v := 1) hx hb dX12_odds_10 (by decide) ?_
    refine g_ki (g_runS (rest := []) hx hb hml hown hE hT (c_X12_within l G q 0 1) gM_X12_within gm_X12_108 gt_X12_within trivial rfl hl.1 ⟨rfl, rfl⟩ ⟨Nat.le_of_ble_eq_true rfl, Nat.le_of_ble_eq_true rfl⟩ ⟨Nat.zero_le _, Nat.zero_le _⟩ rfl (Nat.le_of_ble_eq_true rfl) dX12_odds_11) hS (fun _ h => h.elim) (fun r9 H6 locs q7 k8 hS => ?_)
    subst q7
    have h1 := gSg_free h1 k8 (by intro k hk q; simp only [List.length_cons, List.length_nil] at hk; omega)
    refine lv_if_ne (tgt := 21) hx hb dX12_odds_14 (by decide) (fun c10 => ?_) (fun c10 => ?_)
    · have c10 : 0 ≤ q ∧ q ≤ 1 := gB_1.mp c10
      refine lv_iconst (v := 0) hx hb dX12_odds_21 (by decide) ?_
      refine lv_istore_n (lv' := [(3, .int 0), (0, .ref b), (1, .int (nI k)), (2, .int q)]) hx hb dX12_odds_22 rfl hl (by decide) rfl (fun ls hl => ?_)
      refine lv_iconst (v := 0) hx hb dX12_odds_23 (by decide) ?_
      refine lv_istore (lv' := [(4, .int 0), (3, .int 0), (0, .ref b), (1, .int (nI k)), (2, .int q)]) hx hb dX12_odds_24 hl (by decide) rfl (fun ls hl => ?_)
      have loop : ∀ (d w : Nat), w + d = 12 → ∀ (s7 : Nat → Int32), ∀ (H : Heap) (locs : List Loc), gSg G b (gLM G b π μ (gR f 7 s7) g) H → va_S (fun q => b ≤ q ∧ q < b + 30) s.heap H locs → ∀ ls, lv_has ls 5 [(0, .ref b), (1, .int (nI k)), (2, .int q), (3, .int (gOdd π L k w)), (4, .int (nI w))] → W pp_ l ee_ (gRm 5 121) s mm_ aa_ below meth cc_ H locs 0 0 Q (F0 mm_ 26 ls []) := by
        intro d
        induction d with
        | zero =>
          intro w hk s7  H locs h1 hS ls hl
          have hk : w = 12 := by omega
          refine lv_iload hx hb dX12_odds_26 (lv_at hl 4 rfl) ?_
          refine lv_bipush (v := 12) hx hb dX12_odds_28 (by decide) ?_
          refine lv_icmp_ge (tgt := 61) hx hb dX12_odds_30 (by decide) (fun c11 => ?_) (fun c11 => ?_)
          · have c11 : 12 ≤ w := (gLe (a := 12) (b := w) rfl rfl (by omega) (by omega)).mp c11
            subst hk
            refine lv_iload_n hx hb dX12_odds_61 rfl (lv_at hl 3 rfl) ?_
            refine lv_i2l hx hb dX12_odds_62 rfl ?_
            refine lv_ldc2 (v := 12) hx hb hown (hT _ gl_X12_284) dX12_odds_63 ?_
            refine lv_iload_n hx hb dX12_odds_66 rfl (lv_at hl 2 rfl) ?_
            refine g_kl (g_runS (rest := []) hx hb hml hown hE hT (c_X12_part l G ((gOdd π L k 12).toInt64) 12 q (gI64_lo _) (gI64_hi _) (by decide) (by decide) ) gM_X12_part gm_X12_286 gt_X12_part trivial rfl hl.1 ⟨rfl, rfl⟩ ⟨Nat.le_of_ble_eq_true rfl, Nat.le_of_ble_eq_true rfl⟩ ⟨Nat.zero_le _, Nat.zero_le _⟩ rfl (Nat.le_of_ble_eq_true rfl) dX12_odds_67) hS (fun _ h => h.elim) (fun r15 H12 locs q13 k14 hS => ?_)
            subst q13
            have h1 := gSg_free h1 k14 (by intro k hk q; simp only [List.length_cons, List.length_nil] at hk; omega)
            rw [← hQ]
            exact g_lret hx hb hr hlk hS dX12_odds_70 ⟨by simp only [if_pos c5, if_pos c10, nI_clamp (show k < 2 ^ 31 by omega)], s7, h1⟩
          · have c11 : ¬ 12 ≤ w := fun z => c11 ((gLe (a := 12) (b := w) rfl rfl (by omega) (by omega)).mpr z)
            exact absurd c11 (by omega)
        | succ d ih =>
          intro w hk s7  H locs h1 hS ls hl
          refine lv_iload hx hb dX12_odds_26 (lv_at hl 4 rfl) ?_
          refine lv_bipush (v := 12) hx hb dX12_odds_28 (by decide) ?_
          refine lv_icmp_ge (tgt := 61) hx hb dX12_odds_30 (by decide) (fun c16 => ?_) (fun c16 => ?_)
          · have c16 : 12 ≤ w := (gLe (a := 12) (b := w) rfl rfl (by omega) (by omega)).mp c16
            exact absurd c16 (by omega)
          · have c16 : ¬ 12 ≤ w := fun z => c16 ((gLe (a := 12) (b := w) rfl rfl (by omega) (by omega)).mpr z)
            refine lv_aload_n hx hb dX12_odds_33 rfl (lv_at hl 0 rfl) ?_
            refine lv_iload_n hx hb dX12_odds_34 rfl (lv_at hl 1 rfl) ?_
            refine lv_aload_n hx hb dX12_odds_35 rfl (lv_at hl 0 rfl) ?_
            refine g_get (v := .ref (b + 5)) (T := TX12) (ci := 12) (N := 45) hx hb hown hK (gY_X12 hT) rfl (h1 0 _ rfl) 6 (by decide) (hT _ gf_X12_24) rfl dX12_odds_36 ?_
            refine lv_iload_n hx hb dX12_odds_39 rfl (lv_at hl 1 rfl) ?_
            refine g_ia (j := k) (v := π 4 k) hx hb hK (h1 5 _ rfl) rfl (by omega) (Nat.le_of_ble_eq_true rfl) rfl dX12_odds_40 ?_
            refine lv_iconst (v := 1) hx hb dX12_odds_41 (by decide) ?_
            refine lv_iload hx hb dX12_odds_42 (lv_at hl 4 rfl) ?_
            refine lv_ishl hx hb dX12_odds_44 ?_
            refine lv_ior hx hb dX12_odds_45 ?_
            refine g_ki (g_runV (T := TX12) (ci := 12) (N := 45) (rest := []) hx hb hml hown hE hT (c_X12_joyOf l G b π μ f g k (by omega) ((π 4 k) ||| (1 <<< ((nI w) &&& 31))) L hh) gM_X12_joyOf gm_X12_126 gi_X12_joyOf gs_RX12_yX12_joyOf_yX12_joyOf rfl (h1 0 _ rfl) ⟨s7, h1⟩ rfl hl.1 ⟨rfl, rfl⟩ ⟨Nat.le_of_ble_eq_true rfl, Nat.le_of_ble_eq_true rfl⟩ ⟨Nat.zero_le _, Nat.zero_le _⟩ rfl (Nat.le_of_ble_eq_true rfl) dX12_odds_46) hS (by intro q hq; omega) (fun r20 H17 locs q18 k19 hS => ?_)
            obtain ⟨rfl, s7, h1⟩ := q18
            refine lv_if_le (tgt := 55) hx hb dX12_odds_49 (by decide) (fun c21 => ?_) (fun c21 => ?_)
            · refine lv_iinc (v := nI (w + 1)) (lv' := [(4, .int (nI (w + 1))), (0, .ref b), (1, .int (nI k)), (2, .int q), (3, .int (gOdd π L k w))]) hx hb dX12_odds_55 hl (k := 4) rfl (gAdd rfl (show Int32.ofInt 1 = nI 1 from rfl)) (by decide) rfl (fun ls hl => ?_)
              refine lv_goto (tgt := 26) hx hb dX12_odds_58 (by decide) ?_
              exact ih (w + 1) (by omega) s7  _ _ h1 hS _ (by have hl := lv_sub hl [1, 2, 3, 4, 0] rfl; rw [show (gOdd π L k w : Int32) = gOdd π L k (w + 1) from by rw [gOdd, if_neg (Int32.not_lt.mpr c21)]] at hl; exact hl)
            · refine lv_iinc (v := (gOdd π L k w) + 1) (lv' := [(3, .int ((gOdd π L k w) + 1)), (0, .ref b), (1, .int (nI k)), (2, .int q), (4, .int (nI w))]) hx hb dX12_odds_52 hl (k := 3) rfl rfl (by decide) rfl (fun ls hl => ?_)
              refine lv_iinc (v := nI (w + 1)) (lv' := [(4, .int (nI (w + 1))), (3, .int ((gOdd π L k w) + 1)), (0, .ref b), (1, .int (nI k)), (2, .int q)]) hx hb dX12_odds_55 hl (k := 4) rfl (gAdd rfl (show Int32.ofInt 1 = nI 1 from rfl)) (by decide) rfl (fun ls hl => ?_)
              refine lv_goto (tgt := 26) hx hb dX12_odds_58 (by decide) ?_
              exact ih (w + 1) (by omega) s7  _ _ h1 hS _ (by have hl := lv_sub hl [2, 3, 4, 1, 0] rfl; rw [show ((gOdd π L k w) + 1 : Int32) = gOdd π L k (w + 1) from by rw [gOdd, if_pos (Int32.not_le.mp c21)]] at hl; exact hl)
      exact loop (12 - 0) 0 (by first | omega | simp) s7 _ _ h1 hS _ (lv_sub hl [2, 3, 4, 1, 0] rfl)
    · have c10 : ¬ (0 ≤ q ∧ q ≤ 1) := gB_0.mp c10
      refine lv_ldc2 (v := -9223372036854775808) hx hb hown (hT _ gl_X12_282) dX12_odds_17 ?_
      rw [← hQ]
      exact g_lret hx hb hr hlk hS dX12_odds_20 ⟨by simp only [if_pos c5, if_neg c10, nI_clamp (show k < 2 ^ 31 by omega)], s7, h1⟩

set_option maxHeartbeats 4000000 in
set_option maxRecDepth 100000 in
theorem c_X12_mean (l : Launch) (G : gW) (b : Nat) (π μ f : gPS) (g : Nat → Int64) (n : Nat) (hz : π 15 0 = nI n) (hn : n ≤ 6) (L : gLf) (hh : gHold π f L) (q : Int32) : gCL l yX12_mean cX12_mean 5 (gRm 5 121) G [.ref b, .int q] (fun H => gM7 G b π μ f g H) (fun r H => r = (if 0 ≤ q ∧ q ≤ 1 then (if (gMea π L n).2 = 0 then -9223372036854775808 else gPt (gMea π L n).1.toInt64 (gMea π L n).2.toInt64 q) else -9223372036854775808) ∧ gM7 G b π μ f g H) (fun q => b ≤ q ∧ q < b + 30) := by
  refine g_start (by decide) (Nat.le_of_ble_eq_true rfl) ?_
  intro pp_ ee_ s mm_ aa_ below meth cc_ ls Q hQ hX hE hP hl
  obtain ⟨hx, hb, hr, hml, hown, hT, hlk, hnm⟩ := hX
  have hK := hE.2.1
  obtain ⟨s7, h1⟩ := hP
  have hS : va_S (fun q => b ≤ q ∧ q < b + 30) s.heap s.heap [] := va_S.rf
  have hl : lv_has ls 5 [(0, .ref b), (1, .int q)] := hl
  refine lv_iconst (v := 0) hx hb dX12_mean_0 (by decide) ?_
  refine lv_istore_n (lv' := [(2, .int 0), (0, .ref b), (1, .int q)]) hx hb dX12_mean_1 rfl hl (by decide) rfl (fun ls hl => ?_)
  refine lv_iconst (v := 0) hx hb dX12_mean_2 (by decide) ?_
  refine lv_istore_n (lv' := [(3, .int 0), (2, .int 0), (0, .ref b), (1, .int q)]) hx hb dX12_mean_3 rfl hl (by decide) rfl (fun ls hl => ?_)
  refine lv_iconst (v := 0) hx hb dX12_mean_4 (by decide) ?_
  refine lv_istore (lv' := [(4, .int 0), (3, .int 0), (2, .int 0), (0, .ref b), (1, .int q)]) hx hb dX12_mean_5 hl (by decide) rfl (fun ls hl => ?_)
  have loop : ∀ (d k : Nat), k + d = n → ∀ (s7 : Nat → Int32), ∀ (H : Heap) (locs : List Loc), gSg G b (gLM G b π μ (gR f 7 s7) g) H → va_S (fun q => b ≤ q ∧ q < b + 30) s.heap H locs → ∀ ls, lv_has ls 5 [(0, .ref b), (1, .int q), (2, .int ((gMea π L k).2)), (3, .int ((gMea π L k).1)), (4, .int (nI k))] → W pp_ l ee_ (gRm 5 121) s mm_ aa_ below meth cc_ H locs 0 0 Q (F0 mm_ 7 ls []) := by
    intro d
    induction d with
    | zero =>
      intro k hk s7  H locs h1 hS ls hl
      have hk : k = n := by omega
      refine lv_iload hx hb dX12_mean_7 (lv_at hl 4 rfl) ?_
      refine lv_aload_n hx hb dX12_mean_9 rfl (lv_at hl 0 rfl) ?_
      refine g_get (v := .int (π 15 0)) (T := TX12) (ci := 12) (N := 45) hx hb hown hK (gY_X12 hT) rfl (h1 0 _ rfl) 3 (by decide) (hT _ gf_X12_105) rfl dX12_mean_10 ?_
      refine lv_icmp_ge (tgt := 54) hx hb dX12_mean_13 (by decide) (fun c1 => ?_) (fun c1 => ?_)
      · have c1 : n ≤ k := (gLe (a := n) (b := k) hz rfl (by omega) (by omega)).mp c1
        subst hk
        refine lv_iload_n hx hb dX12_mean_54 rfl (lv_at hl 1 rfl) ?_
        refine lv_iconst (v := 0) hx hb dX12_mean_55 (by decide) ?_
        refine lv_iconst (v := 1) hx hb dX12_mean_56 (by decide) ?_
        refine g_ki (g_runS (rest := []) hx hb hml hown hE hT (c_X12_within l G q 0 1) gM_X12_within gm_X12_108 gt_X12_within trivial rfl hl.1 ⟨rfl, rfl⟩ ⟨Nat.le_of_ble_eq_true rfl, Nat.le_of_ble_eq_true rfl⟩ ⟨Nat.zero_le _, Nat.zero_le _⟩ rfl (Nat.le_of_ble_eq_true rfl) dX12_mean_57) hS (fun _ h => h.elim) (fun r5 H2 locs q3 k4 hS => ?_)
        subst q3
        have h1 := gSg_free h1 k4 (by intro k hk q; simp only [List.length_cons, List.length_nil] at hk; omega)
        refine lv_if_eq (tgt := 67) hx hb dX12_mean_60 (by decide) (fun c6 => ?_) (fun c6 => ?_)
        · have c6 : ¬ (0 ≤ q ∧ q ≤ 1) := gB_0.mp c6
          refine lv_ldc2 (v := -9223372036854775808) hx hb hown (hT _ gl_X12_282) dX12_mean_67 ?_
          refine lv_goto (tgt := 81) hx hb dX12_mean_70 (by decide) ?_
          rw [← hQ]
          exact g_lret hx hb hr hlk hS dX12_mean_81 ⟨by simp only [if_neg c6], s7, h1⟩
        · have c6 : 0 ≤ q ∧ q ≤ 1 := gB_1.mp c6
          refine lv_iload_n hx hb dX12_mean_63 rfl (lv_at hl 2 rfl) ?_
          refine lv_if_ne (tgt := 73) hx hb dX12_mean_64 (by decide) (fun c7 => ?_) (fun c7 => ?_)
          · obtain ⟨c9, l9, e9⟩ := gMea_n π L k
            have p9 : 0 < c9 := Nat.pos_of_ne_zero (fun z => c7 (by rw [e9, z]; rfl))
            have q9 : (gMea π L k).2.toInt64.toInt = c9 := by rw [e9, gI64, nI_toInt (by omega)]
            refine lv_iload_n hx hb dX12_mean_73 rfl (lv_at hl 3 rfl) ?_
            refine lv_i2l hx hb dX12_mean_74 rfl ?_
            refine lv_iload_n hx hb dX12_mean_75 rfl (lv_at hl 2 rfl) ?_
            refine lv_i2l hx hb dX12_mean_76 rfl ?_
            refine lv_iload_n hx hb dX12_mean_77 rfl (lv_at hl 1 rfl) ?_
            refine g_kl (g_runS (rest := []) hx hb hml hown hE hT (c_X12_part l G (((gMea π L k).1).toInt64) (((gMea π L k).2).toInt64) q (gI64_lo _) (gI64_hi _) (by rw [q9]; omega) (by rw [q9]; omega) ) gM_X12_part gm_X12_286 gt_X12_part trivial rfl hl.1 ⟨rfl, rfl⟩ ⟨Nat.le_of_ble_eq_true rfl, Nat.le_of_ble_eq_true rfl⟩ ⟨Nat.zero_le _, Nat.zero_le _⟩ rfl (Nat.le_of_ble_eq_true rfl) dX12_mean_78) hS (fun _ h => h.elim) (fun r11 H8 locs q9 k10 hS => ?_)
            subst q9
            have h1 := gSg_free h1 k10 (by intro k hk q; simp only [List.length_cons, List.length_nil] at hk; omega)
            rw [← hQ]
            exact g_lret hx hb hr hlk hS dX12_mean_81 ⟨by simp only [if_pos c6, if_neg c7], s7, h1⟩
          · refine lv_ldc2 (v := -9223372036854775808) hx hb hown (hT _ gl_X12_282) dX12_mean_67 ?_
            refine lv_goto (tgt := 81) hx hb dX12_mean_70 (by decide) ?_
            rw [← hQ]
            exact g_lret hx hb hr hlk hS dX12_mean_81 ⟨by simp only [if_pos c6, if_pos c7], s7, h1⟩
      · have c1 : ¬ n ≤ k := fun z => c1 ((gLe (a := n) (b := k) hz rfl (by omega) (by omega)).mpr z)
        exact absurd c1 (by omega)
    | succ d ih =>
      intro k hk s7  H locs h1 hS ls hl
      refine lv_iload hx hb dX12_mean_7 (lv_at hl 4 rfl) ?_
      refine lv_aload_n hx hb dX12_mean_9 rfl (lv_at hl 0 rfl) ?_
      refine g_get (v := .int (π 15 0)) (T := TX12) (ci := 12) (N := 45) hx hb hown hK (gY_X12 hT) rfl (h1 0 _ rfl) 3 (by decide) (hT _ gf_X12_105) rfl dX12_mean_10 ?_
      refine lv_icmp_ge (tgt := 54) hx hb dX12_mean_13 (by decide) (fun c12 => ?_) (fun c12 => ?_)
      · have c12 : n ≤ k := (gLe (a := n) (b := k) hz rfl (by omega) (by omega)).mp c12
        exact absurd c12 (by omega)
      · have c12 : ¬ n ≤ k := fun z => c12 ((gLe (a := n) (b := k) hz rfl (by omega) (by omega)).mpr z)
        refine lv_aload_n hx hb dX12_mean_16 rfl (lv_at hl 0 rfl) ?_
        refine g_get (v := .ref (b + 5)) (T := TX12) (ci := 12) (N := 45) hx hb hown hK (gY_X12 hT) rfl (h1 0 _ rfl) 6 (by decide) (hT _ gf_X12_24) rfl dX12_mean_17 ?_
        refine lv_iload hx hb dX12_mean_20 (lv_at hl 4 rfl) ?_
        refine g_ia (j := k) (v := π 4 k) hx hb hK (h1 5 _ rfl) rfl (by omega) (Nat.le_of_ble_eq_true rfl) rfl dX12_mean_22 ?_
        refine lv_if_ne (tgt := 29) hx hb dX12_mean_23 (by decide) (fun c13 => ?_) (fun c13 => ?_)
        · refine lv_iinc (v := ((gMea π L k).2) + 1) (lv' := [(2, .int (((gMea π L k).2) + 1)), (0, .ref b), (1, .int q), (3, .int ((gMea π L k).1)), (4, .int (nI k))]) hx hb dX12_mean_29 hl (k := 2) rfl rfl (by decide) rfl (fun ls hl => ?_)
          refine lv_iload_n hx hb dX12_mean_32 rfl (lv_at hl 3 rfl) ?_
          refine lv_aload_n hx hb dX12_mean_33 rfl (lv_at hl 1 rfl) ?_
          refine lv_iload hx hb dX12_mean_34 (lv_at hl 4 rfl) ?_
          refine lv_aload_n hx hb dX12_mean_36 rfl (lv_at hl 1 rfl) ?_
          refine g_get (v := .ref (b + 5)) (T := TX12) (ci := 12) (N := 45) hx hb hown hK (gY_X12 hT) rfl (h1 0 _ rfl) 6 (by decide) (hT _ gf_X12_24) rfl dX12_mean_37 ?_
          refine lv_iload hx hb dX12_mean_40 (lv_at hl 4 rfl) ?_
          refine g_ia (j := k) (v := π 4 k) hx hb hK (h1 5 _ rfl) rfl (by omega) (Nat.le_of_ble_eq_true rfl) rfl dX12_mean_42 ?_
          refine g_ki (g_runV (T := TX12) (ci := 12) (N := 45) (rest := [.int ((gMea π L k).1)]) hx hb hml hown hE hT (c_X12_joyOf l G b π μ f g k (by omega) (π 4 k) L hh) gM_X12_joyOf gm_X12_126 gi_X12_joyOf gs_RX12_yX12_joyOf_yX12_joyOf rfl (h1 0 _ rfl) ⟨s7, h1⟩ rfl hl.1 ⟨rfl, rfl⟩ ⟨Nat.le_of_ble_eq_true rfl, Nat.le_of_ble_eq_true rfl⟩ ⟨Nat.zero_le _, Nat.zero_le _⟩ rfl (Nat.le_of_ble_eq_true rfl) dX12_mean_43) hS (by intro q hq; omega) (fun r17 H14 locs q15 k16 hS => ?_)
          obtain ⟨rfl, s7, h1⟩ := q15
          refine lv_iadd hx hb dX12_mean_46 ?_
          refine lv_istore_n (lv' := [(3, .int (((gMea π L k).1) + (gJoy π L k (π 4 k)))), (2, .int (((gMea π L k).2) + 1)), (0, .ref b), (1, .int q), (4, .int (nI k))]) hx hb dX12_mean_47 rfl hl (by decide) rfl (fun ls hl => ?_)
          refine lv_iinc (v := nI (k + 1)) (lv' := [(4, .int (nI (k + 1))), (3, .int (((gMea π L k).1) + (gJoy π L k (π 4 k)))), (2, .int (((gMea π L k).2) + 1)), (0, .ref b), (1, .int q)]) hx hb dX12_mean_48 hl (k := 4) rfl (gAdd rfl (show Int32.ofInt 1 = nI 1 from rfl)) (by decide) rfl (fun ls hl => ?_)
          refine lv_goto (tgt := 7) hx hb dX12_mean_51 (by decide) ?_
          exact ih (k + 1) (by omega) s7  _ _ h1 hS _ (by have hl := lv_sub hl [3, 4, 2, 1, 0] rfl; rw [show (((gMea π L k).1) + (gJoy π L k (π 4 k)) : Int32) = (gMea π L (k + 1)).1 from by rw [gMea, if_neg c13]] at hl; rw [show (((gMea π L k).2) + 1 : Int32) = (gMea π L (k + 1)).2 from by rw [gMea, if_neg c13]] at hl; exact hl)
        · refine lv_goto (tgt := 48) hx hb dX12_mean_26 (by decide) ?_
          refine lv_iinc (v := nI (k + 1)) (lv' := [(4, .int (nI (k + 1))), (0, .ref b), (1, .int q), (2, .int ((gMea π L k).2)), (3, .int ((gMea π L k).1))]) hx hb dX12_mean_48 hl (k := 4) rfl (gAdd rfl (show Int32.ofInt 1 = nI 1 from rfl)) (by decide) rfl (fun ls hl => ?_)
          refine lv_goto (tgt := 7) hx hb dX12_mean_51 (by decide) ?_
          exact ih (k + 1) (by omega) s7  _ _ h1 hS _ (by have hl := lv_sub hl [1, 2, 3, 4, 0] rfl; rw [show ((gMea π L k).2 : Int32) = (gMea π L (k + 1)).2 from by rw [gMea, if_pos c13]] at hl; rw [show ((gMea π L k).1 : Int32) = (gMea π L (k + 1)).1 from by rw [gMea, if_pos c13]] at hl; exact hl)
  exact loop (n - 0) 0 (by first | omega | simp) s7 _ _ h1 hS _ (lv_sub hl [3, 4, 2, 1, 0] rfl)
