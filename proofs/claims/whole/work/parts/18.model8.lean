set_option maxHeartbeats 4000000 in
set_option maxRecDepth 100000 in
theorem c_X12_sum (l : Launch) (G : gW) (b : Nat) (π μ f : gPS) (g : Nat → Int64) (p : Nat) (hp : p < 6) (ws : Int32) (L : gLf) (hh : gHold π f L) : gCI l yX12_sum cX12_sum 6 .int (gRm 3 72) G [.ref b, .int (nI p), .int ws] (fun H => gM7 G b π μ f g H) (fun r H => r = gSum π L p ws ∧ gM7 G b π μ f g H) (fun q => b ≤ q ∧ q < b + 30) := by
  refine g_start (by decide) (Nat.le_of_ble_eq_true rfl) ?_
  intro pp_ ee_ s mm_ aa_ below meth cc_ ls Q hQ hX hE hP hl
  obtain ⟨hx, hb, hr, hml, hown, hT, hlk, hnm⟩ := hX
  have hK := hE.2.1
  obtain ⟨s7, h1⟩ := hP
  have hS : va_S (fun q => b ≤ q ∧ q < b + 30) s.heap s.heap [] := va_S.rf
  have hl : lv_has ls 6 [(0, .ref b), (1, .int (nI p)), (2, .int ws)] := hl
  refine lv_aload_n hx hb dX12_sum_0 rfl (lv_at hl 0 rfl) ?_
  refine g_get (v := .ref (b + 6)) (T := TX12) (ci := 12) (N := 45) hx hb hown hK (gY_X12 hT) rfl (h1 0 _ rfl) 7 (by decide) (hT _ gf_X12_27) rfl dX12_sum_1 ?_
  refine lv_iload_n hx hb dX12_sum_4 rfl (lv_at hl 1 rfl) ?_
  refine g_ia (j := p) (v := π 5 p) hx hb hK (h1 6 _ rfl) rfl (by omega) (Nat.le_of_ble_eq_true rfl) rfl dX12_sum_5 ?_
  refine lv_ineg hx hb dX12_sum_6 ?_
  refine lv_istore_n (lv' := [(3, .int (-(π 5 p))), (0, .ref b), (1, .int (nI p)), (2, .int ws)]) hx hb dX12_sum_7 rfl hl (by decide) rfl (fun ls hl => ?_)
  refine lv_iconst (v := 0) hx hb dX12_sum_8 (by decide) ?_
  refine lv_istore (lv' := [(4, .int 0), (3, .int (-(π 5 p))), (0, .ref b), (1, .int (nI p)), (2, .int ws)]) hx hb dX12_sum_9 hl (by decide) rfl (fun ls hl => ?_)
  have loop : ∀ (d k : Nat), k + d = 12 → ∀ (H : Heap) (locs : List Loc), gSg G b (gLM G b π μ (gR f 7 s7) g) H → va_S (fun q => b ≤ q ∧ q < b + 30) s.heap H locs → ∀ ls, lv_has ls 6 [(0, .ref b), (1, .int (nI p)), (2, .int ws), (3, .int (gSw (π 0) ws (-(π 5 p)) k)), (4, .int (nI k))] → W pp_ l ee_ (gRm 3 72) s mm_ aa_ below meth cc_ H locs 0 0 Q (F0 mm_ 11 ls []) := by
    intro d
    induction d with
    | zero =>
      intro k hk   H locs h1 hS ls hl
      have hk : k = 12 := by omega
      refine lv_iload hx hb dX12_sum_11 (lv_at hl 4 rfl) ?_
      refine lv_bipush (v := 12) hx hb dX12_sum_13 (by decide) ?_
      refine lv_icmp_ge (tgt := 45) hx hb dX12_sum_15 (by decide) (fun c1 => ?_) (fun c1 => ?_)
      · have c1 : 12 ≤ k := (gLe (a := 12) (b := k) rfl rfl (by omega) (by omega)).mp c1
        refine lv_iconst (v := 0) hx hb dX12_sum_45 (by decide) ?_
        refine lv_istore (lv' := [(4, .int 0), (0, .ref b), (1, .int (nI p)), (2, .int ws), (3, .int (gSw (π 0) ws (-(π 5 p)) k))]) hx hb dX12_sum_46 hl (by decide) rfl (fun ls hl => ?_)
        have e12 : gSw (π 0) ws (-(π 5 p)) k = gSw (π 0) ws (-(π 5 p)) 12 := by rw [hk]
        rw [e12] at hl
        rcases id hh with ⟨eh, el⟩ | ⟨h, lh, eh, l10, e1, hM⟩
        · refine lv_aload_n hx hb dX12_sum_48 rfl (lv_at hl 1 rfl) ?_
          refine g_get (v := .int (π 15 6)) (T := TX12) (ci := 12) (N := 45) hx hb hown hK (gY_X12 hT) rfl (h1 0 _ rfl) 18 (by decide) (hT _ gf_X12_101) rfl dX12_sum_49 ?_
          refine lv_iconst (v := (-1)) hx hb dX12_sum_52 (by decide) ?_
          refine lv_icmp_eq (tgt := 141) hx hb dX12_sum_53 (by decide) (fun c2 => ?_) (fun c2 => ?_)
          · refine lv_iload_n hx hb dX12_sum_141 rfl (lv_at hl 4 rfl) ?_
            rw [← hQ]
            exact g_iret hx hb hr hlk hS dX12_sum_142 ⟨by rw [gSum, el, gGs], s7, h1⟩
          · exact absurd eh c2
        · have loop2 : ∀ (d i : Nat), i + d = L.1 → ∀ (s7 : Nat → Int32), ∀ (H : Heap) (locs : List Loc), gSg G b (gLM G b π μ (gR f 7 s7) g) H → va_S (fun q => b ≤ q ∧ q < b + 30) s.heap H locs → ∀ ls, lv_has ls 6 [(0, .ref b), (1, .int (nI p)), (2, .int ws), (3, .int (gGs L (gNu π p (gBc ws)) (gSw (π 0) ws (-(π 5 p)) 12) i)), (4, .int (nI i))] → W pp_ l ee_ (gRm 3 72) s mm_ aa_ below meth cc_ H locs 0 0 Q (F0 mm_ 48 ls []) := by
            intro d
            induction d with
            | zero =>
              intro i hk s7  H locs h1 hS ls hl
              have hk : i = L.1 := by omega
              refine lv_aload_n hx hb dX12_sum_48 rfl (lv_at hl 0 rfl) ?_
              refine g_get (v := .int (π 15 6)) (T := TX12) (ci := 12) (N := 45) hx hb hown hK (gY_X12 hT) rfl (h1 0 _ rfl) 18 (by decide) (hT _ gf_X12_101) rfl dX12_sum_49 ?_
              refine lv_iconst (v := (-1)) hx hb dX12_sum_52 (by decide) ?_
              refine lv_icmp_eq (tgt := 141) hx hb dX12_sum_53 (by decide) (fun c3 => ?_) (fun c3 => ?_)
              · exact absurd c3 (by rw [eh]; exact gNe1 (by omega))
              · refine lv_iload hx hb dX12_sum_56 (lv_at hl 4 rfl) ?_
                refine lv_aload_n hx hb dX12_sum_58 rfl (lv_at hl 0 rfl) ?_
                refine g_get (v := .ref (b + 10)) (T := TX12) (ci := 12) (N := 45) hx hb hown hK (gY_X12 hT) rfl (h1 0 _ rfl) 19 (by decide) (hT _ gf_X12_39) rfl dX12_sum_59 ?_
                refine lv_aload_n hx hb dX12_sum_62 rfl (lv_at hl 0 rfl) ?_
                refine g_get (v := .int (π 15 6)) (T := TX12) (ci := 12) (N := 45) hx hb hown hK (gY_X12 hT) rfl (h1 0 _ rfl) 18 (by decide) (hT _ gf_X12_101) rfl dX12_sum_63 ?_
                refine g_ia (j := h) (v := f 1 h) hx hb hK (h1 10 _ rfl) eh (by omega) (Nat.le_of_ble_eq_true rfl) rfl dX12_sum_66 ?_
                refine lv_icmp_ge (tgt := 141) hx hb dX12_sum_67 (by decide) (fun c4 => ?_) (fun c4 => ?_)
                · have c4 : L.1 ≤ i := (gLe (a := L.1) (b := i) e1 rfl (by omega) (by omega)).mp c4
                  refine lv_iload_n hx hb dX12_sum_141 rfl (lv_at hl 3 rfl) ?_
                  rw [← hQ]
                  exact g_iret hx hb hr hlk hS dX12_sum_142 ⟨by rw [gSum, ← hk], s7, h1⟩
                · have c4 : ¬ L.1 ≤ i := fun z => c4 ((gLe (a := L.1) (b := i) e1 rfl (by omega) (by omega)).mpr z)
                  exact absurd c4 (by omega)
            | succ d ih =>
              intro i hk s7  H locs h1 hS ls hl
              refine lv_aload_n hx hb dX12_sum_48 rfl (lv_at hl 0 rfl) ?_
              refine g_get (v := .int (π 15 6)) (T := TX12) (ci := 12) (N := 45) hx hb hown hK (gY_X12 hT) rfl (h1 0 _ rfl) 18 (by decide) (hT _ gf_X12_101) rfl dX12_sum_49 ?_
              refine lv_iconst (v := (-1)) hx hb dX12_sum_52 (by decide) ?_
              refine lv_icmp_eq (tgt := 141) hx hb dX12_sum_53 (by decide) (fun c5 => ?_) (fun c5 => ?_)
              · exact absurd c5 (by rw [eh]; exact gNe1 (by omega))
              · refine lv_iload hx hb dX12_sum_56 (lv_at hl 4 rfl) ?_
                refine lv_aload_n hx hb dX12_sum_58 rfl (lv_at hl 0 rfl) ?_
                refine g_get (v := .ref (b + 10)) (T := TX12) (ci := 12) (N := 45) hx hb hown hK (gY_X12 hT) rfl (h1 0 _ rfl) 19 (by decide) (hT _ gf_X12_39) rfl dX12_sum_59 ?_
                refine lv_aload_n hx hb dX12_sum_62 rfl (lv_at hl 0 rfl) ?_
                refine g_get (v := .int (π 15 6)) (T := TX12) (ci := 12) (N := 45) hx hb hown hK (gY_X12 hT) rfl (h1 0 _ rfl) 18 (by decide) (hT _ gf_X12_101) rfl dX12_sum_63 ?_
                refine g_ia (j := h) (v := f 1 h) hx hb hK (h1 10 _ rfl) eh (by omega) (Nat.le_of_ble_eq_true rfl) rfl dX12_sum_66 ?_
                refine lv_icmp_ge (tgt := 141) hx hb dX12_sum_67 (by decide) (fun c6 => ?_) (fun c6 => ?_)
                · have c6 : L.1 ≤ i := (gLe (a := L.1) (b := i) e1 rfl (by omega) (by omega)).mp c6
                  exact absurd c6 (by omega)
                · have c6 : ¬ L.1 ≤ i := fun z => c6 ((gLe (a := L.1) (b := i) e1 rfl (by omega) (by omega)).mpr z)
                  obtain ⟨kd3, ew, en, -⟩ := hM i (by omega)
                  refine lv_bipush (v := 10) hx hb dX12_sum_70 (by decide) ?_
                  refine lv_aload_n hx hb dX12_sum_72 rfl (lv_at hl 0 rfl) ?_
                  refine g_get (v := .int (π 15 6)) (T := TX12) (ci := 12) (N := 45) hx hb hown hK (gY_X12 hT) rfl (h1 0 _ rfl) 18 (by decide) (hT _ gf_X12_101) rfl dX12_sum_73 ?_
                  refine lv_imul hx hb dX12_sum_76 ?_
                  refine lv_iload hx hb dX12_sum_77 (lv_at hl 4 rfl) ?_
                  refine lv_iadd hx hb dX12_sum_79 ?_
                  refine lv_istore (lv' := [(5, .int ((10 * (π 15 6)) + (nI i))), (0, .ref b), (1, .int (nI p)), (2, .int ws), (3, .int (gGs L (gNu π p (gBc ws)) (gSw (π 0) ws (-(π 5 p)) 12) i)), (4, .int (nI i))]) hx hb dX12_sum_80 hl (by decide) rfl (fun ls hl => ?_)
                  refine lv_aload_n hx hb dX12_sum_82 rfl (lv_at hl 1 rfl) ?_
                  refine g_get (v := .ref (b + 11)) (T := TX12) (ci := 12) (N := 45) hx hb hown hK (gY_X12 hT) rfl (h1 0 _ rfl) 20 (by decide) (hT _ gf_X12_42) rfl dX12_sum_83 ?_
                  refine lv_iload hx hb dX12_sum_86 (lv_at hl 0 rfl) ?_
                  refine g_ia (j := (10 * h) + i) (v := nI (L.2.1 i)) hx hb hK (h1 11 _ rfl) (gAdd (gMul rfl eh) rfl) (by omega) (Nat.le_of_ble_eq_true rfl) ew dX12_sum_88 ?_
                  refine lv_iconst (v := 2) hx hb dX12_sum_89 (by decide) ?_
                  refine lv_icmp_ge (tgt := 135) hx hb dX12_sum_90 (by decide) (fun c7 => ?_) (fun c7 => ?_)
                  · have c7 : 2 ≤ (L.2.1 i) := (gLe (a := 2) (b := L.2.1 i) rfl rfl (by omega) (by omega)).mp c7
                    refine lv_iinc (v := nI (i + 1)) (lv' := [(4, .int (nI (i + 1))), (5, .int ((10 * (π 15 6)) + (nI i))), (0, .ref b), (1, .int (nI p)), (2, .int ws), (3, .int (gGs L (gNu π p (gBc ws)) (gSw (π 0) ws (-(π 5 p)) 12) i))]) hx hb dX12_sum_135 hl (k := 5) rfl (gAdd rfl (show Int32.ofInt 1 = nI 1 from rfl)) (by decide) rfl (fun ls hl => ?_)
                    refine lv_goto (tgt := 48) hx hb dX12_sum_138 (by decide) ?_
                    exact ih (i + 1) (by omega) s7  _ _ h1 hS _ (by have hl := lv_sub hl [2, 3, 4, 5, 0] rfl; rw [show (gGs L (gNu π p (gBc ws)) (gSw (π 0) ws (-(π 5 p)) 12) i : Int32) = gGs L (gNu π p (gBc ws)) (gSw (π 0) ws (-(π 5 p)) 12) (i + 1) from by rw [gGs, if_neg (by omega)]] at hl; exact hl)
                  · have c7 : ¬ 2 ≤ (L.2.1 i) := fun z => c7 ((gLe (a := 2) (b := L.2.1 i) rfl rfl (by omega) (by omega)).mpr z)
                    have kd2 : L.2.1 i < 2 := by omega
                    refine lv_aload_n hx hb dX12_sum_93 rfl (lv_at hl 1 rfl) ?_
                    refine lv_iload_n hx hb dX12_sum_94 rfl (lv_at hl 2 rfl) ?_
                    refine lv_iload_n hx hb dX12_sum_95 rfl (lv_at hl 3 rfl) ?_
                    refine lv_iload hx hb dX12_sum_96 (lv_at hl 0 rfl) ?_
                    rw [show ((10 * (π 15 6)) + (nI i) : Int32) = nI ((10 * h) + i) from (gAdd (gMul rfl eh) rfl)]
                    refine g_ki (g_runV (T := TX12) (ci := 12) (N := 45) (rest := []) hx hb hml hown hE hT (c_X12_isTrue l G b π μ f g p hp ws L i ((10 * h) + i) (by omega) (hM i (by omega)) kd2) gM_X12_isTrue gm_X12_227 gi_X12_isTrue gs_RX12_yX12_isTrue_yX12_isTrue rfl (h1 0 _ rfl) ⟨s7, h1⟩ rfl hl.1 ⟨rfl, rfl⟩ ⟨Nat.le_of_ble_eq_true rfl, Nat.le_of_ble_eq_true rfl⟩ ⟨Nat.zero_le _, Nat.zero_le _⟩ rfl (Nat.le_of_ble_eq_true rfl) dX12_sum_98) hS (by intro q hq; omega) (fun r11 H8 locs q9 k10 hS => ?_)
                    obtain ⟨rfl, s7, h1⟩ := q9
                    refine lv_if_eq (tgt := 135) hx hb dX12_sum_101 (by decide) (fun c12 => ?_) (fun c12 => ?_)
                    · have c12 : ¬ (gEvT (gNu π p (gBc ws)) (L.2.2.2 i) = true) := gB_0.mp c12
                      refine lv_iinc (v := nI (i + 1)) (lv' := [(4, .int (nI (i + 1))), (5, .int ((10 * (π 15 6)) + (nI i))), (0, .ref b), (1, .int (nI p)), (2, .int ws), (3, .int (gGs L (gNu π p (gBc ws)) (gSw (π 0) ws (-(π 5 p)) 12) i))]) hx hb dX12_sum_135 hl (k := 5) rfl (gAdd rfl (show Int32.ofInt 1 = nI 1 from rfl)) (by decide) rfl (fun ls hl => ?_)
                      refine lv_goto (tgt := 48) hx hb dX12_sum_138 (by decide) ?_
                      exact ih (i + 1) (by omega) s7  _ _ h1 hS _ (by have hl := lv_sub hl [2, 3, 4, 5, 0] rfl; rw [show (gGs L (gNu π p (gBc ws)) (gSw (π 0) ws (-(π 5 p)) 12) i : Int32) = gGs L (gNu π p (gBc ws)) (gSw (π 0) ws (-(π 5 p)) 12) (i + 1) from by rw [gGs, if_pos kd2, if_neg c12]] at hl; exact hl)
                    · have c12 : gEvT (gNu π p (gBc ws)) (L.2.2.2 i) = true := gB_1.mp c12
                      refine lv_iload_n hx hb dX12_sum_104 rfl (lv_at hl 4 rfl) ?_
                      refine lv_aload_n hx hb dX12_sum_105 rfl (lv_at hl 1 rfl) ?_
                      refine g_get (v := .ref (b + 11)) (T := TX12) (ci := 12) (N := 45) hx hb hown hK (gY_X12 hT) rfl (h1 0 _ rfl) 20 (by decide) (hT _ gf_X12_42) rfl dX12_sum_106 ?_
                      refine lv_iload hx hb dX12_sum_109 (lv_at hl 0 rfl) ?_
                      refine g_ia (j := (10 * h) + i) (v := nI (L.2.1 i)) hx hb hK (h1 11 _ rfl) (gAdd (gMul rfl eh) rfl) (by omega) (Nat.le_of_ble_eq_true rfl) ew dX12_sum_111 ?_
                      refine lv_if_ne (tgt := 125) hx hb dX12_sum_112 (by decide) (fun c13 => ?_) (fun c13 => ?_)
                      · have c13 : ¬ (L.2.1 i) = 0 := fun z => c13 ((gEq (a := L.2.1 i) (b := 0) rfl rfl (by omega) (by omega)).mpr z)
                        refine lv_aload_n hx hb dX12_sum_125 rfl (lv_at hl 1 rfl) ?_
                        refine g_get (v := .ref (b + 12)) (T := TX12) (ci := 12) (N := 45) hx hb hown hK (gY_X12 hT) rfl (h1 0 _ rfl) 21 (by decide) (hT _ gf_X12_45) rfl dX12_sum_126 ?_
                        refine lv_iload hx hb dX12_sum_129 (lv_at hl 0 rfl) ?_
                        refine g_ia (j := (10 * h) + i) (v := L.2.2.1 i) hx hb hK (h1 12 _ rfl) (gAdd (gMul rfl eh) rfl) (by omega) (Nat.le_of_ble_eq_true rfl) en dX12_sum_131 ?_
                        refine lv_ineg hx hb dX12_sum_132 ?_
                        refine lv_iadd hx hb dX12_sum_133 ?_
                        refine lv_istore_n (lv' := [(3, .int ((gGs L (gNu π p (gBc ws)) (gSw (π 0) ws (-(π 5 p)) 12) i) + (-(L.2.2.1 i)))), (5, .int ((10 * (π 15 6)) + (nI i))), (0, .ref b), (1, .int (nI p)), (2, .int ws), (4, .int (nI i))]) hx hb dX12_sum_134 rfl hl (by decide) rfl (fun ls hl => ?_)
                        refine lv_iinc (v := nI (i + 1)) (lv' := [(4, .int (nI (i + 1))), (3, .int ((gGs L (gNu π p (gBc ws)) (gSw (π 0) ws (-(π 5 p)) 12) i) + (-(L.2.2.1 i)))), (5, .int ((10 * (π 15 6)) + (nI i))), (0, .ref b), (1, .int (nI p)), (2, .int ws)]) hx hb dX12_sum_135 hl (k := 5) rfl (gAdd rfl (show Int32.ofInt 1 = nI 1 from rfl)) (by decide) rfl (fun ls hl => ?_)
                        refine lv_goto (tgt := 48) hx hb dX12_sum_138 (by decide) ?_
                        exact ih (i + 1) (by omega) s7  _ _ h1 hS _ (by have hl := lv_sub hl [3, 4, 5, 1, 0] rfl; rw [show ((gGs L (gNu π p (gBc ws)) (gSw (π 0) ws (-(π 5 p)) 12) i) + (-(L.2.2.1 i)) : Int32) = gGs L (gNu π p (gBc ws)) (gSw (π 0) ws (-(π 5 p)) 12) (i + 1) from by rw [gGs, if_pos kd2, if_pos c12, if_neg c13]] at hl; exact hl)
                      · have c13 : (L.2.1 i) = 0 := (gEq (a := L.2.1 i) (b := 0) rfl rfl (by omega) (by omega)).mp c13
                        refine lv_aload_n hx hb dX12_sum_115 rfl (lv_at hl 1 rfl) ?_
                        refine g_get (v := .ref (b + 12)) (T := TX12) (ci := 12) (N := 45) hx hb hown hK (gY_X12 hT) rfl (h1 0 _ rfl) 21 (by decide) (hT _ gf_X12_45) rfl dX12_sum_116 ?_
                        refine lv_iload hx hb dX12_sum_119 (lv_at hl 0 rfl) ?_
                        refine g_ia (j := (10 * h) + i) (v := L.2.2.1 i) hx hb hK (h1 12 _ rfl) (gAdd (gMul rfl eh) rfl) (by omega) (Nat.le_of_ble_eq_true rfl) en dX12_sum_121 ?_
                        refine lv_goto (tgt := 133) hx hb dX12_sum_122 (by decide) ?_
                        refine lv_iadd hx hb dX12_sum_133 ?_
                        refine lv_istore_n (lv' := [(3, .int ((gGs L (gNu π p (gBc ws)) (gSw (π 0) ws (-(π 5 p)) 12) i) + (L.2.2.1 i))), (5, .int ((10 * (π 15 6)) + (nI i))), (0, .ref b), (1, .int (nI p)), (2, .int ws), (4, .int (nI i))]) hx hb dX12_sum_134 rfl hl (by decide) rfl (fun ls hl => ?_)
                        refine lv_iinc (v := nI (i + 1)) (lv' := [(4, .int (nI (i + 1))), (3, .int ((gGs L (gNu π p (gBc ws)) (gSw (π 0) ws (-(π 5 p)) 12) i) + (L.2.2.1 i))), (5, .int ((10 * (π 15 6)) + (nI i))), (0, .ref b), (1, .int (nI p)), (2, .int ws)]) hx hb dX12_sum_135 hl (k := 5) rfl (gAdd rfl (show Int32.ofInt 1 = nI 1 from rfl)) (by decide) rfl (fun ls hl => ?_)
                        refine lv_goto (tgt := 48) hx hb dX12_sum_138 (by decide) ?_
                        exact ih (i + 1) (by omega) s7  _ _ h1 hS _ (by have hl := lv_sub hl [3, 4, 5, 1, 0] rfl; rw [show ((gGs L (gNu π p (gBc ws)) (gSw (π 0) ws (-(π 5 p)) 12) i) + (L.2.2.1 i) : Int32) = gGs L (gNu π p (gBc ws)) (gSw (π 0) ws (-(π 5 p)) 12) (i + 1) from by rw [gGs, if_pos kd2, if_pos c12, if_pos c13]] at hl; exact hl)
          exact loop2 (L.1 - 0) 0 (by first | omega | simp) s7 _ _ h1 hS _ (lv_sub hl [1, 2, 3, 4, 0] rfl)
      · have c1 : ¬ 12 ≤ k := fun z => c1 ((gLe (a := 12) (b := k) rfl rfl (by omega) (by omega)).mpr z)
        exact absurd c1 (by omega)
    | succ d ih =>
      intro k hk   H locs h1 hS ls hl
      refine lv_iload hx hb dX12_sum_11 (lv_at hl 4 rfl) ?_
      refine lv_bipush (v := 12) hx hb dX12_sum_13 (by decide) ?_
      refine lv_icmp_ge (tgt := 45) hx hb dX12_sum_15 (by decide) (fun c14 => ?_) (fun c14 => ?_)
      · have c14 : 12 ≤ k := (gLe (a := 12) (b := k) rfl rfl (by omega) (by omega)).mp c14
        exact absurd c14 (by omega)
      · have c14 : ¬ 12 ≤ k := fun z => c14 ((gLe (a := 12) (b := k) rfl rfl (by omega) (by omega)).mpr z)
        refine lv_iload_n hx hb dX12_sum_18 rfl (lv_at hl 2 rfl) ?_
        refine lv_iload hx hb dX12_sum_19 (lv_at hl 4 rfl) ?_
        refine g_ki (g_runS (rest := []) hx hb hml hown hE hT (c_X12_has l G ws k) gM_X12_has gm_X12_223 gt_X12_has trivial rfl hl.1 ⟨rfl, rfl⟩ ⟨Nat.le_of_ble_eq_true rfl, Nat.le_of_ble_eq_true rfl⟩ ⟨Nat.zero_le _, Nat.zero_le _⟩ rfl (Nat.le_of_ble_eq_true rfl) dX12_sum_21) hS (fun _ h => h.elim) (fun r18 H15 locs q16 k17 hS => ?_)
        subst q16
        have h1 := gSg_free h1 k17 (by intro k hk q; simp only [List.length_cons, List.length_nil] at hk; omega)
        refine lv_if_eq (tgt := 39) hx hb dX12_sum_24 (by decide) (fun c19 => ?_) (fun c19 => ?_)
        · have c19 : ¬ (¬ ws >>> (nI k &&& 31) &&& 1 = 0) := gB_0.mp c19
          refine lv_iinc (v := nI (k + 1)) (lv' := [(4, .int (nI (k + 1))), (0, .ref b), (1, .int (nI p)), (2, .int ws), (3, .int (gSw (π 0) ws (-(π 5 p)) k))]) hx hb dX12_sum_39 hl (k := 4) rfl (gAdd rfl (show Int32.ofInt 1 = nI 1 from rfl)) (by decide) rfl (fun ls hl => ?_)
          refine lv_goto (tgt := 11) hx hb dX12_sum_42 (by decide) ?_
          exact ih (k + 1) (by omega)   _ _ h1 hS _ (by have hl := lv_sub hl [1, 2, 3, 4, 0] rfl; rw [show (gSw (π 0) ws (-(π 5 p)) k : Int32) = gSw (π 0) ws (-(π 5 p)) (k + 1) from by rw [gSw, if_pos (Decidable.not_not.mp c19)]] at hl; exact hl)
        · have c19 : ¬ ws >>> (nI k &&& 31) &&& 1 = 0 := gB_1.mp c19
          refine lv_iload_n hx hb dX12_sum_27 rfl (lv_at hl 3 rfl) ?_
          refine lv_aload_n hx hb dX12_sum_28 rfl (lv_at hl 0 rfl) ?_
          refine g_get (v := .ref (b + 1)) (T := TX12) (ci := 12) (N := 45) hx hb hown hK (gY_X12 hT) rfl (h1 0 _ rfl) 0 (by decide) (hT _ gf_X12_9) rfl dX12_sum_29 ?_
          refine lv_iload hx hb dX12_sum_32 (lv_at hl 4 rfl) ?_
          refine g_ia (j := k) (v := π 0 k) hx hb hK (h1 1 _ rfl) rfl (by omega) (Nat.le_of_ble_eq_true rfl) rfl dX12_sum_34 ?_
          refine lv_iconst (v := 4) hx hb dX12_sum_35 (by decide) ?_
          refine lv_isub hx hb dX12_sum_36 ?_
          refine lv_iadd hx hb dX12_sum_37 ?_
          refine lv_istore_n (lv' := [(3, .int ((gSw (π 0) ws (-(π 5 p)) k) + ((π 0 k) - 4))), (0, .ref b), (1, .int (nI p)), (2, .int ws), (4, .int (nI k))]) hx hb dX12_sum_38 rfl hl (by decide) rfl (fun ls hl => ?_)
          refine lv_iinc (v := nI (k + 1)) (lv' := [(4, .int (nI (k + 1))), (3, .int ((gSw (π 0) ws (-(π 5 p)) k) + ((π 0 k) - 4))), (0, .ref b), (1, .int (nI p)), (2, .int ws)]) hx hb dX12_sum_39 hl (k := 4) rfl (gAdd rfl (show Int32.ofInt 1 = nI 1 from rfl)) (by decide) rfl (fun ls hl => ?_)
          refine lv_goto (tgt := 11) hx hb dX12_sum_42 (by decide) ?_
          exact ih (k + 1) (by omega)   _ _ h1 hS _ (by have hl := lv_sub hl [2, 3, 4, 1, 0] rfl; rw [show ((gSw (π 0) ws (-(π 5 p)) k) + ((π 0 k) - 4) : Int32) = gSw (π 0) ws (-(π 5 p)) (k + 1) from by rw [gSw, if_neg c19]] at hl; exact hl)
  exact loop (12 - 0) 0 (by first | omega | simp)  _ _ h1 hS _ (lv_sub hl [2, 3, 4, 1, 0] rfl)

set_option maxHeartbeats 4000000 in
set_option maxRecDepth 100000 in
theorem c_X12_restBy (l : Launch) (G : gW) (b : Nat) (π μ f : gPS) (g : Nat → Int64) (L : gLf) (hh : gHold π f L) : gCI l yX12_restBy cX12_restBy 3 .int (gRm 0 0) G [.ref b] (fun H => gM7 G b π μ f g H) (fun r H => r = gRs L L.1) (fun _ => False) := by
  refine g_start (by decide) (Nat.le_of_ble_eq_true rfl) ?_
  intro pp_ ee_ s mm_ aa_ below meth cc_ ls Q hQ hX hE hP hl
  obtain ⟨hx, hb, hr, hml, hown, hT, hlk, hnm⟩ := hX
  have hK := hE.2.1
  obtain ⟨s7, h1⟩ := hP
  have hS : va_S (fun _ => False) s.heap s.heap [] := va_S.rf
  have hl : lv_has ls 3 [(0, .ref b)] := hl
  refine lv_iconst (v := 1) hx hb dX12_restBy_0 (by decide) ?_
  refine lv_istore_n (lv' := [(1, .int 1), (0, .ref b)]) hx hb dX12_restBy_1 rfl hl (by decide) rfl (fun ls hl => ?_)
  refine lv_iconst (v := 0) hx hb dX12_restBy_2 (by decide) ?_
  refine lv_istore_n (lv' := [(2, .int 0), (1, .int 1), (0, .ref b)]) hx hb dX12_restBy_3 rfl hl (by decide) rfl (fun ls hl => ?_)
  rcases id hh with ⟨eh, el⟩ | ⟨h, lh, eh, l10, e1, hM⟩
  · refine lv_aload_n hx hb dX12_restBy_4 rfl (lv_at hl 2 rfl) ?_
    refine g_get (v := .int (π 15 6)) (T := TX12) (ci := 12) (N := 45) hx hb hown hK (gY_X12 hT) rfl (h1 0 _ rfl) 18 (by decide) (hT _ gf_X12_101) rfl dX12_restBy_5 ?_
    refine lv_iconst (v := (-1)) hx hb dX12_restBy_8 (by decide) ?_
    refine lv_icmp_eq (tgt := 64) hx hb dX12_restBy_9 (by decide) (fun c1 => ?_) (fun c1 => ?_)
    · refine lv_iload_n hx hb dX12_restBy_64 rfl (lv_at hl 1 rfl) ?_
      rw [← hQ]
      exact g_iret hx hb hr hlk hS dX12_restBy_65 (by rw [el, gRs])
    · exact absurd eh c1
  · have loop : ∀ (d i : Nat), i + d = L.1 → ∀ ls, lv_has ls 3 [(0, .ref b), (1, .int (gRs L i)), (2, .int (nI i))] → W pp_ l ee_ (gRm 0 0) s mm_ aa_ below meth cc_ s.heap [] 0 0 Q (F0 mm_ 4 ls []) := by
      intro d
      induction d with
      | zero =>
        intro i hk   ls hl
        have hk : i = L.1 := by omega
        refine lv_aload_n hx hb dX12_restBy_4 rfl (lv_at hl 0 rfl) ?_
        refine g_get (v := .int (π 15 6)) (T := TX12) (ci := 12) (N := 45) hx hb hown hK (gY_X12 hT) rfl (h1 0 _ rfl) 18 (by decide) (hT _ gf_X12_101) rfl dX12_restBy_5 ?_
        refine lv_iconst (v := (-1)) hx hb dX12_restBy_8 (by decide) ?_
        refine lv_icmp_eq (tgt := 64) hx hb dX12_restBy_9 (by decide) (fun c2 => ?_) (fun c2 => ?_)
        · exact absurd c2 (by rw [eh]; exact gNe1 (by omega))
        · refine lv_iload_n hx hb dX12_restBy_12 rfl (lv_at hl 2 rfl) ?_
          refine lv_aload_n hx hb dX12_restBy_13 rfl (lv_at hl 0 rfl) ?_
          refine g_get (v := .ref (b + 10)) (T := TX12) (ci := 12) (N := 45) hx hb hown hK (gY_X12 hT) rfl (h1 0 _ rfl) 19 (by decide) (hT _ gf_X12_39) rfl dX12_restBy_14 ?_
          refine lv_aload_n hx hb dX12_restBy_17 rfl (lv_at hl 0 rfl) ?_
          refine g_get (v := .int (π 15 6)) (T := TX12) (ci := 12) (N := 45) hx hb hown hK (gY_X12 hT) rfl (h1 0 _ rfl) 18 (by decide) (hT _ gf_X12_101) rfl dX12_restBy_18 ?_
          refine g_ia (j := h) (v := f 1 h) hx hb hK (h1 10 _ rfl) eh (by omega) (Nat.le_of_ble_eq_true rfl) rfl dX12_restBy_21 ?_
          refine lv_icmp_ge (tgt := 64) hx hb dX12_restBy_22 (by decide) (fun c3 => ?_) (fun c3 => ?_)
          · have c3 : L.1 ≤ i := (gLe (a := L.1) (b := i) e1 rfl (by omega) (by omega)).mp c3
            refine lv_iload_n hx hb dX12_restBy_64 rfl (lv_at hl 1 rfl) ?_
            rw [← hQ]
            exact g_iret hx hb hr hlk hS dX12_restBy_65 (by rw [hk])
          · have c3 : ¬ L.1 ≤ i := fun z => c3 ((gLe (a := L.1) (b := i) e1 rfl (by omega) (by omega)).mpr z)
            exact absurd c3 (by omega)
      | succ d ih =>
        intro i hk   ls hl
        refine lv_aload_n hx hb dX12_restBy_4 rfl (lv_at hl 0 rfl) ?_
        refine g_get (v := .int (π 15 6)) (T := TX12) (ci := 12) (N := 45) hx hb hown hK (gY_X12 hT) rfl (h1 0 _ rfl) 18 (by decide) (hT _ gf_X12_101) rfl dX12_restBy_5 ?_
        refine lv_iconst (v := (-1)) hx hb dX12_restBy_8 (by decide) ?_
        refine lv_icmp_eq (tgt := 64) hx hb dX12_restBy_9 (by decide) (fun c4 => ?_) (fun c4 => ?_)
        · exact absurd c4 (by rw [eh]; exact gNe1 (by omega))
        · refine lv_iload_n hx hb dX12_restBy_12 rfl (lv_at hl 2 rfl) ?_
          refine lv_aload_n hx hb dX12_restBy_13 rfl (lv_at hl 0 rfl) ?_
          refine g_get (v := .ref (b + 10)) (T := TX12) (ci := 12) (N := 45) hx hb hown hK (gY_X12 hT) rfl (h1 0 _ rfl) 19 (by decide) (hT _ gf_X12_39) rfl dX12_restBy_14 ?_
          refine lv_aload_n hx hb dX12_restBy_17 rfl (lv_at hl 0 rfl) ?_
          refine g_get (v := .int (π 15 6)) (T := TX12) (ci := 12) (N := 45) hx hb hown hK (gY_X12 hT) rfl (h1 0 _ rfl) 18 (by decide) (hT _ gf_X12_101) rfl dX12_restBy_18 ?_
          refine g_ia (j := h) (v := f 1 h) hx hb hK (h1 10 _ rfl) eh (by omega) (Nat.le_of_ble_eq_true rfl) rfl dX12_restBy_21 ?_
          refine lv_icmp_ge (tgt := 64) hx hb dX12_restBy_22 (by decide) (fun c5 => ?_) (fun c5 => ?_)
          · have c5 : L.1 ≤ i := (gLe (a := L.1) (b := i) e1 rfl (by omega) (by omega)).mp c5
            exact absurd c5 (by omega)
          · have c5 : ¬ L.1 ≤ i := fun z => c5 ((gLe (a := L.1) (b := i) e1 rfl (by omega) (by omega)).mpr z)
            obtain ⟨kd3, ew, en, -⟩ := hM i (by omega)
            refine lv_aload_n hx hb dX12_restBy_25 rfl (lv_at hl 0 rfl) ?_
            refine g_get (v := .ref (b + 11)) (T := TX12) (ci := 12) (N := 45) hx hb hown hK (gY_X12 hT) rfl (h1 0 _ rfl) 20 (by decide) (hT _ gf_X12_42) rfl dX12_restBy_26 ?_
            refine lv_bipush (v := 10) hx hb dX12_restBy_29 (by decide) ?_
            refine lv_aload_n hx hb dX12_restBy_31 rfl (lv_at hl 0 rfl) ?_
            refine g_get (v := .int (π 15 6)) (T := TX12) (ci := 12) (N := 45) hx hb hown hK (gY_X12 hT) rfl (h1 0 _ rfl) 18 (by decide) (hT _ gf_X12_101) rfl dX12_restBy_32 ?_
            refine lv_imul hx hb dX12_restBy_35 ?_
            refine lv_iload_n hx hb dX12_restBy_36 rfl (lv_at hl 2 rfl) ?_
            refine lv_iadd hx hb dX12_restBy_37 ?_
            refine g_ia (j := (10 * h) + i) (v := nI (L.2.1 i)) hx hb hK (h1 11 _ rfl) (gAdd (gMul rfl eh) rfl) (by omega) (Nat.le_of_ble_eq_true rfl) ew dX12_restBy_38 ?_
            refine lv_iconst (v := 2) hx hb dX12_restBy_39 (by decide) ?_
            refine lv_icmp_ne (tgt := 58) hx hb dX12_restBy_40 (by decide) (fun c6 => ?_) (fun c6 => ?_)
            · have c6 : ¬ (L.2.1 i) = 2 := fun z => c6 ((gEq (a := L.2.1 i) (b := 2) rfl rfl (by omega) (by omega)).mpr z)
              refine lv_iinc (v := nI (i + 1)) (lv' := [(2, .int (nI (i + 1))), (0, .ref b), (1, .int (gRs L i))]) hx hb dX12_restBy_58 hl (k := 2) rfl (gAdd rfl (show Int32.ofInt 1 = nI 1 from rfl)) (by decide) rfl (fun ls hl => ?_)
              refine lv_goto (tgt := 4) hx hb dX12_restBy_61 (by decide) ?_
              exact ih (i + 1) (by omega)   _ (by have hl := lv_sub hl [1, 2, 0] rfl; rw [show (gRs L i : Int32) = gRs L (i + 1) from by rw [gRs, if_neg c6]] at hl; exact hl)
            · have c6 : (L.2.1 i) = 2 := (gEq (a := L.2.1 i) (b := 2) rfl rfl (by omega) (by omega)).mp c6
              refine lv_aload_n hx hb dX12_restBy_43 rfl (lv_at hl 0 rfl) ?_
              refine g_get (v := .ref (b + 12)) (T := TX12) (ci := 12) (N := 45) hx hb hown hK (gY_X12 hT) rfl (h1 0 _ rfl) 21 (by decide) (hT _ gf_X12_45) rfl dX12_restBy_44 ?_
              refine lv_bipush (v := 10) hx hb dX12_restBy_47 (by decide) ?_
              refine lv_aload_n hx hb dX12_restBy_49 rfl (lv_at hl 0 rfl) ?_
              refine g_get (v := .int (π 15 6)) (T := TX12) (ci := 12) (N := 45) hx hb hown hK (gY_X12 hT) rfl (h1 0 _ rfl) 18 (by decide) (hT _ gf_X12_101) rfl dX12_restBy_50 ?_
              refine lv_imul hx hb dX12_restBy_53 ?_
              refine lv_iload_n hx hb dX12_restBy_54 rfl (lv_at hl 2 rfl) ?_
              refine lv_iadd hx hb dX12_restBy_55 ?_
              refine g_ia (j := (10 * h) + i) (v := L.2.2.1 i) hx hb hK (h1 12 _ rfl) (gAdd (gMul rfl eh) rfl) (by omega) (Nat.le_of_ble_eq_true rfl) en dX12_restBy_56 ?_
              refine lv_istore_n (lv' := [(1, .int (L.2.2.1 i)), (0, .ref b), (2, .int (nI i))]) hx hb dX12_restBy_57 rfl hl (by decide) rfl (fun ls hl => ?_)
              refine lv_iinc (v := nI (i + 1)) (lv' := [(2, .int (nI (i + 1))), (1, .int (L.2.2.1 i)), (0, .ref b)]) hx hb dX12_restBy_58 hl (k := 2) rfl (gAdd rfl (show Int32.ofInt 1 = nI 1 from rfl)) (by decide) rfl (fun ls hl => ?_)
              refine lv_goto (tgt := 4) hx hb dX12_restBy_61 (by decide) ?_
              exact ih (i + 1) (by omega)   _ (by have hl := lv_sub hl [2, 1, 0] rfl; rw [show (L.2.2.1 i : Int32) = gRs L (i + 1) from by rw [gRs, if_pos c6]] at hl; exact hl)
    exact loop (L.1 - 0) 0 (by first | omega | simp)  _ (lv_sub hl [2, 1, 0] rfl)

set_option maxHeartbeats 4000000 in
set_option maxRecDepth 100000 in
theorem c_X12_joyOf (l : Launch) (G : gW) (b : Nat) (π μ f : gPS) (g : Nat → Int64) (p : Nat) (hp : p < 6) (ws : Int32) (L : gLf) (hh : gHold π f L) : gCI l yX12_joyOf cX12_joyOf 5 .int (gRm 4 97) G [.ref b, .int (nI p), .int ws] (fun H => gM7 G b π μ f g H) (fun r H => r = gJoy π L p ws ∧ gM7 G b π μ f g H) (fun q => b ≤ q ∧ q < b + 30) := by
  refine g_start (by decide) (Nat.le_of_ble_eq_true rfl) ?_
  intro pp_ ee_ s mm_ aa_ below meth cc_ ls Q hQ hX hE hP hl
  obtain ⟨hx, hb, hr, hml, hown, hT, hlk, hnm⟩ := hX
  have hK := hE.2.1
  obtain ⟨s7, h1⟩ := hP
  have hS : va_S (fun q => b ≤ q ∧ q < b + 30) s.heap s.heap [] := va_S.rf
  have hl : lv_has ls 5 [(0, .ref b), (1, .int (nI p)), (2, .int ws)] := hl
  refine lv_aload_n hx hb dX12_joyOf_0 rfl (lv_at hl 0 rfl) ?_
  refine lv_iload_n hx hb dX12_joyOf_1 rfl (lv_at hl 1 rfl) ?_
  refine lv_iload_n hx hb dX12_joyOf_2 rfl (lv_at hl 2 rfl) ?_
  refine g_ki (g_runV (T := TX12) (ci := 12) (N := 45) (rest := []) hx hb hml hown hE hT (c_X12_sum l G b π μ f g p (by omega) ws L hh) gM_X12_sum gm_X12_235 gi_X12_sum gs_RX12_yX12_sum_yX12_sum rfl (h1 0 _ rfl) ⟨s7, h1⟩ rfl hl.1 ⟨rfl, rfl⟩ ⟨Nat.le_of_ble_eq_true rfl, Nat.le_of_ble_eq_true rfl⟩ ⟨Nat.zero_le _, Nat.zero_le _⟩ rfl (Nat.le_of_ble_eq_true rfl) dX12_joyOf_3) hS (by intro q hq; omega) (fun r4 H1 locs q2 k3 hS => ?_)
  obtain ⟨rfl, s7, h1⟩ := q2
  refine lv_istore_n (lv' := [(3, .int (gSum π L p ws)), (0, .ref b), (1, .int (nI p)), (2, .int ws)]) hx hb dX12_joyOf_6 rfl hl (by decide) rfl (fun ls hl => ?_)
  refine lv_iload_n hx hb dX12_joyOf_7 rfl (lv_at hl 0 rfl) ?_
  refine lv_aload_n hx hb dX12_joyOf_8 rfl (lv_at hl 1 rfl) ?_
  refine lv_iload_n hx hb dX12_joyOf_9 rfl (lv_at hl 3 rfl) ?_
  refine g_ki (g_runV (T := TX12) (ci := 12) (N := 45) (rest := [.int (gSum π L p ws)]) hx hb hml hown hE hT (c_X12_grimmest l G b π μ (gR f 7 s7) g ws) gM_X12_grimmest gm_X12_238 gi_X12_grimmest gs_RX12_yX12_grimmest_yX12_grimmest rfl (h1 0 _ rfl) h1 rfl hl.1 ⟨rfl, rfl⟩ ⟨Nat.le_of_ble_eq_true rfl, Nat.le_of_ble_eq_true rfl⟩ ⟨Nat.zero_le _, Nat.zero_le _⟩ rfl (Nat.le_of_ble_eq_true rfl) dX12_joyOf_10) hS (fun _ h => h.elim) (fun r8 H5 locs q6 k7 hS => ?_)
  subst q6
  have h1 := gSg_free h1 k7 (by intro k hk q; simp only [List.length_cons, List.length_nil] at hk; omega)
  refine lv_isub hx hb dX12_joyOf_13 ?_
  refine lv_istore (lv' := [(4, .int ((gSum π L p ws) - (gGrim (π 0) ws))), (3, .int (gSum π L p ws)), (0, .ref b), (1, .int (nI p)), (2, .int ws)]) hx hb dX12_joyOf_14 hl (by decide) rfl (fun ls hl => ?_)
  refine lv_aload_n hx hb dX12_joyOf_16 rfl (lv_at hl 2 rfl) ?_
  refine g_get (v := .ref (b + 3)) (T := TX12) (ci := 12) (N := 45) hx hb hown hK (gY_X12 hT) rfl (h1 0 _ rfl) 4 (by decide) (hT _ gf_X12_18) rfl dX12_joyOf_17 ?_
  refine lv_iload_n hx hb dX12_joyOf_20 rfl (lv_at hl 3 rfl) ?_
  refine g_ia (j := p) (v := π 2 p) hx hb hK (h1 3 _ rfl) rfl (by omega) (Nat.le_of_ble_eq_true rfl) rfl dX12_joyOf_21 ?_
  by_cases c9 : (π 2 p) = 1
  · refine lv_tableIn (off := 38) (tgt := 60) hx hb dX12_joyOf_22 (by rw [c9]; decide) (by rw [c9]; decide) (by rw [c9]; decide) (by decide) ?_
    refine lv_iload_n hx hb dX12_joyOf_60 rfl (lv_at hl 1 rfl) ?_
    refine lv_aload_n hx hb dX12_joyOf_61 rfl (lv_at hl 2 rfl) ?_
    refine g_get (v := .ref (b + 4)) (T := TX12) (ci := 12) (N := 45) hx hb hown hK (gY_X12 hT) rfl (h1 0 _ rfl) 5 (by decide) (hT _ gf_X12_21) rfl dX12_joyOf_62 ?_
    refine lv_iload_n hx hb dX12_joyOf_65 rfl (lv_at hl 3 rfl) ?_
    refine g_ia (j := p) (v := π 3 p) hx hb hK (h1 4 _ rfl) rfl (by omega) (Nat.le_of_ble_eq_true rfl) rfl dX12_joyOf_66 ?_
    refine lv_iadd hx hb dX12_joyOf_67 ?_
    rw [← hQ]
    exact g_iret hx hb hr hlk hS dX12_joyOf_68 ⟨by simp only [gJoy, if_pos c9], s7, h1⟩
  · skip
    by_cases c10 : (π 2 p) = 2
    · refine lv_tableIn (off := 47) (tgt := 69) hx hb dX12_joyOf_22 (by rw [c10]; decide) (by rw [c10]; decide) (by rw [c10]; decide) (by decide) ?_
      refine lv_iload_n hx hb dX12_joyOf_69 rfl (lv_at hl 1 rfl) ?_
      refine lv_iconst (v := 2) hx hb dX12_joyOf_70 (by decide) ?_
      refine lv_idiv hx hb dX12_joyOf_71 (by decide) ?_
      rw [← hQ]
      exact g_iret hx hb hr hlk hS dX12_joyOf_72 ⟨by simp only [gJoy, if_neg c9, if_pos c10], s7, h1⟩
    · skip
      by_cases c11 : (π 2 p) = 3
      · refine lv_tableIn (off := 51) (tgt := 73) hx hb dX12_joyOf_22 (by rw [c11]; decide) (by rw [c11]; decide) (by rw [c11]; decide) (by decide) ?_
        refine lv_iload hx hb dX12_joyOf_73 (lv_at hl 0 rfl) ?_
        rw [← hQ]
        exact g_iret hx hb hr hlk hS dX12_joyOf_75 ⟨by simp only [gJoy, if_neg c9, if_neg c10, if_pos c11], s7, h1⟩
      · skip
        by_cases c12 : (π 2 p) = 4
        · refine lv_tableIn (off := 54) (tgt := 76) hx hb dX12_joyOf_22 (by rw [c12]; decide) (by rw [c12]; decide) (by rw [c12]; decide) (by decide) ?_
          refine lv_iload_n hx hb dX12_joyOf_76 rfl (lv_at hl 1 rfl) ?_
          refine lv_aload_n hx hb dX12_joyOf_77 rfl (lv_at hl 2 rfl) ?_
          refine g_get (v := .ref (b + 4)) (T := TX12) (ci := 12) (N := 45) hx hb hown hK (gY_X12 hT) rfl (h1 0 _ rfl) 5 (by decide) (hT _ gf_X12_21) rfl dX12_joyOf_78 ?_
          refine lv_iload_n hx hb dX12_joyOf_81 rfl (lv_at hl 3 rfl) ?_
          refine g_ia (j := p) (v := π 3 p) hx hb hK (h1 4 _ rfl) rfl (by omega) (Nat.le_of_ble_eq_true rfl) rfl dX12_joyOf_82 ?_
          refine lv_iadd hx hb dX12_joyOf_83 ?_
          refine lv_iconst (v := 2) hx hb dX12_joyOf_84 (by decide) ?_
          refine lv_aload_n hx hb dX12_joyOf_85 rfl (lv_at hl 2 rfl) ?_
          refine g_get (v := .ref (b + 6)) (T := TX12) (ci := 12) (N := 45) hx hb hown hK (gY_X12 hT) rfl (h1 0 _ rfl) 7 (by decide) (hT _ gf_X12_27) rfl dX12_joyOf_86 ?_
          refine lv_iload_n hx hb dX12_joyOf_89 rfl (lv_at hl 3 rfl) ?_
          refine g_ia (j := p) (v := π 5 p) hx hb hK (h1 6 _ rfl) rfl (by omega) (Nat.le_of_ble_eq_true rfl) rfl dX12_joyOf_90 ?_
          refine lv_imul hx hb dX12_joyOf_91 ?_
          refine lv_isub hx hb dX12_joyOf_92 ?_
          rw [← hQ]
          exact g_iret hx hb hr hlk hS dX12_joyOf_93 ⟨by simp only [gJoy, if_neg c9, if_neg c10, if_neg c11, if_pos c12], s7, h1⟩
        · skip
          by_cases c13 : (π 2 p) = 5
          · refine lv_tableIn (off := 72) (tgt := 94) hx hb dX12_joyOf_22 (by rw [c13]; decide) (by rw [c13]; decide) (by rw [c13]; decide) (by decide) ?_
            refine lv_iload_n hx hb dX12_joyOf_94 rfl (lv_at hl 1 rfl) ?_
            refine lv_iconst (v := 2) hx hb dX12_joyOf_95 (by decide) ?_
            refine lv_idiv hx hb dX12_joyOf_96 (by decide) ?_
            refine lv_aload_n hx hb dX12_joyOf_97 rfl (lv_at hl 2 rfl) ?_
            refine g_get (v := .int (π 15 1)) (T := TX12) (ci := 12) (N := 45) hx hb hown hK (gY_X12 hT) rfl (h1 0 _ rfl) 2 (by decide) (hT _ gf_X12_241) rfl dX12_joyOf_98 ?_
            refine g_ki (g_runS (rest := [.int ((gSum π L p ws) / 2)]) hx hb hml hown hE hT (c_J6_bitCount_0f7a4 l G (π 15 1)) gM_J6_bitCount_0f7a4 gm_X12_211 gt_J6_bitCount_0f7a4 trivial rfl hl.1 ⟨rfl, rfl⟩ ⟨Nat.le_of_ble_eq_true rfl, Nat.le_of_ble_eq_true rfl⟩ ⟨Nat.zero_le _, Nat.zero_le _⟩ rfl (Nat.le_of_ble_eq_true rfl) dX12_joyOf_101) hS (fun _ h => h.elim) (fun r17 H14 locs q15 k16 hS => ?_)
            subst q15
            have h1 := gSg_free h1 k16 (by intro k hk q; simp only [List.length_cons, List.length_nil] at hk; omega)
            refine lv_iadd hx hb dX12_joyOf_104 ?_
            rw [← hQ]
            exact g_iret hx hb hr hlk hS dX12_joyOf_105 ⟨by simp only [gJoy, if_neg c9, if_neg c10, if_neg c11, if_neg c12, if_pos c13], s7, h1⟩
          · skip
            by_cases c18 : (π 2 p) = 6
            · refine lv_tableIn (off := 84) (tgt := 106) hx hb dX12_joyOf_22 (by rw [c18]; decide) (by rw [c18]; decide) (by rw [c18]; decide) (by decide) ?_
              refine lv_iload hx hb dX12_joyOf_106 (lv_at hl 0 rfl) ?_
              refine lv_aload_n hx hb dX12_joyOf_108 rfl (lv_at hl 2 rfl) ?_
              refine g_get (v := .ref (b + 8)) (T := TX12) (ci := 12) (N := 45) hx hb hown hK (gY_X12 hT) rfl (h1 0 _ rfl) 9 (by decide) (hT _ gf_X12_33) rfl dX12_joyOf_109 ?_
              refine lv_iconst (v := 4) hx hb dX12_joyOf_112 (by decide) ?_
              refine lv_iload_n hx hb dX12_joyOf_113 rfl (lv_at hl 3 rfl) ?_
              refine lv_imul hx hb dX12_joyOf_114 ?_
              refine lv_iload_n hx hb dX12_joyOf_115 rfl (lv_at hl 4 rfl) ?_
              refine g_ki (g_runS (rest := [.int (4 * (nI p)), .ref (b + 8), .int ((gSum π L p ws) - (gGrim (π 0) ws))]) hx hb hml hown hE hT (c_J6_bitCount_0f7a4 l G ws) gM_J6_bitCount_0f7a4 gm_X12_211 gt_J6_bitCount_0f7a4 trivial rfl hl.1 ⟨rfl, rfl⟩ ⟨Nat.le_of_ble_eq_true rfl, Nat.le_of_ble_eq_true rfl⟩ ⟨Nat.zero_le _, Nat.zero_le _⟩ rfl (Nat.le_of_ble_eq_true rfl) dX12_joyOf_116) hS (fun _ h => h.elim) (fun r22 H19 locs q20 k21 hS => ?_)
              subst q20
              have h1 := gSg_free h1 k21 (by intro k hk q; simp only [List.length_cons, List.length_nil] at hk; omega)
              obtain ⟨n6, l6, e6⟩ := gBc_n ws
              have eb : (gBc ws).toNatClampNeg = n6 := by rw [e6, nI_clamp (by omega)]
              refine lv_iconst (v := 4) hx hb dX12_joyOf_119 (by decide) ?_
              refine lv_irem hx hb dX12_joyOf_120 (by decide) ?_
              refine lv_iadd hx hb dX12_joyOf_121 ?_
              refine g_ia (j := (4 * p) + (n6 % 4)) (v := π 7 ((4 * p) + (n6 % 4))) hx hb hK (h1 8 _ rfl) (gAdd (gMul rfl rfl) (gRem e6 rfl (by omega) (by omega) (by omega))) (by omega) (Nat.le_of_ble_eq_true rfl) rfl dX12_joyOf_122 ?_
              refine lv_iadd hx hb dX12_joyOf_123 ?_
              rw [← hQ]
              exact g_iret hx hb hr hlk hS dX12_joyOf_124 ⟨by simp only [gJoy, if_neg c9, if_neg c10, if_neg c11, if_neg c12, if_neg c13, if_pos c18, eb], s7, h1⟩
            · skip
              have tc9 := lv_neT (k := 1) (a := 1) c9 (by decide)
              have tc10 := lv_neT (k := 2) (a := 2) c10 (by decide)
              have tc11 := lv_neT (k := 3) (a := 3) c11 (by decide)
              have tc12 := lv_neT (k := 4) (a := 4) c12 (by decide)
              have tc13 := lv_neT (k := 5) (a := 5) c13 (by decide)
              have tc18 := lv_neT (k := 6) (a := 6) c18 (by decide)
              refine lv_tableOut (tgt := 125) hx hb dX12_joyOf_22 (by omega) (by decide) ?_
              refine lv_iload_n hx hb dX12_joyOf_125 rfl (lv_at hl 1 rfl) ?_
              rw [← hQ]
              exact g_iret hx hb hr hlk hS dX12_joyOf_126 ⟨by simp only [gJoy, if_neg c9, if_neg c10, if_neg c11, if_neg c12, if_neg c13, if_neg c18], s7, h1⟩

set_option maxHeartbeats 4000000 in
set_option maxRecDepth 100000 in
theorem c_X12_mayFly (l : Launch) (G : gW) (b : Nat) (π μ f : gPS) (g : Nat → Int64) (p : Nat) (hp : p < 6) (L : gLf) (hh : gHold π f L) : gCI l yX12_mayFly cX12_mayFly 2 .boolean (gRm 5 121) G [.ref b, .int (nI p)] (fun H => gM7 G b π μ f g H) (fun r H => r = gB (gFly π L p) ∧ gM7 G b π μ f g H) (fun q => b ≤ q ∧ q < b + 30) := by
  refine g_start (by decide) (Nat.le_of_ble_eq_true rfl) ?_
  intro pp_ ee_ s mm_ aa_ below meth cc_ ls Q hQ hX hE hP hl
  obtain ⟨hx, hb, hr, hml, hown, hT, hlk, hnm⟩ := hX
  have hK := hE.2.1
  obtain ⟨s7, h1⟩ := hP
  have hS : va_S (fun q => b ≤ q ∧ q < b + 30) s.heap s.heap [] := va_S.rf
  have hl : lv_has ls 2 [(0, .ref b), (1, .int (nI p))] := hl
  refine lv_aload_n hx hb dX12_mayFly_0 rfl (lv_at hl 0 rfl) ?_
  refine g_get (v := .ref (b + 5)) (T := TX12) (ci := 12) (N := 45) hx hb hown hK (gY_X12 hT) rfl (h1 0 _ rfl) 6 (by decide) (hT _ gf_X12_24) rfl dX12_mayFly_1 ?_
  refine lv_iload_n hx hb dX12_mayFly_4 rfl (lv_at hl 1 rfl) ?_
  refine g_ia (j := p) (v := π 4 p) hx hb hK (h1 5 _ rfl) rfl (by omega) (Nat.le_of_ble_eq_true rfl) rfl dX12_mayFly_5 ?_
  refine lv_if_eq (tgt := 27) hx hb dX12_mayFly_6 (by decide) (fun c1 => ?_) (fun c1 => ?_)
  · refine lv_iconst (v := 0) hx hb dX12_mayFly_27 (by decide) ?_
    rw [← hQ]
    exact g_zret hx hb hr hlk rfl hS dX12_mayFly_28 ⟨(gB_f (fun z => z.1 c1)).symm, s7, h1⟩
  · refine lv_aload_n hx hb dX12_mayFly_9 rfl (lv_at hl 0 rfl) ?_
    refine lv_iload_n hx hb dX12_mayFly_10 rfl (lv_at hl 1 rfl) ?_
    refine lv_aload_n hx hb dX12_mayFly_11 rfl (lv_at hl 0 rfl) ?_
    refine g_get (v := .ref (b + 5)) (T := TX12) (ci := 12) (N := 45) hx hb hown hK (gY_X12 hT) rfl (h1 0 _ rfl) 6 (by decide) (hT _ gf_X12_24) rfl dX12_mayFly_12 ?_
    refine lv_iload_n hx hb dX12_mayFly_15 rfl (lv_at hl 1 rfl) ?_
    refine g_ia (j := p) (v := π 4 p) hx hb hK (h1 5 _ rfl) rfl (by omega) (Nat.le_of_ble_eq_true rfl) rfl dX12_mayFly_16 ?_
    refine g_ki (g_runV (T := TX12) (ci := 12) (N := 45) (rest := []) hx hb hml hown hE hT (c_X12_joyOf l G b π μ f g p (by omega) (π 4 p) L hh) gM_X12_joyOf gm_X12_126 gi_X12_joyOf gs_RX12_yX12_joyOf_yX12_joyOf rfl (h1 0 _ rfl) ⟨s7, h1⟩ rfl hl.1 ⟨rfl, rfl⟩ ⟨Nat.le_of_ble_eq_true rfl, Nat.le_of_ble_eq_true rfl⟩ ⟨Nat.zero_le _, Nat.zero_le _⟩ rfl (Nat.le_of_ble_eq_true rfl) dX12_mayFly_17) hS (by intro q hq; omega) (fun r5 H2 locs q3 k4 hS => ?_)
    obtain ⟨rfl, s7, h1⟩ := q3
    refine lv_if_le (tgt := 27) hx hb dX12_mayFly_20 (by decide) (fun c6 => ?_) (fun c6 => ?_)
    · refine lv_iconst (v := 0) hx hb dX12_mayFly_27 (by decide) ?_
      rw [← hQ]
      exact g_zret hx hb hr hlk rfl hS dX12_mayFly_28 ⟨(gB_f (fun z => absurd z.2 (Int32.not_lt.mpr c6))).symm, s7, h1⟩
    · refine lv_iconst (v := 1) hx hb dX12_mayFly_23 (by decide) ?_
      refine lv_goto (tgt := 28) hx hb dX12_mayFly_24 (by decide) ?_
      rw [← hQ]
      exact g_zret hx hb hr hlk rfl hS dX12_mayFly_28 ⟨(gB_t ⟨c1, Int32.not_le.mp c6⟩).symm, s7, h1⟩
