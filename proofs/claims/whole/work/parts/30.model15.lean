set_option maxHeartbeats 4000000 in
set_option maxRecDepth 100000 in
theorem c_X12_image (l : Launch) (G : gW) (b : Nat) (π μ f : gPS) (g : Nat → Int64) : gCI l yX12_image cX12_image 1 .int (gRm 1 22) G [.ref b] (fun H => gSg G b (gLM G b π μ f g) H) (fun r H => r = π 15 0 ∧ gSg G b (gLM G b π (gU μ 4 2 1) (gR f 9 (gEn π)) g) H) (fun q => b ≤ q ∧ q < b + 30) := by
  refine g_start (by decide) (Nat.le_of_ble_eq_true rfl) ?_
  intro pp_ ee_ s mm_ aa_ below meth cc_ ls Q hQ hX hE hP hl
  obtain ⟨hx, hb, hr, hml, hown, hT, hlk, hnm⟩ := hX
  have hK := hE.2.1
  have h1 := hP
  have hS : va_S (fun q => b ≤ q ∧ q < b + 30) s.heap s.heap [] := va_S.rf
  have hl : lv_has ls 1 [(0, .ref b)] := hl
  refine lv_aload_n hx hb dX12_image_0 rfl (lv_at hl 0 rfl) ?_
  refine lv_iconst (v := 1) hx hb dX12_image_1 (by decide) ?_
  refine g_put (T := TX12) (ci := 12) (N := 45) (ty0 := tyX12) hx hb hown hK hS (gY_X12 hT) tyX12_ok nmX12 rfl (h1 0 _ rfl) 39 (by decide) (hT _ gf_X12_299) rfl rfl rfl (Nat.le_of_ble_eq_true rfl) (by omega) dX12_image_2 (fun H1 locs c2 oq hS => ?_)
  have h1 : gSg G b (gLM G b π (gU μ 4 2 1) f g) H1 := gSg_set h1 0 c2 oq
  refine lv_aload_n hx hb dX12_image_5 rfl (lv_at hl 0 rfl) ?_
  refine lv_aload_n hx hb dX12_image_6 rfl (lv_at hl 0 rfl) ?_
  refine g_get (v := .ref (b + 25)) (T := TX12) (ci := 12) (N := 45) hx hb hown hK (gY_X12 hT) rfl (h1 0 _ rfl) 40 (by decide) (hT _ gf_X12_85) rfl dX12_image_7 ?_
  refine g_kv (g_runV (T := TX12) (ci := 12) (N := 45) (rest := []) hx hb hml hown hE hT (c_X12_keep_9 l G b π (gU μ 4 2 1) f g) gM_X12_keep gm_X12_265 gi_X12_keep gs_RX12_yX12_keep_yX12_keep rfl (h1 0 _ rfl) h1 rfl hl.1 ⟨rfl, rfl⟩ ⟨Nat.le_of_ble_eq_true rfl, Nat.le_of_ble_eq_true rfl⟩ ⟨Nat.zero_le _, Nat.zero_le _⟩ rfl (Nat.le_of_ble_eq_true rfl) dX12_image_10) hS (by intro q hq; omega) (fun H3 locs q4 k5 hS => ?_)
  have h1 := q4
  refine lv_aload_n hx hb dX12_image_13 rfl (lv_at hl 0 rfl) ?_
  refine g_get (v := .int (π 15 0)) (T := TX12) (ci := 12) (N := 45) hx hb hown hK (gY_X12 hT) rfl (h1 0 _ rfl) 3 (by decide) (hT _ gf_X12_105) rfl dX12_image_14 ?_
  rw [← hQ]
  exact g_iret hx hb hr hlk hS dX12_image_17 ⟨rfl, h1⟩

set_option maxHeartbeats 4000000 in
set_option maxRecDepth 100000 in
theorem c_X12_undo (l : Launch) (G : gW) (b : Nat) (π μ f : gPS) (g : Nat → Int64) (ρ : gPS) (hI : ¬ μ 4 2 = 0 → gAgr (fun j => j < 136) (f 9) (gEn ρ)) : gCI l yX12_undo cX12_undo 1 .int (gRm 1 22) G [.ref b] (fun H => gSg G b (gLM G b π μ f g) H) (fun r H => r = (if μ 4 2 = 0 then -3 else ρ 15 0) ∧ gSg G b (gLM G b (if μ 4 2 = 0 then π else ρ) μ f g) H) (fun q => b ≤ q ∧ q < b + 30) := by
  refine g_start (by decide) (Nat.le_of_ble_eq_true rfl) ?_
  intro pp_ ee_ s mm_ aa_ below meth cc_ ls Q hQ hX hE hP hl
  obtain ⟨hx, hb, hr, hml, hown, hT, hlk, hnm⟩ := hX
  have hK := hE.2.1
  have h1 := hP
  have hS : va_S (fun q => b ≤ q ∧ q < b + 30) s.heap s.heap [] := va_S.rf
  have hl : lv_has ls 1 [(0, .ref b)] := hl
  refine lv_aload_n hx hb dX12_undo_0 rfl (lv_at hl 0 rfl) ?_
  refine g_get (v := .int (μ 4 2)) (T := TX12) (ci := 12) (N := 45) hx hb hown hK (gY_X12 hT) rfl (h1 0 _ rfl) 39 (by decide) (hT _ gf_X12_299) rfl dX12_undo_1 ?_
  refine lv_if_ne (tgt := 10) hx hb dX12_undo_4 (by decide) (fun c1 => ?_) (fun c1 => ?_)
  · refine lv_aload_n hx hb dX12_undo_10 rfl (lv_at hl 0 rfl) ?_
    refine lv_aload_n hx hb dX12_undo_11 rfl (lv_at hl 0 rfl) ?_
    refine g_get (v := .ref (b + 25)) (T := TX12) (ci := 12) (N := 45) hx hb hown hK (gY_X12 hT) rfl (h1 0 _ rfl) 40 (by decide) (hT _ gf_X12_85) rfl dX12_undo_12 ?_
    refine g_kv (g_runV (T := TX12) (ci := 12) (N := 45) (rest := []) hx hb hml hown hE hT (c_X12_again_9 l G b π μ f g ρ (hI c1)) gM_X12_again gm_X12_269 gi_X12_again gs_RX12_yX12_again_yX12_again rfl (h1 0 _ rfl) h1 rfl hl.1 ⟨rfl, rfl⟩ ⟨Nat.le_of_ble_eq_true rfl, Nat.le_of_ble_eq_true rfl⟩ ⟨Nat.zero_le _, Nat.zero_le _⟩ rfl (Nat.le_of_ble_eq_true rfl) dX12_undo_15) hS (by intro q hq; omega) (fun H2 locs q3 k4 hS => ?_)
    have h1 := q3
    refine lv_aload_n hx hb dX12_undo_18 rfl (lv_at hl 0 rfl) ?_
    refine g_get (v := .int (ρ 15 0)) (T := TX12) (ci := 12) (N := 45) hx hb hown hK (gY_X12 hT) rfl (h1 0 _ rfl) 3 (by decide) (hT _ gf_X12_105) rfl dX12_undo_19 ?_
    rw [← hQ]
    exact g_iret hx hb hr hlk hS dX12_undo_22 ⟨by rw [if_neg c1], by rw [if_neg c1]; exact h1⟩
  · refine lv_bipush (v := (-3)) hx hb dX12_undo_7 (by decide) ?_
    rw [← hQ]
    exact g_iret hx hb hr hlk hS dX12_undo_9 ⟨by rw [if_pos c1], by rw [if_pos c1]; exact h1⟩

set_option maxHeartbeats 4000000 in
set_option maxRecDepth 100000 in
theorem c_X12_of (l : Launch) (G : gW) (b : Nat) (π μ f : gPS) (g : Nat → Int64) (n : Nat) (hz : π 15 0 = nI n) (hn : n ≤ 6) (L : gLf) (hh : gHold π f L) (p wh : Int32) : gCI l yX12_of cX12_of 3 .int (gRm 6 146) G [.ref b, .int p, .int wh] (fun H => gM7 G b π μ f g H) (fun r H => r = gqOf π L p wh ∧ gM7 G b π μ f g H) (fun q => b ≤ q ∧ q < b + 30) := by
  refine g_start (by decide) (Nat.le_of_ble_eq_true rfl) ?_
  intro pp_ ee_ s mm_ aa_ below meth cc_ ls Q hQ hX hE hP hl
  obtain ⟨hx, hb, hr, hml, hown, hT, hlk, hnm⟩ := hX
  have hK := hE.2.1
  obtain ⟨s7, h1⟩ := hP
  have hS : va_S (fun q => b ≤ q ∧ q < b + 30) s.heap s.heap [] := va_S.rf
  have hl : lv_has ls 3 [(0, .ref b), (1, .int p), (2, .int wh)] := hl
  refine lv_aload_n hx hb dX12_of_0 rfl (lv_at hl 0 rfl) ?_
  refine lv_iload_n hx hb dX12_of_1 rfl (lv_at hl 1 rfl) ?_
  refine g_ki (g_runV (T := TX12) (ci := 12) (N := 45) (rest := []) hx hb hml hown hE hT (c_X12_isOne l G b π μ (gR f 7 s7) g n hz (by omega) p) gM_X12_isOne gm_X12_112 gi_X12_isOne gs_RX12_yX12_isOne_yX12_isOne rfl (h1 0 _ rfl) h1 rfl hl.1 ⟨rfl, rfl⟩ ⟨Nat.le_of_ble_eq_true rfl, Nat.le_of_ble_eq_true rfl⟩ ⟨Nat.zero_le _, Nat.zero_le _⟩ rfl (Nat.le_of_ble_eq_true rfl) dX12_of_2) hS (fun _ h => h.elim) (fun r4 H1 locs q2 k3 hS => ?_)
  subst q2
  have h1 := gSg_free h1 k3 (by intro k hk q; simp only [List.length_cons, List.length_nil] at hk; omega)
  refine lv_if_ne (tgt := 10) hx hb dX12_of_5 (by decide) (fun c5 => ?_) (fun c5 => ?_)
  · have c5 : 0 ≤ p ∧ p < π 15 0 := gB_1.mp c5
    obtain ⟨k, hk, ek⟩ := gIx hz (by omega) c5
    subst ek
    refine lv_iload_n hx hb dX12_of_10 rfl (lv_at hl 2 rfl) ?_
    by_cases c6 : wh = 0
    · refine lv_tableIn (off := 41) (tgt := 52) hx hb dX12_of_11 (by rw [c6]; decide) (by rw [c6]; decide) (by rw [c6]; decide) (by decide) ?_
      refine lv_aload_n hx hb dX12_of_52 rfl (lv_at hl 0 rfl) ?_
      refine g_get (v := .ref (b + 3)) (T := TX12) (ci := 12) (N := 45) hx hb hown hK (gY_X12 hT) rfl (h1 0 _ rfl) 4 (by decide) (hT _ gf_X12_18) rfl dX12_of_53 ?_
      refine lv_iload_n hx hb dX12_of_56 rfl (lv_at hl 1 rfl) ?_
      refine g_ia (j := k) (v := π 2 k) hx hb hK (h1 3 _ rfl) rfl (by omega) (Nat.le_of_ble_eq_true rfl) rfl dX12_of_57 ?_
      rw [← hQ]
      exact g_iret hx hb hr hlk hS dX12_of_58 ⟨by simp only [gqOf, if_pos c5, if_pos c6, nI_clamp (show k < 2 ^ 31 by omega)], s7, h1⟩
    · skip
      by_cases c7 : wh = 1
      · refine lv_tableIn (off := 48) (tgt := 59) hx hb dX12_of_11 (by rw [c7]; decide) (by rw [c7]; decide) (by rw [c7]; decide) (by decide) ?_
        refine lv_aload_n hx hb dX12_of_59 rfl (lv_at hl 0 rfl) ?_
        refine g_get (v := .ref (b + 4)) (T := TX12) (ci := 12) (N := 45) hx hb hown hK (gY_X12 hT) rfl (h1 0 _ rfl) 5 (by decide) (hT _ gf_X12_21) rfl dX12_of_60 ?_
        refine lv_iload_n hx hb dX12_of_63 rfl (lv_at hl 1 rfl) ?_
        refine g_ia (j := k) (v := π 3 k) hx hb hK (h1 4 _ rfl) rfl (by omega) (Nat.le_of_ble_eq_true rfl) rfl dX12_of_64 ?_
        rw [← hQ]
        exact g_iret hx hb hr hlk hS dX12_of_65 ⟨by simp only [gqOf, if_pos c5, if_neg c6, if_pos c7, nI_clamp (show k < 2 ^ 31 by omega)], s7, h1⟩
      · skip
        by_cases c8 : wh = 2
        · refine lv_tableIn (off := 55) (tgt := 66) hx hb dX12_of_11 (by rw [c8]; decide) (by rw [c8]; decide) (by rw [c8]; decide) (by decide) ?_
          refine lv_aload_n hx hb dX12_of_66 rfl (lv_at hl 0 rfl) ?_
          refine g_get (v := .ref (b + 5)) (T := TX12) (ci := 12) (N := 45) hx hb hown hK (gY_X12 hT) rfl (h1 0 _ rfl) 6 (by decide) (hT _ gf_X12_24) rfl dX12_of_67 ?_
          refine lv_iload_n hx hb dX12_of_70 rfl (lv_at hl 1 rfl) ?_
          refine g_ia (j := k) (v := π 4 k) hx hb hK (h1 5 _ rfl) rfl (by omega) (Nat.le_of_ble_eq_true rfl) rfl dX12_of_71 ?_
          rw [← hQ]
          exact g_iret hx hb hr hlk hS dX12_of_72 ⟨by simp only [gqOf, if_pos c5, if_neg c6, if_neg c7, if_pos c8, nI_clamp (show k < 2 ^ 31 by omega)], s7, h1⟩
        · skip
          by_cases c9 : wh = 3
          · refine lv_tableIn (off := 62) (tgt := 73) hx hb dX12_of_11 (by rw [c9]; decide) (by rw [c9]; decide) (by rw [c9]; decide) (by decide) ?_
            refine lv_aload_n hx hb dX12_of_73 rfl (lv_at hl 0 rfl) ?_
            refine g_get (v := .ref (b + 6)) (T := TX12) (ci := 12) (N := 45) hx hb hown hK (gY_X12 hT) rfl (h1 0 _ rfl) 7 (by decide) (hT _ gf_X12_27) rfl dX12_of_74 ?_
            refine lv_iload_n hx hb dX12_of_77 rfl (lv_at hl 1 rfl) ?_
            refine g_ia (j := k) (v := π 5 k) hx hb hK (h1 6 _ rfl) rfl (by omega) (Nat.le_of_ble_eq_true rfl) rfl dX12_of_78 ?_
            rw [← hQ]
            exact g_iret hx hb hr hlk hS dX12_of_79 ⟨by simp only [gqOf, if_pos c5, if_neg c6, if_neg c7, if_neg c8, if_pos c9, nI_clamp (show k < 2 ^ 31 by omega)], s7, h1⟩
          · skip
            by_cases c10 : wh = 4
            · refine lv_tableIn (off := 69) (tgt := 80) hx hb dX12_of_11 (by rw [c10]; decide) (by rw [c10]; decide) (by rw [c10]; decide) (by decide) ?_
              refine lv_aload_n hx hb dX12_of_80 rfl (lv_at hl 0 rfl) ?_
              refine g_get (v := .ref (b + 7)) (T := TX12) (ci := 12) (N := 45) hx hb hown hK (gY_X12 hT) rfl (h1 0 _ rfl) 8 (by decide) (hT _ gf_X12_30) rfl dX12_of_81 ?_
              refine lv_iload_n hx hb dX12_of_84 rfl (lv_at hl 1 rfl) ?_
              refine g_ia (j := k) (v := π 6 k) hx hb hK (h1 7 _ rfl) rfl (by omega) (Nat.le_of_ble_eq_true rfl) rfl dX12_of_85 ?_
              rw [← hQ]
              exact g_iret hx hb hr hlk hS dX12_of_86 ⟨by simp only [gqOf, if_pos c5, if_neg c6, if_neg c7, if_neg c8, if_neg c9, if_pos c10, nI_clamp (show k < 2 ^ 31 by omega)], s7, h1⟩
            · skip
              by_cases c11 : wh = 5
              · refine lv_tableIn (off := 76) (tgt := 87) hx hb dX12_of_11 (by rw [c11]; decide) (by rw [c11]; decide) (by rw [c11]; decide) (by decide) ?_
                refine lv_aload_n hx hb dX12_of_87 rfl (lv_at hl 0 rfl) ?_
                refine lv_iload_n hx hb dX12_of_88 rfl (lv_at hl 1 rfl) ?_
                refine g_ki (g_runV (T := TX12) (ci := 12) (N := 45) (rest := []) hx hb hml hown hE hT (c_X12_mayFly l G b π μ f g k (by omega) L hh) gM_X12_mayFly gm_X12_116 gi_X12_mayFly gs_RX12_yX12_mayFly_yX12_mayFly rfl (h1 0 _ rfl) ⟨s7, h1⟩ rfl hl.1 ⟨rfl, rfl⟩ ⟨Nat.le_of_ble_eq_true rfl, Nat.le_of_ble_eq_true rfl⟩ ⟨Nat.zero_le _, Nat.zero_le _⟩ rfl (Nat.le_of_ble_eq_true rfl) dX12_of_89) hS (by intro q hq; omega) (fun r15 H12 locs q13 k14 hS => ?_)
                obtain ⟨rfl, s7, h1⟩ := q13
                refine lv_if_eq (tgt := 99) hx hb dX12_of_92 (by decide) (fun c16 => ?_) (fun c16 => ?_)
                · have c16 : ¬ (gFly π L k) := gB_0.mp c16
                  refine lv_iconst (v := 0) hx hb dX12_of_99 (by decide) ?_
                  rw [← hQ]
                  exact g_iret hx hb hr hlk hS dX12_of_100 ⟨by simp only [gqOf, if_pos c5, if_neg c6, if_neg c7, if_neg c8, if_neg c9, if_neg c10, if_pos c11, nI_clamp (show k < 2 ^ 31 by omega)]; exact (gB_f c16).symm, s7, h1⟩
                · have c16 : gFly π L k := gB_1.mp c16
                  refine lv_iconst (v := 1) hx hb dX12_of_95 (by decide) ?_
                  refine lv_goto (tgt := 100) hx hb dX12_of_96 (by decide) ?_
                  rw [← hQ]
                  exact g_iret hx hb hr hlk hS dX12_of_100 ⟨by simp only [gqOf, if_pos c5, if_neg c6, if_neg c7, if_neg c8, if_neg c9, if_neg c10, if_pos c11, nI_clamp (show k < 2 ^ 31 by omega)]; exact (gB_t c16).symm, s7, h1⟩
              · skip
                by_cases c17 : wh = 6
                · refine lv_tableIn (off := 90) (tgt := 101) hx hb dX12_of_11 (by rw [c17]; decide) (by rw [c17]; decide) (by rw [c17]; decide) (by decide) ?_
                  refine lv_aload_n hx hb dX12_of_101 rfl (lv_at hl 0 rfl) ?_
                  refine lv_iload_n hx hb dX12_of_102 rfl (lv_at hl 1 rfl) ?_
                  refine g_ki (g_runV (T := TX12) (ci := 12) (N := 45) (rest := []) hx hb hml hown hE hT (c_X12_spare l G b π μ f g k (by omega) L hh) gM_X12_spare gm_X12_119 gi_X12_spare gs_RX12_yX12_spare_yX12_spare rfl (h1 0 _ rfl) ⟨s7, h1⟩ rfl hl.1 ⟨rfl, rfl⟩ ⟨Nat.le_of_ble_eq_true rfl, Nat.le_of_ble_eq_true rfl⟩ ⟨Nat.zero_le _, Nat.zero_le _⟩ rfl (Nat.le_of_ble_eq_true rfl) dX12_of_103) hS (by intro q hq; omega) (fun r21 H18 locs q19 k20 hS => ?_)
                  obtain ⟨rfl, s7, h1⟩ := q19
                  rw [← hQ]
                  exact g_iret hx hb hr hlk hS dX12_of_106 ⟨by simp only [gqOf, if_pos c5, if_neg c6, if_neg c7, if_neg c8, if_neg c9, if_neg c10, if_neg c11, if_pos c17, nI_clamp (show k < 2 ^ 31 by omega)], s7, h1⟩
                · skip
                  have tc6 := lv_neT (k := 0) (a := 0) c6 (by decide)
                  have tc7 := lv_neT (k := 1) (a := 1) c7 (by decide)
                  have tc8 := lv_neT (k := 2) (a := 2) c8 (by decide)
                  have tc9 := lv_neT (k := 3) (a := 3) c9 (by decide)
                  have tc10 := lv_neT (k := 4) (a := 4) c10 (by decide)
                  have tc11 := lv_neT (k := 5) (a := 5) c11 (by decide)
                  have tc17 := lv_neT (k := 6) (a := 6) c17 (by decide)
                  refine lv_tableOut (tgt := 107) hx hb dX12_of_11 (by omega) (by decide) ?_
                  refine lv_iconst (v := (-1)) hx hb dX12_of_107 (by decide) ?_
                  rw [← hQ]
                  exact g_iret hx hb hr hlk hS dX12_of_108 ⟨by simp only [gqOf, if_pos c5, if_neg c6, if_neg c7, if_neg c8, if_neg c9, if_neg c10, if_neg c11, if_neg c17, nI_clamp (show k < 2 ^ 31 by omega)], s7, h1⟩
  · have c5 : ¬ (0 ≤ p ∧ p < π 15 0) := gB_0.mp c5
    refine lv_iconst (v := (-1)) hx hb dX12_of_8 (by decide) ?_
    rw [← hQ]
    exact g_iret hx hb hr hlk hS dX12_of_9 ⟨by simp only [gqOf, if_neg c5], s7, h1⟩

set_option maxHeartbeats 4000000 in
set_option maxRecDepth 100000 in
theorem c_X12_told (l : Launch) (G : gW) (b : Nat) (π μ f : gPS) (g : Nat → Int64) (n : Nat) (hz : π 15 0 = nI n) (hn : n ≤ 6) (sn : Nat) (hz3 : π 15 3 = nI sn) (hsn : sn ≤ 5) (hsp : ∀ k, k < sn → ∃ q, q < 6 ∧ π 8 k = nI q) (L : gLf) (hh : gHold π f L) (wh : Int32) : gCI l yX12_told cX12_told 2 .int (gRm 8 187) G [.ref b, .int wh] (fun H => gMA G b π μ f g H) (fun r H => r = gqTold π L n sn wh ∧ gMA G b π μ f g H) (fun q => b ≤ q ∧ q < b + 30) := by
  refine g_start (by decide) (Nat.le_of_ble_eq_true rfl) ?_
  intro pp_ ee_ s mm_ aa_ below meth cc_ ls Q hQ hX hE hP hl
  obtain ⟨hx, hb, hr, hml, hown, hT, hlk, hnm⟩ := hX
  have hK := hE.2.1
  obtain ⟨sA, s7, h1⟩ := hP
  have hS : va_S (fun q => b ≤ q ∧ q < b + 30) s.heap s.heap [] := va_S.rf
  have hl : lv_has ls 2 [(0, .ref b), (1, .int wh)] := hl
  refine lv_iload_n hx hb dX12_told_0 rfl (lv_at hl 1 rfl) ?_
  refine lv_bipush (v := 10) hx hb dX12_told_1 (by decide) ?_
  refine lv_isub hx hb dX12_told_3 ?_
  refine g_ki (g_runS (rest := []) hx hb hml hown hE hT (c_X12_isWord l G (wh - 10)) gM_X12_isWord gm_X12_130 gt_X12_isWord trivial rfl hl.1 ⟨rfl, rfl⟩ ⟨Nat.le_of_ble_eq_true rfl, Nat.le_of_ble_eq_true rfl⟩ ⟨Nat.zero_le _, Nat.zero_le _⟩ rfl (Nat.le_of_ble_eq_true rfl) dX12_told_4) hS (fun _ h => h.elim) (fun r4 H1 locs q2 k3 hS => ?_)
  subst q2
  have h1 := gSg_free h1 k3 (by intro k hk q; simp only [List.length_cons, List.length_nil] at hk; omega)
  refine lv_if_eq (tgt := 20) hx hb dX12_told_7 (by decide) (fun c5 => ?_) (fun c5 => ?_)
  · have c5 : ¬ (0 ≤ wh - 10 ∧ wh - 10 ≤ 11) := gB_0.mp c5
    refine lv_iload_n hx hb dX12_told_20 rfl (lv_at hl 1 rfl) ?_
    refine lv_bipush (v := 30) hx hb dX12_told_21 (by decide) ?_
    refine lv_isub hx hb dX12_told_23 ?_
    refine g_ki (g_runS (rest := []) hx hb hml hown hE hT (c_X12_isWord l G (wh - 30)) gM_X12_isWord gm_X12_130 gt_X12_isWord trivial rfl hl.1 ⟨rfl, rfl⟩ ⟨Nat.le_of_ble_eq_true rfl, Nat.le_of_ble_eq_true rfl⟩ ⟨Nat.zero_le _, Nat.zero_le _⟩ rfl (Nat.le_of_ble_eq_true rfl) dX12_told_24) hS (fun _ h => h.elim) (fun r9 H6 locs q7 k8 hS => ?_)
    subst q7
    have h1 := gSg_free h1 k8 (by intro k hk q; simp only [List.length_cons, List.length_nil] at hk; omega)
    refine lv_if_eq (tgt := 40) hx hb dX12_told_27 (by decide) (fun c10 => ?_) (fun c10 => ?_)
    · have c10 : ¬ (0 ≤ wh - 30 ∧ wh - 30 ≤ 11) := gB_0.mp c10
      refine lv_iload_n hx hb dX12_told_40 rfl (lv_at hl 1 rfl) ?_
      refine lv_bipush (v := 50) hx hb dX12_told_41 (by decide) ?_
      refine lv_bipush (v := 57) hx hb dX12_told_43 (by decide) ?_
      refine g_ki (g_runS (rest := []) hx hb hml hown hE hT (c_X12_within l G wh 50 57) gM_X12_within gm_X12_108 gt_X12_within trivial rfl hl.1 ⟨rfl, rfl⟩ ⟨Nat.le_of_ble_eq_true rfl, Nat.le_of_ble_eq_true rfl⟩ ⟨Nat.zero_le _, Nat.zero_le _⟩ rfl (Nat.le_of_ble_eq_true rfl) dX12_told_45) hS (fun _ h => h.elim) (fun r14 H11 locs q12 k13 hS => ?_)
      subst q12
      have h1 := gSg_free h1 k13 (by intro k hk q; simp only [List.length_cons, List.length_nil] at hk; omega)
      refine lv_if_eq (tgt := 60) hx hb dX12_told_48 (by decide) (fun c15 => ?_) (fun c15 => ?_)
      · have c15 : ¬ (50 ≤ wh ∧ wh ≤ 57) := gB_0.mp c15
        refine lv_iload_n hx hb dX12_told_60 rfl (lv_at hl 1 rfl) ?_
        refine lv_bipush (v := 60) hx hb dX12_told_61 (by decide) ?_
        refine lv_isub hx hb dX12_told_63 ?_
        refine g_ki (g_runS (rest := []) hx hb hml hown hE hT (c_X12_isWord l G (wh - 60)) gM_X12_isWord gm_X12_130 gt_X12_isWord trivial rfl hl.1 ⟨rfl, rfl⟩ ⟨Nat.le_of_ble_eq_true rfl, Nat.le_of_ble_eq_true rfl⟩ ⟨Nat.zero_le _, Nat.zero_le _⟩ rfl (Nat.le_of_ble_eq_true rfl) dX12_told_64) hS (fun _ h => h.elim) (fun r19 H16 locs q17 k18 hS => ?_)
        subst q17
        have h1 := gSg_free h1 k18 (by intro k hk q; simp only [List.length_cons, List.length_nil] at hk; omega)
        refine lv_if_eq (tgt := 79) hx hb dX12_told_67 (by decide) (fun c20 => ?_) (fun c20 => ?_)
        · have c20 : ¬ (0 ≤ wh - 60 ∧ wh - 60 ≤ 11) := gB_0.mp c20
          refine lv_iload_n hx hb dX12_told_79 rfl (lv_at hl 1 rfl) ?_
          by_cases c21 : wh = 0
          · refine lv_tableIn (off := 32) (tgt := 112) hx hb dX12_told_80 (by rw [c21]; decide) (by rw [c21]; decide) (by rw [c21]; decide) (by decide) ?_
            refine lv_aload_n hx hb dX12_told_112 rfl (lv_at hl 0 rfl) ?_
            refine g_get (v := .int (π 15 2)) (T := TX12) (ci := 12) (N := 45) hx hb hown hK (gY_X12 hT) rfl (h1 0 _ rfl) 10 (by decide) (hT _ gf_X12_216) rfl dX12_told_113 ?_
            rw [← hQ]
            exact g_iret hx hb hr hlk hS dX12_told_116 ⟨by simp only [gqTold, if_neg c5, if_neg c10, if_neg c15, if_neg c20, if_pos c21], sA, s7, h1⟩
          · skip
            by_cases c22 : wh = 1
            · refine lv_tableIn (off := 37) (tgt := 117) hx hb dX12_told_80 (by rw [c22]; decide) (by rw [c22]; decide) (by rw [c22]; decide) (by decide) ?_
              refine lv_aload_n hx hb dX12_told_117 rfl (lv_at hl 0 rfl) ?_
              refine g_ki (g_runV (T := TX12) (ci := 12) (N := 45) (rest := []) hx hb hml hown hE hT (c_X12_restBy l G b π μ (gR f 10 sA) g L (gHold_10 hh)) gM_X12_restBy gm_X12_244 gi_X12_restBy gs_RX12_yX12_restBy_yX12_restBy rfl (h1 0 _ rfl) ⟨s7, h1⟩ rfl hl.1 ⟨rfl, rfl⟩ ⟨Nat.le_of_ble_eq_true rfl, Nat.le_of_ble_eq_true rfl⟩ ⟨Nat.zero_le _, Nat.zero_le _⟩ rfl (Nat.le_of_ble_eq_true rfl) dX12_told_118) hS (fun _ h => h.elim) (fun r26 H23 locs q24 k25 hS => ?_)
              subst q24
              have h1 := gSg_free h1 k25 (by intro k hk q; simp only [List.length_cons, List.length_nil] at hk; omega)
              rw [← hQ]
              exact g_iret hx hb hr hlk hS dX12_told_121 ⟨by simp only [gqTold, if_neg c5, if_neg c10, if_neg c15, if_neg c20, if_neg c21, if_pos c22], sA, s7, h1⟩
            · skip
              by_cases c27 : wh = 2
              · refine lv_tableIn (off := 42) (tgt := 122) hx hb dX12_told_80 (by rw [c27]; decide) (by rw [c27]; decide) (by rw [c27]; decide) (by decide) ?_
                refine lv_aload_n hx hb dX12_told_122 rfl (lv_at hl 0 rfl) ?_
                refine g_get (v := .int (π 15 1)) (T := TX12) (ci := 12) (N := 45) hx hb hown hK (gY_X12 hT) rfl (h1 0 _ rfl) 2 (by decide) (hT _ gf_X12_241) rfl dX12_told_123 ?_
                rw [← hQ]
                exact g_iret hx hb hr hlk hS dX12_told_126 ⟨by simp only [gqTold, if_neg c5, if_neg c10, if_neg c15, if_neg c20, if_neg c21, if_neg c22, if_pos c27], sA, s7, h1⟩
              · skip
                by_cases c28 : wh = 3
                · refine lv_tableIn (off := 47) (tgt := 127) hx hb dX12_told_80 (by rw [c28]; decide) (by rw [c28]; decide) (by rw [c28]; decide) (by decide) ?_
                  refine lv_aload_n hx hb dX12_told_127 rfl (lv_at hl 0 rfl) ?_
                  refine g_ki (g_runV (T := TX12) (ci := 12) (N := 45) (rest := []) hx hb hml hown hE hT (c_X12_ready l G b π μ (gR f 10 sA) g n hz (by omega) L (gHold_10 hh)) gM_X12_ready gm_X12_259 gi_X12_ready gs_RX12_yX12_ready_yX12_ready rfl (h1 0 _ rfl) ⟨s7, h1⟩ rfl hl.1 ⟨rfl, rfl⟩ ⟨Nat.le_of_ble_eq_true rfl, Nat.le_of_ble_eq_true rfl⟩ ⟨Nat.zero_le _, Nat.zero_le _⟩ rfl (Nat.le_of_ble_eq_true rfl) dX12_told_128) hS (by intro q hq; omega) (fun r32 H29 locs q30 k31 hS => ?_)
                  obtain ⟨rfl, s7, h1⟩ := q30
                  rw [← hQ]
                  exact g_iret hx hb hr hlk hS dX12_told_131 ⟨by simp only [gqTold, if_neg c5, if_neg c10, if_neg c15, if_neg c20, if_neg c21, if_neg c22, if_neg c27, if_pos c28], sA, s7, h1⟩
                · skip
                  have tc21 := lv_neT (k := 0) (a := 0) c21 (by decide)
                  have tc22 := lv_neT (k := 1) (a := 1) c22 (by decide)
                  have tc27 := lv_neT (k := 2) (a := 2) c27 (by decide)
                  have tc28 := lv_neT (k := 3) (a := 3) c28 (by decide)
                  refine lv_tableOut (tgt := 132) hx hb dX12_told_80 (by omega) (by decide) ?_
                  refine lv_iconst (v := (-1)) hx hb dX12_told_132 (by decide) ?_
                  rw [← hQ]
                  exact g_iret hx hb hr hlk hS dX12_told_133 ⟨by simp only [gqTold, if_neg c5, if_neg c10, if_neg c15, if_neg c20, if_neg c21, if_neg c22, if_neg c27, if_neg c28], sA, s7, h1⟩
        · have c20 : 0 ≤ wh - 60 ∧ wh - 60 ≤ 11 := gB_1.mp c20
          obtain ⟨k, hk, ek⟩ := gIw (M := 11) (n := 11) rfl (by decide) c20
          refine lv_aload_n hx hb dX12_told_70 rfl (lv_at hl 0 rfl) ?_
          refine lv_iload_n hx hb dX12_told_71 rfl (lv_at hl 1 rfl) ?_
          refine lv_bipush (v := 60) hx hb dX12_told_72 (by decide) ?_
          refine lv_isub hx hb dX12_told_74 ?_
          rw [ek]
          refine g_ki (g_runV (T := TX12) (ci := 12) (N := 45) (rest := []) hx hb hml hown hE hT (c_X12_cheers l G b π μ (gR f 10 sA) g sn hz3 hsn hsp L (gHold_10 hh) k (by omega)) gM_X12_cheers gm_X12_256 gi_X12_cheers gs_RX12_yX12_cheers_yX12_cheers rfl (h1 0 _ rfl) ⟨s7, h1⟩ rfl hl.1 ⟨rfl, rfl⟩ ⟨Nat.le_of_ble_eq_true rfl, Nat.le_of_ble_eq_true rfl⟩ ⟨Nat.zero_le _, Nat.zero_le _⟩ rfl (Nat.le_of_ble_eq_true rfl) dX12_told_75) hS (by intro q hq; omega) (fun r36 H33 locs q34 k35 hS => ?_)
          obtain ⟨e9, s7, h1⟩ := q34
          rw [e9]
          rw [← hQ]
          exact g_iret hx hb hr hlk hS dX12_told_78 ⟨by simp only [gqTold, if_neg c5, if_neg c10, if_neg c15, if_pos c20]; rw [ek, nI_clamp (show k < 2 ^ 31 by omega)], sA, s7, h1⟩
      · have c15 : 50 ≤ wh ∧ wh ≤ 57 := gB_1.mp c15
        obtain ⟨k, hk, ek⟩ := gI50 c15
        refine lv_aload_n hx hb dX12_told_51 rfl (lv_at hl 0 rfl) ?_
        refine lv_iload_n hx hb dX12_told_52 rfl (lv_at hl 1 rfl) ?_
        refine lv_bipush (v := 50) hx hb dX12_told_53 (by decide) ?_
        refine lv_isub hx hb dX12_told_55 ?_
        rw [ek]
        refine g_ki (g_runV (T := TX12) (ci := 12) (N := 45) (rest := []) hx hb hml hown hE hT (c_X12_comes l G b π μ f g n hz hn L hh k (by omega)) gM_X12_comes gm_X12_253 gi_X12_comes gs_RX12_yX12_comes_yX12_comes rfl (h1 0 _ rfl) ⟨sA, s7, h1⟩ rfl hl.1 ⟨rfl, rfl⟩ ⟨Nat.le_of_ble_eq_true rfl, Nat.le_of_ble_eq_true rfl⟩ ⟨Nat.zero_le _, Nat.zero_le _⟩ rfl (Nat.le_of_ble_eq_true rfl) dX12_told_56) hS (by intro q hq; omega) (fun r40 H37 locs q38 k39 hS => ?_)
        obtain ⟨e9, sA, s7, h1⟩ := q38
        rw [e9]
        rw [← hQ]
        exact g_iret hx hb hr hlk hS dX12_told_59 ⟨by simp only [gqTold, if_neg c5, if_neg c10, if_pos c15]; rw [ek, nI_clamp (show k < 2 ^ 31 by omega)], sA, s7, h1⟩
    · have c10 : 0 ≤ wh - 30 ∧ wh - 30 ≤ 11 := gB_1.mp c10
      obtain ⟨k, hk, ek⟩ := gIw (M := 11) (n := 11) rfl (by decide) c10
      refine lv_aload_n hx hb dX12_told_30 rfl (lv_at hl 0 rfl) ?_
      refine g_get (v := .ref (b + 2)) (T := TX12) (ci := 12) (N := 45) hx hb hown hK (gY_X12 hT) rfl (h1 0 _ rfl) 1 (by decide) (hT _ gf_X12_15) rfl dX12_told_31 ?_
      refine lv_iload_n hx hb dX12_told_34 rfl (lv_at hl 1 rfl) ?_
      refine lv_bipush (v := 30) hx hb dX12_told_35 (by decide) ?_
      refine lv_isub hx hb dX12_told_37 ?_
      refine g_ia (j := k) (v := π 1 k) hx hb hK (h1 2 _ rfl) ek (by omega) (Nat.le_of_ble_eq_true rfl) rfl dX12_told_38 ?_
      rw [← hQ]
      exact g_iret hx hb hr hlk hS dX12_told_39 ⟨by simp only [gqTold, if_neg c5, if_pos c10]; rw [ek, nI_clamp (show k < 2 ^ 31 by omega)], sA, s7, h1⟩
  · have c5 : 0 ≤ wh - 10 ∧ wh - 10 ≤ 11 := gB_1.mp c5
    obtain ⟨k, hk, ek⟩ := gIw (M := 11) (n := 11) rfl (by decide) c5
    refine lv_aload_n hx hb dX12_told_10 rfl (lv_at hl 0 rfl) ?_
    refine g_get (v := .ref (b + 1)) (T := TX12) (ci := 12) (N := 45) hx hb hown hK (gY_X12 hT) rfl (h1 0 _ rfl) 0 (by decide) (hT _ gf_X12_9) rfl dX12_told_11 ?_
    refine lv_iload_n hx hb dX12_told_14 rfl (lv_at hl 1 rfl) ?_
    refine lv_bipush (v := 10) hx hb dX12_told_15 (by decide) ?_
    refine lv_isub hx hb dX12_told_17 ?_
    refine g_ia (j := k) (v := π 0 k) hx hb hK (h1 1 _ rfl) ek (by omega) (Nat.le_of_ble_eq_true rfl) rfl dX12_told_18 ?_
    rw [← hQ]
    exact g_iret hx hb hr hlk hS dX12_told_19 ⟨by simp only [gqTold, if_pos c5]; rw [ek, nI_clamp (show k < 2 ^ 31 by omega)], sA, s7, h1⟩

set_option maxHeartbeats 4000000 in
set_option maxRecDepth 100000 in
theorem c_X12_pass (l : Launch) (G : gW) (b : Nat) (π μ f : gPS) (g : Nat → Int64) (n : Nat) (hz : π 15 0 = nI n) (hn : n ≤ 6) (L : gLf) (hh : gHold π f L) (m : Int32) : gCI l yX12_pass cX12_pass 4 .int (gRm 7 164) G [.ref b, .int m] (fun H => gM7 G b π μ f g H) (fun r H => r = (gqPass π L n m).1 ∧ gM7 G b (gqPass π L n m).2 μ f g H) (fun q => b ≤ q ∧ q < b + 30) := by
  refine g_start (by decide) (Nat.le_of_ble_eq_true rfl) ?_
  intro pp_ ee_ s mm_ aa_ below meth cc_ ls Q hQ hX hE hP hl
  obtain ⟨hx, hb, hr, hml, hown, hT, hlk, hnm⟩ := hX
  have hK := hE.2.1
  obtain ⟨s7, h1⟩ := hP
  have hS : va_S (fun q => b ≤ q ∧ q < b + 30) s.heap s.heap [] := va_S.rf
  have hl : lv_has ls 4 [(0, .ref b), (1, .int m)] := hl
  refine lv_iload_n hx hb dX12_pass_0 rfl (lv_at hl 1 rfl) ?_
  refine lv_iconst (v := 0) hx hb dX12_pass_1 (by decide) ?_
  refine lv_bipush (v := 60) hx hb dX12_pass_2 (by decide) ?_
  refine g_ki (g_runS (rest := []) hx hb hml hown hE hT (c_X12_within l G m 0 60) gM_X12_within gm_X12_108 gt_X12_within trivial rfl hl.1 ⟨rfl, rfl⟩ ⟨Nat.le_of_ble_eq_true rfl, Nat.le_of_ble_eq_true rfl⟩ ⟨Nat.zero_le _, Nat.zero_le _⟩ rfl (Nat.le_of_ble_eq_true rfl) dX12_pass_4) hS (fun _ h => h.elim) (fun r4 H1 locs q2 k3 hS => ?_)
  subst q2
  have h1 := gSg_free h1 k3 (by intro k hk q; simp only [List.length_cons, List.length_nil] at hk; omega)
  refine lv_if_ne (tgt := 13) hx hb dX12_pass_7 (by decide) (fun c5 => ?_) (fun c5 => ?_)
  · have c5 : 0 ≤ m ∧ m ≤ 60 := gB_1.mp c5
    obtain ⟨d, hd, ed⟩ := gIw (M := 60) (n := 60) rfl (by decide) c5
    subst ed
    refine lv_aload_n hx hb dX12_pass_13 rfl (lv_at hl 0 rfl) ?_
    refine g_get (v := .int (π 15 2)) (T := TX12) (ci := 12) (N := 45) hx hb hown hK (gY_X12 hT) rfl (h1 0 _ rfl) 10 (by decide) (hT _ gf_X12_216) rfl dX12_pass_14 ?_
    refine lv_iload_n hx hb dX12_pass_17 rfl (lv_at hl 1 rfl) ?_
    refine lv_iadd hx hb dX12_pass_18 ?_
    refine lv_sipush (v := 9999) hx hb dX12_pass_19 (by decide) ?_
    refine lv_icmp_le (tgt := 28) hx hb dX12_pass_22 (by decide) (fun c6 => ?_) (fun c6 => ?_)
    · refine lv_iconst (v := 0) hx hb dX12_pass_28 (by decide) ?_
      refine lv_istore_n (lv' := [(2, .int 0), (0, .ref b), (1, .int (nI d))]) hx hb dX12_pass_29 rfl hl (by decide) rfl (fun ls hl => ?_)
      have loop : ∀ (dd k : Nat), k + dd = d → ∀ (s7 : Nat → Int32), ∀ (H : Heap) (locs : List Loc), gSg G b (gLM G b (gPa π L n k) μ (gR f 7 s7) g) H → va_S (fun q => b ≤ q ∧ q < b + 30) s.heap H locs → ∀ ls, lv_has ls 4 [(0, .ref b), (1, .int (nI d)), (2, .int (nI k))] → W pp_ l ee_ (gRm 7 164) s mm_ aa_ below meth cc_ H locs 0 0 Q (F0 mm_ 30 ls []) := by
        intro dd
        induction dd with
        | zero =>
          intro k hk s7  H locs h1 hS ls hl
          have hk : k = d := by omega
          refine lv_iload_n hx hb dX12_pass_30 rfl (lv_at hl 2 rfl) ?_
          refine lv_iload_n hx hb dX12_pass_31 rfl (lv_at hl 1 rfl) ?_
          refine lv_icmp_ge (tgt := 79) hx hb dX12_pass_32 (by decide) (fun c7 => ?_) (fun c7 => ?_)
          · have c7 : d ≤ k := (gLe (a := d) (b := k) rfl rfl (by omega) (by omega)).mp c7
            rw [hk] at h1
            refine lv_aload_n hx hb dX12_pass_79 rfl (lv_at hl 0 rfl) ?_
            refine g_get (v := .int ((gPa π L n d) 15 2)) (T := TX12) (ci := 12) (N := 45) hx hb hown hK (gY_X12 hT) rfl (h1 0 _ rfl) 10 (by decide) (hT _ gf_X12_216) rfl dX12_pass_80 ?_
            rw [← hQ]
            exact g_iret hx hb hr hlk hS dX12_pass_83 (by rw [show gqPass π L n (nI d) = ((gPa π L n d) 15 2, gPa π L n d) from by simp only [gqPass, if_pos c5, if_pos c6, nI_clamp (show d < 2 ^ 31 by omega)]]; exact ⟨rfl, s7, h1⟩)
          · have c7 : ¬ d ≤ k := fun z => c7 ((gLe (a := d) (b := k) rfl rfl (by omega) (by omega)).mpr z)
            exact absurd c7 (by omega)
        | succ dd ih =>
          intro k hk s7  H locs h1 hS ls hl
          refine lv_iload_n hx hb dX12_pass_30 rfl (lv_at hl 2 rfl) ?_
          refine lv_iload_n hx hb dX12_pass_31 rfl (lv_at hl 1 rfl) ?_
          refine lv_icmp_ge (tgt := 79) hx hb dX12_pass_32 (by decide) (fun c8 => ?_) (fun c8 => ?_)
          · have c8 : d ≤ k := (gLe (a := d) (b := k) rfl rfl (by omega) (by omega)).mp c8
            exact absurd c8 (by omega)
          · have c8 : ¬ d ≤ k := fun z => c8 ((gLe (a := d) (b := k) rfl rfl (by omega) (by omega)).mpr z)
            refine lv_aload_n hx hb dX12_pass_35 rfl (lv_at hl 0 rfl) ?_
            refine g_kv (g_runV (T := TX12) (ci := 12) (N := 45) (rest := []) hx hb hml hown hE hT (c_X12_goesDay l G b (gPa π L n k) μ f g n ((gPa_15 (by decide) (by decide) k).trans hz) hn L (gHold_eq hh (gPa_15 (by decide) (by decide) k))) gM_X12_goesDay gm_X12_262 gi_X12_goesDay gs_RX12_yX12_goesDay_yX12_goesDay rfl (h1 0 _ rfl) ⟨s7, h1⟩ rfl hl.1 ⟨rfl, rfl⟩ ⟨Nat.le_of_ble_eq_true rfl, Nat.le_of_ble_eq_true rfl⟩ ⟨Nat.zero_le _, Nat.zero_le _⟩ rfl (Nat.le_of_ble_eq_true rfl) dX12_pass_36) hS (by intro q hq; omega) (fun H9 locs q10 k11 hS => ?_)
            obtain ⟨s7, h1⟩ := q10
            refine lv_iconst (v := 0) hx hb dX12_pass_39 (by decide) ?_
            refine lv_istore_n (lv' := [(3, .int 0), (0, .ref b), (1, .int (nI d)), (2, .int (nI k))]) hx hb dX12_pass_40 rfl hl (by decide) rfl (fun ls hl => ?_)
            have ez9 : ∀ x : Nat, gMn (gDay (gPa π L n k) L n) x 15 0 = nI n := fun x => by rw [gMn_r (by decide), gDay_15 (by decide) (by decide), gPa_15 (by decide) (by decide)]; exact hz
            have inner : ∀ (di p : Nat), p + di = n → ∀ (s7 : Nat → Int32), ∀ (H : Heap) (locs : List Loc), gSg G b (gLM G b (gMn (gDay (gPa π L n k) L n) p) μ (gR f 7 s7) g) H → va_S (fun q => b ≤ q ∧ q < b + 30) s.heap H locs → ∀ ls, lv_has ls 4 [(0, .ref b), (1, .int (nI d)), (2, .int (nI k)), (3, .int (nI p))] → W pp_ l ee_ (gRm 7 164) s mm_ aa_ below meth cc_ H locs 0 0 Q (F0 mm_ 41 ls []) := by
              intro di
              induction di with
              | zero =>
                intro p hkp s7  H locs h1 hS ls hl
                have hkp : p = n := by omega
                refine lv_iload_n hx hb dX12_pass_41 rfl (lv_at hl 3 rfl) ?_
                refine lv_aload_n hx hb dX12_pass_42 rfl (lv_at hl 0 rfl) ?_
                refine g_get (v := .int ((gMn (gDay (gPa π L n k) L n) p) 15 0)) (T := TX12) (ci := 12) (N := 45) hx hb hown hK (gY_X12 hT) rfl (h1 0 _ rfl) 3 (by decide) (hT _ gf_X12_105) rfl dX12_pass_43 ?_
                refine lv_icmp_ge (tgt := 73) hx hb dX12_pass_46 (by decide) (fun c13 => ?_) (fun c13 => ?_)
                · have c13 : n ≤ p := (gLe (a := n) (b := p) (ez9 p) rfl (by omega) (by omega)).mp c13
                  rw [hkp] at h1
                  have h1 : gSg G b (gLM G b (gPa π L n (k + 1)) μ (gR f 7 s7) g) H := h1
                  refine lv_iinc (v := nI (k + 1)) (lv' := [(2, .int (nI (k + 1))), (0, .ref b), (1, .int (nI d)), (3, .int (nI p))]) hx hb dX12_pass_73 hl (k := 2) rfl (gAdd rfl (show Int32.ofInt 1 = nI 1 from rfl)) (by decide) rfl (fun ls hl => ?_)
                  refine lv_goto (tgt := 30) hx hb dX12_pass_76 (by decide) ?_
                  exact ih (k + 1) (by omega) s7  _ _ h1 hS _ (by have hl := lv_sub hl [1, 2, 0] rfl; exact hl)
                · have c13 : ¬ n ≤ p := fun z => c13 ((gLe (a := n) (b := p) (ez9 p) rfl (by omega) (by omega)).mpr z)
                  exact absurd c13 (by omega)
              | succ di ihi =>
                intro p hkp s7  H locs h1 hS ls hl
                refine lv_iload_n hx hb dX12_pass_41 rfl (lv_at hl 3 rfl) ?_
                refine lv_aload_n hx hb dX12_pass_42 rfl (lv_at hl 0 rfl) ?_
                refine g_get (v := .int ((gMn (gDay (gPa π L n k) L n) p) 15 0)) (T := TX12) (ci := 12) (N := 45) hx hb hown hK (gY_X12 hT) rfl (h1 0 _ rfl) 3 (by decide) (hT _ gf_X12_105) rfl dX12_pass_43 ?_
                refine lv_icmp_ge (tgt := 73) hx hb dX12_pass_46 (by decide) (fun c14 => ?_) (fun c14 => ?_)
                · have c14 : n ≤ p := (gLe (a := n) (b := p) (ez9 p) rfl (by omega) (by omega)).mp c14
                  exact absurd c14 (by omega)
                · have c14 : ¬ n ≤ p := fun z => c14 ((gLe (a := n) (b := p) (ez9 p) rfl (by omega) (by omega)).mpr z)
                  refine lv_aload_n hx hb dX12_pass_49 rfl (lv_at hl 0 rfl) ?_
                  refine g_get (v := .ref (b + 7)) (T := TX12) (ci := 12) (N := 45) hx hb hown hK (gY_X12 hT) rfl (h1 0 _ rfl) 8 (by decide) (hT _ gf_X12_30) rfl dX12_pass_50 ?_
                  refine lv_iload_n hx hb dX12_pass_53 rfl (lv_at hl 3 rfl) ?_
                  refine lv_sipush (v := 9999) hx hb dX12_pass_54 (by decide) ?_
                  refine lv_aload_n hx hb dX12_pass_57 rfl (lv_at hl 0 rfl) ?_
                  refine g_get (v := .ref (b + 7)) (T := TX12) (ci := 12) (N := 45) hx hb hown hK (gY_X12 hT) rfl (h1 0 _ rfl) 8 (by decide) (hT _ gf_X12_30) rfl dX12_pass_58 ?_
                  refine lv_iload_n hx hb dX12_pass_61 rfl (lv_at hl 3 rfl) ?_
                  refine g_ia (j := p) (v := (gMn (gDay (gPa π L n k) L n) p) 6 p) hx hb hK (h1 7 _ rfl) rfl (by omega) (Nat.le_of_ble_eq_true rfl) rfl dX12_pass_62 ?_
                  refine va_mmin hx hb (hml.trans hl.1.symm) hown (hT _ gm_X12_230) (hT _ gt_Lib_Math_min_name) (hT _ gn_java_lang_Math) (hT _ gc_Lib_Math_min_name) (Nat.le_of_ble_eq_true rfl) (Nat.le_of_ble_eq_true rfl) (Nat.zero_le _) (Nat.zero_le _) dX12_pass_63 ?_
                  refine g_is (j := p) hx hb hK hS (h1 7 _ rfl) rfl (by omega) (Nat.le_of_ble_eq_true rfl) (by omega) dX12_pass_66 (fun H15 locs c16 oq hS => ?_)
                  have h1 : gSg G b (gLM G b (gU (gMn (gDay (gPa π L n k) L n) p) 6 p (if (gMn (gDay (gPa π L n k) L n) p) 6 p < 9999 then (gMn (gDay (gPa π L n k) L n) p) 6 p else 9999)) μ (gR f 7 s7) g) H15 := gSg_set h1 7 c16 oq
                  refine lv_iinc (v := nI (p + 1)) (lv' := [(3, .int (nI (p + 1))), (0, .ref b), (1, .int (nI d)), (2, .int (nI k))]) hx hb dX12_pass_67 hl (k := 3) rfl (gAdd rfl (show Int32.ofInt 1 = nI 1 from rfl)) (by decide) rfl (fun ls hl => ?_)
                  refine lv_goto (tgt := 41) hx hb dX12_pass_70 (by decide) ?_
                  rw [show gU (gMn (gDay (gPa π L n k) L n) p) 6 p (if (gMn (gDay (gPa π L n k) L n) p) 6 p < 9999 then (gMn (gDay (gPa π L n k) L n) p) 6 p else 9999) = gMn (gDay (gPa π L n k) L n) (p + 1) from by rw [gMn]] at h1
                  exact ihi (p + 1) (by omega) s7  _ _ h1 hS _ (by have hl := lv_sub hl [1, 2, 3, 0] rfl; exact hl)
            exact inner (n - 0) 0 (by first | omega | simp) s7 _ _ h1 hS _ (lv_sub hl [1, 2, 3, 0] rfl)
      exact loop (d - 0) 0 (by first | omega | simp) s7 _ _ h1 hS _ (lv_sub hl [1, 2, 0] rfl)
    · refine lv_bipush (v := (-3)) hx hb dX12_pass_25 (by decide) ?_
      rw [← hQ]
      exact g_iret hx hb hr hlk hS dX12_pass_27 (by rw [show gqPass π L n (nI d) = ((-3), π) from by simp only [gqPass, if_pos c5, if_neg c6, nI_clamp (show d < 2 ^ 31 by omega)]]; exact ⟨rfl, s7, h1⟩)
  · have c5 : ¬ (0 ≤ m ∧ m ≤ 60) := gB_0.mp c5
    refine lv_bipush (v := (-2)) hx hb dX12_pass_10 (by decide) ?_
    rw [← hQ]
    exact g_iret hx hb hr hlk hS dX12_pass_12 (by rw [show gqPass π L n m = ((-2), π) from by simp only [gqPass, if_neg c5]]; exact ⟨rfl, s7, h1⟩)
