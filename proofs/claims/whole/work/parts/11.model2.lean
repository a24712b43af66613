set_option maxHeartbeats 4000000 in
set_option maxRecDepth 100000 in
theorem c_X12_phrase (l : Launch) (G : gW) (b : Nat) (π μ f : gPS) (g : Nat → Int64)  (w what n : Int32) : gCI l yX12_phrase cX12_phrase 5 .int (gRm 2 42) G [.ref b, .int w, .int what, .int n] (fun H => gSg G b (gLM G b π μ f g) H) (fun r H => r = (gqPhrase π w what n).1 ∧ gSg G b (gLM G b (gqPhrase π w what n).2 μ f g) H) (fun q => b ≤ q ∧ q < b + 30) := by
  refine g_start (by decide) (Nat.le_of_ble_eq_true rfl) ?_
  intro pp_ ee_ s mm_ aa_ below meth cc_ ls Q hQ hX hE hP hl
  obtain ⟨hx, hb, hr, hml, hown, hT, hlk, hnm⟩ := hX
  have hK := hE.2.1
  have h1 := hP
  have hS : va_S (fun q => b ≤ q ∧ q < b + 30) s.heap s.heap [] := va_S.rf
  have hl : lv_has ls 5 [(0, .ref b), (1, .int w), (2, .int what), (3, .int n)] := hl
  refine lv_iload_n hx hb dX12_phrase_0 rfl (lv_at hl 1 rfl) ?_
  refine g_ki (g_runS (rest := []) hx hb hml hown hE hT (c_X12_isWord l G w) gM_X12_isWord gm_X12_130 gt_X12_isWord trivial rfl hl.1 ⟨rfl, rfl⟩ ⟨Nat.le_of_ble_eq_true rfl, Nat.le_of_ble_eq_true rfl⟩ ⟨Nat.zero_le _, Nat.zero_le _⟩ rfl (Nat.le_of_ble_eq_true rfl) dX12_phrase_1) hS (fun _ h => h.elim) (fun r4 H1 locs q2 k3 hS => ?_)
  subst q2
  have h1 := gSg_free h1 k3 (by intro k hk q; simp only [List.length_cons, List.length_nil] at hk; omega)
  refine lv_if_eq (tgt := 16) hx hb dX12_phrase_4 (by decide) (fun c5 => ?_) (fun c5 => ?_)
  · have c5 : ¬ (0 ≤ w ∧ w ≤ 11) := gB_0.mp c5
    refine lv_iconst (v := (-1)) hx hb dX12_phrase_16 (by decide) ?_
    rw [← hQ]
    exact g_iret hx hb hr hlk hS dX12_phrase_17 (by rw [show gqPhrase π w what n = ((-1), π) from by simp only [gqPhrase, if_neg c5] <;> rfl]; exact ⟨rfl, h1⟩)
  · have c5 : 0 ≤ w ∧ w ≤ 11 := gB_1.mp c5
    obtain ⟨k, hk, ek⟩ := gIw (M := 11) (n := 11) rfl (by decide) c5
    subst ek
    refine lv_iload_n hx hb dX12_phrase_7 rfl (lv_at hl 2 rfl) ?_
    refine lv_iconst (v := 0) hx hb dX12_phrase_8 (by decide) ?_
    refine lv_iconst (v := 1) hx hb dX12_phrase_9 (by decide) ?_
    refine g_ki (g_runS (rest := []) hx hb hml hown hE hT (c_X12_within l G what 0 1) gM_X12_within gm_X12_108 gt_X12_within trivial rfl hl.1 ⟨rfl, rfl⟩ ⟨Nat.le_of_ble_eq_true rfl, Nat.le_of_ble_eq_true rfl⟩ ⟨Nat.zero_le _, Nat.zero_le _⟩ rfl (Nat.le_of_ble_eq_true rfl) dX12_phrase_10) hS (fun _ h => h.elim) (fun r9 H6 locs q7 k8 hS => ?_)
    subst q7
    have h1 := gSg_free h1 k8 (by intro k hk q; simp only [List.length_cons, List.length_nil] at hk; omega)
    refine lv_if_ne (tgt := 18) hx hb dX12_phrase_13 (by decide) (fun c10 => ?_) (fun c10 => ?_)
    · have c10 : 0 ≤ what ∧ what ≤ 1 := gB_1.mp c10
      refine lv_iload_n hx hb dX12_phrase_18 rfl (lv_at hl 3 rfl) ?_
      refine lv_iconst (v := 0) hx hb dX12_phrase_19 (by decide) ?_
      refine lv_iload_n hx hb dX12_phrase_20 rfl (lv_at hl 2 rfl) ?_
      refine lv_if_ne (tgt := 29) hx hb dX12_phrase_21 (by decide) (fun c11 => ?_) (fun c11 => ?_)
      · refine lv_sipush (v := 255) hx hb dX12_phrase_29 (by decide) ?_
        refine g_ki (g_runS (rest := []) hx hb hml hown hE hT (c_X12_within l G n 0 255) gM_X12_within gm_X12_108 gt_X12_within trivial rfl hl.1 ⟨rfl, rfl⟩ ⟨Nat.le_of_ble_eq_true rfl, Nat.le_of_ble_eq_true rfl⟩ ⟨Nat.zero_le _, Nat.zero_le _⟩ rfl (Nat.le_of_ble_eq_true rfl) dX12_phrase_32) hS (fun _ h => h.elim) (fun r15 H12 locs q13 k14 hS => ?_)
        subst q13
        have h1 := gSg_free h1 k14 (by intro k hk q; simp only [List.length_cons, List.length_nil] at hk; omega)
        refine lv_if_ne (tgt := 41) hx hb dX12_phrase_35 (by decide) (fun c16 => ?_) (fun c16 => ?_)
        · have c16 : 0 ≤ n ∧ n ≤ 255 := gB_1.mp c16
          refine lv_iload_n hx hb dX12_phrase_41 rfl (lv_at hl 2 rfl) ?_
          refine lv_if_ne (tgt := 54) hx hb dX12_phrase_42 (by decide) (fun c17 => ?_) (fun c17 => ?_)
          · refine lv_aload_n hx hb dX12_phrase_54 rfl (lv_at hl 0 rfl) ?_
            refine g_get (v := .ref (b + 2)) (T := TX12) (ci := 12) (N := 45) hx hb hown hK (gY_X12 hT) rfl (h1 0 _ rfl) 1 (by decide) (hT _ gf_X12_15) rfl dX12_phrase_55 ?_
            refine lv_iload_n hx hb dX12_phrase_58 rfl (lv_at hl 1 rfl) ?_
            refine g_ia (j := k) (v := π 1 k) hx hb hK (h1 2 _ rfl) rfl (by omega) (Nat.le_of_ble_eq_true rfl) rfl dX12_phrase_59 ?_
            refine lv_istore (lv' := [(4, .int (π 1 k)), (0, .ref b), (1, .int (nI k)), (2, .int what), (3, .int n)]) hx hb dX12_phrase_60 hl (by decide) rfl (fun ls hl => ?_)
            refine lv_iload_n hx hb dX12_phrase_62 rfl (lv_at hl 3 rfl) ?_
            refine lv_if_ne (tgt := 76) hx hb dX12_phrase_63 (by decide) (fun c18 => ?_) (fun c18 => ?_)
            · refine lv_aload_n hx hb dX12_phrase_76 rfl (lv_at hl 1 rfl) ?_
              refine g_get (v := .ref (b + 2)) (T := TX12) (ci := 12) (N := 45) hx hb hown hK (gY_X12 hT) rfl (h1 0 _ rfl) 1 (by decide) (hT _ gf_X12_15) rfl dX12_phrase_77 ?_
              refine lv_iload_n hx hb dX12_phrase_80 rfl (lv_at hl 2 rfl) ?_
              refine lv_iload_n hx hb dX12_phrase_81 rfl (lv_at hl 4 rfl) ?_
              refine g_is (j := k) hx hb hK hS (h1 2 _ rfl) rfl (by omega) (Nat.le_of_ble_eq_true rfl) (by omega) dX12_phrase_82 (fun H19 locs c20 oq hS => ?_)
              have h1 : gSg G b (gLM G b (gU π 1 k n) μ f g) H19 := gSg_set h1 2 c20 oq
              refine lv_iload hx hb dX12_phrase_83 (lv_at hl 0 rfl) ?_
              rw [← hQ]
              exact g_iret hx hb hr hlk hS dX12_phrase_85 (by rw [show gqPhrase π (nI k) what n = (π 1 k, gU π 1 k n) from by simp only [gqPhrase, if_pos c5, if_pos c10, if_neg c11, if_pos c16, nI_clamp (show k < 2 ^ 31 by omega)] <;> rfl]; exact ⟨rfl, h1⟩)
            · exact absurd c18 c11
          · exact absurd c17 c11
        · have c16 : ¬ (0 ≤ n ∧ n ≤ 255) := gB_0.mp c16
          refine lv_bipush (v := (-2)) hx hb dX12_phrase_38 (by decide) ?_
          rw [← hQ]
          exact g_iret hx hb hr hlk hS dX12_phrase_40 (by rw [show gqPhrase π (nI k) what n = ((-2), π) from by simp only [gqPhrase, if_pos c5, if_pos c10, if_neg c11, if_neg c16, nI_clamp (show k < 2 ^ 31 by omega)] <;> rfl]; exact ⟨rfl, h1⟩)
      · refine lv_bipush (v := 9) hx hb dX12_phrase_24 (by decide) ?_
        refine lv_goto (tgt := 32) hx hb dX12_phrase_26 (by decide) ?_
        refine g_ki (g_runS (rest := []) hx hb hml hown hE hT (c_X12_within l G n 0 9) gM_X12_within gm_X12_108 gt_X12_within trivial rfl hl.1 ⟨rfl, rfl⟩ ⟨Nat.le_of_ble_eq_true rfl, Nat.le_of_ble_eq_true rfl⟩ ⟨Nat.zero_le _, Nat.zero_le _⟩ rfl (Nat.le_of_ble_eq_true rfl) dX12_phrase_32) hS (fun _ h => h.elim) (fun r24 H21 locs q22 k23 hS => ?_)
        subst q22
        have h1 := gSg_free h1 k23 (by intro k hk q; simp only [List.length_cons, List.length_nil] at hk; omega)
        refine lv_if_ne (tgt := 41) hx hb dX12_phrase_35 (by decide) (fun c25 => ?_) (fun c25 => ?_)
        · have c25 : 0 ≤ n ∧ n ≤ 9 := gB_1.mp c25
          refine lv_iload_n hx hb dX12_phrase_41 rfl (lv_at hl 2 rfl) ?_
          refine lv_if_ne (tgt := 54) hx hb dX12_phrase_42 (by decide) (fun c26 => ?_) (fun c26 => ?_)
          · exact absurd c11 c26
          · refine lv_aload_n hx hb dX12_phrase_45 rfl (lv_at hl 0 rfl) ?_
            refine g_get (v := .ref (b + 1)) (T := TX12) (ci := 12) (N := 45) hx hb hown hK (gY_X12 hT) rfl (h1 0 _ rfl) 0 (by decide) (hT _ gf_X12_9) rfl dX12_phrase_46 ?_
            refine lv_iload_n hx hb dX12_phrase_49 rfl (lv_at hl 1 rfl) ?_
            refine g_ia (j := k) (v := π 0 k) hx hb hK (h1 1 _ rfl) rfl (by omega) (Nat.le_of_ble_eq_true rfl) rfl dX12_phrase_50 ?_
            refine lv_goto (tgt := 60) hx hb dX12_phrase_51 (by decide) ?_
            refine lv_istore (lv' := [(4, .int (π 0 k)), (0, .ref b), (1, .int (nI k)), (2, .int what), (3, .int n)]) hx hb dX12_phrase_60 hl (by decide) rfl (fun ls hl => ?_)
            refine lv_iload_n hx hb dX12_phrase_62 rfl (lv_at hl 3 rfl) ?_
            refine lv_if_ne (tgt := 76) hx hb dX12_phrase_63 (by decide) (fun c27 => ?_) (fun c27 => ?_)
            · exact absurd c11 c27
            · refine lv_aload_n hx hb dX12_phrase_66 rfl (lv_at hl 1 rfl) ?_
              refine g_get (v := .ref (b + 1)) (T := TX12) (ci := 12) (N := 45) hx hb hown hK (gY_X12 hT) rfl (h1 0 _ rfl) 0 (by decide) (hT _ gf_X12_9) rfl dX12_phrase_67 ?_
              refine lv_iload_n hx hb dX12_phrase_70 rfl (lv_at hl 2 rfl) ?_
              refine lv_iload_n hx hb dX12_phrase_71 rfl (lv_at hl 4 rfl) ?_
              refine g_is (j := k) hx hb hK hS (h1 1 _ rfl) rfl (by omega) (Nat.le_of_ble_eq_true rfl) (by omega) dX12_phrase_72 (fun H28 locs c29 oq hS => ?_)
              have h1 : gSg G b (gLM G b (gU π 0 k n) μ f g) H28 := gSg_set h1 1 c29 oq
              refine lv_goto (tgt := 83) hx hb dX12_phrase_73 (by decide) ?_
              refine lv_iload hx hb dX12_phrase_83 (lv_at hl 0 rfl) ?_
              rw [← hQ]
              exact g_iret hx hb hr hlk hS dX12_phrase_85 (by rw [show gqPhrase π (nI k) what n = (π 0 k, gU π 0 k n) from by simp only [gqPhrase, if_pos c5, if_pos c10, if_pos c11, if_pos c25, nI_clamp (show k < 2 ^ 31 by omega)] <;> rfl]; exact ⟨rfl, h1⟩)
        · have c25 : ¬ (0 ≤ n ∧ n ≤ 9) := gB_0.mp c25
          refine lv_bipush (v := (-2)) hx hb dX12_phrase_38 (by decide) ?_
          rw [← hQ]
          exact g_iret hx hb hr hlk hS dX12_phrase_40 (by rw [show gqPhrase π (nI k) what n = ((-2), π) from by simp only [gqPhrase, if_pos c5, if_pos c10, if_pos c11, if_neg c25, nI_clamp (show k < 2 ^ 31 by omega)] <;> rfl]; exact ⟨rfl, h1⟩)
    · have c10 : ¬ (0 ≤ what ∧ what ≤ 1) := gB_0.mp c10
      refine lv_iconst (v := (-1)) hx hb dX12_phrase_16 (by decide) ?_
      rw [← hQ]
      exact g_iret hx hb hr hlk hS dX12_phrase_17 (by rw [show gqPhrase π (nI k) what n = ((-1), π) from by simp only [gqPhrase, if_pos c5, if_neg c10, nI_clamp (show k < 2 ^ 31 by omega)] <;> rfl]; exact ⟨rfl, h1⟩)

set_option maxHeartbeats 4000000 in
set_option maxRecDepth 100000 in
theorem c_X12_row (l : Launch) (G : gW) (b : Nat) (π μ f : gPS) (g : Nat → Int64) (n : Nat) (hz : π 15 0 = nI n) (hn : n ≤ 6) (p part x : Int32) : gCI l yX12_row cX12_row 5 .int (gRm 2 43) G [.ref b, .int p, .int part, .int x] (fun H => gSg G b (gLM G b π μ f g) H) (fun r H => r = (gqRow π p part x).1 ∧ gSg G b (gLM G b (gqRow π p part x).2 μ f g) H) (fun q => b ≤ q ∧ q < b + 30) := by
  refine g_start (by decide) (Nat.le_of_ble_eq_true rfl) ?_
  intro pp_ ee_ s mm_ aa_ below meth cc_ ls Q hQ hX hE hP hl
  obtain ⟨hx, hb, hr, hml, hown, hT, hlk, hnm⟩ := hX
  have hK := hE.2.1
  have h1 := hP
  have hS : va_S (fun q => b ≤ q ∧ q < b + 30) s.heap s.heap [] := va_S.rf
  have hl : lv_has ls 5 [(0, .ref b), (1, .int p), (2, .int part), (3, .int x)] := hl
  refine lv_aload_n hx hb dX12_row_0 rfl (lv_at hl 0 rfl) ?_
  refine lv_iload_n hx hb dX12_row_1 rfl (lv_at hl 1 rfl) ?_
  refine g_ki (g_runV (T := TX12) (ci := 12) (N := 45) (rest := []) hx hb hml hown hE hT (c_X12_isOne l G b π μ f g n hz (by omega) p) gM_X12_isOne gm_X12_112 gi_X12_isOne gs_RX12_yX12_isOne_yX12_isOne rfl (h1 0 _ rfl) h1 rfl hl.1 ⟨rfl, rfl⟩ ⟨Nat.le_of_ble_eq_true rfl, Nat.le_of_ble_eq_true rfl⟩ ⟨Nat.zero_le _, Nat.zero_le _⟩ rfl (Nat.le_of_ble_eq_true rfl) dX12_row_2) hS (fun _ h => h.elim) (fun r4 H1 locs q2 k3 hS => ?_)
  subst q2
  have h1 := gSg_free h1 k3 (by intro k hk q; simp only [List.length_cons, List.length_nil] at hk; omega)
  refine lv_if_eq (tgt := 17) hx hb dX12_row_5 (by decide) (fun c5 => ?_) (fun c5 => ?_)
  · have c5 : ¬ (0 ≤ p ∧ p < π 15 0) := gB_0.mp c5
    refine lv_iconst (v := (-1)) hx hb dX12_row_17 (by decide) ?_
    rw [← hQ]
    exact g_iret hx hb hr hlk hS dX12_row_18 (by rw [show gqRow π p part x = ((-1), π) from by simp only [gqRow, if_neg c5] <;> rfl]; exact ⟨rfl, h1⟩)
  · have c5 : 0 ≤ p ∧ p < π 15 0 := gB_1.mp c5
    obtain ⟨k, hk, ek⟩ := gIx hz (by omega) c5
    subst ek
    refine lv_iload_n hx hb dX12_row_8 rfl (lv_at hl 2 rfl) ?_
    refine lv_iconst (v := 0) hx hb dX12_row_9 (by decide) ?_
    refine lv_iconst (v := 3) hx hb dX12_row_10 (by decide) ?_
    refine g_ki (g_runS (rest := []) hx hb hml hown hE hT (c_X12_within l G part 0 3) gM_X12_within gm_X12_108 gt_X12_within trivial rfl hl.1 ⟨rfl, rfl⟩ ⟨Nat.le_of_ble_eq_true rfl, Nat.le_of_ble_eq_true rfl⟩ ⟨Nat.zero_le _, Nat.zero_le _⟩ rfl (Nat.le_of_ble_eq_true rfl) dX12_row_11) hS (fun _ h => h.elim) (fun r9 H6 locs q7 k8 hS => ?_)
    subst q7
    have h1 := gSg_free h1 k8 (by intro k hk q; simp only [List.length_cons, List.length_nil] at hk; omega)
    refine lv_if_ne (tgt := 19) hx hb dX12_row_14 (by decide) (fun c10 => ?_) (fun c10 => ?_)
    · have c10 : 0 ≤ part ∧ part ≤ 3 := gB_1.mp c10
      obtain ⟨j, hj, ej⟩ := gIw (M := 3) (n := 3) rfl (by decide) c10
      subst ej
      refine lv_iload_n hx hb dX12_row_19 rfl (lv_at hl 3 rfl) ?_
      refine lv_iconst (v := 0) hx hb dX12_row_20 (by decide) ?_
      refine lv_bipush (v := 9) hx hb dX12_row_21 (by decide) ?_
      refine g_ki (g_runS (rest := []) hx hb hml hown hE hT (c_X12_within l G x 0 9) gM_X12_within gm_X12_108 gt_X12_within trivial rfl hl.1 ⟨rfl, rfl⟩ ⟨Nat.le_of_ble_eq_true rfl, Nat.le_of_ble_eq_true rfl⟩ ⟨Nat.zero_le _, Nat.zero_le _⟩ rfl (Nat.le_of_ble_eq_true rfl) dX12_row_23) hS (fun _ h => h.elim) (fun r14 H11 locs q12 k13 hS => ?_)
      subst q12
      have h1 := gSg_free h1 k13 (by intro k hk q; simp only [List.length_cons, List.length_nil] at hk; omega)
      refine lv_if_ne (tgt := 32) hx hb dX12_row_26 (by decide) (fun c15 => ?_) (fun c15 => ?_)
      · have c15 : 0 ≤ x ∧ x ≤ 9 := gB_1.mp c15
        refine lv_aload_n hx hb dX12_row_32 rfl (lv_at hl 0 rfl) ?_
        refine g_get (v := .ref (b + 3)) (T := TX12) (ci := 12) (N := 45) hx hb hown hK (gY_X12 hT) rfl (h1 0 _ rfl) 4 (by decide) (hT _ gf_X12_18) rfl dX12_row_33 ?_
        refine lv_iload_n hx hb dX12_row_36 rfl (lv_at hl 1 rfl) ?_
        refine g_ia (j := k) (v := π 2 k) hx hb hK (h1 3 _ rfl) rfl (by omega) (Nat.le_of_ble_eq_true rfl) rfl dX12_row_37 ?_
        refine lv_bipush (v := 6) hx hb dX12_row_38 (by decide) ?_
        refine lv_icmp_eq (tgt := 46) hx hb dX12_row_40 (by decide) (fun c16 => ?_) (fun c16 => ?_)
        · refine lv_aload_n hx hb dX12_row_46 rfl (lv_at hl 0 rfl) ?_
          refine g_get (v := .ref (b + 8)) (T := TX12) (ci := 12) (N := 45) hx hb hown hK (gY_X12 hT) rfl (h1 0 _ rfl) 9 (by decide) (hT _ gf_X12_33) rfl dX12_row_47 ?_
          refine lv_iconst (v := 4) hx hb dX12_row_50 (by decide) ?_
          refine lv_iload_n hx hb dX12_row_51 rfl (lv_at hl 1 rfl) ?_
          refine lv_imul hx hb dX12_row_52 ?_
          refine lv_iload_n hx hb dX12_row_53 rfl (lv_at hl 2 rfl) ?_
          refine lv_iadd hx hb dX12_row_54 ?_
          refine g_ia (j := (4 * k) + j) (v := π 7 ((4 * k) + j)) hx hb hK (h1 8 _ rfl) (gAdd (gMul rfl rfl) rfl) (by omega) (Nat.le_of_ble_eq_true rfl) rfl dX12_row_55 ?_
          refine lv_istore (lv' := [(4, .int (π 7 ((4 * k) + j))), (0, .ref b), (1, .int (nI k)), (2, .int (nI j)), (3, .int x)]) hx hb dX12_row_56 hl (by decide) rfl (fun ls hl => ?_)
          refine lv_aload_n hx hb dX12_row_58 rfl (lv_at hl 1 rfl) ?_
          refine g_get (v := .ref (b + 8)) (T := TX12) (ci := 12) (N := 45) hx hb hown hK (gY_X12 hT) rfl (h1 0 _ rfl) 9 (by decide) (hT _ gf_X12_33) rfl dX12_row_59 ?_
          refine lv_iconst (v := 4) hx hb dX12_row_62 (by decide) ?_
          refine lv_iload_n hx hb dX12_row_63 rfl (lv_at hl 2 rfl) ?_
          refine lv_imul hx hb dX12_row_64 ?_
          refine lv_iload_n hx hb dX12_row_65 rfl (lv_at hl 3 rfl) ?_
          refine lv_iadd hx hb dX12_row_66 ?_
          refine lv_iload_n hx hb dX12_row_67 rfl (lv_at hl 4 rfl) ?_
          refine g_is (j := (4 * k) + j) hx hb hK hS (h1 8 _ rfl) (gAdd (gMul rfl rfl) rfl) (by omega) (Nat.le_of_ble_eq_true rfl) (by omega) dX12_row_68 (fun H17 locs c18 oq hS => ?_)
          have h1 : gSg G b (gLM G b (gU π 7 ((4 * k) + j) x) μ f g) H17 := gSg_set h1 8 c18 oq
          refine lv_iload hx hb dX12_row_69 (lv_at hl 0 rfl) ?_
          rw [← hQ]
          exact g_iret hx hb hr hlk hS dX12_row_71 (by rw [show gqRow π (nI k) (nI j) x = (π 7 ((4 * k) + j), gU π 7 ((4 * k) + j) x) from by simp only [gqRow, if_pos c5, if_pos c10, if_pos c15, if_pos c16, nI_clamp (show k < 2 ^ 31 by omega), nI_clamp (show j < 2 ^ 31 by omega)] <;> rfl]; exact ⟨rfl, h1⟩)
        · refine lv_bipush (v := (-3)) hx hb dX12_row_43 (by decide) ?_
          rw [← hQ]
          exact g_iret hx hb hr hlk hS dX12_row_45 (by rw [show gqRow π (nI k) (nI j) x = ((-3), π) from by simp only [gqRow, if_pos c5, if_pos c10, if_pos c15, if_neg c16, nI_clamp (show k < 2 ^ 31 by omega), nI_clamp (show j < 2 ^ 31 by omega)] <;> rfl]; exact ⟨rfl, h1⟩)
      · have c15 : ¬ (0 ≤ x ∧ x ≤ 9) := gB_0.mp c15
        refine lv_bipush (v := (-2)) hx hb dX12_row_29 (by decide) ?_
        rw [← hQ]
        exact g_iret hx hb hr hlk hS dX12_row_31 (by rw [show gqRow π (nI k) (nI j) x = ((-2), π) from by simp only [gqRow, if_pos c5, if_pos c10, if_neg c15, nI_clamp (show k < 2 ^ 31 by omega), nI_clamp (show j < 2 ^ 31 by omega)] <;> rfl]; exact ⟨rfl, h1⟩)
    · have c10 : ¬ (0 ≤ part ∧ part ≤ 3) := gB_0.mp c10
      refine lv_iconst (v := (-1)) hx hb dX12_row_17 (by decide) ?_
      rw [← hQ]
      exact g_iret hx hb hr hlk hS dX12_row_18 (by rw [show gqRow π (nI k) part x = ((-1), π) from by simp only [gqRow, if_pos c5, if_neg c10, nI_clamp (show k < 2 ^ 31 by omega)] <;> rfl]; exact ⟨rfl, h1⟩)

set_option maxHeartbeats 4000000 in
set_option maxRecDepth 100000 in
theorem c_X12_feed (l : Launch) (G : gW) (b : Nat) (π μ f : gPS) (g : Nat → Int64) (tn : Nat) (ht : μ 4 0 = nI tn) (htn : tn ≤ 100) (sign : Int32) : gCI l yX12_feed cX12_feed 2 .int (gRm 1 22) G [.ref b, .int sign] (fun H => gSg G b (gLM G b π μ f g) H) (fun r H => r = (gqFeed μ sign).1 ∧ gSg G b (gLM G b π (gqFeed μ sign).2 f g) H) (fun q => b ≤ q ∧ q < b + 30) := by
  refine g_start (by decide) (Nat.le_of_ble_eq_true rfl) ?_
  intro pp_ ee_ s mm_ aa_ below meth cc_ ls Q hQ hX hE hP hl
  obtain ⟨hx, hb, hr, hml, hown, hT, hlk, hnm⟩ := hX
  have hK := hE.2.1
  have h1 := hP
  have hS : va_S (fun q => b ≤ q ∧ q < b + 30) s.heap s.heap [] := va_S.rf
  have hl : lv_has ls 2 [(0, .ref b), (1, .int sign)] := hl
  refine lv_iload_n hx hb dX12_feed_0 rfl (lv_at hl 1 rfl) ?_
  refine lv_iconst (v := 0) hx hb dX12_feed_1 (by decide) ?_
  refine lv_bipush (v := 127) hx hb dX12_feed_2 (by decide) ?_
  refine g_ki (g_runS (rest := []) hx hb hml hown hE hT (c_X12_within l G sign 0 127) gM_X12_within gm_X12_108 gt_X12_within trivial rfl hl.1 ⟨rfl, rfl⟩ ⟨Nat.le_of_ble_eq_true rfl, Nat.le_of_ble_eq_true rfl⟩ ⟨Nat.zero_le _, Nat.zero_le _⟩ rfl (Nat.le_of_ble_eq_true rfl) dX12_feed_4) hS (fun _ h => h.elim) (fun r4 H1 locs q2 k3 hS => ?_)
  subst q2
  have h1 := gSg_free h1 k3 (by intro k hk q; simp only [List.length_cons, List.length_nil] at hk; omega)
  refine lv_if_ne (tgt := 13) hx hb dX12_feed_7 (by decide) (fun c5 => ?_) (fun c5 => ?_)
  · have c5 : 0 ≤ sign ∧ sign ≤ 127 := gB_1.mp c5
    refine lv_aload_n hx hb dX12_feed_13 rfl (lv_at hl 0 rfl) ?_
    refine g_get (v := .int (μ 4 0)) (T := TX12) (ci := 12) (N := 45) hx hb hown hK (gY_X12 hT) rfl (h1 0 _ rfl) 11 (by decide) (hT _ gf_X12_133) rfl dX12_feed_14 ?_
    refine lv_bipush (v := 100) hx hb dX12_feed_17 (by decide) ?_
    refine lv_icmp_ne (tgt := 25) hx hb dX12_feed_19 (by decide) (fun c6 => ?_) (fun c6 => ?_)
    · have c6 : ¬ tn = 100 := fun z => c6 ((gEq (a := tn) (b := 100) ht rfl (by omega) (by omega)).mpr z)
      refine lv_aload_n hx hb dX12_feed_25 rfl (lv_at hl 0 rfl) ?_
      refine g_get (v := .ref (b + 9)) (T := TX12) (ci := 12) (N := 45) hx hb hown hK (gY_X12 hT) rfl (h1 0 _ rfl) 12 (by decide) (hT _ gf_X12_36) rfl dX12_feed_26 ?_
      refine lv_aload_n hx hb dX12_feed_29 rfl (lv_at hl 0 rfl) ?_
      refine lv_dup hx hb dX12_feed_30 rfl ?_
      refine g_get (v := .int (μ 4 0)) (T := TX12) (ci := 12) (N := 45) hx hb hown hK (gY_X12 hT) rfl (h1 0 _ rfl) 11 (by decide) (hT _ gf_X12_133) rfl dX12_feed_31 ?_
      refine lv_dup_x1 hx hb dX12_feed_34 rfl rfl ?_
      refine lv_iconst (v := 1) hx hb dX12_feed_35 (by decide) ?_
      refine lv_iadd hx hb dX12_feed_36 ?_
      refine g_put (T := TX12) (ci := 12) (N := 45) (ty0 := tyX12) hx hb hown hK hS (gY_X12 hT) tyX12_ok nmX12 rfl (h1 0 _ rfl) 11 (by decide) (hT _ gf_X12_133) rfl rfl rfl (Nat.le_of_ble_eq_true rfl) (by omega) dX12_feed_37 (fun H7 locs c8 oq hS => ?_)
      have h1 : gSg G b (gLM G b π (gU μ 4 0 ((μ 4 0) + 1)) f g) H7 := gSg_set h1 0 c8 oq
      refine lv_iload_n hx hb dX12_feed_40 rfl (lv_at hl 1 rfl) ?_
      refine g_is (j := tn) hx hb hK hS (h1 9 _ rfl) ht (by omega) (Nat.le_of_ble_eq_true rfl) (by omega) dX12_feed_41 (fun H9 locs c10 oq hS => ?_)
      have h1 : gSg G b (gLM G b π (gU (gU μ 4 0 ((μ 4 0) + 1)) 0 tn sign) f g) H9 := gSg_set h1 9 c10 oq
      refine lv_aload_n hx hb dX12_feed_42 rfl (lv_at hl 0 rfl) ?_
      refine g_get (v := .int ((μ 4 0) + 1)) (T := TX12) (ci := 12) (N := 45) hx hb hown hK (gY_X12 hT) rfl (h1 0 _ rfl) 11 (by decide) (hT _ gf_X12_133) rfl dX12_feed_43 ?_
      rw [← hQ]
      exact g_iret hx hb hr hlk hS dX12_feed_46 (by rw [show gqFeed μ sign = ((μ 4 0) + 1, gU (gU μ 4 0 ((μ 4 0) + 1)) 0 tn sign) from by simp only [gqFeed, if_pos c5, if_neg (show ¬ μ 4 0 = 100 from fun z => c6 ((gEq (b := 100) ht rfl (by omega) (by omega)).mp z)), show (μ 4 0).toNatClampNeg = tn from by rw [ht]; exact nI_clamp (by omega)] <;> rfl]; exact ⟨rfl, h1⟩)
    · have c6 : tn = 100 := (gEq (a := tn) (b := 100) ht rfl (by omega) (by omega)).mp c6
      refine lv_bipush (v := (-4)) hx hb dX12_feed_22 (by decide) ?_
      rw [← hQ]
      exact g_iret hx hb hr hlk hS dX12_feed_24 (by rw [show gqFeed μ sign = ((-4), μ) from by simp only [gqFeed, if_pos c5, if_pos (show μ 4 0 = 100 from (gEq (b := 100) ht rfl (by omega) (by omega)).mpr c6)] <;> rfl]; exact ⟨rfl, h1⟩)
  · have c5 : ¬ (0 ≤ sign ∧ sign ≤ 127) := gB_0.mp c5
    refine lv_bipush (v := (-2)) hx hb dX12_feed_10 (by decide) ?_
    rw [← hQ]
    exact g_iret hx hb hr hlk hS dX12_feed_12 (by rw [show gqFeed μ sign = ((-2), μ) from by simp only [gqFeed, if_neg c5] <;> rfl]; exact ⟨rfl, h1⟩)

set_option maxHeartbeats 4000000 in
set_option maxRecDepth 100000 in
theorem c_X12_count (l : Launch) (G : gW) (b : Nat) (π μ f : gPS) (g : Nat → Int64) (what : Int32) : gCI l yX12_count cX12_count 2 .int (gRm 0 0) G [.ref b, .int what] (fun H => gSg G b (gLM G b π μ f g) H) (fun r H => r = gqCount π μ what) (fun _ => False) := by
  refine g_start (by decide) (Nat.le_of_ble_eq_true rfl) ?_
  intro pp_ ee_ s mm_ aa_ below meth cc_ ls Q hQ hX hE hP hl
  obtain ⟨hx, hb, hr, hml, hown, hT, hlk, hnm⟩ := hX
  have hK := hE.2.1
  have h1 := hP
  have hS : va_S (fun _ => False) s.heap s.heap [] := va_S.rf
  have hl : lv_has ls 2 [(0, .ref b), (1, .int what)] := hl
  refine lv_iload_n hx hb dX12_count_0 rfl (lv_at hl 1 rfl) ?_
  by_cases c1 : what = 0
  · refine lv_tableIn (off := 43) (tgt := 44) hx hb dX12_count_1 (by rw [c1]; decide) (by rw [c1]; decide) (by rw [c1]; decide) (by decide) ?_
    refine lv_aload_n hx hb dX12_count_44 rfl (lv_at hl 0 rfl) ?_
    refine g_get (v := .int (π 15 0)) (T := TX12) (ci := 12) (N := 45) hx hb hown hK (gY_X12 hT) rfl (h1 0 _ rfl) 3 (by decide) (hT _ gf_X12_105) rfl dX12_count_45 ?_
    rw [← hQ]
    exact g_iret hx hb hr hlk hS dX12_count_48 (by simp only [gqCount, if_pos c1])
  · skip
    by_cases c2 : what = 1
    · refine lv_tableIn (off := 48) (tgt := 49) hx hb dX12_count_1 (by rw [c2]; decide) (by rw [c2]; decide) (by rw [c2]; decide) (by decide) ?_
      refine lv_aload_n hx hb dX12_count_49 rfl (lv_at hl 0 rfl) ?_
      refine g_get (v := .int (μ 4 3)) (T := TX12) (ci := 12) (N := 45) hx hb hown hK (gY_X12 hT) rfl (h1 0 _ rfl) 17 (by decide) (hT _ gf_X12_205) rfl dX12_count_50 ?_
      rw [← hQ]
      exact g_iret hx hb hr hlk hS dX12_count_53 (by simp only [gqCount, if_neg c1, if_pos c2])
    · skip
      by_cases c3 : what = 2
      · refine lv_tableIn (off := 53) (tgt := 54) hx hb dX12_count_1 (by rw [c3]; decide) (by rw [c3]; decide) (by rw [c3]; decide) (by decide) ?_
        refine lv_aload_n hx hb dX12_count_54 rfl (lv_at hl 0 rfl) ?_
        refine g_get (v := .int (π 15 3)) (T := TX12) (ci := 12) (N := 45) hx hb hown hK (gY_X12 hT) rfl (h1 0 _ rfl) 27 (by decide) (hT _ gf_X12_272) rfl dX12_count_55 ?_
        rw [← hQ]
        exact g_iret hx hb hr hlk hS dX12_count_58 (by simp only [gqCount, if_neg c1, if_neg c2, if_pos c3])
      · skip
        by_cases c4 : what = 3
        · refine lv_tableIn (off := 58) (tgt := 59) hx hb dX12_count_1 (by rw [c4]; decide) (by rw [c4]; decide) (by rw [c4]; decide) (by decide) ?_
          refine lv_aload_n hx hb dX12_count_59 rfl (lv_at hl 0 rfl) ?_
          refine g_get (v := .int (π 15 4)) (T := TX12) (ci := 12) (N := 45) hx hb hown hK (gY_X12 hT) rfl (h1 0 _ rfl) 31 (by decide) (hT _ gf_X12_290) rfl dX12_count_60 ?_
          rw [← hQ]
          exact g_iret hx hb hr hlk hS dX12_count_63 (by simp only [gqCount, if_neg c1, if_neg c2, if_neg c3, if_pos c4])
        · skip
          by_cases c5 : what = 4
          · refine lv_tableIn (off := 63) (tgt := 64) hx hb dX12_count_1 (by rw [c5]; decide) (by rw [c5]; decide) (by rw [c5]; decide) (by decide) ?_
            refine lv_aload_n hx hb dX12_count_64 rfl (lv_at hl 0 rfl) ?_
            refine g_get (v := .int (π 15 5)) (T := TX12) (ci := 12) (N := 45) hx hb hown hK (gY_X12 hT) rfl (h1 0 _ rfl) 34 (by decide) (hT _ gf_X12_296) rfl dX12_count_65 ?_
            rw [← hQ]
            exact g_iret hx hb hr hlk hS dX12_count_68 (by simp only [gqCount, if_neg c1, if_neg c2, if_neg c3, if_neg c4, if_pos c5])
          · skip
            by_cases c6 : what = 5
            · refine lv_tableIn (off := 68) (tgt := 69) hx hb dX12_count_1 (by rw [c6]; decide) (by rw [c6]; decide) (by rw [c6]; decide) (by decide) ?_
              refine lv_aload_n hx hb dX12_count_69 rfl (lv_at hl 0 rfl) ?_
              refine g_get (v := .int (μ 4 0)) (T := TX12) (ci := 12) (N := 45) hx hb hown hK (gY_X12 hT) rfl (h1 0 _ rfl) 11 (by decide) (hT _ gf_X12_133) rfl dX12_count_70 ?_
              rw [← hQ]
              exact g_iret hx hb hr hlk hS dX12_count_73 (by simp only [gqCount, if_neg c1, if_neg c2, if_neg c3, if_neg c4, if_neg c5, if_pos c6])
            · skip
              by_cases c7 : what = 6
              · refine lv_tableIn (off := 73) (tgt := 74) hx hb dX12_count_1 (by rw [c7]; decide) (by rw [c7]; decide) (by rw [c7]; decide) (by decide) ?_
                refine lv_aload_n hx hb dX12_count_74 rfl (lv_at hl 0 rfl) ?_
                refine g_get (v := .int (μ 4 1)) (T := TX12) (ci := 12) (N := 45) hx hb hown hK (gY_X12 hT) rfl (h1 0 _ rfl) 37 (by decide) (hT _ gf_X12_303) rfl dX12_count_75 ?_
                rw [← hQ]
                exact g_iret hx hb hr hlk hS dX12_count_78 (by simp only [gqCount, if_neg c1, if_neg c2, if_neg c3, if_neg c4, if_neg c5, if_neg c6, if_pos c7])
              · skip
                have tc1 := lv_neT (k := 0) (a := 0) c1 (by decide)
                have tc2 := lv_neT (k := 1) (a := 1) c2 (by decide)
                have tc3 := lv_neT (k := 2) (a := 2) c3 (by decide)
                have tc4 := lv_neT (k := 3) (a := 3) c4 (by decide)
                have tc5 := lv_neT (k := 4) (a := 4) c5 (by decide)
                have tc6 := lv_neT (k := 5) (a := 5) c6 (by decide)
                have tc7 := lv_neT (k := 6) (a := 6) c7 (by decide)
                refine lv_tableOut (tgt := 79) hx hb dX12_count_1 (by omega) (by decide) ?_
                refine lv_bipush (v := (-2)) hx hb dX12_count_79 (by decide) ?_
                rw [← hQ]
                exact g_iret hx hb hr hlk hS dX12_count_81 (by simp only [gqCount, if_neg c1, if_neg c2, if_neg c3, if_neg c4, if_neg c5, if_neg c6, if_neg c7])
