set_option maxHeartbeats 4000000 in
set_option maxRecDepth 100000 in
theorem c_X12_loft_full (l : Launch) (G : gW) (b : Nat) (π μ f : gPS) (g : Nat → Int64) (n : Nat) (hn : μ 4 0 = nI n) (hT9 : gTx (μ 0) n) (E : Nat → Int32) (o c : Nat) (a v d : Int32) (hc : c + n ≤ 800) (ho : o ≤ 4) (hbG : G.2.2.2.size ≤ b) (h : Nat) (hh3 : μ 4 3 = nI h) (h6 : h = 6) : gCI l yX12_loft cX12_loft 5 .int (gRm 24 509) G [.ref b] (fun H => gOld G H ∧ gSg G b (gLM G b π μ (gR (gR f 6 E) 13 (gS5 a v d (nI o) (nI c))) g) H) (fun r H => r = -4 ∧ gSg G b (gLM G b π μ (gR (gR f 6 E) 13 (gS5 a v d (nI o) (nI c))) g) H) (fun q => b ≤ q ∧ q < b + 30) := by
  refine g_start (by decide) (Nat.le_of_ble_eq_true rfl) ?_
  intro pp_ ee_ s mm_ aa_ below meth cc_ ls Q hQ hX hE hP hl
  obtain ⟨hx, hb, hr, hml, hown, hT, hlk, hnm⟩ := hX
  have hK := hE.2.1
  obtain ⟨hO, h1⟩ := hP
  have hS : va_S (fun q => b ≤ q ∧ q < b + 30) s.heap s.heap [] := va_S.rf
  have hl : lv_has ls 5 [(0, .ref b)] := hl
  refine lv_aload_n hx hb dX12_loft_0 rfl (lv_at hl 0 rfl) ?_
  refine g_get (v := .int (μ 4 3)) (T := TX12) (ci := 12) (N := 45) hx hb hown hK (gY_X12 hT) rfl (h1 0 _ rfl) 17 (by decide) (hT _ gf_X12_205) rfl dX12_loft_1 ?_
  refine lv_bipush (v := 6) hx hb dX12_loft_4 (by decide) ?_
  refine lv_icmp_ne (tgt := 12) hx hb dX12_loft_6 (by decide) (fun c1 => ?_) (fun c1 => ?_)
  · have c1 : ¬ h = 6 := fun z => c1 ((gEq (a := h) (b := 6) hh3 rfl (by omega) (by omega)).mpr z)
    exact absurd h6 c1
  · have c1 : h = 6 := (gEq (a := h) (b := 6) hh3 rfl (by omega) (by omega)).mp c1
    refine lv_bipush (v := (-4)) hx hb dX12_loft_9 (by decide) ?_
    rw [← hQ]
    exact g_iret hx hb hr hlk hS dX12_loft_11 ⟨rfl, h1⟩

set_option maxHeartbeats 4000000 in
set_option maxRecDepth 100000 in
theorem c_X12_loft (l : Launch) (G : gW) (b : Nat) (π μ f : gPS) (g : Nat → Int64) (n : Nat) (hn : μ 4 0 = nI n) (hT9 : gTx (μ 0) n) (E : Nat → Int32) (o c : Nat) (a v d : Int32) (hc : c + n ≤ 800) (ho : o ≤ 4) (hbG : G.2.2.2.size ≤ b) (h : Nat) (hh3 : μ 4 3 = nI h) (h6 : h < 6) : gCI l yX12_loft cX12_loft 5 .int (gRm 24 509) G [.ref b] (fun H => gOld G H ∧ gSg G b (gLM G b π μ (gR (gR f 6 E) 13 (gS5 a v d (nI o) (nI c))) g) H) (fun r H => ∃ (f9 : gPS) (v d : Int32) (o9 cc : Nat) (E9 : Nat → Int32), o9 ≤ 4 ∧ gFq h f f9 ∧ (∀ j, j < c → E9 j = E j) ∧ (((gLo (μ 0) n 10 0 []).1 = true ∧ r = μ 4 3 ∧ (gLo (μ 0) n 10 0 []).2.2.length ≤ 10 ∧ f9 1 h = nI (gLo (μ 0) n 10 0 []).2.2.length ∧ gAcc (gLo (μ 0) n 10 0 []).2.2 (10 * h) cc f9 E9 ∧ c ≤ cc ∧ cc ≤ c + n ∧ gSg G b (gLM G b (gU π 15 6 (μ 4 3)) (gU (gU μ 4 0 0) 4 3 (nI (h + 1))) (gR (gR f9 6 E9) 13 (gS5 (nI (gLo (μ 0) n 10 0 []).2.1) v d (nI o9) (nI cc))) g) H) ∨ ((gLo (μ 0) n 10 0 []).1 = false ∧ r = -10 - nI (gLo (μ 0) n 10 0 []).2.1 ∧ gSg G b (gLM G b π (gU μ 4 0 0) (gR (gR f9 6 E9) 13 (gS5 (nI (gLo (μ 0) n 10 0 []).2.1) v d (nI o9) (nI c))) g) H))) (fun q => b ≤ q ∧ q < b + 30) := by
  refine g_start (by decide) (Nat.le_of_ble_eq_true rfl) ?_
  intro pp_ ee_ s mm_ aa_ below meth cc_ ls Q hQ hX hE hP hl
  obtain ⟨hx, hb, hr, hml, hown, hT, hlk, hnm⟩ := hX
  have hK := hE.2.1
  obtain ⟨hO, h1⟩ := hP
  have hS : va_S (fun q => b ≤ q ∧ q < b + 30) s.heap s.heap [] := va_S.rf
  have hl : lv_has ls 5 [(0, .ref b)] := hl
  have hn9 : n ≤ 100 := hT9.1
  refine lv_aload_n hx hb dX12_loft_0 rfl (lv_at hl 0 rfl) ?_
  refine g_get (v := .int (μ 4 3)) (T := TX12) (ci := 12) (N := 45) hx hb hown hK (gY_X12 hT) rfl (h1 0 _ rfl) 17 (by decide) (hT _ gf_X12_205) rfl dX12_loft_1 ?_
  refine lv_bipush (v := 6) hx hb dX12_loft_4 (by decide) ?_
  refine lv_icmp_ne (tgt := 12) hx hb dX12_loft_6 (by decide) (fun c1 => ?_) (fun c1 => ?_)
  · have c1 : ¬ h = 6 := fun z => c1 ((gEq (a := h) (b := 6) hh3 rfl (by omega) (by omega)).mpr z)
    refine lv_aload_n hx hb dX12_loft_12 rfl (lv_at hl 0 rfl) ?_
    refine g_get (v := .int (nI c)) (T := TX12) (ci := 12) (N := 45) hx hb hown hK (gY_X12 hT) rfl (h1 0 _ rfl) 25 (by decide) (hT _ gf_X12_161) rfl dX12_loft_13 ?_
    refine lv_istore_n (lv' := [(1, .int (nI c)), (0, .ref b)]) hx hb dX12_loft_16 rfl hl (by decide) rfl (fun ls hl => ?_)
    refine lv_aload_n hx hb dX12_loft_17 rfl (lv_at hl 1 rfl) ?_
    refine lv_iconst (v := 0) hx hb dX12_loft_18 (by decide) ?_
    refine g_put (T := TX12) (ci := 12) (N := 45) (ty0 := tyX12) hx hb hown hK hS (gY_X12 hT) tyX12_ok nmX12 rfl (h1 0 _ rfl) 13 (by decide) (hT _ gf_X12_136) rfl rfl rfl (Nat.le_of_ble_eq_true rfl) (by omega) dX12_loft_19 (fun H2 locs c3 oq hS => ?_)
    have h1 : gSg G b (gLM G b π μ (gR (gR f 6 E) 13 (gS5 0 v d (nI o) (nI c))) g) H2 := gSg_set h1 0 c3 oq
    refine lv_iconst (v := 0) hx hb dX12_loft_22 (by decide) ?_
    refine lv_istore_n (lv' := [(2, .int 0), (1, .int (nI c)), (0, .ref b)]) hx hb dX12_loft_23 rfl hl (by decide) rfl (fun ls hl => ?_)
    refine lv_iconst (v := 1) hx hb dX12_loft_24 (by decide) ?_
    refine lv_istore_n (lv' := [(3, .int 1), (2, .int 0), (1, .int (nI c)), (0, .ref b)]) hx hb dX12_loft_25 rfl hl (by decide) rfl (fun ls hl => ?_)
    refine lv_iconst (v := 0) hx hb dX12_loft_26 (by decide) ?_
    refine lv_istore (lv' := [(4, .int 0), (3, .int 1), (2, .int 0), (1, .int (nI c)), (0, .ref b)]) hx hb dX12_loft_27 hl (by decide) rfl (fun ls hl => ?_)
    have loop : ∀ (dd many q : Nat) (acc : List (Nat × Nat × List Nat)) (f9 : gPS) (v9 d9 : Int32) (o9 cc : Nat) (E9 : Nat → Int32), many + dd = 10 → 0 < dd → q ≤ n → (gLo (μ 0) n 10 0 []) = gLo (μ 0) n dd q acc → acc.length = many → gAcc acc (10 * h) cc f9 E9 → gFq h f f9 → (∀ j, j < c → E9 j = E j) → c ≤ cc → cc + (n - q) ≤ c + n → o9 ≤ 4 → ∀ (H : Heap) (locs : List Loc), gSg G b (gLM G b π μ (gR (gR f9 6 E9) 13 (gS5 (nI q) v9 d9 (nI o9) (nI cc))) g) H → va_S (fun q => b ≤ q ∧ q < b + 30) s.heap H locs → ∀ ls, lv_has ls 5 [(0, .ref b), (1, .int (nI c)), (2, .int (nI many)), (3, .int 1), (4, .int 0)] → W pp_ l ee_ (gRm 24 509) s mm_ aa_ below meth cc_ H locs 0 0 Q (F0 mm_ 29 ls []) := by
      intro dd
      induction dd with
      | zero => intro many q acc f9 v9 d9 o9 cc E9 hm h0; exact absurd h0 (by omega)
      | succ dd ih =>
        intro many q acc f9 v9 d9 o9 cc E9 hm h0 hq hi hal hac hfq hEE hcc hcn ho9 H locs h1 hS ls hl
        refine lv_iload_n hx hb dX12_loft_29 rfl (lv_at hl 3 rfl) ?_
        refine lv_if_eq (tgt := 123) hx hb dX12_loft_30 (by decide) (fun c4 => ?_) (fun c4 => ?_)
        · exact absurd c4 (by decide)
        · refine lv_iload hx hb dX12_loft_33 (lv_at hl 4 rfl) ?_
          refine lv_if_ne (tgt := 123) hx hb dX12_loft_35 (by decide) (fun c5 => ?_) (fun c5 => ?_)
          · exact absurd (by decide) c5
          · refine lv_iload_n hx hb dX12_loft_38 rfl (lv_at hl 2 rfl) ?_
            refine lv_bipush (v := 10) hx hb dX12_loft_39 (by decide) ?_
            refine lv_icmp_ge (tgt := 64) hx hb dX12_loft_41 (by decide) (fun c6 => ?_) (fun c6 => ?_)
            · have c6 : 10 ≤ many := (gLe (a := 10) (b := many) rfl rfl (by omega) (by omega)).mp c6
              exact absurd c6 (by omega)
            · have c6 : ¬ 10 ≤ many := fun z => c6 ((gLe (a := 10) (b := many) rfl rfl (by omega) (by omega)).mpr z)
              refine lv_aload_n hx hb dX12_loft_44 rfl (lv_at hl 0 rfl) ?_
              refine lv_bipush (v := 10) hx hb dX12_loft_45 (by decide) ?_
              refine lv_aload_n hx hb dX12_loft_47 rfl (lv_at hl 0 rfl) ?_
              refine g_get (v := .int (μ 4 3)) (T := TX12) (ci := 12) (N := 45) hx hb hown hK (gY_X12 hT) rfl (h1 0 _ rfl) 17 (by decide) (hT _ gf_X12_205) rfl dX12_loft_48 ?_
              refine lv_imul hx hb dX12_loft_51 ?_
              rw [show (10 * (μ 4 3) : Int32) = nI (10 * h) from (gMul rfl hh3)]
              refine lv_iload_n hx hb dX12_loft_52 rfl (lv_at hl 2 rfl) ?_
              refine lv_iadd hx hb dX12_loft_53 ?_
              rw [show ((nI (10 * h)) + (nI many) : Int32) = nI ((10 * h) + many) from (gAdd rfl rfl)]
              have fK := gKl_fit (t := μ 0) (n := n) (p := q) hq
              refine g_ki (g_runV (T := TX12) (ci := 12) (N := 45) (rest := []) hx hb hml hown hE hT (c_X12_isClause l G b π μ f9 g n hn hT9 E9 q o9 cc v9 d9 hq (by omega) ho9 hbG (10 * h + many) (by omega)) gM_X12_isClause gm_X12_208 gi_X12_isClause gs_RX12_yX12_isClause_yX12_isClause rfl (h1 0 _ rfl) ⟨(gOld_S hO hS (fun q9 hq9 => Nat.le_trans hbG hq9.1)), h1⟩ rfl hl.1 ⟨rfl, rfl⟩ ⟨Nat.le_of_ble_eq_true rfl, Nat.le_of_ble_eq_true rfl⟩ ⟨Nat.zero_le _, Nat.zero_le _⟩ rfl (Nat.le_of_ble_eq_true rfl) dX12_loft_54) hS (by intro q hq; omega) (fun r10 H7 locs q8 k9 hS => ?_)
              obtain ⟨e9, f8, v8, d8, o8, E8, ho8, hf8, hcd8, h1, hok8⟩ := q8
              rw [e9]
              refine lv_if_eq (tgt := 64) hx hb dX12_loft_57 (by decide) (fun c11 => ?_) (fun c11 => ?_)
              · have c11 : ¬ ((gKl (μ 0) n q).1 = true) := gB_0.mp c11
                have hfq8 := gFq_r hfq hf8 (by omega)
                have hE8 : ∀ j, j < c → E8 j = E j := fun j hj => (hcd8.1 j (by omega)).trans (hEE j hj)
                refine lv_iconst (v := 0) hx hb dX12_loft_64 (by decide) ?_
                refine lv_istore_n (lv' := [(3, .int 0), (0, .ref b), (1, .int (nI c)), (2, .int (nI many)), (4, .int 0)]) hx hb dX12_loft_65 rfl hl (by decide) rfl (fun ls hl => ?_)
                refine lv_iload_n hx hb dX12_loft_66 rfl (lv_at hl 0 rfl) ?_
                refine lv_if_ne (tgt := 73) hx hb dX12_loft_67 (by decide) (fun c12 => ?_) (fun c12 => ?_)
                · exact absurd (by decide) c12
                · refine lv_goto (tgt := 29) hx hb dX12_loft_70 (by decide) ?_
                  refine lv_iload_n hx hb dX12_loft_29 rfl (lv_at hl 0 rfl) ?_
                  refine lv_if_eq (tgt := 123) hx hb dX12_loft_30 (by decide) (fun c13 => ?_) (fun c13 => ?_)
                  · refine lv_aload_n hx hb dX12_loft_123 rfl (lv_at hl 1 rfl) ?_
                    refine lv_iconst (v := 0) hx hb dX12_loft_124 (by decide) ?_
                    refine g_put (T := TX12) (ci := 12) (N := 45) (ty0 := tyX12) hx hb hown hK hS (gY_X12 hT) tyX12_ok nmX12 rfl (h1 0 _ rfl) 11 (by decide) (hT _ gf_X12_133) rfl rfl rfl (Nat.le_of_ble_eq_true rfl) (by omega) dX12_loft_125 (fun H14 locs c15 oq hS => ?_)
                    have h1 : gSg G b (gLM G b π (gU μ 4 0 0) (gR (gR f8 6 E8) 13 (gS5 (nI (gKl (μ 0) n q).2.1) v8 d8 (nI o8) (nI (cc + (gKl (μ 0) n q).2.2.2.length)))) g) H14 := gSg_set h1 0 c15 oq
                    refine lv_iload hx hb dX12_loft_128 (lv_at hl 4 rfl) ?_
                    refine lv_if_ne (tgt := 146) hx hb dX12_loft_130 (by decide) (fun c16 => ?_) (fun c16 => ?_)
                    · exact absurd (by decide) c16
                    · refine lv_aload_n hx hb dX12_loft_133 rfl (lv_at hl 1 rfl) ?_
                      refine lv_iload_n hx hb dX12_loft_134 rfl (lv_at hl 2 rfl) ?_
                      refine g_put (T := TX12) (ci := 12) (N := 45) (ty0 := tyX12) hx hb hown hK hS (gY_X12 hT) tyX12_ok nmX12 rfl (h1 0 _ rfl) 25 (by decide) (hT _ gf_X12_161) rfl rfl rfl (Nat.le_of_ble_eq_true rfl) (by omega) dX12_loft_135 (fun H17 locs c18 oq hS => ?_)
                      have h1 : gSg G b (gLM G b π (gU μ 4 0 0) (gR (gR f8 6 E8) 13 (gS5 (nI (gKl (μ 0) n q).2.1) v8 d8 (nI o8) (nI c))) g) H17 := gSg_set h1 0 c18 oq
                      refine lv_bipush (v := (-10)) hx hb dX12_loft_138 (by decide) ?_
                      refine lv_aload_n hx hb dX12_loft_140 rfl (lv_at hl 1 rfl) ?_
                      refine g_get (v := .int (nI (gKl (μ 0) n q).2.1)) (T := TX12) (ci := 12) (N := 45) hx hb hown hK (gY_X12 hT) rfl (h1 0 _ rfl) 13 (by decide) (hT _ gf_X12_136) rfl dX12_loft_141 ?_
                      refine lv_isub hx hb dX12_loft_144 ?_
                      have hR : (gLo (μ 0) n 10 0 []) = (false, (gKl (μ 0) n q).2.1, acc) := by rw [hi, gLo, if_neg c11]
                      rw [← hQ]
                      exact g_iret hx hb hr hlk hS dX12_loft_145 ⟨f8, _, _, _, 0, E8, ho8, hfq8, hE8, Or.inr ⟨by rw [hR], by rw [hR], by rw [hR]; exact h1⟩⟩
                  · exact absurd (by decide) c13
              · have c11 : (gKl (μ 0) n q).1 = true := gB_1.mp c11
                obtain ⟨hkd, hnm, hrn⟩ := gKl_ok c11
                have hac8 : gAcc (acc ++ [(gClk (μ 0) n q, (gKl (μ 0) n q).2.2.1, (gKl (μ 0) n q).2.2.2)]) (10 * h) (cc + (gKl (μ 0) n q).2.2.2.length) f8 E8 := gAcc_s (E := E9) hac (by rw [hal]; exact hf8) hcd8 hkd hnm hrn (by rw [hal]; exact hok8 c11)
                have hal8 : (acc ++ [(gClk (μ 0) n q, (gKl (μ 0) n q).2.2.1, (gKl (μ 0) n q).2.2.2)]).length = many + 1 := by rw [List.length_append, hal]; rfl
                have hfq8 := gFq_r hfq hf8 (by omega)
                have hE8 : ∀ j, j < c → E8 j = E j := fun j hj => (hcd8.1 j (by omega)).trans (hEE j hj)
                refine lv_iconst (v := 1) hx hb dX12_loft_60 (by decide) ?_
                refine lv_goto (tgt := 65) hx hb dX12_loft_61 (by decide) ?_
                refine lv_istore_n (lv' := [(3, .int 1), (0, .ref b), (1, .int (nI c)), (2, .int (nI many)), (4, .int 0)]) hx hb dX12_loft_65 rfl hl (by decide) rfl (fun ls hl => ?_)
                refine lv_iload_n hx hb dX12_loft_66 rfl (lv_at hl 0 rfl) ?_
                refine lv_if_ne (tgt := 73) hx hb dX12_loft_67 (by decide) (fun c19 => ?_) (fun c19 => ?_)
                · refine lv_iinc (v := nI (many + 1)) (lv' := [(2, .int (nI (many + 1))), (3, .int 1), (0, .ref b), (1, .int (nI c)), (4, .int 0)]) hx hb dX12_loft_73 hl (k := 3) rfl (gAdd rfl (show Int32.ofInt 1 = nI 1 from rfl)) (by decide) rfl (fun ls hl => ?_)
                  refine lv_aload_n hx hb dX12_loft_76 rfl (lv_at hl 2 rfl) ?_
                  refine g_get (v := .int (nI (gKl (μ 0) n q).2.1)) (T := TX12) (ci := 12) (N := 45) hx hb hown hK (gY_X12 hT) rfl (h1 0 _ rfl) 13 (by decide) (hT _ gf_X12_136) rfl dX12_loft_77 ?_
                  refine lv_aload_n hx hb dX12_loft_80 rfl (lv_at hl 2 rfl) ?_
                  refine g_get (v := .int (μ 4 0)) (T := TX12) (ci := 12) (N := 45) hx hb hown hK (gY_X12 hT) rfl (h1 0 _ rfl) 11 (by decide) (hT _ gf_X12_133) rfl dX12_loft_81 ?_
                  refine lv_icmp_ne (tgt := 91) hx hb dX12_loft_84 (by decide) (fun c20 => ?_) (fun c20 => ?_)
                  · rw [hn, nI_eq (a := (gKl (μ 0) n q).2.1) (b := n) (by omega) (by omega)] at c20
                    refine lv_iconst (v := 0) hx hb dX12_loft_91 (by decide) ?_
                    refine lv_istore (lv' := [(4, .int 0), (2, .int (nI (many + 1))), (3, .int 1), (0, .ref b), (1, .int (nI c))]) hx hb dX12_loft_92 hl (by decide) rfl (fun ls hl => ?_)
                    refine lv_iload hx hb dX12_loft_94 (lv_at hl 0 rfl) ?_
                    refine lv_if_ne (tgt := 114) hx hb dX12_loft_96 (by decide) (fun c21 => ?_) (fun c21 => ?_)
                    · exact absurd (by decide) c21
                    · refine lv_iload_n hx hb dX12_loft_99 rfl (lv_at hl 1 rfl) ?_
                      refine lv_bipush (v := 10) hx hb dX12_loft_100 (by decide) ?_
                      refine lv_icmp_ge (tgt := 118) hx hb dX12_loft_102 (by decide) (fun c22 => ?_) (fun c22 => ?_)
                      · have c22 : 10 ≤ (many + 1) := (gLe (a := 10) (b := many + 1) rfl rfl (by omega) (by omega)).mp c22
                        refine lv_iconst (v := 0) hx hb dX12_loft_118 (by decide) ?_
                        refine lv_istore_n (lv' := [(3, .int 0), (4, .int 0), (2, .int (nI (many + 1))), (0, .ref b), (1, .int (nI c))]) hx hb dX12_loft_119 rfl hl (by decide) rfl (fun ls hl => ?_)
                        refine lv_goto (tgt := 29) hx hb dX12_loft_120 (by decide) ?_
                        refine lv_iload_n hx hb dX12_loft_29 rfl (lv_at hl 0 rfl) ?_
                        refine lv_if_eq (tgt := 123) hx hb dX12_loft_30 (by decide) (fun c23 => ?_) (fun c23 => ?_)
                        · refine lv_aload_n hx hb dX12_loft_123 rfl (lv_at hl 3 rfl) ?_
                          refine lv_iconst (v := 0) hx hb dX12_loft_124 (by decide) ?_
                          refine g_put (T := TX12) (ci := 12) (N := 45) (ty0 := tyX12) hx hb hown hK hS (gY_X12 hT) tyX12_ok nmX12 rfl (h1 0 _ rfl) 11 (by decide) (hT _ gf_X12_133) rfl rfl rfl (Nat.le_of_ble_eq_true rfl) (by omega) dX12_loft_125 (fun H24 locs c25 oq hS => ?_)
                          have h1 : gSg G b (gLM G b π (gU μ 4 0 0) (gR (gR f8 6 E8) 13 (gS5 (nI (gKl (μ 0) n q).2.1) v8 d8 (nI o8) (nI (cc + (gKl (μ 0) n q).2.2.2.length)))) g) H24 := gSg_set h1 0 c25 oq
                          refine lv_iload hx hb dX12_loft_128 (lv_at hl 1 rfl) ?_
                          refine lv_if_ne (tgt := 146) hx hb dX12_loft_130 (by decide) (fun c26 => ?_) (fun c26 => ?_)
                          · exact absurd (by decide) c26
                          · refine lv_aload_n hx hb dX12_loft_133 rfl (lv_at hl 3 rfl) ?_
                            refine lv_iload_n hx hb dX12_loft_134 rfl (lv_at hl 4 rfl) ?_
                            refine g_put (T := TX12) (ci := 12) (N := 45) (ty0 := tyX12) hx hb hown hK hS (gY_X12 hT) tyX12_ok nmX12 rfl (h1 0 _ rfl) 25 (by decide) (hT _ gf_X12_161) rfl rfl rfl (Nat.le_of_ble_eq_true rfl) (by omega) dX12_loft_135 (fun H27 locs c28 oq hS => ?_)
                            have h1 : gSg G b (gLM G b π (gU μ 4 0 0) (gR (gR f8 6 E8) 13 (gS5 (nI (gKl (μ 0) n q).2.1) v8 d8 (nI o8) (nI c))) g) H27 := gSg_set h1 0 c28 oq
                            refine lv_bipush (v := (-10)) hx hb dX12_loft_138 (by decide) ?_
                            refine lv_aload_n hx hb dX12_loft_140 rfl (lv_at hl 3 rfl) ?_
                            refine g_get (v := .int (nI (gKl (μ 0) n q).2.1)) (T := TX12) (ci := 12) (N := 45) hx hb hown hK (gY_X12 hT) rfl (h1 0 _ rfl) 13 (by decide) (hT _ gf_X12_136) rfl dX12_loft_141 ?_
                            refine lv_isub hx hb dX12_loft_144 ?_
                            have hR : (gLo (μ 0) n 10 0 []) = (false, (gKl (μ 0) n q).2.1, (acc ++ [(gClk (μ 0) n q, (gKl (μ 0) n q).2.2.1, (gKl (μ 0) n q).2.2.2)])) := by rw [hi, gLo, if_pos c11, if_neg c20, if_neg (fun z9 => absurd z9.1 (by omega))]
                            rw [← hQ]
                            exact g_iret hx hb hr hlk hS dX12_loft_145 ⟨f8, _, _, _, 0, E8, ho8, hfq8, hE8, Or.inr ⟨by rw [hR], by rw [hR], by rw [hR]; exact h1⟩⟩
                        · exact absurd (by decide) c23
                      · have c22 : ¬ 10 ≤ (many + 1) := fun z => c22 ((gLe (a := 10) (b := many + 1) rfl rfl (by omega) (by omega)).mpr z)
                        refine lv_aload_n hx hb dX12_loft_105 rfl (lv_at hl 3 rfl) ?_
                        refine lv_bipush (v := 59) hx hb dX12_loft_106 (by decide) ?_
                        refine g_ki (g_runV (T := TX12) (ci := 12) (N := 45) (rest := []) hx hb hml hown hE hT (c_X12_is l G b π μ f8 g n hn hT9 E8 (gKl (μ 0) n q).2.1 o8 (cc + (gKl (μ 0) n q).2.2.2.length) v8 d8 (by omega) (by omega) ho8 59) gM_X12_is gm_X12_158 gi_X12_is gs_RX12_yX12_is_yX12_is rfl (h1 0 _ rfl) h1 rfl hl.1 ⟨rfl, rfl⟩ ⟨Nat.le_of_ble_eq_true rfl, Nat.le_of_ble_eq_true rfl⟩ ⟨Nat.zero_le _, Nat.zero_le _⟩ rfl (Nat.le_of_ble_eq_true rfl) dX12_loft_108) hS (by intro q hq; omega) (fun r32 H29 locs q30 k31 hS => ?_)
                        obtain ⟨e9, h1⟩ := q30
                        rw [e9]
                        refine lv_if_eq (tgt := 118) hx hb dX12_loft_111 (by decide) (fun c33 => ?_) (fun c33 => ?_)
                        · have c33 : ¬ ((gKl (μ 0) n q).2.1 < n ∧ μ 0 (gKl (μ 0) n q).2.1 = 59) := gB_0.mp c33
                          rw [if_neg c33] at h1
                          refine lv_iconst (v := 0) hx hb dX12_loft_118 (by decide) ?_
                          refine lv_istore_n (lv' := [(3, .int 0), (4, .int 0), (2, .int (nI (many + 1))), (0, .ref b), (1, .int (nI c))]) hx hb dX12_loft_119 rfl hl (by decide) rfl (fun ls hl => ?_)
                          refine lv_goto (tgt := 29) hx hb dX12_loft_120 (by decide) ?_
                          refine lv_iload_n hx hb dX12_loft_29 rfl (lv_at hl 0 rfl) ?_
                          refine lv_if_eq (tgt := 123) hx hb dX12_loft_30 (by decide) (fun c34 => ?_) (fun c34 => ?_)
                          · refine lv_aload_n hx hb dX12_loft_123 rfl (lv_at hl 3 rfl) ?_
                            refine lv_iconst (v := 0) hx hb dX12_loft_124 (by decide) ?_
                            refine g_put (T := TX12) (ci := 12) (N := 45) (ty0 := tyX12) hx hb hown hK hS (gY_X12 hT) tyX12_ok nmX12 rfl (h1 0 _ rfl) 11 (by decide) (hT _ gf_X12_133) rfl rfl rfl (Nat.le_of_ble_eq_true rfl) (by omega) dX12_loft_125 (fun H35 locs c36 oq hS => ?_)
                            have h1 : gSg G b (gLM G b π (gU μ 4 0 0) (gR (gR f8 6 E8) 13 (gS5 (nI ((gKl (μ 0) n q).2.1)) v8 d8 (nI o8) (nI (cc + (gKl (μ 0) n q).2.2.2.length)))) g) H35 := gSg_set h1 0 c36 oq
                            refine lv_iload hx hb dX12_loft_128 (lv_at hl 1 rfl) ?_
                            refine lv_if_ne (tgt := 146) hx hb dX12_loft_130 (by decide) (fun c37 => ?_) (fun c37 => ?_)
                            · exact absurd (by decide) c37
                            · refine lv_aload_n hx hb dX12_loft_133 rfl (lv_at hl 3 rfl) ?_
                              refine lv_iload_n hx hb dX12_loft_134 rfl (lv_at hl 4 rfl) ?_
                              refine g_put (T := TX12) (ci := 12) (N := 45) (ty0 := tyX12) hx hb hown hK hS (gY_X12 hT) tyX12_ok nmX12 rfl (h1 0 _ rfl) 25 (by decide) (hT _ gf_X12_161) rfl rfl rfl (Nat.le_of_ble_eq_true rfl) (by omega) dX12_loft_135 (fun H38 locs c39 oq hS => ?_)
                              have h1 : gSg G b (gLM G b π (gU μ 4 0 0) (gR (gR f8 6 E8) 13 (gS5 (nI ((gKl (μ 0) n q).2.1)) v8 d8 (nI o8) (nI c))) g) H38 := gSg_set h1 0 c39 oq
                              refine lv_bipush (v := (-10)) hx hb dX12_loft_138 (by decide) ?_
                              refine lv_aload_n hx hb dX12_loft_140 rfl (lv_at hl 3 rfl) ?_
                              refine g_get (v := .int (nI ((gKl (μ 0) n q).2.1))) (T := TX12) (ci := 12) (N := 45) hx hb hown hK (gY_X12 hT) rfl (h1 0 _ rfl) 13 (by decide) (hT _ gf_X12_136) rfl dX12_loft_141 ?_
                              refine lv_isub hx hb dX12_loft_144 ?_
                              have hR : (gLo (μ 0) n 10 0 []) = (false, (gKl (μ 0) n q).2.1, (acc ++ [(gClk (μ 0) n q, (gKl (μ 0) n q).2.2.1, (gKl (μ 0) n q).2.2.2)])) := by rw [hi, gLo, if_pos c11, if_neg c20, if_neg (fun z9 => c33 z9.2)]
                              rw [← hQ]
                              exact g_iret hx hb hr hlk hS dX12_loft_145 ⟨f8, _, _, _, 0, E8, ho8, hfq8, hE8, Or.inr ⟨by rw [hR], by rw [hR], by rw [hR]; exact h1⟩⟩
                          · exact absurd (by decide) c34
                        · have c33 : (gKl (μ 0) n q).2.1 < n ∧ μ 0 (gKl (μ 0) n q).2.1 = 59 := gB_1.mp c33
                          rw [if_pos c33] at h1
                          have ltc33 := c33.1
                          refine lv_iconst (v := 1) hx hb dX12_loft_114 (by decide) ?_
                          refine lv_goto (tgt := 119) hx hb dX12_loft_115 (by decide) ?_
                          refine lv_istore_n (lv' := [(3, .int 1), (4, .int 0), (2, .int (nI (many + 1))), (0, .ref b), (1, .int (nI c))]) hx hb dX12_loft_119 rfl hl (by decide) rfl (fun ls hl => ?_)
                          refine lv_goto (tgt := 29) hx hb dX12_loft_120 (by decide) ?_
                          exact ih (many + 1) ((gKl (μ 0) n q).2.1 + 1) (acc ++ [(gClk (μ 0) n q, (gKl (μ 0) n q).2.2.1, (gKl (μ 0) n q).2.2.2)]) f8 v8 d8 o8 (cc + (gKl (μ 0) n q).2.2.2.length) E8 (by omega) (by omega) (by omega) (by rw [hi, gLo, if_pos c11, if_neg c20, if_pos ⟨by omega, c33⟩]) hal8 hac8 hfq8 hE8 (by omega) (by omega) ho8 _ _ h1 hS _ (lv_sub hl [3, 4, 2, 0, 1] rfl)
                  · rw [hn, nI_eq (a := (gKl (μ 0) n q).2.1) (b := n) (by omega) (by omega)] at c20
                    refine lv_iconst (v := 1) hx hb dX12_loft_87 (by decide) ?_
                    refine lv_goto (tgt := 92) hx hb dX12_loft_88 (by decide) ?_
                    refine lv_istore (lv' := [(4, .int 1), (2, .int (nI (many + 1))), (3, .int 1), (0, .ref b), (1, .int (nI c))]) hx hb dX12_loft_92 hl (by decide) rfl (fun ls hl => ?_)
                    refine lv_iload hx hb dX12_loft_94 (lv_at hl 0 rfl) ?_
                    refine lv_if_ne (tgt := 114) hx hb dX12_loft_96 (by decide) (fun c40 => ?_) (fun c40 => ?_)
                    · refine lv_iconst (v := 1) hx hb dX12_loft_114 (by decide) ?_
                      refine lv_goto (tgt := 119) hx hb dX12_loft_115 (by decide) ?_
                      refine lv_istore_n (lv' := [(3, .int 1), (4, .int 1), (2, .int (nI (many + 1))), (0, .ref b), (1, .int (nI c))]) hx hb dX12_loft_119 rfl hl (by decide) rfl (fun ls hl => ?_)
                      refine lv_goto (tgt := 29) hx hb dX12_loft_120 (by decide) ?_
                      refine lv_iload_n hx hb dX12_loft_29 rfl (lv_at hl 0 rfl) ?_
                      refine lv_if_eq (tgt := 123) hx hb dX12_loft_30 (by decide) (fun c41 => ?_) (fun c41 => ?_)
                      · exact absurd c41 (by decide)
                      · refine lv_iload hx hb dX12_loft_33 (lv_at hl 1 rfl) ?_
                        refine lv_if_ne (tgt := 123) hx hb dX12_loft_35 (by decide) (fun c42 => ?_) (fun c42 => ?_)
                        · refine lv_aload_n hx hb dX12_loft_123 rfl (lv_at hl 3 rfl) ?_
                          refine lv_iconst (v := 0) hx hb dX12_loft_124 (by decide) ?_
                          refine g_put (T := TX12) (ci := 12) (N := 45) (ty0 := tyX12) hx hb hown hK hS (gY_X12 hT) tyX12_ok nmX12 rfl (h1 0 _ rfl) 11 (by decide) (hT _ gf_X12_133) rfl rfl rfl (Nat.le_of_ble_eq_true rfl) (by omega) dX12_loft_125 (fun H43 locs c44 oq hS => ?_)
                          have h1 : gSg G b (gLM G b π (gU μ 4 0 0) (gR (gR f8 6 E8) 13 (gS5 (nI (gKl (μ 0) n q).2.1) v8 d8 (nI o8) (nI (cc + (gKl (μ 0) n q).2.2.2.length)))) g) H43 := gSg_set h1 0 c44 oq
                          refine lv_iload hx hb dX12_loft_128 (lv_at hl 1 rfl) ?_
                          refine lv_if_ne (tgt := 146) hx hb dX12_loft_130 (by decide) (fun c45 => ?_) (fun c45 => ?_)
                          · refine lv_aload_n hx hb dX12_loft_146 rfl (lv_at hl 3 rfl) ?_
                            refine g_get (v := .ref (b + 10)) (T := TX12) (ci := 12) (N := 45) hx hb hown hK (gY_X12 hT) rfl (h1 0 _ rfl) 19 (by decide) (hT _ gf_X12_39) rfl dX12_loft_147 ?_
                            refine lv_aload_n hx hb dX12_loft_150 rfl (lv_at hl 3 rfl) ?_
                            refine g_get (v := .int (μ 4 3)) (T := TX12) (ci := 12) (N := 45) hx hb hown hK (gY_X12 hT) rfl (h1 0 _ rfl) 17 (by decide) (hT _ gf_X12_205) rfl dX12_loft_151 ?_
                            refine lv_iload_n hx hb dX12_loft_154 rfl (lv_at hl 2 rfl) ?_
                            refine g_is (j := h) hx hb hK hS (h1 10 _ rfl) hh3 (by omega) (Nat.le_of_ble_eq_true rfl) (by omega) dX12_loft_155 (fun H46 locs c47 oq hS => ?_)
                            have h1 : gSg G b (gLM G b π (gU μ 4 0 0) (gR (gR (gU f8 1 h (nI (many + 1))) 6 E8) 13 (gS5 (nI (gKl (μ 0) n q).2.1) v8 d8 (nI o8) (nI (cc + (gKl (μ 0) n q).2.2.2.length)))) g) H46 := gSg_set h1 10 c47 oq
                            refine lv_aload_n hx hb dX12_loft_156 rfl (lv_at hl 3 rfl) ?_
                            refine lv_aload_n hx hb dX12_loft_157 rfl (lv_at hl 3 rfl) ?_
                            refine g_get (v := .int (μ 4 3)) (T := TX12) (ci := 12) (N := 45) hx hb hown hK (gY_X12 hT) rfl (h1 0 _ rfl) 17 (by decide) (hT _ gf_X12_205) rfl dX12_loft_158 ?_
                            refine g_put (T := TX12) (ci := 12) (N := 45) (ty0 := tyX12) hx hb hown hK hS (gY_X12 hT) tyX12_ok nmX12 rfl (h1 0 _ rfl) 18 (by decide) (hT _ gf_X12_101) rfl rfl rfl (Nat.le_of_ble_eq_true rfl) (by omega) dX12_loft_161 (fun H48 locs c49 oq hS => ?_)
                            have h1 : gSg G b (gLM G b (gU π 15 6 (μ 4 3)) (gU μ 4 0 0) (gR (gR (gU f8 1 h (nI (many + 1))) 6 E8) 13 (gS5 (nI (gKl (μ 0) n q).2.1) v8 d8 (nI o8) (nI (cc + (gKl (μ 0) n q).2.2.2.length)))) g) H48 := gSg_set h1 0 c49 oq
                            refine lv_aload_n hx hb dX12_loft_164 rfl (lv_at hl 3 rfl) ?_
                            refine lv_dup hx hb dX12_loft_165 rfl ?_
                            refine g_get (v := .int (μ 4 3)) (T := TX12) (ci := 12) (N := 45) hx hb hown hK (gY_X12 hT) rfl (h1 0 _ rfl) 17 (by decide) (hT _ gf_X12_205) rfl dX12_loft_166 ?_
                            refine lv_dup_x1 hx hb dX12_loft_169 rfl rfl ?_
                            refine lv_iconst (v := 1) hx hb dX12_loft_170 (by decide) ?_
                            refine lv_iadd hx hb dX12_loft_171 ?_
                            rw [show ((μ 4 3) + 1 : Int32) = nI (h + 1) from (gAdd hh3 rfl)]
                            refine g_put (T := TX12) (ci := 12) (N := 45) (ty0 := tyX12) hx hb hown hK hS (gY_X12 hT) tyX12_ok nmX12 rfl (h1 0 _ rfl) 17 (by decide) (hT _ gf_X12_205) rfl rfl rfl (Nat.le_of_ble_eq_true rfl) (by omega) dX12_loft_172 (fun H50 locs c51 oq hS => ?_)
                            have h1 : gSg G b (gLM G b (gU π 15 6 (μ 4 3)) (gU (gU μ 4 0 0) 4 3 (nI (h + 1))) (gR (gR (gU f8 1 h (nI (many + 1))) 6 E8) 13 (gS5 (nI (gKl (μ 0) n q).2.1) v8 d8 (nI o8) (nI (cc + (gKl (μ 0) n q).2.2.2.length)))) g) H50 := gSg_set h1 0 c51 oq
                            have hR : (gLo (μ 0) n 10 0 []) = (true, (gKl (μ 0) n q).2.1, (acc ++ [(gClk (μ 0) n q, (gKl (μ 0) n q).2.2.1, (gKl (μ 0) n q).2.2.2)])) := by rw [hi, gLo, if_pos c11, if_pos c20]
                            rw [← hQ]
                            exact g_iret hx hb hr hlk hS dX12_loft_175 ⟨gU f8 1 h (nI (many + 1)), _, _, _, (cc + (gKl (μ 0) n q).2.2.2.length), E8, ho8, gFq_1 hfq8, hE8, Or.inl ⟨by rw [hR], rfl, by rw [hR]; show (acc ++ [(gClk (μ 0) n q, (gKl (μ 0) n q).2.2.1, (gKl (μ 0) n q).2.2.2)]).length ≤ 10; omega, by rw [hR, gU_e]; exact congrArg nI hal8.symm, by rw [hR]; exact gAcc_1 hac8, by omega, by omega, by rw [hR]; exact h1⟩⟩
                          · exact absurd c45 (by decide)
                        · exact absurd c42 (by decide)
                    · exact absurd c40 (by decide)
                · exact absurd c19 (by decide)
    exact loop 10 0 0 [] f v d o c E (by omega) (by omega) (by omega) rfl rfl gAcc_0 gFq_0 (fun _ _ => rfl) (by omega) (by omega) ho _ _ h1 hS _ (lv_sub hl [4, 3, 2, 1, 0] rfl)
  · have c1 : h = 6 := (gEq (a := h) (b := 6) hh3 rfl (by omega) (by omega)).mp c1
    exact absurd c1 (by omega)
