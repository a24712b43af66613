set_option maxHeartbeats 4000000 in
set_option maxRecDepth 100000 in
theorem c_X5_faultOf (l : Launch) (G : gW) (t : Nat) (f : gPS) (h30 : f 3 0 = 0) (a : Nat) (μ : gPS) (n : Nat) (hTn : gTx (μ 0) n) (hd : a + 1 ≤ t ∨ t + 6 ≤ a) (htG : G.2.2.2.size ≤ t) : gCI l yX5_faultOf cX5_faultOf 4 .int (gRm 18 393) G [.ref t, .ref a, .int (nI n)] (fun H => gOld G H ∧ gSg G a (gLB G μ) H ∧ gSg G t (gLL G t f) H) (fun r H => r = (if (gLo (μ 0) n 10 0 []).1 = true then -1 else nI (gLo (μ 0) n 10 0 []).2.1) ∧ ∃ f9 : gPS, gSg G t (gLL G t f9) H ∧ f9 3 0 = 0 ∧ ((gLo (μ 0) n 10 0 []).1 = true → gClo f9 (gLo (μ 0) n 10 0 []).2.2)) (fun q => t ≤ q ∧ q < t + 6) := by
  refine g_start (by decide) (Nat.le_of_ble_eq_true rfl) ?_
  intro pp_ ee_ s mm_ aa_ below meth cc_ ls Q hQ hX hE hP hl
  obtain ⟨hx, hb, hr, hml, hown, hT, hlk, hnm⟩ := hX
  have hK := hE.2.1
  obtain ⟨hO, hB, h1⟩ := hP
  have hS : va_S (fun q => t ≤ q ∧ q < t + 6) s.heap s.heap [] := va_S.rf
  have hl : lv_has ls 4 [(0, .ref t), (1, .ref a), (2, .int (nI n))] := hl
  have hn9 : n ≤ 100 := hTn.1
  have hJ := hE.2.2.2.2.2.2.now hO
  have h1 : gSg G t (gLL G t (gR (gR f 1 (f 1)) 5 (gS6 (f 5 0) (f 5 1) (f 5 2) (f 5 3) (f 5 4)))) s.heap := h1
  refine lv_aload_n hx hb dX5_faultOf_0 rfl (lv_at hl 0 rfl) ?_
  refine lv_iload_n hx hb dX5_faultOf_1 rfl (lv_at hl 2 rfl) ?_
  refine lv_bipush (v := 100) hx hb dX5_faultOf_2 (by decide) ?_
  refine va_mmin hx hb (hml.trans hl.1.symm) hown (hT _ gm_X5_40) (hT _ gt_Lib_Math_min_name) (hT _ gn_java_lang_Math) (hT _ gc_Lib_Math_min_name) (Nat.le_of_ble_eq_true rfl) (Nat.le_of_ble_eq_true rfl) (Nat.zero_le _) (Nat.zero_le _) dX5_faultOf_4 ?_
  rw [if_neg (show ¬ (100 : Int32) < nI n from fun z9 => absurd ((gLt (x := 100) (a := 100) rfl rfl (by omega) (by omega)).mp z9) (by omega))]
  refine g_put (T := TX5) (ci := 5) (N := 10) (ty0 := tyX5) hx hb hown hK hS (gY_X5 hT) tyX5_ok nmX5 rfl (h1 0 _ rfl) 1 (by decide) (hT _ gf_X5_46) rfl rfl rfl (Nat.le_of_ble_eq_true rfl) (by omega) dX5_faultOf_7 (fun H1 locs c2 oq hS => ?_)
  have h1 : gSg G t (gLL G t (gR (gR f 1 (f 1)) 5 (gS6 (nI n) (f 5 1) (f 5 2) (f 5 3) (f 5 4)))) H1 := gSg_set h1 0 c2 oq
  have hB := gSg_off hB oq (by simp only [List.length_cons, List.length_nil]; omega)
  refine lv_aload_n hx hb dX5_faultOf_10 rfl (lv_at hl 1 rfl) ?_
  refine lv_iconst (v := 0) hx hb dX5_faultOf_11 (by decide) ?_
  refine lv_aload_n hx hb dX5_faultOf_12 rfl (lv_at hl 0 rfl) ?_
  refine g_get (v := .ref (t + 1)) (T := TX5) (ci := 5) (N := 10) hx hb hown hK (gY_X5 hT) rfl (h1 0 _ rfl) 0 (by decide) (hT _ gf_X5_9) rfl dX5_faultOf_13 ?_
  refine lv_iconst (v := 0) hx hb dX5_faultOf_16 (by decide) ?_
  refine lv_aload_n hx hb dX5_faultOf_17 rfl (lv_at hl 0 rfl) ?_
  refine g_get (v := .int (nI n)) (T := TX5) (ci := 5) (N := 10) hx hb hown hK (gY_X5 hT) rfl (h1 0 _ rfl) 1 (by decide) (hT _ gf_X5_46) rfl dX5_faultOf_18 ?_
  refine g_cpi (i := 0) (j := 0) (k := n) 1 hx hb hml hl.1 hown hT hK hS gm_X5_49 rfl rfl (hB 0 _ rfl) (h1 1 _ rfl) rfl rfl rfl (by omega) (by omega) (Nat.le_of_ble_eq_true rfl) (Nat.le_of_ble_eq_true rfl) (gFtb hTn) (by omega) (Nat.le_of_ble_eq_true rfl) (Nat.le_of_ble_eq_true rfl) dX5_faultOf_21 (fun H3 locs c4 oq hS => ?_)
  have h1 : gSg G t (gLL G t (gR (gR (gR f 0 (va_cpy (μ 0) (f 0) 0 0 n)) 1 (f 1)) 5 (gS6 (nI n) (f 5 1) (f 5 2) (f 5 3) (f 5 4)))) H3 := gSg_set h1 1 c4 oq
  have hB := gSg_off hB oq (by simp only [List.length_cons, List.length_nil]; omega)
  refine lv_aload_n hx hb dX5_faultOf_24 rfl (lv_at hl 0 rfl) ?_
  refine lv_iconst (v := 0) hx hb dX5_faultOf_25 (by decide) ?_
  refine g_put (T := TX5) (ci := 5) (N := 10) (ty0 := tyX5) hx hb hown hK hS (gY_X5 hT) tyX5_ok nmX5 rfl (h1 0 _ rfl) 2 (by decide) (hT _ gf_X5_55) rfl rfl rfl (Nat.le_of_ble_eq_true rfl) (by omega) dX5_faultOf_26 (fun H5 locs c6 oq hS => ?_)
  have h1 : gSg G t (gLL G t (gR (gR (gR f 0 (va_cpy (μ 0) (f 0) 0 0 n)) 1 (f 1)) 5 (gS6 (nI n) 0 (f 5 2) (f 5 3) (f 5 4)))) H5 := gSg_set h1 0 c6 oq
  have hB := gSg_off hB oq (by simp only [List.length_cons, List.length_nil]; omega)
  refine lv_aload_n hx hb dX5_faultOf_29 rfl (lv_at hl 0 rfl) ?_
  refine lv_iconst (v := 0) hx hb dX5_faultOf_30 (by decide) ?_
  refine g_put (T := TX5) (ci := 5) (N := 10) (ty0 := tyX5) hx hb hown hK hS (gY_X5 hT) tyX5_ok nmX5 rfl (h1 0 _ rfl) 4 (by decide) (hT _ gf_X5_58) rfl rfl rfl (Nat.le_of_ble_eq_true rfl) (by omega) dX5_faultOf_31 (fun H7 locs c8 oq hS => ?_)
  have h1 : gSg G t (gLL G t (gR (gR (gR f 0 (va_cpy (μ 0) (f 0) 0 0 n)) 1 (f 1)) 5 (gS6 (nI n) 0 0 (f 5 3) (f 5 4)))) H7 := gSg_set h1 0 c8 oq
  have hB := gSg_off hB oq (by simp only [List.length_cons, List.length_nil]; omega)
  refine lv_aload_n hx hb dX5_faultOf_34 rfl (lv_at hl 0 rfl) ?_
  refine lv_iconst (v := 0) hx hb dX5_faultOf_35 (by decide) ?_
  refine g_put (T := TX5) (ci := 5) (N := 10) (ty0 := tyX5) hx hb hown hK hS (gY_X5 hT) tyX5_ok nmX5 rfl (h1 0 _ rfl) 7 (by decide) (hT _ gf_X5_61) rfl rfl rfl (Nat.le_of_ble_eq_true rfl) (by omega) dX5_faultOf_36 (fun H9 locs c10 oq hS => ?_)
  have h1 : gSg G t (gLL G t (gR (gR (gR f 0 (va_cpy (μ 0) (f 0) 0 0 n)) 1 (f 1)) 5 (gS6 (nI n) 0 0 0 (f 5 4)))) H9 := gSg_set h1 0 c10 oq
  have hB := gSg_off hB oq (by simp only [List.length_cons, List.length_nil]; omega)
  refine lv_aload_n hx hb dX5_faultOf_39 rfl (lv_at hl 0 rfl) ?_
  refine lv_iconst (v := 1) hx hb dX5_faultOf_40 (by decide) ?_
  refine g_put (T := TX5) (ci := 5) (N := 10) (ty0 := tyX5) hx hb hown hK hS (gY_X5 hT) tyX5_ok nmX5 rfl (h1 0 _ rfl) 9 (by decide) (hT _ gf_X5_36) rfl rfl rfl (Nat.le_of_ble_eq_true rfl) (by omega) dX5_faultOf_41 (fun H11 locs c12 oq hS => ?_)
  have h1 : gSg G t (gLL G t (gR (gR (gR f 0 (va_cpy (μ 0) (f 0) 0 0 n)) 1 (f 1)) 5 (gS6 (nI n) 0 0 0 1))) H11 := gSg_set h1 0 c12 oq
  have hB := gSg_off hB oq (by simp only [List.length_cons, List.length_nil]; omega)
  refine lv_iconst (v := 1) hx hb dX5_faultOf_44 (by decide) ?_
  refine lv_istore_n (lv' := [(3, .int 1), (0, .ref t), (1, .ref a), (2, .int (nI n))]) hx hb dX5_faultOf_45 rfl hl (by decide) rfl (fun ls hl => ?_)
  have hag : ∀ j, j < n → (va_cpy (μ 0) (f 0) 0 0 n) j = μ 0 j := gCpy_f
  generalize va_cpy (μ 0) (f 0) 0 0 n = T at h1 hag
  have hTT : gTx T n := gCg_tx hag hTn
  have hi0 : (gLo (μ 0) n 10 0 []) = (gLo T n 10 0 []) := (gCg_lo hag 10 0 []).symm
  have loop : ∀ (dd many q c9 wn9 : Nat) (acc : List (Nat × Nat × List Nat)) (f9 : gPS) (rs9 : Int32) (E9 : Nat → Int32), many + dd = 10 → 0 < dd → q ≤ n → (gLo (μ 0) n 10 0 []) = gLo T n dd q acc → acc.length = many → gCac acc wn9 c9 f9 E9 → rs9 = gRs (gLof acc) acc.length → f9 0 = T → wn9 ≤ many → c9 + (n - q) ≤ 100 → ∀ (H : Heap) (locs : List Loc), gSg G a (gLB G μ) H → gSg G t (gLL G t (gR (gR f9 1 E9) 5 (gS6 (nI n) (nI q) (nI c9) (nI wn9) rs9))) H → va_S (fun q => t ≤ q ∧ q < t + 6) s.heap H locs → ∀ ls, lv_has ls 4 [(0, .ref t), (1, .ref a), (2, .int (nI n)), (3, .int (nI (many + 1)))] → W pp_ l ee_ (gRm 18 393) s mm_ aa_ below meth cc_ H locs 0 0 Q (F0 mm_ 46 ls []) := by
    intro dd
    induction dd with
    | zero => intro many q c9 wn9 acc f9 rs9 E9 hm h0; exact absurd h0 (by omega)
    | succ dd ih =>
      intro many q c9 wn9 acc f9 rs9 E9 hm h0 hq hi hal hac hrs hf9 hwn hcn H locs hB h1 hS ls hl
      refine lv_iload_n hx hb dX5_faultOf_46 rfl (lv_at hl 3 rfl) ?_
      refine lv_bipush (v := 10) hx hb dX5_faultOf_47 (by decide) ?_
      refine lv_icmp_gt (tgt := 103) hx hb dX5_faultOf_49 (by decide) (fun c13 => ?_) (fun c13 => ?_)
      · have c13 : 10 < (many + 1) := (gLt (a := 10) (b := many + 1) rfl rfl (by omega) (by omega)).mp c13
        exact absurd c13 (by omega)
      · have c13 : ¬ 10 < (many + 1) := fun z => c13 ((gLt (a := 10) (b := many + 1) rfl rfl (by omega) (by omega)).mpr z)
        refine lv_aload_n hx hb dX5_faultOf_52 rfl (lv_at hl 0 rfl) ?_
        have fK := gKl_fit (t := T) (n := n) (p := q) hq
        refine g_ki (g_runV (T := TX5) (ci := 5) (N := 10) (rest := []) hx hb hml hown hE hT (c_X5_takesClause l G t f9 n (show gTx (f9 0) n by rw [hf9]; exact hTT) E9 q c9 wn9 rs9 hq (by omega) (by omega) T hf9 htG) gM_X5_takesClause gm_X5_64 gi_X5_takesClause gs_RX5_yX5_takesClause_yX5_takesClause rfl (h1 0 _ rfl) ⟨(gOld_S hO hS (fun q9 hq9 => Nat.le_trans htG hq9.1)), h1⟩ rfl hl.1 ⟨rfl, rfl⟩ ⟨Nat.le_of_ble_eq_true rfl, Nat.le_of_ble_eq_true rfl⟩ ⟨Nat.zero_le _, Nat.zero_le _⟩ rfl (Nat.le_of_ble_eq_true rfl) dX5_faultOf_53) hS (by intro q hq; omega) (fun r17 H14 locs q15 k16 hS => ?_)
        obtain ⟨e9, f8, c8, wn8, rs8, E8, hck, hf8, h38, h1⟩ := q15
        rw [e9]
        have hB := gSg_free hB k16 (by intro k hk q; simp only [List.length_cons, List.length_nil] at hk; omega)
        refine lv_if_ne (tgt := 64) hx hb dX5_faultOf_56 (by decide) (fun c18 => ?_) (fun c18 => ?_)
        · have c18 : (gKl T n q).1 = true := gB_1.mp c18
          obtain ⟨hkd, hnm, hrn⟩ := gKl_ok c18
          have hck8 := hck c18
          have hac8 : gCac (acc ++ [(gClk T n q, (gKl T n q).2.2.1, (gKl T n q).2.2.2)]) wn8 c8 f8 E8 := gCac_s hac hck8 hrn
          have hal8 : (acc ++ [(gClk T n q, (gKl T n q).2.2.1, (gKl T n q).2.2.2)]).length = many + 1 := by rw [List.length_append, hal]; rfl
          have hrs8 : rs8 = gRs (gLof (acc ++ [(gClk T n q, (gKl T n q).2.2.1, (gKl T n q).2.2.2)])) (acc ++ [(gClk T n q, (gKl T n q).2.2.1, (gKl T n q).2.2.2)]).length := by rw [hal8, ← hal]; exact gCk_rs hck8 hrs
          have hwn8 := gCk_wn hck8
          have hcc8 : c8 = c9 + (gKl T n q).2.2.2.length := hck8.2.1
          refine lv_aload_n hx hb dX5_faultOf_64 rfl (lv_at hl 0 rfl) ?_
          refine g_get (v := .int (nI (gKl T n q).2.1)) (T := TX5) (ci := 5) (N := 10) hx hb hown hK (gY_X5 hT) rfl (h1 0 _ rfl) 2 (by decide) (hT _ gf_X5_55) rfl dX5_faultOf_65 ?_
          refine lv_aload_n hx hb dX5_faultOf_68 rfl (lv_at hl 0 rfl) ?_
          refine g_get (v := .int (nI n)) (T := TX5) (ci := 5) (N := 10) hx hb hown hK (gY_X5 hT) rfl (h1 0 _ rfl) 1 (by decide) (hT _ gf_X5_46) rfl dX5_faultOf_69 ?_
          refine lv_icmp_ne (tgt := 77) hx hb dX5_faultOf_72 (by decide) (fun c19 => ?_) (fun c19 => ?_)
          · rw [nI_eq (a := (gKl T n q).2.1) (b := n) (by omega) (by omega)] at c19
            refine lv_iload_n hx hb dX5_faultOf_77 rfl (lv_at hl 3 rfl) ?_
            refine lv_bipush (v := 10) hx hb dX5_faultOf_78 (by decide) ?_
            refine lv_icmp_eq (tgt := 92) hx hb dX5_faultOf_80 (by decide) (fun c20 => ?_) (fun c20 => ?_)
            · have c20 : (many + 1) = 10 := (gEq (a := many + 1) (b := 10) rfl rfl (by omega) (by omega)).mp c20
              refine lv_aload_n hx hb dX5_faultOf_92 rfl (lv_at hl 0 rfl) ?_
              refine g_get (v := .int (nI (gKl T n q).2.1)) (T := TX5) (ci := 5) (N := 10) hx hb hown hK (gY_X5 hT) rfl (h1 0 _ rfl) 2 (by decide) (hT _ gf_X5_55) rfl dX5_faultOf_93 ?_
              have hR : (gLo (μ 0) n 10 0 []) = (false, (gKl T n q).2.1, (acc ++ [(gClk T n q, (gKl T n q).2.2.1, (gKl T n q).2.2.2)])) := by rw [hi, gLo, if_pos c18, if_neg c19, if_neg (fun z9 => absurd z9.1 (by omega))]
              rw [← hQ]
              exact g_iret hx hb hr hlk hS dX5_faultOf_96 ⟨by rw [hR]; rfl, _, h1, h38.trans hac.2.2.1, fun z9 => by rw [hR] at z9; exact absurd (show false = true from z9) (by decide)⟩
            · have c20 : ¬ (many + 1) = 10 := fun z => c20 ((gEq (a := many + 1) (b := 10) rfl rfl (by omega) (by omega)).mpr z)
              refine lv_aload_n hx hb dX5_faultOf_83 rfl (lv_at hl 0 rfl) ?_
              refine lv_bipush (v := 59) hx hb dX5_faultOf_84 (by decide) ?_
              refine g_ki (g_runV (T := TX5) (ci := 5) (N := 10) (rest := []) hx hb hml hown hE hT (c_X5_takesSign l G t f8 n (show gTx (f8 0) n by rw [hf8]; exact hTT) E8 (gKl T n q).2.1 c8 (nI wn8) rs8 (by omega) (by omega) 59) gM_X5_takesSign gm_X5_68 gi_X5_takesSign gs_RX5_yX5_takesSign_yX5_takesSign rfl (h1 0 _ rfl) h1 rfl hl.1 ⟨rfl, rfl⟩ ⟨Nat.le_of_ble_eq_true rfl, Nat.le_of_ble_eq_true rfl⟩ ⟨Nat.zero_le _, Nat.zero_le _⟩ rfl (Nat.le_of_ble_eq_true rfl) dX5_faultOf_86) hS (by intro q hq; omega) (fun r24 H21 locs q22 k23 hS => ?_)
              obtain ⟨e9, h1⟩ := q22
              rw [hf8] at e9 h1
              subst e9
              have hB := gSg_free hB k23 (by intro k hk q; simp only [List.length_cons, List.length_nil] at hk; omega)
              refine lv_if_ne (tgt := 97) hx hb dX5_faultOf_89 (by decide) (fun c25 => ?_) (fun c25 => ?_)
              · have c25 : (gKl T n q).2.1 < n ∧ T (gKl T n q).2.1 = 59 := gB_1.mp c25
                rw [if_pos c25] at h1
                have ltc25 := c25.1
                refine lv_iinc (v := nI (many + 1 + 1)) (lv' := [(3, .int (nI (many + 1 + 1))), (0, .ref t), (1, .ref a), (2, .int (nI n))]) hx hb dX5_faultOf_97 hl (k := 3) rfl (gAdd rfl (show Int32.ofInt 1 = nI 1 from rfl)) (by decide) rfl (fun ls hl => ?_)
                refine lv_goto (tgt := 46) hx hb dX5_faultOf_100 (by decide) ?_
                exact ih (many + 1) ((gKl T n q).2.1 + 1) c8 wn8 (acc ++ [(gClk T n q, (gKl T n q).2.2.1, (gKl T n q).2.2.2)]) f8 rs8 E8 (by omega) (by omega) (by omega) (by rw [hi, gLo, if_pos c18, if_neg c19, if_pos ⟨by omega, c25⟩]) hal8 hac8 hrs8 hf8 (by omega) (by omega) _ _ hB h1 hS _ (lv_sub hl [1, 2, 3, 0] rfl)
              · have c25 : ¬ ((gKl T n q).2.1 < n ∧ T (gKl T n q).2.1 = 59) := gB_0.mp c25
                rw [if_neg c25] at h1
                refine lv_aload_n hx hb dX5_faultOf_92 rfl (lv_at hl 0 rfl) ?_
                refine g_get (v := .int (nI ((gKl T n q).2.1))) (T := TX5) (ci := 5) (N := 10) hx hb hown hK (gY_X5 hT) rfl (h1 0 _ rfl) 2 (by decide) (hT _ gf_X5_55) rfl dX5_faultOf_93 ?_
                have hR : (gLo (μ 0) n 10 0 []) = (false, (gKl T n q).2.1, (acc ++ [(gClk T n q, (gKl T n q).2.2.1, (gKl T n q).2.2.2)])) := by rw [hi, gLo, if_pos c18, if_neg c19, if_neg (fun z9 => c25 z9.2)]
                rw [← hQ]
                exact g_iret hx hb hr hlk hS dX5_faultOf_96 ⟨by rw [hR]; rfl, _, h1, h38.trans hac.2.2.1, fun z9 => by rw [hR] at z9; exact absurd (show false = true from z9) (by decide)⟩
          · rw [nI_eq (a := (gKl T n q).2.1) (b := n) (by omega) (by omega)] at c19
            refine lv_iconst (v := (-1)) hx hb dX5_faultOf_75 (by decide) ?_
            have hR : (gLo (μ 0) n 10 0 []) = (true, (gKl T n q).2.1, (acc ++ [(gClk T n q, (gKl T n q).2.2.1, (gKl T n q).2.2.2)])) := by rw [hi, gLo, if_pos c18, if_pos c19]
            rw [← hQ]
            exact g_iret hx hb hr hlk hS dX5_faultOf_76 ⟨by rw [hR]; rfl, _, h1, h38.trans hac.2.2.1, fun _ => by rw [hR]; exact ⟨by show (acc ++ [(gClk T n q, (gKl T n q).2.2.1, (gKl T n q).2.2.2)]).length ≤ 10; omega, wn8, c8, by show wn8 ≤ (acc ++ [(gClk T n q, (gKl T n q).2.2.1, (gKl T n q).2.2.2)]).length; omega, by omega, rfl, hrs8, hac8⟩⟩
        · have c18 : ¬ ((gKl T n q).1 = true) := gB_0.mp c18
          refine lv_aload_n hx hb dX5_faultOf_59 rfl (lv_at hl 0 rfl) ?_
          refine g_get (v := .int (nI (gKl T n q).2.1)) (T := TX5) (ci := 5) (N := 10) hx hb hown hK (gY_X5 hT) rfl (h1 0 _ rfl) 2 (by decide) (hT _ gf_X5_55) rfl dX5_faultOf_60 ?_
          have hR : (gLo (μ 0) n 10 0 []) = (false, (gKl T n q).2.1, acc) := by rw [hi, gLo, if_neg c18]
          rw [← hQ]
          exact g_iret hx hb hr hlk hS dX5_faultOf_63 ⟨by rw [hR]; rfl, _, h1, h38.trans hac.2.2.1, fun z9 => by rw [hR] at z9; exact absurd (show false = true from z9) (by decide)⟩
  exact loop 10 0 0 0 0 [] _ 1 _ (by omega) (by omega) (by omega) hi0 rfl (gCac_0 (by exact h30)) rfl rfl (by omega) (by omega) _ _ hB h1 hS _ (lv_sub hl [1, 2, 3, 0] rfl)
