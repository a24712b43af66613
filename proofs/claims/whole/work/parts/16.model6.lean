set_option maxHeartbeats 4000000 in
set_option maxRecDepth 100000 in
theorem c_J6_bitCount_0f7a4 (l : Launch) (G : gW) (x : Int32) : gCI l yJ6_bitCount_0f7a4 cJ6_bitCount_0f7a4 1 .int (gRm 0 0) G [.int x] (fun H => True) (fun r H => r = gBc x) (fun _ => False) := by
  refine g_start (by decide) (Nat.le_of_ble_eq_true rfl) ?_
  intro pp_ ee_ s mm_ aa_ below meth cc_ ls Q hQ hX hE hP hl
  obtain ⟨hx, hb, hr, hml, hown, hT, hlk, hnm⟩ := hX
  have hK := hE.2.1
  have hS : va_S (fun _ => False) s.heap s.heap [] := va_S.rf
  have hl : lv_has ls 1 [(0, .int x)] := hl
  refine lv_iload_n hx hb dJ6_bitCount_0f7a4_0 rfl (lv_at hl 0 rfl) ?_
  refine lv_iload_n hx hb dJ6_bitCount_0f7a4_1 rfl (lv_at hl 0 rfl) ?_
  refine lv_iconst (v := 1) hx hb dJ6_bitCount_0f7a4_2 (by decide) ?_
  refine lv_iushr hx hb dJ6_bitCount_0f7a4_3 rfl ?_
  refine lv_ldcw (v := 1431655765) hx hb hown (hT _ gq_J6_265) dJ6_bitCount_0f7a4_4 ?_
  refine lv_iand hx hb dJ6_bitCount_0f7a4_7 ?_
  refine lv_isub hx hb dJ6_bitCount_0f7a4_8 ?_
  refine lv_istore_n (lv' := [(0, .int (x - (((x.toUInt32 >>> ((1 : Int32).toUInt32 &&& Int32.toUInt32 31)).toInt32) &&& 1431655765)))]) hx hb dJ6_bitCount_0f7a4_9 rfl hl (by decide) rfl (fun ls hl => ?_)
  refine lv_iload_n hx hb dJ6_bitCount_0f7a4_10 rfl (lv_at hl 0 rfl) ?_
  refine lv_ldcw (v := 858993459) hx hb hown (hT _ gq_J6_266) dJ6_bitCount_0f7a4_11 ?_
  refine lv_iand hx hb dJ6_bitCount_0f7a4_14 ?_
  refine lv_iload_n hx hb dJ6_bitCount_0f7a4_15 rfl (lv_at hl 0 rfl) ?_
  refine lv_iconst (v := 2) hx hb dJ6_bitCount_0f7a4_16 (by decide) ?_
  refine lv_iushr hx hb dJ6_bitCount_0f7a4_17 rfl ?_
  refine lv_ldcw (v := 858993459) hx hb hown (hT _ gq_J6_266) dJ6_bitCount_0f7a4_18 ?_
  refine lv_iand hx hb dJ6_bitCount_0f7a4_21 ?_
  refine lv_iadd hx hb dJ6_bitCount_0f7a4_22 ?_
  refine lv_istore_n (lv' := [(0, .int (((x - (((x.toUInt32 >>> ((1 : Int32).toUInt32 &&& Int32.toUInt32 31)).toInt32) &&& 1431655765)) &&& 858993459) + ((((x - (((x.toUInt32 >>> ((1 : Int32).toUInt32 &&& Int32.toUInt32 31)).toInt32) &&& 1431655765)).toUInt32 >>> ((2 : Int32).toUInt32 &&& Int32.toUInt32 31)).toInt32) &&& 858993459)))]) hx hb dJ6_bitCount_0f7a4_23 rfl hl (by decide) rfl (fun ls hl => ?_)
  refine lv_iload_n hx hb dJ6_bitCount_0f7a4_24 rfl (lv_at hl 0 rfl) ?_
  refine lv_iload_n hx hb dJ6_bitCount_0f7a4_25 rfl (lv_at hl 0 rfl) ?_
  refine lv_iconst (v := 4) hx hb dJ6_bitCount_0f7a4_26 (by decide) ?_
  refine lv_iushr hx hb dJ6_bitCount_0f7a4_27 rfl ?_
  refine lv_iadd hx hb dJ6_bitCount_0f7a4_28 ?_
  refine lv_ldcw (v := 252645135) hx hb hown (hT _ gq_J6_267) dJ6_bitCount_0f7a4_29 ?_
  refine lv_iand hx hb dJ6_bitCount_0f7a4_32 ?_
  refine lv_istore_n (lv' := [(0, .int (((((x - (((x.toUInt32 >>> ((1 : Int32).toUInt32 &&& Int32.toUInt32 31)).toInt32) &&& 1431655765)) &&& 858993459) + ((((x - (((x.toUInt32 >>> ((1 : Int32).toUInt32 &&& Int32.toUInt32 31)).toInt32) &&& 1431655765)).toUInt32 >>> ((2 : Int32).toUInt32 &&& Int32.toUInt32 31)).toInt32) &&& 858993459)) + (((((x - (((x.toUInt32 >>> ((1 : Int32).toUInt32 &&& Int32.toUInt32 31)).toInt32) &&& 1431655765)) &&& 858993459) + ((((x - (((x.toUInt32 >>> ((1 : Int32).toUInt32 &&& Int32.toUInt32 31)).toInt32) &&& 1431655765)).toUInt32 >>> ((2 : Int32).toUInt32 &&& Int32.toUInt32 31)).toInt32) &&& 858993459)).toUInt32 >>> ((4 : Int32).toUInt32 &&& Int32.toUInt32 31)).toInt32)) &&& 252645135))]) hx hb dJ6_bitCount_0f7a4_33 rfl hl (by decide) rfl (fun ls hl => ?_)
  refine lv_iload_n hx hb dJ6_bitCount_0f7a4_34 rfl (lv_at hl 0 rfl) ?_
  refine lv_iload_n hx hb dJ6_bitCount_0f7a4_35 rfl (lv_at hl 0 rfl) ?_
  refine lv_bipush (v := 8) hx hb dJ6_bitCount_0f7a4_36 (by decide) ?_
  refine lv_iushr hx hb dJ6_bitCount_0f7a4_38 rfl ?_
  refine lv_iadd hx hb dJ6_bitCount_0f7a4_39 ?_
  refine lv_istore_n (lv' := [(0, .int ((((((x - (((x.toUInt32 >>> ((1 : Int32).toUInt32 &&& Int32.toUInt32 31)).toInt32) &&& 1431655765)) &&& 858993459) + ((((x - (((x.toUInt32 >>> ((1 : Int32).toUInt32 &&& Int32.toUInt32 31)).toInt32) &&& 1431655765)).toUInt32 >>> ((2 : Int32).toUInt32 &&& Int32.toUInt32 31)).toInt32) &&& 858993459)) + (((((x - (((x.toUInt32 >>> ((1 : Int32).toUInt32 &&& Int32.toUInt32 31)).toInt32) &&& 1431655765)) &&& 858993459) + ((((x - (((x.toUInt32 >>> ((1 : Int32).toUInt32 &&& Int32.toUInt32 31)).toInt32) &&& 1431655765)).toUInt32 >>> ((2 : Int32).toUInt32 &&& Int32.toUInt32 31)).toInt32) &&& 858993459)).toUInt32 >>> ((4 : Int32).toUInt32 &&& Int32.toUInt32 31)).toInt32)) &&& 252645135) + (((((((x - (((x.toUInt32 >>> ((1 : Int32).toUInt32 &&& Int32.toUInt32 31)).toInt32) &&& 1431655765)) &&& 858993459) + ((((x - (((x.toUInt32 >>> ((1 : Int32).toUInt32 &&& Int32.toUInt32 31)).toInt32) &&& 1431655765)).toUInt32 >>> ((2 : Int32).toUInt32 &&& Int32.toUInt32 31)).toInt32) &&& 858993459)) + (((((x - (((x.toUInt32 >>> ((1 : Int32).toUInt32 &&& Int32.toUInt32 31)).toInt32) &&& 1431655765)) &&& 858993459) + ((((x - (((x.toUInt32 >>> ((1 : Int32).toUInt32 &&& Int32.toUInt32 31)).toInt32) &&& 1431655765)).toUInt32 >>> ((2 : Int32).toUInt32 &&& Int32.toUInt32 31)).toInt32) &&& 858993459)).toUInt32 >>> ((4 : Int32).toUInt32 &&& Int32.toUInt32 31)).toInt32)) &&& 252645135).toUInt32 >>> ((8 : Int32).toUInt32 &&& Int32.toUInt32 31)).toInt32)))]) hx hb dJ6_bitCount_0f7a4_40 rfl hl (by decide) rfl (fun ls hl => ?_)
  refine lv_iload_n hx hb dJ6_bitCount_0f7a4_41 rfl (lv_at hl 0 rfl) ?_
  refine lv_iload_n hx hb dJ6_bitCount_0f7a4_42 rfl (lv_at hl 0 rfl) ?_
  refine lv_bipush (v := 16) hx hb dJ6_bitCount_0f7a4_43 (by decide) ?_
  refine lv_iushr hx hb dJ6_bitCount_0f7a4_45 rfl ?_
  refine lv_iadd hx hb dJ6_bitCount_0f7a4_46 ?_
  refine lv_istore_n (lv' := [(0, .int (((((((x - (((x.toUInt32 >>> ((1 : Int32).toUInt32 &&& Int32.toUInt32 31)).toInt32) &&& 1431655765)) &&& 858993459) + ((((x - (((x.toUInt32 >>> ((1 : Int32).toUInt32 &&& Int32.toUInt32 31)).toInt32) &&& 1431655765)).toUInt32 >>> ((2 : Int32).toUInt32 &&& Int32.toUInt32 31)).toInt32) &&& 858993459)) + (((((x - (((x.toUInt32 >>> ((1 : Int32).toUInt32 &&& Int32.toUInt32 31)).toInt32) &&& 1431655765)) &&& 858993459) + ((((x - (((x.toUInt32 >>> ((1 : Int32).toUInt32 &&& Int32.toUInt32 31)).toInt32) &&& 1431655765)).toUInt32 >>> ((2 : Int32).toUInt32 &&& Int32.toUInt32 31)).toInt32) &&& 858993459)).toUInt32 >>> ((4 : Int32).toUInt32 &&& Int32.toUInt32 31)).toInt32)) &&& 252645135) + (((((((x - (((x.toUInt32 >>> ((1 : Int32).toUInt32 &&& Int32.toUInt32 31)).toInt32) &&& 1431655765)) &&& 858993459) + ((((x - (((x.toUInt32 >>> ((1 : Int32).toUInt32 &&& Int32.toUInt32 31)).toInt32) &&& 1431655765)).toUInt32 >>> ((2 : Int32).toUInt32 &&& Int32.toUInt32 31)).toInt32) &&& 858993459)) + (((((x - (((x.toUInt32 >>> ((1 : Int32).toUInt32 &&& Int32.toUInt32 31)).toInt32) &&& 1431655765)) &&& 858993459) + ((((x - (((x.toUInt32 >>> ((1 : Int32).toUInt32 &&& Int32.toUInt32 31)).toInt32) &&& 1431655765)).toUInt32 >>> ((2 : Int32).toUInt32 &&& Int32.toUInt32 31)).toInt32) &&& 858993459)).toUInt32 >>> ((4 : Int32).toUInt32 &&& Int32.toUInt32 31)).toInt32)) &&& 252645135).toUInt32 >>> ((8 : Int32).toUInt32 &&& Int32.toUInt32 31)).toInt32)) + ((((((((x - (((x.toUInt32 >>> ((1 : Int32).toUInt32 &&& Int32.toUInt32 31)).toInt32) &&& 1431655765)) &&& 858993459) + ((((x - (((x.toUInt32 >>> ((1 : Int32).toUInt32 &&& Int32.toUInt32 31)).toInt32) &&& 1431655765)).toUInt32 >>> ((2 : Int32).toUInt32 &&& Int32.toUInt32 31)).toInt32) &&& 858993459)) + (((((x - (((x.toUInt32 >>> ((1 : Int32).toUInt32 &&& Int32.toUInt32 31)).toInt32) &&& 1431655765)) &&& 858993459) + ((((x - (((x.toUInt32 >>> ((1 : Int32).toUInt32 &&& Int32.toUInt32 31)).toInt32) &&& 1431655765)).toUInt32 >>> ((2 : Int32).toUInt32 &&& Int32.toUInt32 31)).toInt32) &&& 858993459)).toUInt32 >>> ((4 : Int32).toUInt32 &&& Int32.toUInt32 31)).toInt32)) &&& 252645135) + (((((((x - (((x.toUInt32 >>> ((1 : Int32).toUInt32 &&& Int32.toUInt32 31)).toInt32) &&& 1431655765)) &&& 858993459) + ((((x - (((x.toUInt32 >>> ((1 : Int32).toUInt32 &&& Int32.toUInt32 31)).toInt32) &&& 1431655765)).toUInt32 >>> ((2 : Int32).toUInt32 &&& Int32.toUInt32 31)).toInt32) &&& 858993459)) + (((((x - (((x.toUInt32 >>> ((1 : Int32).toUInt32 &&& Int32.toUInt32 31)).toInt32) &&& 1431655765)) &&& 858993459) + ((((x - (((x.toUInt32 >>> ((1 : Int32).toUInt32 &&& Int32.toUInt32 31)).toInt32) &&& 1431655765)).toUInt32 >>> ((2 : Int32).toUInt32 &&& Int32.toUInt32 31)).toInt32) &&& 858993459)).toUInt32 >>> ((4 : Int32).toUInt32 &&& Int32.toUInt32 31)).toInt32)) &&& 252645135).toUInt32 >>> ((8 : Int32).toUInt32 &&& Int32.toUInt32 31)).toInt32)).toUInt32 >>> ((16 : Int32).toUInt32 &&& Int32.toUInt32 31)).toInt32)))]) hx hb dJ6_bitCount_0f7a4_47 rfl hl (by decide) rfl (fun ls hl => ?_)
  refine lv_iload_n hx hb dJ6_bitCount_0f7a4_48 rfl (lv_at hl 0 rfl) ?_
  refine lv_bipush (v := 63) hx hb dJ6_bitCount_0f7a4_49 (by decide) ?_
  refine lv_iand hx hb dJ6_bitCount_0f7a4_51 ?_
  rw [← hQ]
  exact g_iret hx hb hr hlk hS dJ6_bitCount_0f7a4_52 rfl

set_option maxHeartbeats 4000000 in
set_option maxRecDepth 100000 in
theorem c_X12_has (l : Launch) (G : gW) (x : Int32) (k : Nat) : gCI l yX12_has cX12_has 2 .boolean (gRm 0 0) G [.int x, .int (nI k)] (fun H => True) (fun r H => r = gB (¬ x >>> (nI k &&& 31) &&& 1 = 0)) (fun _ => False) := by
  refine g_start (by decide) (Nat.le_of_ble_eq_true rfl) ?_
  intro pp_ ee_ s mm_ aa_ below meth cc_ ls Q hQ hX hE hP hl
  obtain ⟨hx, hb, hr, hml, hown, hT, hlk, hnm⟩ := hX
  have hK := hE.2.1
  have hS : va_S (fun _ => False) s.heap s.heap [] := va_S.rf
  have hl : lv_has ls 2 [(0, .int x), (1, .int (nI k))] := hl
  refine lv_iload_n hx hb dX12_has_0 rfl (lv_at hl 0 rfl) ?_
  refine lv_iload_n hx hb dX12_has_1 rfl (lv_at hl 1 rfl) ?_
  refine lv_ishr hx hb dX12_has_2 ?_
  refine lv_iconst (v := 1) hx hb dX12_has_3 (by decide) ?_
  refine lv_iand hx hb dX12_has_4 ?_
  refine lv_iconst (v := 1) hx hb dX12_has_5 (by decide) ?_
  refine lv_icmp_ne (tgt := 13) hx hb dX12_has_6 (by decide) (fun c1 => ?_) (fun c1 => ?_)
  · refine lv_iconst (v := 0) hx hb dX12_has_13 (by decide) ?_
    rw [← hQ]
    exact g_zret hx hb hr hlk rfl hS dX12_has_14 (gB_f (fun z => c1 (gHas1.mpr z))).symm
  · refine lv_iconst (v := 1) hx hb dX12_has_9 (by decide) ?_
    refine lv_goto (tgt := 14) hx hb dX12_has_10 (by decide) ?_
    rw [← hQ]
    exact g_zret hx hb hr hlk rfl hS dX12_has_14 (gB_t (gHas1.mp c1)).symm

set_option maxHeartbeats 4000000 in
set_option maxRecDepth 100000 in
theorem c_X12_letterOf (l : Launch) (G : gW) (b : Nat) (π μ f : gPS) (g : Nat → Int64) (p x : Nat) (hp : p < 6) (hx9 : x < 6) (ws : Int32) : gCI l yX12_letterOf cX12_letterOf 4 .int (gRm 1 20) G [.ref b, .int (nI p), .int ws, .int (nI x)] (fun H => gSg G b (gLM G b π μ f g) H) (fun r H => r = gNu π p (gBc ws) x) (fun _ => False) := by
  refine g_start (by decide) (Nat.le_of_ble_eq_true rfl) ?_
  intro pp_ ee_ s mm_ aa_ below meth cc_ ls Q hQ hX hE hP hl
  obtain ⟨hx, hb, hr, hml, hown, hT, hlk, hnm⟩ := hX
  have hK := hE.2.1
  have h1 := hP
  have hS : va_S (fun _ => False) s.heap s.heap [] := va_S.rf
  have hl : lv_has ls 4 [(0, .ref b), (1, .int (nI p)), (2, .int ws), (3, .int (nI x))] := hl
  refine lv_iload_n hx hb dX12_letterOf_0 rfl (lv_at hl 3 rfl) ?_
  by_cases c1 : (nI x) = 0
  · refine lv_tableIn (off := 35) (tgt := 36) hx hb dX12_letterOf_1 (by rw [c1]; decide) (by rw [c1]; decide) (by rw [c1]; decide) (by decide) ?_
    refine lv_iload_n hx hb dX12_letterOf_36 rfl (lv_at hl 1 rfl) ?_
    rw [← hQ]
    exact g_iret hx hb hr hlk hS dX12_letterOf_37 (by simp only [gNu, if_pos (show x = 0 from (nI_eq (a := x) (b := 0) (by omega) (by omega)).mp c1)])
  · skip
    by_cases c2 : (nI x) = 1
    · refine lv_tableIn (off := 37) (tgt := 38) hx hb dX12_letterOf_1 (by rw [c2]; decide) (by rw [c2]; decide) (by rw [c2]; decide) (by decide) ?_
      refine lv_aload_n hx hb dX12_letterOf_38 rfl (lv_at hl 0 rfl) ?_
      refine g_get (v := .ref (b + 3)) (T := TX12) (ci := 12) (N := 45) hx hb hown hK (gY_X12 hT) rfl (h1 0 _ rfl) 4 (by decide) (hT _ gf_X12_18) rfl dX12_letterOf_39 ?_
      refine lv_iload_n hx hb dX12_letterOf_42 rfl (lv_at hl 1 rfl) ?_
      refine g_ia (j := p) (v := π 2 p) hx hb hK (h1 3 _ rfl) rfl (by omega) (Nat.le_of_ble_eq_true rfl) rfl dX12_letterOf_43 ?_
      rw [← hQ]
      exact g_iret hx hb hr hlk hS dX12_letterOf_44 (by simp only [gNu, if_neg (show ¬ x = 0 from fun z => c1 ((nI_eq (a := x) (b := 0) (by omega) (by omega)).mpr z)), if_pos (show x = 1 from (nI_eq (a := x) (b := 1) (by omega) (by omega)).mp c2)])
    · skip
      by_cases c3 : (nI x) = 2
      · refine lv_tableIn (off := 44) (tgt := 45) hx hb dX12_letterOf_1 (by rw [c3]; decide) (by rw [c3]; decide) (by rw [c3]; decide) (by decide) ?_
        refine lv_aload_n hx hb dX12_letterOf_45 rfl (lv_at hl 0 rfl) ?_
        refine g_get (v := .ref (b + 4)) (T := TX12) (ci := 12) (N := 45) hx hb hown hK (gY_X12 hT) rfl (h1 0 _ rfl) 5 (by decide) (hT _ gf_X12_21) rfl dX12_letterOf_46 ?_
        refine lv_iload_n hx hb dX12_letterOf_49 rfl (lv_at hl 1 rfl) ?_
        refine g_ia (j := p) (v := π 3 p) hx hb hK (h1 4 _ rfl) rfl (by omega) (Nat.le_of_ble_eq_true rfl) rfl dX12_letterOf_50 ?_
        rw [← hQ]
        exact g_iret hx hb hr hlk hS dX12_letterOf_51 (by simp only [gNu, if_neg (show ¬ x = 0 from fun z => c1 ((nI_eq (a := x) (b := 0) (by omega) (by omega)).mpr z)), if_neg (show ¬ x = 1 from fun z => c2 ((nI_eq (a := x) (b := 1) (by omega) (by omega)).mpr z)), if_pos (show x = 2 from (nI_eq (a := x) (b := 2) (by omega) (by omega)).mp c3)])
      · skip
        by_cases c4 : (nI x) = 3
        · refine lv_tableIn (off := 51) (tgt := 52) hx hb dX12_letterOf_1 (by rw [c4]; decide) (by rw [c4]; decide) (by rw [c4]; decide) (by decide) ?_
          refine lv_aload_n hx hb dX12_letterOf_52 rfl (lv_at hl 0 rfl) ?_
          refine g_get (v := .ref (b + 6)) (T := TX12) (ci := 12) (N := 45) hx hb hown hK (gY_X12 hT) rfl (h1 0 _ rfl) 7 (by decide) (hT _ gf_X12_27) rfl dX12_letterOf_53 ?_
          refine lv_iload_n hx hb dX12_letterOf_56 rfl (lv_at hl 1 rfl) ?_
          refine g_ia (j := p) (v := π 5 p) hx hb hK (h1 6 _ rfl) rfl (by omega) (Nat.le_of_ble_eq_true rfl) rfl dX12_letterOf_57 ?_
          rw [← hQ]
          exact g_iret hx hb hr hlk hS dX12_letterOf_58 (by simp only [gNu, if_neg (show ¬ x = 0 from fun z => c1 ((nI_eq (a := x) (b := 0) (by omega) (by omega)).mpr z)), if_neg (show ¬ x = 1 from fun z => c2 ((nI_eq (a := x) (b := 1) (by omega) (by omega)).mpr z)), if_neg (show ¬ x = 2 from fun z => c3 ((nI_eq (a := x) (b := 2) (by omega) (by omega)).mpr z)), if_pos (show x = 3 from (nI_eq (a := x) (b := 3) (by omega) (by omega)).mp c4)])
        · skip
          by_cases c5 : (nI x) = 4
          · refine lv_tableIn (off := 58) (tgt := 59) hx hb dX12_letterOf_1 (by rw [c5]; decide) (by rw [c5]; decide) (by rw [c5]; decide) (by decide) ?_
            refine lv_iload_n hx hb dX12_letterOf_59 rfl (lv_at hl 2 rfl) ?_
            refine g_ki (g_runS (rest := []) hx hb hml hown hE hT (c_J6_bitCount_0f7a4 l G ws) gM_J6_bitCount_0f7a4 gm_X12_211 gt_J6_bitCount_0f7a4 trivial rfl hl.1 ⟨rfl, rfl⟩ ⟨Nat.le_of_ble_eq_true rfl, Nat.le_of_ble_eq_true rfl⟩ ⟨Nat.zero_le _, Nat.zero_le _⟩ rfl (Nat.le_of_ble_eq_true rfl) dX12_letterOf_60) hS (fun _ h => h.elim) (fun r9 H6 locs q7 k8 hS => ?_)
            subst q7
            have h1 := gSg_free h1 k8 (by intro k hk q; simp only [List.length_cons, List.length_nil] at hk; omega)
            rw [← hQ]
            exact g_iret hx hb hr hlk hS dX12_letterOf_63 (by simp only [gNu, if_neg (show ¬ x = 0 from fun z => c1 ((nI_eq (a := x) (b := 0) (by omega) (by omega)).mpr z)), if_neg (show ¬ x = 1 from fun z => c2 ((nI_eq (a := x) (b := 1) (by omega) (by omega)).mpr z)), if_neg (show ¬ x = 2 from fun z => c3 ((nI_eq (a := x) (b := 2) (by omega) (by omega)).mpr z)), if_neg (show ¬ x = 3 from fun z => c4 ((nI_eq (a := x) (b := 3) (by omega) (by omega)).mpr z)), if_pos (show x = 4 from (nI_eq (a := x) (b := 4) (by omega) (by omega)).mp c5)])
          · skip
            have tc1 := lv_neT (k := 0) (a := 0) c1 (by decide)
            have tc2 := lv_neT (k := 1) (a := 1) c2 (by decide)
            have tc3 := lv_neT (k := 2) (a := 2) c3 (by decide)
            have tc4 := lv_neT (k := 3) (a := 3) c4 (by decide)
            have tc5 := lv_neT (k := 4) (a := 4) c5 (by decide)
            refine lv_tableOut (tgt := 64) hx hb dX12_letterOf_1 (by omega) (by decide) ?_
            refine lv_aload_n hx hb dX12_letterOf_64 rfl (lv_at hl 0 rfl) ?_
            refine g_get (v := .int (π 15 2)) (T := TX12) (ci := 12) (N := 45) hx hb hown hK (gY_X12 hT) rfl (h1 0 _ rfl) 10 (by decide) (hT _ gf_X12_216) rfl dX12_letterOf_65 ?_
            refine lv_bipush (v := 10) hx hb dX12_letterOf_68 (by decide) ?_
            refine lv_irem hx hb dX12_letterOf_70 (by decide) ?_
            rw [← hQ]
            exact g_iret hx hb hr hlk hS dX12_letterOf_71 (by simp only [gNu, if_neg (show ¬ x = 0 from fun z => c1 ((nI_eq (a := x) (b := 0) (by omega) (by omega)).mpr z)), if_neg (show ¬ x = 1 from fun z => c2 ((nI_eq (a := x) (b := 1) (by omega) (by omega)).mpr z)), if_neg (show ¬ x = 2 from fun z => c3 ((nI_eq (a := x) (b := 2) (by omega) (by omega)).mpr z)), if_neg (show ¬ x = 3 from fun z => c4 ((nI_eq (a := x) (b := 3) (by omega) (by omega)).mpr z)), if_neg (show ¬ x = 4 from fun z => c5 ((nI_eq (a := x) (b := 4) (by omega) (by omega)).mpr z))])

set_option maxHeartbeats 4000000 in
set_option maxRecDepth 100000 in
theorem c_X12_meant (l : Launch) (G : gW) (b : Nat) (π μ f : gPS) (g : Nat → Int64) (ws : Int32) : gCI l yX12_meant cX12_meant 4 .int (gRm 1 21) G [.ref b, .int ws] (fun H => gSg G b (gLM G b π μ f g) H) (fun r H => r = gMean (π 1) ws 12) (fun _ => False) := by
  refine g_start (by decide) (Nat.le_of_ble_eq_true rfl) ?_
  intro pp_ ee_ s mm_ aa_ below meth cc_ ls Q hQ hX hE hP hl
  obtain ⟨hx, hb, hr, hml, hown, hT, hlk, hnm⟩ := hX
  have hK := hE.2.1
  have h1 := hP
  have hS : va_S (fun _ => False) s.heap s.heap [] := va_S.rf
  have hl : lv_has ls 4 [(0, .ref b), (1, .int ws)] := hl
  refine lv_iconst (v := 0) hx hb dX12_meant_0 (by decide) ?_
  refine lv_istore_n (lv' := [(2, .int 0), (0, .ref b), (1, .int ws)]) hx hb dX12_meant_1 rfl hl (by decide) rfl (fun ls hl => ?_)
  refine lv_iconst (v := 0) hx hb dX12_meant_2 (by decide) ?_
  refine lv_istore_n (lv' := [(3, .int 0), (2, .int 0), (0, .ref b), (1, .int ws)]) hx hb dX12_meant_3 rfl hl (by decide) rfl (fun ls hl => ?_)
  have loop : ∀ (d k : Nat), k + d = 12 → ∀ (H : Heap) (locs : List Loc), gSg G b (gLM G b π μ f g) H → va_S (fun _ => False) s.heap H locs → ∀ ls, lv_has ls 4 [(0, .ref b), (1, .int ws), (2, .int (gMean (π 1) ws k)), (3, .int (nI k))] → W pp_ l ee_ (gRm 1 21) s mm_ aa_ below meth cc_ H locs 0 0 Q (F0 mm_ 4 ls []) := by
    intro d
    induction d with
    | zero =>
      intro k hk   H locs h1 hS ls hl
      have hk : k = 12 := by omega
      refine lv_iload_n hx hb dX12_meant_4 rfl (lv_at hl 3 rfl) ?_
      refine lv_bipush (v := 12) hx hb dX12_meant_5 (by decide) ?_
      refine lv_icmp_ge (tgt := 33) hx hb dX12_meant_7 (by decide) (fun c1 => ?_) (fun c1 => ?_)
      · have c1 : 12 ≤ k := (gLe (a := 12) (b := k) rfl rfl (by omega) (by omega)).mp c1
        refine lv_iload_n hx hb dX12_meant_33 rfl (lv_at hl 2 rfl) ?_
        rw [← hQ]
        exact g_iret hx hb hr hlk hS dX12_meant_34 (by rw [hk])
      · have c1 : ¬ 12 ≤ k := fun z => c1 ((gLe (a := 12) (b := k) rfl rfl (by omega) (by omega)).mpr z)
        exact absurd c1 (by omega)
    | succ d ih =>
      intro k hk   H locs h1 hS ls hl
      refine lv_iload_n hx hb dX12_meant_4 rfl (lv_at hl 3 rfl) ?_
      refine lv_bipush (v := 12) hx hb dX12_meant_5 (by decide) ?_
      refine lv_icmp_ge (tgt := 33) hx hb dX12_meant_7 (by decide) (fun c2 => ?_) (fun c2 => ?_)
      · have c2 : 12 ≤ k := (gLe (a := 12) (b := k) rfl rfl (by omega) (by omega)).mp c2
        exact absurd c2 (by omega)
      · have c2 : ¬ 12 ≤ k := fun z => c2 ((gLe (a := 12) (b := k) rfl rfl (by omega) (by omega)).mpr z)
        refine lv_iload_n hx hb dX12_meant_10 rfl (lv_at hl 1 rfl) ?_
        refine lv_iload_n hx hb dX12_meant_11 rfl (lv_at hl 3 rfl) ?_
        refine g_ki (g_runS (rest := []) hx hb hml hown hE hT (c_X12_has l G ws k) gM_X12_has gm_X12_223 gt_X12_has trivial rfl hl.1 ⟨rfl, rfl⟩ ⟨Nat.le_of_ble_eq_true rfl, Nat.le_of_ble_eq_true rfl⟩ ⟨Nat.zero_le _, Nat.zero_le _⟩ rfl (Nat.le_of_ble_eq_true rfl) dX12_meant_12) hS (fun _ h => h.elim) (fun r6 H3 locs q4 k5 hS => ?_)
        subst q4
        have h1 := gSg_free h1 k5 (by intro k hk q; simp only [List.length_cons, List.length_nil] at hk; omega)
        refine lv_if_eq (tgt := 27) hx hb dX12_meant_15 (by decide) (fun c7 => ?_) (fun c7 => ?_)
        · have c7 : ¬ (¬ ws >>> (nI k &&& 31) &&& 1 = 0) := gB_0.mp c7
          refine lv_iinc (v := nI (k + 1)) (lv' := [(3, .int (nI (k + 1))), (0, .ref b), (1, .int ws), (2, .int (gMean (π 1) ws k))]) hx hb dX12_meant_27 hl (k := 3) rfl (gAdd rfl (show Int32.ofInt 1 = nI 1 from rfl)) (by decide) rfl (fun ls hl => ?_)
          refine lv_goto (tgt := 4) hx hb dX12_meant_30 (by decide) ?_
          exact ih (k + 1) (by omega)   _ _ h1 hS _ (by have hl := lv_sub hl [1, 2, 3, 0] rfl; rw [show (gMean (π 1) ws k : Int32) = gMean (π 1) ws (k + 1) from by rw [gMean, if_pos (Decidable.not_not.mp c7)]] at hl; exact hl)
        · have c7 : ¬ ws >>> (nI k &&& 31) &&& 1 = 0 := gB_1.mp c7
          refine lv_iload_n hx hb dX12_meant_18 rfl (lv_at hl 2 rfl) ?_
          refine lv_aload_n hx hb dX12_meant_19 rfl (lv_at hl 0 rfl) ?_
          refine g_get (v := .ref (b + 2)) (T := TX12) (ci := 12) (N := 45) hx hb hown hK (gY_X12 hT) rfl (h1 0 _ rfl) 1 (by decide) (hT _ gf_X12_15) rfl dX12_meant_20 ?_
          refine lv_iload_n hx hb dX12_meant_23 rfl (lv_at hl 3 rfl) ?_
          refine g_ia (j := k) (v := π 1 k) hx hb hK (h1 2 _ rfl) rfl (by omega) (Nat.le_of_ble_eq_true rfl) rfl dX12_meant_24 ?_
          refine lv_ior hx hb dX12_meant_25 ?_
          refine lv_istore_n (lv' := [(2, .int ((gMean (π 1) ws k) ||| (π 1 k))), (0, .ref b), (1, .int ws), (3, .int (nI k))]) hx hb dX12_meant_26 rfl hl (by decide) rfl (fun ls hl => ?_)
          refine lv_iinc (v := nI (k + 1)) (lv' := [(3, .int (nI (k + 1))), (2, .int ((gMean (π 1) ws k) ||| (π 1 k))), (0, .ref b), (1, .int ws)]) hx hb dX12_meant_27 hl (k := 3) rfl (gAdd rfl (show Int32.ofInt 1 = nI 1 from rfl)) (by decide) rfl (fun ls hl => ?_)
          refine lv_goto (tgt := 4) hx hb dX12_meant_30 (by decide) ?_
          exact ih (k + 1) (by omega)   _ _ h1 hS _ (by have hl := lv_sub hl [2, 3, 1, 0] rfl; rw [show ((gMean (π 1) ws k) ||| (π 1 k) : Int32) = gMean (π 1) ws (k + 1) from by rw [gMean, if_neg c7]] at hl; exact hl)
  exact loop (12 - 0) 0 (by first | omega | simp)  _ _ h1 hS _ (lv_sub hl [2, 3, 1, 0] rfl)

set_option maxHeartbeats 4000000 in
set_option maxRecDepth 100000 in
theorem c_X12_grimmest (l : Launch) (G : gW) (b : Nat) (π μ f : gPS) (g : Nat → Int64) (ws : Int32) : gCI l yX12_grimmest cX12_grimmest 4 .int (gRm 1 24) G [.ref b, .int ws] (fun H => gSg G b (gLM G b π μ f g) H) (fun r H => r = gGrim (π 0) ws) (fun _ => False) := by
  refine g_start (by decide) (Nat.le_of_ble_eq_true rfl) ?_
  intro pp_ ee_ s mm_ aa_ below meth cc_ ls Q hQ hX hE hP hl
  obtain ⟨hx, hb, hr, hml, hown, hT, hlk, hnm⟩ := hX
  have hK := hE.2.1
  have h1 := hP
  have hS : va_S (fun _ => False) s.heap s.heap [] := va_S.rf
  have hl : lv_has ls 4 [(0, .ref b), (1, .int ws)] := hl
  refine lv_bipush (v := 9) hx hb dX12_grimmest_0 (by decide) ?_
  refine lv_istore_n (lv' := [(2, .int 9), (0, .ref b), (1, .int ws)]) hx hb dX12_grimmest_2 rfl hl (by decide) rfl (fun ls hl => ?_)
  refine lv_iconst (v := 0) hx hb dX12_grimmest_3 (by decide) ?_
  refine lv_istore_n (lv' := [(3, .int 0), (2, .int 9), (0, .ref b), (1, .int ws)]) hx hb dX12_grimmest_4 rfl hl (by decide) rfl (fun ls hl => ?_)
  have loop : ∀ (d k : Nat), k + d = 12 → ∀ (H : Heap) (locs : List Loc), gSg G b (gLM G b π μ f g) H → va_S (fun _ => False) s.heap H locs → ∀ ls, lv_has ls 4 [(0, .ref b), (1, .int ws), (2, .int (gLst (π 0) ws k)), (3, .int (nI k))] → W pp_ l ee_ (gRm 1 24) s mm_ aa_ below meth cc_ H locs 0 0 Q (F0 mm_ 5 ls []) := by
    intro d
    induction d with
    | zero =>
      intro k hk   H locs h1 hS ls hl
      have hk : k = 12 := by omega
      refine lv_iload_n hx hb dX12_grimmest_5 rfl (lv_at hl 3 rfl) ?_
      refine lv_bipush (v := 12) hx hb dX12_grimmest_6 (by decide) ?_
      refine lv_icmp_ge (tgt := 36) hx hb dX12_grimmest_8 (by decide) (fun c1 => ?_) (fun c1 => ?_)
      · have c1 : 12 ≤ k := (gLe (a := 12) (b := k) rfl rfl (by omega) (by omega)).mp c1
        refine lv_iload_n hx hb dX12_grimmest_36 rfl (lv_at hl 1 rfl) ?_
        refine lv_if_ne (tgt := 44) hx hb dX12_grimmest_37 (by decide) (fun c2 => ?_) (fun c2 => ?_)
        · refine lv_iload_n hx hb dX12_grimmest_44 rfl (lv_at hl 2 rfl) ?_
          rw [← hQ]
          exact g_iret hx hb hr hlk hS dX12_grimmest_45 (by rw [gGrim, if_neg c2, hk])
        · refine lv_iconst (v := 0) hx hb dX12_grimmest_40 (by decide) ?_
          refine lv_goto (tgt := 45) hx hb dX12_grimmest_41 (by decide) ?_
          rw [← hQ]
          exact g_iret hx hb hr hlk hS dX12_grimmest_45 (by rw [gGrim, if_pos c2])
      · have c1 : ¬ 12 ≤ k := fun z => c1 ((gLe (a := 12) (b := k) rfl rfl (by omega) (by omega)).mpr z)
        exact absurd c1 (by omega)
    | succ d ih =>
      intro k hk   H locs h1 hS ls hl
      refine lv_iload_n hx hb dX12_grimmest_5 rfl (lv_at hl 3 rfl) ?_
      refine lv_bipush (v := 12) hx hb dX12_grimmest_6 (by decide) ?_
      refine lv_icmp_ge (tgt := 36) hx hb dX12_grimmest_8 (by decide) (fun c3 => ?_) (fun c3 => ?_)
      · have c3 : 12 ≤ k := (gLe (a := 12) (b := k) rfl rfl (by omega) (by omega)).mp c3
        exact absurd c3 (by omega)
      · have c3 : ¬ 12 ≤ k := fun z => c3 ((gLe (a := 12) (b := k) rfl rfl (by omega) (by omega)).mpr z)
        refine lv_iload_n hx hb dX12_grimmest_11 rfl (lv_at hl 1 rfl) ?_
        refine lv_iload_n hx hb dX12_grimmest_12 rfl (lv_at hl 3 rfl) ?_
        refine g_ki (g_runS (rest := []) hx hb hml hown hE hT (c_X12_has l G ws k) gM_X12_has gm_X12_223 gt_X12_has trivial rfl hl.1 ⟨rfl, rfl⟩ ⟨Nat.le_of_ble_eq_true rfl, Nat.le_of_ble_eq_true rfl⟩ ⟨Nat.zero_le _, Nat.zero_le _⟩ rfl (Nat.le_of_ble_eq_true rfl) dX12_grimmest_13) hS (fun _ h => h.elim) (fun r7 H4 locs q5 k6 hS => ?_)
        subst q5
        have h1 := gSg_free h1 k6 (by intro k hk q; simp only [List.length_cons, List.length_nil] at hk; omega)
        refine lv_if_eq (tgt := 30) hx hb dX12_grimmest_16 (by decide) (fun c8 => ?_) (fun c8 => ?_)
        · have c8 : ¬ (¬ ws >>> (nI k &&& 31) &&& 1 = 0) := gB_0.mp c8
          refine lv_iinc (v := nI (k + 1)) (lv' := [(3, .int (nI (k + 1))), (0, .ref b), (1, .int ws), (2, .int (gLst (π 0) ws k))]) hx hb dX12_grimmest_30 hl (k := 3) rfl (gAdd rfl (show Int32.ofInt 1 = nI 1 from rfl)) (by decide) rfl (fun ls hl => ?_)
          refine lv_goto (tgt := 5) hx hb dX12_grimmest_33 (by decide) ?_
          exact ih (k + 1) (by omega)   _ _ h1 hS _ (by have hl := lv_sub hl [1, 2, 3, 0] rfl; rw [show (gLst (π 0) ws k : Int32) = gLst (π 0) ws (k + 1) from by rw [gLst, if_pos (Decidable.not_not.mp c8)]] at hl; exact hl)
        · have c8 : ¬ ws >>> (nI k &&& 31) &&& 1 = 0 := gB_1.mp c8
          refine lv_iload_n hx hb dX12_grimmest_19 rfl (lv_at hl 2 rfl) ?_
          refine lv_aload_n hx hb dX12_grimmest_20 rfl (lv_at hl 0 rfl) ?_
          refine g_get (v := .ref (b + 1)) (T := TX12) (ci := 12) (N := 45) hx hb hown hK (gY_X12 hT) rfl (h1 0 _ rfl) 0 (by decide) (hT _ gf_X12_9) rfl dX12_grimmest_21 ?_
          refine lv_iload_n hx hb dX12_grimmest_24 rfl (lv_at hl 3 rfl) ?_
          refine g_ia (j := k) (v := π 0 k) hx hb hK (h1 1 _ rfl) rfl (by omega) (Nat.le_of_ble_eq_true rfl) rfl dX12_grimmest_25 ?_
          refine va_mmin hx hb (hml.trans hl.1.symm) hown (hT _ gm_X12_230) (hT _ gt_Lib_Math_min_name) (hT _ gn_java_lang_Math) (hT _ gc_Lib_Math_min_name) (Nat.le_of_ble_eq_true rfl) (Nat.le_of_ble_eq_true rfl) (Nat.zero_le _) (Nat.zero_le _) dX12_grimmest_26 ?_
          refine lv_istore_n (lv' := [(2, .int (if π 0 k < gLst (π 0) ws k then π 0 k else gLst (π 0) ws k)), (0, .ref b), (1, .int ws), (3, .int (nI k))]) hx hb dX12_grimmest_29 rfl hl (by decide) rfl (fun ls hl => ?_)
          refine lv_iinc (v := nI (k + 1)) (lv' := [(3, .int (nI (k + 1))), (2, .int (if π 0 k < gLst (π 0) ws k then π 0 k else gLst (π 0) ws k)), (0, .ref b), (1, .int ws)]) hx hb dX12_grimmest_30 hl (k := 3) rfl (gAdd rfl (show Int32.ofInt 1 = nI 1 from rfl)) (by decide) rfl (fun ls hl => ?_)
          refine lv_goto (tgt := 5) hx hb dX12_grimmest_33 (by decide) ?_
          exact ih (k + 1) (by omega)   _ _ h1 hS _ (by have hl := lv_sub hl [2, 3, 1, 0] rfl; rw [show (if π 0 k < gLst (π 0) ws k then π 0 k else gLst (π 0) ws k : Int32) = gLst (π 0) ws (k + 1) from by rw [gLst, if_neg c8]] at hl; exact hl)
  exact loop (12 - 0) 0 (by first | omega | simp)  _ _ h1 hS _ (lv_sub hl [2, 3, 1, 0] rfl)
