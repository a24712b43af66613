set_option maxHeartbeats 4000000 in
set_option maxRecDepth 100000 in
theorem c_X9_becomes (l : Launch) (G : gW) (t u lp lq : Nat) (π ρ π' ρ' : gPS) (hd : t + 35 ≤ u ∨ u + 35 ≤ t) (zs zp zb : Nat) (hzs : π' 15 3 = nI zs) (lzs : zs ≤ 5) (hzp : π' 15 4 = nI zp) (lzp : zp ≤ 10) (hzb : π' 15 5 = nI zb) (lzb : zb ≤ 8) : gCV l yX9_becomes cX9_becomes 2 (gRm 1 40) G [.ref t, .ref u] (fun H => gSg G t (gLS G t π lp ρ) H ∧ gSg G u (gLS G u π' lq ρ') H) (fun H => ∃ ρ9 : gPS, gRw ρ9 ρ' zs zp zb ∧ gSg G t (gLS G t π' lq ρ9) H) (fun q => t ≤ q ∧ q < t + 22) := by
  refine g_start (by decide) (Nat.le_of_ble_eq_true rfl) ?_
  intro pp_ ee_ s mm_ aa_ below meth cc_ ls Q hQ hX hE hP hl
  obtain ⟨hx, hb, hr, hml, hown, hT, hlk, hnm⟩ := hX
  have hK := hE.2.1
  obtain ⟨h1, h2⟩ := hP
  have hS : va_S (fun q => t ≤ q ∧ q < t + 22) s.heap s.heap [] := va_S.rf
  have hl : lv_has ls 2 [(0, .ref t), (1, .ref u)] := hl
  refine lv_aload_n hx hb dX9_becomes_0 rfl (lv_at hl 1 rfl) ?_
  refine g_get (v := .ref (u + 2)) (T := TX9) (ci := 9) (N := 16) hx hb hown hK (gY_X9 hT) rfl (h2 0 _ rfl) 1 (by decide) (hT _ gf_X9_17) rfl dX9_becomes_1 ?_
  refine lv_iconst (v := 0) hx hb dX9_becomes_4 (by decide) ?_
  refine lv_aload_n hx hb dX9_becomes_5 rfl (lv_at hl 0 rfl) ?_
  refine g_get (v := .ref (t + 2)) (T := TX9) (ci := 9) (N := 16) hx hb hown hK (gY_X9 hT) rfl (h1 0 _ rfl) 1 (by decide) (hT _ gf_X9_17) rfl dX9_becomes_6 ?_
  refine lv_iconst (v := 0) hx hb dX9_becomes_9 (by decide) ?_
  refine lv_bipush (v := 12) hx hb dX9_becomes_10 (by decide) ?_
  refine g_cpi (i := 0) (j := 0) (k := 12) 0 hx hb hml hl.1 hown hT hK hS gm_X9_83 rfl rfl (h2 2 _ rfl) (h1 2 _ rfl) rfl rfl rfl (by omega) (by omega) (Nat.le_of_ble_eq_true rfl) (Nat.le_of_ble_eq_true rfl) (fun _ _ => rfl) (by omega) (Nat.le_of_ble_eq_true rfl) (Nat.le_of_ble_eq_true rfl) dX9_becomes_12 (fun H1 locs c2 oq hS => ?_)
  have h1 : gSg G t (gLS G t (gR π 0 (va_cpy (π' 0) (π 0) 0 0 12)) lp ρ) H1 := gSg_set h1 2 c2 oq
  have h2 := gSg_off h2 oq (by simp only [List.length_cons, List.length_nil]; omega)
  have h1 : gSg G t (gLS G t (gR π 0 (π' 0)) lp ρ) H1 := gSg_agr h1 2 rfl (fun j hj => gCpy_f j hj)
  refine lv_aload_n hx hb dX9_becomes_15 rfl (lv_at hl 1 rfl) ?_
  refine g_get (v := .ref (u + 3)) (T := TX9) (ci := 9) (N := 16) hx hb hown hK (gY_X9 hT) rfl (h2 0 _ rfl) 2 (by decide) (hT _ gf_X9_21) rfl dX9_becomes_16 ?_
  refine lv_iconst (v := 0) hx hb dX9_becomes_19 (by decide) ?_
  refine lv_aload_n hx hb dX9_becomes_20 rfl (lv_at hl 0 rfl) ?_
  refine g_get (v := .ref (t + 3)) (T := TX9) (ci := 9) (N := 16) hx hb hown hK (gY_X9 hT) rfl (h1 0 _ rfl) 2 (by decide) (hT _ gf_X9_21) rfl dX9_becomes_21 ?_
  refine lv_iconst (v := 0) hx hb dX9_becomes_24 (by decide) ?_
  refine lv_bipush (v := 12) hx hb dX9_becomes_25 (by decide) ?_
  refine g_cpi (i := 0) (j := 0) (k := 12) 0 hx hb hml hl.1 hown hT hK hS gm_X9_83 rfl rfl (h2 3 _ rfl) (h1 3 _ rfl) rfl rfl rfl (by omega) (by omega) (Nat.le_of_ble_eq_true rfl) (Nat.le_of_ble_eq_true rfl) (fun _ _ => rfl) (by omega) (Nat.le_of_ble_eq_true rfl) (Nat.le_of_ble_eq_true rfl) dX9_becomes_27 (fun H3 locs c4 oq hS => ?_)
  have h1 : gSg G t (gLS G t (gR (gR π 0 (π' 0)) 1 (va_cpy (π' 1) (π 1) 0 0 12)) lp ρ) H3 := gSg_set h1 3 c4 oq
  have h2 := gSg_off h2 oq (by simp only [List.length_cons, List.length_nil]; omega)
  have h1 : gSg G t (gLS G t (gR (gR π 0 (π' 0)) 1 (π' 1)) lp ρ) H3 := gSg_agr h1 3 rfl (fun j hj => gCpy_f j hj)
  refine lv_aload_n hx hb dX9_becomes_30 rfl (lv_at hl 1 rfl) ?_
  refine g_get (v := .ref (u + 4)) (T := TX9) (ci := 9) (N := 16) hx hb hown hK (gY_X9 hT) rfl (h2 0 _ rfl) 3 (by decide) (hT _ gf_X9_24) rfl dX9_becomes_31 ?_
  refine lv_iconst (v := 0) hx hb dX9_becomes_34 (by decide) ?_
  refine lv_aload_n hx hb dX9_becomes_35 rfl (lv_at hl 0 rfl) ?_
  refine g_get (v := .ref (t + 4)) (T := TX9) (ci := 9) (N := 16) hx hb hown hK (gY_X9 hT) rfl (h1 0 _ rfl) 3 (by decide) (hT _ gf_X9_24) rfl dX9_becomes_36 ?_
  refine lv_iconst (v := 0) hx hb dX9_becomes_39 (by decide) ?_
  refine lv_bipush (v := 6) hx hb dX9_becomes_40 (by decide) ?_
  refine g_cpi (i := 0) (j := 0) (k := 6) 0 hx hb hml hl.1 hown hT hK hS gm_X9_83 rfl rfl (h2 4 _ rfl) (h1 4 _ rfl) rfl rfl rfl (by omega) (by omega) (Nat.le_of_ble_eq_true rfl) (Nat.le_of_ble_eq_true rfl) (fun _ _ => rfl) (by omega) (Nat.le_of_ble_eq_true rfl) (Nat.le_of_ble_eq_true rfl) dX9_becomes_42 (fun H5 locs c6 oq hS => ?_)
  have h1 : gSg G t (gLS G t (gR (gR (gR π 0 (π' 0)) 1 (π' 1)) 2 (va_cpy (π' 2) (π 2) 0 0 6)) lp ρ) H5 := gSg_set h1 4 c6 oq
  have h2 := gSg_off h2 oq (by simp only [List.length_cons, List.length_nil]; omega)
  have h1 : gSg G t (gLS G t (gR (gR (gR π 0 (π' 0)) 1 (π' 1)) 2 (π' 2)) lp ρ) H5 := gSg_agr h1 4 rfl (fun j hj => gCpy_f j hj)
  refine lv_aload_n hx hb dX9_becomes_45 rfl (lv_at hl 1 rfl) ?_
  refine g_get (v := .ref (u + 5)) (T := TX9) (ci := 9) (N := 16) hx hb hown hK (gY_X9 hT) rfl (h2 0 _ rfl) 4 (by decide) (hT _ gf_X9_27) rfl dX9_becomes_46 ?_
  refine lv_iconst (v := 0) hx hb dX9_becomes_49 (by decide) ?_
  refine lv_aload_n hx hb dX9_becomes_50 rfl (lv_at hl 0 rfl) ?_
  refine g_get (v := .ref (t + 5)) (T := TX9) (ci := 9) (N := 16) hx hb hown hK (gY_X9 hT) rfl (h1 0 _ rfl) 4 (by decide) (hT _ gf_X9_27) rfl dX9_becomes_51 ?_
  refine lv_iconst (v := 0) hx hb dX9_becomes_54 (by decide) ?_
  refine lv_bipush (v := 6) hx hb dX9_becomes_55 (by decide) ?_
  refine g_cpi (i := 0) (j := 0) (k := 6) 0 hx hb hml hl.1 hown hT hK hS gm_X9_83 rfl rfl (h2 5 _ rfl) (h1 5 _ rfl) rfl rfl rfl (by omega) (by omega) (Nat.le_of_ble_eq_true rfl) (Nat.le_of_ble_eq_true rfl) (fun _ _ => rfl) (by omega) (Nat.le_of_ble_eq_true rfl) (Nat.le_of_ble_eq_true rfl) dX9_becomes_57 (fun H7 locs c8 oq hS => ?_)
  have h1 : gSg G t (gLS G t (gR (gR (gR (gR π 0 (π' 0)) 1 (π' 1)) 2 (π' 2)) 3 (va_cpy (π' 3) (π 3) 0 0 6)) lp ρ) H7 := gSg_set h1 5 c8 oq
  have h2 := gSg_off h2 oq (by simp only [List.length_cons, List.length_nil]; omega)
  have h1 : gSg G t (gLS G t (gR (gR (gR (gR π 0 (π' 0)) 1 (π' 1)) 2 (π' 2)) 3 (π' 3)) lp ρ) H7 := gSg_agr h1 5 rfl (fun j hj => gCpy_f j hj)
  refine lv_aload_n hx hb dX9_becomes_60 rfl (lv_at hl 1 rfl) ?_
  refine g_get (v := .ref (u + 6)) (T := TX9) (ci := 9) (N := 16) hx hb hown hK (gY_X9 hT) rfl (h2 0 _ rfl) 5 (by decide) (hT _ gf_X9_30) rfl dX9_becomes_61 ?_
  refine lv_iconst (v := 0) hx hb dX9_becomes_64 (by decide) ?_
  refine lv_aload_n hx hb dX9_becomes_65 rfl (lv_at hl 0 rfl) ?_
  refine g_get (v := .ref (t + 6)) (T := TX9) (ci := 9) (N := 16) hx hb hown hK (gY_X9 hT) rfl (h1 0 _ rfl) 5 (by decide) (hT _ gf_X9_30) rfl dX9_becomes_66 ?_
  refine lv_iconst (v := 0) hx hb dX9_becomes_69 (by decide) ?_
  refine lv_bipush (v := 6) hx hb dX9_becomes_70 (by decide) ?_
  refine g_cpi (i := 0) (j := 0) (k := 6) 0 hx hb hml hl.1 hown hT hK hS gm_X9_83 rfl rfl (h2 6 _ rfl) (h1 6 _ rfl) rfl rfl rfl (by omega) (by omega) (Nat.le_of_ble_eq_true rfl) (Nat.le_of_ble_eq_true rfl) (fun _ _ => rfl) (by omega) (Nat.le_of_ble_eq_true rfl) (Nat.le_of_ble_eq_true rfl) dX9_becomes_72 (fun H9 locs c10 oq hS => ?_)
  have h1 : gSg G t (gLS G t (gR (gR (gR (gR (gR π 0 (π' 0)) 1 (π' 1)) 2 (π' 2)) 3 (π' 3)) 4 (va_cpy (π' 4) (π 4) 0 0 6)) lp ρ) H9 := gSg_set h1 6 c10 oq
  have h2 := gSg_off h2 oq (by simp only [List.length_cons, List.length_nil]; omega)
  have h1 : gSg G t (gLS G t (gR (gR (gR (gR (gR π 0 (π' 0)) 1 (π' 1)) 2 (π' 2)) 3 (π' 3)) 4 (π' 4)) lp ρ) H9 := gSg_agr h1 6 rfl (fun j hj => gCpy_f j hj)
  refine lv_aload_n hx hb dX9_becomes_75 rfl (lv_at hl 1 rfl) ?_
  refine g_get (v := .ref (u + 7)) (T := TX9) (ci := 9) (N := 16) hx hb hown hK (gY_X9 hT) rfl (h2 0 _ rfl) 6 (by decide) (hT _ gf_X9_33) rfl dX9_becomes_76 ?_
  refine lv_iconst (v := 0) hx hb dX9_becomes_79 (by decide) ?_
  refine lv_aload_n hx hb dX9_becomes_80 rfl (lv_at hl 0 rfl) ?_
  refine g_get (v := .ref (t + 7)) (T := TX9) (ci := 9) (N := 16) hx hb hown hK (gY_X9 hT) rfl (h1 0 _ rfl) 6 (by decide) (hT _ gf_X9_33) rfl dX9_becomes_81 ?_
  refine lv_iconst (v := 0) hx hb dX9_becomes_84 (by decide) ?_
  refine lv_bipush (v := 6) hx hb dX9_becomes_85 (by decide) ?_
  refine g_cpi (i := 0) (j := 0) (k := 6) 0 hx hb hml hl.1 hown hT hK hS gm_X9_83 rfl rfl (h2 7 _ rfl) (h1 7 _ rfl) rfl rfl rfl (by omega) (by omega) (Nat.le_of_ble_eq_true rfl) (Nat.le_of_ble_eq_true rfl) (fun _ _ => rfl) (by omega) (Nat.le_of_ble_eq_true rfl) (Nat.le_of_ble_eq_true rfl) dX9_becomes_87 (fun H11 locs c12 oq hS => ?_)
  have h1 : gSg G t (gLS G t (gR (gR (gR (gR (gR (gR π 0 (π' 0)) 1 (π' 1)) 2 (π' 2)) 3 (π' 3)) 4 (π' 4)) 5 (va_cpy (π' 5) (π 5) 0 0 6)) lp ρ) H11 := gSg_set h1 7 c12 oq
  have h2 := gSg_off h2 oq (by simp only [List.length_cons, List.length_nil]; omega)
  have h1 : gSg G t (gLS G t (gR (gR (gR (gR (gR (gR π 0 (π' 0)) 1 (π' 1)) 2 (π' 2)) 3 (π' 3)) 4 (π' 4)) 5 (π' 5)) lp ρ) H11 := gSg_agr h1 7 rfl (fun j hj => gCpy_f j hj)
  refine lv_aload_n hx hb dX9_becomes_90 rfl (lv_at hl 1 rfl) ?_
  refine g_get (v := .ref (u + 8)) (T := TX9) (ci := 9) (N := 16) hx hb hown hK (gY_X9 hT) rfl (h2 0 _ rfl) 7 (by decide) (hT _ gf_X9_36) rfl dX9_becomes_91 ?_
  refine lv_iconst (v := 0) hx hb dX9_becomes_94 (by decide) ?_
  refine lv_aload_n hx hb dX9_becomes_95 rfl (lv_at hl 0 rfl) ?_
  refine g_get (v := .ref (t + 8)) (T := TX9) (ci := 9) (N := 16) hx hb hown hK (gY_X9 hT) rfl (h1 0 _ rfl) 7 (by decide) (hT _ gf_X9_36) rfl dX9_becomes_96 ?_
  refine lv_iconst (v := 0) hx hb dX9_becomes_99 (by decide) ?_
  refine lv_bipush (v := 6) hx hb dX9_becomes_100 (by decide) ?_
  refine g_cpi (i := 0) (j := 0) (k := 6) 0 hx hb hml hl.1 hown hT hK hS gm_X9_83 rfl rfl (h2 8 _ rfl) (h1 8 _ rfl) rfl rfl rfl (by omega) (by omega) (Nat.le_of_ble_eq_true rfl) (Nat.le_of_ble_eq_true rfl) (fun _ _ => rfl) (by omega) (Nat.le_of_ble_eq_true rfl) (Nat.le_of_ble_eq_true rfl) dX9_becomes_102 (fun H13 locs c14 oq hS => ?_)
  have h1 : gSg G t (gLS G t (gR (gR (gR (gR (gR (gR (gR π 0 (π' 0)) 1 (π' 1)) 2 (π' 2)) 3 (π' 3)) 4 (π' 4)) 5 (π' 5)) 6 (va_cpy (π' 6) (π 6) 0 0 6)) lp ρ) H13 := gSg_set h1 8 c14 oq
  have h2 := gSg_off h2 oq (by simp only [List.length_cons, List.length_nil]; omega)
  have h1 : gSg G t (gLS G t (gR (gR (gR (gR (gR (gR (gR π 0 (π' 0)) 1 (π' 1)) 2 (π' 2)) 3 (π' 3)) 4 (π' 4)) 5 (π' 5)) 6 (π' 6)) lp ρ) H13 := gSg_agr h1 8 rfl (fun j hj => gCpy_f j hj)
  refine lv_aload_n hx hb dX9_becomes_105 rfl (lv_at hl 1 rfl) ?_
  refine g_get (v := .ref (u + 9)) (T := TX9) (ci := 9) (N := 16) hx hb hown hK (gY_X9 hT) rfl (h2 0 _ rfl) 8 (by decide) (hT _ gf_X9_39) rfl dX9_becomes_106 ?_
  refine lv_iconst (v := 0) hx hb dX9_becomes_109 (by decide) ?_
  refine lv_aload_n hx hb dX9_becomes_110 rfl (lv_at hl 0 rfl) ?_
  refine g_get (v := .ref (t + 9)) (T := TX9) (ci := 9) (N := 16) hx hb hown hK (gY_X9 hT) rfl (h1 0 _ rfl) 8 (by decide) (hT _ gf_X9_39) rfl dX9_becomes_111 ?_
  refine lv_iconst (v := 0) hx hb dX9_becomes_114 (by decide) ?_
  refine lv_bipush (v := 24) hx hb dX9_becomes_115 (by decide) ?_
  refine g_cpi (i := 0) (j := 0) (k := 24) 0 hx hb hml hl.1 hown hT hK hS gm_X9_83 rfl rfl (h2 9 _ rfl) (h1 9 _ rfl) rfl rfl rfl (by omega) (by omega) (Nat.le_of_ble_eq_true rfl) (Nat.le_of_ble_eq_true rfl) (fun _ _ => rfl) (by omega) (Nat.le_of_ble_eq_true rfl) (Nat.le_of_ble_eq_true rfl) dX9_becomes_117 (fun H15 locs c16 oq hS => ?_)
  have h1 : gSg G t (gLS G t (gR (gR (gR (gR (gR (gR (gR (gR π 0 (π' 0)) 1 (π' 1)) 2 (π' 2)) 3 (π' 3)) 4 (π' 4)) 5 (π' 5)) 6 (π' 6)) 7 (va_cpy (π' 7) (π 7) 0 0 24)) lp ρ) H15 := gSg_set h1 9 c16 oq
  have h2 := gSg_off h2 oq (by simp only [List.length_cons, List.length_nil]; omega)
  have h1 : gSg G t (gLS G t (gR (gR (gR (gR (gR (gR (gR (gR π 0 (π' 0)) 1 (π' 1)) 2 (π' 2)) 3 (π' 3)) 4 (π' 4)) 5 (π' 5)) 6 (π' 6)) 7 (π' 7)) lp ρ) H15 := gSg_agr h1 9 rfl (fun j hj => gCpy_f j hj)
  refine lv_aload_n hx hb dX9_becomes_120 rfl (lv_at hl 0 rfl) ?_
  refine g_get (v := .ref (t + 10)) (T := TX9) (ci := 9) (N := 16) hx hb hown hK (gY_X9 hT) rfl (h1 0 _ rfl) 9 (by decide) (hT _ gf_X9_47) rfl dX9_becomes_121 ?_
  refine lv_aload_n hx hb dX9_becomes_124 rfl (lv_at hl 1 rfl) ?_
  refine g_get (v := .ref (u + 10)) (T := TX9) (ci := 9) (N := 16) hx hb hown hK (gY_X9 hT) rfl (h2 0 _ rfl) 9 (by decide) (hT _ gf_X9_47) rfl dX9_becomes_125 ?_
  refine g_kv (g_runV (T := TX8) (ci := 8) (N := 4) (rest := []) hx hb hml hown hE hT (c_X8_becomeAs_seen l G t u lp lq (gR (gR (gR (gR (gR (gR (gR (gR π 0 (π' 0)) 1 (π' 1)) 2 (π' 2)) 3 (π' 3)) 4 (π' 4)) 5 (π' 5)) 6 (π' 6)) 7 (π' 7)) ρ π' ρ' hd zs hzs lzs) gM_X8_becomeAs gm_X9_89 gi_X8_becomeAs gs_RX8_yX8_becomeAs_yX8_becomeAs rfl (h1 10 _ rfl) ⟨h1, h2⟩ rfl hl.1 ⟨rfl, rfl⟩ ⟨Nat.le_of_ble_eq_true rfl, Nat.le_of_ble_eq_true rfl⟩ ⟨Nat.zero_le _, Nat.zero_le _⟩ rfl (Nat.le_of_ble_eq_true rfl) dX9_becomes_128) hS (by intro q hq; omega) (fun H17 locs q18 k19 hS => ?_)
  obtain ⟨V0, V1, V2, iV0, iV1, iV2, h1⟩ := q18
  have h2 := gSg_free h2 k19 (by intro k hk q; simp only [List.length_cons, List.length_nil] at hk; omega)
  refine lv_aload_n hx hb dX9_becomes_131 rfl (lv_at hl 0 rfl) ?_
  refine g_get (v := .ref (t + 14)) (T := TX9) (ci := 9) (N := 16) hx hb hown hK (gY_X9 hT) rfl (h1 0 _ rfl) 10 (by decide) (hT _ gf_X9_51) rfl dX9_becomes_132 ?_
  refine lv_aload_n hx hb dX9_becomes_135 rfl (lv_at hl 1 rfl) ?_
  refine g_get (v := .ref (u + 14)) (T := TX9) (ci := 9) (N := 16) hx hb hown hK (gY_X9 hT) rfl (h2 0 _ rfl) 10 (by decide) (hT _ gf_X9_51) rfl dX9_becomes_136 ?_
  refine g_kv (g_runV (T := TX8) (ci := 8) (N := 4) (rest := []) hx hb hml hown hE hT (c_X8_becomeAs_plan l G t u lp lq (gU (gR (gR (gR (gR (gR (gR (gR (gR π 0 (π' 0)) 1 (π' 1)) 2 (π' 2)) 3 (π' 3)) 4 (π' 4)) 5 (π' 5)) 6 (π' 6)) 7 (π' 7)) 15 3 (π' 15 3)) (gR (gR (gR ρ 0 V0) 1 V1) 2 V2) π' ρ' hd zp hzp lzp) gM_X8_becomeAs gm_X9_89 gi_X8_becomeAs gs_RX8_yX8_becomeAs_yX8_becomeAs rfl (h1 14 _ rfl) ⟨h1, h2⟩ rfl hl.1 ⟨rfl, rfl⟩ ⟨Nat.le_of_ble_eq_true rfl, Nat.le_of_ble_eq_true rfl⟩ ⟨Nat.zero_le _, Nat.zero_le _⟩ rfl (Nat.le_of_ble_eq_true rfl) dX9_becomes_139) hS (by intro q hq; omega) (fun H21 locs q22 k23 hS => ?_)
  obtain ⟨V3, V4, V5, iV3, iV4, iV5, h1⟩ := q22
  have h2 := gSg_free h2 k23 (by intro k hk q; simp only [List.length_cons, List.length_nil] at hk; omega)
  refine lv_aload_n hx hb dX9_becomes_142 rfl (lv_at hl 0 rfl) ?_
  refine g_get (v := .ref (t + 18)) (T := TX9) (ci := 9) (N := 16) hx hb hown hK (gY_X9 hT) rfl (h1 0 _ rfl) 11 (by decide) (hT _ gf_X9_54) rfl dX9_becomes_143 ?_
  refine lv_aload_n hx hb dX9_becomes_146 rfl (lv_at hl 1 rfl) ?_
  refine g_get (v := .ref (u + 18)) (T := TX9) (ci := 9) (N := 16) hx hb hown hK (gY_X9 hT) rfl (h2 0 _ rfl) 11 (by decide) (hT _ gf_X9_54) rfl dX9_becomes_147 ?_
  refine g_kv (g_runV (T := TX8) (ci := 8) (N := 4) (rest := []) hx hb hml hown hE hT (c_X8_becomeAs_book l G t u lp lq (gU (gU (gR (gR (gR (gR (gR (gR (gR (gR π 0 (π' 0)) 1 (π' 1)) 2 (π' 2)) 3 (π' 3)) 4 (π' 4)) 5 (π' 5)) 6 (π' 6)) 7 (π' 7)) 15 3 (π' 15 3)) 15 4 (π' 15 4)) (gR (gR (gR (gR (gR (gR ρ 0 V0) 1 V1) 2 V2) 3 V3) 4 V4) 5 V5) π' ρ' hd zb hzb lzb) gM_X8_becomeAs gm_X9_89 gi_X8_becomeAs gs_RX8_yX8_becomeAs_yX8_becomeAs rfl (h1 18 _ rfl) ⟨h1, h2⟩ rfl hl.1 ⟨rfl, rfl⟩ ⟨Nat.le_of_ble_eq_true rfl, Nat.le_of_ble_eq_true rfl⟩ ⟨Nat.zero_le _, Nat.zero_le _⟩ rfl (Nat.le_of_ble_eq_true rfl) dX9_becomes_150) hS (by intro q hq; omega) (fun H25 locs q26 k27 hS => ?_)
  obtain ⟨V6, V7, V8, iV6, iV7, iV8, h1⟩ := q26
  have h2 := gSg_free h2 k27 (by intro k hk q; simp only [List.length_cons, List.length_nil] at hk; omega)
  refine lv_aload_n hx hb dX9_becomes_153 rfl (lv_at hl 0 rfl) ?_
  refine lv_aload_n hx hb dX9_becomes_154 rfl (lv_at hl 1 rfl) ?_
  refine g_get (v := .int (π' 15 0)) (T := TX9) (ci := 9) (N := 16) hx hb hown hK (gY_X9 hT) rfl (h2 0 _ rfl) 12 (by decide) (hT _ gf_X9_93) rfl dX9_becomes_155 ?_
  refine g_put (T := TX9) (ci := 9) (N := 16) (ty0 := tyX9) hx hb hown hK hS (gY_X9 hT) tyX9_ok nmX9 rfl (h1 0 _ rfl) 12 (by decide) (hT _ gf_X9_93) rfl rfl rfl (Nat.le_of_ble_eq_true rfl) (by omega) dX9_becomes_158 (fun H29 locs c30 oq hS => ?_)
  have h1 : gSg G t (gLS G t (gU (gU (gU (gU (gR (gR (gR (gR (gR (gR (gR (gR π 0 (π' 0)) 1 (π' 1)) 2 (π' 2)) 3 (π' 3)) 4 (π' 4)) 5 (π' 5)) 6 (π' 6)) 7 (π' 7)) 15 3 (π' 15 3)) 15 4 (π' 15 4)) 15 5 (π' 15 5)) 15 0 (π' 15 0)) lp (gR (gR (gR (gR (gR (gR (gR (gR (gR ρ 0 V0) 1 V1) 2 V2) 3 V3) 4 V4) 5 V5) 6 V6) 7 V7) 8 V8)) H29 := gSg_set h1 0 c30 oq
  have h2 := gSg_off h2 oq (by simp only [List.length_cons, List.length_nil]; omega)
  refine lv_aload_n hx hb dX9_becomes_161 rfl (lv_at hl 0 rfl) ?_
  refine lv_aload_n hx hb dX9_becomes_162 rfl (lv_at hl 1 rfl) ?_
  refine g_get (v := .int (π' 15 1)) (T := TX9) (ci := 9) (N := 16) hx hb hown hK (gY_X9 hT) rfl (h2 0 _ rfl) 13 (by decide) (hT _ gf_X9_97) rfl dX9_becomes_163 ?_
  refine g_put (T := TX9) (ci := 9) (N := 16) (ty0 := tyX9) hx hb hown hK hS (gY_X9 hT) tyX9_ok nmX9 rfl (h1 0 _ rfl) 13 (by decide) (hT _ gf_X9_97) rfl rfl rfl (Nat.le_of_ble_eq_true rfl) (by omega) dX9_becomes_166 (fun H31 locs c32 oq hS => ?_)
  have h1 : gSg G t (gLS G t (gU (gU (gU (gU (gU (gR (gR (gR (gR (gR (gR (gR (gR π 0 (π' 0)) 1 (π' 1)) 2 (π' 2)) 3 (π' 3)) 4 (π' 4)) 5 (π' 5)) 6 (π' 6)) 7 (π' 7)) 15 3 (π' 15 3)) 15 4 (π' 15 4)) 15 5 (π' 15 5)) 15 0 (π' 15 0)) 15 1 (π' 15 1)) lp (gR (gR (gR (gR (gR (gR (gR (gR (gR ρ 0 V0) 1 V1) 2 V2) 3 V3) 4 V4) 5 V5) 6 V6) 7 V7) 8 V8)) H31 := gSg_set h1 0 c32 oq
  have h2 := gSg_off h2 oq (by simp only [List.length_cons, List.length_nil]; omega)
  refine lv_aload_n hx hb dX9_becomes_169 rfl (lv_at hl 0 rfl) ?_
  refine lv_aload_n hx hb dX9_becomes_170 rfl (lv_at hl 1 rfl) ?_
  refine g_get (v := .int (π' 15 2)) (T := TX9) (ci := 9) (N := 16) hx hb hown hK (gY_X9 hT) rfl (h2 0 _ rfl) 14 (by decide) (hT _ gf_X9_100) rfl dX9_becomes_171 ?_
  refine g_put (T := TX9) (ci := 9) (N := 16) (ty0 := tyX9) hx hb hown hK hS (gY_X9 hT) tyX9_ok nmX9 rfl (h1 0 _ rfl) 14 (by decide) (hT _ gf_X9_100) rfl rfl rfl (Nat.le_of_ble_eq_true rfl) (by omega) dX9_becomes_174 (fun H33 locs c34 oq hS => ?_)
  have h1 : gSg G t (gLS G t (gU (gU (gU (gU (gU (gU (gR (gR (gR (gR (gR (gR (gR (gR π 0 (π' 0)) 1 (π' 1)) 2 (π' 2)) 3 (π' 3)) 4 (π' 4)) 5 (π' 5)) 6 (π' 6)) 7 (π' 7)) 15 3 (π' 15 3)) 15 4 (π' 15 4)) 15 5 (π' 15 5)) 15 0 (π' 15 0)) 15 1 (π' 15 1)) 15 2 (π' 15 2)) lp (gR (gR (gR (gR (gR (gR (gR (gR (gR ρ 0 V0) 1 V1) 2 V2) 3 V3) 4 V4) 5 V5) 6 V6) 7 V7) 8 V8)) H33 := gSg_set h1 0 c34 oq
  have h2 := gSg_off h2 oq (by simp only [List.length_cons, List.length_nil]; omega)
  refine lv_aload_n hx hb dX9_becomes_177 rfl (lv_at hl 0 rfl) ?_
  refine lv_aload_n hx hb dX9_becomes_178 rfl (lv_at hl 1 rfl) ?_
  refine g_get (v := .ref lq) (T := TX9) (ci := 9) (N := 16) hx hb hown hK (gY_X9 hT) rfl (h2 0 _ rfl) 15 (by decide) (hT _ gf_X9_60) rfl dX9_becomes_179 ?_
  refine g_put (T := TX9) (ci := 9) (N := 16) (ty0 := tyX9) hx hb hown hK hS (gY_X9 hT) tyX9_ok nmX9 rfl (h1 0 _ rfl) 15 (by decide) (hT _ gf_X9_60) rfl rfl rfl (Nat.le_of_ble_eq_true rfl) (by omega) dX9_becomes_182 (fun H35 locs c36 oq hS => ?_)
  have h1 : gSg G t (gLS G t (gU (gU (gU (gU (gU (gU (gR (gR (gR (gR (gR (gR (gR (gR π 0 (π' 0)) 1 (π' 1)) 2 (π' 2)) 3 (π' 3)) 4 (π' 4)) 5 (π' 5)) 6 (π' 6)) 7 (π' 7)) 15 3 (π' 15 3)) 15 4 (π' 15 4)) 15 5 (π' 15 5)) 15 0 (π' 15 0)) 15 1 (π' 15 1)) 15 2 (π' 15 2)) lq (gR (gR (gR (gR (gR (gR (gR (gR (gR ρ 0 V0) 1 V1) 2 V2) 3 V3) 4 V4) 5 V5) 6 V6) 7 V7) 8 V8)) H35 := gSg_set h1 0 c36 oq
  have h2 := gSg_off h2 oq (by simp only [List.length_cons, List.length_nil]; omega)
  have h1 : gSg G t (gLS G t π' lq (gR (gR (gR (gR (gR (gR (gR (gR (gR ρ 0 V0) 1 V1) 2 V2) 3 V3) 4 V4) 5 V5) 6 V6) 7 V7) 8 V8)) H35 := h1
  rw [← hQ]
  exact g_vret hx hb hr hlk hS dX9_becomes_185 ⟨_, ⟨fun j hj => ⟨iV0 j hj, iV1 j hj, iV2 j hj⟩, fun j hj => ⟨iV3 j hj, iV4 j hj, iV5 j hj⟩, fun j hj => ⟨iV6 j hj, iV7 j hj, iV8 j hj⟩⟩, h1⟩

set_option maxHeartbeats 4000000 in
set_option maxRecDepth 100000 in
theorem c_X7_joyFrom (l : Launch) (G : gW) (b : Nat) (t lp : Nat) (π ρ : gPS) (p : Nat) (hp : p < 6) (sum ws : Int32) : gCI l yX7_joyFrom cX7_joyFrom 5 .int (gRm 0 0) G [.ref b, .int sum, .ref t, .int (nI p), .int ws] (fun H => gSg G t (gLS G t π lp ρ) H) (fun r H => r = sum) (fun _ => False) := by
  refine g_start (by decide) (Nat.le_of_ble_eq_true rfl) ?_
  intro pp_ ee_ s mm_ aa_ below meth cc_ ls Q hQ hX hE hP hl
  obtain ⟨hx, hb, hr, hml, hown, hT, hlk, hnm⟩ := hX
  have hK := hE.2.1
  have h1 := hP
  have hS : va_S (fun _ => False) s.heap s.heap [] := va_S.rf
  have hl : lv_has ls 5 [(0, .ref b), (1, .int sum), (2, .ref t), (3, .int (nI p)), (4, .int ws)] := hl
  refine lv_iload_n hx hb dX7_joyFrom_0 rfl (lv_at hl 1 rfl) ?_
  rw [← hQ]
  exact g_iret hx hb hr hlk hS dX7_joyFrom_1 rfl

set_option maxHeartbeats 4000000 in
set_option maxRecDepth 100000 in
theorem c_X2_joyFrom (l : Launch) (G : gW) (b : Nat) (t lp : Nat) (π ρ : gPS) (p : Nat) (hp : p < 6) (sum ws : Int32) : gCI l yX2_joyFrom cX2_joyFrom 5 .int (gRm 0 0) G [.ref b, .int sum, .ref t, .int (nI p), .int ws] (fun H => gSg G t (gLS G t π lp ρ) H) (fun r H => r = sum + π 3 p) (fun _ => False) := by
  refine g_start (by decide) (Nat.le_of_ble_eq_true rfl) ?_
  intro pp_ ee_ s mm_ aa_ below meth cc_ ls Q hQ hX hE hP hl
  obtain ⟨hx, hb, hr, hml, hown, hT, hlk, hnm⟩ := hX
  have hK := hE.2.1
  have h1 := hP
  have hS : va_S (fun _ => False) s.heap s.heap [] := va_S.rf
  have hl : lv_has ls 5 [(0, .ref b), (1, .int sum), (2, .ref t), (3, .int (nI p)), (4, .int ws)] := hl
  refine lv_iload_n hx hb dX2_joyFrom_0 rfl (lv_at hl 1 rfl) ?_
  refine lv_aload_n hx hb dX2_joyFrom_1 rfl (lv_at hl 2 rfl) ?_
  refine g_get (v := .ref (t + 5)) (T := TX9) (ci := 9) (N := 16) hx hb hown hK (gY_X9 hT) rfl (h1 0 _ rfl) 4 (by decide) (hT _ gf_X2_7) rfl dX2_joyFrom_2 ?_
  refine lv_iload_n hx hb dX2_joyFrom_5 rfl (lv_at hl 3 rfl) ?_
  refine g_ia (j := p) (v := π 3 p) hx hb hK (h1 5 _ rfl) rfl (by omega) (Nat.le_of_ble_eq_true rfl) rfl dX2_joyFrom_6 ?_
  refine lv_iadd hx hb dX2_joyFrom_7 ?_
  rw [← hQ]
  exact g_iret hx hb hr hlk hS dX2_joyFrom_8 rfl

set_option maxHeartbeats 4000000 in
set_option maxRecDepth 100000 in
theorem c_X1_joyFrom (l : Launch) (G : gW) (b : Nat) (t lp : Nat) (π ρ : gPS) (p : Nat) (hp : p < 6) (sum ws : Int32) : gCI l yX1_joyFrom cX1_joyFrom 5 .int (gRm 0 0) G [.ref b, .int sum, .ref t, .int (nI p), .int ws] (fun H => gSg G t (gLS G t π lp ρ) H) (fun r H => r = sum / 2) (fun _ => False) := by
  refine g_start (by decide) (Nat.le_of_ble_eq_true rfl) ?_
  intro pp_ ee_ s mm_ aa_ below meth cc_ ls Q hQ hX hE hP hl
  obtain ⟨hx, hb, hr, hml, hown, hT, hlk, hnm⟩ := hX
  have hK := hE.2.1
  have h1 := hP
  have hS : va_S (fun _ => False) s.heap s.heap [] := va_S.rf
  have hl : lv_has ls 5 [(0, .ref b), (1, .int sum), (2, .ref t), (3, .int (nI p)), (4, .int ws)] := hl
  refine lv_iload_n hx hb dX1_joyFrom_0 rfl (lv_at hl 1 rfl) ?_
  refine lv_iconst (v := 2) hx hb dX1_joyFrom_1 (by decide) ?_
  refine lv_idiv hx hb dX1_joyFrom_2 (by decide) ?_
  rw [← hQ]
  exact g_iret hx hb hr hlk hS dX1_joyFrom_3 rfl

set_option maxHeartbeats 4000000 in
set_option maxRecDepth 100000 in
theorem c_X4_joyFrom (l : Launch) (G : gW) (b : Nat) (t lp : Nat) (π ρ : gPS) (p : Nat) (hp : p < 6) (sum ws : Int32) : gCI l yX4_joyFrom cX4_joyFrom 7 .int (gRm 0 0) G [.ref b, .int sum, .ref t, .int (nI p), .int ws] (fun H => gSg G t (gLS G t π lp ρ) H) (fun r H => r = sum - gGrim (π 0) ws) (fun _ => False) := by
  refine g_start (by decide) (Nat.le_of_ble_eq_true rfl) ?_
  intro pp_ ee_ s mm_ aa_ below meth cc_ ls Q hQ hX hE hP hl
  obtain ⟨hx, hb, hr, hml, hown, hT, hlk, hnm⟩ := hX
  have hK := hE.2.1
  have h1 := hP
  have hS : va_S (fun _ => False) s.heap s.heap [] := va_S.rf
  have hl : lv_has ls 7 [(0, .ref b), (1, .int sum), (2, .ref t), (3, .int (nI p)), (4, .int ws)] := hl
  refine lv_iload hx hb dX4_joyFrom_0 (lv_at hl 4 rfl) ?_
  refine lv_if_ne (tgt := 9) hx hb dX4_joyFrom_2 (by decide) (fun c1 => ?_) (fun c1 => ?_)
  · refine lv_bipush (v := 9) hx hb dX4_joyFrom_9 (by decide) ?_
    refine lv_istore (lv' := [(5, .int 9), (0, .ref b), (1, .int sum), (2, .ref t), (3, .int (nI p)), (4, .int ws)]) hx hb dX4_joyFrom_11 hl (by decide) rfl (fun ls hl => ?_)
    refine lv_iconst (v := 0) hx hb dX4_joyFrom_13 (by decide) ?_
    refine lv_istore (lv' := [(6, .int 0), (5, .int 9), (0, .ref b), (1, .int sum), (2, .ref t), (3, .int (nI p)), (4, .int ws)]) hx hb dX4_joyFrom_14 hl (by decide) rfl (fun ls hl => ?_)
    have loop9 : ∀ (d k : Nat), k + d = 12 → ∀ ls, lv_has ls 7 [(0, .ref b), (1, .int sum), (2, .ref t), (3, .int (nI p)), (4, .int ws), (5, .int (gLsA (π 0) ws 9 k)), (6, .int (nI k))] → W pp_ l ee_ (gRm 0 0) s mm_ aa_ below meth cc_ s.heap [] 0 0 Q (F0 mm_ 16 ls []) := by
      intro d
      induction d with
      | zero =>
        intro k hk   ls hl
        have hk : k = 12 := by omega
        refine lv_iload hx hb dX4_joyFrom_16 (lv_at hl 6 rfl) ?_
        refine lv_bipush (v := 12) hx hb dX4_joyFrom_18 (by decide) ?_
        refine lv_icmp_ge (tgt := 60) hx hb dX4_joyFrom_20 (by decide) (fun c2 => ?_) (fun c2 => ?_)
        · have c2 : 12 ≤ k := (gLe (a := 12) (b := k) rfl rfl (by omega) (by omega)).mp c2
          refine lv_iload_n hx hb dX4_joyFrom_60 rfl (lv_at hl 1 rfl) ?_
          refine lv_iload hx hb dX4_joyFrom_61 (lv_at hl 5 rfl) ?_
          refine lv_isub hx hb dX4_joyFrom_63 ?_
          rw [← hQ]
          exact g_iret hx hb hr hlk hS dX4_joyFrom_64 (by rw [hk, gGrm_9 c1])
        · have c2 : ¬ 12 ≤ k := fun z => c2 ((gLe (a := 12) (b := k) rfl rfl (by omega) (by omega)).mpr z)
          exact absurd c2 (by omega)
      | succ d ih =>
        intro k hk   ls hl
        refine lv_iload hx hb dX4_joyFrom_16 (lv_at hl 6 rfl) ?_
        refine lv_bipush (v := 12) hx hb dX4_joyFrom_18 (by decide) ?_
        refine lv_icmp_ge (tgt := 60) hx hb dX4_joyFrom_20 (by decide) (fun c3 => ?_) (fun c3 => ?_)
        · have c3 : 12 ≤ k := (gLe (a := 12) (b := k) rfl rfl (by omega) (by omega)).mp c3
          exact absurd c3 (by omega)
        · have c3 : ¬ 12 ≤ k := fun z => c3 ((gLe (a := 12) (b := k) rfl rfl (by omega) (by omega)).mpr z)
          refine lv_iload hx hb dX4_joyFrom_23 (lv_at hl 4 rfl) ?_
          refine lv_iload hx hb dX4_joyFrom_25 (lv_at hl 6 rfl) ?_
          refine lv_ishr hx hb dX4_joyFrom_27 ?_
          refine lv_iconst (v := 1) hx hb dX4_joyFrom_28 (by decide) ?_
          refine lv_iand hx hb dX4_joyFrom_29 ?_
          refine lv_if_eq (tgt := 54) hx hb dX4_joyFrom_30 (by decide) (fun c4 => ?_) (fun c4 => ?_)
          · refine lv_iinc (v := nI (k + 1)) (lv' := [(6, .int (nI (k + 1))), (0, .ref b), (1, .int sum), (2, .ref t), (3, .int (nI p)), (4, .int ws), (5, .int (gLsA (π 0) ws 9 k))]) hx hb dX4_joyFrom_54 hl (k := 6) rfl (gAdd rfl (show Int32.ofInt 1 = nI 1 from rfl)) (by decide) rfl (fun ls hl => ?_)
            refine lv_goto (tgt := 16) hx hb dX4_joyFrom_57 (by decide) ?_
            exact ih (k + 1) (by omega)   _ (by have hl := lv_sub hl [1, 2, 3, 4, 5, 6, 0] rfl; rw [show (gLsA (π 0) ws 9 k : Int32) = gLsA (π 0) ws 9 (k + 1) from by rw [gLsA, if_pos c4]] at hl; exact hl)
          · refine lv_aload_n hx hb dX4_joyFrom_33 rfl (lv_at hl 2 rfl) ?_
            refine g_get (v := .ref (t + 2)) (T := TX9) (ci := 9) (N := 16) hx hb hown hK (gY_X9 hT) rfl (h1 0 _ rfl) 1 (by decide) (hT _ gf_X4_9) rfl dX4_joyFrom_34 ?_
            refine lv_iload hx hb dX4_joyFrom_37 (lv_at hl 6 rfl) ?_
            refine g_ia (j := k) (v := π 0 k) hx hb hK (h1 2 _ rfl) rfl (by omega) (Nat.le_of_ble_eq_true rfl) rfl dX4_joyFrom_39 ?_
            refine lv_iload hx hb dX4_joyFrom_40 (lv_at hl 5 rfl) ?_
            refine lv_icmp_ge (tgt := 54) hx hb dX4_joyFrom_42 (by decide) (fun c5 => ?_) (fun c5 => ?_)
            · refine lv_iinc (v := nI (k + 1)) (lv' := [(6, .int (nI (k + 1))), (0, .ref b), (1, .int sum), (2, .ref t), (3, .int (nI p)), (4, .int ws), (5, .int (gLsA (π 0) ws 9 k))]) hx hb dX4_joyFrom_54 hl (k := 6) rfl (gAdd rfl (show Int32.ofInt 1 = nI 1 from rfl)) (by decide) rfl (fun ls hl => ?_)
              refine lv_goto (tgt := 16) hx hb dX4_joyFrom_57 (by decide) ?_
              exact ih (k + 1) (by omega)   _ (by have hl := lv_sub hl [1, 2, 3, 4, 5, 6, 0] rfl; rw [show (gLsA (π 0) ws 9 k : Int32) = gLsA (π 0) ws 9 (k + 1) from by rw [gLsA, if_neg c4, if_neg (Int32.not_lt.mpr c5)]] at hl; exact hl)
            · refine lv_aload_n hx hb dX4_joyFrom_45 rfl (lv_at hl 2 rfl) ?_
              refine g_get (v := .ref (t + 2)) (T := TX9) (ci := 9) (N := 16) hx hb hown hK (gY_X9 hT) rfl (h1 0 _ rfl) 1 (by decide) (hT _ gf_X4_9) rfl dX4_joyFrom_46 ?_
              refine lv_iload hx hb dX4_joyFrom_49 (lv_at hl 6 rfl) ?_
              refine g_ia (j := k) (v := π 0 k) hx hb hK (h1 2 _ rfl) rfl (by omega) (Nat.le_of_ble_eq_true rfl) rfl dX4_joyFrom_51 ?_
              refine lv_istore (lv' := [(5, .int (π 0 k)), (0, .ref b), (1, .int sum), (2, .ref t), (3, .int (nI p)), (4, .int ws), (6, .int (nI k))]) hx hb dX4_joyFrom_52 hl (by decide) rfl (fun ls hl => ?_)
              refine lv_iinc (v := nI (k + 1)) (lv' := [(6, .int (nI (k + 1))), (5, .int (π 0 k)), (0, .ref b), (1, .int sum), (2, .ref t), (3, .int (nI p)), (4, .int ws)]) hx hb dX4_joyFrom_54 hl (k := 6) rfl (gAdd rfl (show Int32.ofInt 1 = nI 1 from rfl)) (by decide) rfl (fun ls hl => ?_)
              refine lv_goto (tgt := 16) hx hb dX4_joyFrom_57 (by decide) ?_
              exact ih (k + 1) (by omega)   _ (by have hl := lv_sub hl [2, 3, 4, 5, 6, 1, 0] rfl; rw [show (π 0 k : Int32) = gLsA (π 0) ws 9 (k + 1) from by rw [gLsA, if_neg c4, if_pos (Int32.not_le.mp c5)]] at hl; exact hl)
    exact loop9 (12 - 0) 0 (by first | omega | simp)  _ (lv_sub hl [2, 3, 4, 5, 6, 1, 0] rfl)
  · refine lv_iconst (v := 0) hx hb dX4_joyFrom_5 (by decide) ?_
    refine lv_goto (tgt := 11) hx hb dX4_joyFrom_6 (by decide) ?_
    refine lv_istore (lv' := [(5, .int 0), (0, .ref b), (1, .int sum), (2, .ref t), (3, .int (nI p)), (4, .int ws)]) hx hb dX4_joyFrom_11 hl (by decide) rfl (fun ls hl => ?_)
    refine lv_iconst (v := 0) hx hb dX4_joyFrom_13 (by decide) ?_
    refine lv_istore (lv' := [(6, .int 0), (5, .int 0), (0, .ref b), (1, .int sum), (2, .ref t), (3, .int (nI p)), (4, .int ws)]) hx hb dX4_joyFrom_14 hl (by decide) rfl (fun ls hl => ?_)
    have loop0 : ∀ (d k : Nat), k + d = 12 → ∀ ls, lv_has ls 7 [(0, .ref b), (1, .int sum), (2, .ref t), (3, .int (nI p)), (4, .int ws), (5, .int (gLsA (π 0) ws 0 k)), (6, .int (nI k))] → W pp_ l ee_ (gRm 0 0) s mm_ aa_ below meth cc_ s.heap [] 0 0 Q (F0 mm_ 16 ls []) := by
      intro d
      induction d with
      | zero =>
        intro k hk   ls hl
        have hk : k = 12 := by omega
        refine lv_iload hx hb dX4_joyFrom_16 (lv_at hl 6 rfl) ?_
        refine lv_bipush (v := 12) hx hb dX4_joyFrom_18 (by decide) ?_
        refine lv_icmp_ge (tgt := 60) hx hb dX4_joyFrom_20 (by decide) (fun c6 => ?_) (fun c6 => ?_)
        · have c6 : 12 ≤ k := (gLe (a := 12) (b := k) rfl rfl (by omega) (by omega)).mp c6
          refine lv_iload_n hx hb dX4_joyFrom_60 rfl (lv_at hl 1 rfl) ?_
          refine lv_iload hx hb dX4_joyFrom_61 (lv_at hl 5 rfl) ?_
          refine lv_isub hx hb dX4_joyFrom_63 ?_
          rw [← hQ]
          exact g_iret hx hb hr hlk hS dX4_joyFrom_64 (by rw [hk, gGrm_0 c1])
        · have c6 : ¬ 12 ≤ k := fun z => c6 ((gLe (a := 12) (b := k) rfl rfl (by omega) (by omega)).mpr z)
          exact absurd c6 (by omega)
      | succ d ih =>
        intro k hk   ls hl
        refine lv_iload hx hb dX4_joyFrom_16 (lv_at hl 6 rfl) ?_
        refine lv_bipush (v := 12) hx hb dX4_joyFrom_18 (by decide) ?_
        refine lv_icmp_ge (tgt := 60) hx hb dX4_joyFrom_20 (by decide) (fun c7 => ?_) (fun c7 => ?_)
        · have c7 : 12 ≤ k := (gLe (a := 12) (b := k) rfl rfl (by omega) (by omega)).mp c7
          exact absurd c7 (by omega)
        · have c7 : ¬ 12 ≤ k := fun z => c7 ((gLe (a := 12) (b := k) rfl rfl (by omega) (by omega)).mpr z)
          refine lv_iload hx hb dX4_joyFrom_23 (lv_at hl 4 rfl) ?_
          refine lv_iload hx hb dX4_joyFrom_25 (lv_at hl 6 rfl) ?_
          refine lv_ishr hx hb dX4_joyFrom_27 ?_
          refine lv_iconst (v := 1) hx hb dX4_joyFrom_28 (by decide) ?_
          refine lv_iand hx hb dX4_joyFrom_29 ?_
          refine lv_if_eq (tgt := 54) hx hb dX4_joyFrom_30 (by decide) (fun c8 => ?_) (fun c8 => ?_)
          · refine lv_iinc (v := nI (k + 1)) (lv' := [(6, .int (nI (k + 1))), (0, .ref b), (1, .int sum), (2, .ref t), (3, .int (nI p)), (4, .int ws), (5, .int (gLsA (π 0) ws 0 k))]) hx hb dX4_joyFrom_54 hl (k := 6) rfl (gAdd rfl (show Int32.ofInt 1 = nI 1 from rfl)) (by decide) rfl (fun ls hl => ?_)
            refine lv_goto (tgt := 16) hx hb dX4_joyFrom_57 (by decide) ?_
            exact ih (k + 1) (by omega)   _ (by have hl := lv_sub hl [1, 2, 3, 4, 5, 6, 0] rfl; rw [show (gLsA (π 0) ws 0 k : Int32) = gLsA (π 0) ws 0 (k + 1) from by rw [gLsA, if_pos c8]] at hl; exact hl)
          · refine lv_aload_n hx hb dX4_joyFrom_33 rfl (lv_at hl 2 rfl) ?_
            refine g_get (v := .ref (t + 2)) (T := TX9) (ci := 9) (N := 16) hx hb hown hK (gY_X9 hT) rfl (h1 0 _ rfl) 1 (by decide) (hT _ gf_X4_9) rfl dX4_joyFrom_34 ?_
            refine lv_iload hx hb dX4_joyFrom_37 (lv_at hl 6 rfl) ?_
            refine g_ia (j := k) (v := π 0 k) hx hb hK (h1 2 _ rfl) rfl (by omega) (Nat.le_of_ble_eq_true rfl) rfl dX4_joyFrom_39 ?_
            refine lv_iload hx hb dX4_joyFrom_40 (lv_at hl 5 rfl) ?_
            refine lv_icmp_ge (tgt := 54) hx hb dX4_joyFrom_42 (by decide) (fun c9 => ?_) (fun c9 => ?_)
            · refine lv_iinc (v := nI (k + 1)) (lv' := [(6, .int (nI (k + 1))), (0, .ref b), (1, .int sum), (2, .ref t), (3, .int (nI p)), (4, .int ws), (5, .int (gLsA (π 0) ws 0 k))]) hx hb dX4_joyFrom_54 hl (k := 6) rfl (gAdd rfl (show Int32.ofInt 1 = nI 1 from rfl)) (by decide) rfl (fun ls hl => ?_)
              refine lv_goto (tgt := 16) hx hb dX4_joyFrom_57 (by decide) ?_
              exact ih (k + 1) (by omega)   _ (by have hl := lv_sub hl [1, 2, 3, 4, 5, 6, 0] rfl; rw [show (gLsA (π 0) ws 0 k : Int32) = gLsA (π 0) ws 0 (k + 1) from by rw [gLsA, if_neg c8, if_neg (Int32.not_lt.mpr c9)]] at hl; exact hl)
            · refine lv_aload_n hx hb dX4_joyFrom_45 rfl (lv_at hl 2 rfl) ?_
              refine g_get (v := .ref (t + 2)) (T := TX9) (ci := 9) (N := 16) hx hb hown hK (gY_X9 hT) rfl (h1 0 _ rfl) 1 (by decide) (hT _ gf_X4_9) rfl dX4_joyFrom_46 ?_
              refine lv_iload hx hb dX4_joyFrom_49 (lv_at hl 6 rfl) ?_
              refine g_ia (j := k) (v := π 0 k) hx hb hK (h1 2 _ rfl) rfl (by omega) (Nat.le_of_ble_eq_true rfl) rfl dX4_joyFrom_51 ?_
              refine lv_istore (lv' := [(5, .int (π 0 k)), (0, .ref b), (1, .int sum), (2, .ref t), (3, .int (nI p)), (4, .int ws), (6, .int (nI k))]) hx hb dX4_joyFrom_52 hl (by decide) rfl (fun ls hl => ?_)
              refine lv_iinc (v := nI (k + 1)) (lv' := [(6, .int (nI (k + 1))), (5, .int (π 0 k)), (0, .ref b), (1, .int sum), (2, .ref t), (3, .int (nI p)), (4, .int ws)]) hx hb dX4_joyFrom_54 hl (k := 6) rfl (gAdd rfl (show Int32.ofInt 1 = nI 1 from rfl)) (by decide) rfl (fun ls hl => ?_)
              refine lv_goto (tgt := 16) hx hb dX4_joyFrom_57 (by decide) ?_
              exact ih (k + 1) (by omega)   _ (by have hl := lv_sub hl [2, 3, 4, 5, 6, 1, 0] rfl; rw [show (π 0 k : Int32) = gLsA (π 0) ws 0 (k + 1) from by rw [gLsA, if_neg c8, if_pos (Int32.not_le.mp c9)]] at hl; exact hl)
    exact loop0 (12 - 0) 0 (by first | omega | simp)  _ (lv_sub hl [2, 3, 4, 5, 6, 1, 0] rfl)

set_option maxHeartbeats 4000000 in
set_option maxRecDepth 100000 in
theorem c_X3_joyFrom (l : Launch) (G : gW) (t lp : Nat) (π ρ : gPS) (p : Nat) (hp : p < 6) (sum ws : Int32) : gCI l yX3_joyFrom cX3_joyFrom 5 .int (gRm 1 24) G [.ref (t + 28 + 4), .int sum, .ref t, .int (nI p), .int ws] (fun H => gSg G t (gLS G t π lp ρ) H ∧ gSg G (t + 28) (gKk G (t + 28)) H) (fun r H => r = sum + π 3 p - 2 * π 5 p) (fun _ => False) := by
  refine g_start (by decide) (Nat.le_of_ble_eq_true rfl) ?_
  intro pp_ ee_ s mm_ aa_ below meth cc_ ls Q hQ hX hE hP hl
  obtain ⟨hx, hb, hr, hml, hown, hT, hlk, hnm⟩ := hX
  have hK := hE.2.1
  obtain ⟨h1, hk7⟩ := hP
  have hS : va_S (fun _ => False) s.heap s.heap [] := va_S.rf
  have hl : lv_has ls 5 [(0, .ref (t + 28 + 4)), (1, .int sum), (2, .ref t), (3, .int (nI p)), (4, .int ws)] := hl
  refine lv_aload_n hx hb dX3_joyFrom_0 rfl (lv_at hl 0 rfl) ?_
  refine lv_iload_n hx hb dX3_joyFrom_1 rfl (lv_at hl 1 rfl) ?_
  refine lv_aload_n hx hb dX3_joyFrom_2 rfl (lv_at hl 2 rfl) ?_
  refine lv_iload_n hx hb dX3_joyFrom_3 rfl (lv_at hl 3 rfl) ?_
  refine lv_iload hx hb dX3_joyFrom_4 (lv_at hl 4 rfl) ?_
  refine g_ki (g_runP (rest := []) (T := TX3) (ci := 3) (N := 0) (C := RX3) hx hb hml hown hE hT (c_X2_joyFrom l G (t + 28 + 4) t lp π ρ p hp sum ws) gM_X2_joyFrom gm_X3_7 gi_X2_joyFrom gx_246 gx_247 rfl (Or.inl rfl) (by decide) rfl (hk7 4 _ rfl) h1 rfl hl.1 ⟨rfl, rfl⟩ ⟨Nat.le_of_ble_eq_true rfl, Nat.le_of_ble_eq_true rfl⟩ ⟨Nat.zero_le _, Nat.zero_le _⟩ rfl (Nat.le_of_ble_eq_true rfl) dX3_joyFrom_6) hS (fun _ h => h.elim) (fun r4 H1 locs q2 k3 hS => ?_)
  subst q2
  have h1 := gSg_free h1 k3 (by intro k hk q; simp only [List.length_cons, List.length_nil] at hk; omega)
  have hk7 := gSg_free hk7 k3 (by intro k hk q; simp only [List.length_cons, List.length_nil] at hk; omega)
  refine lv_iconst (v := 2) hx hb dX3_joyFrom_9 (by decide) ?_
  refine lv_aload_n hx hb dX3_joyFrom_10 rfl (lv_at hl 2 rfl) ?_
  refine g_get (v := .ref (t + 7)) (T := TX9) (ci := 9) (N := 16) hx hb hown hK (gY_X9 hT) rfl (h1 0 _ rfl) 6 (by decide) (hT _ gf_X3_11) rfl dX3_joyFrom_11 ?_
  refine lv_iload_n hx hb dX3_joyFrom_14 rfl (lv_at hl 3 rfl) ?_
  refine g_ia (j := p) (v := π 5 p) hx hb hK (h1 7 _ rfl) rfl (by omega) (Nat.le_of_ble_eq_true rfl) rfl dX3_joyFrom_15 ?_
  refine lv_imul hx hb dX3_joyFrom_16 ?_
  refine lv_isub hx hb dX3_joyFrom_17 ?_
  rw [← hQ]
  exact g_iret hx hb hr hlk hS dX3_joyFrom_18 rfl

set_option maxHeartbeats 4000000 in
set_option maxRecDepth 100000 in
theorem c_X6_joyFrom (l : Launch) (G : gW) (t lp : Nat) (π ρ : gPS) (p : Nat) (hp : p < 6) (sum ws : Int32) : gCI l yX6_joyFrom cX6_joyFrom 5 .int (gRm 1 24) G [.ref (t + 28 + 5), .int sum, .ref t, .int (nI p), .int ws] (fun H => gSg G t (gLS G t π lp ρ) H ∧ gSg G (t + 28) (gKk G (t + 28)) H) (fun r H => r = sum / 2 + gBc (π 15 1)) (fun _ => False) := by
  refine g_start (by decide) (Nat.le_of_ble_eq_true rfl) ?_
  intro pp_ ee_ s mm_ aa_ below meth cc_ ls Q hQ hX hE hP hl
  obtain ⟨hx, hb, hr, hml, hown, hT, hlk, hnm⟩ := hX
  have hK := hE.2.1
  obtain ⟨h1, hk7⟩ := hP
  have hS : va_S (fun _ => False) s.heap s.heap [] := va_S.rf
  have hl : lv_has ls 5 [(0, .ref (t + 28 + 5)), (1, .int sum), (2, .ref t), (3, .int (nI p)), (4, .int ws)] := hl
  refine lv_aload_n hx hb dX6_joyFrom_0 rfl (lv_at hl 0 rfl) ?_
  refine lv_iload_n hx hb dX6_joyFrom_1 rfl (lv_at hl 1 rfl) ?_
  refine lv_aload_n hx hb dX6_joyFrom_2 rfl (lv_at hl 2 rfl) ?_
  refine lv_iload_n hx hb dX6_joyFrom_3 rfl (lv_at hl 3 rfl) ?_
  refine lv_iload hx hb dX6_joyFrom_4 (lv_at hl 4 rfl) ?_
  refine g_ki (g_runP (rest := []) (T := TX6) (ci := 6) (N := 0) (C := RX6) hx hb hml hown hE hT (c_X1_joyFrom l G (t + 28 + 5) t lp π ρ p hp sum ws) gM_X1_joyFrom gm_X6_7 gi_X1_joyFrom gx_257 gx_258 rfl (Or.inl rfl) (by decide) rfl (hk7 5 _ rfl) h1 rfl hl.1 ⟨rfl, rfl⟩ ⟨Nat.le_of_ble_eq_true rfl, Nat.le_of_ble_eq_true rfl⟩ ⟨Nat.zero_le _, Nat.zero_le _⟩ rfl (Nat.le_of_ble_eq_true rfl) dX6_joyFrom_6) hS (fun _ h => h.elim) (fun r4 H1 locs q2 k3 hS => ?_)
  subst q2
  have h1 := gSg_free h1 k3 (by intro k hk q; simp only [List.length_cons, List.length_nil] at hk; omega)
  have hk7 := gSg_free hk7 k3 (by intro k hk q; simp only [List.length_cons, List.length_nil] at hk; omega)
  refine lv_aload_n hx hb dX6_joyFrom_9 rfl (lv_at hl 2 rfl) ?_
  refine g_get (v := .int (π 15 1)) (T := TX9) (ci := 9) (N := 16) hx hb hown hK (gY_X9 hT) rfl (h1 0 _ rfl) 13 (by decide) (hT _ gf_X6_11) rfl dX6_joyFrom_10 ?_
  refine g_ki (g_runS (rest := [.int (sum / 2)]) hx hb hml hown hE hT (c_J6_bitCount_0f7a4 l G (π 15 1)) gM_J6_bitCount_0f7a4 gm_X6_17 gt_J6_bitCount_0f7a4 trivial rfl hl.1 ⟨rfl, rfl⟩ ⟨Nat.le_of_ble_eq_true rfl, Nat.le_of_ble_eq_true rfl⟩ ⟨Nat.zero_le _, Nat.zero_le _⟩ rfl (Nat.le_of_ble_eq_true rfl) dX6_joyFrom_13) hS (fun _ h => h.elim) (fun r8 H5 locs q6 k7 hS => ?_)
  subst q6
  have h1 := gSg_free h1 k7 (by intro k hk q; simp only [List.length_cons, List.length_nil] at hk; omega)
  have hk7 := gSg_free hk7 k7 (by intro k hk q; simp only [List.length_cons, List.length_nil] at hk; omega)
  refine lv_iadd hx hb dX6_joyFrom_16 ?_
  rw [← hQ]
  exact g_iret hx hb hr hlk hS dX6_joyFrom_17 rfl

set_option maxHeartbeats 4000000 in
set_option maxRecDepth 100000 in
theorem c_X10_joyFrom (l : Launch) (G : gW) (t lp : Nat) (π ρ : gPS) (p : Nat) (hp : p < 6) (sum ws : Int32) : gCI l yX10_joyFrom cX10_joyFrom 6 .int (gRm 1 26) G [.ref (t + 28 + 6), .int sum, .ref t, .int (nI p), .int ws] (fun H => gSg G t (gLS G t π lp ρ) H ∧ gSg G (t + 28) (gKk G (t + 28)) H) (fun r H => r = sum - gGrim (π 0) ws + π 7 (4 * p + (gBc ws).toNatClampNeg % 4)) (fun _ => False) := by
  refine g_start (by decide) (Nat.le_of_ble_eq_true rfl) ?_
  intro pp_ ee_ s mm_ aa_ below meth cc_ ls Q hQ hX hE hP hl
  obtain ⟨hx, hb, hr, hml, hown, hT, hlk, hnm⟩ := hX
  have hK := hE.2.1
  obtain ⟨h1, hk7⟩ := hP
  have hS : va_S (fun _ => False) s.heap s.heap [] := va_S.rf
  have hl : lv_has ls 6 [(0, .ref (t + 28 + 6)), (1, .int sum), (2, .ref t), (3, .int (nI p)), (4, .int ws)] := hl
  refine lv_iload hx hb dX10_joyFrom_0 (lv_at hl 4 rfl) ?_
  refine g_ki (g_runS (rest := []) hx hb hml hown hE hT (c_J6_bitCount_0f7a4 l G ws) gM_J6_bitCount_0f7a4 gm_X10_9 gt_J6_bitCount_0f7a4 trivial rfl hl.1 ⟨rfl, rfl⟩ ⟨Nat.le_of_ble_eq_true rfl, Nat.le_of_ble_eq_true rfl⟩ ⟨Nat.zero_le _, Nat.zero_le _⟩ rfl (Nat.le_of_ble_eq_true rfl) dX10_joyFrom_2) hS (fun _ h => h.elim) (fun r4 H1 locs q2 k3 hS => ?_)
  subst q2
  have h1 := gSg_free h1 k3 (by intro k hk q; simp only [List.length_cons, List.length_nil] at hk; omega)
  have hk7 := gSg_free hk7 k3 (by intro k hk q; simp only [List.length_cons, List.length_nil] at hk; omega)
  refine lv_iconst (v := 4) hx hb dX10_joyFrom_5 (by decide) ?_
  refine lv_irem hx hb dX10_joyFrom_6 (by decide) ?_
  rw [gBc4 ws]
  have l4 : (gBc ws).toNatClampNeg % 4 < 4 := Nat.mod_lt _ (by decide)
  refine lv_istore (lv' := [(5, .int (nI ((gBc ws).toNatClampNeg % 4))), (0, .ref (t + 28 + 6)), (1, .int sum), (2, .ref t), (3, .int (nI p)), (4, .int ws)]) hx hb dX10_joyFrom_7 hl (by decide) rfl (fun ls hl => ?_)
  refine lv_aload_n hx hb dX10_joyFrom_9 rfl (lv_at hl 1 rfl) ?_
  refine lv_iload_n hx hb dX10_joyFrom_10 rfl (lv_at hl 2 rfl) ?_
  refine lv_aload_n hx hb dX10_joyFrom_11 rfl (lv_at hl 3 rfl) ?_
  refine lv_iload_n hx hb dX10_joyFrom_12 rfl (lv_at hl 4 rfl) ?_
  refine lv_iload hx hb dX10_joyFrom_13 (lv_at hl 5 rfl) ?_
  refine g_ki (g_runP (rest := []) (T := TX10) (ci := 10) (N := 0) (C := RX10) hx hb hml hown hE hT (c_X4_joyFrom l G (t + 28 + 6) t lp π ρ p hp sum ws) gM_X4_joyFrom gm_X10_15 gi_X4_joyFrom gx_269 gx_270 rfl (Or.inl rfl) (by decide) rfl (hk7 6 _ rfl) h1 rfl hl.1 ⟨rfl, rfl⟩ ⟨Nat.le_of_ble_eq_true rfl, Nat.le_of_ble_eq_true rfl⟩ ⟨Nat.zero_le _, Nat.zero_le _⟩ rfl (Nat.le_of_ble_eq_true rfl) dX10_joyFrom_15) hS (fun _ h => h.elim) (fun r8 H5 locs q6 k7 hS => ?_)
  subst q6
  have h1 := gSg_free h1 k7 (by intro k hk q; simp only [List.length_cons, List.length_nil] at hk; omega)
  have hk7 := gSg_free hk7 k7 (by intro k hk q; simp only [List.length_cons, List.length_nil] at hk; omega)
  refine lv_aload_n hx hb dX10_joyFrom_18 rfl (lv_at hl 3 rfl) ?_
  refine g_get (v := .ref (t + 9)) (T := TX9) (ci := 9) (N := 16) hx hb hown hK (gY_X9 hT) rfl (h1 0 _ rfl) 8 (by decide) (hT _ gf_X10_19) rfl dX10_joyFrom_19 ?_
  refine lv_iload_n hx hb dX10_joyFrom_22 rfl (lv_at hl 4 rfl) ?_
  refine lv_iconst (v := 4) hx hb dX10_joyFrom_23 (by decide) ?_
  refine lv_imul hx hb dX10_joyFrom_24 ?_
  rw [show ((nI p) * 4 : Int32) = nI (p * 4) from (gMul rfl rfl)]
  refine lv_iload hx hb dX10_joyFrom_25 (lv_at hl 0 rfl) ?_
  refine lv_iadd hx hb dX10_joyFrom_27 ?_
  rw [show ((nI (p * 4)) + (nI ((gBc ws).toNatClampNeg % 4)) : Int32) = nI ((p * 4) + ((gBc ws).toNatClampNeg % 4)) from (gAdd rfl rfl)]
  refine g_ia (j := (p * 4) + ((gBc ws).toNatClampNeg % 4)) (v := π 7 (4 * p + (gBc ws).toNatClampNeg % 4)) hx hb hK (h1 9 _ rfl) rfl (by omega) (Nat.le_of_ble_eq_true rfl) (congrArg (π 7) (by omega)) dX10_joyFrom_28 ?_
  refine lv_iadd hx hb dX10_joyFrom_29 ?_
  rw [← hQ]
  exact g_iret hx hb hr hlk hS dX10_joyFrom_30 rfl
