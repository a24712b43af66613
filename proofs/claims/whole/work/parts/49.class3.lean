set_option maxHeartbeats 4000000 in
set_option maxRecDepth 100000 in
theorem c_X5_takesTest (l : Launch) (G : gW) (t : Nat) (f : gPS) (n : Nat) (hT9 : gTx (f 0) n) (E : Nat → Int32) (p c : Nat) (wd rs : Int32) (hp : p ≤ n) (hc : c + (n - p) ≤ 100) (htG : G.2.2.2.size ≤ t)  : gCI l yX5_takesTest cX5_takesTest 4 .boolean (gRm 6 128) G [.ref t] (fun H => gOld G H ∧ gSg G t (gLL G t (gR (gR f 1 E) 5 (gS6 (nI n) (nI p) (nI c) wd rs))) H) (fun r H => r = gB ((gTe (f 0) n p).1 = true) ∧ ∃ E9 : Nat → Int32, gCs E c E9 (gTe (f 0) n p).2.2 ∧ gSg G t (gLL G t (gR (gR f 1 E9) 5 (gS6 (nI n) (nI (gTe (f 0) n p).2.1) (nI (c + ((gTe (f 0) n p).2.2).length)) wd rs))) H) (fun q => t ≤ q ∧ q < t + 6) := by
  refine g_start (by decide) (Nat.le_of_ble_eq_true rfl) ?_
  intro pp_ ee_ s mm_ aa_ below meth cc_ ls Q hQ hX hE hP hl
  obtain ⟨hx, hb, hr, hml, hown, hT, hlk, hnm⟩ := hX
  have hK := hE.2.1
  obtain ⟨hO, h1⟩ := hP
  have hS : va_S (fun q => t ≤ q ∧ q < t + 6) s.heap s.heap [] := va_S.rf
  have hl : lv_has ls 4 [(0, .ref t)] := hl
  have hn9 : n ≤ 100 := hT9.1
  have hJ := hE.2.2.2.2.2.2.now hO
  refine lv_aload_n hx hb dX5_takesTest_0 rfl (lv_at hl 0 rfl) ?_
  refine va_ldcS (q := G.2.2.1 0) hx hb hown (hE.2.2.2.2.2.1 (RX5, 25, _, 0) (List.mem_of_getElem? (i := 0) rfl)) dX5_takesTest_1 ?_
  refine g_ki (g_runV (T := TX5) (ci := 5) (N := 10) (rest := []) hx hb hml hown hE hT (c_X5_takesOneOf l G t f n hT9 E p c wd rs (by omega) (by omega) htG 0 (by decide) (by decide)) gM_X5_takesOneOf gm_X5_102 gi_X5_takesOneOf gs_RX5_yX5_takesOneOf_yX5_takesOneOf rfl (h1 0 _ rfl) ⟨(gOld_S hO hS (fun q9 hq9 => Nat.le_trans htG hq9.1)), h1⟩ rfl hl.1 ⟨rfl, rfl⟩ ⟨Nat.le_of_ble_eq_true rfl, Nat.le_of_ble_eq_true rfl⟩ ⟨Nat.zero_le _, Nat.zero_le _⟩ rfl (Nat.le_of_ble_eq_true rfl) dX5_takesTest_3) hS (by intro q hq; omega) (fun r4 H1 locs q2 k3 hS => ?_)
  obtain ⟨e9, h1⟩ := q2
  rw [e9]
  refine lv_istore_n (lv' := [(1, .int (gOne (f 0) n 0 p)), (0, .ref t)]) hx hb dX5_takesTest_6 rfl hl (by decide) rfl (fun ls hl => ?_)
  refine lv_iload_n hx hb dX5_takesTest_7 rfl (lv_at hl 0 rfl) ?_
  refine lv_if_ge (tgt := 13) hx hb dX5_takesTest_8 (by decide) (fun c5 => ?_) (fun c5 => ?_)
  · have nc5 : ¬ gOne (f 0) n 0 p < 0 := Int32.not_lt.mpr c5
    rw [if_neg nc5] at h1
    have ltc5 := gOne_lt nc5
    obtain ⟨l0, ll0, el0⟩ := gOne_n nc5
    have ll0 : l0 < 6 := ll0
    refine lv_aload_n hx hb dX5_takesTest_13 rfl (lv_at hl 1 rfl) ?_
    refine va_ldcS (q := G.2.2.1 1) hx hb hown (hE.2.2.2.2.2.1 (RX5, 106, _, 1) (List.mem_of_getElem? (i := 1) rfl)) dX5_takesTest_14 ?_
    refine g_ki (g_runV (T := TX5) (ci := 5) (N := 10) (rest := []) hx hb hml hown hE hT (c_X5_takesOneOf l G t f n hT9 E (p + 1) c wd rs (by omega) (by omega) htG 1 (by decide) (by decide)) gM_X5_takesOneOf gm_X5_102 gi_X5_takesOneOf gs_RX5_yX5_takesOneOf_yX5_takesOneOf rfl (h1 0 _ rfl) ⟨(gOld_S hO hS (fun q9 hq9 => Nat.le_trans htG hq9.1)), h1⟩ rfl hl.1 ⟨rfl, rfl⟩ ⟨Nat.le_of_ble_eq_true rfl, Nat.le_of_ble_eq_true rfl⟩ ⟨Nat.zero_le _, Nat.zero_le _⟩ rfl (Nat.le_of_ble_eq_true rfl) dX5_takesTest_16) hS (by intro q hq; omega) (fun r9 H6 locs q7 k8 hS => ?_)
    obtain ⟨e9, h1⟩ := q7
    rw [e9]
    refine lv_istore_n (lv' := [(2, .int (gOne (f 0) n 1 (p + 1))), (1, .int (gOne (f 0) n 0 p)), (0, .ref t)]) hx hb dX5_takesTest_19 rfl hl (by decide) rfl (fun ls hl => ?_)
    refine lv_iload_n hx hb dX5_takesTest_20 rfl (lv_at hl 0 rfl) ?_
    refine lv_if_ge (tgt := 26) hx hb dX5_takesTest_21 (by decide) (fun c10 => ?_) (fun c10 => ?_)
    · have nc10 : ¬ gOne (f 0) n 1 (p + 1) < 0 := Int32.not_lt.mpr c10
      rw [if_neg nc10] at h1
      have ltc10 := gOne_lt nc10
      obtain ⟨l1, ll1, el1⟩ := gOne_n nc10
      have ll1 : l1 < 3 := ll1
      refine lv_aload_n hx hb dX5_takesTest_26 rfl (lv_at hl 2 rfl) ?_
      have fN := gNum_fit (t := f 0) (n := n) (p := p + 1 + 1) (by omega)
      have vN := gNum_v (t := f 0) (n := n) (p := p + 1 + 1)
      refine g_ki (g_runV (T := TX5) (ci := 5) (N := 10) (rest := []) hx hb hml hown hE hT (c_X5_takesNumber l G t f n hT9 E (p + 1 + 1) c wd rs (by omega) (by omega)) gM_X5_takesNumber gm_X5_85 gi_X5_takesNumber gs_RX5_yX5_takesNumber_yX5_takesNumber rfl (h1 0 _ rfl) h1 rfl hl.1 ⟨rfl, rfl⟩ ⟨Nat.le_of_ble_eq_true rfl, Nat.le_of_ble_eq_true rfl⟩ ⟨Nat.zero_le _, Nat.zero_le _⟩ rfl (Nat.le_of_ble_eq_true rfl) dX5_takesTest_27) hS (by intro q hq; omega) (fun r14 H11 locs q12 k13 hS => ?_)
      obtain ⟨e9, h1⟩ := q12
      rw [e9]
      by_cases hN : (gNum (f 0) n (p + 1 + 1)).1 = true
      · rw [if_pos hN]
        refine lv_istore_n (lv' := [(3, .int (nI ((gNum (f 0) n (p + 1 + 1)).2.2))), (2, .int (gOne (f 0) n 1 (p + 1))), (1, .int (gOne (f 0) n 0 p)), (0, .ref t)]) hx hb dX5_takesTest_30 rfl hl (by decide) rfl (fun ls hl => ?_)
        refine lv_iload_n hx hb dX5_takesTest_31 rfl (lv_at hl 0 rfl) ?_
        refine lv_if_ge (tgt := 37) hx hb dX5_takesTest_32 (by decide) (fun c15 => ?_) (fun c15 => ?_)
        · have c15 : 0 ≤ ((gNum (f 0) n (p + 1 + 1)).2.2) := (gLe (a := 0) (b := (gNum (f 0) n (p + 1 + 1)).2.2) rfl rfl (by omega) (by omega)).mp c15
          refine lv_aload_n hx hb dX5_takesTest_37 rfl (lv_at hl 3 rfl) ?_
          refine lv_iload_n hx hb dX5_takesTest_38 rfl (lv_at hl 2 rfl) ?_
          refine lv_iconst (v := 3) hx hb dX5_takesTest_39 (by decide) ?_
          refine lv_imul hx hb dX5_takesTest_40 ?_
          rw [show ((gOne (f 0) n 0 p) * 3 : Int32) = nI (l0 * 3) from (gMul el0 rfl)]
          refine lv_iload_n hx hb dX5_takesTest_41 rfl (lv_at hl 1 rfl) ?_
          refine lv_iadd hx hb dX5_takesTest_42 ?_
          rw [show ((nI (l0 * 3)) + (gOne (f 0) n 1 (p + 1)) : Int32) = nI ((l0 * 3) + l1) from (gAdd rfl el1)]
          refine lv_bipush (v := 100) hx hb dX5_takesTest_43 (by decide) ?_
          refine lv_imul hx hb dX5_takesTest_45 ?_
          rw [show ((nI ((l0 * 3) + l1)) * 100 : Int32) = nI (((l0 * 3) + l1) * 100) from (gMul rfl rfl)]
          refine lv_iload_n hx hb dX5_takesTest_46 rfl (lv_at hl 0 rfl) ?_
          refine lv_iadd hx hb dX5_takesTest_47 ?_
          rw [show ((nI (((l0 * 3) + l1) * 100)) + (nI ((gNum (f 0) n (p + 1 + 1)).2.2)) : Int32) = nI ((((l0 * 3) + l1) * 100) + ((gNum (f 0) n (p + 1 + 1)).2.2)) from (gAdd rfl rfl)]
          refine g_kv (g_runV (T := TX5) (ci := 5) (N := 10) (rest := []) hx hb hml hown hE hT (c_X5_adds l G t f n hT9 E (gNum (f 0) n (p + 1 + 1)).2.1 c wd rs (by omega) (by omega) (nI ((((l0 * 3) + l1) * 100) + ((gNum (f 0) n (p + 1 + 1)).2.2))) (by omega)) gM_X5_adds gm_X5_95 gi_X5_adds gs_RX5_yX5_adds_yX5_adds rfl (h1 0 _ rfl) h1 rfl hl.1 ⟨rfl, rfl⟩ ⟨Nat.le_of_ble_eq_true rfl, Nat.le_of_ble_eq_true rfl⟩ ⟨Nat.zero_le _, Nat.zero_le _⟩ rfl (Nat.le_of_ble_eq_true rfl) dX5_takesTest_48) hS (by intro q hq; omega) (fun H16 locs q17 k18 hS => ?_)
          have h1 := q17
          refine lv_iconst (v := 1) hx hb dX5_takesTest_51 (by decide) ?_
          rw [← hQ]
          exact g_zret hx hb hr hlk rfl hS dX5_takesTest_52 (by rw [show gTe (f 0) n p = (true, (gNum (f 0) n (p + 1 + 1)).2.1, [3 + 300 * l0 + 100 * l1 + (gNum (f 0) n (p + 1 + 1)).2.2]) from by rw [gTe, if_neg nc5, if_neg nc10, if_pos hN, el0, el1, nI_clamp (show l0 < 2 ^ 31 by omega), nI_clamp (show l1 < 2 ^ 31 by omega)]]; exact ⟨rfl, _, gCs_1 (by rw [gStp, if_pos (by omega)]; exact congrArg nI (by omega)), h1⟩)
        · have c15 : ¬ 0 ≤ ((gNum (f 0) n (p + 1 + 1)).2.2) := fun z => c15 ((gLe (a := 0) (b := (gNum (f 0) n (p + 1 + 1)).2.2) rfl rfl (by omega) (by omega)).mpr z)
          exact absurd c15 (by omega)
      · rw [if_neg hN]
        refine lv_istore_n (lv' := [(3, .int (-1)), (2, .int (gOne (f 0) n 1 (p + 1))), (1, .int (gOne (f 0) n 0 p)), (0, .ref t)]) hx hb dX5_takesTest_30 rfl hl (by decide) rfl (fun ls hl => ?_)
        refine lv_iload_n hx hb dX5_takesTest_31 rfl (lv_at hl 0 rfl) ?_
        refine lv_if_ge (tgt := 37) hx hb dX5_takesTest_32 (by decide) (fun c20 => ?_) (fun c20 => ?_)
        · exact absurd c20 (by decide)
        · refine lv_iconst (v := 0) hx hb dX5_takesTest_35 (by decide) ?_
          rw [← hQ]
          exact g_zret hx hb hr hlk rfl hS dX5_takesTest_36 (by rw [show gTe (f 0) n p = (false, (gNum (f 0) n (p + 1 + 1)).2.1, []) from by rw [gTe, if_neg nc5, if_neg nc10, if_neg hN]]; exact ⟨rfl, _, gCs_0, h1⟩)
    · have nc10 : gOne (f 0) n 1 (p + 1) < 0 := Int32.not_le.mp c10
      rw [if_pos nc10] at h1
      refine lv_iconst (v := 0) hx hb dX5_takesTest_24 (by decide) ?_
      rw [← hQ]
      exact g_zret hx hb hr hlk rfl hS dX5_takesTest_25 (by rw [show gTe (f 0) n p = (false, p + 1, []) from by rw [gTe, if_neg nc5, if_pos nc10]]; exact ⟨rfl, _, gCs_0, h1⟩)
  · have nc5 : gOne (f 0) n 0 p < 0 := Int32.not_le.mp c5
    rw [if_pos nc5] at h1
    refine lv_iconst (v := 0) hx hb dX5_takesTest_11 (by decide) ?_
    rw [← hQ]
    exact g_zret hx hb hr hlk rfl hS dX5_takesTest_12 (by rw [show gTe (f 0) n p = (false, p, []) from by rw [gTe, if_pos nc5]]; exact ⟨rfl, _, gCs_0, h1⟩)
