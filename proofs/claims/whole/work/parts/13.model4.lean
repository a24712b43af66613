set_option maxHeartbeats 4000000 in
set_option maxRecDepth 100000 in
theorem c_X12_plan (l : Launch) (G : gW) (b : Nat) (π μ f : gPS) (g : Nat → Int64) (n : Nat) (hz : π 15 0 = nI n) (hn : n ≤ 6) (pn : Nat) (hz4 : π 15 4 = nI pn) (hpn : pn ≤ 10) (what x : Int32) : gCI l yX12_plan cX12_plan 3 .int (gRm 2 43) G [.ref b, .int what, .int x] (fun H => gSg G b (gLM G b π μ f g) H) (fun r H => r = (gqPlan π what x).1 ∧ gSg G b (gLM G b (gqPlan π what x).2 μ f g) H) (fun q => b ≤ q ∧ q < b + 30) := by
  refine g_start (by decide) (Nat.le_of_ble_eq_true rfl) ?_
  intro pp_ ee_ s mm_ aa_ below meth cc_ ls Q hQ hX hE hP hl
  obtain ⟨hx, hb, hr, hml, hown, hT, hlk, hnm⟩ := hX
  have hK := hE.2.1
  have h1 := hP
  have hS : va_S (fun q => b ≤ q ∧ q < b + 30) s.heap s.heap [] := va_S.rf
  have hl : lv_has ls 3 [(0, .ref b), (1, .int what), (2, .int x)] := hl
  refine lv_iload_n hx hb dX12_plan_0 rfl (lv_at hl 1 rfl) ?_
  refine lv_iconst (v := (-1)) hx hb dX12_plan_1 (by decide) ?_
  refine lv_icmp_ne (tgt := 12) hx hb dX12_plan_2 (by decide) (fun c1 => ?_) (fun c1 => ?_)
  · refine lv_iload_n hx hb dX12_plan_12 rfl (lv_at hl 1 rfl) ?_
    refine lv_iconst (v := 0) hx hb dX12_plan_13 (by decide) ?_
    refine lv_iconst (v := 3) hx hb dX12_plan_14 (by decide) ?_
    refine g_ki (g_runS (rest := []) hx hb hml hown hE hT (c_X12_within l G what 0 3) gM_X12_within gm_X12_108 gt_X12_within trivial rfl hl.1 ⟨rfl, rfl⟩ ⟨Nat.le_of_ble_eq_true rfl, Nat.le_of_ble_eq_true rfl⟩ ⟨Nat.zero_le _, Nat.zero_le _⟩ rfl (Nat.le_of_ble_eq_true rfl) dX12_plan_15) hS (fun _ h => h.elim) (fun r5 H2 locs q3 k4 hS => ?_)
    subst q3
    have h1 := gSg_free h1 k4 (by intro k hk q; simp only [List.length_cons, List.length_nil] at hk; omega)
    refine lv_if_eq (tgt := 50) hx hb dX12_plan_18 (by decide) (fun c6 => ?_) (fun c6 => ?_)
    · have c6 : ¬ (0 ≤ what ∧ what ≤ 3) := gB_0.mp c6
      refine lv_iconst (v := (-1)) hx hb dX12_plan_50 (by decide) ?_
      rw [← hQ]
      exact g_iret hx hb hr hlk hS dX12_plan_51 (by rw [show gqPlan π what x = ((-1), π) from by simp only [gqPlan, gqPlanF, if_neg c1, if_neg c6] <;> rfl]; exact ⟨rfl, h1⟩)
    · have c6 : 0 ≤ what ∧ what ≤ 3 := gB_1.mp c6
      refine lv_iload_n hx hb dX12_plan_21 rfl (lv_at hl 1 rfl) ?_
      refine lv_iconst (v := 1) hx hb dX12_plan_22 (by decide) ?_
      refine lv_iconst (v := 2) hx hb dX12_plan_23 (by decide) ?_
      refine g_ki (g_runS (rest := []) hx hb hml hown hE hT (c_X12_within l G what 1 2) gM_X12_within gm_X12_108 gt_X12_within trivial rfl hl.1 ⟨rfl, rfl⟩ ⟨Nat.le_of_ble_eq_true rfl, Nat.le_of_ble_eq_true rfl⟩ ⟨Nat.zero_le _, Nat.zero_le _⟩ rfl (Nat.le_of_ble_eq_true rfl) dX12_plan_24) hS (fun _ h => h.elim) (fun r10 H7 locs q8 k9 hS => ?_)
      subst q8
      have h1 := gSg_free h1 k9 (by intro k hk q; simp only [List.length_cons, List.length_nil] at hk; omega)
      refine lv_if_eq (tgt := 38) hx hb dX12_plan_27 (by decide) (fun c11 => ?_) (fun c11 => ?_)
      · have c11 : ¬ (1 ≤ what ∧ what ≤ 2) := gB_0.mp c11
        refine lv_iload_n hx hb dX12_plan_38 rfl (lv_at hl 1 rfl) ?_
        refine lv_iconst (v := 3) hx hb dX12_plan_39 (by decide) ?_
        refine lv_icmp_ne (tgt := 52) hx hb dX12_plan_40 (by decide) (fun c12 => ?_) (fun c12 => ?_)
        · refine lv_aload_n hx hb dX12_plan_52 rfl (lv_at hl 0 rfl) ?_
          refine g_get (v := .int (π 15 4)) (T := TX12) (ci := 12) (N := 45) hx hb hown hK (gY_X12 hT) rfl (h1 0 _ rfl) 31 (by decide) (hT _ gf_X12_290) rfl dX12_plan_53 ?_
          refine lv_bipush (v := 10) hx hb dX12_plan_56 (by decide) ?_
          refine lv_icmp_ne (tgt := 64) hx hb dX12_plan_58 (by decide) (fun c13 => ?_) (fun c13 => ?_)
          · have c13 : ¬ pn = 10 := fun z => c13 ((gEq (a := pn) (b := 10) hz4 rfl (by omega) (by omega)).mpr z)
            refine lv_aload_n hx hb dX12_plan_64 rfl (lv_at hl 0 rfl) ?_
            refine g_get (v := .ref (b + 20)) (T := TX12) (ci := 12) (N := 45) hx hb hown hK (gY_X12 hT) rfl (h1 0 _ rfl) 32 (by decide) (hT _ gf_X12_70) rfl dX12_plan_65 ?_
            refine lv_aload_n hx hb dX12_plan_68 rfl (lv_at hl 0 rfl) ?_
            refine g_get (v := .int (π 15 4)) (T := TX12) (ci := 12) (N := 45) hx hb hown hK (gY_X12 hT) rfl (h1 0 _ rfl) 31 (by decide) (hT _ gf_X12_290) rfl dX12_plan_69 ?_
            refine lv_iload_n hx hb dX12_plan_72 rfl (lv_at hl 1 rfl) ?_
            refine g_is (j := pn) hx hb hK hS (h1 20 _ rfl) hz4 (by omega) (Nat.le_of_ble_eq_true rfl) (by omega) dX12_plan_73 (fun H14 locs c15 oq hS => ?_)
            have h1 : gSg G b (gLM G b (gU π 11 pn what) μ f g) H14 := gSg_set h1 20 c15 oq
            refine lv_aload_n hx hb dX12_plan_74 rfl (lv_at hl 0 rfl) ?_
            refine g_get (v := .ref (b + 21)) (T := TX12) (ci := 12) (N := 45) hx hb hown hK (gY_X12 hT) rfl (h1 0 _ rfl) 33 (by decide) (hT _ gf_X12_73) rfl dX12_plan_75 ?_
            refine lv_aload_n hx hb dX12_plan_78 rfl (lv_at hl 0 rfl) ?_
            refine lv_dup hx hb dX12_plan_79 rfl ?_
            refine g_get (v := .int (π 15 4)) (T := TX12) (ci := 12) (N := 45) hx hb hown hK (gY_X12 hT) rfl (h1 0 _ rfl) 31 (by decide) (hT _ gf_X12_290) rfl dX12_plan_80 ?_
            refine lv_dup_x1 hx hb dX12_plan_83 rfl rfl ?_
            refine lv_iconst (v := 1) hx hb dX12_plan_84 (by decide) ?_
            refine lv_iadd hx hb dX12_plan_85 ?_
            refine g_put (T := TX12) (ci := 12) (N := 45) (ty0 := tyX12) hx hb hown hK hS (gY_X12 hT) tyX12_ok nmX12 rfl (h1 0 _ rfl) 31 (by decide) (hT _ gf_X12_290) rfl rfl rfl (Nat.le_of_ble_eq_true rfl) (by omega) dX12_plan_86 (fun H16 locs c17 oq hS => ?_)
            have h1 : gSg G b (gLM G b (gU (gU π 11 pn what) 15 4 ((π 15 4) + 1)) μ f g) H16 := gSg_set h1 0 c17 oq
            refine lv_iload_n hx hb dX12_plan_89 rfl (lv_at hl 1 rfl) ?_
            refine lv_if_ne (tgt := 97) hx hb dX12_plan_90 (by decide) (fun c18 => ?_) (fun c18 => ?_)
            · refine lv_iload_n hx hb dX12_plan_97 rfl (lv_at hl 2 rfl) ?_
              refine g_is (j := pn) hx hb hK hS (h1 21 _ rfl) hz4 (by omega) (Nat.le_of_ble_eq_true rfl) (by omega) dX12_plan_98 (fun H19 locs c20 oq hS => ?_)
              have h1 : gSg G b (gLM G b (gU (gU (gU π 11 pn what) 15 4 ((π 15 4) + 1)) 12 pn x) μ f g) H19 := gSg_set h1 21 c20 oq
              refine lv_aload_n hx hb dX12_plan_99 rfl (lv_at hl 0 rfl) ?_
              refine g_get (v := .int ((π 15 4) + 1)) (T := TX12) (ci := 12) (N := 45) hx hb hown hK (gY_X12 hT) rfl (h1 0 _ rfl) 31 (by decide) (hT _ gf_X12_290) rfl dX12_plan_100 ?_
              rw [← hQ]
              exact g_iret hx hb hr hlk hS dX12_plan_103 (by rw [show gqPlan π what x = ((π 15 4) + 1, gU (gU (gU π 11 pn what) 15 4 ((π 15 4) + 1)) 12 pn x) from by simp only [gqPlan, gqPlanF, if_neg c1, if_pos c6, if_neg c11, if_neg c12, if_neg (show ¬ π 15 4 = 10 from fun z => c13 ((gEq (b := 10) hz4 rfl (by omega) (by omega)).mp z)), show (π 15 4).toNatClampNeg = pn from by rw [hz4]; exact nI_clamp (by omega), if_neg c18] <;> rfl]; exact ⟨rfl, h1⟩)
            · refine lv_iconst (v := 0) hx hb dX12_plan_93 (by decide) ?_
              refine lv_goto (tgt := 98) hx hb dX12_plan_94 (by decide) ?_
              refine g_is (j := pn) hx hb hK hS (h1 21 _ rfl) hz4 (by omega) (Nat.le_of_ble_eq_true rfl) (by omega) dX12_plan_98 (fun H21 locs c22 oq hS => ?_)
              have h1 : gSg G b (gLM G b (gU (gU (gU π 11 pn what) 15 4 ((π 15 4) + 1)) 12 pn 0) μ f g) H21 := gSg_set h1 21 c22 oq
              refine lv_aload_n hx hb dX12_plan_99 rfl (lv_at hl 0 rfl) ?_
              refine g_get (v := .int ((π 15 4) + 1)) (T := TX12) (ci := 12) (N := 45) hx hb hown hK (gY_X12 hT) rfl (h1 0 _ rfl) 31 (by decide) (hT _ gf_X12_290) rfl dX12_plan_100 ?_
              rw [← hQ]
              exact g_iret hx hb hr hlk hS dX12_plan_103 (by rw [show gqPlan π what x = ((π 15 4) + 1, gU (gU (gU π 11 pn what) 15 4 ((π 15 4) + 1)) 12 pn 0) from by simp only [gqPlan, gqPlanF, if_neg c1, if_pos c6, if_neg c11, if_neg c12, if_neg (show ¬ π 15 4 = 10 from fun z => c13 ((gEq (b := 10) hz4 rfl (by omega) (by omega)).mp z)), show (π 15 4).toNatClampNeg = pn from by rw [hz4]; exact nI_clamp (by omega), if_pos c18] <;> rfl]; exact ⟨rfl, h1⟩)
          · have c13 : pn = 10 := (gEq (a := pn) (b := 10) hz4 rfl (by omega) (by omega)).mp c13
            refine lv_bipush (v := (-4)) hx hb dX12_plan_61 (by decide) ?_
            rw [← hQ]
            exact g_iret hx hb hr hlk hS dX12_plan_63 (by rw [show gqPlan π what x = ((-4), π) from by simp only [gqPlan, gqPlanF, if_neg c1, if_pos c6, if_neg c11, if_neg c12, if_pos (show π 15 4 = 10 from (gEq (b := 10) hz4 rfl (by omega) (by omega)).mpr c13)] <;> rfl]; exact ⟨rfl, h1⟩)
        · refine lv_iload_n hx hb dX12_plan_43 rfl (lv_at hl 2 rfl) ?_
          refine g_ki (g_runS (rest := []) hx hb hml hown hE hT (c_X12_isWord l G x) gM_X12_isWord gm_X12_130 gt_X12_isWord trivial rfl hl.1 ⟨rfl, rfl⟩ ⟨Nat.le_of_ble_eq_true rfl, Nat.le_of_ble_eq_true rfl⟩ ⟨Nat.zero_le _, Nat.zero_le _⟩ rfl (Nat.le_of_ble_eq_true rfl) dX12_plan_44) hS (fun _ h => h.elim) (fun r26 H23 locs q24 k25 hS => ?_)
          subst q24
          have h1 := gSg_free h1 k25 (by intro k hk q; simp only [List.length_cons, List.length_nil] at hk; omega)
          refine lv_if_ne (tgt := 52) hx hb dX12_plan_47 (by decide) (fun c27 => ?_) (fun c27 => ?_)
          · have c27 : 0 ≤ x ∧ x ≤ 11 := gB_1.mp c27
            refine lv_aload_n hx hb dX12_plan_52 rfl (lv_at hl 0 rfl) ?_
            refine g_get (v := .int (π 15 4)) (T := TX12) (ci := 12) (N := 45) hx hb hown hK (gY_X12 hT) rfl (h1 0 _ rfl) 31 (by decide) (hT _ gf_X12_290) rfl dX12_plan_53 ?_
            refine lv_bipush (v := 10) hx hb dX12_plan_56 (by decide) ?_
            refine lv_icmp_ne (tgt := 64) hx hb dX12_plan_58 (by decide) (fun c28 => ?_) (fun c28 => ?_)
            · have c28 : ¬ pn = 10 := fun z => c28 ((gEq (a := pn) (b := 10) hz4 rfl (by omega) (by omega)).mpr z)
              refine lv_aload_n hx hb dX12_plan_64 rfl (lv_at hl 0 rfl) ?_
              refine g_get (v := .ref (b + 20)) (T := TX12) (ci := 12) (N := 45) hx hb hown hK (gY_X12 hT) rfl (h1 0 _ rfl) 32 (by decide) (hT _ gf_X12_70) rfl dX12_plan_65 ?_
              refine lv_aload_n hx hb dX12_plan_68 rfl (lv_at hl 0 rfl) ?_
              refine g_get (v := .int (π 15 4)) (T := TX12) (ci := 12) (N := 45) hx hb hown hK (gY_X12 hT) rfl (h1 0 _ rfl) 31 (by decide) (hT _ gf_X12_290) rfl dX12_plan_69 ?_
              refine lv_iload_n hx hb dX12_plan_72 rfl (lv_at hl 1 rfl) ?_
              refine g_is (j := pn) hx hb hK hS (h1 20 _ rfl) hz4 (by omega) (Nat.le_of_ble_eq_true rfl) (by omega) dX12_plan_73 (fun H29 locs c30 oq hS => ?_)
              have h1 : gSg G b (gLM G b (gU π 11 pn what) μ f g) H29 := gSg_set h1 20 c30 oq
              refine lv_aload_n hx hb dX12_plan_74 rfl (lv_at hl 0 rfl) ?_
              refine g_get (v := .ref (b + 21)) (T := TX12) (ci := 12) (N := 45) hx hb hown hK (gY_X12 hT) rfl (h1 0 _ rfl) 33 (by decide) (hT _ gf_X12_73) rfl dX12_plan_75 ?_
              refine lv_aload_n hx hb dX12_plan_78 rfl (lv_at hl 0 rfl) ?_
              refine lv_dup hx hb dX12_plan_79 rfl ?_
              refine g_get (v := .int (π 15 4)) (T := TX12) (ci := 12) (N := 45) hx hb hown hK (gY_X12 hT) rfl (h1 0 _ rfl) 31 (by decide) (hT _ gf_X12_290) rfl dX12_plan_80 ?_
              refine lv_dup_x1 hx hb dX12_plan_83 rfl rfl ?_
              refine lv_iconst (v := 1) hx hb dX12_plan_84 (by decide) ?_
              refine lv_iadd hx hb dX12_plan_85 ?_
              refine g_put (T := TX12) (ci := 12) (N := 45) (ty0 := tyX12) hx hb hown hK hS (gY_X12 hT) tyX12_ok nmX12 rfl (h1 0 _ rfl) 31 (by decide) (hT _ gf_X12_290) rfl rfl rfl (Nat.le_of_ble_eq_true rfl) (by omega) dX12_plan_86 (fun H31 locs c32 oq hS => ?_)
              have h1 : gSg G b (gLM G b (gU (gU π 11 pn what) 15 4 ((π 15 4) + 1)) μ f g) H31 := gSg_set h1 0 c32 oq
              refine lv_iload_n hx hb dX12_plan_89 rfl (lv_at hl 1 rfl) ?_
              refine lv_if_ne (tgt := 97) hx hb dX12_plan_90 (by decide) (fun c33 => ?_) (fun c33 => ?_)
              · refine lv_iload_n hx hb dX12_plan_97 rfl (lv_at hl 2 rfl) ?_
                refine g_is (j := pn) hx hb hK hS (h1 21 _ rfl) hz4 (by omega) (Nat.le_of_ble_eq_true rfl) (by omega) dX12_plan_98 (fun H34 locs c35 oq hS => ?_)
                have h1 : gSg G b (gLM G b (gU (gU (gU π 11 pn what) 15 4 ((π 15 4) + 1)) 12 pn x) μ f g) H34 := gSg_set h1 21 c35 oq
                refine lv_aload_n hx hb dX12_plan_99 rfl (lv_at hl 0 rfl) ?_
                refine g_get (v := .int ((π 15 4) + 1)) (T := TX12) (ci := 12) (N := 45) hx hb hown hK (gY_X12 hT) rfl (h1 0 _ rfl) 31 (by decide) (hT _ gf_X12_290) rfl dX12_plan_100 ?_
                rw [← hQ]
                exact g_iret hx hb hr hlk hS dX12_plan_103 (by rw [show gqPlan π what x = ((π 15 4) + 1, gU (gU (gU π 11 pn what) 15 4 ((π 15 4) + 1)) 12 pn x) from by simp only [gqPlan, gqPlanF, if_neg c1, if_pos c6, if_neg c11, if_pos c12, if_pos c27, if_neg (show ¬ π 15 4 = 10 from fun z => c28 ((gEq (b := 10) hz4 rfl (by omega) (by omega)).mp z)), show (π 15 4).toNatClampNeg = pn from by rw [hz4]; exact nI_clamp (by omega), if_neg c33] <;> rfl]; exact ⟨rfl, h1⟩)
              · refine lv_iconst (v := 0) hx hb dX12_plan_93 (by decide) ?_
                refine lv_goto (tgt := 98) hx hb dX12_plan_94 (by decide) ?_
                refine g_is (j := pn) hx hb hK hS (h1 21 _ rfl) hz4 (by omega) (Nat.le_of_ble_eq_true rfl) (by omega) dX12_plan_98 (fun H36 locs c37 oq hS => ?_)
                have h1 : gSg G b (gLM G b (gU (gU (gU π 11 pn what) 15 4 ((π 15 4) + 1)) 12 pn 0) μ f g) H36 := gSg_set h1 21 c37 oq
                refine lv_aload_n hx hb dX12_plan_99 rfl (lv_at hl 0 rfl) ?_
                refine g_get (v := .int ((π 15 4) + 1)) (T := TX12) (ci := 12) (N := 45) hx hb hown hK (gY_X12 hT) rfl (h1 0 _ rfl) 31 (by decide) (hT _ gf_X12_290) rfl dX12_plan_100 ?_
                rw [← hQ]
                exact g_iret hx hb hr hlk hS dX12_plan_103 (by rw [show gqPlan π what x = ((π 15 4) + 1, gU (gU (gU π 11 pn what) 15 4 ((π 15 4) + 1)) 12 pn 0) from by simp only [gqPlan, gqPlanF, if_neg c1, if_pos c6, if_neg c11, if_pos c12, if_pos c27, if_neg (show ¬ π 15 4 = 10 from fun z => c28 ((gEq (b := 10) hz4 rfl (by omega) (by omega)).mp z)), show (π 15 4).toNatClampNeg = pn from by rw [hz4]; exact nI_clamp (by omega), if_pos c33] <;> rfl]; exact ⟨rfl, h1⟩)
            · have c28 : pn = 10 := (gEq (a := pn) (b := 10) hz4 rfl (by omega) (by omega)).mp c28
              refine lv_bipush (v := (-4)) hx hb dX12_plan_61 (by decide) ?_
              rw [← hQ]
              exact g_iret hx hb hr hlk hS dX12_plan_63 (by rw [show gqPlan π what x = ((-4), π) from by simp only [gqPlan, gqPlanF, if_neg c1, if_pos c6, if_neg c11, if_pos c12, if_pos c27, if_pos (show π 15 4 = 10 from (gEq (b := 10) hz4 rfl (by omega) (by omega)).mpr c28)] <;> rfl]; exact ⟨rfl, h1⟩)
          · have c27 : ¬ (0 ≤ x ∧ x ≤ 11) := gB_0.mp c27
            refine lv_iconst (v := (-1)) hx hb dX12_plan_50 (by decide) ?_
            rw [← hQ]
            exact g_iret hx hb hr hlk hS dX12_plan_51 (by rw [show gqPlan π what x = ((-1), π) from by simp only [gqPlan, gqPlanF, if_neg c1, if_pos c6, if_neg c11, if_pos c12, if_neg c27] <;> rfl]; exact ⟨rfl, h1⟩)
      · have c11 : 1 ≤ what ∧ what ≤ 2 := gB_1.mp c11
        refine lv_aload_n hx hb dX12_plan_30 rfl (lv_at hl 0 rfl) ?_
        refine lv_iload_n hx hb dX12_plan_31 rfl (lv_at hl 2 rfl) ?_
        refine g_ki (g_runV (T := TX12) (ci := 12) (N := 45) (rest := []) hx hb hml hown hE hT (c_X12_isOne l G b π μ f g n hz (by omega) x) gM_X12_isOne gm_X12_112 gi_X12_isOne gs_RX12_yX12_isOne_yX12_isOne rfl (h1 0 _ rfl) h1 rfl hl.1 ⟨rfl, rfl⟩ ⟨Nat.le_of_ble_eq_true rfl, Nat.le_of_ble_eq_true rfl⟩ ⟨Nat.zero_le _, Nat.zero_le _⟩ rfl (Nat.le_of_ble_eq_true rfl) dX12_plan_32) hS (fun _ h => h.elim) (fun r41 H38 locs q39 k40 hS => ?_)
        subst q39
        have h1 := gSg_free h1 k40 (by intro k hk q; simp only [List.length_cons, List.length_nil] at hk; omega)
        refine lv_if_eq (tgt := 50) hx hb dX12_plan_35 (by decide) (fun c42 => ?_) (fun c42 => ?_)
        · have c42 : ¬ (0 ≤ x ∧ x < π 15 0) := gB_0.mp c42
          refine lv_iconst (v := (-1)) hx hb dX12_plan_50 (by decide) ?_
          rw [← hQ]
          exact g_iret hx hb hr hlk hS dX12_plan_51 (by rw [show gqPlan π what x = ((-1), π) from by simp only [gqPlan, gqPlanF, if_neg c1, if_pos c6, if_pos c11, if_neg c42] <;> rfl]; exact ⟨rfl, h1⟩)
        · have c42 : 0 ≤ x ∧ x < π 15 0 := gB_1.mp c42
          refine lv_iload_n hx hb dX12_plan_38 rfl (lv_at hl 1 rfl) ?_
          refine lv_iconst (v := 3) hx hb dX12_plan_39 (by decide) ?_
          refine lv_icmp_ne (tgt := 52) hx hb dX12_plan_40 (by decide) (fun c43 => ?_) (fun c43 => ?_)
          · refine lv_aload_n hx hb dX12_plan_52 rfl (lv_at hl 0 rfl) ?_
            refine g_get (v := .int (π 15 4)) (T := TX12) (ci := 12) (N := 45) hx hb hown hK (gY_X12 hT) rfl (h1 0 _ rfl) 31 (by decide) (hT _ gf_X12_290) rfl dX12_plan_53 ?_
            refine lv_bipush (v := 10) hx hb dX12_plan_56 (by decide) ?_
            refine lv_icmp_ne (tgt := 64) hx hb dX12_plan_58 (by decide) (fun c44 => ?_) (fun c44 => ?_)
            · have c44 : ¬ pn = 10 := fun z => c44 ((gEq (a := pn) (b := 10) hz4 rfl (by omega) (by omega)).mpr z)
              refine lv_aload_n hx hb dX12_plan_64 rfl (lv_at hl 0 rfl) ?_
              refine g_get (v := .ref (b + 20)) (T := TX12) (ci := 12) (N := 45) hx hb hown hK (gY_X12 hT) rfl (h1 0 _ rfl) 32 (by decide) (hT _ gf_X12_70) rfl dX12_plan_65 ?_
              refine lv_aload_n hx hb dX12_plan_68 rfl (lv_at hl 0 rfl) ?_
              refine g_get (v := .int (π 15 4)) (T := TX12) (ci := 12) (N := 45) hx hb hown hK (gY_X12 hT) rfl (h1 0 _ rfl) 31 (by decide) (hT _ gf_X12_290) rfl dX12_plan_69 ?_
              refine lv_iload_n hx hb dX12_plan_72 rfl (lv_at hl 1 rfl) ?_
              refine g_is (j := pn) hx hb hK hS (h1 20 _ rfl) hz4 (by omega) (Nat.le_of_ble_eq_true rfl) (by omega) dX12_plan_73 (fun H45 locs c46 oq hS => ?_)
              have h1 : gSg G b (gLM G b (gU π 11 pn what) μ f g) H45 := gSg_set h1 20 c46 oq
              refine lv_aload_n hx hb dX12_plan_74 rfl (lv_at hl 0 rfl) ?_
              refine g_get (v := .ref (b + 21)) (T := TX12) (ci := 12) (N := 45) hx hb hown hK (gY_X12 hT) rfl (h1 0 _ rfl) 33 (by decide) (hT _ gf_X12_73) rfl dX12_plan_75 ?_
              refine lv_aload_n hx hb dX12_plan_78 rfl (lv_at hl 0 rfl) ?_
              refine lv_dup hx hb dX12_plan_79 rfl ?_
              refine g_get (v := .int (π 15 4)) (T := TX12) (ci := 12) (N := 45) hx hb hown hK (gY_X12 hT) rfl (h1 0 _ rfl) 31 (by decide) (hT _ gf_X12_290) rfl dX12_plan_80 ?_
              refine lv_dup_x1 hx hb dX12_plan_83 rfl rfl ?_
              refine lv_iconst (v := 1) hx hb dX12_plan_84 (by decide) ?_
              refine lv_iadd hx hb dX12_plan_85 ?_
              refine g_put (T := TX12) (ci := 12) (N := 45) (ty0 := tyX12) hx hb hown hK hS (gY_X12 hT) tyX12_ok nmX12 rfl (h1 0 _ rfl) 31 (by decide) (hT _ gf_X12_290) rfl rfl rfl (Nat.le_of_ble_eq_true rfl) (by omega) dX12_plan_86 (fun H47 locs c48 oq hS => ?_)
              have h1 : gSg G b (gLM G b (gU (gU π 11 pn what) 15 4 ((π 15 4) + 1)) μ f g) H47 := gSg_set h1 0 c48 oq
              refine lv_iload_n hx hb dX12_plan_89 rfl (lv_at hl 1 rfl) ?_
              refine lv_if_ne (tgt := 97) hx hb dX12_plan_90 (by decide) (fun c49 => ?_) (fun c49 => ?_)
              · refine lv_iload_n hx hb dX12_plan_97 rfl (lv_at hl 2 rfl) ?_
                refine g_is (j := pn) hx hb hK hS (h1 21 _ rfl) hz4 (by omega) (Nat.le_of_ble_eq_true rfl) (by omega) dX12_plan_98 (fun H50 locs c51 oq hS => ?_)
                have h1 : gSg G b (gLM G b (gU (gU (gU π 11 pn what) 15 4 ((π 15 4) + 1)) 12 pn x) μ f g) H50 := gSg_set h1 21 c51 oq
                refine lv_aload_n hx hb dX12_plan_99 rfl (lv_at hl 0 rfl) ?_
                refine g_get (v := .int ((π 15 4) + 1)) (T := TX12) (ci := 12) (N := 45) hx hb hown hK (gY_X12 hT) rfl (h1 0 _ rfl) 31 (by decide) (hT _ gf_X12_290) rfl dX12_plan_100 ?_
                rw [← hQ]
                exact g_iret hx hb hr hlk hS dX12_plan_103 (by rw [show gqPlan π what x = ((π 15 4) + 1, gU (gU (gU π 11 pn what) 15 4 ((π 15 4) + 1)) 12 pn x) from by simp only [gqPlan, gqPlanF, if_neg c1, if_pos c6, if_pos c11, if_pos c42, if_neg (show ¬ π 15 4 = 10 from fun z => c44 ((gEq (b := 10) hz4 rfl (by omega) (by omega)).mp z)), show (π 15 4).toNatClampNeg = pn from by rw [hz4]; exact nI_clamp (by omega), if_neg c49] <;> rfl]; exact ⟨rfl, h1⟩)
              · refine lv_iconst (v := 0) hx hb dX12_plan_93 (by decide) ?_
                refine lv_goto (tgt := 98) hx hb dX12_plan_94 (by decide) ?_
                refine g_is (j := pn) hx hb hK hS (h1 21 _ rfl) hz4 (by omega) (Nat.le_of_ble_eq_true rfl) (by omega) dX12_plan_98 (fun H52 locs c53 oq hS => ?_)
                have h1 : gSg G b (gLM G b (gU (gU (gU π 11 pn what) 15 4 ((π 15 4) + 1)) 12 pn 0) μ f g) H52 := gSg_set h1 21 c53 oq
                refine lv_aload_n hx hb dX12_plan_99 rfl (lv_at hl 0 rfl) ?_
                refine g_get (v := .int ((π 15 4) + 1)) (T := TX12) (ci := 12) (N := 45) hx hb hown hK (gY_X12 hT) rfl (h1 0 _ rfl) 31 (by decide) (hT _ gf_X12_290) rfl dX12_plan_100 ?_
                rw [← hQ]
                exact g_iret hx hb hr hlk hS dX12_plan_103 (by rw [show gqPlan π what x = ((π 15 4) + 1, gU (gU (gU π 11 pn what) 15 4 ((π 15 4) + 1)) 12 pn 0) from by simp only [gqPlan, gqPlanF, if_neg c1, if_pos c6, if_pos c11, if_pos c42, if_neg (show ¬ π 15 4 = 10 from fun z => c44 ((gEq (b := 10) hz4 rfl (by omega) (by omega)).mp z)), show (π 15 4).toNatClampNeg = pn from by rw [hz4]; exact nI_clamp (by omega), if_pos c49] <;> rfl]; exact ⟨rfl, h1⟩)
            · have c44 : pn = 10 := (gEq (a := pn) (b := 10) hz4 rfl (by omega) (by omega)).mp c44
              refine lv_bipush (v := (-4)) hx hb dX12_plan_61 (by decide) ?_
              rw [← hQ]
              exact g_iret hx hb hr hlk hS dX12_plan_63 (by rw [show gqPlan π what x = ((-4), π) from by simp only [gqPlan, gqPlanF, if_neg c1, if_pos c6, if_pos c11, if_pos c42, if_pos (show π 15 4 = 10 from (gEq (b := 10) hz4 rfl (by omega) (by omega)).mpr c44)] <;> rfl]; exact ⟨rfl, h1⟩)
          · exact absurd c11 (by rw [c43]; decide)
  · refine lv_aload_n hx hb dX12_plan_5 rfl (lv_at hl 0 rfl) ?_
    refine lv_iconst (v := 0) hx hb dX12_plan_6 (by decide) ?_
    refine g_put (T := TX12) (ci := 12) (N := 45) (ty0 := tyX12) hx hb hown hK hS (gY_X12 hT) tyX12_ok nmX12 rfl (h1 0 _ rfl) 31 (by decide) (hT _ gf_X12_290) rfl rfl rfl (Nat.le_of_ble_eq_true rfl) (by omega) dX12_plan_7 (fun H54 locs c55 oq hS => ?_)
    have h1 : gSg G b (gLM G b (gU π 15 4 0) μ f g) H54 := gSg_set h1 0 c55 oq
    refine lv_iconst (v := 0) hx hb dX12_plan_10 (by decide) ?_
    rw [← hQ]
    exact g_iret hx hb hr hlk hS dX12_plan_11 (by rw [show gqPlan π what x = (0, gU π 15 4 0) from by simp only [gqPlan, gqPlanF, if_pos c1] <;> rfl]; exact ⟨rfl, h1⟩)

set_option maxHeartbeats 4000000 in
set_option maxRecDepth 100000 in
theorem c_X12_looked (l : Launch) (G : gW) (b : Nat) (π μ f : gPS) (g : Nat → Int64) (bn : Nat) (hz5 : π 15 5 = nI bn) (hbn : bn ≤ 8) (hw : ∀ k, k < bn → 0 ≤ π 13 k ∧ π 13 k ≤ 11) : gCI l yX12_looked cX12_looked 2 .int (gRm 0 0) G [.ref b] (fun H => gSg G b (gLM G b π μ f g) H) (fun r H => r = gLook π 0 bn) (fun _ => False) := by
  refine g_start (by decide) (Nat.le_of_ble_eq_true rfl) ?_
  intro pp_ ee_ s mm_ aa_ below meth cc_ ls Q hQ hX hE hP hl
  obtain ⟨hx, hb, hr, hml, hown, hT, hlk, hnm⟩ := hX
  have hK := hE.2.1
  have h1 := hP
  have hS : va_S (fun _ => False) s.heap s.heap [] := va_S.rf
  have hl : lv_has ls 2 [(0, .ref b)] := hl
  refine lv_iconst (v := 0) hx hb dX12_looked_0 (by decide) ?_
  refine lv_istore_n (lv' := [(1, .int 0), (0, .ref b)]) hx hb dX12_looked_1 rfl hl (by decide) rfl (fun ls hl => ?_)
  have loop : ∀ (d k : Nat), k + d = bn → gLook π 0 bn = gLook π k d → ∀ ls, lv_has ls 2 [(0, .ref b), (1, .int (nI k))] → W pp_ l ee_ (gRm 0 0) s mm_ aa_ below meth cc_ s.heap [] 0 0 Q (F0 mm_ 2 ls []) := by
    intro d
    induction d with
    | zero =>
      intro k hk  hi ls hl
      have hk : k = bn := by omega
      refine lv_iload_n hx hb dX12_looked_2 rfl (lv_at hl 1 rfl) ?_
      refine lv_aload_n hx hb dX12_looked_3 rfl (lv_at hl 0 rfl) ?_
      refine g_get (v := .int (π 15 5)) (T := TX12) (ci := 12) (N := 45) hx hb hown hK (gY_X12 hT) rfl (h1 0 _ rfl) 34 (by decide) (hT _ gf_X12_296) rfl dX12_looked_4 ?_
      refine lv_icmp_ge (tgt := 38) hx hb dX12_looked_7 (by decide) (fun c1 => ?_) (fun c1 => ?_)
      · have c1 : bn ≤ k := (gLe (a := bn) (b := k) hz5 rfl (by omega) (by omega)).mp c1
        refine lv_bipush (v := (-5)) hx hb dX12_looked_38 (by decide) ?_
        rw [← hQ]
        exact g_iret hx hb hr hlk hS dX12_looked_40 (by rw [hi, gLook])
      · have c1 : ¬ bn ≤ k := fun z => c1 ((gLe (a := bn) (b := k) hz5 rfl (by omega) (by omega)).mpr z)
        exact absurd c1 (by omega)
    | succ d ih =>
      intro k hk  hi ls hl
      refine lv_iload_n hx hb dX12_looked_2 rfl (lv_at hl 1 rfl) ?_
      refine lv_aload_n hx hb dX12_looked_3 rfl (lv_at hl 0 rfl) ?_
      refine g_get (v := .int (π 15 5)) (T := TX12) (ci := 12) (N := 45) hx hb hown hK (gY_X12 hT) rfl (h1 0 _ rfl) 34 (by decide) (hT _ gf_X12_296) rfl dX12_looked_4 ?_
      refine lv_icmp_ge (tgt := 38) hx hb dX12_looked_7 (by decide) (fun c2 => ?_) (fun c2 => ?_)
      · have c2 : bn ≤ k := (gLe (a := bn) (b := k) hz5 rfl (by omega) (by omega)).mp c2
        exact absurd c2 (by omega)
      · have c2 : ¬ bn ≤ k := fun z => c2 ((gLe (a := bn) (b := k) hz5 rfl (by omega) (by omega)).mpr z)
        obtain ⟨u, lu, eu⟩ := gIw (M := 11) (n := 11) rfl (by decide) (hw k (by omega))
        have ew : π 13 k = nI (π 13 k).toNatClampNeg := by rw [eu, nI_clamp (by omega)]
        have lw : (π 13 k).toNatClampNeg < 12 := by rw [eu, nI_clamp (by omega)]; omega
        refine lv_aload_n hx hb dX12_looked_10 rfl (lv_at hl 0 rfl) ?_
        refine g_get (v := .ref (b + 1)) (T := TX12) (ci := 12) (N := 45) hx hb hown hK (gY_X12 hT) rfl (h1 0 _ rfl) 0 (by decide) (hT _ gf_X12_9) rfl dX12_looked_11 ?_
        refine lv_aload_n hx hb dX12_looked_14 rfl (lv_at hl 0 rfl) ?_
        refine g_get (v := .ref (b + 22)) (T := TX12) (ci := 12) (N := 45) hx hb hown hK (gY_X12 hT) rfl (h1 0 _ rfl) 35 (by decide) (hT _ gf_X12_76) rfl dX12_looked_15 ?_
        refine lv_iload_n hx hb dX12_looked_18 rfl (lv_at hl 1 rfl) ?_
        refine g_ia (j := k) (v := π 13 k) hx hb hK (h1 22 _ rfl) rfl (by omega) (Nat.le_of_ble_eq_true rfl) rfl dX12_looked_19 ?_
        refine g_ia (j := (π 13 k).toNatClampNeg) (v := π 0 ((π 13 k).toNatClampNeg)) hx hb hK (h1 1 _ rfl) ew lw (Nat.le_of_ble_eq_true rfl) rfl dX12_looked_20 ?_
        refine lv_aload_n hx hb dX12_looked_21 rfl (lv_at hl 0 rfl) ?_
        refine g_get (v := .ref (b + 23)) (T := TX12) (ci := 12) (N := 45) hx hb hown hK (gY_X12 hT) rfl (h1 0 _ rfl) 36 (by decide) (hT _ gf_X12_79) rfl dX12_looked_22 ?_
        refine lv_iload_n hx hb dX12_looked_25 rfl (lv_at hl 1 rfl) ?_
        refine g_ia (j := k) (v := π 14 k) hx hb hK (h1 23 _ rfl) rfl (by omega) (Nat.le_of_ble_eq_true rfl) rfl dX12_looked_26 ?_
        refine lv_icmp_eq (tgt := 32) hx hb dX12_looked_27 (by decide) (fun c3 => ?_) (fun c3 => ?_)
        · refine lv_iinc (v := nI (k + 1)) (lv' := [(1, .int (nI (k + 1))), (0, .ref b)]) hx hb dX12_looked_32 hl (k := 1) rfl (gAdd rfl (show Int32.ofInt 1 = nI 1 from rfl)) (by decide) rfl (fun ls hl => ?_)
          refine lv_goto (tgt := 2) hx hb dX12_looked_35 (by decide) ?_
          exact ih (k + 1) (by omega)  (by rw [hi, gLook, if_pos c3]) _ (by have hl := lv_sub hl [1, 0] rfl; exact hl)
        · refine lv_iload_n hx hb dX12_looked_30 rfl (lv_at hl 1 rfl) ?_
          rw [← hQ]
          exact g_iret hx hb hr hlk hS dX12_looked_31 (by rw [hi, gLook, if_neg c3])
  exact loop (bn - 0) 0 (by first | omega | simp) rfl _ (lv_sub hl [1, 0] rfl)

set_option maxHeartbeats 4000000 in
set_option maxRecDepth 100000 in
theorem c_X12_item (l : Launch) (G : gW) (b : Nat) (π μ f : gPS) (g : Nat → Int64) (hzs : ∀ k, k < 6 → ∃ z, z ≤ 60 ∧ μ 3 k = nI z) (t i : Int32) (v : Int64) : gCI l yX12_item cX12_item 5 .int (gRm 2 42) G [.ref b, .int t, .int i, .long v] (fun H => gSg G b (gLM G b π μ f g) H) (fun r H => r = (gqItem μ g t i v).1 ∧ gSg G b (gLM G b π μ f (gqItem μ g t i v).2) H) (fun q => b ≤ q ∧ q < b + 30) := by
  refine g_start (by decide) (Nat.le_of_ble_eq_true rfl) ?_
  intro pp_ ee_ s mm_ aa_ below meth cc_ ls Q hQ hX hE hP hl
  obtain ⟨hx, hb, hr, hml, hown, hT, hlk, hnm⟩ := hX
  have hK := hE.2.1
  have h1 := hP
  have hS : va_S (fun q => b ≤ q ∧ q < b + 30) s.heap s.heap [] := va_S.rf
  have hl : lv_has ls 5 [(0, .ref b), (1, .int t), (2, .int i), (3, .long v)] := hl
  refine lv_iload_n hx hb dX12_item_0 rfl (lv_at hl 1 rfl) ?_
  refine g_ki (g_runS (rest := []) hx hb hml hown hE hT (c_X12_isTape l G t) gM_X12_isTape gm_X12_322 gt_X12_isTape trivial rfl hl.1 ⟨rfl, rfl⟩ ⟨Nat.le_of_ble_eq_true rfl, Nat.le_of_ble_eq_true rfl⟩ ⟨Nat.zero_le _, Nat.zero_le _⟩ rfl (Nat.le_of_ble_eq_true rfl) dX12_item_1) hS (fun _ h => h.elim) (fun r4 H1 locs q2 k3 hS => ?_)
  subst q2
  have h1 := gSg_free h1 k3 (by intro k hk q; simp only [List.length_cons, List.length_nil] at hk; omega)
  refine lv_if_ne (tgt := 9) hx hb dX12_item_4 (by decide) (fun c5 => ?_) (fun c5 => ?_)
  · have c5 : 0 ≤ t ∧ t ≤ 5 := gB_1.mp c5
    obtain ⟨k, hk, ek⟩ := gIw (M := 5) (n := 5) rfl (by decide) c5
    subst ek
    obtain ⟨z, lz, ez⟩ := hzs k (by omega)
    refine lv_aload_n hx hb dX12_item_9 rfl (lv_at hl 0 rfl) ?_
    refine g_get (v := .ref (b + 27)) (T := TX12) (ci := 12) (N := 45) hx hb hown hK (gY_X12 hT) rfl (h1 0 _ rfl) 42 (by decide) (hT _ gf_X12_91) rfl dX12_item_10 ?_
    refine lv_iload_n hx hb dX12_item_13 rfl (lv_at hl 1 rfl) ?_
    refine g_ia (j := k) (v := μ 2 k) hx hb hK (h1 27 _ rfl) rfl (by omega) (Nat.le_of_ble_eq_true rfl) rfl dX12_item_14 ?_
    refine lv_if_ge (tgt := 21) hx hb dX12_item_15 (by decide) (fun c6 => ?_) (fun c6 => ?_)
    · refine lv_iload_n hx hb dX12_item_21 rfl (lv_at hl 2 rfl) ?_
      refine lv_iconst (v := 0) hx hb dX12_item_22 (by decide) ?_
      refine lv_aload_n hx hb dX12_item_23 rfl (lv_at hl 0 rfl) ?_
      refine g_get (v := .ref (b + 28)) (T := TX12) (ci := 12) (N := 45) hx hb hown hK (gY_X12 hT) rfl (h1 0 _ rfl) 43 (by decide) (hT _ gf_X12_94) rfl dX12_item_24 ?_
      refine lv_iload_n hx hb dX12_item_27 rfl (lv_at hl 1 rfl) ?_
      refine g_ia (j := k) (v := μ 3 k) hx hb hK (h1 28 _ rfl) rfl (by omega) (Nat.le_of_ble_eq_true rfl) rfl dX12_item_28 ?_
      refine lv_iconst (v := 1) hx hb dX12_item_29 (by decide) ?_
      refine lv_isub hx hb dX12_item_30 ?_
      refine g_ki (g_runS (rest := []) hx hb hml hown hE hT (c_X12_within l G i 0 ((μ 3 k) - 1)) gM_X12_within gm_X12_108 gt_X12_within trivial rfl hl.1 ⟨rfl, rfl⟩ ⟨Nat.le_of_ble_eq_true rfl, Nat.le_of_ble_eq_true rfl⟩ ⟨Nat.zero_le _, Nat.zero_le _⟩ rfl (Nat.le_of_ble_eq_true rfl) dX12_item_31) hS (fun _ h => h.elim) (fun r10 H7 locs q8 k9 hS => ?_)
      subst q8
      have h1 := gSg_free h1 k9 (by intro k hk q; simp only [List.length_cons, List.length_nil] at hk; omega)
      refine lv_if_ne (tgt := 40) hx hb dX12_item_34 (by decide) (fun c11 => ?_) (fun c11 => ?_)
      · have c11 : 0 ≤ i ∧ i ≤ (μ 3 k) - 1 := gB_1.mp c11
        rw [gPred ez (by omega)] at c11
        obtain ⟨j, hj, ej⟩ := gIx ez (by omega) c11
        subst ej
        refine lv_aload_n hx hb dX12_item_40 rfl (lv_at hl 0 rfl) ?_
        refine g_get (v := .ref (b + 29)) (T := TX12) (ci := 12) (N := 45) hx hb hown hK (gY_X12 hT) rfl (h1 0 _ rfl) 44 (by decide) (hT _ gf_X12_97) rfl dX12_item_41 ?_
        refine lv_bipush (v := 60) hx hb dX12_item_44 (by decide) ?_
        refine lv_iload_n hx hb dX12_item_46 rfl (lv_at hl 1 rfl) ?_
        refine lv_imul hx hb dX12_item_47 ?_
        refine lv_iload_n hx hb dX12_item_48 rfl (lv_at hl 2 rfl) ?_
        refine lv_iadd hx hb dX12_item_49 ?_
        refine lv_aload_n hx hb dX12_item_50 rfl (lv_at hl 0 rfl) ?_
        refine g_get (v := .ref (b + 27)) (T := TX12) (ci := 12) (N := 45) hx hb hown hK (gY_X12 hT) rfl (h1 0 _ rfl) 42 (by decide) (hT _ gf_X12_91) rfl dX12_item_51 ?_
        refine lv_iload_n hx hb dX12_item_54 rfl (lv_at hl 1 rfl) ?_
        refine g_ia (j := k) (v := μ 2 k) hx hb hK (h1 27 _ rfl) rfl (by omega) (Nat.le_of_ble_eq_true rfl) rfl dX12_item_55 ?_
        refine lv_lload_n hx hb dX12_item_56 rfl (lv_at hl 3 rfl) ?_
        refine g_kl (g_runS (rest := [.int ((60 * (nI k)) + (nI j)), .ref (b + 29)]) hx hb hml hown hE hT (c_X12_kept l G (μ 2 k) v) gM_X12_kept gm_X12_325 gt_X12_kept trivial rfl hl.1 ⟨rfl, rfl⟩ ⟨Nat.le_of_ble_eq_true rfl, Nat.le_of_ble_eq_true rfl⟩ ⟨Nat.zero_le _, Nat.zero_le _⟩ rfl (Nat.le_of_ble_eq_true rfl) dX12_item_57) hS (fun _ h => h.elim) (fun r15 H12 locs q13 k14 hS => ?_)
        subst q13
        have h1 := gSg_free h1 k14 (by intro k hk q; simp only [List.length_cons, List.length_nil] at hk; omega)
        refine g_ls (j := (60 * k) + j) hx hb hK hS (h1 29 _ rfl) (gAdd (gMul rfl rfl) rfl) (by omega) (Nat.le_of_ble_eq_true rfl) (by omega) dX12_item_60 (fun H16 locs c17 oq hS => ?_)
        have h1 : gSg G b (gLM G b π μ f (vp_updL g ((60 * k) + j) (gKept (μ 2 k) v))) H16 := gSg_set h1 29 c17 oq
        refine lv_iconst (v := 1) hx hb dX12_item_61 (by decide) ?_
        rw [← hQ]
        exact g_iret hx hb hr hlk hS dX12_item_62 (by rw [show gqItem μ g (nI k) (nI j) v = (1, vp_updL g ((60 * k) + j) (gKept (μ 2 k) v)) from by simp only [gqItem, if_pos c5, if_pos c6, if_pos c11, nI_clamp (show k < 2 ^ 31 by omega), nI_clamp (show j < 2 ^ 31 by omega)] <;> rfl]; exact ⟨rfl, h1⟩)
      · have c11 : ¬ (0 ≤ i ∧ i ≤ (μ 3 k) - 1) := gB_0.mp c11
        rw [gPred ez (by omega)] at c11
        refine lv_bipush (v := (-13)) hx hb dX12_item_37 (by decide) ?_
        rw [← hQ]
        exact g_iret hx hb hr hlk hS dX12_item_39 (by rw [show gqItem μ g (nI k) i v = ((-13), g) from by simp only [gqItem, if_pos c5, if_pos c6, if_neg c11, nI_clamp (show k < 2 ^ 31 by omega)] <;> rfl]; exact ⟨rfl, h1⟩)
    · refine lv_bipush (v := (-11)) hx hb dX12_item_18 (by decide) ?_
      rw [← hQ]
      exact g_iret hx hb hr hlk hS dX12_item_20 (by rw [show gqItem μ g (nI k) i v = ((-11), g) from by simp only [gqItem, if_pos c5, if_neg c6, nI_clamp (show k < 2 ^ 31 by omega)] <;> rfl]; exact ⟨rfl, h1⟩)
  · have c5 : ¬ (0 ≤ t ∧ t ≤ 5) := gB_0.mp c5
    refine lv_iconst (v := (-1)) hx hb dX12_item_7 (by decide) ?_
    rw [← hQ]
    exact g_iret hx hb hr hlk hS dX12_item_8 (by rw [show gqItem μ g t i v = ((-1), g) from by simp only [gqItem, if_neg c5] <;> rfl]; exact ⟨rfl, h1⟩)

set_option maxHeartbeats 4000000 in
set_option maxRecDepth 100000 in
theorem c_X12_read (l : Launch) (G : gW) (b : Nat) (π μ f : gPS) (g : Nat → Int64) (hzs : ∀ k, k < 6 → ∃ z, z ≤ 60 ∧ μ 3 k = nI z) (t i : Int32) : gCL l yX12_read cX12_read 3 (gRm 2 42) G [.ref b, .int t, .int i] (fun H => gSg G b (gLM G b π μ f g) H) (fun r H => r = gqRead μ g t i) (fun _ => False) := by
  refine g_start (by decide) (Nat.le_of_ble_eq_true rfl) ?_
  intro pp_ ee_ s mm_ aa_ below meth cc_ ls Q hQ hX hE hP hl
  obtain ⟨hx, hb, hr, hml, hown, hT, hlk, hnm⟩ := hX
  have hK := hE.2.1
  have h1 := hP
  have hS : va_S (fun _ => False) s.heap s.heap [] := va_S.rf
  have hl : lv_has ls 3 [(0, .ref b), (1, .int t), (2, .int i)] := hl
  refine lv_iload_n hx hb dX12_read_0 rfl (lv_at hl 1 rfl) ?_
  refine g_ki (g_runS (rest := []) hx hb hml hown hE hT (c_X12_isTape l G t) gM_X12_isTape gm_X12_322 gt_X12_isTape trivial rfl hl.1 ⟨rfl, rfl⟩ ⟨Nat.le_of_ble_eq_true rfl, Nat.le_of_ble_eq_true rfl⟩ ⟨Nat.zero_le _, Nat.zero_le _⟩ rfl (Nat.le_of_ble_eq_true rfl) dX12_read_1) hS (fun _ h => h.elim) (fun r4 H1 locs q2 k3 hS => ?_)
  subst q2
  have h1 := gSg_free h1 k3 (by intro k hk q; simp only [List.length_cons, List.length_nil] at hk; omega)
  refine lv_if_eq (tgt := 46) hx hb dX12_read_4 (by decide) (fun c5 => ?_) (fun c5 => ?_)
  · have c5 : ¬ (0 ≤ t ∧ t ≤ 5) := gB_0.mp c5
    refine lv_ldc2 (v := -9223372036854775808) hx hb hown (hT _ gl_X12_282) dX12_read_46 ?_
    rw [← hQ]
    exact g_lret hx hb hr hlk hS dX12_read_49 (by simp only [gqRead, if_neg c5])
  · have c5 : 0 ≤ t ∧ t ≤ 5 := gB_1.mp c5
    obtain ⟨k, hk, ek⟩ := gIw (M := 5) (n := 5) rfl (by decide) c5
    subst ek
    obtain ⟨z, lz, ez⟩ := hzs k (by omega)
    refine lv_aload_n hx hb dX12_read_7 rfl (lv_at hl 0 rfl) ?_
    refine g_get (v := .ref (b + 27)) (T := TX12) (ci := 12) (N := 45) hx hb hown hK (gY_X12 hT) rfl (h1 0 _ rfl) 42 (by decide) (hT _ gf_X12_91) rfl dX12_read_8 ?_
    refine lv_iload_n hx hb dX12_read_11 rfl (lv_at hl 1 rfl) ?_
    refine g_ia (j := k) (v := μ 2 k) hx hb hK (h1 27 _ rfl) rfl (by omega) (Nat.le_of_ble_eq_true rfl) rfl dX12_read_12 ?_
    refine lv_if_lt (tgt := 46) hx hb dX12_read_13 (by decide) (fun c6 => ?_) (fun c6 => ?_)
    · have c6 : μ 2 k < 0 := c6
      refine lv_ldc2 (v := -9223372036854775808) hx hb hown (hT _ gl_X12_282) dX12_read_46 ?_
      rw [← hQ]
      exact g_lret hx hb hr hlk hS dX12_read_49 (by simp only [gqRead, if_pos c5, if_pos c6, nI_clamp (show k < 2 ^ 31 by omega)])
    · have c6 : ¬ μ 2 k < 0 := c6
      refine lv_iload_n hx hb dX12_read_16 rfl (lv_at hl 2 rfl) ?_
      refine lv_iconst (v := 0) hx hb dX12_read_17 (by decide) ?_
      refine lv_aload_n hx hb dX12_read_18 rfl (lv_at hl 0 rfl) ?_
      refine g_get (v := .ref (b + 28)) (T := TX12) (ci := 12) (N := 45) hx hb hown hK (gY_X12 hT) rfl (h1 0 _ rfl) 43 (by decide) (hT _ gf_X12_94) rfl dX12_read_19 ?_
      refine lv_iload_n hx hb dX12_read_22 rfl (lv_at hl 1 rfl) ?_
      refine g_ia (j := k) (v := μ 3 k) hx hb hK (h1 28 _ rfl) rfl (by omega) (Nat.le_of_ble_eq_true rfl) rfl dX12_read_23 ?_
      refine lv_iconst (v := 1) hx hb dX12_read_24 (by decide) ?_
      refine lv_isub hx hb dX12_read_25 ?_
      refine g_ki (g_runS (rest := []) hx hb hml hown hE hT (c_X12_within l G i 0 ((μ 3 k) - 1)) gM_X12_within gm_X12_108 gt_X12_within trivial rfl hl.1 ⟨rfl, rfl⟩ ⟨Nat.le_of_ble_eq_true rfl, Nat.le_of_ble_eq_true rfl⟩ ⟨Nat.zero_le _, Nat.zero_le _⟩ rfl (Nat.le_of_ble_eq_true rfl) dX12_read_26) hS (fun _ h => h.elim) (fun r10 H7 locs q8 k9 hS => ?_)
      subst q8
      have h1 := gSg_free h1 k9 (by intro k hk q; simp only [List.length_cons, List.length_nil] at hk; omega)
      refine lv_if_eq (tgt := 46) hx hb dX12_read_29 (by decide) (fun c11 => ?_) (fun c11 => ?_)
      · have c11 : ¬ (0 ≤ i ∧ i ≤ (μ 3 k) - 1) := gB_0.mp c11
        rw [gPred ez (by omega)] at c11
        refine lv_ldc2 (v := -9223372036854775808) hx hb hown (hT _ gl_X12_282) dX12_read_46 ?_
        rw [← hQ]
        exact g_lret hx hb hr hlk hS dX12_read_49 (by simp only [gqRead, if_pos c5, if_neg c6, if_neg c11, nI_clamp (show k < 2 ^ 31 by omega)])
      · have c11 : 0 ≤ i ∧ i ≤ (μ 3 k) - 1 := gB_1.mp c11
        rw [gPred ez (by omega)] at c11
        obtain ⟨j, hj, ej⟩ := gIx ez (by omega) c11
        subst ej
        refine lv_aload_n hx hb dX12_read_32 rfl (lv_at hl 0 rfl) ?_
        refine g_get (v := .ref (b + 29)) (T := TX12) (ci := 12) (N := 45) hx hb hown hK (gY_X12 hT) rfl (h1 0 _ rfl) 44 (by decide) (hT _ gf_X12_97) rfl dX12_read_33 ?_
        refine lv_bipush (v := 60) hx hb dX12_read_36 (by decide) ?_
        refine lv_iload_n hx hb dX12_read_38 rfl (lv_at hl 1 rfl) ?_
        refine lv_imul hx hb dX12_read_39 ?_
        refine lv_iload_n hx hb dX12_read_40 rfl (lv_at hl 2 rfl) ?_
        refine lv_iadd hx hb dX12_read_41 ?_
        refine g_la (j := (60 * k) + j) (v := g ((60 * k) + j)) hx hb hK (h1 29 _ rfl) (gAdd (gMul rfl rfl) rfl) (by omega) (Nat.le_of_ble_eq_true rfl) rfl dX12_read_42 ?_
        refine lv_goto (tgt := 49) hx hb dX12_read_43 (by decide) ?_
        rw [← hQ]
        exact g_lret hx hb hr hlk hS dX12_read_49 (by simp only [gqRead, if_pos c5, if_neg c6, if_pos c11, nI_clamp (show k < 2 ^ 31 by omega), nI_clamp (show j < 2 ^ 31 by omega)])
