set_option maxHeartbeats 4000000 in
set_option maxRecDepth 100000 in
theorem c_X5_takesClause (l : Launch) (G : gW) (t : Nat) (f : gPS) (n : Nat) (hT9 : gTx (f 0) n) (E : Nat → Int32) (p c : Nat) (wn : Nat) (rs : Int32) (hp : p ≤ n) (hc : c + (n - p) ≤ 100) (hw : wn < 10) (T : Nat → Int32) (hT0 : f 0 = T) (htG : G.2.2.2.size ≤ t) : gCI l yX5_takesClause cX5_takesClause 3 .boolean (gRm 17 371) G [.ref t] (fun H => gOld G H ∧ gSg G t (gLL G t (gR (gR f 1 E) 5 (gS6 (nI n) (nI p) (nI c) (nI wn) rs))) H) (fun r H => r = gB ((gKl T n p).1 = true) ∧ ∃ (f9 : gPS) (c9 wn9 : Nat) (rs9 : Int32) (E9 : Nat → Int32), ((gKl T n p).1 = true → gCk T n p c wn f rs E f9 c9 wn9 rs9 E9) ∧ f9 0 = T ∧ f9 3 0 = f 3 0 ∧ gSg G t (gLL G t (gR (gR f9 1 E9) 5 (gS6 (nI n) (nI (gKl T n p).2.1) (nI c9) (nI wn9) rs9))) H) (fun q => t ≤ q ∧ q < t + 6) := by
  refine g_start (by decide) (Nat.le_of_ble_eq_true rfl) ?_
  intro pp_ ee_ s mm_ aa_ below meth cc_ ls Q hQ hX hE hP hl
  obtain ⟨hx, hb, hr, hml, hown, hT, hlk, hnm⟩ := hX
  have hK := hE.2.1
  obtain ⟨hO, h1⟩ := hP
  have hS : va_S (fun q => t ≤ q ∧ q < t + 6) s.heap s.heap [] := va_S.rf
  have hl : lv_has ls 3 [(0, .ref t)] := hl
  subst hT0
  have hn9 : n ≤ 100 := hT9.1
  have hJ := hE.2.2.2.2.2.2.now hO
  refine lv_aload_n hx hb dX5_takesClause_0 rfl (lv_at hl 0 rfl) ?_
  refine lv_bipush (v := 114) hx hb dX5_takesClause_1 (by decide) ?_
  refine g_ki (g_runV (T := TX5) (ci := 5) (N := 10) (rest := []) hx hb hml hown hE hT (c_X5_takesSign l G t f n hT9 E p c (nI wn) rs (by omega) (by omega) 114) gM_X5_takesSign gm_X5_68 gi_X5_takesSign gs_RX5_yX5_takesSign_yX5_takesSign rfl (h1 0 _ rfl) h1 rfl hl.1 ⟨rfl, rfl⟩ ⟨Nat.le_of_ble_eq_true rfl, Nat.le_of_ble_eq_true rfl⟩ ⟨Nat.zero_le _, Nat.zero_le _⟩ rfl (Nat.le_of_ble_eq_true rfl) dX5_takesClause_3) hS (by intro q hq; omega) (fun r4 H1 locs q2 k3 hS => ?_)
  obtain ⟨e9, h1⟩ := q2
  rw [e9]
  refine lv_if_eq (tgt := 31) hx hb dX5_takesClause_6 (by decide) (fun c5 => ?_) (fun c5 => ?_)
  · have c5 : ¬ (p < n ∧ f 0 p = 114) := gB_0.mp c5
    rw [if_neg c5] at h1
    refine lv_aload_n hx hb dX5_takesClause_31 rfl (lv_at hl 0 rfl) ?_
    refine lv_bipush (v := 103) hx hb dX5_takesClause_32 (by decide) ?_
    refine g_ki (g_runV (T := TX5) (ci := 5) (N := 10) (rest := []) hx hb hml hown hE hT (c_X5_takesSign l G t f n hT9 E p c (nI wn) rs (by omega) (by omega) 103) gM_X5_takesSign gm_X5_68 gi_X5_takesSign gs_RX5_yX5_takesSign_yX5_takesSign rfl (h1 0 _ rfl) h1 rfl hl.1 ⟨rfl, rfl⟩ ⟨Nat.le_of_ble_eq_true rfl, Nat.le_of_ble_eq_true rfl⟩ ⟨Nat.zero_le _, Nat.zero_le _⟩ rfl (Nat.le_of_ble_eq_true rfl) dX5_takesClause_34) hS (by intro q hq; omega) (fun r9 H6 locs q7 k8 hS => ?_)
    obtain ⟨e9, h1⟩ := q7
    rw [e9]
    refine lv_if_ne (tgt := 42) hx hb dX5_takesClause_37 (by decide) (fun c10 => ?_) (fun c10 => ?_)
    · have c10 : p < n ∧ f 0 p = 103 := gB_1.mp c10
      rw [if_pos c10] at h1
      have ltc10 := c10.1
      refine lv_aload_n hx hb dX5_takesClause_42 rfl (lv_at hl 0 rfl) ?_
      refine lv_bipush (v := 108) hx hb dX5_takesClause_43 (by decide) ?_
      refine g_ki (g_runV (T := TX5) (ci := 5) (N := 10) (rest := []) hx hb hml hown hE hT (c_X5_takesSign l G t f n hT9 E (p + 1) c (nI wn) rs (by omega) (by omega) 108) gM_X5_takesSign gm_X5_68 gi_X5_takesSign gs_RX5_yX5_takesSign_yX5_takesSign rfl (h1 0 _ rfl) h1 rfl hl.1 ⟨rfl, rfl⟩ ⟨Nat.le_of_ble_eq_true rfl, Nat.le_of_ble_eq_true rfl⟩ ⟨Nat.zero_le _, Nat.zero_le _⟩ rfl (Nat.le_of_ble_eq_true rfl) dX5_takesClause_45) hS (by intro q hq; omega) (fun r14 H11 locs q12 k13 hS => ?_)
      obtain ⟨e9, h1⟩ := q12
      rw [e9]
      refine lv_istore_n (lv' := [(1, .int (gB (p + 1 < n ∧ f 0 (p + 1) = 108))), (0, .ref t)]) hx hb dX5_takesClause_48 rfl hl (by decide) rfl (fun ls hl => ?_)
      refine lv_aload_n hx hb dX5_takesClause_49 rfl (lv_at hl 1 rfl) ?_
      refine lv_iload_n hx hb dX5_takesClause_50 rfl (lv_at hl 0 rfl) ?_
      refine lv_if_eq (tgt := 59) hx hb dX5_takesClause_51 (by decide) (fun c15 => ?_) (fun c15 => ?_)
      · have c15 : ¬ (p + 1 < n ∧ f 0 (p + 1) = 108) := gB_0.mp c15
        rw [if_neg c15] at h1
        refine va_ldcS (q := G.2.2.1 4) hx hb hown (hE.2.2.2.2.2.1 (RX5, 83, _, 4) (List.mem_of_getElem? (i := 4) rfl)) dX5_takesClause_59 ?_
        have fA4 : p + 1 ≤ (gAll (f 0) n 4 (gLen.getD 4 0) 0 (p + 1)).2 ∧ (gAll (f 0) n 4 (gLen.getD 4 0) 0 (p + 1)).2 ≤ n := gAll_fit _ _ _ (by omega)
        refine g_ki (g_runV (T := TX5) (ci := 5) (N := 10) (rest := []) hx hb hml hown hE hT (c_X5_takesSigns l G t f n hT9 E (p + 1) c (nI wn) rs (by omega) (by omega) htG 4 (by decide)) gM_X5_takesSigns gm_X5_74 gi_X5_takesSigns gs_RX5_yX5_takesSigns_yX5_takesSigns rfl (h1 0 _ rfl) ⟨(gOld_S hO hS (fun q9 hq9 => Nat.le_trans htG hq9.1)), h1⟩ rfl hl.1 ⟨rfl, rfl⟩ ⟨Nat.le_of_ble_eq_true rfl, Nat.le_of_ble_eq_true rfl⟩ ⟨Nat.zero_le _, Nat.zero_le _⟩ rfl (Nat.le_of_ble_eq_true rfl) dX5_takesClause_61) hS (by intro q hq; omega) (fun r19 H16 locs q17 k18 hS => ?_)
        obtain ⟨e9, h1⟩ := q17
        rw [e9]
        refine lv_if_ne (tgt := 69) hx hb dX5_takesClause_64 (by decide) (fun c20 => ?_) (fun c20 => ?_)
        · have c20 : (gAll (f 0) n 4 (gLen.getD 4 0) 0 (p + 1)).1 = true := gB_1.mp c20
          refine lv_aload_n hx hb dX5_takesClause_69 rfl (lv_at hl 1 rfl) ?_
          have fN : (gAll (f 0) n 4 (gLen.getD 4 0) 0 (p + 1)).2 ≤ (gNum (f 0) n (gAll (f 0) n 4 (gLen.getD 4 0) 0 (p + 1)).2).2.1 ∧ (gNum (f 0) n (gAll (f 0) n 4 (gLen.getD 4 0) 0 (p + 1)).2).2.1 ≤ n := gNum_fit (by omega)
          have vN : (gNum (f 0) n (gAll (f 0) n 4 (gLen.getD 4 0) 0 (p + 1)).2).2.2 < 100 := gNum_v
          refine g_ki (g_runV (T := TX5) (ci := 5) (N := 10) (rest := []) hx hb hml hown hE hT (c_X5_takesNumber l G t f n hT9 E (gAll (f 0) n 4 (gLen.getD 4 0) 0 (p + 1)).2 c (nI wn) rs (by omega) (by omega)) gM_X5_takesNumber gm_X5_85 gi_X5_takesNumber gs_RX5_yX5_takesNumber_yX5_takesNumber rfl (h1 0 _ rfl) h1 rfl hl.1 ⟨rfl, rfl⟩ ⟨Nat.le_of_ble_eq_true rfl, Nat.le_of_ble_eq_true rfl⟩ ⟨Nat.zero_le _, Nat.zero_le _⟩ rfl (Nat.le_of_ble_eq_true rfl) dX5_takesClause_70) hS (by intro q hq; omega) (fun r24 H21 locs q22 k23 hS => ?_)
          obtain ⟨e9, h1⟩ := q22
          rw [e9]
          by_cases hN : (gNum (f 0) n (gAll (f 0) n 4 (gLen.getD 4 0) 0 (p + 1)).2).1 = true
          · rw [if_pos hN]
            refine lv_istore_n (lv' := [(2, .int (nI ((gNum (f 0) n (gAll (f 0) n 4 (gLen.getD 4 0) 0 (p + 1)).2).2.2))), (1, .int (gB (p + 1 < n ∧ f 0 (p + 1) = 108))), (0, .ref t)]) hx hb dX5_takesClause_73 rfl hl (by decide) rfl (fun ls hl => ?_)
            refine lv_iload_n hx hb dX5_takesClause_74 rfl (lv_at hl 0 rfl) ?_
            refine lv_if_lt (tgt := 104) hx hb dX5_takesClause_75 (by decide) (fun c25 => ?_) (fun c25 => ?_)
            · have c25 : ((gNum (f 0) n (gAll (f 0) n 4 (gLen.getD 4 0) 0 (p + 1)).2).2.2) < 0 := (gLt (a := (gNum (f 0) n (gAll (f 0) n 4 (gLen.getD 4 0) 0 (p + 1)).2).2.2) (b := 0) rfl rfl (by omega) (by omega)).mp c25
              exact absurd c25 (by omega)
            · have c25 : ¬ ((gNum (f 0) n (gAll (f 0) n 4 (gLen.getD 4 0) 0 (p + 1)).2).2.2) < 0 := fun z => c25 ((gLt (a := (gNum (f 0) n (gAll (f 0) n 4 (gLen.getD 4 0) 0 (p + 1)).2).2.2) (b := 0) rfl rfl (by omega) (by omega)).mpr z)
              refine lv_aload_n hx hb dX5_takesClause_78 rfl (lv_at hl 2 rfl) ?_
              refine lv_bipush (v := 32) hx hb dX5_takesClause_79 (by decide) ?_
              refine g_ki (g_runV (T := TX5) (ci := 5) (N := 10) (rest := []) hx hb hml hown hE hT (c_X5_takesSign l G t f n hT9 E (gNum (f 0) n (gAll (f 0) n 4 (gLen.getD 4 0) 0 (p + 1)).2).2.1 c (nI wn) rs (by omega) (by omega) 32) gM_X5_takesSign gm_X5_68 gi_X5_takesSign gs_RX5_yX5_takesSign_yX5_takesSign rfl (h1 0 _ rfl) h1 rfl hl.1 ⟨rfl, rfl⟩ ⟨Nat.le_of_ble_eq_true rfl, Nat.le_of_ble_eq_true rfl⟩ ⟨Nat.zero_le _, Nat.zero_le _⟩ rfl (Nat.le_of_ble_eq_true rfl) dX5_takesClause_81) hS (by intro q hq; omega) (fun r29 H26 locs q27 k28 hS => ?_)
              obtain ⟨e9, h1⟩ := q27
              rw [e9]
              refine lv_if_eq (tgt := 104) hx hb dX5_takesClause_84 (by decide) (fun c30 => ?_) (fun c30 => ?_)
              · have c30 : ¬ ((gNum (f 0) n (gAll (f 0) n 4 (gLen.getD 4 0) 0 (p + 1)).2).2.1 < n ∧ f 0 (gNum (f 0) n (gAll (f 0) n 4 (gLen.getD 4 0) 0 (p + 1)).2).2.1 = 32) := gB_0.mp c30
                rw [if_neg c30] at h1
                refine lv_iconst (v := 0) hx hb dX5_takesClause_104 (by decide) ?_
                have hW : gWd (f 0) n p = ((gAll (f 0) n 4 (gLen.getD 4 0) 0 (p + 1)).1, (gAll (f 0) n 4 (gLen.getD 4 0) 0 (p + 1)).2, 1) := by rw [gWd, if_neg c5, if_pos c10, if_neg c15]; rfl
                have hK := ((gKl_w (f 0) n p).1.trans (congrArg (gKw (f 0) n) hW)).trans (gKw_3 c20 hN (by decide) c30)
                rw [← hQ]
                exact g_zret hx hb hr hlk rfl hS dX5_takesClause_105 (by rw [hK]; exact ⟨rfl, _, _, _, _, _, fun z9 => absurd (show false = true from z9) (by decide), rfl, rfl, h1⟩)
              · have c30 : (gNum (f 0) n (gAll (f 0) n 4 (gLen.getD 4 0) 0 (p + 1)).2).2.1 < n ∧ f 0 (gNum (f 0) n (gAll (f 0) n 4 (gLen.getD 4 0) 0 (p + 1)).2).2.1 = 32 := gB_1.mp c30
                rw [if_pos c30] at h1
                have ltc30 := c30.1
                refine lv_aload_n hx hb dX5_takesClause_87 rfl (lv_at hl 2 rfl) ?_
                refine lv_iconst (v := 0) hx hb dX5_takesClause_88 (by decide) ?_
                have fE : (gNum (f 0) n (gAll (f 0) n 4 (gLen.getD 4 0) 0 (p + 1)).2).2.1 + 1 ≤ (gE (f 0) n 4 ((gNum (f 0) n (gAll (f 0) n 4 (gLen.getD 4 0) 0 (p + 1)).2).2.1 + 1)).2.1 ∧ (gE (f 0) n 4 ((gNum (f 0) n (gAll (f 0) n 4 (gLen.getD 4 0) 0 (p + 1)).2).2.1 + 1)).2.1 ≤ n ∧ (gE (f 0) n 4 ((gNum (f 0) n (gAll (f 0) n 4 (gLen.getD 4 0) 0 (p + 1)).2).2.1 + 1)).2.2.length ≤ (gE (f 0) n 4 ((gNum (f 0) n (gAll (f 0) n 4 (gLen.getD 4 0) 0 (p + 1)).2).2.1 + 1)).2.1 - ((gNum (f 0) n (gAll (f 0) n 4 (gLen.getD 4 0) 0 (p + 1)).2).2.1 + 1) := gE_fit (f 0) n 4 ((gNum (f 0) n (gAll (f 0) n 4 (gLen.getD 4 0) 0 (p + 1)).2).2.1 + 1) (by omega)
                refine g_ki (g_runV (T := TX5) (ci := 5) (N := 10) (rest := []) hx hb hml hown hE hT (c_X5_takesEither_4 l G t f n hT9 E ((gNum (f 0) n (gAll (f 0) n 4 (gLen.getD 4 0) 0 (p + 1)).2).2.1 + 1) c (nI wn) rs (by omega) (by omega) htG) gM_X5_takesEither gm_X5_88 gi_X5_takesEither gs_RX5_yX5_takesEither_yX5_takesEither rfl (h1 0 _ rfl) ⟨(gOld_S hO hS (fun q9 hq9 => Nat.le_trans htG hq9.1)), h1⟩ rfl hl.1 ⟨rfl, rfl⟩ ⟨Nat.le_of_ble_eq_true rfl, Nat.le_of_ble_eq_true rfl⟩ ⟨Nat.zero_le _, Nat.zero_le _⟩ rfl (Nat.le_of_ble_eq_true rfl) dX5_takesClause_89) hS (by intro q hq; omega) (fun r34 H31 locs q32 k33 hS => ?_)
                obtain ⟨e9, E8, hc8, h1⟩ := q32
                rw [e9]
                refine lv_if_eq (tgt := 104) hx hb dX5_takesClause_92 (by decide) (fun c35 => ?_) (fun c35 => ?_)
                · have c35 : ¬ ((gE (f 0) n 4 ((gNum (f 0) n (gAll (f 0) n 4 (gLen.getD 4 0) 0 (p + 1)).2).2.1 + 1)).1 = true) := gB_0.mp c35
                  refine lv_iconst (v := 0) hx hb dX5_takesClause_104 (by decide) ?_
                  have hW : gWd (f 0) n p = ((gAll (f 0) n 4 (gLen.getD 4 0) 0 (p + 1)).1, (gAll (f 0) n 4 (gLen.getD 4 0) 0 (p + 1)).2, 1) := by rw [gWd, if_neg c5, if_pos c10, if_neg c15]; rfl
                  have hK := ((gKl_w (f 0) n p).1.trans (congrArg (gKw (f 0) n) hW)).trans (gKw_4 c20 hN (by decide) c30)
                  rw [← hQ]
                  exact g_zret hx hb hr hlk rfl hS dX5_takesClause_105 (by rw [hK]; exact ⟨(gB_f c35).symm, _, _, _, _, _, fun z9 => absurd z9 c35, rfl, rfl, h1⟩)
                · have c35 : (gE (f 0) n 4 ((gNum (f 0) n (gAll (f 0) n 4 (gLen.getD 4 0) 0 (p + 1)).2).2.1 + 1)).1 = true := gB_1.mp c35
                  refine lv_aload_n hx hb dX5_takesClause_95 rfl (lv_at hl 2 rfl) ?_
                  refine g_get (v := .int (nI wn)) (T := TX5) (ci := 5) (N := 10) hx hb hown hK (gY_X5 hT) rfl (h1 0 _ rfl) 7 (by decide) (hT _ gf_X5_61) rfl dX5_takesClause_96 ?_
                  refine lv_bipush (v := 10) hx hb dX5_takesClause_99 (by decide) ?_
                  refine lv_icmp_lt (tgt := 106) hx hb dX5_takesClause_101 (by decide) (fun c36 => ?_) (fun c36 => ?_)
                  · have c36 : wn < 10 := (gLt (a := wn) (b := 10) rfl rfl (by omega) (by omega)).mp c36
                    refine lv_aload_n hx hb dX5_takesClause_106 rfl (lv_at hl 2 rfl) ?_
                    refine g_get (v := .ref (t + 3)) (T := TX5) (ci := 5) (N := 10) hx hb hown hK (gY_X5 hT) rfl (h1 0 _ rfl) 5 (by decide) (hT _ gf_X5_19) rfl dX5_takesClause_107 ?_
                    refine lv_aload_n hx hb dX5_takesClause_110 rfl (lv_at hl 2 rfl) ?_
                    refine g_get (v := .int (nI wn)) (T := TX5) (ci := 5) (N := 10) hx hb hown hK (gY_X5 hT) rfl (h1 0 _ rfl) 7 (by decide) (hT _ gf_X5_61) rfl dX5_takesClause_111 ?_
                    refine lv_iload_n hx hb dX5_takesClause_114 rfl (lv_at hl 1 rfl) ?_
                    refine lv_if_eq (tgt := 122) hx hb dX5_takesClause_115 (by decide) (fun c37 => ?_) (fun c37 => ?_)
                    · have c37 : ¬ (p + 1 < n ∧ f 0 (p + 1) = 108) := gB_0.mp c37
                      refine lv_iload_n hx hb dX5_takesClause_122 rfl (lv_at hl 0 rfl) ?_
                      refine lv_ineg hx hb dX5_takesClause_123 ?_
                      refine g_is (j := wn) hx hb hK hS (h1 3 _ rfl) rfl (by omega) (Nat.le_of_ble_eq_true rfl) (by omega) dX5_takesClause_124 (fun H38 locs c39 oq hS => ?_)
                      have h1 : gSg G t (gLL G t (gR (gR (gU f 2 wn (-(nI ((gNum (f 0) n (gAll (f 0) n 4 (gLen.getD 4 0) 0 (p + 1)).2).2.2)))) 1 E8) 5 (gS6 (nI n) (nI (gE (f 0) n 4 ((gNum (f 0) n (gAll (f 0) n 4 (gLen.getD 4 0) 0 (p + 1)).2).2.1 + 1)).2.1) (nI (c + (gE (f 0) n 4 ((gNum (f 0) n (gAll (f 0) n 4 (gLen.getD 4 0) 0 (p + 1)).2).2.1 + 1)).2.2.length)) (nI wn) rs))) H38 := gSg_set h1 3 c39 oq
                      refine lv_aload_n hx hb dX5_takesClause_125 rfl (lv_at hl 2 rfl) ?_
                      refine lv_dup hx hb dX5_takesClause_126 rfl ?_
                      refine g_get (v := .int (nI wn)) (T := TX5) (ci := 5) (N := 10) hx hb hown hK (gY_X5 hT) rfl (h1 0 _ rfl) 7 (by decide) (hT _ gf_X5_61) rfl dX5_takesClause_127 ?_
                      refine lv_iconst (v := 1) hx hb dX5_takesClause_130 (by decide) ?_
                      refine lv_iadd hx hb dX5_takesClause_131 ?_
                      rw [show ((nI wn) + 1 : Int32) = nI (wn + 1) from (gAdd rfl rfl)]
                      refine g_put (T := TX5) (ci := 5) (N := 10) (ty0 := tyX5) hx hb hown hK hS (gY_X5 hT) tyX5_ok nmX5 rfl (h1 0 _ rfl) 7 (by decide) (hT _ gf_X5_61) rfl rfl rfl (Nat.le_of_ble_eq_true rfl) (by omega) dX5_takesClause_132 (fun H40 locs c41 oq hS => ?_)
                      have h1 : gSg G t (gLL G t (gR (gR (gU f 2 wn (-(nI ((gNum (f 0) n (gAll (f 0) n 4 (gLen.getD 4 0) 0 (p + 1)).2).2.2)))) 1 E8) 5 (gS6 (nI n) (nI (gE (f 0) n 4 ((gNum (f 0) n (gAll (f 0) n 4 (gLen.getD 4 0) 0 (p + 1)).2).2.1 + 1)).2.1) (nI (c + (gE (f 0) n 4 ((gNum (f 0) n (gAll (f 0) n 4 (gLen.getD 4 0) 0 (p + 1)).2).2.1 + 1)).2.2.length)) (nI (wn + 1)) rs))) H40 := gSg_set h1 0 c41 oq
                      refine lv_aload_n hx hb dX5_takesClause_135 rfl (lv_at hl 2 rfl) ?_
                      refine g_get (v := .ref (t + 4)) (T := TX5) (ci := 5) (N := 10) hx hb hown hK (gY_X5 hT) rfl (h1 0 _ rfl) 6 (by decide) (hT _ gf_X5_22) rfl dX5_takesClause_136 ?_
                      refine lv_aload_n hx hb dX5_takesClause_139 rfl (lv_at hl 2 rfl) ?_
                      refine g_get (v := .int (nI (wn + 1))) (T := TX5) (ci := 5) (N := 10) hx hb hown hK (gY_X5 hT) rfl (h1 0 _ rfl) 7 (by decide) (hT _ gf_X5_61) rfl dX5_takesClause_140 ?_
                      refine lv_aload_n hx hb dX5_takesClause_143 rfl (lv_at hl 2 rfl) ?_
                      refine g_get (v := .int (nI (c + (gE (f 0) n 4 ((gNum (f 0) n (gAll (f 0) n 4 (gLen.getD 4 0) 0 (p + 1)).2).2.1 + 1)).2.2.length))) (T := TX5) (ci := 5) (N := 10) hx hb hown hK (gY_X5 hT) rfl (h1 0 _ rfl) 4 (by decide) (hT _ gf_X5_58) rfl dX5_takesClause_144 ?_
                      refine g_is (j := wn + 1) hx hb hK hS (h1 4 _ rfl) rfl (by omega) (Nat.le_of_ble_eq_true rfl) (by omega) dX5_takesClause_147 (fun H42 locs c43 oq hS => ?_)
                      have h1 : gSg G t (gLL G t (gR (gR (gU (gU f 2 wn (-(nI ((gNum (f 0) n (gAll (f 0) n 4 (gLen.getD 4 0) 0 (p + 1)).2).2.2)))) 3 (wn + 1) (nI (c + (gE (f 0) n 4 ((gNum (f 0) n (gAll (f 0) n 4 (gLen.getD 4 0) 0 (p + 1)).2).2.1 + 1)).2.2.length))) 1 E8) 5 (gS6 (nI n) (nI (gE (f 0) n 4 ((gNum (f 0) n (gAll (f 0) n 4 (gLen.getD 4 0) 0 (p + 1)).2).2.1 + 1)).2.1) (nI (c + (gE (f 0) n 4 ((gNum (f 0) n (gAll (f 0) n 4 (gLen.getD 4 0) 0 (p + 1)).2).2.1 + 1)).2.2.length)) (nI (wn + 1)) rs))) H42 := gSg_set h1 4 c43 oq
                      refine lv_iconst (v := 1) hx hb dX5_takesClause_148 (by decide) ?_
                      have hW : gWd (f 0) n p = ((gAll (f 0) n 4 (gLen.getD 4 0) 0 (p + 1)).1, (gAll (f 0) n 4 (gLen.getD 4 0) 0 (p + 1)).2, 1) := by rw [gWd, if_neg c5, if_pos c10, if_neg c15]; rfl
                      have hK := ((gKl_w (f 0) n p).1.trans (congrArg (gKw (f 0) n) hW)).trans (gKw_4 c20 hN (by decide) c30)
                      have hk := (gKl_w (f 0) n p).2 (by rw [hW]; exact c20)
                      have hk : gClk (f 0) n p = 1 := hk.trans (congrArg (fun W => W.2.2) hW)
                      rw [← hQ]
                      exact g_zret hx hb hr hlk rfl hS dX5_takesClause_149 (by rw [hK]; exact ⟨(gB_t c35).symm, _, _, _, _, _, fun _ => gCk_g hK hk (by decide) hc8 rfl, rfl, gU_o (Nat.succ_ne_zero _).symm, h1⟩)
                    · have c37 : p + 1 < n ∧ f 0 (p + 1) = 108 := gB_1.mp c37
                      exact absurd c37 c15
                  · have c36 : ¬ wn < 10 := fun z => c36 ((gLt (a := wn) (b := 10) rfl rfl (by omega) (by omega)).mpr z)
                    exact absurd c36 (by omega)
          · rw [if_neg hN]
            refine lv_istore_n (lv' := [(2, .int (-1)), (1, .int (gB (p + 1 < n ∧ f 0 (p + 1) = 108))), (0, .ref t)]) hx hb dX5_takesClause_73 rfl hl (by decide) rfl (fun ls hl => ?_)
            refine lv_iload_n hx hb dX5_takesClause_74 rfl (lv_at hl 0 rfl) ?_
            refine lv_if_lt (tgt := 104) hx hb dX5_takesClause_75 (by decide) (fun c44 => ?_) (fun c44 => ?_)
            · refine lv_iconst (v := 0) hx hb dX5_takesClause_104 (by decide) ?_
              have hW : gWd (f 0) n p = ((gAll (f 0) n 4 (gLen.getD 4 0) 0 (p + 1)).1, (gAll (f 0) n 4 (gLen.getD 4 0) 0 (p + 1)).2, 1) := by rw [gWd, if_neg c5, if_pos c10, if_neg c15]; rfl
              have hK := ((gKl_w (f 0) n p).1.trans (congrArg (gKw (f 0) n) hW)).trans (gKw_1 c20 hN)
              rw [← hQ]
              exact g_zret hx hb hr hlk rfl hS dX5_takesClause_105 (by rw [hK]; exact ⟨rfl, _, _, _, _, _, fun z9 => absurd (show false = true from z9) (by decide), rfl, rfl, h1⟩)
            · exact absurd (by decide) c44
        · have c20 : ¬ ((gAll (f 0) n 4 (gLen.getD 4 0) 0 (p + 1)).1 = true) := gB_0.mp c20
          refine lv_iconst (v := 0) hx hb dX5_takesClause_67 (by decide) ?_
          have hW : gWd (f 0) n p = ((gAll (f 0) n 4 (gLen.getD 4 0) 0 (p + 1)).1, (gAll (f 0) n 4 (gLen.getD 4 0) 0 (p + 1)).2, 1) := by rw [gWd, if_neg c5, if_pos c10, if_neg c15]; rfl
          have hK := ((gKl_w (f 0) n p).1.trans (congrArg (gKw (f 0) n) hW)).trans (gKw_0 c20)
          rw [← hQ]
          exact g_zret hx hb hr hlk rfl hS dX5_takesClause_68 (by rw [hK]; exact ⟨rfl, _, _, _, _, _, fun z9 => absurd (show false = true from z9) (by decide), rfl, rfl, h1⟩)
      · have c15 : p + 1 < n ∧ f 0 (p + 1) = 108 := gB_1.mp c15
        rw [if_pos c15] at h1
        have ltc15 := c15.1
        refine va_ldcS (q := G.2.2.1 3) hx hb hown (hE.2.2.2.2.2.1 (RX5, 81, _, 3) (List.mem_of_getElem? (i := 3) rfl)) dX5_takesClause_54 ?_
        refine lv_goto (tgt := 61) hx hb dX5_takesClause_56 (by decide) ?_
        have fA3 : p + 1 + 1 ≤ (gAll (f 0) n 3 (gLen.getD 3 0) 0 (p + 1 + 1)).2 ∧ (gAll (f 0) n 3 (gLen.getD 3 0) 0 (p + 1 + 1)).2 ≤ n := gAll_fit _ _ _ (by omega)
        refine g_ki (g_runV (T := TX5) (ci := 5) (N := 10) (rest := []) hx hb hml hown hE hT (c_X5_takesSigns l G t f n hT9 E (p + 1 + 1) c (nI wn) rs (by omega) (by omega) htG 3 (by decide)) gM_X5_takesSigns gm_X5_74 gi_X5_takesSigns gs_RX5_yX5_takesSigns_yX5_takesSigns rfl (h1 0 _ rfl) ⟨(gOld_S hO hS (fun q9 hq9 => Nat.le_trans htG hq9.1)), h1⟩ rfl hl.1 ⟨rfl, rfl⟩ ⟨Nat.le_of_ble_eq_true rfl, Nat.le_of_ble_eq_true rfl⟩ ⟨Nat.zero_le _, Nat.zero_le _⟩ rfl (Nat.le_of_ble_eq_true rfl) dX5_takesClause_61) hS (by intro q hq; omega) (fun r48 H45 locs q46 k47 hS => ?_)
        obtain ⟨e9, h1⟩ := q46
        rw [e9]
        refine lv_if_ne (tgt := 69) hx hb dX5_takesClause_64 (by decide) (fun c49 => ?_) (fun c49 => ?_)
        · have c49 : (gAll (f 0) n 3 (gLen.getD 3 0) 0 (p + 1 + 1)).1 = true := gB_1.mp c49
          refine lv_aload_n hx hb dX5_takesClause_69 rfl (lv_at hl 1 rfl) ?_
          have fN : (gAll (f 0) n 3 (gLen.getD 3 0) 0 (p + 1 + 1)).2 ≤ (gNum (f 0) n (gAll (f 0) n 3 (gLen.getD 3 0) 0 (p + 1 + 1)).2).2.1 ∧ (gNum (f 0) n (gAll (f 0) n 3 (gLen.getD 3 0) 0 (p + 1 + 1)).2).2.1 ≤ n := gNum_fit (by omega)
          have vN : (gNum (f 0) n (gAll (f 0) n 3 (gLen.getD 3 0) 0 (p + 1 + 1)).2).2.2 < 100 := gNum_v
          refine g_ki (g_runV (T := TX5) (ci := 5) (N := 10) (rest := []) hx hb hml hown hE hT (c_X5_takesNumber l G t f n hT9 E (gAll (f 0) n 3 (gLen.getD 3 0) 0 (p + 1 + 1)).2 c (nI wn) rs (by omega) (by omega)) gM_X5_takesNumber gm_X5_85 gi_X5_takesNumber gs_RX5_yX5_takesNumber_yX5_takesNumber rfl (h1 0 _ rfl) h1 rfl hl.1 ⟨rfl, rfl⟩ ⟨Nat.le_of_ble_eq_true rfl, Nat.le_of_ble_eq_true rfl⟩ ⟨Nat.zero_le _, Nat.zero_le _⟩ rfl (Nat.le_of_ble_eq_true rfl) dX5_takesClause_70) hS (by intro q hq; omega) (fun r53 H50 locs q51 k52 hS => ?_)
          obtain ⟨e9, h1⟩ := q51
          rw [e9]
          by_cases hN : (gNum (f 0) n (gAll (f 0) n 3 (gLen.getD 3 0) 0 (p + 1 + 1)).2).1 = true
          · rw [if_pos hN]
            refine lv_istore_n (lv' := [(2, .int (nI ((gNum (f 0) n (gAll (f 0) n 3 (gLen.getD 3 0) 0 (p + 1 + 1)).2).2.2))), (1, .int (gB (p + 1 < n ∧ f 0 (p + 1) = 108))), (0, .ref t)]) hx hb dX5_takesClause_73 rfl hl (by decide) rfl (fun ls hl => ?_)
            refine lv_iload_n hx hb dX5_takesClause_74 rfl (lv_at hl 0 rfl) ?_
            refine lv_if_lt (tgt := 104) hx hb dX5_takesClause_75 (by decide) (fun c54 => ?_) (fun c54 => ?_)
            · have c54 : ((gNum (f 0) n (gAll (f 0) n 3 (gLen.getD 3 0) 0 (p + 1 + 1)).2).2.2) < 0 := (gLt (a := (gNum (f 0) n (gAll (f 0) n 3 (gLen.getD 3 0) 0 (p + 1 + 1)).2).2.2) (b := 0) rfl rfl (by omega) (by omega)).mp c54
              exact absurd c54 (by omega)
            · have c54 : ¬ ((gNum (f 0) n (gAll (f 0) n 3 (gLen.getD 3 0) 0 (p + 1 + 1)).2).2.2) < 0 := fun z => c54 ((gLt (a := (gNum (f 0) n (gAll (f 0) n 3 (gLen.getD 3 0) 0 (p + 1 + 1)).2).2.2) (b := 0) rfl rfl (by omega) (by omega)).mpr z)
              refine lv_aload_n hx hb dX5_takesClause_78 rfl (lv_at hl 2 rfl) ?_
              refine lv_bipush (v := 32) hx hb dX5_takesClause_79 (by decide) ?_
              refine g_ki (g_runV (T := TX5) (ci := 5) (N := 10) (rest := []) hx hb hml hown hE hT (c_X5_takesSign l G t f n hT9 E (gNum (f 0) n (gAll (f 0) n 3 (gLen.getD 3 0) 0 (p + 1 + 1)).2).2.1 c (nI wn) rs (by omega) (by omega) 32) gM_X5_takesSign gm_X5_68 gi_X5_takesSign gs_RX5_yX5_takesSign_yX5_takesSign rfl (h1 0 _ rfl) h1 rfl hl.1 ⟨rfl, rfl⟩ ⟨Nat.le_of_ble_eq_true rfl, Nat.le_of_ble_eq_true rfl⟩ ⟨Nat.zero_le _, Nat.zero_le _⟩ rfl (Nat.le_of_ble_eq_true rfl) dX5_takesClause_81) hS (by intro q hq; omega) (fun r58 H55 locs q56 k57 hS => ?_)
              obtain ⟨e9, h1⟩ := q56
              rw [e9]
              refine lv_if_eq (tgt := 104) hx hb dX5_takesClause_84 (by decide) (fun c59 => ?_) (fun c59 => ?_)
              · have c59 : ¬ ((gNum (f 0) n (gAll (f 0) n 3 (gLen.getD 3 0) 0 (p + 1 + 1)).2).2.1 < n ∧ f 0 (gNum (f 0) n (gAll (f 0) n 3 (gLen.getD 3 0) 0 (p + 1 + 1)).2).2.1 = 32) := gB_0.mp c59
                rw [if_neg c59] at h1
                refine lv_iconst (v := 0) hx hb dX5_takesClause_104 (by decide) ?_
                have hW : gWd (f 0) n p = ((gAll (f 0) n 3 (gLen.getD 3 0) 0 (p + 1 + 1)).1, (gAll (f 0) n 3 (gLen.getD 3 0) 0 (p + 1 + 1)).2, 0) := by rw [gWd, if_neg c5, if_pos c10, if_pos c15]; rfl
                have hK := ((gKl_w (f 0) n p).1.trans (congrArg (gKw (f 0) n) hW)).trans (gKw_3 c49 hN (by decide) c59)
                rw [← hQ]
                exact g_zret hx hb hr hlk rfl hS dX5_takesClause_105 (by rw [hK]; exact ⟨rfl, _, _, _, _, _, fun z9 => absurd (show false = true from z9) (by decide), rfl, rfl, h1⟩)
              · have c59 : (gNum (f 0) n (gAll (f 0) n 3 (gLen.getD 3 0) 0 (p + 1 + 1)).2).2.1 < n ∧ f 0 (gNum (f 0) n (gAll (f 0) n 3 (gLen.getD 3 0) 0 (p + 1 + 1)).2).2.1 = 32 := gB_1.mp c59
                rw [if_pos c59] at h1
                have ltc59 := c59.1
                refine lv_aload_n hx hb dX5_takesClause_87 rfl (lv_at hl 2 rfl) ?_
                refine lv_iconst (v := 0) hx hb dX5_takesClause_88 (by decide) ?_
                have fE : (gNum (f 0) n (gAll (f 0) n 3 (gLen.getD 3 0) 0 (p + 1 + 1)).2).2.1 + 1 ≤ (gE (f 0) n 4 ((gNum (f 0) n (gAll (f 0) n 3 (gLen.getD 3 0) 0 (p + 1 + 1)).2).2.1 + 1)).2.1 ∧ (gE (f 0) n 4 ((gNum (f 0) n (gAll (f 0) n 3 (gLen.getD 3 0) 0 (p + 1 + 1)).2).2.1 + 1)).2.1 ≤ n ∧ (gE (f 0) n 4 ((gNum (f 0) n (gAll (f 0) n 3 (gLen.getD 3 0) 0 (p + 1 + 1)).2).2.1 + 1)).2.2.length ≤ (gE (f 0) n 4 ((gNum (f 0) n (gAll (f 0) n 3 (gLen.getD 3 0) 0 (p + 1 + 1)).2).2.1 + 1)).2.1 - ((gNum (f 0) n (gAll (f 0) n 3 (gLen.getD 3 0) 0 (p + 1 + 1)).2).2.1 + 1) := gE_fit (f 0) n 4 ((gNum (f 0) n (gAll (f 0) n 3 (gLen.getD 3 0) 0 (p + 1 + 1)).2).2.1 + 1) (by omega)
                refine g_ki (g_runV (T := TX5) (ci := 5) (N := 10) (rest := []) hx hb hml hown hE hT (c_X5_takesEither_4 l G t f n hT9 E ((gNum (f 0) n (gAll (f 0) n 3 (gLen.getD 3 0) 0 (p + 1 + 1)).2).2.1 + 1) c (nI wn) rs (by omega) (by omega) htG) gM_X5_takesEither gm_X5_88 gi_X5_takesEither gs_RX5_yX5_takesEither_yX5_takesEither rfl (h1 0 _ rfl) ⟨(gOld_S hO hS (fun q9 hq9 => Nat.le_trans htG hq9.1)), h1⟩ rfl hl.1 ⟨rfl, rfl⟩ ⟨Nat.le_of_ble_eq_true rfl, Nat.le_of_ble_eq_true rfl⟩ ⟨Nat.zero_le _, Nat.zero_le _⟩ rfl (Nat.le_of_ble_eq_true rfl) dX5_takesClause_89) hS (by intro q hq; omega) (fun r63 H60 locs q61 k62 hS => ?_)
                obtain ⟨e9, E8, hc8, h1⟩ := q61
                rw [e9]
                refine lv_if_eq (tgt := 104) hx hb dX5_takesClause_92 (by decide) (fun c64 => ?_) (fun c64 => ?_)
                · have c64 : ¬ ((gE (f 0) n 4 ((gNum (f 0) n (gAll (f 0) n 3 (gLen.getD 3 0) 0 (p + 1 + 1)).2).2.1 + 1)).1 = true) := gB_0.mp c64
                  refine lv_iconst (v := 0) hx hb dX5_takesClause_104 (by decide) ?_
                  have hW : gWd (f 0) n p = ((gAll (f 0) n 3 (gLen.getD 3 0) 0 (p + 1 + 1)).1, (gAll (f 0) n 3 (gLen.getD 3 0) 0 (p + 1 + 1)).2, 0) := by rw [gWd, if_neg c5, if_pos c10, if_pos c15]; rfl
                  have hK := ((gKl_w (f 0) n p).1.trans (congrArg (gKw (f 0) n) hW)).trans (gKw_4 c49 hN (by decide) c59)
                  rw [← hQ]
                  exact g_zret hx hb hr hlk rfl hS dX5_takesClause_105 (by rw [hK]; exact ⟨(gB_f c64).symm, _, _, _, _, _, fun z9 => absurd z9 c64, rfl, rfl, h1⟩)
                · have c64 : (gE (f 0) n 4 ((gNum (f 0) n (gAll (f 0) n 3 (gLen.getD 3 0) 0 (p + 1 + 1)).2).2.1 + 1)).1 = true := gB_1.mp c64
                  refine lv_aload_n hx hb dX5_takesClause_95 rfl (lv_at hl 2 rfl) ?_
                  refine g_get (v := .int (nI wn)) (T := TX5) (ci := 5) (N := 10) hx hb hown hK (gY_X5 hT) rfl (h1 0 _ rfl) 7 (by decide) (hT _ gf_X5_61) rfl dX5_takesClause_96 ?_
                  refine lv_bipush (v := 10) hx hb dX5_takesClause_99 (by decide) ?_
                  refine lv_icmp_lt (tgt := 106) hx hb dX5_takesClause_101 (by decide) (fun c65 => ?_) (fun c65 => ?_)
                  · have c65 : wn < 10 := (gLt (a := wn) (b := 10) rfl rfl (by omega) (by omega)).mp c65
                    refine lv_aload_n hx hb dX5_takesClause_106 rfl (lv_at hl 2 rfl) ?_
                    refine g_get (v := .ref (t + 3)) (T := TX5) (ci := 5) (N := 10) hx hb hown hK (gY_X5 hT) rfl (h1 0 _ rfl) 5 (by decide) (hT _ gf_X5_19) rfl dX5_takesClause_107 ?_
                    refine lv_aload_n hx hb dX5_takesClause_110 rfl (lv_at hl 2 rfl) ?_
                    refine g_get (v := .int (nI wn)) (T := TX5) (ci := 5) (N := 10) hx hb hown hK (gY_X5 hT) rfl (h1 0 _ rfl) 7 (by decide) (hT _ gf_X5_61) rfl dX5_takesClause_111 ?_
                    refine lv_iload_n hx hb dX5_takesClause_114 rfl (lv_at hl 1 rfl) ?_
                    refine lv_if_eq (tgt := 122) hx hb dX5_takesClause_115 (by decide) (fun c66 => ?_) (fun c66 => ?_)
                    · have c66 : ¬ (p + 1 < n ∧ f 0 (p + 1) = 108) := gB_0.mp c66
                      exact absurd c15 c66
                    · have c66 : p + 1 < n ∧ f 0 (p + 1) = 108 := gB_1.mp c66
                      refine lv_iload_n hx hb dX5_takesClause_118 rfl (lv_at hl 0 rfl) ?_
                      refine lv_goto (tgt := 124) hx hb dX5_takesClause_119 (by decide) ?_
                      refine g_is (j := wn) hx hb hK hS (h1 3 _ rfl) rfl (by omega) (Nat.le_of_ble_eq_true rfl) (by omega) dX5_takesClause_124 (fun H67 locs c68 oq hS => ?_)
                      have h1 : gSg G t (gLL G t (gR (gR (gU f 2 wn (nI ((gNum (f 0) n (gAll (f 0) n 3 (gLen.getD 3 0) 0 (p + 1 + 1)).2).2.2))) 1 E8) 5 (gS6 (nI n) (nI (gE (f 0) n 4 ((gNum (f 0) n (gAll (f 0) n 3 (gLen.getD 3 0) 0 (p + 1 + 1)).2).2.1 + 1)).2.1) (nI (c + (gE (f 0) n 4 ((gNum (f 0) n (gAll (f 0) n 3 (gLen.getD 3 0) 0 (p + 1 + 1)).2).2.1 + 1)).2.2.length)) (nI wn) rs))) H67 := gSg_set h1 3 c68 oq
                      refine lv_aload_n hx hb dX5_takesClause_125 rfl (lv_at hl 2 rfl) ?_
                      refine lv_dup hx hb dX5_takesClause_126 rfl ?_
                      refine g_get (v := .int (nI wn)) (T := TX5) (ci := 5) (N := 10) hx hb hown hK (gY_X5 hT) rfl (h1 0 _ rfl) 7 (by decide) (hT _ gf_X5_61) rfl dX5_takesClause_127 ?_
                      refine lv_iconst (v := 1) hx hb dX5_takesClause_130 (by decide) ?_
                      refine lv_iadd hx hb dX5_takesClause_131 ?_
                      rw [show ((nI wn) + 1 : Int32) = nI (wn + 1) from (gAdd rfl rfl)]
                      refine g_put (T := TX5) (ci := 5) (N := 10) (ty0 := tyX5) hx hb hown hK hS (gY_X5 hT) tyX5_ok nmX5 rfl (h1 0 _ rfl) 7 (by decide) (hT _ gf_X5_61) rfl rfl rfl (Nat.le_of_ble_eq_true rfl) (by omega) dX5_takesClause_132 (fun H69 locs c70 oq hS => ?_)
                      have h1 : gSg G t (gLL G t (gR (gR (gU f 2 wn (nI ((gNum (f 0) n (gAll (f 0) n 3 (gLen.getD 3 0) 0 (p + 1 + 1)).2).2.2))) 1 E8) 5 (gS6 (nI n) (nI (gE (f 0) n 4 ((gNum (f 0) n (gAll (f 0) n 3 (gLen.getD 3 0) 0 (p + 1 + 1)).2).2.1 + 1)).2.1) (nI (c + (gE (f 0) n 4 ((gNum (f 0) n (gAll (f 0) n 3 (gLen.getD 3 0) 0 (p + 1 + 1)).2).2.1 + 1)).2.2.length)) (nI (wn + 1)) rs))) H69 := gSg_set h1 0 c70 oq
                      refine lv_aload_n hx hb dX5_takesClause_135 rfl (lv_at hl 2 rfl) ?_
                      refine g_get (v := .ref (t + 4)) (T := TX5) (ci := 5) (N := 10) hx hb hown hK (gY_X5 hT) rfl (h1 0 _ rfl) 6 (by decide) (hT _ gf_X5_22) rfl dX5_takesClause_136 ?_
                      refine lv_aload_n hx hb dX5_takesClause_139 rfl (lv_at hl 2 rfl) ?_
                      refine g_get (v := .int (nI (wn + 1))) (T := TX5) (ci := 5) (N := 10) hx hb hown hK (gY_X5 hT) rfl (h1 0 _ rfl) 7 (by decide) (hT _ gf_X5_61) rfl dX5_takesClause_140 ?_
                      refine lv_aload_n hx hb dX5_takesClause_143 rfl (lv_at hl 2 rfl) ?_
                      refine g_get (v := .int (nI (c + (gE (f 0) n 4 ((gNum (f 0) n (gAll (f 0) n 3 (gLen.getD 3 0) 0 (p + 1 + 1)).2).2.1 + 1)).2.2.length))) (T := TX5) (ci := 5) (N := 10) hx hb hown hK (gY_X5 hT) rfl (h1 0 _ rfl) 4 (by decide) (hT _ gf_X5_58) rfl dX5_takesClause_144 ?_
                      refine g_is (j := wn + 1) hx hb hK hS (h1 4 _ rfl) rfl (by omega) (Nat.le_of_ble_eq_true rfl) (by omega) dX5_takesClause_147 (fun H71 locs c72 oq hS => ?_)
                      have h1 : gSg G t (gLL G t (gR (gR (gU (gU f 2 wn (nI ((gNum (f 0) n (gAll (f 0) n 3 (gLen.getD 3 0) 0 (p + 1 + 1)).2).2.2))) 3 (wn + 1) (nI (c + (gE (f 0) n 4 ((gNum (f 0) n (gAll (f 0) n 3 (gLen.getD 3 0) 0 (p + 1 + 1)).2).2.1 + 1)).2.2.length))) 1 E8) 5 (gS6 (nI n) (nI (gE (f 0) n 4 ((gNum (f 0) n (gAll (f 0) n 3 (gLen.getD 3 0) 0 (p + 1 + 1)).2).2.1 + 1)).2.1) (nI (c + (gE (f 0) n 4 ((gNum (f 0) n (gAll (f 0) n 3 (gLen.getD 3 0) 0 (p + 1 + 1)).2).2.1 + 1)).2.2.length)) (nI (wn + 1)) rs))) H71 := gSg_set h1 4 c72 oq
                      refine lv_iconst (v := 1) hx hb dX5_takesClause_148 (by decide) ?_
                      have hW : gWd (f 0) n p = ((gAll (f 0) n 3 (gLen.getD 3 0) 0 (p + 1 + 1)).1, (gAll (f 0) n 3 (gLen.getD 3 0) 0 (p + 1 + 1)).2, 0) := by rw [gWd, if_neg c5, if_pos c10, if_pos c15]; rfl
                      have hK := ((gKl_w (f 0) n p).1.trans (congrArg (gKw (f 0) n) hW)).trans (gKw_4 c49 hN (by decide) c59)
                      have hk := (gKl_w (f 0) n p).2 (by rw [hW]; exact c49)
                      have hk : gClk (f 0) n p = 0 := hk.trans (congrArg (fun W => W.2.2) hW)
                      rw [← hQ]
                      exact g_zret hx hb hr hlk rfl hS dX5_takesClause_149 (by rw [hK]; exact ⟨(gB_t c64).symm, _, _, _, _, _, fun _ => gCk_g hK hk (by decide) hc8 rfl, rfl, gU_o (Nat.succ_ne_zero _).symm, h1⟩)
                  · have c65 : ¬ wn < 10 := fun z => c65 ((gLt (a := wn) (b := 10) rfl rfl (by omega) (by omega)).mpr z)
                    exact absurd c65 (by omega)
          · rw [if_neg hN]
            refine lv_istore_n (lv' := [(2, .int (-1)), (1, .int (gB (p + 1 < n ∧ f 0 (p + 1) = 108))), (0, .ref t)]) hx hb dX5_takesClause_73 rfl hl (by decide) rfl (fun ls hl => ?_)
            refine lv_iload_n hx hb dX5_takesClause_74 rfl (lv_at hl 0 rfl) ?_
            refine lv_if_lt (tgt := 104) hx hb dX5_takesClause_75 (by decide) (fun c73 => ?_) (fun c73 => ?_)
            · refine lv_iconst (v := 0) hx hb dX5_takesClause_104 (by decide) ?_
              have hW : gWd (f 0) n p = ((gAll (f 0) n 3 (gLen.getD 3 0) 0 (p + 1 + 1)).1, (gAll (f 0) n 3 (gLen.getD 3 0) 0 (p + 1 + 1)).2, 0) := by rw [gWd, if_neg c5, if_pos c10, if_pos c15]; rfl
              have hK := ((gKl_w (f 0) n p).1.trans (congrArg (gKw (f 0) n) hW)).trans (gKw_1 c49 hN)
              rw [← hQ]
              exact g_zret hx hb hr hlk rfl hS dX5_takesClause_105 (by rw [hK]; exact ⟨rfl, _, _, _, _, _, fun z9 => absurd (show false = true from z9) (by decide), rfl, rfl, h1⟩)
            · exact absurd (by decide) c73
        · have c49 : ¬ ((gAll (f 0) n 3 (gLen.getD 3 0) 0 (p + 1 + 1)).1 = true) := gB_0.mp c49
          refine lv_iconst (v := 0) hx hb dX5_takesClause_67 (by decide) ?_
          have hW : gWd (f 0) n p = ((gAll (f 0) n 3 (gLen.getD 3 0) 0 (p + 1 + 1)).1, (gAll (f 0) n 3 (gLen.getD 3 0) 0 (p + 1 + 1)).2, 0) := by rw [gWd, if_neg c5, if_pos c10, if_pos c15]; rfl
          have hK := ((gKl_w (f 0) n p).1.trans (congrArg (gKw (f 0) n) hW)).trans (gKw_0 c49)
          rw [← hQ]
          exact g_zret hx hb hr hlk rfl hS dX5_takesClause_68 (by rw [hK]; exact ⟨rfl, _, _, _, _, _, fun z9 => absurd (show false = true from z9) (by decide), rfl, rfl, h1⟩)
    · have c10 : ¬ (p < n ∧ f 0 p = 103) := gB_0.mp c10
      rw [if_neg c10] at h1
      refine lv_iconst (v := 0) hx hb dX5_takesClause_40 (by decide) ?_
      have hW : gWd (f 0) n p = (false, p, 3) := by rw [gWd, if_neg c5, if_neg c10]
      have hK := ((gKl_w (f 0) n p).1.trans (congrArg (gKw (f 0) n) hW)).trans (gKw_0 (by decide))
      rw [← hQ]
      exact g_zret hx hb hr hlk rfl hS dX5_takesClause_41 (by rw [hK]; exact ⟨rfl, _, _, _, _, _, fun z9 => absurd (show false = true from z9) (by decide), rfl, rfl, h1⟩)
  · have c5 : p < n ∧ f 0 p = 114 := gB_1.mp c5
    rw [if_pos c5] at h1
    have ltc5 := c5.1
    refine lv_aload_n hx hb dX5_takesClause_9 rfl (lv_at hl 0 rfl) ?_
    refine va_ldcS (q := G.2.2.1 2) hx hb hown (hE.2.2.2.2.2.1 (RX5, 72, _, 2) (List.mem_of_getElem? (i := 2) rfl)) dX5_takesClause_10 ?_
    have fA2 : p + 1 ≤ (gAll (f 0) n 2 (gLen.getD 2 0) 0 (p + 1)).2 ∧ (gAll (f 0) n 2 (gLen.getD 2 0) 0 (p + 1)).2 ≤ n := gAll_fit _ _ _ (by omega)
    refine g_ki (g_runV (T := TX5) (ci := 5) (N := 10) (rest := []) hx hb hml hown hE hT (c_X5_takesSigns l G t f n hT9 E (p + 1) c (nI wn) rs (by omega) (by omega) htG 2 (by decide)) gM_X5_takesSigns gm_X5_74 gi_X5_takesSigns gs_RX5_yX5_takesSigns_yX5_takesSigns rfl (h1 0 _ rfl) ⟨(gOld_S hO hS (fun q9 hq9 => Nat.le_trans htG hq9.1)), h1⟩ rfl hl.1 ⟨rfl, rfl⟩ ⟨Nat.le_of_ble_eq_true rfl, Nat.le_of_ble_eq_true rfl⟩ ⟨Nat.zero_le _, Nat.zero_le _⟩ rfl (Nat.le_of_ble_eq_true rfl) dX5_takesClause_12) hS (by intro q hq; omega) (fun r77 H74 locs q75 k76 hS => ?_)
    obtain ⟨e9, h1⟩ := q75
    rw [e9]
    refine lv_if_eq (tgt := 29) hx hb dX5_takesClause_15 (by decide) (fun c78 => ?_) (fun c78 => ?_)
    · have c78 : ¬ ((gAll (f 0) n 2 (gLen.getD 2 0) 0 (p + 1)).1 = true) := gB_0.mp c78
      refine lv_iconst (v := 0) hx hb dX5_takesClause_29 (by decide) ?_
      have hW : gWd (f 0) n p = ((gAll (f 0) n 2 (gLen.getD 2 0) 0 (p + 1)).1, (gAll (f 0) n 2 (gLen.getD 2 0) 0 (p + 1)).2, 2) := by rw [gWd, if_pos c5]; rfl
      have hK := ((gKl_w (f 0) n p).1.trans (congrArg (gKw (f 0) n) hW)).trans (gKw_0 c78)
      rw [← hQ]
      exact g_zret hx hb hr hlk rfl hS dX5_takesClause_30 (by rw [hK]; exact ⟨rfl, _, _, _, _, _, fun z9 => absurd (show false = true from z9) (by decide), rfl, rfl, h1⟩)
    · have c78 : (gAll (f 0) n 2 (gLen.getD 2 0) 0 (p + 1)).1 = true := gB_1.mp c78
      refine lv_aload_n hx hb dX5_takesClause_18 rfl (lv_at hl 0 rfl) ?_
      have fN : (gAll (f 0) n 2 (gLen.getD 2 0) 0 (p + 1)).2 ≤ (gNum (f 0) n (gAll (f 0) n 2 (gLen.getD 2 0) 0 (p + 1)).2).2.1 ∧ (gNum (f 0) n (gAll (f 0) n 2 (gLen.getD 2 0) 0 (p + 1)).2).2.1 ≤ n := gNum_fit (by omega)
      refine g_ki (g_runV (T := TX5) (ci := 5) (N := 10) (rest := []) hx hb hml hown hE hT (c_X5_takesRest l G t f n hT9 E (gAll (f 0) n 2 (gLen.getD 2 0) 0 (p + 1)).2 c (nI wn) rs (by omega) (by omega)) gM_X5_takesRest gm_X5_78 gi_X5_takesRest gs_RX5_yX5_takesRest_yX5_takesRest rfl (h1 0 _ rfl) h1 rfl hl.1 ⟨rfl, rfl⟩ ⟨Nat.le_of_ble_eq_true rfl, Nat.le_of_ble_eq_true rfl⟩ ⟨Nat.zero_le _, Nat.zero_le _⟩ rfl (Nat.le_of_ble_eq_true rfl) dX5_takesClause_19) hS (by intro q hq; omega) (fun r82 H79 locs q80 k81 hS => ?_)
      obtain ⟨e9, h1⟩ := q80
      rw [e9]
      refine lv_if_eq (tgt := 29) hx hb dX5_takesClause_22 (by decide) (fun c83 => ?_) (fun c83 => ?_)
      · have c83 : ¬ ((gNum (f 0) n (gAll (f 0) n 2 (gLen.getD 2 0) 0 (p + 1)).2).1 = true) := gB_0.mp c83
        refine lv_iconst (v := 0) hx hb dX5_takesClause_29 (by decide) ?_
        have hW : gWd (f 0) n p = ((gAll (f 0) n 2 (gLen.getD 2 0) 0 (p + 1)).1, (gAll (f 0) n 2 (gLen.getD 2 0) 0 (p + 1)).2, 2) := by rw [gWd, if_pos c5]; rfl
        rw [if_neg c83] at h1
        have hK := ((gKl_w (f 0) n p).1.trans (congrArg (gKw (f 0) n) hW)).trans (gKw_1 c78 c83)
        rw [← hQ]
        exact g_zret hx hb hr hlk rfl hS dX5_takesClause_30 (by rw [hK]; exact ⟨rfl, _, _, _, _, _, fun z9 => absurd (show false = true from z9) (by decide), rfl, rfl, h1⟩)
      · have c83 : (gNum (f 0) n (gAll (f 0) n 2 (gLen.getD 2 0) 0 (p + 1)).2).1 = true := gB_1.mp c83
        refine lv_iconst (v := 1) hx hb dX5_takesClause_25 (by decide) ?_
        refine lv_goto (tgt := 30) hx hb dX5_takesClause_26 (by decide) ?_
        have hW : gWd (f 0) n p = ((gAll (f 0) n 2 (gLen.getD 2 0) 0 (p + 1)).1, (gAll (f 0) n 2 (gLen.getD 2 0) 0 (p + 1)).2, 2) := by rw [gWd, if_pos c5]; rfl
        rw [if_pos c83] at h1
        have hK := ((gKl_w (f 0) n p).1.trans (congrArg (gKw (f 0) n) hW)).trans (gKw_2 c78 c83)
        have hk := (gKl_w (f 0) n p).2 (by rw [hW]; exact c78)
        have hk : gClk (f 0) n p = 2 := hk.trans (congrArg (fun W => W.2.2) hW)
        rw [← hQ]
        exact g_zret hx hb hr hlk rfl hS dX5_takesClause_30 (by rw [hK]; exact ⟨rfl, _, _, _, _, _, fun _ => gCk_r hK hk, rfl, rfl, h1⟩)
