set_option maxHeartbeats 4000000 in
set_option maxRecDepth 100000 in
theorem c_X12_isClause (l : Launch) (G : gW) (b : Nat) (π μ f : gPS) (g : Nat → Int64) (n : Nat) (hn : μ 4 0 = nI n) (hT9 : gTx (μ 0) n) (E : Nat → Int32) (p o c : Nat) (v d : Int32) (hp : p ≤ n) (hc : c + (n - p) ≤ 800) (ho : o ≤ 4) (hbG : G.2.2.2.size ≤ b) (j : Nat) (hj60 : j < 60) : gCI l yX12_isClause cX12_isClause 4 .boolean (gRm 23 486) G [.ref b, .int (nI j)] (fun H => gOld G H ∧ gSg G b (gLM G b π μ (gR (gR f 6 E) 13 (gS5 (nI p) v d (nI o) (nI c))) g) H) (fun r H => r = gB ((gKl (μ 0) n p).1 = true) ∧ ∃ (f9 : gPS) (v d : Int32) (o9 : Nat) (E9 : Nat → Int32), o9 ≤ 4 ∧ gFr j f f9 ∧ gCd E c E9 (gKl (μ 0) n p).2.2.2 ∧ gSg G b (gLM G b π μ (gR (gR f9 6 E9) 13 (gS5 (nI (gKl (μ 0) n p).2.1) v d (nI o9) (nI (c + (gKl (μ 0) n p).2.2.2.length)))) g) H ∧ ((gKl (μ 0) n p).1 = true → f9 2 j = nI (gClk (μ 0) n p) ∧ f9 3 j = nI (gKl (μ 0) n p).2.2.1 ∧ f9 4 j = nI c ∧ f9 5 j = nI (gKl (μ 0) n p).2.2.2.length)) (fun q => b ≤ q ∧ q < b + 30) := by
  refine g_start (by decide) (Nat.le_of_ble_eq_true rfl) ?_
  intro pp_ ee_ s mm_ aa_ below meth cc_ ls Q hQ hX hE hP hl
  obtain ⟨hx, hb, hr, hml, hown, hT, hlk, hnm⟩ := hX
  have hK := hE.2.1
  obtain ⟨hO, h1⟩ := hP
  have hS : va_S (fun q => b ≤ q ∧ q < b + 30) s.heap s.heap [] := va_S.rf
  have hl : lv_has ls 4 [(0, .ref b), (1, .int (nI j))] := hl
  have hn9 : n ≤ 100 := hT9.1
  have hJ := hE.2.2.2.2.2.2.now hO
  refine lv_iconst (v := (-1)) hx hb dX12_isClause_0 (by decide) ?_
  refine lv_istore_n (lv' := [(2, .int (-1)), (0, .ref b), (1, .int (nI j))]) hx hb dX12_isClause_1 rfl hl (by decide) rfl (fun ls hl => ?_)
  refine lv_aload_n hx hb dX12_isClause_2 rfl (lv_at hl 1 rfl) ?_
  refine g_get (v := .int (nI p)) (T := TX12) (ci := 12) (N := 45) hx hb hown hK (gY_X12 hT) rfl (h1 0 _ rfl) 13 (by decide) (hT _ gf_X12_136) rfl dX12_isClause_3 ?_
  refine lv_aload_n hx hb dX12_isClause_6 rfl (lv_at hl 1 rfl) ?_
  refine g_get (v := .int (μ 4 0)) (T := TX12) (ci := 12) (N := 45) hx hb hown hK (gY_X12 hT) rfl (h1 0 _ rfl) 11 (by decide) (hT _ gf_X12_133) rfl dX12_isClause_7 ?_
  refine lv_icmp_ge (tgt := 51) hx hb dX12_isClause_10 (by decide) (fun c1 => ?_) (fun c1 => ?_)
  · have c1 : n ≤ p := (gLe (a := n) (b := p) hn rfl (by omega) (by omega)).mp c1
    refine lv_iload_n hx hb dX12_isClause_51 rfl (lv_at hl 0 rfl) ?_
    refine lv_if_ne (tgt := 86) hx hb dX12_isClause_52 (by decide) (fun c2 => ?_) (fun c2 => ?_)
    · refine lv_iload_n hx hb dX12_isClause_86 rfl (lv_at hl 0 rfl) ?_
      refine lv_if_ne (tgt := 99) hx hb dX12_isClause_87 (by decide) (fun c3 => ?_) (fun c3 => ?_)
      · refine lv_iload_n hx hb dX12_isClause_99 rfl (lv_at hl 0 rfl) ?_
        refine lv_iconst (v := 1) hx hb dX12_isClause_100 (by decide) ?_
        refine lv_icmp_ne (tgt := 113) hx hb dX12_isClause_101 (by decide) (fun c4 => ?_) (fun c4 => ?_)
        · refine lv_iload_n hx hb dX12_isClause_113 rfl (lv_at hl 0 rfl) ?_
          refine lv_iconst (v := 2) hx hb dX12_isClause_114 (by decide) ?_
          refine lv_icmp_ne (tgt := 131) hx hb dX12_isClause_115 (by decide) (fun c5 => ?_) (fun c5 => ?_)
          · refine lv_iconst (v := 0) hx hb dX12_isClause_131 (by decide) ?_
            refine lv_istore_n (lv' := [(3, .int 0), (2, .int (-1)), (0, .ref b), (1, .int (nI j))]) hx hb dX12_isClause_132 rfl hl (by decide) rfl (fun ls hl => ?_)
            refine lv_iload_n hx hb dX12_isClause_133 rfl (lv_at hl 0 rfl) ?_
            refine lv_if_eq (tgt := 144) hx hb dX12_isClause_134 (by decide) (fun c6 => ?_) (fun c6 => ?_)
            · refine lv_iconst (v := 0) hx hb dX12_isClause_144 (by decide) ?_
              have hkd : gClk (μ 0) n p = 3 := by rw [gClk, if_neg (fun z9 => absurd z9.1 (by omega)), if_neg (fun z9 => absurd z9.1 (by omega))]
              have hR : gKl (μ 0) n p = (false, p, 0, []) := by rw [gKl, if_pos hkd]
              rw [← hQ]
              exact g_zret hx hb hr hlk rfl hS dX12_isClause_145 (by rw [hR, hkd]; exact ⟨rfl, _, _, _, o, _, by omega, gFr_0, gCd_0, h1, fun z9 => by first | exact Bool.noConfusion z9 | exact absurd z9 id⟩)
            · exact absurd (by decide) c6
          · exact absurd c5 (by decide)
        · exact absurd c4 (by decide)
      · exact absurd c3 (by decide)
    · exact absurd c2 (by decide)
  · have c1 : ¬ n ≤ p := fun z => c1 ((gLe (a := n) (b := p) hn rfl (by omega) (by omega)).mpr z)
    refine lv_aload_n hx hb dX12_isClause_13 rfl (lv_at hl 1 rfl) ?_
    refine g_get (v := .ref (b + 9)) (T := TX12) (ci := 12) (N := 45) hx hb hown hK (gY_X12 hT) rfl (h1 0 _ rfl) 12 (by decide) (hT _ gf_X12_36) rfl dX12_isClause_14 ?_
    refine lv_aload_n hx hb dX12_isClause_17 rfl (lv_at hl 1 rfl) ?_
    refine g_get (v := .int (nI p)) (T := TX12) (ci := 12) (N := 45) hx hb hown hK (gY_X12 hT) rfl (h1 0 _ rfl) 13 (by decide) (hT _ gf_X12_136) rfl dX12_isClause_18 ?_
    refine g_ia (j := p) (v := μ 0 p) hx hb hK (h1 9 _ rfl) rfl (by omega) (Nat.le_of_ble_eq_true rfl) rfl dX12_isClause_21 ?_
    refine lv_bipush (v := 103) hx hb dX12_isClause_22 (by decide) ?_
    refine lv_icmp_ne (tgt := 31) hx hb dX12_isClause_24 (by decide) (fun c7 => ?_) (fun c7 => ?_)
    · refine lv_aload_n hx hb dX12_isClause_31 rfl (lv_at hl 1 rfl) ?_
      refine g_get (v := .ref (b + 9)) (T := TX12) (ci := 12) (N := 45) hx hb hown hK (gY_X12 hT) rfl (h1 0 _ rfl) 12 (by decide) (hT _ gf_X12_36) rfl dX12_isClause_32 ?_
      refine lv_aload_n hx hb dX12_isClause_35 rfl (lv_at hl 1 rfl) ?_
      refine g_get (v := .int (nI p)) (T := TX12) (ci := 12) (N := 45) hx hb hown hK (gY_X12 hT) rfl (h1 0 _ rfl) 13 (by decide) (hT _ gf_X12_136) rfl dX12_isClause_36 ?_
      refine g_ia (j := p) (v := μ 0 p) hx hb hK (h1 9 _ rfl) rfl (by omega) (Nat.le_of_ble_eq_true rfl) rfl dX12_isClause_39 ?_
      refine lv_bipush (v := 114) hx hb dX12_isClause_40 (by decide) ?_
      refine lv_icmp_ne (tgt := 49) hx hb dX12_isClause_42 (by decide) (fun c8 => ?_) (fun c8 => ?_)
      · refine lv_iconst (v := (-1)) hx hb dX12_isClause_49 (by decide) ?_
        refine lv_istore_n (lv' := [(2, .int (-1)), (0, .ref b), (1, .int (nI j))]) hx hb dX12_isClause_50 rfl hl (by decide) rfl (fun ls hl => ?_)
        refine lv_iload_n hx hb dX12_isClause_51 rfl (lv_at hl 0 rfl) ?_
        refine lv_if_ne (tgt := 86) hx hb dX12_isClause_52 (by decide) (fun c9 => ?_) (fun c9 => ?_)
        · refine lv_iload_n hx hb dX12_isClause_86 rfl (lv_at hl 0 rfl) ?_
          refine lv_if_ne (tgt := 99) hx hb dX12_isClause_87 (by decide) (fun c10 => ?_) (fun c10 => ?_)
          · refine lv_iload_n hx hb dX12_isClause_99 rfl (lv_at hl 0 rfl) ?_
            refine lv_iconst (v := 1) hx hb dX12_isClause_100 (by decide) ?_
            refine lv_icmp_ne (tgt := 113) hx hb dX12_isClause_101 (by decide) (fun c11 => ?_) (fun c11 => ?_)
            · refine lv_iload_n hx hb dX12_isClause_113 rfl (lv_at hl 0 rfl) ?_
              refine lv_iconst (v := 2) hx hb dX12_isClause_114 (by decide) ?_
              refine lv_icmp_ne (tgt := 131) hx hb dX12_isClause_115 (by decide) (fun c12 => ?_) (fun c12 => ?_)
              · refine lv_iconst (v := 0) hx hb dX12_isClause_131 (by decide) ?_
                refine lv_istore_n (lv' := [(3, .int 0), (2, .int (-1)), (0, .ref b), (1, .int (nI j))]) hx hb dX12_isClause_132 rfl hl (by decide) rfl (fun ls hl => ?_)
                refine lv_iload_n hx hb dX12_isClause_133 rfl (lv_at hl 0 rfl) ?_
                refine lv_if_eq (tgt := 144) hx hb dX12_isClause_134 (by decide) (fun c13 => ?_) (fun c13 => ?_)
                · refine lv_iconst (v := 0) hx hb dX12_isClause_144 (by decide) ?_
                  have hkd : gClk (μ 0) n p = 3 := by rw [gClk, if_neg (fun z9 => c7 z9.2), if_neg (fun z9 => c8 z9.2)]
                  have hR : gKl (μ 0) n p = (false, p, 0, []) := by rw [gKl, if_pos hkd]
                  rw [← hQ]
                  exact g_zret hx hb hr hlk rfl hS dX12_isClause_145 (by rw [hR, hkd]; exact ⟨rfl, _, _, _, o, _, by omega, gFr_0, gCd_0, h1, fun z9 => by first | exact Bool.noConfusion z9 | exact absurd z9 id⟩)
                · exact absurd (by decide) c13
              · exact absurd c12 (by decide)
            · exact absurd c11 (by decide)
          · exact absurd c10 (by decide)
        · exact absurd c9 (by decide)
      · refine lv_iconst (v := 2) hx hb dX12_isClause_45 (by decide) ?_
        refine lv_goto (tgt := 50) hx hb dX12_isClause_46 (by decide) ?_
        refine lv_istore_n (lv' := [(2, .int 2), (0, .ref b), (1, .int (nI j))]) hx hb dX12_isClause_50 rfl hl (by decide) rfl (fun ls hl => ?_)
        refine lv_iload_n hx hb dX12_isClause_51 rfl (lv_at hl 0 rfl) ?_
        refine lv_if_ne (tgt := 86) hx hb dX12_isClause_52 (by decide) (fun c14 => ?_) (fun c14 => ?_)
        · refine lv_iload_n hx hb dX12_isClause_86 rfl (lv_at hl 0 rfl) ?_
          refine lv_if_ne (tgt := 99) hx hb dX12_isClause_87 (by decide) (fun c15 => ?_) (fun c15 => ?_)
          · refine lv_iload_n hx hb dX12_isClause_99 rfl (lv_at hl 0 rfl) ?_
            refine lv_iconst (v := 1) hx hb dX12_isClause_100 (by decide) ?_
            refine lv_icmp_ne (tgt := 113) hx hb dX12_isClause_101 (by decide) (fun c16 => ?_) (fun c16 => ?_)
            · refine lv_iload_n hx hb dX12_isClause_113 rfl (lv_at hl 0 rfl) ?_
              refine lv_iconst (v := 2) hx hb dX12_isClause_114 (by decide) ?_
              refine lv_icmp_ne (tgt := 131) hx hb dX12_isClause_115 (by decide) (fun c17 => ?_) (fun c17 => ?_)
              · exact absurd (by decide) c17
              · refine lv_aload_n hx hb dX12_isClause_118 rfl (lv_at hl 1 rfl) ?_
                refine va_ldcS (q := G.2.2.1 7) hx hb hown (hE.2.2.2.2.2.1 (RX12, 203, _, 7) (List.mem_of_getElem? (i := 9) rfl)) dX12_isClause_119 ?_
                have fA : p ≤ (gAll (μ 0) n (5 + 2) (gLen.getD (5 + 2) 0) 0 p).2 ∧ (gAll (μ 0) n (5 + 2) (gLen.getD (5 + 2) 0) 0 p).2 ≤ n := gAll_fit _ _ _ hp
                refine g_ki (g_runV (T := TX12) (ci := 12) (N := 45) (rest := []) hx hb hml hown hE hT (c_X12_isAll l G b π μ f g n hn hT9 E p o c v d (by omega) (by omega) ho hbG 7 (by decide)) gM_X12_isAll gm_X12_197 gi_X12_isAll gs_RX12_yX12_isAll_yX12_isAll rfl (h1 0 _ rfl) ⟨(gOld_S hO hS (fun q9 hq9 => Nat.le_trans hbG hq9.1)), h1⟩ rfl hl.1 ⟨rfl, rfl⟩ ⟨Nat.le_of_ble_eq_true rfl, Nat.le_of_ble_eq_true rfl⟩ ⟨Nat.zero_le _, Nat.zero_le _⟩ rfl (Nat.le_of_ble_eq_true rfl) dX12_isClause_121) hS (by intro q hq; omega) (fun r21 H18 locs q19 k20 hS => ?_)
                obtain ⟨e9, h1⟩ := q19
                rw [e9]
                refine lv_if_eq (tgt := 131) hx hb dX12_isClause_124 (by decide) (fun c22 => ?_) (fun c22 => ?_)
                · have c22 : ¬ ((gAll (μ 0) n (5 + 2) (gLen.getD (5 + 2) 0) 0 p).1 = true) := gB_0.mp c22
                  refine lv_iconst (v := 0) hx hb dX12_isClause_131 (by decide) ?_
                  refine lv_istore_n (lv' := [(3, .int 0), (2, .int 2), (0, .ref b), (1, .int (nI j))]) hx hb dX12_isClause_132 rfl hl (by decide) rfl (fun ls hl => ?_)
                  refine lv_iload_n hx hb dX12_isClause_133 rfl (lv_at hl 0 rfl) ?_
                  refine lv_if_eq (tgt := 144) hx hb dX12_isClause_134 (by decide) (fun c23 => ?_) (fun c23 => ?_)
                  · refine lv_iconst (v := 0) hx hb dX12_isClause_144 (by decide) ?_
                    have hkd : gClk (μ 0) n p = 2 := by rw [gClk, if_neg (fun z9 => c7 z9.2), if_pos ⟨by omega, c8⟩]
                    have hR : gKl (μ 0) n p = (false, (gAll (μ 0) n (5 + 2) (gLen.getD (5 + 2) 0) 0 p).2, 0, []) := by rw [gKl, hkd, if_neg (by decide), gClw, if_neg c22]
                    rw [← hQ]
                    exact g_zret hx hb hr hlk rfl hS dX12_isClause_145 (by rw [hR, hkd]; exact ⟨rfl, _, _, _, o, _, by omega, gFr_0, gCd_0, h1, fun z9 => by first | exact Bool.noConfusion z9 | exact absurd z9 id⟩)
                  · exact absurd (by decide) c23
                · have c22 : (gAll (μ 0) n (5 + 2) (gLen.getD (5 + 2) 0) 0 p).1 = true := gB_1.mp c22
                  refine lv_iconst (v := 1) hx hb dX12_isClause_127 (by decide) ?_
                  refine lv_goto (tgt := 132) hx hb dX12_isClause_128 (by decide) ?_
                  refine lv_istore_n (lv' := [(3, .int 1), (2, .int 2), (0, .ref b), (1, .int (nI j))]) hx hb dX12_isClause_132 rfl hl (by decide) rfl (fun ls hl => ?_)
                  refine lv_iload_n hx hb dX12_isClause_133 rfl (lv_at hl 0 rfl) ?_
                  refine lv_if_eq (tgt := 144) hx hb dX12_isClause_134 (by decide) (fun c24 => ?_) (fun c24 => ?_)
                  · exact absurd c24 (by decide)
                  · refine lv_aload_n hx hb dX12_isClause_137 rfl (lv_at hl 2 rfl) ?_
                    have fN : (gAll (μ 0) n (5 + 2) (gLen.getD (5 + 2) 0) 0 p).2 ≤ (gNum (μ 0) n (gAll (μ 0) n (5 + 2) (gLen.getD (5 + 2) 0) 0 p).2).2.1 ∧ (gNum (μ 0) n (gAll (μ 0) n (5 + 2) (gLen.getD (5 + 2) 0) 0 p).2).2.1 ≤ n := gNum_fit (by omega)
                    refine g_ki (g_runV (T := TX12) (ci := 12) (N := 45) (rest := []) hx hb hml hown hE hT (c_X12_isNumber l G b π μ f g n hn hT9 E (gAll (μ 0) n (5 + 2) (gLen.getD (5 + 2) 0) 0 p).2 o c v d (by omega) (by omega) ho) gM_X12_isNumber gm_X12_171 gi_X12_isNumber gs_RX12_yX12_isNumber_yX12_isNumber rfl (h1 0 _ rfl) h1 rfl hl.1 ⟨rfl, rfl⟩ ⟨Nat.le_of_ble_eq_true rfl, Nat.le_of_ble_eq_true rfl⟩ ⟨Nat.zero_le _, Nat.zero_le _⟩ rfl (Nat.le_of_ble_eq_true rfl) dX12_isClause_138) hS (by intro q hq; omega) (fun r28 H25 locs q26 k27 hS => ?_)
                    obtain ⟨e9, v2, d2, h1, hv2⟩ := q26
                    rw [e9]
                    refine lv_if_ne (tgt := 146) hx hb dX12_isClause_141 (by decide) (fun c29 => ?_) (fun c29 => ?_)
                    · have c29 : (gNum (μ 0) n (gAll (μ 0) n (5 + 2) (gLen.getD (5 + 2) 0) 0 p).2).1 = true := gB_1.mp c29
                      obtain ⟨ev, hv⟩ := hv2 c29
                      refine lv_aload_n hx hb dX12_isClause_146 rfl (lv_at hl 2 rfl) ?_
                      refine g_get (v := .ref (b + 11)) (T := TX12) (ci := 12) (N := 45) hx hb hown hK (gY_X12 hT) rfl (h1 0 _ rfl) 20 (by decide) (hT _ gf_X12_42) rfl dX12_isClause_147 ?_
                      refine lv_iload_n hx hb dX12_isClause_150 rfl (lv_at hl 3 rfl) ?_
                      refine lv_iload_n hx hb dX12_isClause_151 rfl (lv_at hl 1 rfl) ?_
                      refine g_is (j := j) hx hb hK hS (h1 11 _ rfl) rfl (by omega) (Nat.le_of_ble_eq_true rfl) (by omega) dX12_isClause_152 (fun H30 locs c31 oq hS => ?_)
                      have h1 : gSg G b (gLM G b π μ (gR (gR (gU f 2 j 2) 6 E) 13 (gS5 (nI (gNum (μ 0) n (gAll (μ 0) n (5 + 2) (gLen.getD (5 + 2) 0) 0 p).2).2.1) v2 d2 (nI o) (nI c))) g) H30 := gSg_set h1 11 c31 oq
                      refine lv_aload_n hx hb dX12_isClause_153 rfl (lv_at hl 2 rfl) ?_
                      refine g_get (v := .ref (b + 12)) (T := TX12) (ci := 12) (N := 45) hx hb hown hK (gY_X12 hT) rfl (h1 0 _ rfl) 21 (by decide) (hT _ gf_X12_45) rfl dX12_isClause_154 ?_
                      refine lv_iload_n hx hb dX12_isClause_157 rfl (lv_at hl 3 rfl) ?_
                      refine lv_aload_n hx hb dX12_isClause_158 rfl (lv_at hl 2 rfl) ?_
                      refine g_get (v := .int v2) (T := TX12) (ci := 12) (N := 45) hx hb hown hK (gY_X12 hT) rfl (h1 0 _ rfl) 14 (by decide) (hT _ gf_X12_139) rfl dX12_isClause_159 ?_
                      refine g_is (j := j) hx hb hK hS (h1 12 _ rfl) rfl (by omega) (Nat.le_of_ble_eq_true rfl) (by omega) dX12_isClause_162 (fun H32 locs c33 oq hS => ?_)
                      have h1 : gSg G b (gLM G b π μ (gR (gR (gU (gU f 2 j 2) 3 j v2) 6 E) 13 (gS5 (nI (gNum (μ 0) n (gAll (μ 0) n (5 + 2) (gLen.getD (5 + 2) 0) 0 p).2).2.1) v2 d2 (nI o) (nI c))) g) H32 := gSg_set h1 12 c33 oq
                      refine lv_aload_n hx hb dX12_isClause_163 rfl (lv_at hl 2 rfl) ?_
                      refine g_get (v := .ref (b + 13)) (T := TX12) (ci := 12) (N := 45) hx hb hown hK (gY_X12 hT) rfl (h1 0 _ rfl) 22 (by decide) (hT _ gf_X12_48) rfl dX12_isClause_164 ?_
                      refine lv_iload_n hx hb dX12_isClause_167 rfl (lv_at hl 3 rfl) ?_
                      refine lv_aload_n hx hb dX12_isClause_168 rfl (lv_at hl 2 rfl) ?_
                      refine g_get (v := .int (nI c)) (T := TX12) (ci := 12) (N := 45) hx hb hown hK (gY_X12 hT) rfl (h1 0 _ rfl) 25 (by decide) (hT _ gf_X12_161) rfl dX12_isClause_169 ?_
                      refine g_is (j := j) hx hb hK hS (h1 13 _ rfl) rfl (by omega) (Nat.le_of_ble_eq_true rfl) (by omega) dX12_isClause_172 (fun H34 locs c35 oq hS => ?_)
                      have h1 : gSg G b (gLM G b π μ (gR (gR (gU (gU (gU f 2 j 2) 3 j v2) 4 j (nI c)) 6 E) 13 (gS5 (nI (gNum (μ 0) n (gAll (μ 0) n (5 + 2) (gLen.getD (5 + 2) 0) 0 p).2).2.1) v2 d2 (nI o) (nI c))) g) H34 := gSg_set h1 13 c35 oq
                      refine lv_aload_n hx hb dX12_isClause_173 rfl (lv_at hl 2 rfl) ?_
                      refine lv_iconst (v := 0) hx hb dX12_isClause_174 (by decide) ?_
                      refine g_put (T := TX12) (ci := 12) (N := 45) (ty0 := tyX12) hx hb hown hK hS (gY_X12 hT) tyX12_ok nmX12 rfl (h1 0 _ rfl) 16 (by decide) (hT _ gf_X12_177) rfl rfl rfl (Nat.le_of_ble_eq_true rfl) (by omega) dX12_isClause_175 (fun H36 locs c37 oq hS => ?_)
                      have h1 : gSg G b (gLM G b π μ (gR (gR (gU (gU (gU f 2 j 2) 3 j v2) 4 j (nI c)) 6 E) 13 (gS5 (nI (gNum (μ 0) n (gAll (μ 0) n (5 + 2) (gLen.getD (5 + 2) 0) 0 p).2).2.1) v2 d2 0 (nI c))) g) H36 := gSg_set h1 0 c37 oq
                      refine lv_iload_n hx hb dX12_isClause_178 rfl (lv_at hl 1 rfl) ?_
                      refine lv_iconst (v := 2) hx hb dX12_isClause_179 (by decide) ?_
                      refine lv_icmp_ge (tgt := 201) hx hb dX12_isClause_180 (by decide) (fun c38 => ?_) (fun c38 => ?_)
                      · refine lv_aload_n hx hb dX12_isClause_201 rfl (lv_at hl 2 rfl) ?_
                        refine g_get (v := .ref (b + 14)) (T := TX12) (ci := 12) (N := 45) hx hb hown hK (gY_X12 hT) rfl (h1 0 _ rfl) 23 (by decide) (hT _ gf_X12_51) rfl dX12_isClause_202 ?_
                        refine lv_iload_n hx hb dX12_isClause_205 rfl (lv_at hl 3 rfl) ?_
                        refine lv_aload_n hx hb dX12_isClause_206 rfl (lv_at hl 2 rfl) ?_
                        refine g_get (v := .int (nI c)) (T := TX12) (ci := 12) (N := 45) hx hb hown hK (gY_X12 hT) rfl (h1 0 _ rfl) 25 (by decide) (hT _ gf_X12_161) rfl dX12_isClause_207 ?_
                        refine lv_aload_n hx hb dX12_isClause_210 rfl (lv_at hl 2 rfl) ?_
                        refine g_get (v := .ref (b + 13)) (T := TX12) (ci := 12) (N := 45) hx hb hown hK (gY_X12 hT) rfl (h1 0 _ rfl) 22 (by decide) (hT _ gf_X12_48) rfl dX12_isClause_211 ?_
                        refine lv_iload_n hx hb dX12_isClause_214 rfl (lv_at hl 3 rfl) ?_
                        refine g_ia (j := j) (v := nI c) hx hb hK (h1 13 _ rfl) rfl (by omega) (Nat.le_of_ble_eq_true rfl) (show (gU (gU (gU f 2 j 2) 3 j v2) 4 j (nI c)) 4 j = nI c from gU_e) dX12_isClause_215 ?_
                        refine lv_isub hx hb dX12_isClause_216 ?_
                        rw [show ((nI c) - (nI c) : Int32) = nI (c - c) from (gSub rfl rfl (by omega))]
                        refine g_is (j := j) hx hb hK hS (h1 14 _ rfl) rfl (by omega) (Nat.le_of_ble_eq_true rfl) (by omega) dX12_isClause_217 (fun H39 locs c40 oq hS => ?_)
                        have h1 : gSg G b (gLM G b π μ (gR (gR (gU (gU (gU (gU f 2 j 2) 3 j v2) 4 j (nI c)) 5 j (nI (c - c))) 6 E) 13 (gS5 (nI (gNum (μ 0) n (gAll (μ 0) n (5 + 2) (gLen.getD (5 + 2) 0) 0 p).2).2.1) v2 d2 0 (nI c))) g) H39 := gSg_set h1 14 c40 oq
                        refine lv_iconst (v := 1) hx hb dX12_isClause_218 (by decide) ?_
                        have hkd : gClk (μ 0) n p = 2 := by rw [gClk, if_neg (fun z9 => c7 z9.2), if_pos ⟨by omega, c8⟩]
                        have hR : gKl (μ 0) n p = (true, (gNum (μ 0) n (gAll (μ 0) n (5 + 2) (gLen.getD (5 + 2) 0) 0 p).2).2.1, (gNum (μ 0) n (gAll (μ 0) n (5 + 2) (gLen.getD (5 + 2) 0) 0 p).2).2.2, []) := by rw [gKl, hkd, if_neg (by decide), gClw, if_pos c22, if_pos c29, if_pos rfl]
                        rw [← hQ]
                        exact g_zret hx hb hr hlk rfl hS dX12_isClause_219 (by rw [hR, hkd]; exact ⟨rfl, _, _, _, 0, _, by omega, (gFr_u (gFr_u (gFr_u (gFr_u gFr_0 (by decide) (by decide)) (by decide) (by decide)) (by decide) (by decide)) (by decide) (by decide)), gCd_0, h1, fun _ => ⟨by rw [gU_ne (by decide), gU_ne (by decide), gU_ne (by decide), gU_e]; rfl, by rw [gU_ne (by decide), gU_ne (by decide), gU_e]; exact ev, by rw [gU_ne (by decide), gU_e], by rw [gU_e]; exact congrArg nI (by first | omega | (simp only [List.length_nil]; omega))⟩⟩)
                      · exact absurd (by decide) c38
                    · have c29 : ¬ ((gNum (μ 0) n (gAll (μ 0) n (5 + 2) (gLen.getD (5 + 2) 0) 0 p).2).1 = true) := gB_0.mp c29
                      refine lv_iconst (v := 0) hx hb dX12_isClause_144 (by decide) ?_
                      have hkd : gClk (μ 0) n p = 2 := by rw [gClk, if_neg (fun z9 => c7 z9.2), if_pos ⟨by omega, c8⟩]
                      have hR : gKl (μ 0) n p = (false, (gNum (μ 0) n (gAll (μ 0) n (5 + 2) (gLen.getD (5 + 2) 0) 0 p).2).2.1, 0, []) := by rw [gKl, hkd, if_neg (by decide), gClw, if_pos c22, if_neg c29]
                      rw [← hQ]
                      exact g_zret hx hb hr hlk rfl hS dX12_isClause_145 (by rw [hR, hkd]; exact ⟨rfl, _, _, _, o, _, by omega, gFr_0, gCd_0, h1, fun z9 => by first | exact Bool.noConfusion z9 | exact absurd z9 id⟩)
            · exact absurd c16 (by decide)
          · exact absurd c15 (by decide)
        · exact absurd c14 (by decide)
    · refine lv_iconst (v := 0) hx hb dX12_isClause_27 (by decide) ?_
      refine lv_goto (tgt := 50) hx hb dX12_isClause_28 (by decide) ?_
      refine lv_istore_n (lv' := [(2, .int 0), (0, .ref b), (1, .int (nI j))]) hx hb dX12_isClause_50 rfl hl (by decide) rfl (fun ls hl => ?_)
      refine lv_iload_n hx hb dX12_isClause_51 rfl (lv_at hl 0 rfl) ?_
      refine lv_if_ne (tgt := 86) hx hb dX12_isClause_52 (by decide) (fun c41 => ?_) (fun c41 => ?_)
      · exact absurd (by decide) c41
      · refine lv_aload_n hx hb dX12_isClause_55 rfl (lv_at hl 1 rfl) ?_
        refine g_get (v := .int (nI p)) (T := TX12) (ci := 12) (N := 45) hx hb hown hK (gY_X12 hT) rfl (h1 0 _ rfl) 13 (by decide) (hT _ gf_X12_136) rfl dX12_isClause_56 ?_
        refine lv_iconst (v := 1) hx hb dX12_isClause_59 (by decide) ?_
        refine lv_iadd hx hb dX12_isClause_60 ?_
        rw [show ((nI p) + 1 : Int32) = nI (p + 1) from (gAdd rfl rfl)]
        refine lv_aload_n hx hb dX12_isClause_61 rfl (lv_at hl 1 rfl) ?_
        refine g_get (v := .int (μ 4 0)) (T := TX12) (ci := 12) (N := 45) hx hb hown hK (gY_X12 hT) rfl (h1 0 _ rfl) 11 (by decide) (hT _ gf_X12_133) rfl dX12_isClause_62 ?_
        refine lv_icmp_ge (tgt := 86) hx hb dX12_isClause_65 (by decide) (fun c42 => ?_) (fun c42 => ?_)
        · have c42 : n ≤ (p + 1) := (gLe (a := n) (b := p + 1) hn rfl (by omega) (by omega)).mp c42
          refine lv_iload_n hx hb dX12_isClause_86 rfl (lv_at hl 0 rfl) ?_
          refine lv_if_ne (tgt := 99) hx hb dX12_isClause_87 (by decide) (fun c43 => ?_) (fun c43 => ?_)
          · exact absurd (by decide) c43
          · refine lv_aload_n hx hb dX12_isClause_90 rfl (lv_at hl 1 rfl) ?_
            refine va_ldcS (q := G.2.2.1 5) hx hb hown (hE.2.2.2.2.2.1 (RX12, 195, _, 5) (List.mem_of_getElem? (i := 7) rfl)) dX12_isClause_91 ?_
            have fA : p ≤ (gAll (μ 0) n (5 + 0) (gLen.getD (5 + 0) 0) 0 p).2 ∧ (gAll (μ 0) n (5 + 0) (gLen.getD (5 + 0) 0) 0 p).2 ≤ n := gAll_fit _ _ _ hp
            refine g_ki (g_runV (T := TX12) (ci := 12) (N := 45) (rest := []) hx hb hml hown hE hT (c_X12_isAll l G b π μ f g n hn hT9 E p o c v d (by omega) (by omega) ho hbG 5 (by decide)) gM_X12_isAll gm_X12_197 gi_X12_isAll gs_RX12_yX12_isAll_yX12_isAll rfl (h1 0 _ rfl) ⟨(gOld_S hO hS (fun q9 hq9 => Nat.le_trans hbG hq9.1)), h1⟩ rfl hl.1 ⟨rfl, rfl⟩ ⟨Nat.le_of_ble_eq_true rfl, Nat.le_of_ble_eq_true rfl⟩ ⟨Nat.zero_le _, Nat.zero_le _⟩ rfl (Nat.le_of_ble_eq_true rfl) dX12_isClause_93) hS (by intro q hq; omega) (fun r47 H44 locs q45 k46 hS => ?_)
            obtain ⟨e9, h1⟩ := q45
            rw [e9]
            refine lv_goto (tgt := 132) hx hb dX12_isClause_96 (by decide) ?_
            refine lv_istore_n (lv' := [(3, .int (gB ((gAll (μ 0) n (5 + 0) (gLen.getD (5 + 0) 0) 0 p).1 = true))), (2, .int 0), (0, .ref b), (1, .int (nI j))]) hx hb dX12_isClause_132 rfl hl (by decide) rfl (fun ls hl => ?_)
            refine lv_iload_n hx hb dX12_isClause_133 rfl (lv_at hl 0 rfl) ?_
            refine lv_if_eq (tgt := 144) hx hb dX12_isClause_134 (by decide) (fun c48 => ?_) (fun c48 => ?_)
            · have c48 : ¬ ((gAll (μ 0) n (5 + 0) (gLen.getD (5 + 0) 0) 0 p).1 = true) := gB_0.mp c48
              refine lv_iconst (v := 0) hx hb dX12_isClause_144 (by decide) ?_
              have hkd : gClk (μ 0) n p = 0 := by rw [gClk, if_pos ⟨by omega, c7⟩, if_neg (fun z9 => absurd z9.1 (by omega))]
              have hR : gKl (μ 0) n p = (false, (gAll (μ 0) n (5 + 0) (gLen.getD (5 + 0) 0) 0 p).2, 0, []) := by rw [gKl, hkd, if_neg (by decide), gClw, if_neg c48]
              rw [← hQ]
              exact g_zret hx hb hr hlk rfl hS dX12_isClause_145 (by rw [hR, hkd]; exact ⟨rfl, _, _, _, o, _, by omega, gFr_0, gCd_0, h1, fun z9 => by first | exact Bool.noConfusion z9 | exact absurd z9 id⟩)
            · have c48 : (gAll (μ 0) n (5 + 0) (gLen.getD (5 + 0) 0) 0 p).1 = true := gB_1.mp c48
              refine lv_aload_n hx hb dX12_isClause_137 rfl (lv_at hl 2 rfl) ?_
              have fN : (gAll (μ 0) n (5 + 0) (gLen.getD (5 + 0) 0) 0 p).2 ≤ (gNum (μ 0) n (gAll (μ 0) n (5 + 0) (gLen.getD (5 + 0) 0) 0 p).2).2.1 ∧ (gNum (μ 0) n (gAll (μ 0) n (5 + 0) (gLen.getD (5 + 0) 0) 0 p).2).2.1 ≤ n := gNum_fit (by omega)
              refine g_ki (g_runV (T := TX12) (ci := 12) (N := 45) (rest := []) hx hb hml hown hE hT (c_X12_isNumber l G b π μ f g n hn hT9 E (gAll (μ 0) n (5 + 0) (gLen.getD (5 + 0) 0) 0 p).2 o c v d (by omega) (by omega) ho) gM_X12_isNumber gm_X12_171 gi_X12_isNumber gs_RX12_yX12_isNumber_yX12_isNumber rfl (h1 0 _ rfl) h1 rfl hl.1 ⟨rfl, rfl⟩ ⟨Nat.le_of_ble_eq_true rfl, Nat.le_of_ble_eq_true rfl⟩ ⟨Nat.zero_le _, Nat.zero_le _⟩ rfl (Nat.le_of_ble_eq_true rfl) dX12_isClause_138) hS (by intro q hq; omega) (fun r52 H49 locs q50 k51 hS => ?_)
              obtain ⟨e9, v2, d2, h1, hv2⟩ := q50
              rw [e9]
              refine lv_if_ne (tgt := 146) hx hb dX12_isClause_141 (by decide) (fun c53 => ?_) (fun c53 => ?_)
              · have c53 : (gNum (μ 0) n (gAll (μ 0) n (5 + 0) (gLen.getD (5 + 0) 0) 0 p).2).1 = true := gB_1.mp c53
                obtain ⟨ev, hv⟩ := hv2 c53
                refine lv_aload_n hx hb dX12_isClause_146 rfl (lv_at hl 2 rfl) ?_
                refine g_get (v := .ref (b + 11)) (T := TX12) (ci := 12) (N := 45) hx hb hown hK (gY_X12 hT) rfl (h1 0 _ rfl) 20 (by decide) (hT _ gf_X12_42) rfl dX12_isClause_147 ?_
                refine lv_iload_n hx hb dX12_isClause_150 rfl (lv_at hl 3 rfl) ?_
                refine lv_iload_n hx hb dX12_isClause_151 rfl (lv_at hl 1 rfl) ?_
                refine g_is (j := j) hx hb hK hS (h1 11 _ rfl) rfl (by omega) (Nat.le_of_ble_eq_true rfl) (by omega) dX12_isClause_152 (fun H54 locs c55 oq hS => ?_)
                have h1 : gSg G b (gLM G b π μ (gR (gR (gU f 2 j 0) 6 E) 13 (gS5 (nI (gNum (μ 0) n (gAll (μ 0) n (5 + 0) (gLen.getD (5 + 0) 0) 0 p).2).2.1) v2 d2 (nI o) (nI c))) g) H54 := gSg_set h1 11 c55 oq
                refine lv_aload_n hx hb dX12_isClause_153 rfl (lv_at hl 2 rfl) ?_
                refine g_get (v := .ref (b + 12)) (T := TX12) (ci := 12) (N := 45) hx hb hown hK (gY_X12 hT) rfl (h1 0 _ rfl) 21 (by decide) (hT _ gf_X12_45) rfl dX12_isClause_154 ?_
                refine lv_iload_n hx hb dX12_isClause_157 rfl (lv_at hl 3 rfl) ?_
                refine lv_aload_n hx hb dX12_isClause_158 rfl (lv_at hl 2 rfl) ?_
                refine g_get (v := .int v2) (T := TX12) (ci := 12) (N := 45) hx hb hown hK (gY_X12 hT) rfl (h1 0 _ rfl) 14 (by decide) (hT _ gf_X12_139) rfl dX12_isClause_159 ?_
                refine g_is (j := j) hx hb hK hS (h1 12 _ rfl) rfl (by omega) (Nat.le_of_ble_eq_true rfl) (by omega) dX12_isClause_162 (fun H56 locs c57 oq hS => ?_)
                have h1 : gSg G b (gLM G b π μ (gR (gR (gU (gU f 2 j 0) 3 j v2) 6 E) 13 (gS5 (nI (gNum (μ 0) n (gAll (μ 0) n (5 + 0) (gLen.getD (5 + 0) 0) 0 p).2).2.1) v2 d2 (nI o) (nI c))) g) H56 := gSg_set h1 12 c57 oq
                refine lv_aload_n hx hb dX12_isClause_163 rfl (lv_at hl 2 rfl) ?_
                refine g_get (v := .ref (b + 13)) (T := TX12) (ci := 12) (N := 45) hx hb hown hK (gY_X12 hT) rfl (h1 0 _ rfl) 22 (by decide) (hT _ gf_X12_48) rfl dX12_isClause_164 ?_
                refine lv_iload_n hx hb dX12_isClause_167 rfl (lv_at hl 3 rfl) ?_
                refine lv_aload_n hx hb dX12_isClause_168 rfl (lv_at hl 2 rfl) ?_
                refine g_get (v := .int (nI c)) (T := TX12) (ci := 12) (N := 45) hx hb hown hK (gY_X12 hT) rfl (h1 0 _ rfl) 25 (by decide) (hT _ gf_X12_161) rfl dX12_isClause_169 ?_
                refine g_is (j := j) hx hb hK hS (h1 13 _ rfl) rfl (by omega) (Nat.le_of_ble_eq_true rfl) (by omega) dX12_isClause_172 (fun H58 locs c59 oq hS => ?_)
                have h1 : gSg G b (gLM G b π μ (gR (gR (gU (gU (gU f 2 j 0) 3 j v2) 4 j (nI c)) 6 E) 13 (gS5 (nI (gNum (μ 0) n (gAll (μ 0) n (5 + 0) (gLen.getD (5 + 0) 0) 0 p).2).2.1) v2 d2 (nI o) (nI c))) g) H58 := gSg_set h1 13 c59 oq
                refine lv_aload_n hx hb dX12_isClause_173 rfl (lv_at hl 2 rfl) ?_
                refine lv_iconst (v := 0) hx hb dX12_isClause_174 (by decide) ?_
                refine g_put (T := TX12) (ci := 12) (N := 45) (ty0 := tyX12) hx hb hown hK hS (gY_X12 hT) tyX12_ok nmX12 rfl (h1 0 _ rfl) 16 (by decide) (hT _ gf_X12_177) rfl rfl rfl (Nat.le_of_ble_eq_true rfl) (by omega) dX12_isClause_175 (fun H60 locs c61 oq hS => ?_)
                have h1 : gSg G b (gLM G b π μ (gR (gR (gU (gU (gU f 2 j 0) 3 j v2) 4 j (nI c)) 6 E) 13 (gS5 (nI (gNum (μ 0) n (gAll (μ 0) n (5 + 0) (gLen.getD (5 + 0) 0) 0 p).2).2.1) v2 d2 0 (nI c))) g) H60 := gSg_set h1 0 c61 oq
                refine lv_iload_n hx hb dX12_isClause_178 rfl (lv_at hl 1 rfl) ?_
                refine lv_iconst (v := 2) hx hb dX12_isClause_179 (by decide) ?_
                refine lv_icmp_ge (tgt := 201) hx hb dX12_isClause_180 (by decide) (fun c62 => ?_) (fun c62 => ?_)
                · exact absurd c62 (by decide)
                · refine lv_aload_n hx hb dX12_isClause_183 rfl (lv_at hl 2 rfl) ?_
                  refine lv_bipush (v := 32) hx hb dX12_isClause_184 (by decide) ?_
                  refine g_ki (g_runV (T := TX12) (ci := 12) (N := 45) (rest := []) hx hb hml hown hE hT (c_X12_is l G b π μ (gU (gU (gU f 2 j 0) 3 j v2) 4 j (nI c)) g n hn hT9 E (gNum (μ 0) n (gAll (μ 0) n (5 + 0) (gLen.getD (5 + 0) 0) 0 p).2).2.1 0 c v2 d2 (by omega) (by omega) (by omega) 32) gM_X12_is gm_X12_158 gi_X12_is gs_RX12_yX12_is_yX12_is rfl (h1 0 _ rfl) h1 rfl hl.1 ⟨rfl, rfl⟩ ⟨Nat.le_of_ble_eq_true rfl, Nat.le_of_ble_eq_true rfl⟩ ⟨Nat.zero_le _, Nat.zero_le _⟩ rfl (Nat.le_of_ble_eq_true rfl) dX12_isClause_186) hS (by intro q hq; omega) (fun r66 H63 locs q64 k65 hS => ?_)
                  obtain ⟨e9, h1⟩ := q64
                  rw [e9]
                  refine lv_if_eq (tgt := 199) hx hb dX12_isClause_189 (by decide) (fun c67 => ?_) (fun c67 => ?_)
                  · have c67 : ¬ ((gNum (μ 0) n (gAll (μ 0) n (5 + 0) (gLen.getD (5 + 0) 0) 0 p).2).2.1 < n ∧ μ 0 (gNum (μ 0) n (gAll (μ 0) n (5 + 0) (gLen.getD (5 + 0) 0) 0 p).2).2.1 = 32) := gB_0.mp c67
                    rw [if_neg c67] at h1
                    refine lv_iconst (v := 0) hx hb dX12_isClause_199 (by decide) ?_
                    have hkd : gClk (μ 0) n p = 0 := by rw [gClk, if_pos ⟨by omega, c7⟩, if_neg (fun z9 => absurd z9.1 (by omega))]
                    have hR : gKl (μ 0) n p = (false, (gNum (μ 0) n (gAll (μ 0) n (5 + 0) (gLen.getD (5 + 0) 0) 0 p).2).2.1, 0, []) := by rw [gKl, hkd, if_neg (by decide), gClw, if_pos c48, if_pos c53, if_neg (by decide), if_neg c67]
                    rw [← hQ]
                    exact g_zret hx hb hr hlk rfl hS dX12_isClause_200 (by rw [hR, hkd]; exact ⟨rfl, _, _, _, 0, _, by omega, (gFr_u (gFr_u (gFr_u gFr_0 (by decide) (by decide)) (by decide) (by decide)) (by decide) (by decide)), gCd_0, h1, fun z9 => by first | exact Bool.noConfusion z9 | exact absurd z9 id⟩)
                  · have c67 : (gNum (μ 0) n (gAll (μ 0) n (5 + 0) (gLen.getD (5 + 0) 0) 0 p).2).2.1 < n ∧ μ 0 (gNum (μ 0) n (gAll (μ 0) n (5 + 0) (gLen.getD (5 + 0) 0) 0 p).2).2.1 = 32 := gB_1.mp c67
                    rw [if_pos c67] at h1
                    have ltc67 := c67.1
                    refine lv_aload_n hx hb dX12_isClause_192 rfl (lv_at hl 2 rfl) ?_
                    have fy68 : (gNum (μ 0) n (gAll (μ 0) n (5 + 0) (gLen.getD (5 + 0) 0) 0 p).2).2.1 + 1 ≤ (gE (μ 0) n 4 ((gNum (μ 0) n (gAll (μ 0) n (5 + 0) (gLen.getD (5 + 0) 0) 0 p).2).2.1 + 1)).2.1 ∧ (gE (μ 0) n 4 ((gNum (μ 0) n (gAll (μ 0) n (5 + 0) (gLen.getD (5 + 0) 0) 0 p).2).2.1 + 1)).2.1 ≤ n ∧ (gE (μ 0) n 4 ((gNum (μ 0) n (gAll (μ 0) n (5 + 0) (gLen.getD (5 + 0) 0) 0 p).2).2.1 + 1)).2.2.length ≤ (gE (μ 0) n 4 ((gNum (μ 0) n (gAll (μ 0) n (5 + 0) (gLen.getD (5 + 0) 0) 0 p).2).2.1 + 1)).2.1 - ((gNum (μ 0) n (gAll (μ 0) n (5 + 0) (gLen.getD (5 + 0) 0) 0 p).2).2.1 + 1) := gE_fit (μ 0) n 4 ((gNum (μ 0) n (gAll (μ 0) n (5 + 0) (gLen.getD (5 + 0) 0) 0 p).2).2.1 + 1) (by omega)
                    refine g_ki (g_runV (T := TX12) (ci := 12) (N := 45) (rest := []) hx hb hml hown hE hT (c_X12_isE_4 l G b π μ (gU (gU (gU f 2 j 0) 3 j v2) 4 j (nI c)) g n hn hT9 E ((gNum (μ 0) n (gAll (μ 0) n (5 + 0) (gLen.getD (5 + 0) 0) 0 p).2).2.1 + 1) c v2 d2 (by omega) (by omega) hbG) gM_X12_isE gm_X12_186 gi_X12_isE gs_RX12_yX12_isE_yX12_isE rfl (h1 0 _ rfl) ⟨(gOld_S hO hS (fun q9 hq9 => Nat.le_trans hbG hq9.1)), h1⟩ rfl hl.1 ⟨rfl, rfl⟩ ⟨Nat.le_of_ble_eq_true rfl, Nat.le_of_ble_eq_true rfl⟩ ⟨Nat.zero_le _, Nat.zero_le _⟩ rfl (Nat.le_of_ble_eq_true rfl) dX12_isClause_193) hS (by intro q hq; omega) (fun r72 H69 locs q70 k71 hS => ?_)
                    obtain ⟨e9, vy68, dy68, Ey68, hcy68, h1⟩ := q70
                    rw [e9]
                    refine lv_if_ne (tgt := 201) hx hb dX12_isClause_196 (by decide) (fun c73 => ?_) (fun c73 => ?_)
                    · have c73 : (gE (μ 0) n 4 ((gNum (μ 0) n (gAll (μ 0) n (5 + 0) (gLen.getD (5 + 0) 0) 0 p).2).2.1 + 1)).1 = true := gB_1.mp c73
                      refine lv_aload_n hx hb dX12_isClause_201 rfl (lv_at hl 2 rfl) ?_
                      refine g_get (v := .ref (b + 14)) (T := TX12) (ci := 12) (N := 45) hx hb hown hK (gY_X12 hT) rfl (h1 0 _ rfl) 23 (by decide) (hT _ gf_X12_51) rfl dX12_isClause_202 ?_
                      refine lv_iload_n hx hb dX12_isClause_205 rfl (lv_at hl 3 rfl) ?_
                      refine lv_aload_n hx hb dX12_isClause_206 rfl (lv_at hl 2 rfl) ?_
                      refine g_get (v := .int (nI (c + (gE (μ 0) n 4 ((gNum (μ 0) n (gAll (μ 0) n (5 + 0) (gLen.getD (5 + 0) 0) 0 p).2).2.1 + 1)).2.2.length))) (T := TX12) (ci := 12) (N := 45) hx hb hown hK (gY_X12 hT) rfl (h1 0 _ rfl) 25 (by decide) (hT _ gf_X12_161) rfl dX12_isClause_207 ?_
                      refine lv_aload_n hx hb dX12_isClause_210 rfl (lv_at hl 2 rfl) ?_
                      refine g_get (v := .ref (b + 13)) (T := TX12) (ci := 12) (N := 45) hx hb hown hK (gY_X12 hT) rfl (h1 0 _ rfl) 22 (by decide) (hT _ gf_X12_48) rfl dX12_isClause_211 ?_
                      refine lv_iload_n hx hb dX12_isClause_214 rfl (lv_at hl 3 rfl) ?_
                      refine g_ia (j := j) (v := nI c) hx hb hK (h1 13 _ rfl) rfl (by omega) (Nat.le_of_ble_eq_true rfl) (show (gU (gU (gU f 2 j 0) 3 j v2) 4 j (nI c)) 4 j = nI c from gU_e) dX12_isClause_215 ?_
                      refine lv_isub hx hb dX12_isClause_216 ?_
                      rw [show ((nI (c + (gE (μ 0) n 4 ((gNum (μ 0) n (gAll (μ 0) n (5 + 0) (gLen.getD (5 + 0) 0) 0 p).2).2.1 + 1)).2.2.length)) - (nI c) : Int32) = nI ((c + (gE (μ 0) n 4 ((gNum (μ 0) n (gAll (μ 0) n (5 + 0) (gLen.getD (5 + 0) 0) 0 p).2).2.1 + 1)).2.2.length) - c) from (gSub rfl rfl (by omega))]
                      refine g_is (j := j) hx hb hK hS (h1 14 _ rfl) rfl (by omega) (Nat.le_of_ble_eq_true rfl) (by omega) dX12_isClause_217 (fun H74 locs c75 oq hS => ?_)
                      have h1 : gSg G b (gLM G b π μ (gR (gR (gU (gU (gU (gU f 2 j 0) 3 j v2) 4 j (nI c)) 5 j (nI ((c + (gE (μ 0) n 4 ((gNum (μ 0) n (gAll (μ 0) n (5 + 0) (gLen.getD (5 + 0) 0) 0 p).2).2.1 + 1)).2.2.length) - c))) 6 Ey68) 13 (gS5 (nI (gE (μ 0) n 4 ((gNum (μ 0) n (gAll (μ 0) n (5 + 0) (gLen.getD (5 + 0) 0) 0 p).2).2.1 + 1)).2.1) vy68 dy68 (nI 0) (nI (c + (gE (μ 0) n 4 ((gNum (μ 0) n (gAll (μ 0) n (5 + 0) (gLen.getD (5 + 0) 0) 0 p).2).2.1 + 1)).2.2.length)))) g) H74 := gSg_set h1 14 c75 oq
                      refine lv_iconst (v := 1) hx hb dX12_isClause_218 (by decide) ?_
                      have hkd : gClk (μ 0) n p = 0 := by rw [gClk, if_pos ⟨by omega, c7⟩, if_neg (fun z9 => absurd z9.1 (by omega))]
                      have hR : gKl (μ 0) n p = ((gE (μ 0) n 4 ((gNum (μ 0) n (gAll (μ 0) n (5 + 0) (gLen.getD (5 + 0) 0) 0 p).2).2.1 + 1)).1, (gE (μ 0) n 4 ((gNum (μ 0) n (gAll (μ 0) n (5 + 0) (gLen.getD (5 + 0) 0) 0 p).2).2.1 + 1)).2.1, (gNum (μ 0) n (gAll (μ 0) n (5 + 0) (gLen.getD (5 + 0) 0) 0 p).2).2.2, (gE (μ 0) n 4 ((gNum (μ 0) n (gAll (μ 0) n (5 + 0) (gLen.getD (5 + 0) 0) 0 p).2).2.1 + 1)).2.2) := by rw [gKl, hkd, if_neg (by decide), gClw, if_pos c48, if_pos c53, if_neg (by decide), if_pos c67]
                      rw [← hQ]
                      exact g_zret hx hb hr hlk rfl hS dX12_isClause_219 (by rw [hR, hkd]; exact ⟨(gB_t c73).symm, _, _, _, 0, _, by omega, (gFr_u (gFr_u (gFr_u (gFr_u gFr_0 (by decide) (by decide)) (by decide) (by decide)) (by decide) (by decide)) (by decide) (by decide)), hcy68, h1, fun _ => ⟨by rw [gU_ne (by decide), gU_ne (by decide), gU_ne (by decide), gU_e]; rfl, by rw [gU_ne (by decide), gU_ne (by decide), gU_e]; exact ev, by rw [gU_ne (by decide), gU_e], by rw [gU_e]; exact congrArg nI (by first | omega | (simp only [List.length_nil]; omega))⟩⟩)
                    · have c73 : ¬ ((gE (μ 0) n 4 ((gNum (μ 0) n (gAll (μ 0) n (5 + 0) (gLen.getD (5 + 0) 0) 0 p).2).2.1 + 1)).1 = true) := gB_0.mp c73
                      refine lv_iconst (v := 0) hx hb dX12_isClause_199 (by decide) ?_
                      have hkd : gClk (μ 0) n p = 0 := by rw [gClk, if_pos ⟨by omega, c7⟩, if_neg (fun z9 => absurd z9.1 (by omega))]
                      have hR : gKl (μ 0) n p = ((gE (μ 0) n 4 ((gNum (μ 0) n (gAll (μ 0) n (5 + 0) (gLen.getD (5 + 0) 0) 0 p).2).2.1 + 1)).1, (gE (μ 0) n 4 ((gNum (μ 0) n (gAll (μ 0) n (5 + 0) (gLen.getD (5 + 0) 0) 0 p).2).2.1 + 1)).2.1, (gNum (μ 0) n (gAll (μ 0) n (5 + 0) (gLen.getD (5 + 0) 0) 0 p).2).2.2, (gE (μ 0) n 4 ((gNum (μ 0) n (gAll (μ 0) n (5 + 0) (gLen.getD (5 + 0) 0) 0 p).2).2.1 + 1)).2.2) := by rw [gKl, hkd, if_neg (by decide), gClw, if_pos c48, if_pos c53, if_neg (by decide), if_pos c67]
                      rw [← hQ]
                      exact g_zret hx hb hr hlk rfl hS dX12_isClause_200 (by rw [hR, hkd]; exact ⟨(gB_f c73).symm, _, _, _, 0, _, by omega, (gFr_u (gFr_u (gFr_u gFr_0 (by decide) (by decide)) (by decide) (by decide)) (by decide) (by decide)), hcy68, h1, fun z9 => by first | exact Bool.noConfusion z9 | exact absurd z9 c73⟩)
              · have c53 : ¬ ((gNum (μ 0) n (gAll (μ 0) n (5 + 0) (gLen.getD (5 + 0) 0) 0 p).2).1 = true) := gB_0.mp c53
                refine lv_iconst (v := 0) hx hb dX12_isClause_144 (by decide) ?_
                have hkd : gClk (μ 0) n p = 0 := by rw [gClk, if_pos ⟨by omega, c7⟩, if_neg (fun z9 => absurd z9.1 (by omega))]
                have hR : gKl (μ 0) n p = (false, (gNum (μ 0) n (gAll (μ 0) n (5 + 0) (gLen.getD (5 + 0) 0) 0 p).2).2.1, 0, []) := by rw [gKl, hkd, if_neg (by decide), gClw, if_pos c48, if_neg c53]
                rw [← hQ]
                exact g_zret hx hb hr hlk rfl hS dX12_isClause_145 (by rw [hR, hkd]; exact ⟨rfl, _, _, _, o, _, by omega, gFr_0, gCd_0, h1, fun z9 => by first | exact Bool.noConfusion z9 | exact absurd z9 id⟩)
        · have c42 : ¬ n ≤ (p + 1) := fun z => c42 ((gLe (a := n) (b := p + 1) hn rfl (by omega) (by omega)).mpr z)
          refine lv_aload_n hx hb dX12_isClause_68 rfl (lv_at hl 1 rfl) ?_
          refine g_get (v := .ref (b + 9)) (T := TX12) (ci := 12) (N := 45) hx hb hown hK (gY_X12 hT) rfl (h1 0 _ rfl) 12 (by decide) (hT _ gf_X12_36) rfl dX12_isClause_69 ?_
          refine lv_aload_n hx hb dX12_isClause_72 rfl (lv_at hl 1 rfl) ?_
          refine g_get (v := .int (nI p)) (T := TX12) (ci := 12) (N := 45) hx hb hown hK (gY_X12 hT) rfl (h1 0 _ rfl) 13 (by decide) (hT _ gf_X12_136) rfl dX12_isClause_73 ?_
          refine lv_iconst (v := 1) hx hb dX12_isClause_76 (by decide) ?_
          refine lv_iadd hx hb dX12_isClause_77 ?_
          rw [show ((nI p) + 1 : Int32) = nI (p + 1) from (gAdd rfl rfl)]
          refine g_ia (j := p + 1) (v := μ 0 (p + 1)) hx hb hK (h1 9 _ rfl) rfl (by omega) (Nat.le_of_ble_eq_true rfl) rfl dX12_isClause_78 ?_
          refine lv_bipush (v := 114) hx hb dX12_isClause_79 (by decide) ?_
          refine lv_icmp_ne (tgt := 86) hx hb dX12_isClause_81 (by decide) (fun c76 => ?_) (fun c76 => ?_)
          · refine lv_iload_n hx hb dX12_isClause_86 rfl (lv_at hl 0 rfl) ?_
            refine lv_if_ne (tgt := 99) hx hb dX12_isClause_87 (by decide) (fun c77 => ?_) (fun c77 => ?_)
            · exact absurd (by decide) c77
            · refine lv_aload_n hx hb dX12_isClause_90 rfl (lv_at hl 1 rfl) ?_
              refine va_ldcS (q := G.2.2.1 5) hx hb hown (hE.2.2.2.2.2.1 (RX12, 195, _, 5) (List.mem_of_getElem? (i := 7) rfl)) dX12_isClause_91 ?_
              have fA : p ≤ (gAll (μ 0) n (5 + 0) (gLen.getD (5 + 0) 0) 0 p).2 ∧ (gAll (μ 0) n (5 + 0) (gLen.getD (5 + 0) 0) 0 p).2 ≤ n := gAll_fit _ _ _ hp
              refine g_ki (g_runV (T := TX12) (ci := 12) (N := 45) (rest := []) hx hb hml hown hE hT (c_X12_isAll l G b π μ f g n hn hT9 E p o c v d (by omega) (by omega) ho hbG 5 (by decide)) gM_X12_isAll gm_X12_197 gi_X12_isAll gs_RX12_yX12_isAll_yX12_isAll rfl (h1 0 _ rfl) ⟨(gOld_S hO hS (fun q9 hq9 => Nat.le_trans hbG hq9.1)), h1⟩ rfl hl.1 ⟨rfl, rfl⟩ ⟨Nat.le_of_ble_eq_true rfl, Nat.le_of_ble_eq_true rfl⟩ ⟨Nat.zero_le _, Nat.zero_le _⟩ rfl (Nat.le_of_ble_eq_true rfl) dX12_isClause_93) hS (by intro q hq; omega) (fun r81 H78 locs q79 k80 hS => ?_)
              obtain ⟨e9, h1⟩ := q79
              rw [e9]
              refine lv_goto (tgt := 132) hx hb dX12_isClause_96 (by decide) ?_
              refine lv_istore_n (lv' := [(3, .int (gB ((gAll (μ 0) n (5 + 0) (gLen.getD (5 + 0) 0) 0 p).1 = true))), (2, .int 0), (0, .ref b), (1, .int (nI j))]) hx hb dX12_isClause_132 rfl hl (by decide) rfl (fun ls hl => ?_)
              refine lv_iload_n hx hb dX12_isClause_133 rfl (lv_at hl 0 rfl) ?_
              refine lv_if_eq (tgt := 144) hx hb dX12_isClause_134 (by decide) (fun c82 => ?_) (fun c82 => ?_)
              · have c82 : ¬ ((gAll (μ 0) n (5 + 0) (gLen.getD (5 + 0) 0) 0 p).1 = true) := gB_0.mp c82
                refine lv_iconst (v := 0) hx hb dX12_isClause_144 (by decide) ?_
                have hkd : gClk (μ 0) n p = 0 := by rw [gClk, if_pos ⟨by omega, c7⟩, if_neg (fun z9 => c76 z9.2)]
                have hR : gKl (μ 0) n p = (false, (gAll (μ 0) n (5 + 0) (gLen.getD (5 + 0) 0) 0 p).2, 0, []) := by rw [gKl, hkd, if_neg (by decide), gClw, if_neg c82]
                rw [← hQ]
                exact g_zret hx hb hr hlk rfl hS dX12_isClause_145 (by rw [hR, hkd]; exact ⟨rfl, _, _, _, o, _, by omega, gFr_0, gCd_0, h1, fun z9 => by first | exact Bool.noConfusion z9 | exact absurd z9 id⟩)
              · have c82 : (gAll (μ 0) n (5 + 0) (gLen.getD (5 + 0) 0) 0 p).1 = true := gB_1.mp c82
                refine lv_aload_n hx hb dX12_isClause_137 rfl (lv_at hl 2 rfl) ?_
                have fN : (gAll (μ 0) n (5 + 0) (gLen.getD (5 + 0) 0) 0 p).2 ≤ (gNum (μ 0) n (gAll (μ 0) n (5 + 0) (gLen.getD (5 + 0) 0) 0 p).2).2.1 ∧ (gNum (μ 0) n (gAll (μ 0) n (5 + 0) (gLen.getD (5 + 0) 0) 0 p).2).2.1 ≤ n := gNum_fit (by omega)
                refine g_ki (g_runV (T := TX12) (ci := 12) (N := 45) (rest := []) hx hb hml hown hE hT (c_X12_isNumber l G b π μ f g n hn hT9 E (gAll (μ 0) n (5 + 0) (gLen.getD (5 + 0) 0) 0 p).2 o c v d (by omega) (by omega) ho) gM_X12_isNumber gm_X12_171 gi_X12_isNumber gs_RX12_yX12_isNumber_yX12_isNumber rfl (h1 0 _ rfl) h1 rfl hl.1 ⟨rfl, rfl⟩ ⟨Nat.le_of_ble_eq_true rfl, Nat.le_of_ble_eq_true rfl⟩ ⟨Nat.zero_le _, Nat.zero_le _⟩ rfl (Nat.le_of_ble_eq_true rfl) dX12_isClause_138) hS (by intro q hq; omega) (fun r86 H83 locs q84 k85 hS => ?_)
                obtain ⟨e9, v2, d2, h1, hv2⟩ := q84
                rw [e9]
                refine lv_if_ne (tgt := 146) hx hb dX12_isClause_141 (by decide) (fun c87 => ?_) (fun c87 => ?_)
                · have c87 : (gNum (μ 0) n (gAll (μ 0) n (5 + 0) (gLen.getD (5 + 0) 0) 0 p).2).1 = true := gB_1.mp c87
                  obtain ⟨ev, hv⟩ := hv2 c87
                  refine lv_aload_n hx hb dX12_isClause_146 rfl (lv_at hl 2 rfl) ?_
                  refine g_get (v := .ref (b + 11)) (T := TX12) (ci := 12) (N := 45) hx hb hown hK (gY_X12 hT) rfl (h1 0 _ rfl) 20 (by decide) (hT _ gf_X12_42) rfl dX12_isClause_147 ?_
                  refine lv_iload_n hx hb dX12_isClause_150 rfl (lv_at hl 3 rfl) ?_
                  refine lv_iload_n hx hb dX12_isClause_151 rfl (lv_at hl 1 rfl) ?_
                  refine g_is (j := j) hx hb hK hS (h1 11 _ rfl) rfl (by omega) (Nat.le_of_ble_eq_true rfl) (by omega) dX12_isClause_152 (fun H88 locs c89 oq hS => ?_)
                  have h1 : gSg G b (gLM G b π μ (gR (gR (gU f 2 j 0) 6 E) 13 (gS5 (nI (gNum (μ 0) n (gAll (μ 0) n (5 + 0) (gLen.getD (5 + 0) 0) 0 p).2).2.1) v2 d2 (nI o) (nI c))) g) H88 := gSg_set h1 11 c89 oq
                  refine lv_aload_n hx hb dX12_isClause_153 rfl (lv_at hl 2 rfl) ?_
                  refine g_get (v := .ref (b + 12)) (T := TX12) (ci := 12) (N := 45) hx hb hown hK (gY_X12 hT) rfl (h1 0 _ rfl) 21 (by decide) (hT _ gf_X12_45) rfl dX12_isClause_154 ?_
                  refine lv_iload_n hx hb dX12_isClause_157 rfl (lv_at hl 3 rfl) ?_
                  refine lv_aload_n hx hb dX12_isClause_158 rfl (lv_at hl 2 rfl) ?_
                  refine g_get (v := .int v2) (T := TX12) (ci := 12) (N := 45) hx hb hown hK (gY_X12 hT) rfl (h1 0 _ rfl) 14 (by decide) (hT _ gf_X12_139) rfl dX12_isClause_159 ?_
                  refine g_is (j := j) hx hb hK hS (h1 12 _ rfl) rfl (by omega) (Nat.le_of_ble_eq_true rfl) (by omega) dX12_isClause_162 (fun H90 locs c91 oq hS => ?_)
                  have h1 : gSg G b (gLM G b π μ (gR (gR (gU (gU f 2 j 0) 3 j v2) 6 E) 13 (gS5 (nI (gNum (μ 0) n (gAll (μ 0) n (5 + 0) (gLen.getD (5 + 0) 0) 0 p).2).2.1) v2 d2 (nI o) (nI c))) g) H90 := gSg_set h1 12 c91 oq
                  refine lv_aload_n hx hb dX12_isClause_163 rfl (lv_at hl 2 rfl) ?_
                  refine g_get (v := .ref (b + 13)) (T := TX12) (ci := 12) (N := 45) hx hb hown hK (gY_X12 hT) rfl (h1 0 _ rfl) 22 (by decide) (hT _ gf_X12_48) rfl dX12_isClause_164 ?_
                  refine lv_iload_n hx hb dX12_isClause_167 rfl (lv_at hl 3 rfl) ?_
                  refine lv_aload_n hx hb dX12_isClause_168 rfl (lv_at hl 2 rfl) ?_
                  refine g_get (v := .int (nI c)) (T := TX12) (ci := 12) (N := 45) hx hb hown hK (gY_X12 hT) rfl (h1 0 _ rfl) 25 (by decide) (hT _ gf_X12_161) rfl dX12_isClause_169 ?_
                  refine g_is (j := j) hx hb hK hS (h1 13 _ rfl) rfl (by omega) (Nat.le_of_ble_eq_true rfl) (by omega) dX12_isClause_172 (fun H92 locs c93 oq hS => ?_)
                  have h1 : gSg G b (gLM G b π μ (gR (gR (gU (gU (gU f 2 j 0) 3 j v2) 4 j (nI c)) 6 E) 13 (gS5 (nI (gNum (μ 0) n (gAll (μ 0) n (5 + 0) (gLen.getD (5 + 0) 0) 0 p).2).2.1) v2 d2 (nI o) (nI c))) g) H92 := gSg_set h1 13 c93 oq
                  refine lv_aload_n hx hb dX12_isClause_173 rfl (lv_at hl 2 rfl) ?_
                  refine lv_iconst (v := 0) hx hb dX12_isClause_174 (by decide) ?_
                  refine g_put (T := TX12) (ci := 12) (N := 45) (ty0 := tyX12) hx hb hown hK hS (gY_X12 hT) tyX12_ok nmX12 rfl (h1 0 _ rfl) 16 (by decide) (hT _ gf_X12_177) rfl rfl rfl (Nat.le_of_ble_eq_true rfl) (by omega) dX12_isClause_175 (fun H94 locs c95 oq hS => ?_)
                  have h1 : gSg G b (gLM G b π μ (gR (gR (gU (gU (gU f 2 j 0) 3 j v2) 4 j (nI c)) 6 E) 13 (gS5 (nI (gNum (μ 0) n (gAll (μ 0) n (5 + 0) (gLen.getD (5 + 0) 0) 0 p).2).2.1) v2 d2 0 (nI c))) g) H94 := gSg_set h1 0 c95 oq
                  refine lv_iload_n hx hb dX12_isClause_178 rfl (lv_at hl 1 rfl) ?_
                  refine lv_iconst (v := 2) hx hb dX12_isClause_179 (by decide) ?_
                  refine lv_icmp_ge (tgt := 201) hx hb dX12_isClause_180 (by decide) (fun c96 => ?_) (fun c96 => ?_)
                  · exact absurd c96 (by decide)
                  · refine lv_aload_n hx hb dX12_isClause_183 rfl (lv_at hl 2 rfl) ?_
                    refine lv_bipush (v := 32) hx hb dX12_isClause_184 (by decide) ?_
                    refine g_ki (g_runV (T := TX12) (ci := 12) (N := 45) (rest := []) hx hb hml hown hE hT (c_X12_is l G b π μ (gU (gU (gU f 2 j 0) 3 j v2) 4 j (nI c)) g n hn hT9 E (gNum (μ 0) n (gAll (μ 0) n (5 + 0) (gLen.getD (5 + 0) 0) 0 p).2).2.1 0 c v2 d2 (by omega) (by omega) (by omega) 32) gM_X12_is gm_X12_158 gi_X12_is gs_RX12_yX12_is_yX12_is rfl (h1 0 _ rfl) h1 rfl hl.1 ⟨rfl, rfl⟩ ⟨Nat.le_of_ble_eq_true rfl, Nat.le_of_ble_eq_true rfl⟩ ⟨Nat.zero_le _, Nat.zero_le _⟩ rfl (Nat.le_of_ble_eq_true rfl) dX12_isClause_186) hS (by intro q hq; omega) (fun r100 H97 locs q98 k99 hS => ?_)
                    obtain ⟨e9, h1⟩ := q98
                    rw [e9]
                    refine lv_if_eq (tgt := 199) hx hb dX12_isClause_189 (by decide) (fun c101 => ?_) (fun c101 => ?_)
                    · have c101 : ¬ ((gNum (μ 0) n (gAll (μ 0) n (5 + 0) (gLen.getD (5 + 0) 0) 0 p).2).2.1 < n ∧ μ 0 (gNum (μ 0) n (gAll (μ 0) n (5 + 0) (gLen.getD (5 + 0) 0) 0 p).2).2.1 = 32) := gB_0.mp c101
                      rw [if_neg c101] at h1
                      refine lv_iconst (v := 0) hx hb dX12_isClause_199 (by decide) ?_
                      have hkd : gClk (μ 0) n p = 0 := by rw [gClk, if_pos ⟨by omega, c7⟩, if_neg (fun z9 => c76 z9.2)]
                      have hR : gKl (μ 0) n p = (false, (gNum (μ 0) n (gAll (μ 0) n (5 + 0) (gLen.getD (5 + 0) 0) 0 p).2).2.1, 0, []) := by rw [gKl, hkd, if_neg (by decide), gClw, if_pos c82, if_pos c87, if_neg (by decide), if_neg c101]
                      rw [← hQ]
                      exact g_zret hx hb hr hlk rfl hS dX12_isClause_200 (by rw [hR, hkd]; exact ⟨rfl, _, _, _, 0, _, by omega, (gFr_u (gFr_u (gFr_u gFr_0 (by decide) (by decide)) (by decide) (by decide)) (by decide) (by decide)), gCd_0, h1, fun z9 => by first | exact Bool.noConfusion z9 | exact absurd z9 id⟩)
                    · have c101 : (gNum (μ 0) n (gAll (μ 0) n (5 + 0) (gLen.getD (5 + 0) 0) 0 p).2).2.1 < n ∧ μ 0 (gNum (μ 0) n (gAll (μ 0) n (5 + 0) (gLen.getD (5 + 0) 0) 0 p).2).2.1 = 32 := gB_1.mp c101
                      rw [if_pos c101] at h1
                      have ltc101 := c101.1
                      refine lv_aload_n hx hb dX12_isClause_192 rfl (lv_at hl 2 rfl) ?_
                      have fy102 : (gNum (μ 0) n (gAll (μ 0) n (5 + 0) (gLen.getD (5 + 0) 0) 0 p).2).2.1 + 1 ≤ (gE (μ 0) n 4 ((gNum (μ 0) n (gAll (μ 0) n (5 + 0) (gLen.getD (5 + 0) 0) 0 p).2).2.1 + 1)).2.1 ∧ (gE (μ 0) n 4 ((gNum (μ 0) n (gAll (μ 0) n (5 + 0) (gLen.getD (5 + 0) 0) 0 p).2).2.1 + 1)).2.1 ≤ n ∧ (gE (μ 0) n 4 ((gNum (μ 0) n (gAll (μ 0) n (5 + 0) (gLen.getD (5 + 0) 0) 0 p).2).2.1 + 1)).2.2.length ≤ (gE (μ 0) n 4 ((gNum (μ 0) n (gAll (μ 0) n (5 + 0) (gLen.getD (5 + 0) 0) 0 p).2).2.1 + 1)).2.1 - ((gNum (μ 0) n (gAll (μ 0) n (5 + 0) (gLen.getD (5 + 0) 0) 0 p).2).2.1 + 1) := gE_fit (μ 0) n 4 ((gNum (μ 0) n (gAll (μ 0) n (5 + 0) (gLen.getD (5 + 0) 0) 0 p).2).2.1 + 1) (by omega)
                      refine g_ki (g_runV (T := TX12) (ci := 12) (N := 45) (rest := []) hx hb hml hown hE hT (c_X12_isE_4 l G b π μ (gU (gU (gU f 2 j 0) 3 j v2) 4 j (nI c)) g n hn hT9 E ((gNum (μ 0) n (gAll (μ 0) n (5 + 0) (gLen.getD (5 + 0) 0) 0 p).2).2.1 + 1) c v2 d2 (by omega) (by omega) hbG) gM_X12_isE gm_X12_186 gi_X12_isE gs_RX12_yX12_isE_yX12_isE rfl (h1 0 _ rfl) ⟨(gOld_S hO hS (fun q9 hq9 => Nat.le_trans hbG hq9.1)), h1⟩ rfl hl.1 ⟨rfl, rfl⟩ ⟨Nat.le_of_ble_eq_true rfl, Nat.le_of_ble_eq_true rfl⟩ ⟨Nat.zero_le _, Nat.zero_le _⟩ rfl (Nat.le_of_ble_eq_true rfl) dX12_isClause_193) hS (by intro q hq; omega) (fun r106 H103 locs q104 k105 hS => ?_)
                      obtain ⟨e9, vy102, dy102, Ey102, hcy102, h1⟩ := q104
                      rw [e9]
                      refine lv_if_ne (tgt := 201) hx hb dX12_isClause_196 (by decide) (fun c107 => ?_) (fun c107 => ?_)
                      · have c107 : (gE (μ 0) n 4 ((gNum (μ 0) n (gAll (μ 0) n (5 + 0) (gLen.getD (5 + 0) 0) 0 p).2).2.1 + 1)).1 = true := gB_1.mp c107
                        refine lv_aload_n hx hb dX12_isClause_201 rfl (lv_at hl 2 rfl) ?_
                        refine g_get (v := .ref (b + 14)) (T := TX12) (ci := 12) (N := 45) hx hb hown hK (gY_X12 hT) rfl (h1 0 _ rfl) 23 (by decide) (hT _ gf_X12_51) rfl dX12_isClause_202 ?_
                        refine lv_iload_n hx hb dX12_isClause_205 rfl (lv_at hl 3 rfl) ?_
                        refine lv_aload_n hx hb dX12_isClause_206 rfl (lv_at hl 2 rfl) ?_
                        refine g_get (v := .int (nI (c + (gE (μ 0) n 4 ((gNum (μ 0) n (gAll (μ 0) n (5 + 0) (gLen.getD (5 + 0) 0) 0 p).2).2.1 + 1)).2.2.length))) (T := TX12) (ci := 12) (N := 45) hx hb hown hK (gY_X12 hT) rfl (h1 0 _ rfl) 25 (by decide) (hT _ gf_X12_161) rfl dX12_isClause_207 ?_
                        refine lv_aload_n hx hb dX12_isClause_210 rfl (lv_at hl 2 rfl) ?_
                        refine g_get (v := .ref (b + 13)) (T := TX12) (ci := 12) (N := 45) hx hb hown hK (gY_X12 hT) rfl (h1 0 _ rfl) 22 (by decide) (hT _ gf_X12_48) rfl dX12_isClause_211 ?_
                        refine lv_iload_n hx hb dX12_isClause_214 rfl (lv_at hl 3 rfl) ?_
                        refine g_ia (j := j) (v := nI c) hx hb hK (h1 13 _ rfl) rfl (by omega) (Nat.le_of_ble_eq_true rfl) (show (gU (gU (gU f 2 j 0) 3 j v2) 4 j (nI c)) 4 j = nI c from gU_e) dX12_isClause_215 ?_
                        refine lv_isub hx hb dX12_isClause_216 ?_
                        rw [show ((nI (c + (gE (μ 0) n 4 ((gNum (μ 0) n (gAll (μ 0) n (5 + 0) (gLen.getD (5 + 0) 0) 0 p).2).2.1 + 1)).2.2.length)) - (nI c) : Int32) = nI ((c + (gE (μ 0) n 4 ((gNum (μ 0) n (gAll (μ 0) n (5 + 0) (gLen.getD (5 + 0) 0) 0 p).2).2.1 + 1)).2.2.length) - c) from (gSub rfl rfl (by omega))]
                        refine g_is (j := j) hx hb hK hS (h1 14 _ rfl) rfl (by omega) (Nat.le_of_ble_eq_true rfl) (by omega) dX12_isClause_217 (fun H108 locs c109 oq hS => ?_)
                        have h1 : gSg G b (gLM G b π μ (gR (gR (gU (gU (gU (gU f 2 j 0) 3 j v2) 4 j (nI c)) 5 j (nI ((c + (gE (μ 0) n 4 ((gNum (μ 0) n (gAll (μ 0) n (5 + 0) (gLen.getD (5 + 0) 0) 0 p).2).2.1 + 1)).2.2.length) - c))) 6 Ey102) 13 (gS5 (nI (gE (μ 0) n 4 ((gNum (μ 0) n (gAll (μ 0) n (5 + 0) (gLen.getD (5 + 0) 0) 0 p).2).2.1 + 1)).2.1) vy102 dy102 (nI 0) (nI (c + (gE (μ 0) n 4 ((gNum (μ 0) n (gAll (μ 0) n (5 + 0) (gLen.getD (5 + 0) 0) 0 p).2).2.1 + 1)).2.2.length)))) g) H108 := gSg_set h1 14 c109 oq
                        refine lv_iconst (v := 1) hx hb dX12_isClause_218 (by decide) ?_
                        have hkd : gClk (μ 0) n p = 0 := by rw [gClk, if_pos ⟨by omega, c7⟩, if_neg (fun z9 => c76 z9.2)]
                        have hR : gKl (μ 0) n p = ((gE (μ 0) n 4 ((gNum (μ 0) n (gAll (μ 0) n (5 + 0) (gLen.getD (5 + 0) 0) 0 p).2).2.1 + 1)).1, (gE (μ 0) n 4 ((gNum (μ 0) n (gAll (μ 0) n (5 + 0) (gLen.getD (5 + 0) 0) 0 p).2).2.1 + 1)).2.1, (gNum (μ 0) n (gAll (μ 0) n (5 + 0) (gLen.getD (5 + 0) 0) 0 p).2).2.2, (gE (μ 0) n 4 ((gNum (μ 0) n (gAll (μ 0) n (5 + 0) (gLen.getD (5 + 0) 0) 0 p).2).2.1 + 1)).2.2) := by rw [gKl, hkd, if_neg (by decide), gClw, if_pos c82, if_pos c87, if_neg (by decide), if_pos c101]
                        rw [← hQ]
                        exact g_zret hx hb hr hlk rfl hS dX12_isClause_219 (by rw [hR, hkd]; exact ⟨(gB_t c107).symm, _, _, _, 0, _, by omega, (gFr_u (gFr_u (gFr_u (gFr_u gFr_0 (by decide) (by decide)) (by decide) (by decide)) (by decide) (by decide)) (by decide) (by decide)), hcy102, h1, fun _ => ⟨by rw [gU_ne (by decide), gU_ne (by decide), gU_ne (by decide), gU_e]; rfl, by rw [gU_ne (by decide), gU_ne (by decide), gU_e]; exact ev, by rw [gU_ne (by decide), gU_e], by rw [gU_e]; exact congrArg nI (by first | omega | (simp only [List.length_nil]; omega))⟩⟩)
                      · have c107 : ¬ ((gE (μ 0) n 4 ((gNum (μ 0) n (gAll (μ 0) n (5 + 0) (gLen.getD (5 + 0) 0) 0 p).2).2.1 + 1)).1 = true) := gB_0.mp c107
                        refine lv_iconst (v := 0) hx hb dX12_isClause_199 (by decide) ?_
                        have hkd : gClk (μ 0) n p = 0 := by rw [gClk, if_pos ⟨by omega, c7⟩, if_neg (fun z9 => c76 z9.2)]
                        have hR : gKl (μ 0) n p = ((gE (μ 0) n 4 ((gNum (μ 0) n (gAll (μ 0) n (5 + 0) (gLen.getD (5 + 0) 0) 0 p).2).2.1 + 1)).1, (gE (μ 0) n 4 ((gNum (μ 0) n (gAll (μ 0) n (5 + 0) (gLen.getD (5 + 0) 0) 0 p).2).2.1 + 1)).2.1, (gNum (μ 0) n (gAll (μ 0) n (5 + 0) (gLen.getD (5 + 0) 0) 0 p).2).2.2, (gE (μ 0) n 4 ((gNum (μ 0) n (gAll (μ 0) n (5 + 0) (gLen.getD (5 + 0) 0) 0 p).2).2.1 + 1)).2.2) := by rw [gKl, hkd, if_neg (by decide), gClw, if_pos c82, if_pos c87, if_neg (by decide), if_pos c101]
                        rw [← hQ]
                        exact g_zret hx hb hr hlk rfl hS dX12_isClause_200 (by rw [hR, hkd]; exact ⟨(gB_f c107).symm, _, _, _, 0, _, by omega, (gFr_u (gFr_u (gFr_u gFr_0 (by decide) (by decide)) (by decide) (by decide)) (by decide) (by decide)), hcy102, h1, fun z9 => by first | exact Bool.noConfusion z9 | exact absurd z9 c107⟩)
                · have c87 : ¬ ((gNum (μ 0) n (gAll (μ 0) n (5 + 0) (gLen.getD (5 + 0) 0) 0 p).2).1 = true) := gB_0.mp c87
                  refine lv_iconst (v := 0) hx hb dX12_isClause_144 (by decide) ?_
                  have hkd : gClk (μ 0) n p = 0 := by rw [gClk, if_pos ⟨by omega, c7⟩, if_neg (fun z9 => c76 z9.2)]
                  have hR : gKl (μ 0) n p = (false, (gNum (μ 0) n (gAll (μ 0) n (5 + 0) (gLen.getD (5 + 0) 0) 0 p).2).2.1, 0, []) := by rw [gKl, hkd, if_neg (by decide), gClw, if_pos c82, if_neg c87]
                  rw [← hQ]
                  exact g_zret hx hb hr hlk rfl hS dX12_isClause_145 (by rw [hR, hkd]; exact ⟨rfl, _, _, _, o, _, by omega, gFr_0, gCd_0, h1, fun z9 => by first | exact Bool.noConfusion z9 | exact absurd z9 id⟩)
          · refine lv_iconst (v := 1) hx hb dX12_isClause_84 (by decide) ?_
            refine lv_istore_n (lv' := [(2, .int 1), (0, .ref b), (1, .int (nI j))]) hx hb dX12_isClause_85 rfl hl (by decide) rfl (fun ls hl => ?_)
            refine lv_iload_n hx hb dX12_isClause_86 rfl (lv_at hl 0 rfl) ?_
            refine lv_if_ne (tgt := 99) hx hb dX12_isClause_87 (by decide) (fun c110 => ?_) (fun c110 => ?_)
            · refine lv_iload_n hx hb dX12_isClause_99 rfl (lv_at hl 0 rfl) ?_
              refine lv_iconst (v := 1) hx hb dX12_isClause_100 (by decide) ?_
              refine lv_icmp_ne (tgt := 113) hx hb dX12_isClause_101 (by decide) (fun c111 => ?_) (fun c111 => ?_)
              · exact absurd (by decide) c111
              · refine lv_aload_n hx hb dX12_isClause_104 rfl (lv_at hl 1 rfl) ?_
                refine va_ldcS (q := G.2.2.1 6) hx hb hown (hE.2.2.2.2.2.1 (RX12, 201, _, 6) (List.mem_of_getElem? (i := 8) rfl)) dX12_isClause_105 ?_
                have fA : p ≤ (gAll (μ 0) n (5 + 1) (gLen.getD (5 + 1) 0) 0 p).2 ∧ (gAll (μ 0) n (5 + 1) (gLen.getD (5 + 1) 0) 0 p).2 ≤ n := gAll_fit _ _ _ hp
                refine g_ki (g_runV (T := TX12) (ci := 12) (N := 45) (rest := []) hx hb hml hown hE hT (c_X12_isAll l G b π μ f g n hn hT9 E p o c v d (by omega) (by omega) ho hbG 6 (by decide)) gM_X12_isAll gm_X12_197 gi_X12_isAll gs_RX12_yX12_isAll_yX12_isAll rfl (h1 0 _ rfl) ⟨(gOld_S hO hS (fun q9 hq9 => Nat.le_trans hbG hq9.1)), h1⟩ rfl hl.1 ⟨rfl, rfl⟩ ⟨Nat.le_of_ble_eq_true rfl, Nat.le_of_ble_eq_true rfl⟩ ⟨Nat.zero_le _, Nat.zero_le _⟩ rfl (Nat.le_of_ble_eq_true rfl) dX12_isClause_107) hS (by intro q hq; omega) (fun r115 H112 locs q113 k114 hS => ?_)
                obtain ⟨e9, h1⟩ := q113
                rw [e9]
                refine lv_goto (tgt := 132) hx hb dX12_isClause_110 (by decide) ?_
                refine lv_istore_n (lv' := [(3, .int (gB ((gAll (μ 0) n (5 + 1) (gLen.getD (5 + 1) 0) 0 p).1 = true))), (2, .int 1), (0, .ref b), (1, .int (nI j))]) hx hb dX12_isClause_132 rfl hl (by decide) rfl (fun ls hl => ?_)
                refine lv_iload_n hx hb dX12_isClause_133 rfl (lv_at hl 0 rfl) ?_
                refine lv_if_eq (tgt := 144) hx hb dX12_isClause_134 (by decide) (fun c116 => ?_) (fun c116 => ?_)
                · have c116 : ¬ ((gAll (μ 0) n (5 + 1) (gLen.getD (5 + 1) 0) 0 p).1 = true) := gB_0.mp c116
                  refine lv_iconst (v := 0) hx hb dX12_isClause_144 (by decide) ?_
                  have hkd : gClk (μ 0) n p = 1 := by rw [gClk, if_pos ⟨by omega, c7⟩, if_pos ⟨by omega, c76⟩]
                  have hR : gKl (μ 0) n p = (false, (gAll (μ 0) n (5 + 1) (gLen.getD (5 + 1) 0) 0 p).2, 0, []) := by rw [gKl, hkd, if_neg (by decide), gClw, if_neg c116]
                  rw [← hQ]
                  exact g_zret hx hb hr hlk rfl hS dX12_isClause_145 (by rw [hR, hkd]; exact ⟨rfl, _, _, _, o, _, by omega, gFr_0, gCd_0, h1, fun z9 => by first | exact Bool.noConfusion z9 | exact absurd z9 id⟩)
                · have c116 : (gAll (μ 0) n (5 + 1) (gLen.getD (5 + 1) 0) 0 p).1 = true := gB_1.mp c116
                  refine lv_aload_n hx hb dX12_isClause_137 rfl (lv_at hl 2 rfl) ?_
                  have fN : (gAll (μ 0) n (5 + 1) (gLen.getD (5 + 1) 0) 0 p).2 ≤ (gNum (μ 0) n (gAll (μ 0) n (5 + 1) (gLen.getD (5 + 1) 0) 0 p).2).2.1 ∧ (gNum (μ 0) n (gAll (μ 0) n (5 + 1) (gLen.getD (5 + 1) 0) 0 p).2).2.1 ≤ n := gNum_fit (by omega)
                  refine g_ki (g_runV (T := TX12) (ci := 12) (N := 45) (rest := []) hx hb hml hown hE hT (c_X12_isNumber l G b π μ f g n hn hT9 E (gAll (μ 0) n (5 + 1) (gLen.getD (5 + 1) 0) 0 p).2 o c v d (by omega) (by omega) ho) gM_X12_isNumber gm_X12_171 gi_X12_isNumber gs_RX12_yX12_isNumber_yX12_isNumber rfl (h1 0 _ rfl) h1 rfl hl.1 ⟨rfl, rfl⟩ ⟨Nat.le_of_ble_eq_true rfl, Nat.le_of_ble_eq_true rfl⟩ ⟨Nat.zero_le _, Nat.zero_le _⟩ rfl (Nat.le_of_ble_eq_true rfl) dX12_isClause_138) hS (by intro q hq; omega) (fun r120 H117 locs q118 k119 hS => ?_)
                  obtain ⟨e9, v2, d2, h1, hv2⟩ := q118
                  rw [e9]
                  refine lv_if_ne (tgt := 146) hx hb dX12_isClause_141 (by decide) (fun c121 => ?_) (fun c121 => ?_)
                  · have c121 : (gNum (μ 0) n (gAll (μ 0) n (5 + 1) (gLen.getD (5 + 1) 0) 0 p).2).1 = true := gB_1.mp c121
                    obtain ⟨ev, hv⟩ := hv2 c121
                    refine lv_aload_n hx hb dX12_isClause_146 rfl (lv_at hl 2 rfl) ?_
                    refine g_get (v := .ref (b + 11)) (T := TX12) (ci := 12) (N := 45) hx hb hown hK (gY_X12 hT) rfl (h1 0 _ rfl) 20 (by decide) (hT _ gf_X12_42) rfl dX12_isClause_147 ?_
                    refine lv_iload_n hx hb dX12_isClause_150 rfl (lv_at hl 3 rfl) ?_
                    refine lv_iload_n hx hb dX12_isClause_151 rfl (lv_at hl 1 rfl) ?_
                    refine g_is (j := j) hx hb hK hS (h1 11 _ rfl) rfl (by omega) (Nat.le_of_ble_eq_true rfl) (by omega) dX12_isClause_152 (fun H122 locs c123 oq hS => ?_)
                    have h1 : gSg G b (gLM G b π μ (gR (gR (gU f 2 j 1) 6 E) 13 (gS5 (nI (gNum (μ 0) n (gAll (μ 0) n (5 + 1) (gLen.getD (5 + 1) 0) 0 p).2).2.1) v2 d2 (nI o) (nI c))) g) H122 := gSg_set h1 11 c123 oq
                    refine lv_aload_n hx hb dX12_isClause_153 rfl (lv_at hl 2 rfl) ?_
                    refine g_get (v := .ref (b + 12)) (T := TX12) (ci := 12) (N := 45) hx hb hown hK (gY_X12 hT) rfl (h1 0 _ rfl) 21 (by decide) (hT _ gf_X12_45) rfl dX12_isClause_154 ?_
                    refine lv_iload_n hx hb dX12_isClause_157 rfl (lv_at hl 3 rfl) ?_
                    refine lv_aload_n hx hb dX12_isClause_158 rfl (lv_at hl 2 rfl) ?_
                    refine g_get (v := .int v2) (T := TX12) (ci := 12) (N := 45) hx hb hown hK (gY_X12 hT) rfl (h1 0 _ rfl) 14 (by decide) (hT _ gf_X12_139) rfl dX12_isClause_159 ?_
                    refine g_is (j := j) hx hb hK hS (h1 12 _ rfl) rfl (by omega) (Nat.le_of_ble_eq_true rfl) (by omega) dX12_isClause_162 (fun H124 locs c125 oq hS => ?_)
                    have h1 : gSg G b (gLM G b π μ (gR (gR (gU (gU f 2 j 1) 3 j v2) 6 E) 13 (gS5 (nI (gNum (μ 0) n (gAll (μ 0) n (5 + 1) (gLen.getD (5 + 1) 0) 0 p).2).2.1) v2 d2 (nI o) (nI c))) g) H124 := gSg_set h1 12 c125 oq
                    refine lv_aload_n hx hb dX12_isClause_163 rfl (lv_at hl 2 rfl) ?_
                    refine g_get (v := .ref (b + 13)) (T := TX12) (ci := 12) (N := 45) hx hb hown hK (gY_X12 hT) rfl (h1 0 _ rfl) 22 (by decide) (hT _ gf_X12_48) rfl dX12_isClause_164 ?_
                    refine lv_iload_n hx hb dX12_isClause_167 rfl (lv_at hl 3 rfl) ?_
                    refine lv_aload_n hx hb dX12_isClause_168 rfl (lv_at hl 2 rfl) ?_
                    refine g_get (v := .int (nI c)) (T := TX12) (ci := 12) (N := 45) hx hb hown hK (gY_X12 hT) rfl (h1 0 _ rfl) 25 (by decide) (hT _ gf_X12_161) rfl dX12_isClause_169 ?_
                    refine g_is (j := j) hx hb hK hS (h1 13 _ rfl) rfl (by omega) (Nat.le_of_ble_eq_true rfl) (by omega) dX12_isClause_172 (fun H126 locs c127 oq hS => ?_)
                    have h1 : gSg G b (gLM G b π μ (gR (gR (gU (gU (gU f 2 j 1) 3 j v2) 4 j (nI c)) 6 E) 13 (gS5 (nI (gNum (μ 0) n (gAll (μ 0) n (5 + 1) (gLen.getD (5 + 1) 0) 0 p).2).2.1) v2 d2 (nI o) (nI c))) g) H126 := gSg_set h1 13 c127 oq
                    refine lv_aload_n hx hb dX12_isClause_173 rfl (lv_at hl 2 rfl) ?_
                    refine lv_iconst (v := 0) hx hb dX12_isClause_174 (by decide) ?_
                    refine g_put (T := TX12) (ci := 12) (N := 45) (ty0 := tyX12) hx hb hown hK hS (gY_X12 hT) tyX12_ok nmX12 rfl (h1 0 _ rfl) 16 (by decide) (hT _ gf_X12_177) rfl rfl rfl (Nat.le_of_ble_eq_true rfl) (by omega) dX12_isClause_175 (fun H128 locs c129 oq hS => ?_)
                    have h1 : gSg G b (gLM G b π μ (gR (gR (gU (gU (gU f 2 j 1) 3 j v2) 4 j (nI c)) 6 E) 13 (gS5 (nI (gNum (μ 0) n (gAll (μ 0) n (5 + 1) (gLen.getD (5 + 1) 0) 0 p).2).2.1) v2 d2 0 (nI c))) g) H128 := gSg_set h1 0 c129 oq
                    refine lv_iload_n hx hb dX12_isClause_178 rfl (lv_at hl 1 rfl) ?_
                    refine lv_iconst (v := 2) hx hb dX12_isClause_179 (by decide) ?_
                    refine lv_icmp_ge (tgt := 201) hx hb dX12_isClause_180 (by decide) (fun c130 => ?_) (fun c130 => ?_)
                    · exact absurd c130 (by decide)
                    · refine lv_aload_n hx hb dX12_isClause_183 rfl (lv_at hl 2 rfl) ?_
                      refine lv_bipush (v := 32) hx hb dX12_isClause_184 (by decide) ?_
                      refine g_ki (g_runV (T := TX12) (ci := 12) (N := 45) (rest := []) hx hb hml hown hE hT (c_X12_is l G b π μ (gU (gU (gU f 2 j 1) 3 j v2) 4 j (nI c)) g n hn hT9 E (gNum (μ 0) n (gAll (μ 0) n (5 + 1) (gLen.getD (5 + 1) 0) 0 p).2).2.1 0 c v2 d2 (by omega) (by omega) (by omega) 32) gM_X12_is gm_X12_158 gi_X12_is gs_RX12_yX12_is_yX12_is rfl (h1 0 _ rfl) h1 rfl hl.1 ⟨rfl, rfl⟩ ⟨Nat.le_of_ble_eq_true rfl, Nat.le_of_ble_eq_true rfl⟩ ⟨Nat.zero_le _, Nat.zero_le _⟩ rfl (Nat.le_of_ble_eq_true rfl) dX12_isClause_186) hS (by intro q hq; omega) (fun r134 H131 locs q132 k133 hS => ?_)
                      obtain ⟨e9, h1⟩ := q132
                      rw [e9]
                      refine lv_if_eq (tgt := 199) hx hb dX12_isClause_189 (by decide) (fun c135 => ?_) (fun c135 => ?_)
                      · have c135 : ¬ ((gNum (μ 0) n (gAll (μ 0) n (5 + 1) (gLen.getD (5 + 1) 0) 0 p).2).2.1 < n ∧ μ 0 (gNum (μ 0) n (gAll (μ 0) n (5 + 1) (gLen.getD (5 + 1) 0) 0 p).2).2.1 = 32) := gB_0.mp c135
                        rw [if_neg c135] at h1
                        refine lv_iconst (v := 0) hx hb dX12_isClause_199 (by decide) ?_
                        have hkd : gClk (μ 0) n p = 1 := by rw [gClk, if_pos ⟨by omega, c7⟩, if_pos ⟨by omega, c76⟩]
                        have hR : gKl (μ 0) n p = (false, (gNum (μ 0) n (gAll (μ 0) n (5 + 1) (gLen.getD (5 + 1) 0) 0 p).2).2.1, 0, []) := by rw [gKl, hkd, if_neg (by decide), gClw, if_pos c116, if_pos c121, if_neg (by decide), if_neg c135]
                        rw [← hQ]
                        exact g_zret hx hb hr hlk rfl hS dX12_isClause_200 (by rw [hR, hkd]; exact ⟨rfl, _, _, _, 0, _, by omega, (gFr_u (gFr_u (gFr_u gFr_0 (by decide) (by decide)) (by decide) (by decide)) (by decide) (by decide)), gCd_0, h1, fun z9 => by first | exact Bool.noConfusion z9 | exact absurd z9 id⟩)
                      · have c135 : (gNum (μ 0) n (gAll (μ 0) n (5 + 1) (gLen.getD (5 + 1) 0) 0 p).2).2.1 < n ∧ μ 0 (gNum (μ 0) n (gAll (μ 0) n (5 + 1) (gLen.getD (5 + 1) 0) 0 p).2).2.1 = 32 := gB_1.mp c135
                        rw [if_pos c135] at h1
                        have ltc135 := c135.1
                        refine lv_aload_n hx hb dX12_isClause_192 rfl (lv_at hl 2 rfl) ?_
                        have fy136 : (gNum (μ 0) n (gAll (μ 0) n (5 + 1) (gLen.getD (5 + 1) 0) 0 p).2).2.1 + 1 ≤ (gE (μ 0) n 4 ((gNum (μ 0) n (gAll (μ 0) n (5 + 1) (gLen.getD (5 + 1) 0) 0 p).2).2.1 + 1)).2.1 ∧ (gE (μ 0) n 4 ((gNum (μ 0) n (gAll (μ 0) n (5 + 1) (gLen.getD (5 + 1) 0) 0 p).2).2.1 + 1)).2.1 ≤ n ∧ (gE (μ 0) n 4 ((gNum (μ 0) n (gAll (μ 0) n (5 + 1) (gLen.getD (5 + 1) 0) 0 p).2).2.1 + 1)).2.2.length ≤ (gE (μ 0) n 4 ((gNum (μ 0) n (gAll (μ 0) n (5 + 1) (gLen.getD (5 + 1) 0) 0 p).2).2.1 + 1)).2.1 - ((gNum (μ 0) n (gAll (μ 0) n (5 + 1) (gLen.getD (5 + 1) 0) 0 p).2).2.1 + 1) := gE_fit (μ 0) n 4 ((gNum (μ 0) n (gAll (μ 0) n (5 + 1) (gLen.getD (5 + 1) 0) 0 p).2).2.1 + 1) (by omega)
                        refine g_ki (g_runV (T := TX12) (ci := 12) (N := 45) (rest := []) hx hb hml hown hE hT (c_X12_isE_4 l G b π μ (gU (gU (gU f 2 j 1) 3 j v2) 4 j (nI c)) g n hn hT9 E ((gNum (μ 0) n (gAll (μ 0) n (5 + 1) (gLen.getD (5 + 1) 0) 0 p).2).2.1 + 1) c v2 d2 (by omega) (by omega) hbG) gM_X12_isE gm_X12_186 gi_X12_isE gs_RX12_yX12_isE_yX12_isE rfl (h1 0 _ rfl) ⟨(gOld_S hO hS (fun q9 hq9 => Nat.le_trans hbG hq9.1)), h1⟩ rfl hl.1 ⟨rfl, rfl⟩ ⟨Nat.le_of_ble_eq_true rfl, Nat.le_of_ble_eq_true rfl⟩ ⟨Nat.zero_le _, Nat.zero_le _⟩ rfl (Nat.le_of_ble_eq_true rfl) dX12_isClause_193) hS (by intro q hq; omega) (fun r140 H137 locs q138 k139 hS => ?_)
                        obtain ⟨e9, vy136, dy136, Ey136, hcy136, h1⟩ := q138
                        rw [e9]
                        refine lv_if_ne (tgt := 201) hx hb dX12_isClause_196 (by decide) (fun c141 => ?_) (fun c141 => ?_)
                        · have c141 : (gE (μ 0) n 4 ((gNum (μ 0) n (gAll (μ 0) n (5 + 1) (gLen.getD (5 + 1) 0) 0 p).2).2.1 + 1)).1 = true := gB_1.mp c141
                          refine lv_aload_n hx hb dX12_isClause_201 rfl (lv_at hl 2 rfl) ?_
                          refine g_get (v := .ref (b + 14)) (T := TX12) (ci := 12) (N := 45) hx hb hown hK (gY_X12 hT) rfl (h1 0 _ rfl) 23 (by decide) (hT _ gf_X12_51) rfl dX12_isClause_202 ?_
                          refine lv_iload_n hx hb dX12_isClause_205 rfl (lv_at hl 3 rfl) ?_
                          refine lv_aload_n hx hb dX12_isClause_206 rfl (lv_at hl 2 rfl) ?_
                          refine g_get (v := .int (nI (c + (gE (μ 0) n 4 ((gNum (μ 0) n (gAll (μ 0) n (5 + 1) (gLen.getD (5 + 1) 0) 0 p).2).2.1 + 1)).2.2.length))) (T := TX12) (ci := 12) (N := 45) hx hb hown hK (gY_X12 hT) rfl (h1 0 _ rfl) 25 (by decide) (hT _ gf_X12_161) rfl dX12_isClause_207 ?_
                          refine lv_aload_n hx hb dX12_isClause_210 rfl (lv_at hl 2 rfl) ?_
                          refine g_get (v := .ref (b + 13)) (T := TX12) (ci := 12) (N := 45) hx hb hown hK (gY_X12 hT) rfl (h1 0 _ rfl) 22 (by decide) (hT _ gf_X12_48) rfl dX12_isClause_211 ?_
                          refine lv_iload_n hx hb dX12_isClause_214 rfl (lv_at hl 3 rfl) ?_
                          refine g_ia (j := j) (v := nI c) hx hb hK (h1 13 _ rfl) rfl (by omega) (Nat.le_of_ble_eq_true rfl) (show (gU (gU (gU f 2 j 1) 3 j v2) 4 j (nI c)) 4 j = nI c from gU_e) dX12_isClause_215 ?_
                          refine lv_isub hx hb dX12_isClause_216 ?_
                          rw [show ((nI (c + (gE (μ 0) n 4 ((gNum (μ 0) n (gAll (μ 0) n (5 + 1) (gLen.getD (5 + 1) 0) 0 p).2).2.1 + 1)).2.2.length)) - (nI c) : Int32) = nI ((c + (gE (μ 0) n 4 ((gNum (μ 0) n (gAll (μ 0) n (5 + 1) (gLen.getD (5 + 1) 0) 0 p).2).2.1 + 1)).2.2.length) - c) from (gSub rfl rfl (by omega))]
                          refine g_is (j := j) hx hb hK hS (h1 14 _ rfl) rfl (by omega) (Nat.le_of_ble_eq_true rfl) (by omega) dX12_isClause_217 (fun H142 locs c143 oq hS => ?_)
                          have h1 : gSg G b (gLM G b π μ (gR (gR (gU (gU (gU (gU f 2 j 1) 3 j v2) 4 j (nI c)) 5 j (nI ((c + (gE (μ 0) n 4 ((gNum (μ 0) n (gAll (μ 0) n (5 + 1) (gLen.getD (5 + 1) 0) 0 p).2).2.1 + 1)).2.2.length) - c))) 6 Ey136) 13 (gS5 (nI (gE (μ 0) n 4 ((gNum (μ 0) n (gAll (μ 0) n (5 + 1) (gLen.getD (5 + 1) 0) 0 p).2).2.1 + 1)).2.1) vy136 dy136 (nI 0) (nI (c + (gE (μ 0) n 4 ((gNum (μ 0) n (gAll (μ 0) n (5 + 1) (gLen.getD (5 + 1) 0) 0 p).2).2.1 + 1)).2.2.length)))) g) H142 := gSg_set h1 14 c143 oq
                          refine lv_iconst (v := 1) hx hb dX12_isClause_218 (by decide) ?_
                          have hkd : gClk (μ 0) n p = 1 := by rw [gClk, if_pos ⟨by omega, c7⟩, if_pos ⟨by omega, c76⟩]
                          have hR : gKl (μ 0) n p = ((gE (μ 0) n 4 ((gNum (μ 0) n (gAll (μ 0) n (5 + 1) (gLen.getD (5 + 1) 0) 0 p).2).2.1 + 1)).1, (gE (μ 0) n 4 ((gNum (μ 0) n (gAll (μ 0) n (5 + 1) (gLen.getD (5 + 1) 0) 0 p).2).2.1 + 1)).2.1, (gNum (μ 0) n (gAll (μ 0) n (5 + 1) (gLen.getD (5 + 1) 0) 0 p).2).2.2, (gE (μ 0) n 4 ((gNum (μ 0) n (gAll (μ 0) n (5 + 1) (gLen.getD (5 + 1) 0) 0 p).2).2.1 + 1)).2.2) := by rw [gKl, hkd, if_neg (by decide), gClw, if_pos c116, if_pos c121, if_neg (by decide), if_pos c135]
                          rw [← hQ]
                          exact g_zret hx hb hr hlk rfl hS dX12_isClause_219 (by rw [hR, hkd]; exact ⟨(gB_t c141).symm, _, _, _, 0, _, by omega, (gFr_u (gFr_u (gFr_u (gFr_u gFr_0 (by decide) (by decide)) (by decide) (by decide)) (by decide) (by decide)) (by decide) (by decide)), hcy136, h1, fun _ => ⟨by rw [gU_ne (by decide), gU_ne (by decide), gU_ne (by decide), gU_e]; rfl, by rw [gU_ne (by decide), gU_ne (by decide), gU_e]; exact ev, by rw [gU_ne (by decide), gU_e], by rw [gU_e]; exact congrArg nI (by first | omega | (simp only [List.length_nil]; omega))⟩⟩)
                        · have c141 : ¬ ((gE (μ 0) n 4 ((gNum (μ 0) n (gAll (μ 0) n (5 + 1) (gLen.getD (5 + 1) 0) 0 p).2).2.1 + 1)).1 = true) := gB_0.mp c141
                          refine lv_iconst (v := 0) hx hb dX12_isClause_199 (by decide) ?_
                          have hkd : gClk (μ 0) n p = 1 := by rw [gClk, if_pos ⟨by omega, c7⟩, if_pos ⟨by omega, c76⟩]
                          have hR : gKl (μ 0) n p = ((gE (μ 0) n 4 ((gNum (μ 0) n (gAll (μ 0) n (5 + 1) (gLen.getD (5 + 1) 0) 0 p).2).2.1 + 1)).1, (gE (μ 0) n 4 ((gNum (μ 0) n (gAll (μ 0) n (5 + 1) (gLen.getD (5 + 1) 0) 0 p).2).2.1 + 1)).2.1, (gNum (μ 0) n (gAll (μ 0) n (5 + 1) (gLen.getD (5 + 1) 0) 0 p).2).2.2, (gE (μ 0) n 4 ((gNum (μ 0) n (gAll (μ 0) n (5 + 1) (gLen.getD (5 + 1) 0) 0 p).2).2.1 + 1)).2.2) := by rw [gKl, hkd, if_neg (by decide), gClw, if_pos c116, if_pos c121, if_neg (by decide), if_pos c135]
                          rw [← hQ]
                          exact g_zret hx hb hr hlk rfl hS dX12_isClause_200 (by rw [hR, hkd]; exact ⟨(gB_f c141).symm, _, _, _, 0, _, by omega, (gFr_u (gFr_u (gFr_u gFr_0 (by decide) (by decide)) (by decide) (by decide)) (by decide) (by decide)), hcy136, h1, fun z9 => by first | exact Bool.noConfusion z9 | exact absurd z9 c141⟩)
                  · have c121 : ¬ ((gNum (μ 0) n (gAll (μ 0) n (5 + 1) (gLen.getD (5 + 1) 0) 0 p).2).1 = true) := gB_0.mp c121
                    refine lv_iconst (v := 0) hx hb dX12_isClause_144 (by decide) ?_
                    have hkd : gClk (μ 0) n p = 1 := by rw [gClk, if_pos ⟨by omega, c7⟩, if_pos ⟨by omega, c76⟩]
                    have hR : gKl (μ 0) n p = (false, (gNum (μ 0) n (gAll (μ 0) n (5 + 1) (gLen.getD (5 + 1) 0) 0 p).2).2.1, 0, []) := by rw [gKl, hkd, if_neg (by decide), gClw, if_pos c116, if_neg c121]
                    rw [← hQ]
                    exact g_zret hx hb hr hlk rfl hS dX12_isClause_145 (by rw [hR, hkd]; exact ⟨rfl, _, _, _, o, _, by omega, gFr_0, gCd_0, h1, fun z9 => by first | exact Bool.noConfusion z9 | exact absurd z9 id⟩)
            · exact absurd c110 (by decide)
