set_option maxHeartbeats 4000000 in
set_option maxRecDepth 100000 in
theorem c_X11_told (l : Launch) (G : gW) (B lp : Nat) (π πk f μ α : gPS) (lk : Nat) (g : Nat → Int64) (acc : List (Nat × Nat × List Nat)) (hcl : gClo f acc) (hI : gInv π) (hlp : lp = B + 23 ∨ lp = B + 58 ∨ lp = B + 93 ∨ (B + 120 ≤ lp ∧ lp + 6 ≤ B + 156)) (n9 : Nat) (hz9 : π 15 0 = nI n9) (hn9 : n9 ≤ 6) (sn9 : Nat) (hs9 : π 15 3 = nI sn9) (ls9 : sn9 ≤ 5) (wh : Int32) : gCI l yX11_told cX11_told 2 .int (gRm 7 165) G [.ref B, .int wh] (fun H => gCW G B lp π lk πk f μ α g H) (fun r H => r = gqTold π (gLof acc) n9 sn9 wh ∧ gCW G B lp π lk πk f μ α g H) (fun q => (lp ≤ q ∧ q < lp + 6) ∨ (B ≤ q ∧ q < B + 23) ∨ (B + 36 ≤ q ∧ q < B + 58) ∨ (B + 71 ≤ q ∧ q < B + 93) ∨ (B + 106 ≤ q ∧ q < B + 120)) := by
  refine g_start (by decide) (Nat.le_of_ble_eq_true rfl) ?_
  intro pp_ ee_ s mm_ aa_ below meth cc_ ls Q hQ hX hE hP hl
  obtain ⟨hx, hb, hr, hml, hown, hT, hlk, hnm⟩ := hX
  have hK := hE.2.1
  obtain ⟨ρ, hrr, zO, h1, hk7, ⟨s4, h2⟩, ⟨πt, lt, ρt, zT⟩, zKT, ⟨ρk, hrk, zE⟩, zB, zF, ⟨γ, zN⟩, zA, zP, zG⟩ := hP
  have hS : va_S (fun q => (lp ≤ q ∧ q < lp + 6) ∨ (B ≤ q ∧ q < B + 23) ∨ (B + 36 ≤ q ∧ q < B + 58) ∨ (B + 71 ≤ q ∧ q < B + 93) ∨ (B + 106 ≤ q ∧ q < B + 120)) s.heap s.heap [] := va_S.rf
  have hl : lv_has ls 2 [(0, .ref B), (1, .int wh)] := hl
  obtain ⟨⟨n, hn, hz, h0z⟩, hki, ⟨sn, hsn, hz3, hsp⟩, ⟨pn, hpn, hz4, hpo⟩, ⟨bn, hbn, hz5, hbo⟩, hfl9⟩ := id hI
  have hd1 : lp + 6 ≤ B + 1 ∨ lp = B + 1 + 22 ∨ B + 1 + 35 ≤ lp := by omega
  have hd36 : lp + 6 ≤ B + 36 ∨ lp = B + 36 + 22 ∨ B + 36 + 35 ≤ lp := by omega
  have en : n9 = n := (nI_eq (a := n9) (b := n) (by omega) (by omega)).mp (hz9.symm.trans hz)
  subst en
  have es : sn9 = sn := (nI_eq (a := sn9) (b := sn) (by omega) (by omega)).mp (hs9.symm.trans hz3)
  subst es
  have hr5 : f 5 4 = gRs (gLof acc) (gLof acc).1 := by obtain ⟨wn, -, -, -, h9, -⟩ := gClo_w hcl; exact h9
  refine lv_iload_n hx hb dX11_told_0 rfl (lv_at hl 1 rfl) ?_
  refine lv_bipush (v := 60) hx hb dX11_told_1 (by decide) ?_
  refine lv_icmp_lt (tgt := 29) hx hb dX11_told_3 (by decide) (fun c1 => ?_) (fun c1 => ?_)
  · refine lv_iload_n hx hb dX11_told_29 rfl (lv_at hl 1 rfl) ?_
    refine lv_bipush (v := 50) hx hb dX11_told_30 (by decide) ?_
    refine lv_icmp_lt (tgt := 57) hx hb dX11_told_32 (by decide) (fun c2 => ?_) (fun c2 => ?_)
    · refine lv_iload_n hx hb dX11_told_57 rfl (lv_at hl 1 rfl) ?_
      refine lv_bipush (v := 30) hx hb dX11_told_58 (by decide) ?_
      refine lv_icmp_lt (tgt := 90) hx hb dX11_told_60 (by decide) (fun c3 => ?_) (fun c3 => ?_)
      · refine lv_iload_n hx hb dX11_told_90 rfl (lv_at hl 1 rfl) ?_
        refine lv_bipush (v := 10) hx hb dX11_told_91 (by decide) ?_
        refine lv_icmp_lt (tgt := 123) hx hb dX11_told_93 (by decide) (fun c4 => ?_) (fun c4 => ?_)
        · refine lv_iload_n hx hb dX11_told_123 rfl (lv_at hl 1 rfl) ?_
          by_cases c5 : wh = 0
          · refine lv_tableIn (off := 32) (tgt := 156) hx hb dX11_told_124 (by rw [c5]; decide) (by rw [c5]; decide) (by rw [c5]; decide) (by decide) ?_
            refine lv_aload_n hx hb dX11_told_156 rfl (lv_at hl 0 rfl) ?_
            refine g_get (v := .ref (B + 1)) (T := TX11) (ci := 11) (N := 13) hx hb hown hK (gY_X11 hT) rfl (zO 0 _ rfl) 0 (by decide) (hT _ gf_X11_12) rfl dX11_told_157 ?_
            refine g_get (v := .int (π 15 2)) (T := TX9) (ci := 9) (N := 16) hx hb hown hK (gY_X9 hT) rfl (h1 0 _ rfl) 14 (by decide) (hT _ gf_X11_130) rfl dX11_told_160 ?_
            rw [← hQ]
            exact g_iret hx hb hr hlk hS dX11_told_163 ⟨by rw [gToldC_e, gToldC, if_pos c1, if_pos c2, if_pos c3, if_pos c4, if_pos c5], _, hrr, zO, h1, hk7, ⟨_, h2⟩, ⟨_, _, _, zT⟩, zKT, ⟨_, hrk, zE⟩, zB, zF, ⟨_, zN⟩, zA, zP, zG⟩
          · skip
            by_cases c6 : wh = 1
            · refine lv_tableIn (off := 40) (tgt := 164) hx hb dX11_told_124 (by rw [c6]; decide) (by rw [c6]; decide) (by rw [c6]; decide) (by decide) ?_
              refine lv_aload_n hx hb dX11_told_164 rfl (lv_at hl 0 rfl) ?_
              refine g_get (v := .ref (B + 1)) (T := TX11) (ci := 11) (N := 13) hx hb hown hK (gY_X11 hT) rfl (zO 0 _ rfl) 0 (by decide) (hT _ gf_X11_12) rfl dX11_told_165 ?_
              refine g_get (v := .ref lp) (T := TX9) (ci := 9) (N := 16) hx hb hown hK (gY_X9 hT) rfl (h1 0 _ rfl) 15 (by decide) (hT _ gf_X11_120) rfl dX11_told_168 ?_
              refine g_get (v := .int (f 5 4)) (T := TX5) (ci := 5) (N := 10) hx hb hown hK (gY_X5 hT) rfl (h2 0 _ rfl) 9 (by decide) (hT _ gf_X11_133) rfl dX11_told_171 ?_
              rw [hr5]
              rw [← hQ]
              exact g_iret hx hb hr hlk hS dX11_told_174 ⟨by rw [gToldC_e, gToldC, if_pos c1, if_pos c2, if_pos c3, if_pos c4, if_neg c5, if_pos c6], _, hrr, zO, h1, hk7, ⟨_, h2⟩, ⟨_, _, _, zT⟩, zKT, ⟨_, hrk, zE⟩, zB, zF, ⟨_, zN⟩, zA, zP, zG⟩
            · skip
              by_cases c7 : wh = 2
              · refine lv_tableIn (off := 51) (tgt := 175) hx hb dX11_told_124 (by rw [c7]; decide) (by rw [c7]; decide) (by rw [c7]; decide) (by decide) ?_
                refine lv_aload_n hx hb dX11_told_175 rfl (lv_at hl 0 rfl) ?_
                refine g_get (v := .ref (B + 1)) (T := TX11) (ci := 11) (N := 13) hx hb hown hK (gY_X11 hT) rfl (zO 0 _ rfl) 0 (by decide) (hT _ gf_X11_12) rfl dX11_told_176 ?_
                refine g_get (v := .int (π 15 1)) (T := TX9) (ci := 9) (N := 16) hx hb hown hK (gY_X9 hT) rfl (h1 0 _ rfl) 13 (by decide) (hT _ gf_X11_136) rfl dX11_told_179 ?_
                rw [← hQ]
                exact g_iret hx hb hr hlk hS dX11_told_182 ⟨by rw [gToldC_e, gToldC, if_pos c1, if_pos c2, if_pos c3, if_pos c4, if_neg c5, if_neg c6, if_pos c7], _, hrr, zO, h1, hk7, ⟨_, h2⟩, ⟨_, _, _, zT⟩, zKT, ⟨_, hrk, zE⟩, zB, zF, ⟨_, zN⟩, zA, zP, zG⟩
              · skip
                by_cases c8 : wh = 3
                · refine lv_tableIn (off := 59) (tgt := 183) hx hb dX11_told_124 (by rw [c8]; decide) (by rw [c8]; decide) (by rw [c8]; decide) (by decide) ?_
                  refine lv_aload_n hx hb dX11_told_183 rfl (lv_at hl 0 rfl) ?_
                  refine g_ki (g_runV (T := TX11) (ci := 11) (N := 13) (rest := []) hx hb hml hown hE hT (c_X11_willing l G B lp π ρ f μ acc hcl hlp n9 hz hn hki) gM_X11_willing gm_X11_139 gi_X11_willing gs_RX11_yX11_willing_yX11_willing rfl (zO 0 _ rfl) ⟨zO, h1, hk7, _, h2⟩ rfl hl.1 ⟨rfl, rfl⟩ ⟨Nat.le_of_ble_eq_true rfl, Nat.le_of_ble_eq_true rfl⟩ ⟨Nat.zero_le _, Nat.zero_le _⟩ rfl (Nat.le_of_ble_eq_true rfl) dX11_told_184) hS (by intro q hq; omega) (fun r12 H9 locs q10 k11 hS => ?_)
                  obtain ⟨e9, h1, hk7, s4, h2⟩ := q10
                  rw [e9]
                  have zO := gSg_free zO k11 (by intro k hk q; simp only [List.length_cons, List.length_nil] at hk; omega)
                  have zT := gSg_free zT k11 (by intro k hk q; simp only [List.length_cons, List.length_nil] at hk; omega)
                  have zKT := gSg_free zKT k11 (by intro k hk q; simp only [List.length_cons, List.length_nil] at hk; omega)
                  have zE := gSg_free zE k11 (by intro k hk q; simp only [List.length_cons, List.length_nil] at hk; omega)
                  have zB := gSg_free zB k11 (by intro k hk q; simp only [List.length_cons, List.length_nil] at hk; omega)
                  have zF := gSg_free zF k11 (by intro k hk q; simp only [List.length_cons, List.length_nil] at hk; omega)
                  have zN := gSg_free zN k11 (by intro k hk q; simp only [List.length_cons, List.length_nil] at hk; omega)
                  have zA := gSg_free zA k11 (by intro k hk q; simp only [List.length_cons, List.length_nil] at hk; omega)
                  have zP := gSg_free zP k11 (by intro k hk q; simp only [List.length_cons, List.length_nil] at hk; omega)
                  have zG := gRows_free zG k11 (by intro k hk q; omega)
                  rw [← hQ]
                  exact g_iret hx hb hr hlk hS dX11_told_187 ⟨by rw [gToldC_e, gToldC, if_pos c1, if_pos c2, if_pos c3, if_pos c4, if_neg c5, if_neg c6, if_neg c7, if_pos c8], _, hrr, zO, h1, hk7, ⟨_, h2⟩, ⟨_, _, _, zT⟩, zKT, ⟨_, hrk, zE⟩, zB, zF, ⟨_, zN⟩, zA, zP, zG⟩
                · skip
                  have tc5 := lv_neT (k := 0) (a := 0) c5 (by decide)
                  have tc6 := lv_neT (k := 1) (a := 1) c6 (by decide)
                  have tc7 := lv_neT (k := 2) (a := 2) c7 (by decide)
                  have tc8 := lv_neT (k := 3) (a := 3) c8 (by decide)
                  refine lv_tableOut (tgt := 188) hx hb dX11_told_124 (by omega) (by decide) ?_
                  refine lv_iconst (v := (-1)) hx hb dX11_told_188 (by decide) ?_
                  rw [← hQ]
                  exact g_iret hx hb hr hlk hS dX11_told_189 ⟨by rw [gToldC_e, gToldC, if_pos c1, if_pos c2, if_pos c3, if_pos c4, if_neg c5, if_neg c6, if_neg c7, if_neg c8], _, hrr, zO, h1, hk7, ⟨_, h2⟩, ⟨_, _, _, zT⟩, zKT, ⟨_, hrk, zE⟩, zB, zF, ⟨_, zN⟩, zA, zP, zG⟩
        · refine lv_iload_n hx hb dX11_told_96 rfl (lv_at hl 1 rfl) ?_
          refine lv_bipush (v := 10) hx hb dX11_told_97 (by decide) ?_
          refine lv_isub hx hb dX11_told_99 ?_
          refine g_ki (g_runS (rest := []) hx hb hml hown hE hT (c_X11_isWord l G (wh - 10)) gM_X11_isWord gm_X11_98 gt_X11_isWord trivial rfl hl.1 ⟨rfl, rfl⟩ ⟨Nat.le_of_ble_eq_true rfl, Nat.le_of_ble_eq_true rfl⟩ ⟨Nat.zero_le _, Nat.zero_le _⟩ rfl (Nat.le_of_ble_eq_true rfl) dX11_told_100) hS (fun _ h => h.elim) (fun r16 H13 locs q14 k15 hS => ?_)
          subst q14
          have zO := gSg_free zO k15 (by intro k hk q; simp only [List.length_cons, List.length_nil] at hk; omega)
          have h1 := gSg_free h1 k15 (by intro k hk q; simp only [List.length_cons, List.length_nil] at hk; omega)
          have hk7 := gSg_free hk7 k15 (by intro k hk q; simp only [List.length_cons, List.length_nil] at hk; omega)
          have h2 := gSg_free h2 k15 (by intro k hk q; simp only [List.length_cons, List.length_nil] at hk; omega)
          have zT := gSg_free zT k15 (by intro k hk q; simp only [List.length_cons, List.length_nil] at hk; omega)
          have zKT := gSg_free zKT k15 (by intro k hk q; simp only [List.length_cons, List.length_nil] at hk; omega)
          have zE := gSg_free zE k15 (by intro k hk q; simp only [List.length_cons, List.length_nil] at hk; omega)
          have zB := gSg_free zB k15 (by intro k hk q; simp only [List.length_cons, List.length_nil] at hk; omega)
          have zF := gSg_free zF k15 (by intro k hk q; simp only [List.length_cons, List.length_nil] at hk; omega)
          have zN := gSg_free zN k15 (by intro k hk q; simp only [List.length_cons, List.length_nil] at hk; omega)
          have zA := gSg_free zA k15 (by intro k hk q; simp only [List.length_cons, List.length_nil] at hk; omega)
          have zP := gSg_free zP k15 (by intro k hk q; simp only [List.length_cons, List.length_nil] at hk; omega)
          have zG := gRows_free zG k15 (by intro k hk q; omega)
          refine lv_if_eq (tgt := 121) hx hb dX11_told_103 (by decide) (fun c17 => ?_) (fun c17 => ?_)
          · have c17 : ¬ (0 ≤ wh - 10 ∧ wh - 10 ≤ 11) := gB_0.mp c17
            refine lv_iconst (v := (-1)) hx hb dX11_told_121 (by decide) ?_
            rw [← hQ]
            exact g_iret hx hb hr hlk hS dX11_told_122 ⟨by rw [gToldC_e, gToldC, if_pos c1, if_pos c2, if_pos c3, if_neg c4, if_neg c17], _, hrr, zO, h1, hk7, ⟨_, h2⟩, ⟨_, _, _, zT⟩, zKT, ⟨_, hrk, zE⟩, zB, zF, ⟨_, zN⟩, zA, zP, zG⟩
          · have c17 : 0 ≤ wh - 10 ∧ wh - 10 ≤ 11 := gB_1.mp c17
            obtain ⟨k, hk, ek⟩ := gIw (M := 11) (n := 11) rfl (by decide) c17
            refine lv_aload_n hx hb dX11_told_106 rfl (lv_at hl 0 rfl) ?_
            refine g_get (v := .ref (B + 1)) (T := TX11) (ci := 11) (N := 13) hx hb hown hK (gY_X11 hT) rfl (zO 0 _ rfl) 0 (by decide) (hT _ gf_X11_12) rfl dX11_told_107 ?_
            refine g_get (v := .ref (B + 1 + 2)) (T := TX9) (ci := 9) (N := 16) hx hb hown hK (gY_X9 hT) rfl (h1 0 _ rfl) 1 (by decide) (hT _ gf_X11_101) rfl dX11_told_110 ?_
            refine lv_iload_n hx hb dX11_told_113 rfl (lv_at hl 1 rfl) ?_
            refine lv_bipush (v := 10) hx hb dX11_told_114 (by decide) ?_
            refine lv_isub hx hb dX11_told_116 ?_
            refine g_ia (j := k) (v := π 0 k) hx hb hK (h1 2 _ rfl) ek (by omega) (Nat.le_of_ble_eq_true rfl) rfl dX11_told_117 ?_
            refine lv_goto (tgt := 122) hx hb dX11_told_118 (by decide) ?_
            rw [← hQ]
            exact g_iret hx hb hr hlk hS dX11_told_122 ⟨by rw [gToldC_e, gToldC, if_pos c1, if_pos c2, if_pos c3, if_neg c4, if_pos c17, ek, nI_clamp (show k < 2 ^ 31 by omega)], _, hrr, zO, h1, hk7, ⟨_, h2⟩, ⟨_, _, _, zT⟩, zKT, ⟨_, hrk, zE⟩, zB, zF, ⟨_, zN⟩, zA, zP, zG⟩
      · refine lv_iload_n hx hb dX11_told_63 rfl (lv_at hl 1 rfl) ?_
        refine lv_bipush (v := 30) hx hb dX11_told_64 (by decide) ?_
        refine lv_isub hx hb dX11_told_66 ?_
        refine g_ki (g_runS (rest := []) hx hb hml hown hE hT (c_X11_isWord l G (wh - 30)) gM_X11_isWord gm_X11_98 gt_X11_isWord trivial rfl hl.1 ⟨rfl, rfl⟩ ⟨Nat.le_of_ble_eq_true rfl, Nat.le_of_ble_eq_true rfl⟩ ⟨Nat.zero_le _, Nat.zero_le _⟩ rfl (Nat.le_of_ble_eq_true rfl) dX11_told_67) hS (fun _ h => h.elim) (fun r21 H18 locs q19 k20 hS => ?_)
        subst q19
        have zO := gSg_free zO k20 (by intro k hk q; simp only [List.length_cons, List.length_nil] at hk; omega)
        have h1 := gSg_free h1 k20 (by intro k hk q; simp only [List.length_cons, List.length_nil] at hk; omega)
        have hk7 := gSg_free hk7 k20 (by intro k hk q; simp only [List.length_cons, List.length_nil] at hk; omega)
        have h2 := gSg_free h2 k20 (by intro k hk q; simp only [List.length_cons, List.length_nil] at hk; omega)
        have zT := gSg_free zT k20 (by intro k hk q; simp only [List.length_cons, List.length_nil] at hk; omega)
        have zKT := gSg_free zKT k20 (by intro k hk q; simp only [List.length_cons, List.length_nil] at hk; omega)
        have zE := gSg_free zE k20 (by intro k hk q; simp only [List.length_cons, List.length_nil] at hk; omega)
        have zB := gSg_free zB k20 (by intro k hk q; simp only [List.length_cons, List.length_nil] at hk; omega)
        have zF := gSg_free zF k20 (by intro k hk q; simp only [List.length_cons, List.length_nil] at hk; omega)
        have zN := gSg_free zN k20 (by intro k hk q; simp only [List.length_cons, List.length_nil] at hk; omega)
        have zA := gSg_free zA k20 (by intro k hk q; simp only [List.length_cons, List.length_nil] at hk; omega)
        have zP := gSg_free zP k20 (by intro k hk q; simp only [List.length_cons, List.length_nil] at hk; omega)
        have zG := gRows_free zG k20 (by intro k hk q; omega)
        refine lv_if_eq (tgt := 88) hx hb dX11_told_70 (by decide) (fun c22 => ?_) (fun c22 => ?_)
        · have c22 : ¬ (0 ≤ wh - 30 ∧ wh - 30 ≤ 11) := gB_0.mp c22
          refine lv_iconst (v := (-1)) hx hb dX11_told_88 (by decide) ?_
          rw [← hQ]
          exact g_iret hx hb hr hlk hS dX11_told_89 ⟨by rw [gToldC_e, gToldC, if_pos c1, if_pos c2, if_neg c3, if_neg c22], _, hrr, zO, h1, hk7, ⟨_, h2⟩, ⟨_, _, _, zT⟩, zKT, ⟨_, hrk, zE⟩, zB, zF, ⟨_, zN⟩, zA, zP, zG⟩
        · have c22 : 0 ≤ wh - 30 ∧ wh - 30 ≤ 11 := gB_1.mp c22
          obtain ⟨k, hk, ek⟩ := gIw (M := 11) (n := 11) rfl (by decide) c22
          refine lv_aload_n hx hb dX11_told_73 rfl (lv_at hl 0 rfl) ?_
          refine g_get (v := .ref (B + 1)) (T := TX11) (ci := 11) (N := 13) hx hb hown hK (gY_X11 hT) rfl (zO 0 _ rfl) 0 (by decide) (hT _ gf_X11_12) rfl dX11_told_74 ?_
          refine g_get (v := .ref (B + 1 + 3)) (T := TX9) (ci := 9) (N := 16) hx hb hown hK (gY_X9 hT) rfl (h1 0 _ rfl) 2 (by decide) (hT _ gf_X11_104) rfl dX11_told_77 ?_
          refine lv_iload_n hx hb dX11_told_80 rfl (lv_at hl 1 rfl) ?_
          refine lv_bipush (v := 30) hx hb dX11_told_81 (by decide) ?_
          refine lv_isub hx hb dX11_told_83 ?_
          refine g_ia (j := k) (v := π 1 k) hx hb hK (h1 3 _ rfl) ek (by omega) (Nat.le_of_ble_eq_true rfl) rfl dX11_told_84 ?_
          refine lv_goto (tgt := 89) hx hb dX11_told_85 (by decide) ?_
          rw [← hQ]
          exact g_iret hx hb hr hlk hS dX11_told_89 ⟨by rw [gToldC_e, gToldC, if_pos c1, if_pos c2, if_neg c3, if_pos c22, ek, nI_clamp (show k < 2 ^ 31 by omega)], _, hrr, zO, h1, hk7, ⟨_, h2⟩, ⟨_, _, _, zT⟩, zKT, ⟨_, hrk, zE⟩, zB, zF, ⟨_, zN⟩, zA, zP, zG⟩
    · refine lv_iload_n hx hb dX11_told_35 rfl (lv_at hl 1 rfl) ?_
      refine lv_bipush (v := 50) hx hb dX11_told_36 (by decide) ?_
      refine lv_isub hx hb dX11_told_38 ?_
      refine lv_bipush (v := 8) hx hb dX11_told_39 (by decide) ?_
      refine lv_icmp_ge (tgt := 55) hx hb dX11_told_41 (by decide) (fun c23 => ?_) (fun c23 => ?_)
      · refine lv_iconst (v := (-1)) hx hb dX11_told_55 (by decide) ?_
        rw [← hQ]
        exact g_iret hx hb hr hlk hS dX11_told_56 ⟨by rw [gToldC_e, gToldC, if_pos c1, if_neg c2, if_neg (Int32.not_lt.mpr c23)], _, hrr, zO, h1, hk7, ⟨_, h2⟩, ⟨_, _, _, zT⟩, zKT, ⟨_, hrk, zE⟩, zB, zF, ⟨_, zN⟩, zA, zP, zG⟩
      · obtain ⟨k, hk, ek, -⟩ := gW50 c2 c1
        have hk8 : k < 8 := by have h8 : wh - 50 < 8 := (Int32.not_le.mp c23); rw [ek] at h8; exact (gLt (y := 8) (b := 8) rfl rfl (by omega) (by omega)).mp h8
        refine lv_aload_n hx hb dX11_told_44 rfl (lv_at hl 0 rfl) ?_
        refine lv_iload_n hx hb dX11_told_45 rfl (lv_at hl 1 rfl) ?_
        refine lv_bipush (v := 50) hx hb dX11_told_46 (by decide) ?_
        refine lv_isub hx hb dX11_told_48 ?_
        rw [show (wh - 50 : Int32) = nI k from ek]
        refine g_ki (g_runV (T := TX11) (ci := 11) (N := 13) (rest := []) hx hb hml hown hE hT (c_X11_comesOf l G B lp π ρ f μ acc hcl hlp n9 hz hn hki sn9 hz3 hsn pn hz4 hpn bn hz5 hbn k (by omega)) gM_X11_comesOf gm_X11_127 gi_X11_comesOf gs_RX11_yX11_comesOf_yX11_comesOf rfl (zO 0 _ rfl) ⟨zO, ⟨h1, hk7, _, h2⟩, ⟨_, _, _, zT⟩, zKT⟩ rfl hl.1 ⟨rfl, rfl⟩ ⟨Nat.le_of_ble_eq_true rfl, Nat.le_of_ble_eq_true rfl⟩ ⟨Nat.zero_le _, Nat.zero_le _⟩ rfl (Nat.le_of_ble_eq_true rfl) dX11_told_49) hS (by intro q hq; omega) (fun r27 H24 locs q25 k26 hS => ?_)
        obtain ⟨e9, ⟨h1, hk7, s4, h2⟩, ⟨πt, lt, ρt, zT⟩, zKT⟩ := q25
        rw [e9]
        have zO := gSg_free zO k26 (by intro k hk q; simp only [List.length_cons, List.length_nil] at hk; omega)
        have zE := gSg_free zE k26 (by intro k hk q; simp only [List.length_cons, List.length_nil] at hk; omega)
        have zB := gSg_free zB k26 (by intro k hk q; simp only [List.length_cons, List.length_nil] at hk; omega)
        have zF := gSg_free zF k26 (by intro k hk q; simp only [List.length_cons, List.length_nil] at hk; omega)
        have zN := gSg_free zN k26 (by intro k hk q; simp only [List.length_cons, List.length_nil] at hk; omega)
        have zA := gSg_free zA k26 (by intro k hk q; simp only [List.length_cons, List.length_nil] at hk; omega)
        have zP := gSg_free zP k26 (by intro k hk q; simp only [List.length_cons, List.length_nil] at hk; omega)
        have zG := gRows_free zG k26 (by intro k hk q; omega)
        refine lv_goto (tgt := 56) hx hb dX11_told_52 (by decide) ?_
        rw [← hQ]
        exact g_iret hx hb hr hlk hS dX11_told_56 ⟨by rw [gToldC_e, gToldC, if_pos c1, if_neg c2, if_pos (Int32.not_le.mp c23), ek, nI_clamp (show k < 2 ^ 31 by omega)], _, hrr, zO, h1, hk7, ⟨_, h2⟩, ⟨_, _, _, zT⟩, zKT, ⟨_, hrk, zE⟩, zB, zF, ⟨_, zN⟩, zA, zP, zG⟩
  · refine lv_iload_n hx hb dX11_told_6 rfl (lv_at hl 1 rfl) ?_
    refine lv_bipush (v := 60) hx hb dX11_told_7 (by decide) ?_
    refine lv_isub hx hb dX11_told_9 ?_
    refine g_ki (g_runS (rest := []) hx hb hml hown hE hT (c_X11_isWord l G (wh - 60)) gM_X11_isWord gm_X11_98 gt_X11_isWord trivial rfl hl.1 ⟨rfl, rfl⟩ ⟨Nat.le_of_ble_eq_true rfl, Nat.le_of_ble_eq_true rfl⟩ ⟨Nat.zero_le _, Nat.zero_le _⟩ rfl (Nat.le_of_ble_eq_true rfl) dX11_told_10) hS (fun _ h => h.elim) (fun r31 H28 locs q29 k30 hS => ?_)
    subst q29
    have zO := gSg_free zO k30 (by intro k hk q; simp only [List.length_cons, List.length_nil] at hk; omega)
    have h1 := gSg_free h1 k30 (by intro k hk q; simp only [List.length_cons, List.length_nil] at hk; omega)
    have hk7 := gSg_free hk7 k30 (by intro k hk q; simp only [List.length_cons, List.length_nil] at hk; omega)
    have h2 := gSg_free h2 k30 (by intro k hk q; simp only [List.length_cons, List.length_nil] at hk; omega)
    have zT := gSg_free zT k30 (by intro k hk q; simp only [List.length_cons, List.length_nil] at hk; omega)
    have zKT := gSg_free zKT k30 (by intro k hk q; simp only [List.length_cons, List.length_nil] at hk; omega)
    have zE := gSg_free zE k30 (by intro k hk q; simp only [List.length_cons, List.length_nil] at hk; omega)
    have zB := gSg_free zB k30 (by intro k hk q; simp only [List.length_cons, List.length_nil] at hk; omega)
    have zF := gSg_free zF k30 (by intro k hk q; simp only [List.length_cons, List.length_nil] at hk; omega)
    have zN := gSg_free zN k30 (by intro k hk q; simp only [List.length_cons, List.length_nil] at hk; omega)
    have zA := gSg_free zA k30 (by intro k hk q; simp only [List.length_cons, List.length_nil] at hk; omega)
    have zP := gSg_free zP k30 (by intro k hk q; simp only [List.length_cons, List.length_nil] at hk; omega)
    have zG := gRows_free zG k30 (by intro k hk q; omega)
    refine lv_if_eq (tgt := 27) hx hb dX11_told_13 (by decide) (fun c32 => ?_) (fun c32 => ?_)
    · have c32 : ¬ (0 ≤ wh - 60 ∧ wh - 60 ≤ 11) := gB_0.mp c32
      refine lv_iconst (v := (-1)) hx hb dX11_told_27 (by decide) ?_
      rw [← hQ]
      exact g_iret hx hb hr hlk hS dX11_told_28 ⟨by rw [gToldC_e, gToldC, if_neg c1, if_neg c32], _, hrr, zO, h1, hk7, ⟨_, h2⟩, ⟨_, _, _, zT⟩, zKT, ⟨_, hrk, zE⟩, zB, zF, ⟨_, zN⟩, zA, zP, zG⟩
    · have c32 : 0 ≤ wh - 60 ∧ wh - 60 ≤ 11 := gB_1.mp c32
      obtain ⟨k, hk, ek⟩ := gIw (M := 11) (n := 11) rfl (by decide) c32
      refine lv_aload_n hx hb dX11_told_16 rfl (lv_at hl 0 rfl) ?_
      refine lv_iload_n hx hb dX11_told_17 rfl (lv_at hl 1 rfl) ?_
      refine lv_bipush (v := 60) hx hb dX11_told_18 (by decide) ?_
      refine lv_isub hx hb dX11_told_20 ?_
      rw [show (wh - 60 : Int32) = nI k from ek]
      refine g_ki (g_runV (T := TX11) (ci := 11) (N := 13) (rest := []) hx hb hml hown hE hT (c_X11_cheersOf l G B lp π ρ f μ acc hcl hlp n9 hz hn hki sn9 hz3 hsn pn hz4 hpn bn hz5 hbn hsp (gRho_3 hrr hz3 hsn) k (by omega)) gM_X11_cheersOf gm_X11_124 gi_X11_cheersOf gs_RX11_yX11_cheersOf_yX11_cheersOf rfl (zO 0 _ rfl) ⟨zO, ⟨h1, hk7, _, h2⟩, ⟨_, _, _, zT⟩, zKT⟩ rfl hl.1 ⟨rfl, rfl⟩ ⟨Nat.le_of_ble_eq_true rfl, Nat.le_of_ble_eq_true rfl⟩ ⟨Nat.zero_le _, Nat.zero_le _⟩ rfl (Nat.le_of_ble_eq_true rfl) dX11_told_21) hS (by intro q hq; omega) (fun r36 H33 locs q34 k35 hS => ?_)
      obtain ⟨e9, ⟨h1, hk7, s4, h2⟩, ⟨πt, lt, ρt, zT⟩, zKT⟩ := q34
      rw [e9]
      have zO := gSg_free zO k35 (by intro k hk q; simp only [List.length_cons, List.length_nil] at hk; omega)
      have zE := gSg_free zE k35 (by intro k hk q; simp only [List.length_cons, List.length_nil] at hk; omega)
      have zB := gSg_free zB k35 (by intro k hk q; simp only [List.length_cons, List.length_nil] at hk; omega)
      have zF := gSg_free zF k35 (by intro k hk q; simp only [List.length_cons, List.length_nil] at hk; omega)
      have zN := gSg_free zN k35 (by intro k hk q; simp only [List.length_cons, List.length_nil] at hk; omega)
      have zA := gSg_free zA k35 (by intro k hk q; simp only [List.length_cons, List.length_nil] at hk; omega)
      have zP := gSg_free zP k35 (by intro k hk q; simp only [List.length_cons, List.length_nil] at hk; omega)
      have zG := gRows_free zG k35 (by intro k hk q; omega)
      refine lv_goto (tgt := 28) hx hb dX11_told_24 (by decide) ?_
      rw [← hQ]
      exact g_iret hx hb hr hlk hS dX11_told_28 ⟨by rw [gToldC_e, gToldC, if_neg c1, if_pos c32, ek, nI_clamp (show k < 2 ^ 31 by omega)], _, hrr, zO, h1, hk7, ⟨_, h2⟩, ⟨_, _, _, zT⟩, zKT, ⟨_, hrk, zE⟩, zB, zF, ⟨_, zN⟩, zA, zP, zG⟩

set_option maxHeartbeats 4000000 in
set_option maxRecDepth 100000 in
theorem c_X11_on (l : Launch) (G : gW) (B lp : Nat) (π πk f μ α : gPS) (lk : Nat) (g : Nat → Int64) (acc : List (Nat × Nat × List Nat)) (hcl : gClo f acc) (hI : gInv π) (hlp : lp = B + 23 ∨ lp = B + 58 ∨ lp = B + 93 ∨ (B + 120 ≤ lp ∧ lp + 6 ≤ B + 156)) (n9 : Nat) (hz9 : π 15 0 = nI n9) (hn9 : n9 ≤ 6) (m wh : Int32) : gCI l yX11_on cX11_on 5 .int (gRm 6 143) G [.ref B, .int m, .int wh] (fun H => gCW G B lp π lk πk f μ α g H) (fun r H => r = gqOn π (gLof acc) n9 m wh ∧ gCW G B lp π lk πk f μ α g H) (fun q => (lp ≤ q ∧ q < lp + 6) ∨ (B ≤ q ∧ q < B + 23) ∨ (B + 36 ≤ q ∧ q < B + 58) ∨ (B + 71 ≤ q ∧ q < B + 93) ∨ (B + 106 ≤ q ∧ q < B + 120)) := by
  refine g_start (by decide) (Nat.le_of_ble_eq_true rfl) ?_
  intro pp_ ee_ s mm_ aa_ below meth cc_ ls Q hQ hX hE hP hl
  obtain ⟨hx, hb, hr, hml, hown, hT, hlk, hnm⟩ := hX
  have hK := hE.2.1
  obtain ⟨ρ, hrr, zO, h1, hk7, ⟨s4, h2⟩, ⟨πt, lt, ρt, zT⟩, zKT, ⟨ρk, hrk, zE⟩, zB, zF, ⟨γ, zN⟩, zA, zP, zG⟩ := hP
  have hS : va_S (fun q => (lp ≤ q ∧ q < lp + 6) ∨ (B ≤ q ∧ q < B + 23) ∨ (B + 36 ≤ q ∧ q < B + 58) ∨ (B + 71 ≤ q ∧ q < B + 93) ∨ (B + 106 ≤ q ∧ q < B + 120)) s.heap s.heap [] := va_S.rf
  have hl : lv_has ls 5 [(0, .ref B), (1, .int m), (2, .int wh)] := hl
  obtain ⟨⟨n, hn, hz, h0z⟩, hki, ⟨sn, hsn, hz3, hsp⟩, ⟨pn, hpn, hz4, hpo⟩, ⟨bn, hbn, hz5, hbo⟩, hfl9⟩ := id hI
  have hd1 : lp + 6 ≤ B + 1 ∨ lp = B + 1 + 22 ∨ B + 1 + 35 ≤ lp := by omega
  have hd36 : lp + 6 ≤ B + 36 ∨ lp = B + 36 + 22 ∨ B + 36 + 35 ≤ lp := by omega
  have en : n9 = n := (nI_eq (a := n9) (b := n) (by omega) (by omega)).mp (hz9.symm.trans hz)
  subst en
  refine lv_aload_n hx hb dX11_on_0 rfl (lv_at hl 0 rfl) ?_
  refine lv_iload_n hx hb dX11_on_1 rfl (lv_at hl 2 rfl) ?_
  refine lv_bipush (v := 10) hx hb dX11_on_2 (by decide) ?_
  refine lv_isub hx hb dX11_on_4 ?_
  refine g_ki (g_runV (T := TX11) (ci := 11) (N := 13) (rest := []) hx hb hml hown hE hT (c_X11_isPigeon l G B lp π ρ μ n9 hz (by omega) (wh - 10)) gM_X11_isPigeon gm_X11_69 gi_X11_isPigeon gs_RX11_yX11_isPigeon_yX11_isPigeon rfl (zO 0 _ rfl) ⟨zO, h1⟩ rfl hl.1 ⟨rfl, rfl⟩ ⟨Nat.le_of_ble_eq_true rfl, Nat.le_of_ble_eq_true rfl⟩ ⟨Nat.zero_le _, Nat.zero_le _⟩ rfl (Nat.le_of_ble_eq_true rfl) dX11_on_5) hS (fun _ h => h.elim) (fun r4 H1 locs q2 k3 hS => ?_)
  subst q2
  have zO := gSg_free zO k3 (by intro k hk q; simp only [List.length_cons, List.length_nil] at hk; omega)
  have h1 := gSg_free h1 k3 (by intro k hk q; simp only [List.length_cons, List.length_nil] at hk; omega)
  have hk7 := gSg_free hk7 k3 (by intro k hk q; simp only [List.length_cons, List.length_nil] at hk; omega)
  have h2 := gSg_free h2 k3 (by intro k hk q; simp only [List.length_cons, List.length_nil] at hk; omega)
  have zT := gSg_free zT k3 (by intro k hk q; simp only [List.length_cons, List.length_nil] at hk; omega)
  have zKT := gSg_free zKT k3 (by intro k hk q; simp only [List.length_cons, List.length_nil] at hk; omega)
  have zE := gSg_free zE k3 (by intro k hk q; simp only [List.length_cons, List.length_nil] at hk; omega)
  have zB := gSg_free zB k3 (by intro k hk q; simp only [List.length_cons, List.length_nil] at hk; omega)
  have zF := gSg_free zF k3 (by intro k hk q; simp only [List.length_cons, List.length_nil] at hk; omega)
  have zN := gSg_free zN k3 (by intro k hk q; simp only [List.length_cons, List.length_nil] at hk; omega)
  have zA := gSg_free zA k3 (by intro k hk q; simp only [List.length_cons, List.length_nil] at hk; omega)
  have zP := gSg_free zP k3 (by intro k hk q; simp only [List.length_cons, List.length_nil] at hk; omega)
  have zG := gRows_free zG k3 (by intro k hk q; omega)
  refine lv_istore_n (lv' := [(3, .int (gB (0 ≤ wh - 10 ∧ wh - 10 < π 15 0))), (0, .ref B), (1, .int m), (2, .int wh)]) hx hb dX11_on_8 rfl hl (by decide) rfl (fun ls hl => ?_)
  refine lv_aload_n hx hb dX11_on_9 rfl (lv_at hl 1 rfl) ?_
  refine lv_iload_n hx hb dX11_on_10 rfl (lv_at hl 3 rfl) ?_
  refine lv_bipush (v := 20) hx hb dX11_on_11 (by decide) ?_
  refine lv_isub hx hb dX11_on_13 ?_
  refine g_ki (g_runV (T := TX11) (ci := 11) (N := 13) (rest := []) hx hb hml hown hE hT (c_X11_isPigeon l G B lp π ρ μ n9 hz (by omega) (wh - 20)) gM_X11_isPigeon gm_X11_69 gi_X11_isPigeon gs_RX11_yX11_isPigeon_yX11_isPigeon rfl (zO 0 _ rfl) ⟨zO, h1⟩ rfl hl.1 ⟨rfl, rfl⟩ ⟨Nat.le_of_ble_eq_true rfl, Nat.le_of_ble_eq_true rfl⟩ ⟨Nat.zero_le _, Nat.zero_le _⟩ rfl (Nat.le_of_ble_eq_true rfl) dX11_on_14) hS (fun _ h => h.elim) (fun r8 H5 locs q6 k7 hS => ?_)
  subst q6
  have zO := gSg_free zO k7 (by intro k hk q; simp only [List.length_cons, List.length_nil] at hk; omega)
  have h1 := gSg_free h1 k7 (by intro k hk q; simp only [List.length_cons, List.length_nil] at hk; omega)
  have hk7 := gSg_free hk7 k7 (by intro k hk q; simp only [List.length_cons, List.length_nil] at hk; omega)
  have h2 := gSg_free h2 k7 (by intro k hk q; simp only [List.length_cons, List.length_nil] at hk; omega)
  have zT := gSg_free zT k7 (by intro k hk q; simp only [List.length_cons, List.length_nil] at hk; omega)
  have zKT := gSg_free zKT k7 (by intro k hk q; simp only [List.length_cons, List.length_nil] at hk; omega)
  have zE := gSg_free zE k7 (by intro k hk q; simp only [List.length_cons, List.length_nil] at hk; omega)
  have zB := gSg_free zB k7 (by intro k hk q; simp only [List.length_cons, List.length_nil] at hk; omega)
  have zF := gSg_free zF k7 (by intro k hk q; simp only [List.length_cons, List.length_nil] at hk; omega)
  have zN := gSg_free zN k7 (by intro k hk q; simp only [List.length_cons, List.length_nil] at hk; omega)
  have zA := gSg_free zA k7 (by intro k hk q; simp only [List.length_cons, List.length_nil] at hk; omega)
  have zP := gSg_free zP k7 (by intro k hk q; simp only [List.length_cons, List.length_nil] at hk; omega)
  have zG := gRows_free zG k7 (by intro k hk q; omega)
  refine lv_istore (lv' := [(4, .int (gB (0 ≤ wh - 20 ∧ wh - 20 < π 15 0))), (3, .int (gB (0 ≤ wh - 10 ∧ wh - 10 < π 15 0))), (0, .ref B), (1, .int m), (2, .int wh)]) hx hb dX11_on_17 hl (by decide) rfl (fun ls hl => ?_)
  refine lv_iload_n hx hb dX11_on_19 rfl (lv_at hl 4 rfl) ?_
  refine lv_if_eq (tgt := 34) hx hb dX11_on_20 (by decide) (fun c9 => ?_) (fun c9 => ?_)
  · refine lv_iload_n hx hb dX11_on_34 rfl (lv_at hl 3 rfl) ?_
    refine lv_bipush (v := 60) hx hb dX11_on_35 (by decide) ?_
    refine g_ki (g_runS (rest := []) hx hb hml hown hE hT (c_X11_isUpTo l G m 60) gM_X11_isUpTo gm_X11_57 gt_X11_isUpTo trivial rfl hl.1 ⟨rfl, rfl⟩ ⟨Nat.le_of_ble_eq_true rfl, Nat.le_of_ble_eq_true rfl⟩ ⟨Nat.zero_le _, Nat.zero_le _⟩ rfl (Nat.le_of_ble_eq_true rfl) dX11_on_37) hS (fun _ h => h.elim) (fun r13 H10 locs q11 k12 hS => ?_)
    subst q11
    have zO := gSg_free zO k12 (by intro k hk q; simp only [List.length_cons, List.length_nil] at hk; omega)
    have h1 := gSg_free h1 k12 (by intro k hk q; simp only [List.length_cons, List.length_nil] at hk; omega)
    have hk7 := gSg_free hk7 k12 (by intro k hk q; simp only [List.length_cons, List.length_nil] at hk; omega)
    have h2 := gSg_free h2 k12 (by intro k hk q; simp only [List.length_cons, List.length_nil] at hk; omega)
    have zT := gSg_free zT k12 (by intro k hk q; simp only [List.length_cons, List.length_nil] at hk; omega)
    have zKT := gSg_free zKT k12 (by intro k hk q; simp only [List.length_cons, List.length_nil] at hk; omega)
    have zE := gSg_free zE k12 (by intro k hk q; simp only [List.length_cons, List.length_nil] at hk; omega)
    have zB := gSg_free zB k12 (by intro k hk q; simp only [List.length_cons, List.length_nil] at hk; omega)
    have zF := gSg_free zF k12 (by intro k hk q; simp only [List.length_cons, List.length_nil] at hk; omega)
    have zN := gSg_free zN k12 (by intro k hk q; simp only [List.length_cons, List.length_nil] at hk; omega)
    have zA := gSg_free zA k12 (by intro k hk q; simp only [List.length_cons, List.length_nil] at hk; omega)
    have zP := gSg_free zP k12 (by intro k hk q; simp only [List.length_cons, List.length_nil] at hk; omega)
    have zG := gRows_free zG k12 (by intro k hk q; omega)
    refine lv_if_ne (tgt := 46) hx hb dX11_on_40 (by decide) (fun c14 => ?_) (fun c14 => ?_)
    · have c14 : 0 ≤ m ∧ m ≤ 60 := gB_1.mp c14
      obtain ⟨d, hd, ed⟩ := gIw (M := 60) (n := 60) rfl (by decide) c14
      subst ed
      refine lv_aload_n hx hb dX11_on_46 rfl (lv_at hl 2 rfl) ?_
      refine g_get (v := .ref (B + 36)) (T := TX11) (ci := 11) (N := 13) hx hb hown hK (gY_X11 hT) rfl (zO 0 _ rfl) 1 (by decide) (hT _ gf_X11_18) rfl dX11_on_47 ?_
      refine lv_aload_n hx hb dX11_on_50 rfl (lv_at hl 2 rfl) ?_
      refine g_get (v := .ref (B + 1)) (T := TX11) (ci := 11) (N := 13) hx hb hown hK (gY_X11 hT) rfl (zO 0 _ rfl) 0 (by decide) (hT _ gf_X11_12) rfl dX11_on_51 ?_
      refine g_kv (g_runV (T := TX9) (ci := 9) (N := 16) (rest := []) hx hb hml hown hE hT (c_X9_becomes l G (B + 36) (B + 1) lt lp πt ρt π ρ (by omega) sn pn bn hz3 hsn hz4 hpn hz5 hbn) gM_X9_becomes gm_X11_152 gi_X9_becomes gs_RX9_yX9_becomes_yX9_becomes rfl (zT 0 _ rfl) ⟨zT, h1⟩ rfl hl.1 ⟨rfl, rfl⟩ ⟨Nat.le_of_ble_eq_true rfl, Nat.le_of_ble_eq_true rfl⟩ ⟨Nat.zero_le _, Nat.zero_le _⟩ rfl (Nat.le_of_ble_eq_true rfl) dX11_on_54) hS (by intro q hq; omega) (fun H15 locs q16 k17 hS => ?_)
      obtain ⟨ρ9, hrw, zT⟩ := q16
      have zO := gSg_free zO k17 (by intro k hk q; simp only [List.length_cons, List.length_nil] at hk; omega)
      have h1 := gSg_free h1 k17 (by intro k hk q; simp only [List.length_cons, List.length_nil] at hk; omega)
      have hk7 := gSg_free hk7 k17 (by intro k hk q; simp only [List.length_cons, List.length_nil] at hk; omega)
      have h2 := gSg_free h2 k17 (by intro k hk q; simp only [List.length_cons, List.length_nil] at hk; omega)
      have zKT := gSg_free zKT k17 (by intro k hk q; simp only [List.length_cons, List.length_nil] at hk; omega)
      have zE := gSg_free zE k17 (by intro k hk q; simp only [List.length_cons, List.length_nil] at hk; omega)
      have zB := gSg_free zB k17 (by intro k hk q; simp only [List.length_cons, List.length_nil] at hk; omega)
      have zF := gSg_free zF k17 (by intro k hk q; simp only [List.length_cons, List.length_nil] at hk; omega)
      have zN := gSg_free zN k17 (by intro k hk q; simp only [List.length_cons, List.length_nil] at hk; omega)
      have zA := gSg_free zA k17 (by intro k hk q; simp only [List.length_cons, List.length_nil] at hk; omega)
      have zP := gSg_free zP k17 (by intro k hk q; simp only [List.length_cons, List.length_nil] at hk; omega)
      have zG := gRows_free zG k17 (by intro k hk q; omega)
      refine lv_aload_n hx hb dX11_on_57 rfl (lv_at hl 2 rfl) ?_
      refine g_get (v := .ref (B + 36)) (T := TX11) (ci := 11) (N := 13) hx hb hown hK (gY_X11 hT) rfl (zO 0 _ rfl) 1 (by decide) (hT _ gf_X11_18) rfl dX11_on_58 ?_
      refine lv_iload_n hx hb dX11_on_61 rfl (lv_at hl 3 rfl) ?_
      refine g_kv (g_runV (T := TX9) (ci := 9) (N := 16) (rest := []) hx hb hml hown hE hT (c_X9_daysGo l G (B + 36) lp π ρ9 f hd36 acc hcl n9 hz hn hki d (by omega)) gM_X9_daysGo gm_X11_143 gi_X9_daysGo gs_RX9_yX9_daysGo_yX9_daysGo rfl (zT 0 _ rfl) ⟨zT, zKT, _, h2⟩ rfl hl.1 ⟨rfl, rfl⟩ ⟨Nat.le_of_ble_eq_true rfl, Nat.le_of_ble_eq_true rfl⟩ ⟨Nat.zero_le _, Nat.zero_le _⟩ rfl (Nat.le_of_ble_eq_true rfl) dX11_on_62) hS (by intro q hq; omega) (fun H19 locs q20 k21 hS => ?_)
      obtain ⟨zT, zKT, s4, h2⟩ := q20
      have zO := gSg_free zO k21 (by intro k hk q; simp only [List.length_cons, List.length_nil] at hk; omega)
      have h1 := gSg_free h1 k21 (by intro k hk q; simp only [List.length_cons, List.length_nil] at hk; omega)
      have hk7 := gSg_free hk7 k21 (by intro k hk q; simp only [List.length_cons, List.length_nil] at hk; omega)
      have zE := gSg_free zE k21 (by intro k hk q; simp only [List.length_cons, List.length_nil] at hk; omega)
      have zB := gSg_free zB k21 (by intro k hk q; simp only [List.length_cons, List.length_nil] at hk; omega)
      have zF := gSg_free zF k21 (by intro k hk q; simp only [List.length_cons, List.length_nil] at hk; omega)
      have zN := gSg_free zN k21 (by intro k hk q; simp only [List.length_cons, List.length_nil] at hk; omega)
      have zA := gSg_free zA k21 (by intro k hk q; simp only [List.length_cons, List.length_nil] at hk; omega)
      have zP := gSg_free zP k21 (by intro k hk q; simp only [List.length_cons, List.length_nil] at hk; omega)
      have zG := gRows_free zG k21 (by intro k hk q; omega)
      refine lv_iload_n hx hb dX11_on_65 rfl (lv_at hl 1 rfl) ?_
      refine lv_if_eq (tgt := 82) hx hb dX11_on_66 (by decide) (fun c23 => ?_) (fun c23 => ?_)
      · have c23 : ¬ (0 ≤ wh - 10 ∧ wh - 10 < π 15 0) := gB_0.mp c23
        refine lv_iload hx hb dX11_on_82 (lv_at hl 0 rfl) ?_
        refine lv_if_eq (tgt := 102) hx hb dX11_on_84 (by decide) (fun c24 => ?_) (fun c24 => ?_)
        · have c24 : ¬ (0 ≤ wh - 20 ∧ wh - 20 < π 15 0) := gB_0.mp c24
          refine lv_aload_n hx hb dX11_on_102 rfl (lv_at hl 2 rfl) ?_
          refine g_get (v := .ref (B + 36)) (T := TX11) (ci := 11) (N := 13) hx hb hown hK (gY_X11 hT) rfl (zO 0 _ rfl) 1 (by decide) (hT _ gf_X11_18) rfl dX11_on_103 ?_
          refine g_get (v := .int ((gDs π (gLof acc) n9 d) 15 1)) (T := TX9) (ci := 9) (N := 16) hx hb hown hK (gY_X9 hT) rfl (zT 0 _ rfl) 13 (by decide) (hT _ gf_X11_136) rfl dX11_on_106 ?_
          rw [← hQ]
          exact g_iret hx hb hr hlk hS dX11_on_109 ⟨by rw [gqOn, if_neg (fun y => y.1 c9), if_pos c14, if_pos c9, nI_clamp (show d < 2 ^ 31 by omega)], _, hrr, zO, h1, hk7, ⟨_, h2⟩, ⟨_, _, _, zT⟩, zKT, ⟨_, hrk, zE⟩, zB, zF, ⟨_, zN⟩, zA, zP, zG⟩
        · have c24 : 0 ≤ wh - 20 ∧ wh - 20 < π 15 0 := gB_1.mp c24
          exact absurd (show (0 : Int32) ≤ 0 - 20 from by have q := c24.1; rw [c9] at q; exact q) (by decide)
      · have c23 : 0 ≤ wh - 10 ∧ wh - 10 < π 15 0 := gB_1.mp c23
        exact absurd (show (0 : Int32) ≤ 0 - 10 from by have q := c23.1; rw [c9] at q; exact q) (by decide)
    · have c14 : ¬ (0 ≤ m ∧ m ≤ 60) := gB_0.mp c14
      refine lv_bipush (v := (-2)) hx hb dX11_on_43 (by decide) ?_
      rw [← hQ]
      exact g_iret hx hb hr hlk hS dX11_on_45 ⟨by rw [gqOn, if_neg (fun y => y.1 c9), if_neg c14], _, hrr, zO, h1, hk7, ⟨_, h2⟩, ⟨_, _, _, zT⟩, zKT, ⟨_, hrk, zE⟩, zB, zF, ⟨_, zN⟩, zA, zP, zG⟩
  · refine lv_iload_n hx hb dX11_on_23 rfl (lv_at hl 1 rfl) ?_
    refine lv_if_ne (tgt := 34) hx hb dX11_on_24 (by decide) (fun c25 => ?_) (fun c25 => ?_)
    · have c25 : 0 ≤ wh - 10 ∧ wh - 10 < π 15 0 := gB_1.mp c25
      refine lv_iload_n hx hb dX11_on_34 rfl (lv_at hl 3 rfl) ?_
      refine lv_bipush (v := 60) hx hb dX11_on_35 (by decide) ?_
      refine g_ki (g_runS (rest := []) hx hb hml hown hE hT (c_X11_isUpTo l G m 60) gM_X11_isUpTo gm_X11_57 gt_X11_isUpTo trivial rfl hl.1 ⟨rfl, rfl⟩ ⟨Nat.le_of_ble_eq_true rfl, Nat.le_of_ble_eq_true rfl⟩ ⟨Nat.zero_le _, Nat.zero_le _⟩ rfl (Nat.le_of_ble_eq_true rfl) dX11_on_37) hS (fun _ h => h.elim) (fun r29 H26 locs q27 k28 hS => ?_)
      subst q27
      have zO := gSg_free zO k28 (by intro k hk q; simp only [List.length_cons, List.length_nil] at hk; omega)
      have h1 := gSg_free h1 k28 (by intro k hk q; simp only [List.length_cons, List.length_nil] at hk; omega)
      have hk7 := gSg_free hk7 k28 (by intro k hk q; simp only [List.length_cons, List.length_nil] at hk; omega)
      have h2 := gSg_free h2 k28 (by intro k hk q; simp only [List.length_cons, List.length_nil] at hk; omega)
      have zT := gSg_free zT k28 (by intro k hk q; simp only [List.length_cons, List.length_nil] at hk; omega)
      have zKT := gSg_free zKT k28 (by intro k hk q; simp only [List.length_cons, List.length_nil] at hk; omega)
      have zE := gSg_free zE k28 (by intro k hk q; simp only [List.length_cons, List.length_nil] at hk; omega)
      have zB := gSg_free zB k28 (by intro k hk q; simp only [List.length_cons, List.length_nil] at hk; omega)
      have zF := gSg_free zF k28 (by intro k hk q; simp only [List.length_cons, List.length_nil] at hk; omega)
      have zN := gSg_free zN k28 (by intro k hk q; simp only [List.length_cons, List.length_nil] at hk; omega)
      have zA := gSg_free zA k28 (by intro k hk q; simp only [List.length_cons, List.length_nil] at hk; omega)
      have zP := gSg_free zP k28 (by intro k hk q; simp only [List.length_cons, List.length_nil] at hk; omega)
      have zG := gRows_free zG k28 (by intro k hk q; omega)
      refine lv_if_ne (tgt := 46) hx hb dX11_on_40 (by decide) (fun c30 => ?_) (fun c30 => ?_)
      · have c30 : 0 ≤ m ∧ m ≤ 60 := gB_1.mp c30
        obtain ⟨d, hd, ed⟩ := gIw (M := 60) (n := 60) rfl (by decide) c30
        subst ed
        refine lv_aload_n hx hb dX11_on_46 rfl (lv_at hl 2 rfl) ?_
        refine g_get (v := .ref (B + 36)) (T := TX11) (ci := 11) (N := 13) hx hb hown hK (gY_X11 hT) rfl (zO 0 _ rfl) 1 (by decide) (hT _ gf_X11_18) rfl dX11_on_47 ?_
        refine lv_aload_n hx hb dX11_on_50 rfl (lv_at hl 2 rfl) ?_
        refine g_get (v := .ref (B + 1)) (T := TX11) (ci := 11) (N := 13) hx hb hown hK (gY_X11 hT) rfl (zO 0 _ rfl) 0 (by decide) (hT _ gf_X11_12) rfl dX11_on_51 ?_
        refine g_kv (g_runV (T := TX9) (ci := 9) (N := 16) (rest := []) hx hb hml hown hE hT (c_X9_becomes l G (B + 36) (B + 1) lt lp πt ρt π ρ (by omega) sn pn bn hz3 hsn hz4 hpn hz5 hbn) gM_X9_becomes gm_X11_152 gi_X9_becomes gs_RX9_yX9_becomes_yX9_becomes rfl (zT 0 _ rfl) ⟨zT, h1⟩ rfl hl.1 ⟨rfl, rfl⟩ ⟨Nat.le_of_ble_eq_true rfl, Nat.le_of_ble_eq_true rfl⟩ ⟨Nat.zero_le _, Nat.zero_le _⟩ rfl (Nat.le_of_ble_eq_true rfl) dX11_on_54) hS (by intro q hq; omega) (fun H31 locs q32 k33 hS => ?_)
        obtain ⟨ρ9, hrw, zT⟩ := q32
        have zO := gSg_free zO k33 (by intro k hk q; simp only [List.length_cons, List.length_nil] at hk; omega)
        have h1 := gSg_free h1 k33 (by intro k hk q; simp only [List.length_cons, List.length_nil] at hk; omega)
        have hk7 := gSg_free hk7 k33 (by intro k hk q; simp only [List.length_cons, List.length_nil] at hk; omega)
        have h2 := gSg_free h2 k33 (by intro k hk q; simp only [List.length_cons, List.length_nil] at hk; omega)
        have zKT := gSg_free zKT k33 (by intro k hk q; simp only [List.length_cons, List.length_nil] at hk; omega)
        have zE := gSg_free zE k33 (by intro k hk q; simp only [List.length_cons, List.length_nil] at hk; omega)
        have zB := gSg_free zB k33 (by intro k hk q; simp only [List.length_cons, List.length_nil] at hk; omega)
        have zF := gSg_free zF k33 (by intro k hk q; simp only [List.length_cons, List.length_nil] at hk; omega)
        have zN := gSg_free zN k33 (by intro k hk q; simp only [List.length_cons, List.length_nil] at hk; omega)
        have zA := gSg_free zA k33 (by intro k hk q; simp only [List.length_cons, List.length_nil] at hk; omega)
        have zP := gSg_free zP k33 (by intro k hk q; simp only [List.length_cons, List.length_nil] at hk; omega)
        have zG := gRows_free zG k33 (by intro k hk q; omega)
        refine lv_aload_n hx hb dX11_on_57 rfl (lv_at hl 2 rfl) ?_
        refine g_get (v := .ref (B + 36)) (T := TX11) (ci := 11) (N := 13) hx hb hown hK (gY_X11 hT) rfl (zO 0 _ rfl) 1 (by decide) (hT _ gf_X11_18) rfl dX11_on_58 ?_
        refine lv_iload_n hx hb dX11_on_61 rfl (lv_at hl 3 rfl) ?_
        refine g_kv (g_runV (T := TX9) (ci := 9) (N := 16) (rest := []) hx hb hml hown hE hT (c_X9_daysGo l G (B + 36) lp π ρ9 f hd36 acc hcl n9 hz hn hki d (by omega)) gM_X9_daysGo gm_X11_143 gi_X9_daysGo gs_RX9_yX9_daysGo_yX9_daysGo rfl (zT 0 _ rfl) ⟨zT, zKT, _, h2⟩ rfl hl.1 ⟨rfl, rfl⟩ ⟨Nat.le_of_ble_eq_true rfl, Nat.le_of_ble_eq_true rfl⟩ ⟨Nat.zero_le _, Nat.zero_le _⟩ rfl (Nat.le_of_ble_eq_true rfl) dX11_on_62) hS (by intro q hq; omega) (fun H35 locs q36 k37 hS => ?_)
        obtain ⟨zT, zKT, s4, h2⟩ := q36
        have zO := gSg_free zO k37 (by intro k hk q; simp only [List.length_cons, List.length_nil] at hk; omega)
        have h1 := gSg_free h1 k37 (by intro k hk q; simp only [List.length_cons, List.length_nil] at hk; omega)
        have hk7 := gSg_free hk7 k37 (by intro k hk q; simp only [List.length_cons, List.length_nil] at hk; omega)
        have zE := gSg_free zE k37 (by intro k hk q; simp only [List.length_cons, List.length_nil] at hk; omega)
        have zB := gSg_free zB k37 (by intro k hk q; simp only [List.length_cons, List.length_nil] at hk; omega)
        have zF := gSg_free zF k37 (by intro k hk q; simp only [List.length_cons, List.length_nil] at hk; omega)
        have zN := gSg_free zN k37 (by intro k hk q; simp only [List.length_cons, List.length_nil] at hk; omega)
        have zA := gSg_free zA k37 (by intro k hk q; simp only [List.length_cons, List.length_nil] at hk; omega)
        have zP := gSg_free zP k37 (by intro k hk q; simp only [List.length_cons, List.length_nil] at hk; omega)
        have zG := gRows_free zG k37 (by intro k hk q; omega)
        refine lv_iload_n hx hb dX11_on_65 rfl (lv_at hl 1 rfl) ?_
        refine lv_if_eq (tgt := 82) hx hb dX11_on_66 (by decide) (fun c39 => ?_) (fun c39 => ?_)
        · have c39 : ¬ (0 ≤ wh - 10 ∧ wh - 10 < π 15 0) := gB_0.mp c39
          exact absurd c25 c39
        · have c39 : 0 ≤ wh - 10 ∧ wh - 10 < π 15 0 := gB_1.mp c39
          obtain ⟨q, hq, eq⟩ := gBk10 hz (by omega) c39
          refine lv_aload_n hx hb dX11_on_69 rfl (lv_at hl 2 rfl) ?_
          refine g_get (v := .ref (B + 36)) (T := TX11) (ci := 11) (N := 13) hx hb hown hK (gY_X11 hT) rfl (zO 0 _ rfl) 1 (by decide) (hT _ gf_X11_18) rfl dX11_on_70 ?_
          refine g_get (v := .ref (B + 36 + 7)) (T := TX9) (ci := 9) (N := 16) hx hb hown hK (gY_X9 hT) rfl (zT 0 _ rfl) 6 (by decide) (hT _ gf_X11_82) rfl dX11_on_73 ?_
          refine lv_iload_n hx hb dX11_on_76 rfl (lv_at hl 4 rfl) ?_
          refine lv_bipush (v := 10) hx hb dX11_on_77 (by decide) ?_
          refine lv_isub hx hb dX11_on_79 ?_
          refine g_ia (j := q) (v := (gDs π (gLof acc) n9 d) 5 q) hx hb hK (zT 7 _ rfl) (show wh - 10 = nI q from by rw [eq]; exact (gSub (a := q + 10) (b := 10) rfl rfl (by omega)).trans (congrArg nI (by omega))) (by omega) (Nat.le_of_ble_eq_true rfl) rfl dX11_on_80 ?_
          rw [← hQ]
          exact g_iret hx hb hr hlk hS dX11_on_81 ⟨by rw [gqOn, if_neg (fun y => y.2.1 c25), if_pos c30, if_neg c9, if_pos (show wh < 20 from by rw [eq]; exact (gLt (y := 20) (b := 20) rfl rfl (by omega) (by omega)).mpr (by omega)), nI_clamp (show d < 2 ^ 31 by omega), show wh - 10 = nI q from by rw [eq]; exact (gSub (a := q + 10) (b := 10) rfl rfl (by omega)).trans (congrArg nI (by omega)), nI_clamp (show q < 2 ^ 31 by omega)], _, hrr, zO, h1, hk7, ⟨_, h2⟩, ⟨_, _, _, zT⟩, zKT, ⟨_, hrk, zE⟩, zB, zF, ⟨_, zN⟩, zA, zP, zG⟩
      · have c30 : ¬ (0 ≤ m ∧ m ≤ 60) := gB_0.mp c30
        refine lv_bipush (v := (-2)) hx hb dX11_on_43 (by decide) ?_
        rw [← hQ]
        exact g_iret hx hb hr hlk hS dX11_on_45 ⟨by rw [gqOn, if_neg (fun y => y.2.1 c25), if_neg c30], _, hrr, zO, h1, hk7, ⟨_, h2⟩, ⟨_, _, _, zT⟩, zKT, ⟨_, hrk, zE⟩, zB, zF, ⟨_, zN⟩, zA, zP, zG⟩
    · have c25 : ¬ (0 ≤ wh - 10 ∧ wh - 10 < π 15 0) := gB_0.mp c25
      refine lv_iload hx hb dX11_on_27 (lv_at hl 0 rfl) ?_
      refine lv_if_ne (tgt := 34) hx hb dX11_on_29 (by decide) (fun c40 => ?_) (fun c40 => ?_)
      · have c40 : 0 ≤ wh - 20 ∧ wh - 20 < π 15 0 := gB_1.mp c40
        refine lv_iload_n hx hb dX11_on_34 rfl (lv_at hl 3 rfl) ?_
        refine lv_bipush (v := 60) hx hb dX11_on_35 (by decide) ?_
        refine g_ki (g_runS (rest := []) hx hb hml hown hE hT (c_X11_isUpTo l G m 60) gM_X11_isUpTo gm_X11_57 gt_X11_isUpTo trivial rfl hl.1 ⟨rfl, rfl⟩ ⟨Nat.le_of_ble_eq_true rfl, Nat.le_of_ble_eq_true rfl⟩ ⟨Nat.zero_le _, Nat.zero_le _⟩ rfl (Nat.le_of_ble_eq_true rfl) dX11_on_37) hS (fun _ h => h.elim) (fun r44 H41 locs q42 k43 hS => ?_)
        subst q42
        have zO := gSg_free zO k43 (by intro k hk q; simp only [List.length_cons, List.length_nil] at hk; omega)
        have h1 := gSg_free h1 k43 (by intro k hk q; simp only [List.length_cons, List.length_nil] at hk; omega)
        have hk7 := gSg_free hk7 k43 (by intro k hk q; simp only [List.length_cons, List.length_nil] at hk; omega)
        have h2 := gSg_free h2 k43 (by intro k hk q; simp only [List.length_cons, List.length_nil] at hk; omega)
        have zT := gSg_free zT k43 (by intro k hk q; simp only [List.length_cons, List.length_nil] at hk; omega)
        have zKT := gSg_free zKT k43 (by intro k hk q; simp only [List.length_cons, List.length_nil] at hk; omega)
        have zE := gSg_free zE k43 (by intro k hk q; simp only [List.length_cons, List.length_nil] at hk; omega)
        have zB := gSg_free zB k43 (by intro k hk q; simp only [List.length_cons, List.length_nil] at hk; omega)
        have zF := gSg_free zF k43 (by intro k hk q; simp only [List.length_cons, List.length_nil] at hk; omega)
        have zN := gSg_free zN k43 (by intro k hk q; simp only [List.length_cons, List.length_nil] at hk; omega)
        have zA := gSg_free zA k43 (by intro k hk q; simp only [List.length_cons, List.length_nil] at hk; omega)
        have zP := gSg_free zP k43 (by intro k hk q; simp only [List.length_cons, List.length_nil] at hk; omega)
        have zG := gRows_free zG k43 (by intro k hk q; omega)
        refine lv_if_ne (tgt := 46) hx hb dX11_on_40 (by decide) (fun c45 => ?_) (fun c45 => ?_)
        · have c45 : 0 ≤ m ∧ m ≤ 60 := gB_1.mp c45
          obtain ⟨d, hd, ed⟩ := gIw (M := 60) (n := 60) rfl (by decide) c45
          subst ed
          refine lv_aload_n hx hb dX11_on_46 rfl (lv_at hl 2 rfl) ?_
          refine g_get (v := .ref (B + 36)) (T := TX11) (ci := 11) (N := 13) hx hb hown hK (gY_X11 hT) rfl (zO 0 _ rfl) 1 (by decide) (hT _ gf_X11_18) rfl dX11_on_47 ?_
          refine lv_aload_n hx hb dX11_on_50 rfl (lv_at hl 2 rfl) ?_
          refine g_get (v := .ref (B + 1)) (T := TX11) (ci := 11) (N := 13) hx hb hown hK (gY_X11 hT) rfl (zO 0 _ rfl) 0 (by decide) (hT _ gf_X11_12) rfl dX11_on_51 ?_
          refine g_kv (g_runV (T := TX9) (ci := 9) (N := 16) (rest := []) hx hb hml hown hE hT (c_X9_becomes l G (B + 36) (B + 1) lt lp πt ρt π ρ (by omega) sn pn bn hz3 hsn hz4 hpn hz5 hbn) gM_X9_becomes gm_X11_152 gi_X9_becomes gs_RX9_yX9_becomes_yX9_becomes rfl (zT 0 _ rfl) ⟨zT, h1⟩ rfl hl.1 ⟨rfl, rfl⟩ ⟨Nat.le_of_ble_eq_true rfl, Nat.le_of_ble_eq_true rfl⟩ ⟨Nat.zero_le _, Nat.zero_le _⟩ rfl (Nat.le_of_ble_eq_true rfl) dX11_on_54) hS (by intro q hq; omega) (fun H46 locs q47 k48 hS => ?_)
          obtain ⟨ρ9, hrw, zT⟩ := q47
          have zO := gSg_free zO k48 (by intro k hk q; simp only [List.length_cons, List.length_nil] at hk; omega)
          have h1 := gSg_free h1 k48 (by intro k hk q; simp only [List.length_cons, List.length_nil] at hk; omega)
          have hk7 := gSg_free hk7 k48 (by intro k hk q; simp only [List.length_cons, List.length_nil] at hk; omega)
          have h2 := gSg_free h2 k48 (by intro k hk q; simp only [List.length_cons, List.length_nil] at hk; omega)
          have zKT := gSg_free zKT k48 (by intro k hk q; simp only [List.length_cons, List.length_nil] at hk; omega)
          have zE := gSg_free zE k48 (by intro k hk q; simp only [List.length_cons, List.length_nil] at hk; omega)
          have zB := gSg_free zB k48 (by intro k hk q; simp only [List.length_cons, List.length_nil] at hk; omega)
          have zF := gSg_free zF k48 (by intro k hk q; simp only [List.length_cons, List.length_nil] at hk; omega)
          have zN := gSg_free zN k48 (by intro k hk q; simp only [List.length_cons, List.length_nil] at hk; omega)
          have zA := gSg_free zA k48 (by intro k hk q; simp only [List.length_cons, List.length_nil] at hk; omega)
          have zP := gSg_free zP k48 (by intro k hk q; simp only [List.length_cons, List.length_nil] at hk; omega)
          have zG := gRows_free zG k48 (by intro k hk q; omega)
          refine lv_aload_n hx hb dX11_on_57 rfl (lv_at hl 2 rfl) ?_
          refine g_get (v := .ref (B + 36)) (T := TX11) (ci := 11) (N := 13) hx hb hown hK (gY_X11 hT) rfl (zO 0 _ rfl) 1 (by decide) (hT _ gf_X11_18) rfl dX11_on_58 ?_
          refine lv_iload_n hx hb dX11_on_61 rfl (lv_at hl 3 rfl) ?_
          refine g_kv (g_runV (T := TX9) (ci := 9) (N := 16) (rest := []) hx hb hml hown hE hT (c_X9_daysGo l G (B + 36) lp π ρ9 f hd36 acc hcl n9 hz hn hki d (by omega)) gM_X9_daysGo gm_X11_143 gi_X9_daysGo gs_RX9_yX9_daysGo_yX9_daysGo rfl (zT 0 _ rfl) ⟨zT, zKT, _, h2⟩ rfl hl.1 ⟨rfl, rfl⟩ ⟨Nat.le_of_ble_eq_true rfl, Nat.le_of_ble_eq_true rfl⟩ ⟨Nat.zero_le _, Nat.zero_le _⟩ rfl (Nat.le_of_ble_eq_true rfl) dX11_on_62) hS (by intro q hq; omega) (fun H50 locs q51 k52 hS => ?_)
          obtain ⟨zT, zKT, s4, h2⟩ := q51
          have zO := gSg_free zO k52 (by intro k hk q; simp only [List.length_cons, List.length_nil] at hk; omega)
          have h1 := gSg_free h1 k52 (by intro k hk q; simp only [List.length_cons, List.length_nil] at hk; omega)
          have hk7 := gSg_free hk7 k52 (by intro k hk q; simp only [List.length_cons, List.length_nil] at hk; omega)
          have zE := gSg_free zE k52 (by intro k hk q; simp only [List.length_cons, List.length_nil] at hk; omega)
          have zB := gSg_free zB k52 (by intro k hk q; simp only [List.length_cons, List.length_nil] at hk; omega)
          have zF := gSg_free zF k52 (by intro k hk q; simp only [List.length_cons, List.length_nil] at hk; omega)
          have zN := gSg_free zN k52 (by intro k hk q; simp only [List.length_cons, List.length_nil] at hk; omega)
          have zA := gSg_free zA k52 (by intro k hk q; simp only [List.length_cons, List.length_nil] at hk; omega)
          have zP := gSg_free zP k52 (by intro k hk q; simp only [List.length_cons, List.length_nil] at hk; omega)
          have zG := gRows_free zG k52 (by intro k hk q; omega)
          refine lv_iload_n hx hb dX11_on_65 rfl (lv_at hl 1 rfl) ?_
          refine lv_if_eq (tgt := 82) hx hb dX11_on_66 (by decide) (fun c54 => ?_) (fun c54 => ?_)
          · have c54 : ¬ (0 ≤ wh - 10 ∧ wh - 10 < π 15 0) := gB_0.mp c54
            refine lv_iload hx hb dX11_on_82 (lv_at hl 0 rfl) ?_
            refine lv_if_eq (tgt := 102) hx hb dX11_on_84 (by decide) (fun c55 => ?_) (fun c55 => ?_)
            · have c55 : ¬ (0 ≤ wh - 20 ∧ wh - 20 < π 15 0) := gB_0.mp c55
              exact absurd c40 c55
            · have c55 : 0 ≤ wh - 20 ∧ wh - 20 < π 15 0 := gB_1.mp c55
              obtain ⟨q, hq, eq⟩ := gBk20 hz (by omega) c55
              refine lv_aload_n hx hb dX11_on_87 rfl (lv_at hl 2 rfl) ?_
              refine g_get (v := .ref (B + 36)) (T := TX11) (ci := 11) (N := 13) hx hb hown hK (gY_X11 hT) rfl (zO 0 _ rfl) 1 (by decide) (hT _ gf_X11_18) rfl dX11_on_88 ?_
              refine g_get (v := .ref (B + 36 + 6)) (T := TX9) (ci := 9) (N := 16) hx hb hown hK (gY_X9 hT) rfl (zT 0 _ rfl) 5 (by decide) (hT _ gf_X11_79) rfl dX11_on_91 ?_
              refine lv_iload_n hx hb dX11_on_94 rfl (lv_at hl 4 rfl) ?_
              refine lv_bipush (v := 20) hx hb dX11_on_95 (by decide) ?_
              refine lv_isub hx hb dX11_on_97 ?_
              refine g_ia (j := q) (v := (gDs π (gLof acc) n9 d) 4 q) hx hb hK (zT 6 _ rfl) (show wh - 20 = nI q from by rw [eq]; exact (gSub (a := q + 20) (b := 20) rfl rfl (by omega)).trans (congrArg nI (by omega))) (by omega) (Nat.le_of_ble_eq_true rfl) rfl dX11_on_98 ?_
              refine lv_goto (tgt := 109) hx hb dX11_on_99 (by decide) ?_
              rw [← hQ]
              exact g_iret hx hb hr hlk hS dX11_on_109 ⟨by rw [gqOn, if_neg (fun y => y.2.2 c40), if_pos c45, if_neg c9, if_neg (show ¬ wh < 20 from by rw [eq]; exact fun y => absurd ((gLt (y := 20) (b := 20) rfl rfl (by omega) (by omega)).mp y) (by omega)), nI_clamp (show d < 2 ^ 31 by omega), show wh - 20 = nI q from by rw [eq]; exact (gSub (a := q + 20) (b := 20) rfl rfl (by omega)).trans (congrArg nI (by omega)), nI_clamp (show q < 2 ^ 31 by omega)], _, hrr, zO, h1, hk7, ⟨_, h2⟩, ⟨_, _, _, zT⟩, zKT, ⟨_, hrk, zE⟩, zB, zF, ⟨_, zN⟩, zA, zP, zG⟩
          · have c54 : 0 ≤ wh - 10 ∧ wh - 10 < π 15 0 := gB_1.mp c54
            exact absurd c54 c25
        · have c45 : ¬ (0 ≤ m ∧ m ≤ 60) := gB_0.mp c45
          refine lv_bipush (v := (-2)) hx hb dX11_on_43 (by decide) ?_
          rw [← hQ]
          exact g_iret hx hb hr hlk hS dX11_on_45 ⟨by rw [gqOn, if_neg (fun y => y.2.2 c40), if_neg c45], _, hrr, zO, h1, hk7, ⟨_, h2⟩, ⟨_, _, _, zT⟩, zKT, ⟨_, hrk, zE⟩, zB, zF, ⟨_, zN⟩, zA, zP, zG⟩
      · have c40 : ¬ (0 ≤ wh - 20 ∧ wh - 20 < π 15 0) := gB_0.mp c40
        refine lv_iconst (v := (-1)) hx hb dX11_on_32 (by decide) ?_
        rw [← hQ]
        exact g_iret hx hb hr hlk hS dX11_on_33 ⟨by rw [gqOn, if_pos ⟨c9, c25, c40⟩], _, hrr, zO, h1, hk7, ⟨_, h2⟩, ⟨_, _, _, zT⟩, zKT, ⟨_, hrk, zE⟩, zB, zF, ⟨_, zN⟩, zA, zP, zG⟩

set_option maxHeartbeats 4000000 in
set_option maxRecDepth 100000 in
theorem c_X11_pass (l : Launch) (G : gW) (B lp : Nat) (π πk f μ α : gPS) (lk : Nat) (g : Nat → Int64) (acc : List (Nat × Nat × List Nat)) (hcl : gClo f acc) (hI : gInv π) (hlp : lp = B + 23 ∨ lp = B + 58 ∨ lp = B + 93 ∨ (B + 120 ≤ lp ∧ lp + 6 ≤ B + 156)) (n9 : Nat) (hz9 : π 15 0 = nI n9) (hn9 : n9 ≤ 6) (m : Int32) : gCI l yX11_pass cX11_pass 3 .int (gRm 6 143) G [.ref B, .int m] (fun H => gCW G B lp π lk πk f μ α g H) (fun r H => r = (gqPass π (gLof acc) n9 m).1 ∧ gCW G B lp ((gqPass π (gLof acc) n9 m).2) lk πk f μ α g H) (fun q => (lp ≤ q ∧ q < lp + 6) ∨ (B ≤ q ∧ q < B + 23) ∨ (B + 36 ≤ q ∧ q < B + 58) ∨ (B + 71 ≤ q ∧ q < B + 93) ∨ (B + 106 ≤ q ∧ q < B + 120)) := by
  refine g_start (by decide) (Nat.le_of_ble_eq_true rfl) ?_
  intro pp_ ee_ s mm_ aa_ below meth cc_ ls Q hQ hX hE hP hl
  obtain ⟨hx, hb, hr, hml, hown, hT, hlk, hnm⟩ := hX
  have hK := hE.2.1
  obtain ⟨ρ, hrr, zO, h1, hk7, ⟨s4, h2⟩, ⟨πt, lt, ρt, zT⟩, zKT, ⟨ρk, hrk, zE⟩, zB, zF, ⟨γ, zN⟩, zA, zP, zG⟩ := hP
  have hS : va_S (fun q => (lp ≤ q ∧ q < lp + 6) ∨ (B ≤ q ∧ q < B + 23) ∨ (B + 36 ≤ q ∧ q < B + 58) ∨ (B + 71 ≤ q ∧ q < B + 93) ∨ (B + 106 ≤ q ∧ q < B + 120)) s.heap s.heap [] := va_S.rf
  have hl : lv_has ls 3 [(0, .ref B), (1, .int m)] := hl
  obtain ⟨⟨n, hn, hz, h0z⟩, hki, ⟨sn, hsn, hz3, hsp⟩, ⟨pn, hpn, hz4, hpo⟩, ⟨bn, hbn, hz5, hbo⟩, hfl9⟩ := id hI
  have hd1 : lp + 6 ≤ B + 1 ∨ lp = B + 1 + 22 ∨ B + 1 + 35 ≤ lp := by omega
  have hd36 : lp + 6 ≤ B + 36 ∨ lp = B + 36 + 22 ∨ B + 36 + 35 ≤ lp := by omega
  have en : n9 = n := (nI_eq (a := n9) (b := n) (by omega) (by omega)).mp (hz9.symm.trans hz)
  subst en
  refine lv_iload_n hx hb dX11_pass_0 rfl (lv_at hl 1 rfl) ?_
  refine lv_bipush (v := 60) hx hb dX11_pass_1 (by decide) ?_
  refine g_ki (g_runS (rest := []) hx hb hml hown hE hT (c_X11_isUpTo l G m 60) gM_X11_isUpTo gm_X11_57 gt_X11_isUpTo trivial rfl hl.1 ⟨rfl, rfl⟩ ⟨Nat.le_of_ble_eq_true rfl, Nat.le_of_ble_eq_true rfl⟩ ⟨Nat.zero_le _, Nat.zero_le _⟩ rfl (Nat.le_of_ble_eq_true rfl) dX11_pass_3) hS (fun _ h => h.elim) (fun r4 H1 locs q2 k3 hS => ?_)
  subst q2
  have zO := gSg_free zO k3 (by intro k hk q; simp only [List.length_cons, List.length_nil] at hk; omega)
  have h1 := gSg_free h1 k3 (by intro k hk q; simp only [List.length_cons, List.length_nil] at hk; omega)
  have hk7 := gSg_free hk7 k3 (by intro k hk q; simp only [List.length_cons, List.length_nil] at hk; omega)
  have h2 := gSg_free h2 k3 (by intro k hk q; simp only [List.length_cons, List.length_nil] at hk; omega)
  have zT := gSg_free zT k3 (by intro k hk q; simp only [List.length_cons, List.length_nil] at hk; omega)
  have zKT := gSg_free zKT k3 (by intro k hk q; simp only [List.length_cons, List.length_nil] at hk; omega)
  have zE := gSg_free zE k3 (by intro k hk q; simp only [List.length_cons, List.length_nil] at hk; omega)
  have zB := gSg_free zB k3 (by intro k hk q; simp only [List.length_cons, List.length_nil] at hk; omega)
  have zF := gSg_free zF k3 (by intro k hk q; simp only [List.length_cons, List.length_nil] at hk; omega)
  have zN := gSg_free zN k3 (by intro k hk q; simp only [List.length_cons, List.length_nil] at hk; omega)
  have zA := gSg_free zA k3 (by intro k hk q; simp only [List.length_cons, List.length_nil] at hk; omega)
  have zP := gSg_free zP k3 (by intro k hk q; simp only [List.length_cons, List.length_nil] at hk; omega)
  have zG := gRows_free zG k3 (by intro k hk q; omega)
  refine lv_if_ne (tgt := 12) hx hb dX11_pass_6 (by decide) (fun c5 => ?_) (fun c5 => ?_)
  · have c5 : 0 ≤ m ∧ m ≤ 60 := gB_1.mp c5
    obtain ⟨d, hd, ed⟩ := gIw (M := 60) (n := 60) rfl (by decide) c5
    subst ed
    refine lv_aload_n hx hb dX11_pass_12 rfl (lv_at hl 0 rfl) ?_
    refine g_get (v := .ref (B + 1)) (T := TX11) (ci := 11) (N := 13) hx hb hown hK (gY_X11 hT) rfl (zO 0 _ rfl) 0 (by decide) (hT _ gf_X11_12) rfl dX11_pass_13 ?_
    refine g_get (v := .int (π 15 2)) (T := TX9) (ci := 9) (N := 16) hx hb hown hK (gY_X9 hT) rfl (h1 0 _ rfl) 14 (by decide) (hT _ gf_X11_130) rfl dX11_pass_16 ?_
    refine lv_iload_n hx hb dX11_pass_19 rfl (lv_at hl 1 rfl) ?_
    refine lv_iadd hx hb dX11_pass_20 ?_
    refine lv_sipush (v := 9999) hx hb dX11_pass_21 (by decide) ?_
    refine lv_icmp_le (tgt := 30) hx hb dX11_pass_24 (by decide) (fun c6 => ?_) (fun c6 => ?_)
    · refine lv_aload_n hx hb dX11_pass_30 rfl (lv_at hl 0 rfl) ?_
      refine g_get (v := .ref (B + 1)) (T := TX11) (ci := 11) (N := 13) hx hb hown hK (gY_X11 hT) rfl (zO 0 _ rfl) 0 (by decide) (hT _ gf_X11_12) rfl dX11_pass_31 ?_
      refine lv_iload_n hx hb dX11_pass_34 rfl (lv_at hl 1 rfl) ?_
      refine g_kv (g_runV (T := TX9) (ci := 9) (N := 16) (rest := []) hx hb hml hown hE hT (c_X9_daysGo l G (B + 1) lp π ρ f hd1 acc hcl n9 hz hn hki d (by omega)) gM_X9_daysGo gm_X11_143 gi_X9_daysGo gs_RX9_yX9_daysGo_yX9_daysGo rfl (h1 0 _ rfl) ⟨h1, hk7, _, h2⟩ rfl hl.1 ⟨rfl, rfl⟩ ⟨Nat.le_of_ble_eq_true rfl, Nat.le_of_ble_eq_true rfl⟩ ⟨Nat.zero_le _, Nat.zero_le _⟩ rfl (Nat.le_of_ble_eq_true rfl) dX11_pass_35) hS (by intro q hq; omega) (fun H7 locs q8 k9 hS => ?_)
      obtain ⟨h1, hk7, s4, h2⟩ := q8
      have zO := gSg_free zO k9 (by intro k hk q; simp only [List.length_cons, List.length_nil] at hk; omega)
      have zT := gSg_free zT k9 (by intro k hk q; simp only [List.length_cons, List.length_nil] at hk; omega)
      have zKT := gSg_free zKT k9 (by intro k hk q; simp only [List.length_cons, List.length_nil] at hk; omega)
      have zE := gSg_free zE k9 (by intro k hk q; simp only [List.length_cons, List.length_nil] at hk; omega)
      have zB := gSg_free zB k9 (by intro k hk q; simp only [List.length_cons, List.length_nil] at hk; omega)
      have zF := gSg_free zF k9 (by intro k hk q; simp only [List.length_cons, List.length_nil] at hk; omega)
      have zN := gSg_free zN k9 (by intro k hk q; simp only [List.length_cons, List.length_nil] at hk; omega)
      have zA := gSg_free zA k9 (by intro k hk q; simp only [List.length_cons, List.length_nil] at hk; omega)
      have zP := gSg_free zP k9 (by intro k hk q; simp only [List.length_cons, List.length_nil] at hk; omega)
      have zG := gRows_free zG k9 (by intro k hk q; omega)
      refine lv_iconst (v := 0) hx hb dX11_pass_38 (by decide) ?_
      refine lv_istore_n (lv' := [(2, .int 0), (0, .ref B), (1, .int (nI d))]) hx hb dX11_pass_39 rfl hl (by decide) rfl (fun ls hl => ?_)
      have ez9 : ∀ x : Nat, (gMn (gDs π (gLof acc) n9 d) x) 15 0 = nI n9 := fun x => by rw [gMn_r (by decide), gDs_15 (by decide) (by decide)]; exact hz
      have loop : ∀ (dd9 k : Nat), k + dd9 = n9 → ∀ (s4 : Nat → Int32), ∀ (H : Heap) (locs : List Loc), gSg G B (gLO G B μ) H → gSg G (B + 1) (gLS G (B + 1) (gMn (gDs π (gLof acc) n9 d) k) lp ρ) H → gSg G (B + 1 + 28) (gKk G (B + 1 + 28) ) H → gSg G lp (gLL G lp (gR f 4 s4)) H → gSg G (B + 36) (gLS G (B + 36) πt lt ρt) H → gSg G (B + 36 + 28) (gKk G (B + 36 + 28) ) H → gSg G (B + 71) (gLS G (B + 71) πk lk ρk) H → gSg G (B + 106) (gLB2 G (B + 106) μ) H → gSg G (B + 107) (gLF G (B + 107) ) H → gSg G (B + 108) (gLN G (B + 108) γ) H → gSg G (B + 109) (gLA G (B + 109) α) H → gSg G (B + 111) (gLT G (B + 111) μ) H → gRows G (B + 114) g H → va_S (fun q => (lp ≤ q ∧ q < lp + 6) ∨ (B ≤ q ∧ q < B + 23) ∨ (B + 36 ≤ q ∧ q < B + 58) ∨ (B + 71 ≤ q ∧ q < B + 93) ∨ (B + 106 ≤ q ∧ q < B + 120)) s.heap H locs → ∀ ls, lv_has ls 3 [(0, .ref B), (1, .int (nI d)), (2, .int (nI k))] → W pp_ l ee_ (gRm 6 143) s mm_ aa_ below meth cc_ H locs 0 0 Q (F0 mm_ 40 ls []) := by
        intro dd9
        induction dd9 with
        | zero =>
          intro k hk s4  H locs zO h1 hk7 h2 zT zKT zE zB zF zN zA zP zG hS ls hl
          have hk : k = n9 := by omega
          refine lv_iload_n hx hb dX11_pass_40 rfl (lv_at hl 2 rfl) ?_
          refine lv_aload_n hx hb dX11_pass_41 rfl (lv_at hl 0 rfl) ?_
          refine g_get (v := .ref (B + 1)) (T := TX11) (ci := 11) (N := 13) hx hb hown hK (gY_X11 hT) rfl (zO 0 _ rfl) 0 (by decide) (hT _ gf_X11_12) rfl dX11_pass_42 ?_
          refine g_get (v := .int ((gMn (gDs π (gLof acc) n9 d) k) 15 0)) (T := TX9) (ci := 9) (N := 16) hx hb hown hK (gY_X9 hT) rfl (h1 0 _ rfl) 12 (by decide) (hT _ gf_X11_61) rfl dX11_pass_45 ?_
          refine lv_icmp_ge (tgt := 81) hx hb dX11_pass_48 (by decide) (fun c11 => ?_) (fun c11 => ?_)
          · have c11 : n9 ≤ k := (gLe (a := n9) (b := k) (ez9 k) rfl (by omega) (by omega)).mp c11
            refine lv_aload_n hx hb dX11_pass_81 rfl (lv_at hl 0 rfl) ?_
            refine g_get (v := .ref (B + 1)) (T := TX11) (ci := 11) (N := 13) hx hb hown hK (gY_X11 hT) rfl (zO 0 _ rfl) 0 (by decide) (hT _ gf_X11_12) rfl dX11_pass_82 ?_
            refine g_get (v := .int ((gMn (gDs π (gLof acc) n9 d) k) 15 2)) (T := TX9) (ci := 9) (N := 16) hx hb hown hK (gY_X9 hT) rfl (h1 0 _ rfl) 14 (by decide) (hT _ gf_X11_130) rfl dX11_pass_85 ?_
            rw [hk] at h1
            have hpa : gMn (gDs π (gLof acc) n9 d) n9 = gPa π (gLof acc) n9 d := gMn_pa (fun j hj => hfl9 j (by omega)) (by omega)
            rw [hpa] at h1
            have hrr9 : gRho (gPa π (gLof acc) n9 d) ρ := gRho_pa hrr
            rw [← hQ]
            exact g_iret hx hb hr hlk hS dX11_pass_88 (by rw [show gqPass π (gLof acc) n9 (nI d) = ((gPa π (gLof acc) n9 d) 15 2, gPa π (gLof acc) n9 d) from by simp only [gqPass, if_pos c5, if_pos c6, nI_clamp (show d < 2 ^ 31 by omega)]]; exact ⟨by rw [hk, hpa], _, hrr9, zO, h1, hk7, ⟨_, h2⟩, ⟨_, _, _, zT⟩, zKT, ⟨_, hrk, zE⟩, zB, zF, ⟨_, zN⟩, zA, zP, zG⟩)
          · have c11 : ¬ n9 ≤ k := fun z => c11 ((gLe (a := n9) (b := k) (ez9 k) rfl (by omega) (by omega)).mpr z)
            exact absurd c11 (by omega)
        | succ dd9 ih9 =>
          intro k hk s4  H locs zO h1 hk7 h2 zT zKT zE zB zF zN zA zP zG hS ls hl
          refine lv_iload_n hx hb dX11_pass_40 rfl (lv_at hl 2 rfl) ?_
          refine lv_aload_n hx hb dX11_pass_41 rfl (lv_at hl 0 rfl) ?_
          refine g_get (v := .ref (B + 1)) (T := TX11) (ci := 11) (N := 13) hx hb hown hK (gY_X11 hT) rfl (zO 0 _ rfl) 0 (by decide) (hT _ gf_X11_12) rfl dX11_pass_42 ?_
          refine g_get (v := .int ((gMn (gDs π (gLof acc) n9 d) k) 15 0)) (T := TX9) (ci := 9) (N := 16) hx hb hown hK (gY_X9 hT) rfl (h1 0 _ rfl) 12 (by decide) (hT _ gf_X11_61) rfl dX11_pass_45 ?_
          refine lv_icmp_ge (tgt := 81) hx hb dX11_pass_48 (by decide) (fun c12 => ?_) (fun c12 => ?_)
          · have c12 : n9 ≤ k := (gLe (a := n9) (b := k) (ez9 k) rfl (by omega) (by omega)).mp c12
            exact absurd c12 (by omega)
          · have c12 : ¬ n9 ≤ k := fun z => c12 ((gLe (a := n9) (b := k) (ez9 k) rfl (by omega) (by omega)).mpr z)
            refine lv_aload_n hx hb dX11_pass_51 rfl (lv_at hl 0 rfl) ?_
            refine g_get (v := .ref (B + 1)) (T := TX11) (ci := 11) (N := 13) hx hb hown hK (gY_X11 hT) rfl (zO 0 _ rfl) 0 (by decide) (hT _ gf_X11_12) rfl dX11_pass_52 ?_
            refine g_get (v := .ref (B + 1 + 8)) (T := TX9) (ci := 9) (N := 16) hx hb hown hK (gY_X9 hT) rfl (h1 0 _ rfl) 7 (by decide) (hT _ gf_X11_85) rfl dX11_pass_55 ?_
            refine lv_iload_n hx hb dX11_pass_58 rfl (lv_at hl 2 rfl) ?_
            refine lv_sipush (v := 9999) hx hb dX11_pass_59 (by decide) ?_
            refine lv_aload_n hx hb dX11_pass_62 rfl (lv_at hl 0 rfl) ?_
            refine g_get (v := .ref (B + 1)) (T := TX11) (ci := 11) (N := 13) hx hb hown hK (gY_X11 hT) rfl (zO 0 _ rfl) 0 (by decide) (hT _ gf_X11_12) rfl dX11_pass_63 ?_
            refine g_get (v := .ref (B + 1 + 8)) (T := TX9) (ci := 9) (N := 16) hx hb hown hK (gY_X9 hT) rfl (h1 0 _ rfl) 7 (by decide) (hT _ gf_X11_85) rfl dX11_pass_66 ?_
            refine lv_iload_n hx hb dX11_pass_69 rfl (lv_at hl 2 rfl) ?_
            refine g_ia (j := k) (v := (gMn (gDs π (gLof acc) n9 d) k) 6 k) hx hb hK (h1 8 _ rfl) rfl (by omega) (Nat.le_of_ble_eq_true rfl) rfl dX11_pass_70 ?_
            refine va_mmin hx hb (hml.trans hl.1.symm) hown (hT _ gm_X11_147) (hT _ gt_Lib_Math_min_name) (hT _ gn_java_lang_Math) (hT _ gc_Lib_Math_min_name) (Nat.le_of_ble_eq_true rfl) (Nat.le_of_ble_eq_true rfl) (Nat.zero_le _) (Nat.zero_le _) dX11_pass_71 ?_
            refine g_is (j := k) hx hb hK hS (h1 8 _ rfl) rfl (by omega) (Nat.le_of_ble_eq_true rfl) (by omega) dX11_pass_74 (fun H13 locs c14 oq hS => ?_)
            have h1 : gSg G (B + 1) (gLS G (B + 1) (gU (gMn (gDs π (gLof acc) n9 d) k) 6 k (if (gMn (gDs π (gLof acc) n9 d) k) 6 k < 9999 then (gMn (gDs π (gLof acc) n9 d) k) 6 k else 9999)) lp ρ) H13 := gSg_set h1 8 c14 oq
            have zO := gSg_off zO oq (by simp only [List.length_cons, List.length_nil]; omega)
            have hk7 := gSg_off hk7 oq (by simp only [List.length_cons, List.length_nil]; omega)
            have h2 := gSg_off h2 oq (by simp only [List.length_cons, List.length_nil]; omega)
            have zT := gSg_off zT oq (by simp only [List.length_cons, List.length_nil]; omega)
            have zKT := gSg_off zKT oq (by simp only [List.length_cons, List.length_nil]; omega)
            have zE := gSg_off zE oq (by simp only [List.length_cons, List.length_nil]; omega)
            have zB := gSg_off zB oq (by simp only [List.length_cons, List.length_nil]; omega)
            have zF := gSg_off zF oq (by simp only [List.length_cons, List.length_nil]; omega)
            have zN := gSg_off zN oq (by simp only [List.length_cons, List.length_nil]; omega)
            have zA := gSg_off zA oq (by simp only [List.length_cons, List.length_nil]; omega)
            have zP := gSg_off zP oq (by simp only [List.length_cons, List.length_nil]; omega)
            have zG := gRows_off zG oq (by omega)
            refine lv_iinc (v := nI (k + 1)) (lv' := [(2, .int (nI (k + 1))), (0, .ref B), (1, .int (nI d))]) hx hb dX11_pass_75 hl (k := 2) rfl (gAdd rfl (show Int32.ofInt 1 = nI 1 from rfl)) (by decide) rfl (fun ls hl => ?_)
            refine lv_goto (tgt := 40) hx hb dX11_pass_78 (by decide) ?_
            rw [show gU (gMn (gDs π (gLof acc) n9 d) k) 6 k (if (gMn (gDs π (gLof acc) n9 d) k) 6 k < 9999 then (gMn (gDs π (gLof acc) n9 d) k) 6 k else 9999) = gMn (gDs π (gLof acc) n9 d) (k + 1) from by rw [gMn]] at h1
            exact ih9 (k + 1) (by omega) s4  _ _ zO h1 hk7 h2 zT zKT zE zB zF zN zA zP zG hS _ (by have hl := lv_sub hl [1, 2, 0] rfl; exact hl)
      exact loop (n9 - 0) 0 (by first | omega | simp) s4 _ _ zO h1 hk7 h2 zT zKT zE zB zF zN zA zP zG hS _ (lv_sub hl [1, 2, 0] rfl)
    · refine lv_bipush (v := (-3)) hx hb dX11_pass_27 (by decide) ?_
      rw [← hQ]
      exact g_iret hx hb hr hlk hS dX11_pass_29 (by rw [show gqPass π (gLof acc) n9 (nI d) = ((-3), π) from by simp only [gqPass, if_pos c5, if_neg c6]]; exact ⟨rfl, _, hrr, zO, h1, hk7, ⟨_, h2⟩, ⟨_, _, _, zT⟩, zKT, ⟨_, hrk, zE⟩, zB, zF, ⟨_, zN⟩, zA, zP, zG⟩)
  · have c5 : ¬ (0 ≤ m ∧ m ≤ 60) := gB_0.mp c5
    refine lv_bipush (v := (-2)) hx hb dX11_pass_9 (by decide) ?_
    rw [← hQ]
    exact g_iret hx hb hr hlk hS dX11_pass_11 (by rw [show gqPass π (gLof acc) n9 m = ((-2), π) from by simp only [gqPass, if_neg c5]]; exact ⟨rfl, _, hrr, zO, h1, hk7, ⟨_, h2⟩, ⟨_, _, _, zT⟩, zKT, ⟨_, hrk, zE⟩, zB, zF, ⟨_, zN⟩, zA, zP, zG⟩)
