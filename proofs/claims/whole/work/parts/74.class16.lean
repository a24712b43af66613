set_option maxHeartbeats 4000000 in
set_option maxRecDepth 100000 in
theorem c_X11_see (l : Launch) (G : gW) (B lp : Nat) (π πk f μ α : gPS) (lk : Nat) (g : Nat → Int64) (acc : List (Nat × Nat × List Nat)) (hcl : gClo f acc) (hI : gInv π) (hlp : lp = B + 23 ∨ lp = B + 58 ∨ lp = B + 93 ∨ (B + 120 ≤ lp ∧ lp + 6 ≤ B + 156)) (p w so : Int32) : gCI l yX11_see cX11_see 4 .int (gRm 1 40) G [.ref B, .int p, .int w, .int so] (fun H => gCW G B lp π lk πk f μ α g H) (fun r H => r = (gqSee π p w so).1 ∧ gCW G B lp ((gqSee π p w so).2) lk πk f μ α g H) (fun q => (lp ≤ q ∧ q < lp + 6) ∨ (B ≤ q ∧ q < B + 23) ∨ (B + 36 ≤ q ∧ q < B + 58) ∨ (B + 71 ≤ q ∧ q < B + 93) ∨ (B + 106 ≤ q ∧ q < B + 120)) := by
  refine g_start (by decide) (Nat.le_of_ble_eq_true rfl) ?_
  intro pp_ ee_ s mm_ aa_ below meth cc_ ls Q hQ hX hE hP hl
  obtain ⟨hx, hb, hr, hml, hown, hT, hlk, hnm⟩ := hX
  have hK := hE.2.1
  obtain ⟨ρ, hrr, zO, h1, hk7, ⟨s4, h2⟩, ⟨πt, lt, ρt, zT⟩, zKT, ⟨ρk, hrk, zE⟩, zB, zF, ⟨γ, zN⟩, zA, zP, zG⟩ := hP
  have hS : va_S (fun q => (lp ≤ q ∧ q < lp + 6) ∨ (B ≤ q ∧ q < B + 23) ∨ (B + 36 ≤ q ∧ q < B + 58) ∨ (B + 71 ≤ q ∧ q < B + 93) ∨ (B + 106 ≤ q ∧ q < B + 120)) s.heap s.heap [] := va_S.rf
  have hl : lv_has ls 4 [(0, .ref B), (1, .int p), (2, .int w), (3, .int so)] := hl
  obtain ⟨⟨n, hn, hz, h0z⟩, hki, ⟨sn, hsn, hz3, hsp⟩, ⟨pn, hpn, hz4, hpo⟩, ⟨bn, hbn, hz5, hbo⟩, hfl9⟩ := id hI
  have hd1 : lp + 6 ≤ B + 1 ∨ lp = B + 1 + 22 ∨ B + 1 + 35 ≤ lp := by omega
  have hd36 : lp + 6 ≤ B + 36 ∨ lp = B + 36 + 22 ∨ B + 36 + 35 ≤ lp := by omega
  refine lv_iload_n hx hb dX11_see_0 rfl (lv_at hl 1 rfl) ?_
  refine lv_iconst (v := (-1)) hx hb dX11_see_1 (by decide) ?_
  refine lv_icmp_ne (tgt := 16) hx hb dX11_see_2 (by decide) (fun c1 => ?_) (fun c1 => ?_)
  · refine lv_aload_n hx hb dX11_see_16 rfl (lv_at hl 0 rfl) ?_
    refine lv_iload_n hx hb dX11_see_17 rfl (lv_at hl 1 rfl) ?_
    refine g_ki (g_runV (T := TX11) (ci := 11) (N := 13) (rest := []) hx hb hml hown hE hT (c_X11_isPigeon l G B lp π ρ μ n hz (by omega) p) gM_X11_isPigeon gm_X11_69 gi_X11_isPigeon gs_RX11_yX11_isPigeon_yX11_isPigeon rfl (zO 0 _ rfl) ⟨zO, h1⟩ rfl hl.1 ⟨rfl, rfl⟩ ⟨Nat.le_of_ble_eq_true rfl, Nat.le_of_ble_eq_true rfl⟩ ⟨Nat.zero_le _, Nat.zero_le _⟩ rfl (Nat.le_of_ble_eq_true rfl) dX11_see_18) hS (fun _ h => h.elim) (fun r5 H2 locs q3 k4 hS => ?_)
    subst q3
    have zO := gSg_free zO k4 (by intro k hk q; simp only [List.length_cons, List.length_nil] at hk; omega)
    have h1 := gSg_free h1 k4 (by intro k hk q; simp only [List.length_cons, List.length_nil] at hk; omega)
    have hk7 := gSg_free hk7 k4 (by intro k hk q; simp only [List.length_cons, List.length_nil] at hk; omega)
    have h2 := gSg_free h2 k4 (by intro k hk q; simp only [List.length_cons, List.length_nil] at hk; omega)
    have zT := gSg_free zT k4 (by intro k hk q; simp only [List.length_cons, List.length_nil] at hk; omega)
    have zKT := gSg_free zKT k4 (by intro k hk q; simp only [List.length_cons, List.length_nil] at hk; omega)
    have zE := gSg_free zE k4 (by intro k hk q; simp only [List.length_cons, List.length_nil] at hk; omega)
    have zB := gSg_free zB k4 (by intro k hk q; simp only [List.length_cons, List.length_nil] at hk; omega)
    have zF := gSg_free zF k4 (by intro k hk q; simp only [List.length_cons, List.length_nil] at hk; omega)
    have zN := gSg_free zN k4 (by intro k hk q; simp only [List.length_cons, List.length_nil] at hk; omega)
    have zA := gSg_free zA k4 (by intro k hk q; simp only [List.length_cons, List.length_nil] at hk; omega)
    have zP := gSg_free zP k4 (by intro k hk q; simp only [List.length_cons, List.length_nil] at hk; omega)
    have zG := gRows_free zG k4 (by intro k hk q; omega)
    refine lv_if_ne (tgt := 26) hx hb dX11_see_21 (by decide) (fun c6 => ?_) (fun c6 => ?_)
    · have c6 : 0 ≤ p ∧ p < π 15 0 := gB_1.mp c6
      refine lv_iload_n hx hb dX11_see_26 rfl (lv_at hl 2 rfl) ?_
      refine lv_sipush (v := 4095) hx hb dX11_see_27 (by decide) ?_
      refine g_ki (g_runS (rest := []) hx hb hml hown hE hT (c_X11_isUpTo l G w 4095) gM_X11_isUpTo gm_X11_57 gt_X11_isUpTo trivial rfl hl.1 ⟨rfl, rfl⟩ ⟨Nat.le_of_ble_eq_true rfl, Nat.le_of_ble_eq_true rfl⟩ ⟨Nat.zero_le _, Nat.zero_le _⟩ rfl (Nat.le_of_ble_eq_true rfl) dX11_see_30) hS (fun _ h => h.elim) (fun r10 H7 locs q8 k9 hS => ?_)
      subst q8
      have zO := gSg_free zO k9 (by intro k hk q; simp only [List.length_cons, List.length_nil] at hk; omega)
      have h1 := gSg_free h1 k9 (by intro k hk q; simp only [List.length_cons, List.length_nil] at hk; omega)
      have hk7 := gSg_free hk7 k9 (by intro k hk q; simp only [List.length_cons, List.length_nil] at hk; omega)
      have h2 := gSg_free h2 k9 (by intro k hk q; simp only [List.length_cons, List.length_nil] at hk; omega)
      have zT := gSg_free zT k9 (by intro k hk q; simp only [List.length_cons, List.length_nil] at hk; omega)
      have zKT := gSg_free zKT k9 (by intro k hk q; simp only [List.length_cons, List.length_nil] at hk; omega)
      have zE := gSg_free zE k9 (by intro k hk q; simp only [List.length_cons, List.length_nil] at hk; omega)
      have zB := gSg_free zB k9 (by intro k hk q; simp only [List.length_cons, List.length_nil] at hk; omega)
      have zF := gSg_free zF k9 (by intro k hk q; simp only [List.length_cons, List.length_nil] at hk; omega)
      have zN := gSg_free zN k9 (by intro k hk q; simp only [List.length_cons, List.length_nil] at hk; omega)
      have zA := gSg_free zA k9 (by intro k hk q; simp only [List.length_cons, List.length_nil] at hk; omega)
      have zP := gSg_free zP k9 (by intro k hk q; simp only [List.length_cons, List.length_nil] at hk; omega)
      have zG := gRows_free zG k9 (by intro k hk q; omega)
      refine lv_if_ne (tgt := 39) hx hb dX11_see_33 (by decide) (fun c11 => ?_) (fun c11 => ?_)
      · have c11 : 0 ≤ w ∧ w ≤ 4095 := gB_1.mp c11
        refine lv_aload_n hx hb dX11_see_39 rfl (lv_at hl 0 rfl) ?_
        refine g_get (v := .ref (B + 1)) (T := TX11) (ci := 11) (N := 13) hx hb hown hK (gY_X11 hT) rfl (zO 0 _ rfl) 0 (by decide) (hT _ gf_X11_12) rfl dX11_see_40 ?_
        refine g_get (v := .ref (B + 1 + 10)) (T := TX9) (ci := 9) (N := 16) hx hb hown hK (gY_X9 hT) rfl (h1 0 _ rfl) 9 (by decide) (hT _ gf_X11_175) rfl dX11_see_43 ?_
        refine lv_iload_n hx hb dX11_see_46 rfl (lv_at hl 1 rfl) ?_
        refine lv_iload_n hx hb dX11_see_47 rfl (lv_at hl 2 rfl) ?_
        refine lv_iload_n hx hb dX11_see_48 rfl (lv_at hl 3 rfl) ?_
        refine lv_if_eq (tgt := 56) hx hb dX11_see_49 (by decide) (fun c12 => ?_) (fun c12 => ?_)
        · refine lv_iconst (v := 0) hx hb dX11_see_56 (by decide) ?_
          refine g_ki (g_runV (T := TX8) (ci := 8) (N := 4) (rest := []) hx hb hml hown hE hT (c_X8_takes_seen l G (B + 1) lp π ρ sn hz3 hsn p w 0) gM_X8_takes gm_X11_184 gi_X8_takes gs_RX8_yX8_takes_yX8_takes rfl (h1 10 _ rfl) h1 rfl hl.1 ⟨rfl, rfl⟩ ⟨Nat.le_of_ble_eq_true rfl, Nat.le_of_ble_eq_true rfl⟩ ⟨Nat.zero_le _, Nat.zero_le _⟩ rfl (Nat.le_of_ble_eq_true rfl) dX11_see_57) hS (by intro q hq; omega) (fun r16 H13 locs q14 k15 hS => ?_)
          obtain ⟨e9, h1⟩ := q14
          rw [e9]
          have zO := gSg_free zO k15 (by intro k hk q; simp only [List.length_cons, List.length_nil] at hk; omega)
          have hk7 := gSg_free hk7 k15 (by intro k hk q; simp only [List.length_cons, List.length_nil] at hk; omega)
          have h2 := gSg_free h2 k15 (by intro k hk q; simp only [List.length_cons, List.length_nil] at hk; omega)
          have zT := gSg_free zT k15 (by intro k hk q; simp only [List.length_cons, List.length_nil] at hk; omega)
          have zKT := gSg_free zKT k15 (by intro k hk q; simp only [List.length_cons, List.length_nil] at hk; omega)
          have zE := gSg_free zE k15 (by intro k hk q; simp only [List.length_cons, List.length_nil] at hk; omega)
          have zB := gSg_free zB k15 (by intro k hk q; simp only [List.length_cons, List.length_nil] at hk; omega)
          have zF := gSg_free zF k15 (by intro k hk q; simp only [List.length_cons, List.length_nil] at hk; omega)
          have zN := gSg_free zN k15 (by intro k hk q; simp only [List.length_cons, List.length_nil] at hk; omega)
          have zA := gSg_free zA k15 (by intro k hk q; simp only [List.length_cons, List.length_nil] at hk; omega)
          have zP := gSg_free zP k15 (by intro k hk q; simp only [List.length_cons, List.length_nil] at hk; omega)
          have zG := gRows_free zG k15 (by intro k hk q; omega)
          by_cases h9 : sn = 5
          · rw [if_pos h9]
            rw [if_pos h9, if_pos h9] at h1
            rw [← hQ]
            exact g_iret hx hb hr hlk hS dX11_see_60 (by rw [show gqSee π p w so = (-4, π) from by rw [gqSee, if_neg c1, if_pos c6, if_pos c11, if_pos (show π 15 3 = 5 from (gEq (b := 5) hz3 rfl (by omega) (by omega)).mpr h9)]]; exact ⟨rfl, _, hrr, zO, h1, hk7, ⟨_, h2⟩, ⟨_, _, _, zT⟩, zKT, ⟨_, hrk, zE⟩, zB, zF, ⟨_, zN⟩, zA, zP, zG⟩)
          · rw [if_neg h9]
            rw [if_neg h9, if_neg h9] at h1
            rw [← hQ]
            exact g_iret hx hb hr hlk hS dX11_see_60 (by rw [show gqSee π p w so = (nI (sn + 1), gU (gU (gU (gU π 8 sn p) 9 sn w) 15 3 (nI (sn + 1))) 10 sn 0) from by rw [gqSee, if_neg c1, if_pos c6, if_pos c11, if_neg (show ¬ π 15 3 = 5 from fun z => h9 ((gEq (b := 5) hz3 rfl (by omega) (by omega)).mp z)), hz3, show (nI sn).toNatClampNeg = sn from nI_clamp (by omega), show (nI sn + 1 : Int32) = nI (sn + 1) from gAdd rfl rfl, if_pos c12]]; exact ⟨rfl, _, gRho_s hrr hz3 (by omega), zO, h1, hk7, ⟨_, h2⟩, ⟨_, _, _, zT⟩, zKT, ⟨_, hrk, zE⟩, zB, zF, ⟨_, zN⟩, zA, zP, zG⟩)
        · refine lv_iconst (v := 1) hx hb dX11_see_52 (by decide) ?_
          refine lv_goto (tgt := 57) hx hb dX11_see_53 (by decide) ?_
          refine g_ki (g_runV (T := TX8) (ci := 8) (N := 4) (rest := []) hx hb hml hown hE hT (c_X8_takes_seen l G (B + 1) lp π ρ sn hz3 hsn p w 1) gM_X8_takes gm_X11_184 gi_X8_takes gs_RX8_yX8_takes_yX8_takes rfl (h1 10 _ rfl) h1 rfl hl.1 ⟨rfl, rfl⟩ ⟨Nat.le_of_ble_eq_true rfl, Nat.le_of_ble_eq_true rfl⟩ ⟨Nat.zero_le _, Nat.zero_le _⟩ rfl (Nat.le_of_ble_eq_true rfl) dX11_see_57) hS (by intro q hq; omega) (fun r20 H17 locs q18 k19 hS => ?_)
          obtain ⟨e9, h1⟩ := q18
          rw [e9]
          have zO := gSg_free zO k19 (by intro k hk q; simp only [List.length_cons, List.length_nil] at hk; omega)
          have hk7 := gSg_free hk7 k19 (by intro k hk q; simp only [List.length_cons, List.length_nil] at hk; omega)
          have h2 := gSg_free h2 k19 (by intro k hk q; simp only [List.length_cons, List.length_nil] at hk; omega)
          have zT := gSg_free zT k19 (by intro k hk q; simp only [List.length_cons, List.length_nil] at hk; omega)
          have zKT := gSg_free zKT k19 (by intro k hk q; simp only [List.length_cons, List.length_nil] at hk; omega)
          have zE := gSg_free zE k19 (by intro k hk q; simp only [List.length_cons, List.length_nil] at hk; omega)
          have zB := gSg_free zB k19 (by intro k hk q; simp only [List.length_cons, List.length_nil] at hk; omega)
          have zF := gSg_free zF k19 (by intro k hk q; simp only [List.length_cons, List.length_nil] at hk; omega)
          have zN := gSg_free zN k19 (by intro k hk q; simp only [List.length_cons, List.length_nil] at hk; omega)
          have zA := gSg_free zA k19 (by intro k hk q; simp only [List.length_cons, List.length_nil] at hk; omega)
          have zP := gSg_free zP k19 (by intro k hk q; simp only [List.length_cons, List.length_nil] at hk; omega)
          have zG := gRows_free zG k19 (by intro k hk q; omega)
          by_cases h9 : sn = 5
          · rw [if_pos h9]
            rw [if_pos h9, if_pos h9] at h1
            rw [← hQ]
            exact g_iret hx hb hr hlk hS dX11_see_60 (by rw [show gqSee π p w so = (-4, π) from by rw [gqSee, if_neg c1, if_pos c6, if_pos c11, if_pos (show π 15 3 = 5 from (gEq (b := 5) hz3 rfl (by omega) (by omega)).mpr h9)]]; exact ⟨rfl, _, hrr, zO, h1, hk7, ⟨_, h2⟩, ⟨_, _, _, zT⟩, zKT, ⟨_, hrk, zE⟩, zB, zF, ⟨_, zN⟩, zA, zP, zG⟩)
          · rw [if_neg h9]
            rw [if_neg h9, if_neg h9] at h1
            rw [← hQ]
            exact g_iret hx hb hr hlk hS dX11_see_60 (by rw [show gqSee π p w so = (nI (sn + 1), gU (gU (gU (gU π 8 sn p) 9 sn w) 15 3 (nI (sn + 1))) 10 sn 1) from by rw [gqSee, if_neg c1, if_pos c6, if_pos c11, if_neg (show ¬ π 15 3 = 5 from fun z => h9 ((gEq (b := 5) hz3 rfl (by omega) (by omega)).mp z)), hz3, show (nI sn).toNatClampNeg = sn from nI_clamp (by omega), show (nI sn + 1 : Int32) = nI (sn + 1) from gAdd rfl rfl, if_neg c12]]; exact ⟨rfl, _, gRho_s hrr hz3 (by omega), zO, h1, hk7, ⟨_, h2⟩, ⟨_, _, _, zT⟩, zKT, ⟨_, hrk, zE⟩, zB, zF, ⟨_, zN⟩, zA, zP, zG⟩)
      · have c11 : ¬ (0 ≤ w ∧ w ≤ 4095) := gB_0.mp c11
        refine lv_bipush (v := (-2)) hx hb dX11_see_36 (by decide) ?_
        rw [← hQ]
        exact g_iret hx hb hr hlk hS dX11_see_38 (by rw [show gqSee π p w so = ((-2), π) from by rw [gqSee, if_neg c1, if_pos c6, if_neg c11]]; exact ⟨rfl, _, hrr, zO, h1, hk7, ⟨_, h2⟩, ⟨_, _, _, zT⟩, zKT, ⟨_, hrk, zE⟩, zB, zF, ⟨_, zN⟩, zA, zP, zG⟩)
    · have c6 : ¬ (0 ≤ p ∧ p < π 15 0) := gB_0.mp c6
      refine lv_iconst (v := (-1)) hx hb dX11_see_24 (by decide) ?_
      rw [← hQ]
      exact g_iret hx hb hr hlk hS dX11_see_25 (by rw [show gqSee π p w so = ((-1), π) from by rw [gqSee, if_neg c1, if_neg c6]]; exact ⟨rfl, _, hrr, zO, h1, hk7, ⟨_, h2⟩, ⟨_, _, _, zT⟩, zKT, ⟨_, hrk, zE⟩, zB, zF, ⟨_, zN⟩, zA, zP, zG⟩)
  · refine lv_aload_n hx hb dX11_see_5 rfl (lv_at hl 0 rfl) ?_
    refine g_get (v := .ref (B + 1)) (T := TX11) (ci := 11) (N := 13) hx hb hown hK (gY_X11 hT) rfl (zO 0 _ rfl) 0 (by decide) (hT _ gf_X11_12) rfl dX11_see_6 ?_
    refine g_get (v := .ref (B + 1 + 10)) (T := TX9) (ci := 9) (N := 16) hx hb hown hK (gY_X9 hT) rfl (h1 0 _ rfl) 9 (by decide) (hT _ gf_X11_175) rfl dX11_see_9 ?_
    refine g_ki (g_runV (T := TX8) (ci := 8) (N := 4) (rest := []) hx hb hml hown hE hT (c_X8_empties_seen l G (B + 1) lp π ρ) gM_X8_empties gm_X11_179 gi_X8_empties gs_RX8_yX8_empties_yX8_empties rfl (h1 10 _ rfl) h1 rfl hl.1 ⟨rfl, rfl⟩ ⟨Nat.le_of_ble_eq_true rfl, Nat.le_of_ble_eq_true rfl⟩ ⟨Nat.zero_le _, Nat.zero_le _⟩ rfl (Nat.le_of_ble_eq_true rfl) dX11_see_12) hS (by intro q hq; omega) (fun r24 H21 locs q22 k23 hS => ?_)
    obtain ⟨e9, h1⟩ := q22
    rw [e9]
    have zO := gSg_free zO k23 (by intro k hk q; simp only [List.length_cons, List.length_nil] at hk; omega)
    have hk7 := gSg_free hk7 k23 (by intro k hk q; simp only [List.length_cons, List.length_nil] at hk; omega)
    have h2 := gSg_free h2 k23 (by intro k hk q; simp only [List.length_cons, List.length_nil] at hk; omega)
    have zT := gSg_free zT k23 (by intro k hk q; simp only [List.length_cons, List.length_nil] at hk; omega)
    have zKT := gSg_free zKT k23 (by intro k hk q; simp only [List.length_cons, List.length_nil] at hk; omega)
    have zE := gSg_free zE k23 (by intro k hk q; simp only [List.length_cons, List.length_nil] at hk; omega)
    have zB := gSg_free zB k23 (by intro k hk q; simp only [List.length_cons, List.length_nil] at hk; omega)
    have zF := gSg_free zF k23 (by intro k hk q; simp only [List.length_cons, List.length_nil] at hk; omega)
    have zN := gSg_free zN k23 (by intro k hk q; simp only [List.length_cons, List.length_nil] at hk; omega)
    have zA := gSg_free zA k23 (by intro k hk q; simp only [List.length_cons, List.length_nil] at hk; omega)
    have zP := gSg_free zP k23 (by intro k hk q; simp only [List.length_cons, List.length_nil] at hk; omega)
    have zG := gRows_free zG k23 (by intro k hk q; omega)
    rw [← hQ]
    exact g_iret hx hb hr hlk hS dX11_see_15 (by rw [show gqSee π p w so = (0, gU π 15 3 0) from by rw [gqSee, if_pos c1]]; exact ⟨rfl, _, gRho_e (by decide) hrr, zO, h1, hk7, ⟨_, h2⟩, ⟨_, _, _, zT⟩, zKT, ⟨_, hrk, zE⟩, zB, zF, ⟨_, zN⟩, zA, zP, zG⟩)

set_option maxHeartbeats 4000000 in
set_option maxRecDepth 100000 in
theorem c_X11_book (l : Launch) (G : gW) (B lp : Nat) (π πk f μ α : gPS) (lk : Nat) (g : Nat → Int64) (acc : List (Nat × Nat × List Nat)) (hcl : gClo f acc) (hI : gInv π) (hlp : lp = B + 23 ∨ lp = B + 58 ∨ lp = B + 93 ∨ (B + 120 ≤ lp ∧ lp + 6 ≤ B + 156)) (w c : Int32) : gCI l yX11_book cX11_book 3 .int (gRm 1 40) G [.ref B, .int w, .int c] (fun H => gCW G B lp π lk πk f μ α g H) (fun r H => r = (gqBook π w c).1 ∧ gCW G B lp ((gqBook π w c).2) lk πk f μ α g H) (fun q => (lp ≤ q ∧ q < lp + 6) ∨ (B ≤ q ∧ q < B + 23) ∨ (B + 36 ≤ q ∧ q < B + 58) ∨ (B + 71 ≤ q ∧ q < B + 93) ∨ (B + 106 ≤ q ∧ q < B + 120)) := by
  refine g_start (by decide) (Nat.le_of_ble_eq_true rfl) ?_
  intro pp_ ee_ s mm_ aa_ below meth cc_ ls Q hQ hX hE hP hl
  obtain ⟨hx, hb, hr, hml, hown, hT, hlk, hnm⟩ := hX
  have hK := hE.2.1
  obtain ⟨ρ, hrr, zO, h1, hk7, ⟨s4, h2⟩, ⟨πt, lt, ρt, zT⟩, zKT, ⟨ρk, hrk, zE⟩, zB, zF, ⟨γ, zN⟩, zA, zP, zG⟩ := hP
  have hS : va_S (fun q => (lp ≤ q ∧ q < lp + 6) ∨ (B ≤ q ∧ q < B + 23) ∨ (B + 36 ≤ q ∧ q < B + 58) ∨ (B + 71 ≤ q ∧ q < B + 93) ∨ (B + 106 ≤ q ∧ q < B + 120)) s.heap s.heap [] := va_S.rf
  have hl : lv_has ls 3 [(0, .ref B), (1, .int w), (2, .int c)] := hl
  obtain ⟨⟨n, hn, hz, h0z⟩, hki, ⟨sn, hsn, hz3, hsp⟩, ⟨pn, hpn, hz4, hpo⟩, ⟨bn, hbn, hz5, hbo⟩, hfl9⟩ := id hI
  have hd1 : lp + 6 ≤ B + 1 ∨ lp = B + 1 + 22 ∨ B + 1 + 35 ≤ lp := by omega
  have hd36 : lp + 6 ≤ B + 36 ∨ lp = B + 36 + 22 ∨ B + 36 + 35 ≤ lp := by omega
  refine lv_iload_n hx hb dX11_book_0 rfl (lv_at hl 1 rfl) ?_
  refine lv_iconst (v := (-1)) hx hb dX11_book_1 (by decide) ?_
  refine lv_icmp_ne (tgt := 16) hx hb dX11_book_2 (by decide) (fun c1 => ?_) (fun c1 => ?_)
  · refine lv_iload_n hx hb dX11_book_16 rfl (lv_at hl 1 rfl) ?_
    refine g_ki (g_runS (rest := []) hx hb hml hown hE hT (c_X11_isWord l G w) gM_X11_isWord gm_X11_98 gt_X11_isWord trivial rfl hl.1 ⟨rfl, rfl⟩ ⟨Nat.le_of_ble_eq_true rfl, Nat.le_of_ble_eq_true rfl⟩ ⟨Nat.zero_le _, Nat.zero_le _⟩ rfl (Nat.le_of_ble_eq_true rfl) dX11_book_17) hS (fun _ h => h.elim) (fun r5 H2 locs q3 k4 hS => ?_)
    subst q3
    have zO := gSg_free zO k4 (by intro k hk q; simp only [List.length_cons, List.length_nil] at hk; omega)
    have h1 := gSg_free h1 k4 (by intro k hk q; simp only [List.length_cons, List.length_nil] at hk; omega)
    have hk7 := gSg_free hk7 k4 (by intro k hk q; simp only [List.length_cons, List.length_nil] at hk; omega)
    have h2 := gSg_free h2 k4 (by intro k hk q; simp only [List.length_cons, List.length_nil] at hk; omega)
    have zT := gSg_free zT k4 (by intro k hk q; simp only [List.length_cons, List.length_nil] at hk; omega)
    have zKT := gSg_free zKT k4 (by intro k hk q; simp only [List.length_cons, List.length_nil] at hk; omega)
    have zE := gSg_free zE k4 (by intro k hk q; simp only [List.length_cons, List.length_nil] at hk; omega)
    have zB := gSg_free zB k4 (by intro k hk q; simp only [List.length_cons, List.length_nil] at hk; omega)
    have zF := gSg_free zF k4 (by intro k hk q; simp only [List.length_cons, List.length_nil] at hk; omega)
    have zN := gSg_free zN k4 (by intro k hk q; simp only [List.length_cons, List.length_nil] at hk; omega)
    have zA := gSg_free zA k4 (by intro k hk q; simp only [List.length_cons, List.length_nil] at hk; omega)
    have zP := gSg_free zP k4 (by intro k hk q; simp only [List.length_cons, List.length_nil] at hk; omega)
    have zG := gRows_free zG k4 (by intro k hk q; omega)
    refine lv_if_ne (tgt := 25) hx hb dX11_book_20 (by decide) (fun c6 => ?_) (fun c6 => ?_)
    · have c6 : 0 ≤ w ∧ w ≤ 11 := gB_1.mp c6
      refine lv_iload_n hx hb dX11_book_25 rfl (lv_at hl 2 rfl) ?_
      refine lv_bipush (v := 9) hx hb dX11_book_26 (by decide) ?_
      refine g_ki (g_runS (rest := []) hx hb hml hown hE hT (c_X11_isUpTo l G c 9) gM_X11_isUpTo gm_X11_57 gt_X11_isUpTo trivial rfl hl.1 ⟨rfl, rfl⟩ ⟨Nat.le_of_ble_eq_true rfl, Nat.le_of_ble_eq_true rfl⟩ ⟨Nat.zero_le _, Nat.zero_le _⟩ rfl (Nat.le_of_ble_eq_true rfl) dX11_book_28) hS (fun _ h => h.elim) (fun r10 H7 locs q8 k9 hS => ?_)
      subst q8
      have zO := gSg_free zO k9 (by intro k hk q; simp only [List.length_cons, List.length_nil] at hk; omega)
      have h1 := gSg_free h1 k9 (by intro k hk q; simp only [List.length_cons, List.length_nil] at hk; omega)
      have hk7 := gSg_free hk7 k9 (by intro k hk q; simp only [List.length_cons, List.length_nil] at hk; omega)
      have h2 := gSg_free h2 k9 (by intro k hk q; simp only [List.length_cons, List.length_nil] at hk; omega)
      have zT := gSg_free zT k9 (by intro k hk q; simp only [List.length_cons, List.length_nil] at hk; omega)
      have zKT := gSg_free zKT k9 (by intro k hk q; simp only [List.length_cons, List.length_nil] at hk; omega)
      have zE := gSg_free zE k9 (by intro k hk q; simp only [List.length_cons, List.length_nil] at hk; omega)
      have zB := gSg_free zB k9 (by intro k hk q; simp only [List.length_cons, List.length_nil] at hk; omega)
      have zF := gSg_free zF k9 (by intro k hk q; simp only [List.length_cons, List.length_nil] at hk; omega)
      have zN := gSg_free zN k9 (by intro k hk q; simp only [List.length_cons, List.length_nil] at hk; omega)
      have zA := gSg_free zA k9 (by intro k hk q; simp only [List.length_cons, List.length_nil] at hk; omega)
      have zP := gSg_free zP k9 (by intro k hk q; simp only [List.length_cons, List.length_nil] at hk; omega)
      have zG := gRows_free zG k9 (by intro k hk q; omega)
      refine lv_if_ne (tgt := 37) hx hb dX11_book_31 (by decide) (fun c11 => ?_) (fun c11 => ?_)
      · have c11 : 0 ≤ c ∧ c ≤ 9 := gB_1.mp c11
        refine lv_aload_n hx hb dX11_book_37 rfl (lv_at hl 0 rfl) ?_
        refine g_get (v := .ref (B + 1)) (T := TX11) (ci := 11) (N := 13) hx hb hown hK (gY_X11 hT) rfl (zO 0 _ rfl) 0 (by decide) (hT _ gf_X11_12) rfl dX11_book_38 ?_
        refine g_get (v := .ref (B + 1 + 18)) (T := TX9) (ci := 9) (N := 16) hx hb hown hK (gY_X9 hT) rfl (h1 0 _ rfl) 11 (by decide) (hT _ gf_X11_214) rfl dX11_book_41 ?_
        refine lv_iload_n hx hb dX11_book_44 rfl (lv_at hl 1 rfl) ?_
        refine lv_iload_n hx hb dX11_book_45 rfl (lv_at hl 2 rfl) ?_
        refine lv_iconst (v := 0) hx hb dX11_book_46 (by decide) ?_
        refine g_ki (g_runV (T := TX8) (ci := 8) (N := 4) (rest := []) hx hb hml hown hE hT (c_X8_takes_book l G (B + 1) lp π ρ bn hz5 hbn w c 0) gM_X8_takes gm_X11_184 gi_X8_takes gs_RX8_yX8_takes_yX8_takes rfl (h1 18 _ rfl) h1 rfl hl.1 ⟨rfl, rfl⟩ ⟨Nat.le_of_ble_eq_true rfl, Nat.le_of_ble_eq_true rfl⟩ ⟨Nat.zero_le _, Nat.zero_le _⟩ rfl (Nat.le_of_ble_eq_true rfl) dX11_book_47) hS (by intro q hq; omega) (fun r15 H12 locs q13 k14 hS => ?_)
        obtain ⟨e9, h1⟩ := q13
        rw [e9]
        have zO := gSg_free zO k14 (by intro k hk q; simp only [List.length_cons, List.length_nil] at hk; omega)
        have hk7 := gSg_free hk7 k14 (by intro k hk q; simp only [List.length_cons, List.length_nil] at hk; omega)
        have h2 := gSg_free h2 k14 (by intro k hk q; simp only [List.length_cons, List.length_nil] at hk; omega)
        have zT := gSg_free zT k14 (by intro k hk q; simp only [List.length_cons, List.length_nil] at hk; omega)
        have zKT := gSg_free zKT k14 (by intro k hk q; simp only [List.length_cons, List.length_nil] at hk; omega)
        have zE := gSg_free zE k14 (by intro k hk q; simp only [List.length_cons, List.length_nil] at hk; omega)
        have zB := gSg_free zB k14 (by intro k hk q; simp only [List.length_cons, List.length_nil] at hk; omega)
        have zF := gSg_free zF k14 (by intro k hk q; simp only [List.length_cons, List.length_nil] at hk; omega)
        have zN := gSg_free zN k14 (by intro k hk q; simp only [List.length_cons, List.length_nil] at hk; omega)
        have zA := gSg_free zA k14 (by intro k hk q; simp only [List.length_cons, List.length_nil] at hk; omega)
        have zP := gSg_free zP k14 (by intro k hk q; simp only [List.length_cons, List.length_nil] at hk; omega)
        have zG := gRows_free zG k14 (by intro k hk q; omega)
        by_cases h9 : bn = 8
        · rw [if_pos h9]
          rw [if_pos h9, if_pos h9] at h1
          rw [← hQ]
          exact g_iret hx hb hr hlk hS dX11_book_50 (by rw [show gqBook π w c = (-4, π) from by rw [gqBook, if_neg c1, if_pos c6, if_pos c11, if_pos (show π 15 5 = 8 from (gEq (b := 8) hz5 rfl (by omega) (by omega)).mpr h9)]]; exact ⟨rfl, _, hrr, zO, h1, hk7, ⟨_, h2⟩, ⟨_, _, _, zT⟩, zKT, ⟨_, hrk, zE⟩, zB, zF, ⟨_, zN⟩, zA, zP, zG⟩)
        · rw [if_neg h9]
          rw [if_neg h9, if_neg h9] at h1
          rw [← hQ]
          exact g_iret hx hb hr hlk hS dX11_book_50 (by rw [show gqBook π w c = (nI (bn + 1), gU (gU (gU π 13 bn w) 15 5 (nI (bn + 1))) 14 bn c) from by rw [gqBook, if_neg c1, if_pos c6, if_pos c11, if_neg (show ¬ π 15 5 = 8 from fun z => h9 ((gEq (b := 8) hz5 rfl (by omega) (by omega)).mp z)), hz5, show (nI bn).toNatClampNeg = bn from nI_clamp (by omega), show (nI bn + 1 : Int32) = nI (bn + 1) from gAdd rfl rfl]]; exact ⟨rfl, _, gRho_b hrr hz5 (by omega), zO, h1, hk7, ⟨_, h2⟩, ⟨_, _, _, zT⟩, zKT, ⟨_, hrk, zE⟩, zB, zF, ⟨_, zN⟩, zA, zP, zG⟩)
      · have c11 : ¬ (0 ≤ c ∧ c ≤ 9) := gB_0.mp c11
        refine lv_bipush (v := (-2)) hx hb dX11_book_34 (by decide) ?_
        rw [← hQ]
        exact g_iret hx hb hr hlk hS dX11_book_36 (by rw [show gqBook π w c = ((-2), π) from by rw [gqBook, if_neg c1, if_pos c6, if_neg c11]]; exact ⟨rfl, _, hrr, zO, h1, hk7, ⟨_, h2⟩, ⟨_, _, _, zT⟩, zKT, ⟨_, hrk, zE⟩, zB, zF, ⟨_, zN⟩, zA, zP, zG⟩)
    · have c6 : ¬ (0 ≤ w ∧ w ≤ 11) := gB_0.mp c6
      refine lv_iconst (v := (-1)) hx hb dX11_book_23 (by decide) ?_
      rw [← hQ]
      exact g_iret hx hb hr hlk hS dX11_book_24 (by rw [show gqBook π w c = ((-1), π) from by rw [gqBook, if_neg c1, if_neg c6]]; exact ⟨rfl, _, hrr, zO, h1, hk7, ⟨_, h2⟩, ⟨_, _, _, zT⟩, zKT, ⟨_, hrk, zE⟩, zB, zF, ⟨_, zN⟩, zA, zP, zG⟩)
  · refine lv_aload_n hx hb dX11_book_5 rfl (lv_at hl 0 rfl) ?_
    refine g_get (v := .ref (B + 1)) (T := TX11) (ci := 11) (N := 13) hx hb hown hK (gY_X11 hT) rfl (zO 0 _ rfl) 0 (by decide) (hT _ gf_X11_12) rfl dX11_book_6 ?_
    refine g_get (v := .ref (B + 1 + 18)) (T := TX9) (ci := 9) (N := 16) hx hb hown hK (gY_X9 hT) rfl (h1 0 _ rfl) 11 (by decide) (hT _ gf_X11_214) rfl dX11_book_9 ?_
    refine g_ki (g_runV (T := TX8) (ci := 8) (N := 4) (rest := []) hx hb hml hown hE hT (c_X8_empties_book l G (B + 1) lp π ρ) gM_X8_empties gm_X11_179 gi_X8_empties gs_RX8_yX8_empties_yX8_empties rfl (h1 18 _ rfl) h1 rfl hl.1 ⟨rfl, rfl⟩ ⟨Nat.le_of_ble_eq_true rfl, Nat.le_of_ble_eq_true rfl⟩ ⟨Nat.zero_le _, Nat.zero_le _⟩ rfl (Nat.le_of_ble_eq_true rfl) dX11_book_12) hS (by intro q hq; omega) (fun r19 H16 locs q17 k18 hS => ?_)
    obtain ⟨e9, h1⟩ := q17
    rw [e9]
    have zO := gSg_free zO k18 (by intro k hk q; simp only [List.length_cons, List.length_nil] at hk; omega)
    have hk7 := gSg_free hk7 k18 (by intro k hk q; simp only [List.length_cons, List.length_nil] at hk; omega)
    have h2 := gSg_free h2 k18 (by intro k hk q; simp only [List.length_cons, List.length_nil] at hk; omega)
    have zT := gSg_free zT k18 (by intro k hk q; simp only [List.length_cons, List.length_nil] at hk; omega)
    have zKT := gSg_free zKT k18 (by intro k hk q; simp only [List.length_cons, List.length_nil] at hk; omega)
    have zE := gSg_free zE k18 (by intro k hk q; simp only [List.length_cons, List.length_nil] at hk; omega)
    have zB := gSg_free zB k18 (by intro k hk q; simp only [List.length_cons, List.length_nil] at hk; omega)
    have zF := gSg_free zF k18 (by intro k hk q; simp only [List.length_cons, List.length_nil] at hk; omega)
    have zN := gSg_free zN k18 (by intro k hk q; simp only [List.length_cons, List.length_nil] at hk; omega)
    have zA := gSg_free zA k18 (by intro k hk q; simp only [List.length_cons, List.length_nil] at hk; omega)
    have zP := gSg_free zP k18 (by intro k hk q; simp only [List.length_cons, List.length_nil] at hk; omega)
    have zG := gRows_free zG k18 (by intro k hk q; omega)
    rw [← hQ]
    exact g_iret hx hb hr hlk hS dX11_book_15 (by rw [show gqBook π w c = (0, gU π 15 5 0) from by rw [gqBook, if_pos c1]]; exact ⟨rfl, _, gRho_e (by decide) hrr, zO, h1, hk7, ⟨_, h2⟩, ⟨_, _, _, zT⟩, zKT, ⟨_, hrk, zE⟩, zB, zF, ⟨_, zN⟩, zA, zP, zG⟩)

set_option maxHeartbeats 4000000 in
set_option maxRecDepth 100000 in
theorem c_X11_plan (l : Launch) (G : gW) (B lp : Nat) (π πk f μ α : gPS) (lk : Nat) (g : Nat → Int64) (acc : List (Nat × Nat × List Nat)) (hcl : gClo f acc) (hI : gInv π) (hlp : lp = B + 23 ∨ lp = B + 58 ∨ lp = B + 93 ∨ (B + 120 ≤ lp ∧ lp + 6 ≤ B + 156)) (wh x : Int32) : gCI l yX11_plan cX11_plan 3 .int (gRm 1 40) G [.ref B, .int wh, .int x] (fun H => gCW G B lp π lk πk f μ α g H) (fun r H => r = (gqPlan π wh x).1 ∧ gCW G B lp ((gqPlan π wh x).2) lk πk f μ α g H) (fun q => (lp ≤ q ∧ q < lp + 6) ∨ (B ≤ q ∧ q < B + 23) ∨ (B + 36 ≤ q ∧ q < B + 58) ∨ (B + 71 ≤ q ∧ q < B + 93) ∨ (B + 106 ≤ q ∧ q < B + 120)) := by
  refine g_start (by decide) (Nat.le_of_ble_eq_true rfl) ?_
  intro pp_ ee_ s mm_ aa_ below meth cc_ ls Q hQ hX hE hP hl
  obtain ⟨hx, hb, hr, hml, hown, hT, hlk, hnm⟩ := hX
  have hK := hE.2.1
  obtain ⟨ρ, hrr, zO, h1, hk7, ⟨s4, h2⟩, ⟨πt, lt, ρt, zT⟩, zKT, ⟨ρk, hrk, zE⟩, zB, zF, ⟨γ, zN⟩, zA, zP, zG⟩ := hP
  have hS : va_S (fun q => (lp ≤ q ∧ q < lp + 6) ∨ (B ≤ q ∧ q < B + 23) ∨ (B + 36 ≤ q ∧ q < B + 58) ∨ (B + 71 ≤ q ∧ q < B + 93) ∨ (B + 106 ≤ q ∧ q < B + 120)) s.heap s.heap [] := va_S.rf
  have hl : lv_has ls 3 [(0, .ref B), (1, .int wh), (2, .int x)] := hl
  obtain ⟨⟨n, hn, hz, h0z⟩, hki, ⟨sn, hsn, hz3, hsp⟩, ⟨pn, hpn, hz4, hpo⟩, ⟨bn, hbn, hz5, hbo⟩, hfl9⟩ := id hI
  have hd1 : lp + 6 ≤ B + 1 ∨ lp = B + 1 + 22 ∨ B + 1 + 35 ≤ lp := by omega
  have hd36 : lp + 6 ≤ B + 36 ∨ lp = B + 36 + 22 ∨ B + 36 + 35 ≤ lp := by omega
  refine lv_iload_n hx hb dX11_plan_0 rfl (lv_at hl 1 rfl) ?_
  refine lv_iconst (v := (-1)) hx hb dX11_plan_1 (by decide) ?_
  refine lv_icmp_ne (tgt := 16) hx hb dX11_plan_2 (by decide) (fun c1 => ?_) (fun c1 => ?_)
  · refine lv_iload_n hx hb dX11_plan_16 rfl (lv_at hl 1 rfl) ?_
    refine lv_iconst (v := 3) hx hb dX11_plan_17 (by decide) ?_
    refine g_ki (g_runS (rest := []) hx hb hml hown hE hT (c_X11_isUpTo l G wh 3) gM_X11_isUpTo gm_X11_57 gt_X11_isUpTo trivial rfl hl.1 ⟨rfl, rfl⟩ ⟨Nat.le_of_ble_eq_true rfl, Nat.le_of_ble_eq_true rfl⟩ ⟨Nat.zero_le _, Nat.zero_le _⟩ rfl (Nat.le_of_ble_eq_true rfl) dX11_plan_18) hS (fun _ h => h.elim) (fun r5 H2 locs q3 k4 hS => ?_)
    subst q3
    have zO := gSg_free zO k4 (by intro k hk q; simp only [List.length_cons, List.length_nil] at hk; omega)
    have h1 := gSg_free h1 k4 (by intro k hk q; simp only [List.length_cons, List.length_nil] at hk; omega)
    have hk7 := gSg_free hk7 k4 (by intro k hk q; simp only [List.length_cons, List.length_nil] at hk; omega)
    have h2 := gSg_free h2 k4 (by intro k hk q; simp only [List.length_cons, List.length_nil] at hk; omega)
    have zT := gSg_free zT k4 (by intro k hk q; simp only [List.length_cons, List.length_nil] at hk; omega)
    have zKT := gSg_free zKT k4 (by intro k hk q; simp only [List.length_cons, List.length_nil] at hk; omega)
    have zE := gSg_free zE k4 (by intro k hk q; simp only [List.length_cons, List.length_nil] at hk; omega)
    have zB := gSg_free zB k4 (by intro k hk q; simp only [List.length_cons, List.length_nil] at hk; omega)
    have zF := gSg_free zF k4 (by intro k hk q; simp only [List.length_cons, List.length_nil] at hk; omega)
    have zN := gSg_free zN k4 (by intro k hk q; simp only [List.length_cons, List.length_nil] at hk; omega)
    have zA := gSg_free zA k4 (by intro k hk q; simp only [List.length_cons, List.length_nil] at hk; omega)
    have zP := gSg_free zP k4 (by intro k hk q; simp only [List.length_cons, List.length_nil] at hk; omega)
    have zG := gRows_free zG k4 (by intro k hk q; omega)
    refine lv_if_ne (tgt := 26) hx hb dX11_plan_21 (by decide) (fun c6 => ?_) (fun c6 => ?_)
    · have c6 : 0 ≤ wh ∧ wh ≤ 3 := gB_1.mp c6
      refine lv_iload_n hx hb dX11_plan_26 rfl (lv_at hl 1 rfl) ?_
      refine lv_iconst (v := 1) hx hb dX11_plan_27 (by decide) ?_
      refine lv_icmp_eq (tgt := 36) hx hb dX11_plan_28 (by decide) (fun c7 => ?_) (fun c7 => ?_)
      · refine lv_aload_n hx hb dX11_plan_36 rfl (lv_at hl 0 rfl) ?_
        refine lv_iload_n hx hb dX11_plan_37 rfl (lv_at hl 2 rfl) ?_
        refine g_ki (g_runV (T := TX11) (ci := 11) (N := 13) (rest := []) hx hb hml hown hE hT (c_X11_isPigeon l G B lp π ρ μ n hz (by omega) x) gM_X11_isPigeon gm_X11_69 gi_X11_isPigeon gs_RX11_yX11_isPigeon_yX11_isPigeon rfl (zO 0 _ rfl) ⟨zO, h1⟩ rfl hl.1 ⟨rfl, rfl⟩ ⟨Nat.le_of_ble_eq_true rfl, Nat.le_of_ble_eq_true rfl⟩ ⟨Nat.zero_le _, Nat.zero_le _⟩ rfl (Nat.le_of_ble_eq_true rfl) dX11_plan_38) hS (fun _ h => h.elim) (fun r11 H8 locs q9 k10 hS => ?_)
        subst q9
        have zO := gSg_free zO k10 (by intro k hk q; simp only [List.length_cons, List.length_nil] at hk; omega)
        have h1 := gSg_free h1 k10 (by intro k hk q; simp only [List.length_cons, List.length_nil] at hk; omega)
        have hk7 := gSg_free hk7 k10 (by intro k hk q; simp only [List.length_cons, List.length_nil] at hk; omega)
        have h2 := gSg_free h2 k10 (by intro k hk q; simp only [List.length_cons, List.length_nil] at hk; omega)
        have zT := gSg_free zT k10 (by intro k hk q; simp only [List.length_cons, List.length_nil] at hk; omega)
        have zKT := gSg_free zKT k10 (by intro k hk q; simp only [List.length_cons, List.length_nil] at hk; omega)
        have zE := gSg_free zE k10 (by intro k hk q; simp only [List.length_cons, List.length_nil] at hk; omega)
        have zB := gSg_free zB k10 (by intro k hk q; simp only [List.length_cons, List.length_nil] at hk; omega)
        have zF := gSg_free zF k10 (by intro k hk q; simp only [List.length_cons, List.length_nil] at hk; omega)
        have zN := gSg_free zN k10 (by intro k hk q; simp only [List.length_cons, List.length_nil] at hk; omega)
        have zA := gSg_free zA k10 (by intro k hk q; simp only [List.length_cons, List.length_nil] at hk; omega)
        have zP := gSg_free zP k10 (by intro k hk q; simp only [List.length_cons, List.length_nil] at hk; omega)
        have zG := gRows_free zG k10 (by intro k hk q; omega)
        refine lv_if_eq (tgt := 56) hx hb dX11_plan_41 (by decide) (fun c12 => ?_) (fun c12 => ?_)
        · have c12 : ¬ (0 ≤ x ∧ x < π 15 0) := gB_0.mp c12
          refine lv_iconst (v := (-1)) hx hb dX11_plan_56 (by decide) ?_
          rw [← hQ]
          exact g_iret hx hb hr hlk hS dX11_plan_57 (by rw [show gqPlan π wh x = ((-1), π) from by rw [gqPlan, if_neg c1, if_pos c6, if_pos (g12.mpr (Or.inl c7)), if_neg c12]]; exact ⟨rfl, _, hrr, zO, h1, hk7, ⟨_, h2⟩, ⟨_, _, _, zT⟩, zKT, ⟨_, hrk, zE⟩, zB, zF, ⟨_, zN⟩, zA, zP, zG⟩)
        · have c12 : 0 ≤ x ∧ x < π 15 0 := gB_1.mp c12
          refine lv_iload_n hx hb dX11_plan_44 rfl (lv_at hl 1 rfl) ?_
          refine lv_iconst (v := 3) hx hb dX11_plan_45 (by decide) ?_
          refine lv_icmp_ne (tgt := 58) hx hb dX11_plan_46 (by decide) (fun c13 => ?_) (fun c13 => ?_)
          · refine lv_aload_n hx hb dX11_plan_58 rfl (lv_at hl 0 rfl) ?_
            refine g_get (v := .ref (B + 1)) (T := TX11) (ci := 11) (N := 13) hx hb hown hK (gY_X11 hT) rfl (zO 0 _ rfl) 0 (by decide) (hT _ gf_X11_12) rfl dX11_plan_59 ?_
            refine g_get (v := .ref (B + 1 + 14)) (T := TX9) (ci := 9) (N := 16) hx hb hown hK (gY_X9 hT) rfl (h1 0 _ rfl) 10 (by decide) (hT _ gf_X11_197) rfl dX11_plan_62 ?_
            refine lv_iload_n hx hb dX11_plan_65 rfl (lv_at hl 1 rfl) ?_
            refine lv_iload_n hx hb dX11_plan_66 rfl (lv_at hl 2 rfl) ?_
            refine lv_iconst (v := 0) hx hb dX11_plan_67 (by decide) ?_
            refine g_ki (g_runV (T := TX8) (ci := 8) (N := 4) (rest := []) hx hb hml hown hE hT (c_X8_takes_plan l G (B + 1) lp π ρ pn hz4 hpn wh x 0) gM_X8_takes gm_X11_184 gi_X8_takes gs_RX8_yX8_takes_yX8_takes rfl (h1 14 _ rfl) h1 rfl hl.1 ⟨rfl, rfl⟩ ⟨Nat.le_of_ble_eq_true rfl, Nat.le_of_ble_eq_true rfl⟩ ⟨Nat.zero_le _, Nat.zero_le _⟩ rfl (Nat.le_of_ble_eq_true rfl) dX11_plan_68) hS (by intro q hq; omega) (fun r17 H14 locs q15 k16 hS => ?_)
            obtain ⟨e9, h1⟩ := q15
            rw [e9]
            have zO := gSg_free zO k16 (by intro k hk q; simp only [List.length_cons, List.length_nil] at hk; omega)
            have hk7 := gSg_free hk7 k16 (by intro k hk q; simp only [List.length_cons, List.length_nil] at hk; omega)
            have h2 := gSg_free h2 k16 (by intro k hk q; simp only [List.length_cons, List.length_nil] at hk; omega)
            have zT := gSg_free zT k16 (by intro k hk q; simp only [List.length_cons, List.length_nil] at hk; omega)
            have zKT := gSg_free zKT k16 (by intro k hk q; simp only [List.length_cons, List.length_nil] at hk; omega)
            have zE := gSg_free zE k16 (by intro k hk q; simp only [List.length_cons, List.length_nil] at hk; omega)
            have zB := gSg_free zB k16 (by intro k hk q; simp only [List.length_cons, List.length_nil] at hk; omega)
            have zF := gSg_free zF k16 (by intro k hk q; simp only [List.length_cons, List.length_nil] at hk; omega)
            have zN := gSg_free zN k16 (by intro k hk q; simp only [List.length_cons, List.length_nil] at hk; omega)
            have zA := gSg_free zA k16 (by intro k hk q; simp only [List.length_cons, List.length_nil] at hk; omega)
            have zP := gSg_free zP k16 (by intro k hk q; simp only [List.length_cons, List.length_nil] at hk; omega)
            have zG := gRows_free zG k16 (by intro k hk q; omega)
            by_cases h9 : pn = 10
            · rw [if_pos h9]
              rw [if_pos h9, if_pos h9] at h1
              rw [← hQ]
              exact g_iret hx hb hr hlk hS dX11_plan_71 (by rw [show gqPlan π wh x = (-4, π) from by rw [gqPlan, if_neg c1, if_pos c6, if_pos (g12.mpr (Or.inl c7)), if_pos c12, gqPlanF, if_pos (show π 15 4 = 10 from (gEq (b := 10) hz4 rfl (by omega) (by omega)).mpr h9)]]; exact ⟨rfl, _, hrr, zO, h1, hk7, ⟨_, h2⟩, ⟨_, _, _, zT⟩, zKT, ⟨_, hrk, zE⟩, zB, zF, ⟨_, zN⟩, zA, zP, zG⟩)
            · rw [if_neg h9]
              rw [if_neg h9, if_neg h9] at h1
              rw [← hQ]
              exact g_iret hx hb hr hlk hS dX11_plan_71 (by rw [show gqPlan π wh x = (nI (pn + 1), gU (gU (gU π 11 pn wh) 15 4 (nI (pn + 1))) 12 pn (if wh = 0 then 0 else x)) from by rw [gqPlan, if_neg c1, if_pos c6, if_pos (g12.mpr (Or.inl c7)), if_pos c12, gqPlanF, if_neg (show ¬ π 15 4 = 10 from fun z => h9 ((gEq (b := 10) hz4 rfl (by omega) (by omega)).mp z)), hz4, show (nI pn).toNatClampNeg = pn from nI_clamp (by omega), show (nI pn + 1 : Int32) = nI (pn + 1) from gAdd rfl rfl]]; exact ⟨rfl, _, gRho_p hrr hz4 (by omega), zO, h1, hk7, ⟨_, h2⟩, ⟨_, _, _, zT⟩, zKT, ⟨_, hrk, zE⟩, zB, zF, ⟨_, zN⟩, zA, zP, zG⟩)
          · exact absurd (c7.symm.trans c13) (by decide)
      · refine lv_iload_n hx hb dX11_plan_31 rfl (lv_at hl 1 rfl) ?_
        refine lv_iconst (v := 2) hx hb dX11_plan_32 (by decide) ?_
        refine lv_icmp_ne (tgt := 44) hx hb dX11_plan_33 (by decide) (fun c18 => ?_) (fun c18 => ?_)
        · refine lv_iload_n hx hb dX11_plan_44 rfl (lv_at hl 1 rfl) ?_
          refine lv_iconst (v := 3) hx hb dX11_plan_45 (by decide) ?_
          refine lv_icmp_ne (tgt := 58) hx hb dX11_plan_46 (by decide) (fun c19 => ?_) (fun c19 => ?_)
          · refine lv_aload_n hx hb dX11_plan_58 rfl (lv_at hl 0 rfl) ?_
            refine g_get (v := .ref (B + 1)) (T := TX11) (ci := 11) (N := 13) hx hb hown hK (gY_X11 hT) rfl (zO 0 _ rfl) 0 (by decide) (hT _ gf_X11_12) rfl dX11_plan_59 ?_
            refine g_get (v := .ref (B + 1 + 14)) (T := TX9) (ci := 9) (N := 16) hx hb hown hK (gY_X9 hT) rfl (h1 0 _ rfl) 10 (by decide) (hT _ gf_X11_197) rfl dX11_plan_62 ?_
            refine lv_iload_n hx hb dX11_plan_65 rfl (lv_at hl 1 rfl) ?_
            refine lv_iload_n hx hb dX11_plan_66 rfl (lv_at hl 2 rfl) ?_
            refine lv_iconst (v := 0) hx hb dX11_plan_67 (by decide) ?_
            refine g_ki (g_runV (T := TX8) (ci := 8) (N := 4) (rest := []) hx hb hml hown hE hT (c_X8_takes_plan l G (B + 1) lp π ρ pn hz4 hpn wh x 0) gM_X8_takes gm_X11_184 gi_X8_takes gs_RX8_yX8_takes_yX8_takes rfl (h1 14 _ rfl) h1 rfl hl.1 ⟨rfl, rfl⟩ ⟨Nat.le_of_ble_eq_true rfl, Nat.le_of_ble_eq_true rfl⟩ ⟨Nat.zero_le _, Nat.zero_le _⟩ rfl (Nat.le_of_ble_eq_true rfl) dX11_plan_68) hS (by intro q hq; omega) (fun r23 H20 locs q21 k22 hS => ?_)
            obtain ⟨e9, h1⟩ := q21
            rw [e9]
            have zO := gSg_free zO k22 (by intro k hk q; simp only [List.length_cons, List.length_nil] at hk; omega)
            have hk7 := gSg_free hk7 k22 (by intro k hk q; simp only [List.length_cons, List.length_nil] at hk; omega)
            have h2 := gSg_free h2 k22 (by intro k hk q; simp only [List.length_cons, List.length_nil] at hk; omega)
            have zT := gSg_free zT k22 (by intro k hk q; simp only [List.length_cons, List.length_nil] at hk; omega)
            have zKT := gSg_free zKT k22 (by intro k hk q; simp only [List.length_cons, List.length_nil] at hk; omega)
            have zE := gSg_free zE k22 (by intro k hk q; simp only [List.length_cons, List.length_nil] at hk; omega)
            have zB := gSg_free zB k22 (by intro k hk q; simp only [List.length_cons, List.length_nil] at hk; omega)
            have zF := gSg_free zF k22 (by intro k hk q; simp only [List.length_cons, List.length_nil] at hk; omega)
            have zN := gSg_free zN k22 (by intro k hk q; simp only [List.length_cons, List.length_nil] at hk; omega)
            have zA := gSg_free zA k22 (by intro k hk q; simp only [List.length_cons, List.length_nil] at hk; omega)
            have zP := gSg_free zP k22 (by intro k hk q; simp only [List.length_cons, List.length_nil] at hk; omega)
            have zG := gRows_free zG k22 (by intro k hk q; omega)
            by_cases h9 : pn = 10
            · rw [if_pos h9]
              rw [if_pos h9, if_pos h9] at h1
              rw [← hQ]
              exact g_iret hx hb hr hlk hS dX11_plan_71 (by rw [show gqPlan π wh x = (-4, π) from by rw [gqPlan, if_neg c1, if_pos c6, if_neg (fun z => (g12.mp z).elim c7 c18), if_neg c19, gqPlanF, if_pos (show π 15 4 = 10 from (gEq (b := 10) hz4 rfl (by omega) (by omega)).mpr h9)]]; exact ⟨rfl, _, hrr, zO, h1, hk7, ⟨_, h2⟩, ⟨_, _, _, zT⟩, zKT, ⟨_, hrk, zE⟩, zB, zF, ⟨_, zN⟩, zA, zP, zG⟩)
            · rw [if_neg h9]
              rw [if_neg h9, if_neg h9] at h1
              rw [← hQ]
              exact g_iret hx hb hr hlk hS dX11_plan_71 (by rw [show gqPlan π wh x = (nI (pn + 1), gU (gU (gU π 11 pn wh) 15 4 (nI (pn + 1))) 12 pn (if wh = 0 then 0 else x)) from by rw [gqPlan, if_neg c1, if_pos c6, if_neg (fun z => (g12.mp z).elim c7 c18), if_neg c19, gqPlanF, if_neg (show ¬ π 15 4 = 10 from fun z => h9 ((gEq (b := 10) hz4 rfl (by omega) (by omega)).mp z)), hz4, show (nI pn).toNatClampNeg = pn from nI_clamp (by omega), show (nI pn + 1 : Int32) = nI (pn + 1) from gAdd rfl rfl]]; exact ⟨rfl, _, gRho_p hrr hz4 (by omega), zO, h1, hk7, ⟨_, h2⟩, ⟨_, _, _, zT⟩, zKT, ⟨_, hrk, zE⟩, zB, zF, ⟨_, zN⟩, zA, zP, zG⟩)
          · refine lv_iload_n hx hb dX11_plan_49 rfl (lv_at hl 2 rfl) ?_
            refine g_ki (g_runS (rest := []) hx hb hml hown hE hT (c_X11_isWord l G x) gM_X11_isWord gm_X11_98 gt_X11_isWord trivial rfl hl.1 ⟨rfl, rfl⟩ ⟨Nat.le_of_ble_eq_true rfl, Nat.le_of_ble_eq_true rfl⟩ ⟨Nat.zero_le _, Nat.zero_le _⟩ rfl (Nat.le_of_ble_eq_true rfl) dX11_plan_50) hS (fun _ h => h.elim) (fun r27 H24 locs q25 k26 hS => ?_)
            subst q25
            have zO := gSg_free zO k26 (by intro k hk q; simp only [List.length_cons, List.length_nil] at hk; omega)
            have h1 := gSg_free h1 k26 (by intro k hk q; simp only [List.length_cons, List.length_nil] at hk; omega)
            have hk7 := gSg_free hk7 k26 (by intro k hk q; simp only [List.length_cons, List.length_nil] at hk; omega)
            have h2 := gSg_free h2 k26 (by intro k hk q; simp only [List.length_cons, List.length_nil] at hk; omega)
            have zT := gSg_free zT k26 (by intro k hk q; simp only [List.length_cons, List.length_nil] at hk; omega)
            have zKT := gSg_free zKT k26 (by intro k hk q; simp only [List.length_cons, List.length_nil] at hk; omega)
            have zE := gSg_free zE k26 (by intro k hk q; simp only [List.length_cons, List.length_nil] at hk; omega)
            have zB := gSg_free zB k26 (by intro k hk q; simp only [List.length_cons, List.length_nil] at hk; omega)
            have zF := gSg_free zF k26 (by intro k hk q; simp only [List.length_cons, List.length_nil] at hk; omega)
            have zN := gSg_free zN k26 (by intro k hk q; simp only [List.length_cons, List.length_nil] at hk; omega)
            have zA := gSg_free zA k26 (by intro k hk q; simp only [List.length_cons, List.length_nil] at hk; omega)
            have zP := gSg_free zP k26 (by intro k hk q; simp only [List.length_cons, List.length_nil] at hk; omega)
            have zG := gRows_free zG k26 (by intro k hk q; omega)
            refine lv_if_ne (tgt := 58) hx hb dX11_plan_53 (by decide) (fun c28 => ?_) (fun c28 => ?_)
            · have c28 : 0 ≤ x ∧ x ≤ 11 := gB_1.mp c28
              refine lv_aload_n hx hb dX11_plan_58 rfl (lv_at hl 0 rfl) ?_
              refine g_get (v := .ref (B + 1)) (T := TX11) (ci := 11) (N := 13) hx hb hown hK (gY_X11 hT) rfl (zO 0 _ rfl) 0 (by decide) (hT _ gf_X11_12) rfl dX11_plan_59 ?_
              refine g_get (v := .ref (B + 1 + 14)) (T := TX9) (ci := 9) (N := 16) hx hb hown hK (gY_X9 hT) rfl (h1 0 _ rfl) 10 (by decide) (hT _ gf_X11_197) rfl dX11_plan_62 ?_
              refine lv_iload_n hx hb dX11_plan_65 rfl (lv_at hl 1 rfl) ?_
              refine lv_iload_n hx hb dX11_plan_66 rfl (lv_at hl 2 rfl) ?_
              refine lv_iconst (v := 0) hx hb dX11_plan_67 (by decide) ?_
              refine g_ki (g_runV (T := TX8) (ci := 8) (N := 4) (rest := []) hx hb hml hown hE hT (c_X8_takes_plan l G (B + 1) lp π ρ pn hz4 hpn wh x 0) gM_X8_takes gm_X11_184 gi_X8_takes gs_RX8_yX8_takes_yX8_takes rfl (h1 14 _ rfl) h1 rfl hl.1 ⟨rfl, rfl⟩ ⟨Nat.le_of_ble_eq_true rfl, Nat.le_of_ble_eq_true rfl⟩ ⟨Nat.zero_le _, Nat.zero_le _⟩ rfl (Nat.le_of_ble_eq_true rfl) dX11_plan_68) hS (by intro q hq; omega) (fun r32 H29 locs q30 k31 hS => ?_)
              obtain ⟨e9, h1⟩ := q30
              rw [e9]
              have zO := gSg_free zO k31 (by intro k hk q; simp only [List.length_cons, List.length_nil] at hk; omega)
              have hk7 := gSg_free hk7 k31 (by intro k hk q; simp only [List.length_cons, List.length_nil] at hk; omega)
              have h2 := gSg_free h2 k31 (by intro k hk q; simp only [List.length_cons, List.length_nil] at hk; omega)
              have zT := gSg_free zT k31 (by intro k hk q; simp only [List.length_cons, List.length_nil] at hk; omega)
              have zKT := gSg_free zKT k31 (by intro k hk q; simp only [List.length_cons, List.length_nil] at hk; omega)
              have zE := gSg_free zE k31 (by intro k hk q; simp only [List.length_cons, List.length_nil] at hk; omega)
              have zB := gSg_free zB k31 (by intro k hk q; simp only [List.length_cons, List.length_nil] at hk; omega)
              have zF := gSg_free zF k31 (by intro k hk q; simp only [List.length_cons, List.length_nil] at hk; omega)
              have zN := gSg_free zN k31 (by intro k hk q; simp only [List.length_cons, List.length_nil] at hk; omega)
              have zA := gSg_free zA k31 (by intro k hk q; simp only [List.length_cons, List.length_nil] at hk; omega)
              have zP := gSg_free zP k31 (by intro k hk q; simp only [List.length_cons, List.length_nil] at hk; omega)
              have zG := gRows_free zG k31 (by intro k hk q; omega)
              by_cases h9 : pn = 10
              · rw [if_pos h9]
                rw [if_pos h9, if_pos h9] at h1
                rw [← hQ]
                exact g_iret hx hb hr hlk hS dX11_plan_71 (by rw [show gqPlan π wh x = (-4, π) from by rw [gqPlan, if_neg c1, if_pos c6, if_neg (fun z => (g12.mp z).elim c7 c18), if_pos c19, if_pos c28, gqPlanF, if_pos (show π 15 4 = 10 from (gEq (b := 10) hz4 rfl (by omega) (by omega)).mpr h9)]]; exact ⟨rfl, _, hrr, zO, h1, hk7, ⟨_, h2⟩, ⟨_, _, _, zT⟩, zKT, ⟨_, hrk, zE⟩, zB, zF, ⟨_, zN⟩, zA, zP, zG⟩)
              · rw [if_neg h9]
                rw [if_neg h9, if_neg h9] at h1
                rw [← hQ]
                exact g_iret hx hb hr hlk hS dX11_plan_71 (by rw [show gqPlan π wh x = (nI (pn + 1), gU (gU (gU π 11 pn wh) 15 4 (nI (pn + 1))) 12 pn (if wh = 0 then 0 else x)) from by rw [gqPlan, if_neg c1, if_pos c6, if_neg (fun z => (g12.mp z).elim c7 c18), if_pos c19, if_pos c28, gqPlanF, if_neg (show ¬ π 15 4 = 10 from fun z => h9 ((gEq (b := 10) hz4 rfl (by omega) (by omega)).mp z)), hz4, show (nI pn).toNatClampNeg = pn from nI_clamp (by omega), show (nI pn + 1 : Int32) = nI (pn + 1) from gAdd rfl rfl]]; exact ⟨rfl, _, gRho_p hrr hz4 (by omega), zO, h1, hk7, ⟨_, h2⟩, ⟨_, _, _, zT⟩, zKT, ⟨_, hrk, zE⟩, zB, zF, ⟨_, zN⟩, zA, zP, zG⟩)
            · have c28 : ¬ (0 ≤ x ∧ x ≤ 11) := gB_0.mp c28
              refine lv_iconst (v := (-1)) hx hb dX11_plan_56 (by decide) ?_
              rw [← hQ]
              exact g_iret hx hb hr hlk hS dX11_plan_57 (by rw [show gqPlan π wh x = ((-1), π) from by rw [gqPlan, if_neg c1, if_pos c6, if_neg (fun z => (g12.mp z).elim c7 c18), if_pos c19, if_neg c28]]; exact ⟨rfl, _, hrr, zO, h1, hk7, ⟨_, h2⟩, ⟨_, _, _, zT⟩, zKT, ⟨_, hrk, zE⟩, zB, zF, ⟨_, zN⟩, zA, zP, zG⟩)
        · refine lv_aload_n hx hb dX11_plan_36 rfl (lv_at hl 0 rfl) ?_
          refine lv_iload_n hx hb dX11_plan_37 rfl (lv_at hl 2 rfl) ?_
          refine g_ki (g_runV (T := TX11) (ci := 11) (N := 13) (rest := []) hx hb hml hown hE hT (c_X11_isPigeon l G B lp π ρ μ n hz (by omega) x) gM_X11_isPigeon gm_X11_69 gi_X11_isPigeon gs_RX11_yX11_isPigeon_yX11_isPigeon rfl (zO 0 _ rfl) ⟨zO, h1⟩ rfl hl.1 ⟨rfl, rfl⟩ ⟨Nat.le_of_ble_eq_true rfl, Nat.le_of_ble_eq_true rfl⟩ ⟨Nat.zero_le _, Nat.zero_le _⟩ rfl (Nat.le_of_ble_eq_true rfl) dX11_plan_38) hS (fun _ h => h.elim) (fun r36 H33 locs q34 k35 hS => ?_)
          subst q34
          have zO := gSg_free zO k35 (by intro k hk q; simp only [List.length_cons, List.length_nil] at hk; omega)
          have h1 := gSg_free h1 k35 (by intro k hk q; simp only [List.length_cons, List.length_nil] at hk; omega)
          have hk7 := gSg_free hk7 k35 (by intro k hk q; simp only [List.length_cons, List.length_nil] at hk; omega)
          have h2 := gSg_free h2 k35 (by intro k hk q; simp only [List.length_cons, List.length_nil] at hk; omega)
          have zT := gSg_free zT k35 (by intro k hk q; simp only [List.length_cons, List.length_nil] at hk; omega)
          have zKT := gSg_free zKT k35 (by intro k hk q; simp only [List.length_cons, List.length_nil] at hk; omega)
          have zE := gSg_free zE k35 (by intro k hk q; simp only [List.length_cons, List.length_nil] at hk; omega)
          have zB := gSg_free zB k35 (by intro k hk q; simp only [List.length_cons, List.length_nil] at hk; omega)
          have zF := gSg_free zF k35 (by intro k hk q; simp only [List.length_cons, List.length_nil] at hk; omega)
          have zN := gSg_free zN k35 (by intro k hk q; simp only [List.length_cons, List.length_nil] at hk; omega)
          have zA := gSg_free zA k35 (by intro k hk q; simp only [List.length_cons, List.length_nil] at hk; omega)
          have zP := gSg_free zP k35 (by intro k hk q; simp only [List.length_cons, List.length_nil] at hk; omega)
          have zG := gRows_free zG k35 (by intro k hk q; omega)
          refine lv_if_eq (tgt := 56) hx hb dX11_plan_41 (by decide) (fun c37 => ?_) (fun c37 => ?_)
          · have c37 : ¬ (0 ≤ x ∧ x < π 15 0) := gB_0.mp c37
            refine lv_iconst (v := (-1)) hx hb dX11_plan_56 (by decide) ?_
            rw [← hQ]
            exact g_iret hx hb hr hlk hS dX11_plan_57 (by rw [show gqPlan π wh x = ((-1), π) from by rw [gqPlan, if_neg c1, if_pos c6, if_pos (g12.mpr (Or.inr c18)), if_neg c37]]; exact ⟨rfl, _, hrr, zO, h1, hk7, ⟨_, h2⟩, ⟨_, _, _, zT⟩, zKT, ⟨_, hrk, zE⟩, zB, zF, ⟨_, zN⟩, zA, zP, zG⟩)
          · have c37 : 0 ≤ x ∧ x < π 15 0 := gB_1.mp c37
            refine lv_iload_n hx hb dX11_plan_44 rfl (lv_at hl 1 rfl) ?_
            refine lv_iconst (v := 3) hx hb dX11_plan_45 (by decide) ?_
            refine lv_icmp_ne (tgt := 58) hx hb dX11_plan_46 (by decide) (fun c38 => ?_) (fun c38 => ?_)
            · refine lv_aload_n hx hb dX11_plan_58 rfl (lv_at hl 0 rfl) ?_
              refine g_get (v := .ref (B + 1)) (T := TX11) (ci := 11) (N := 13) hx hb hown hK (gY_X11 hT) rfl (zO 0 _ rfl) 0 (by decide) (hT _ gf_X11_12) rfl dX11_plan_59 ?_
              refine g_get (v := .ref (B + 1 + 14)) (T := TX9) (ci := 9) (N := 16) hx hb hown hK (gY_X9 hT) rfl (h1 0 _ rfl) 10 (by decide) (hT _ gf_X11_197) rfl dX11_plan_62 ?_
              refine lv_iload_n hx hb dX11_plan_65 rfl (lv_at hl 1 rfl) ?_
              refine lv_iload_n hx hb dX11_plan_66 rfl (lv_at hl 2 rfl) ?_
              refine lv_iconst (v := 0) hx hb dX11_plan_67 (by decide) ?_
              refine g_ki (g_runV (T := TX8) (ci := 8) (N := 4) (rest := []) hx hb hml hown hE hT (c_X8_takes_plan l G (B + 1) lp π ρ pn hz4 hpn wh x 0) gM_X8_takes gm_X11_184 gi_X8_takes gs_RX8_yX8_takes_yX8_takes rfl (h1 14 _ rfl) h1 rfl hl.1 ⟨rfl, rfl⟩ ⟨Nat.le_of_ble_eq_true rfl, Nat.le_of_ble_eq_true rfl⟩ ⟨Nat.zero_le _, Nat.zero_le _⟩ rfl (Nat.le_of_ble_eq_true rfl) dX11_plan_68) hS (by intro q hq; omega) (fun r42 H39 locs q40 k41 hS => ?_)
              obtain ⟨e9, h1⟩ := q40
              rw [e9]
              have zO := gSg_free zO k41 (by intro k hk q; simp only [List.length_cons, List.length_nil] at hk; omega)
              have hk7 := gSg_free hk7 k41 (by intro k hk q; simp only [List.length_cons, List.length_nil] at hk; omega)
              have h2 := gSg_free h2 k41 (by intro k hk q; simp only [List.length_cons, List.length_nil] at hk; omega)
              have zT := gSg_free zT k41 (by intro k hk q; simp only [List.length_cons, List.length_nil] at hk; omega)
              have zKT := gSg_free zKT k41 (by intro k hk q; simp only [List.length_cons, List.length_nil] at hk; omega)
              have zE := gSg_free zE k41 (by intro k hk q; simp only [List.length_cons, List.length_nil] at hk; omega)
              have zB := gSg_free zB k41 (by intro k hk q; simp only [List.length_cons, List.length_nil] at hk; omega)
              have zF := gSg_free zF k41 (by intro k hk q; simp only [List.length_cons, List.length_nil] at hk; omega)
              have zN := gSg_free zN k41 (by intro k hk q; simp only [List.length_cons, List.length_nil] at hk; omega)
              have zA := gSg_free zA k41 (by intro k hk q; simp only [List.length_cons, List.length_nil] at hk; omega)
              have zP := gSg_free zP k41 (by intro k hk q; simp only [List.length_cons, List.length_nil] at hk; omega)
              have zG := gRows_free zG k41 (by intro k hk q; omega)
              by_cases h9 : pn = 10
              · rw [if_pos h9]
                rw [if_pos h9, if_pos h9] at h1
                rw [← hQ]
                exact g_iret hx hb hr hlk hS dX11_plan_71 (by rw [show gqPlan π wh x = (-4, π) from by rw [gqPlan, if_neg c1, if_pos c6, if_pos (g12.mpr (Or.inr c18)), if_pos c37, gqPlanF, if_pos (show π 15 4 = 10 from (gEq (b := 10) hz4 rfl (by omega) (by omega)).mpr h9)]]; exact ⟨rfl, _, hrr, zO, h1, hk7, ⟨_, h2⟩, ⟨_, _, _, zT⟩, zKT, ⟨_, hrk, zE⟩, zB, zF, ⟨_, zN⟩, zA, zP, zG⟩)
              · rw [if_neg h9]
                rw [if_neg h9, if_neg h9] at h1
                rw [← hQ]
                exact g_iret hx hb hr hlk hS dX11_plan_71 (by rw [show gqPlan π wh x = (nI (pn + 1), gU (gU (gU π 11 pn wh) 15 4 (nI (pn + 1))) 12 pn (if wh = 0 then 0 else x)) from by rw [gqPlan, if_neg c1, if_pos c6, if_pos (g12.mpr (Or.inr c18)), if_pos c37, gqPlanF, if_neg (show ¬ π 15 4 = 10 from fun z => h9 ((gEq (b := 10) hz4 rfl (by omega) (by omega)).mp z)), hz4, show (nI pn).toNatClampNeg = pn from nI_clamp (by omega), show (nI pn + 1 : Int32) = nI (pn + 1) from gAdd rfl rfl]]; exact ⟨rfl, _, gRho_p hrr hz4 (by omega), zO, h1, hk7, ⟨_, h2⟩, ⟨_, _, _, zT⟩, zKT, ⟨_, hrk, zE⟩, zB, zF, ⟨_, zN⟩, zA, zP, zG⟩)
            · exact absurd (c18.symm.trans c38) (by decide)
    · have c6 : ¬ (0 ≤ wh ∧ wh ≤ 3) := gB_0.mp c6
      refine lv_iconst (v := (-1)) hx hb dX11_plan_24 (by decide) ?_
      rw [← hQ]
      exact g_iret hx hb hr hlk hS dX11_plan_25 (by rw [show gqPlan π wh x = ((-1), π) from by rw [gqPlan, if_neg c1, if_neg c6]]; exact ⟨rfl, _, hrr, zO, h1, hk7, ⟨_, h2⟩, ⟨_, _, _, zT⟩, zKT, ⟨_, hrk, zE⟩, zB, zF, ⟨_, zN⟩, zA, zP, zG⟩)
  · refine lv_aload_n hx hb dX11_plan_5 rfl (lv_at hl 0 rfl) ?_
    refine g_get (v := .ref (B + 1)) (T := TX11) (ci := 11) (N := 13) hx hb hown hK (gY_X11 hT) rfl (zO 0 _ rfl) 0 (by decide) (hT _ gf_X11_12) rfl dX11_plan_6 ?_
    refine g_get (v := .ref (B + 1 + 14)) (T := TX9) (ci := 9) (N := 16) hx hb hown hK (gY_X9 hT) rfl (h1 0 _ rfl) 10 (by decide) (hT _ gf_X11_197) rfl dX11_plan_9 ?_
    refine g_ki (g_runV (T := TX8) (ci := 8) (N := 4) (rest := []) hx hb hml hown hE hT (c_X8_empties_plan l G (B + 1) lp π ρ) gM_X8_empties gm_X11_179 gi_X8_empties gs_RX8_yX8_empties_yX8_empties rfl (h1 14 _ rfl) h1 rfl hl.1 ⟨rfl, rfl⟩ ⟨Nat.le_of_ble_eq_true rfl, Nat.le_of_ble_eq_true rfl⟩ ⟨Nat.zero_le _, Nat.zero_le _⟩ rfl (Nat.le_of_ble_eq_true rfl) dX11_plan_12) hS (by intro q hq; omega) (fun r46 H43 locs q44 k45 hS => ?_)
    obtain ⟨e9, h1⟩ := q44
    rw [e9]
    have zO := gSg_free zO k45 (by intro k hk q; simp only [List.length_cons, List.length_nil] at hk; omega)
    have hk7 := gSg_free hk7 k45 (by intro k hk q; simp only [List.length_cons, List.length_nil] at hk; omega)
    have h2 := gSg_free h2 k45 (by intro k hk q; simp only [List.length_cons, List.length_nil] at hk; omega)
    have zT := gSg_free zT k45 (by intro k hk q; simp only [List.length_cons, List.length_nil] at hk; omega)
    have zKT := gSg_free zKT k45 (by intro k hk q; simp only [List.length_cons, List.length_nil] at hk; omega)
    have zE := gSg_free zE k45 (by intro k hk q; simp only [List.length_cons, List.length_nil] at hk; omega)
    have zB := gSg_free zB k45 (by intro k hk q; simp only [List.length_cons, List.length_nil] at hk; omega)
    have zF := gSg_free zF k45 (by intro k hk q; simp only [List.length_cons, List.length_nil] at hk; omega)
    have zN := gSg_free zN k45 (by intro k hk q; simp only [List.length_cons, List.length_nil] at hk; omega)
    have zA := gSg_free zA k45 (by intro k hk q; simp only [List.length_cons, List.length_nil] at hk; omega)
    have zP := gSg_free zP k45 (by intro k hk q; simp only [List.length_cons, List.length_nil] at hk; omega)
    have zG := gRows_free zG k45 (by intro k hk q; omega)
    rw [← hQ]
    exact g_iret hx hb hr hlk hS dX11_plan_15 (by rw [show gqPlan π wh x = (0, gU π 15 4 0) from by rw [gqPlan, if_pos c1]]; exact ⟨rfl, _, gRho_e (by decide) hrr, zO, h1, hk7, ⟨_, h2⟩, ⟨_, _, _, zT⟩, zKT, ⟨_, hrk, zE⟩, zB, zF, ⟨_, zN⟩, zA, zP, zG⟩)

set_option maxHeartbeats 4000000 in
set_option maxRecDepth 100000 in
theorem c_X11_looked (l : Launch) (G : gW) (B lp : Nat) (π πk f μ α : gPS) (lk : Nat) (g : Nat → Int64) (acc : List (Nat × Nat × List Nat)) (hcl : gClo f acc) (hI : gInv π) (hlp : lp = B + 23 ∨ lp = B + 58 ∨ lp = B + 93 ∨ (B + 120 ≤ lp ∧ lp + 6 ≤ B + 156)) (bn0 : Nat) (hb0 : π 15 5 = nI bn0) (hb8 : bn0 ≤ 8) : gCI l yX11_looked cX11_looked 2 .int (gRm 1 40) G [.ref B] (fun H => gCW G B lp π lk πk f μ α g H) (fun r H => r = gLook π 0 bn0 ∧ gCW G B lp π lk πk f μ α g H) (fun q => (lp ≤ q ∧ q < lp + 6) ∨ (B ≤ q ∧ q < B + 23) ∨ (B + 36 ≤ q ∧ q < B + 58) ∨ (B + 71 ≤ q ∧ q < B + 93) ∨ (B + 106 ≤ q ∧ q < B + 120)) := by
  refine g_start (by decide) (Nat.le_of_ble_eq_true rfl) ?_
  intro pp_ ee_ s mm_ aa_ below meth cc_ ls Q hQ hX hE hP hl
  obtain ⟨hx, hb, hr, hml, hown, hT, hlk, hnm⟩ := hX
  have hK := hE.2.1
  obtain ⟨ρ, hrr, zO, h1, hk7, ⟨s4, h2⟩, ⟨πt, lt, ρt, zT⟩, zKT, ⟨ρk, hrk, zE⟩, zB, zF, ⟨γ, zN⟩, zA, zP, zG⟩ := hP
  have hS : va_S (fun q => (lp ≤ q ∧ q < lp + 6) ∨ (B ≤ q ∧ q < B + 23) ∨ (B + 36 ≤ q ∧ q < B + 58) ∨ (B + 71 ≤ q ∧ q < B + 93) ∨ (B + 106 ≤ q ∧ q < B + 120)) s.heap s.heap [] := va_S.rf
  have hl : lv_has ls 2 [(0, .ref B)] := hl
  obtain ⟨⟨n, hn, hz, h0z⟩, hki, ⟨sn, hsn, hz3, hsp⟩, ⟨pn, hpn, hz4, hpo⟩, ⟨bn, hbn, hz5, hbo⟩, hfl9⟩ := id hI
  have hd1 : lp + 6 ≤ B + 1 ∨ lp = B + 1 + 22 ∨ B + 1 + 35 ≤ lp := by omega
  have hd36 : lp + 6 ≤ B + 36 ∨ lp = B + 36 + 22 ∨ B + 36 + 35 ≤ lp := by omega
  have eb : bn0 = bn := (nI_eq (a := bn0) (b := bn) (by omega) (by omega)).mp (hb0.symm.trans hz5)
  subst eb
  refine lv_iconst (v := 0) hx hb dX11_looked_0 (by decide) ?_
  refine lv_istore_n (lv' := [(1, .int 0), (0, .ref B)]) hx hb dX11_looked_1 rfl hl (by decide) rfl (fun ls hl => ?_)
  have loop : ∀ (d k : Nat), k + d = bn0 → ∀ (s4 : Nat → Int32), gLook π 0 bn0 = gLook π k d → ∀ (H : Heap) (locs : List Loc), gSg G B (gLO G B μ) H → gSg G (B + 1) (gLS G (B + 1) π lp ρ) H → gSg G (B + 1 + 28) (gKk G (B + 1 + 28) ) H → gSg G lp (gLL G lp (gR f 4 s4)) H → gSg G (B + 36) (gLS G (B + 36) πt lt ρt) H → gSg G (B + 36 + 28) (gKk G (B + 36 + 28) ) H → gSg G (B + 71) (gLS G (B + 71) πk lk ρk) H → gSg G (B + 106) (gLB2 G (B + 106) μ) H → gSg G (B + 107) (gLF G (B + 107) ) H → gSg G (B + 108) (gLN G (B + 108) γ) H → gSg G (B + 109) (gLA G (B + 109) α) H → gSg G (B + 111) (gLT G (B + 111) μ) H → gRows G (B + 114) g H → va_S (fun q => (lp ≤ q ∧ q < lp + 6) ∨ (B ≤ q ∧ q < B + 23) ∨ (B + 36 ≤ q ∧ q < B + 58) ∨ (B + 71 ≤ q ∧ q < B + 93) ∨ (B + 106 ≤ q ∧ q < B + 120)) s.heap H locs → ∀ ls, lv_has ls 2 [(0, .ref B), (1, .int (nI k))] → W pp_ l ee_ (gRm 1 40) s mm_ aa_ below meth cc_ H locs 0 0 Q (F0 mm_ 2 ls []) := by
    intro d
    induction d with
    | zero =>
      intro k hk s4 hi H locs zO h1 hk7 h2 zT zKT zE zB zF zN zA zP zG hS ls hl
      have hk : k = bn0 := by omega
      refine lv_iload_n hx hb dX11_looked_2 rfl (lv_at hl 1 rfl) ?_
      refine lv_aload_n hx hb dX11_looked_3 rfl (lv_at hl 0 rfl) ?_
      refine g_get (v := .ref (B + 1)) (T := TX11) (ci := 11) (N := 13) hx hb hown hK (gY_X11 hT) rfl (zO 0 _ rfl) 0 (by decide) (hT _ gf_X11_12) rfl dX11_looked_4 ?_
      refine g_get (v := .ref (B + 1 + 18)) (T := TX9) (ci := 9) (N := 16) hx hb hown hK (gY_X9 hT) rfl (h1 0 _ rfl) 11 (by decide) (hT _ gf_X11_214) rfl dX11_looked_7 ?_
      refine g_get (v := .int (π 15 5)) (T := TX8) (ci := 8) (N := 4) hx hb hown hK (gY_X8 hT) rfl (h1 18 _ rfl) 3 (by decide) (hT _ gf_X11_200) rfl dX11_looked_10 ?_
      refine lv_icmp_ge (tgt := 59) hx hb dX11_looked_13 (by decide) (fun c1 => ?_) (fun c1 => ?_)
      · have c1 : bn0 ≤ k := (gLe (a := bn0) (b := k) hz5 rfl (by omega) (by omega)).mp c1
        refine lv_bipush (v := (-5)) hx hb dX11_looked_59 (by decide) ?_
        rw [← hQ]
        exact g_iret hx hb hr hlk hS dX11_looked_61 ⟨by rw [hi, gLook], _, hrr, zO, h1, hk7, ⟨_, h2⟩, ⟨_, _, _, zT⟩, zKT, ⟨_, hrk, zE⟩, zB, zF, ⟨_, zN⟩, zA, zP, zG⟩
      · have c1 : ¬ bn0 ≤ k := fun z => c1 ((gLe (a := bn0) (b := k) hz5 rfl (by omega) (by omega)).mpr z)
        exact absurd c1 (by omega)
    | succ d ih =>
      intro k hk s4 hi H locs zO h1 hk7 h2 zT zKT zE zB zF zN zA zP zG hS ls hl
      refine lv_iload_n hx hb dX11_looked_2 rfl (lv_at hl 1 rfl) ?_
      refine lv_aload_n hx hb dX11_looked_3 rfl (lv_at hl 0 rfl) ?_
      refine g_get (v := .ref (B + 1)) (T := TX11) (ci := 11) (N := 13) hx hb hown hK (gY_X11 hT) rfl (zO 0 _ rfl) 0 (by decide) (hT _ gf_X11_12) rfl dX11_looked_4 ?_
      refine g_get (v := .ref (B + 1 + 18)) (T := TX9) (ci := 9) (N := 16) hx hb hown hK (gY_X9 hT) rfl (h1 0 _ rfl) 11 (by decide) (hT _ gf_X11_214) rfl dX11_looked_7 ?_
      refine g_get (v := .int (π 15 5)) (T := TX8) (ci := 8) (N := 4) hx hb hown hK (gY_X8 hT) rfl (h1 18 _ rfl) 3 (by decide) (hT _ gf_X11_200) rfl dX11_looked_10 ?_
      refine lv_icmp_ge (tgt := 59) hx hb dX11_looked_13 (by decide) (fun c2 => ?_) (fun c2 => ?_)
      · have c2 : bn0 ≤ k := (gLe (a := bn0) (b := k) hz5 rfl (by omega) (by omega)).mp c2
        exact absurd c2 (by omega)
      · have c2 : ¬ bn0 ≤ k := fun z => c2 ((gLe (a := bn0) (b := k) hz5 rfl (by omega) (by omega)).mpr z)
        obtain ⟨q, lq, eq⟩ := hbo k (by omega)
        obtain ⟨r6, r7⟩ := gRho_5 hrr hz5 hbn k (by omega)
        have ec : (π 13 k).toNatClampNeg = q := by rw [eq, nI_clamp (by omega)]
        refine lv_aload_n hx hb dX11_looked_16 rfl (lv_at hl 0 rfl) ?_
        refine g_get (v := .ref (B + 1)) (T := TX11) (ci := 11) (N := 13) hx hb hown hK (gY_X11 hT) rfl (zO 0 _ rfl) 0 (by decide) (hT _ gf_X11_12) rfl dX11_looked_17 ?_
        refine g_get (v := .ref (B + 1 + 2)) (T := TX9) (ci := 9) (N := 16) hx hb hown hK (gY_X9 hT) rfl (h1 0 _ rfl) 1 (by decide) (hT _ gf_X11_101) rfl dX11_looked_20 ?_
        refine lv_aload_n hx hb dX11_looked_23 rfl (lv_at hl 0 rfl) ?_
        refine g_get (v := .ref (B + 1)) (T := TX11) (ci := 11) (N := 13) hx hb hown hK (gY_X11 hT) rfl (zO 0 _ rfl) 0 (by decide) (hT _ gf_X11_12) rfl dX11_looked_24 ?_
        refine g_get (v := .ref (B + 1 + 18)) (T := TX9) (ci := 9) (N := 16) hx hb hown hK (gY_X9 hT) rfl (h1 0 _ rfl) 11 (by decide) (hT _ gf_X11_214) rfl dX11_looked_27 ?_
        refine g_get (v := .ref (B + 1 + 19)) (T := TX8) (ci := 8) (N := 4) hx hb hown hK (gY_X8 hT) rfl (h1 18 _ rfl) 0 (by decide) (hT _ gf_X11_201) rfl dX11_looked_30 ?_
        refine lv_iload_n hx hb dX11_looked_33 rfl (lv_at hl 1 rfl) ?_
        refine g_ia (j := k) (v := nI q) hx hb hK (h1 19 _ rfl) rfl (by omega) (Nat.le_of_ble_eq_true rfl) (r6.trans eq) dX11_looked_34 ?_
        refine g_ia (j := q) (v := π 0 q) hx hb hK (h1 2 _ rfl) rfl (by omega) (Nat.le_of_ble_eq_true rfl) rfl dX11_looked_35 ?_
        refine lv_aload_n hx hb dX11_looked_36 rfl (lv_at hl 0 rfl) ?_
        refine g_get (v := .ref (B + 1)) (T := TX11) (ci := 11) (N := 13) hx hb hown hK (gY_X11 hT) rfl (zO 0 _ rfl) 0 (by decide) (hT _ gf_X11_12) rfl dX11_looked_37 ?_
        refine g_get (v := .ref (B + 1 + 18)) (T := TX9) (ci := 9) (N := 16) hx hb hown hK (gY_X9 hT) rfl (h1 0 _ rfl) 11 (by decide) (hT _ gf_X11_214) rfl dX11_looked_40 ?_
        refine g_get (v := .ref (B + 1 + 20)) (T := TX8) (ci := 8) (N := 4) hx hb hown hK (gY_X8 hT) rfl (h1 18 _ rfl) 1 (by decide) (hT _ gf_X11_204) rfl dX11_looked_43 ?_
        refine lv_iload_n hx hb dX11_looked_46 rfl (lv_at hl 1 rfl) ?_
        refine g_ia (j := k) (v := π 14 k) hx hb hK (h1 20 _ rfl) rfl (by omega) (Nat.le_of_ble_eq_true rfl) r7 dX11_looked_47 ?_
        refine lv_icmp_eq (tgt := 53) hx hb dX11_looked_48 (by decide) (fun c3 => ?_) (fun c3 => ?_)
        · refine lv_iinc (v := nI (k + 1)) (lv' := [(1, .int (nI (k + 1))), (0, .ref B)]) hx hb dX11_looked_53 hl (k := 1) rfl (gAdd rfl (show Int32.ofInt 1 = nI 1 from rfl)) (by decide) rfl (fun ls hl => ?_)
          refine lv_goto (tgt := 2) hx hb dX11_looked_56 (by decide) ?_
          exact ih (k + 1) (by omega) s4 (by rw [hi, gLook, ec, if_pos c3]) _ _ zO h1 hk7 h2 zT zKT zE zB zF zN zA zP zG hS _ (by have hl := lv_sub hl [1, 0] rfl; exact hl)
        · refine lv_iload_n hx hb dX11_looked_51 rfl (lv_at hl 1 rfl) ?_
          rw [← hQ]
          exact g_iret hx hb hr hlk hS dX11_looked_52 ⟨by rw [hi, gLook, ec, if_neg c3], _, hrr, zO, h1, hk7, ⟨_, h2⟩, ⟨_, _, _, zT⟩, zKT, ⟨_, hrk, zE⟩, zB, zF, ⟨_, zN⟩, zA, zP, zG⟩
  exact loop (bn0 - 0) 0 (by first | omega | simp) s4 rfl _ _ zO h1 hk7 h2 zT zKT zE zB zF zN zA zP zG hS _ (lv_sub hl [1, 0] rfl)

set_option maxHeartbeats 4000000 in
set_option maxRecDepth 100000 in
theorem c_X11_odds (l : Launch) (G : gW) (B lp : Nat) (π πk f μ α : gPS) (lk : Nat) (g : Nat → Int64) (acc : List (Nat × Nat × List Nat)) (hcl : gClo f acc) (hI : gInv π) (hlp : lp = B + 23 ∨ lp = B + 58 ∨ lp = B + 93 ∨ (B + 120 ≤ lp ∧ lp + 6 ≤ B + 156)) (p q : Int32) : gCL l yX11_odds cX11_odds 5 (gRm 4 98) G [.ref B, .int p, .int q] (fun H => gCW G B lp π lk πk f μ α g H) (fun r H => r = (if 0 ≤ p ∧ p < π 15 0 then (if 0 ≤ q ∧ q ≤ 1 then gPt (gOdd π (gLof acc) p.toNatClampNeg 12).toInt64 12 q else -9223372036854775808) else -9223372036854775808) ∧ gCW G B lp π lk πk f μ α g H) (fun q => (lp ≤ q ∧ q < lp + 6) ∨ (B ≤ q ∧ q < B + 23) ∨ (B + 36 ≤ q ∧ q < B + 58) ∨ (B + 71 ≤ q ∧ q < B + 93) ∨ (B + 106 ≤ q ∧ q < B + 120)) := by
  refine g_start (by decide) (Nat.le_of_ble_eq_true rfl) ?_
  intro pp_ ee_ s mm_ aa_ below meth cc_ ls Q hQ hX hE hP hl
  obtain ⟨hx, hb, hr, hml, hown, hT, hlk, hnm⟩ := hX
  have hK := hE.2.1
  obtain ⟨ρ, hrr, zO, h1, hk7, ⟨s4, h2⟩, ⟨πt, lt, ρt, zT⟩, zKT, ⟨ρk, hrk, zE⟩, zB, zF, ⟨γ, zN⟩, zA, zP, zG⟩ := hP
  have hS : va_S (fun q => (lp ≤ q ∧ q < lp + 6) ∨ (B ≤ q ∧ q < B + 23) ∨ (B + 36 ≤ q ∧ q < B + 58) ∨ (B + 71 ≤ q ∧ q < B + 93) ∨ (B + 106 ≤ q ∧ q < B + 120)) s.heap s.heap [] := va_S.rf
  have hl : lv_has ls 5 [(0, .ref B), (1, .int p), (2, .int q)] := hl
  obtain ⟨⟨n, hn, hz, h0z⟩, hki, ⟨sn, hsn, hz3, hsp⟩, ⟨pn, hpn, hz4, hpo⟩, ⟨bn, hbn, hz5, hbo⟩, hfl9⟩ := id hI
  have hd1 : lp + 6 ≤ B + 1 ∨ lp = B + 1 + 22 ∨ B + 1 + 35 ≤ lp := by omega
  have hd36 : lp + 6 ≤ B + 36 ∨ lp = B + 36 + 22 ∨ B + 36 + 35 ≤ lp := by omega
  refine lv_aload_n hx hb dX11_odds_0 rfl (lv_at hl 0 rfl) ?_
  refine lv_iload_n hx hb dX11_odds_1 rfl (lv_at hl 1 rfl) ?_
  refine g_ki (g_runV (T := TX11) (ci := 11) (N := 13) (rest := []) hx hb hml hown hE hT (c_X11_isPigeon l G B lp π ρ μ n hz (by omega) p) gM_X11_isPigeon gm_X11_69 gi_X11_isPigeon gs_RX11_yX11_isPigeon_yX11_isPigeon rfl (zO 0 _ rfl) ⟨zO, h1⟩ rfl hl.1 ⟨rfl, rfl⟩ ⟨Nat.le_of_ble_eq_true rfl, Nat.le_of_ble_eq_true rfl⟩ ⟨Nat.zero_le _, Nat.zero_le _⟩ rfl (Nat.le_of_ble_eq_true rfl) dX11_odds_2) hS (fun _ h => h.elim) (fun r4 H1 locs q2 k3 hS => ?_)
  subst q2
  have zO := gSg_free zO k3 (by intro k hk q; simp only [List.length_cons, List.length_nil] at hk; omega)
  have h1 := gSg_free h1 k3 (by intro k hk q; simp only [List.length_cons, List.length_nil] at hk; omega)
  have hk7 := gSg_free hk7 k3 (by intro k hk q; simp only [List.length_cons, List.length_nil] at hk; omega)
  have h2 := gSg_free h2 k3 (by intro k hk q; simp only [List.length_cons, List.length_nil] at hk; omega)
  have zT := gSg_free zT k3 (by intro k hk q; simp only [List.length_cons, List.length_nil] at hk; omega)
  have zKT := gSg_free zKT k3 (by intro k hk q; simp only [List.length_cons, List.length_nil] at hk; omega)
  have zE := gSg_free zE k3 (by intro k hk q; simp only [List.length_cons, List.length_nil] at hk; omega)
  have zB := gSg_free zB k3 (by intro k hk q; simp only [List.length_cons, List.length_nil] at hk; omega)
  have zF := gSg_free zF k3 (by intro k hk q; simp only [List.length_cons, List.length_nil] at hk; omega)
  have zN := gSg_free zN k3 (by intro k hk q; simp only [List.length_cons, List.length_nil] at hk; omega)
  have zA := gSg_free zA k3 (by intro k hk q; simp only [List.length_cons, List.length_nil] at hk; omega)
  have zP := gSg_free zP k3 (by intro k hk q; simp only [List.length_cons, List.length_nil] at hk; omega)
  have zG := gRows_free zG k3 (by intro k hk q; omega)
  refine lv_if_eq (tgt := 16) hx hb dX11_odds_5 (by decide) (fun c5 => ?_) (fun c5 => ?_)
  · have c5 : ¬ (0 ≤ p ∧ p < π 15 0) := gB_0.mp c5
    refine lv_ldc2 (v := -9223372036854775808) hx hb hown (hT _ gl_X11_191) dX11_odds_16 ?_
    rw [← hQ]
    exact g_lret hx hb hr hlk hS dX11_odds_19 ⟨by simp only [if_neg c5], _, hrr, zO, h1, hk7, ⟨_, h2⟩, ⟨_, _, _, zT⟩, zKT, ⟨_, hrk, zE⟩, zB, zF, ⟨_, zN⟩, zA, zP, zG⟩
  · have c5 : 0 ≤ p ∧ p < π 15 0 := gB_1.mp c5
    obtain ⟨j, hj, ej⟩ := gIx hz (by omega) c5
    subst ej
    refine lv_iload_n hx hb dX11_odds_8 rfl (lv_at hl 2 rfl) ?_
    refine lv_iconst (v := 1) hx hb dX11_odds_9 (by decide) ?_
    refine g_ki (g_runS (rest := []) hx hb hml hown hE hT (c_X11_isUpTo l G q 1) gM_X11_isUpTo gm_X11_57 gt_X11_isUpTo trivial rfl hl.1 ⟨rfl, rfl⟩ ⟨Nat.le_of_ble_eq_true rfl, Nat.le_of_ble_eq_true rfl⟩ ⟨Nat.zero_le _, Nat.zero_le _⟩ rfl (Nat.le_of_ble_eq_true rfl) dX11_odds_10) hS (fun _ h => h.elim) (fun r9 H6 locs q7 k8 hS => ?_)
    subst q7
    have zO := gSg_free zO k8 (by intro k hk q; simp only [List.length_cons, List.length_nil] at hk; omega)
    have h1 := gSg_free h1 k8 (by intro k hk q; simp only [List.length_cons, List.length_nil] at hk; omega)
    have hk7 := gSg_free hk7 k8 (by intro k hk q; simp only [List.length_cons, List.length_nil] at hk; omega)
    have h2 := gSg_free h2 k8 (by intro k hk q; simp only [List.length_cons, List.length_nil] at hk; omega)
    have zT := gSg_free zT k8 (by intro k hk q; simp only [List.length_cons, List.length_nil] at hk; omega)
    have zKT := gSg_free zKT k8 (by intro k hk q; simp only [List.length_cons, List.length_nil] at hk; omega)
    have zE := gSg_free zE k8 (by intro k hk q; simp only [List.length_cons, List.length_nil] at hk; omega)
    have zB := gSg_free zB k8 (by intro k hk q; simp only [List.length_cons, List.length_nil] at hk; omega)
    have zF := gSg_free zF k8 (by intro k hk q; simp only [List.length_cons, List.length_nil] at hk; omega)
    have zN := gSg_free zN k8 (by intro k hk q; simp only [List.length_cons, List.length_nil] at hk; omega)
    have zA := gSg_free zA k8 (by intro k hk q; simp only [List.length_cons, List.length_nil] at hk; omega)
    have zP := gSg_free zP k8 (by intro k hk q; simp only [List.length_cons, List.length_nil] at hk; omega)
    have zG := gRows_free zG k8 (by intro k hk q; omega)
    refine lv_if_ne (tgt := 20) hx hb dX11_odds_13 (by decide) (fun c10 => ?_) (fun c10 => ?_)
    · have c10 : 0 ≤ q ∧ q ≤ 1 := gB_1.mp c10
      refine lv_iconst (v := 0) hx hb dX11_odds_20 (by decide) ?_
      refine lv_istore_n (lv' := [(3, .int 0), (0, .ref B), (1, .int (nI j)), (2, .int q)]) hx hb dX11_odds_21 rfl hl (by decide) rfl (fun ls hl => ?_)
      refine lv_iconst (v := 0) hx hb dX11_odds_22 (by decide) ?_
      refine lv_istore (lv' := [(4, .int 0), (3, .int 0), (0, .ref B), (1, .int (nI j)), (2, .int q)]) hx hb dX11_odds_23 hl (by decide) rfl (fun ls hl => ?_)
      obtain ⟨kd, hkd, ek⟩ := hki j (by omega)
      have loop : ∀ (d k : Nat), k + d = 12 → ∀ (s4 : Nat → Int32), ∀ (H : Heap) (locs : List Loc), gSg G B (gLO G B μ) H → gSg G (B + 1) (gLS G (B + 1) π lp ρ) H → gSg G (B + 1 + 28) (gKk G (B + 1 + 28) ) H → gSg G lp (gLL G lp (gR f 4 s4)) H → gSg G (B + 36) (gLS G (B + 36) πt lt ρt) H → gSg G (B + 36 + 28) (gKk G (B + 36 + 28) ) H → gSg G (B + 71) (gLS G (B + 71) πk lk ρk) H → gSg G (B + 106) (gLB2 G (B + 106) μ) H → gSg G (B + 107) (gLF G (B + 107) ) H → gSg G (B + 108) (gLN G (B + 108) γ) H → gSg G (B + 109) (gLA G (B + 109) α) H → gSg G (B + 111) (gLT G (B + 111) μ) H → gRows G (B + 114) g H → va_S (fun q => (lp ≤ q ∧ q < lp + 6) ∨ (B ≤ q ∧ q < B + 23) ∨ (B + 36 ≤ q ∧ q < B + 58) ∨ (B + 71 ≤ q ∧ q < B + 93) ∨ (B + 106 ≤ q ∧ q < B + 120)) s.heap H locs → ∀ ls, lv_has ls 5 [(0, .ref B), (1, .int (nI j)), (2, .int q), (3, .int (gOdd π (gLof acc) j k)), (4, .int (nI k))] → W pp_ l ee_ (gRm 4 98) s mm_ aa_ below meth cc_ H locs 0 0 Q (F0 mm_ 25 ls []) := by
        intro d
        induction d with
        | zero =>
          intro k hk s4  H locs zO h1 hk7 h2 zT zKT zE zB zF zN zA zP zG hS ls hl
          have hk : k = 12 := by omega
          refine lv_iload hx hb dX11_odds_25 (lv_at hl 4 rfl) ?_
          refine lv_bipush (v := 12) hx hb dX11_odds_27 (by decide) ?_
          refine lv_icmp_ge (tgt := 66) hx hb dX11_odds_29 (by decide) (fun c11 => ?_) (fun c11 => ?_)
          · have c11 : 12 ≤ k := (gLe (a := 12) (b := k) rfl rfl (by omega) (by omega)).mp c11
            subst hk
            refine lv_iload_n hx hb dX11_odds_66 rfl (lv_at hl 3 rfl) ?_
            refine lv_bipush (v := 12) hx hb dX11_odds_67 (by decide) ?_
            refine lv_iload_n hx hb dX11_odds_69 rfl (lv_at hl 2 rfl) ?_
            refine g_kl (g_runS (rest := []) hx hb hml hown hE hT (c_X11_lowestTerm l G (gOdd π (gLof acc) j 12) 12 (by decide) (by decide) q) gM_X11_lowestTerm gm_X11_193 gt_X11_lowestTerm trivial rfl hl.1 ⟨rfl, rfl⟩ ⟨Nat.le_of_ble_eq_true rfl, Nat.le_of_ble_eq_true rfl⟩ ⟨Nat.zero_le _, Nat.zero_le _⟩ rfl (Nat.le_of_ble_eq_true rfl) dX11_odds_70) hS (fun _ h => h.elim) (fun r15 H12 locs q13 k14 hS => ?_)
            subst q13
            have zO := gSg_free zO k14 (by intro k hk q; simp only [List.length_cons, List.length_nil] at hk; omega)
            have h1 := gSg_free h1 k14 (by intro k hk q; simp only [List.length_cons, List.length_nil] at hk; omega)
            have hk7 := gSg_free hk7 k14 (by intro k hk q; simp only [List.length_cons, List.length_nil] at hk; omega)
            have h2 := gSg_free h2 k14 (by intro k hk q; simp only [List.length_cons, List.length_nil] at hk; omega)
            have zT := gSg_free zT k14 (by intro k hk q; simp only [List.length_cons, List.length_nil] at hk; omega)
            have zKT := gSg_free zKT k14 (by intro k hk q; simp only [List.length_cons, List.length_nil] at hk; omega)
            have zE := gSg_free zE k14 (by intro k hk q; simp only [List.length_cons, List.length_nil] at hk; omega)
            have zB := gSg_free zB k14 (by intro k hk q; simp only [List.length_cons, List.length_nil] at hk; omega)
            have zF := gSg_free zF k14 (by intro k hk q; simp only [List.length_cons, List.length_nil] at hk; omega)
            have zN := gSg_free zN k14 (by intro k hk q; simp only [List.length_cons, List.length_nil] at hk; omega)
            have zA := gSg_free zA k14 (by intro k hk q; simp only [List.length_cons, List.length_nil] at hk; omega)
            have zP := gSg_free zP k14 (by intro k hk q; simp only [List.length_cons, List.length_nil] at hk; omega)
            have zG := gRows_free zG k14 (by intro k hk q; omega)
            rw [← hQ]
            exact g_lret hx hb hr hlk hS dX11_odds_73 ⟨by simp only [if_pos c5, if_pos c10, nI_clamp (show j < 2 ^ 31 by omega)] <;> rfl, _, hrr, zO, h1, hk7, ⟨_, h2⟩, ⟨_, _, _, zT⟩, zKT, ⟨_, hrk, zE⟩, zB, zF, ⟨_, zN⟩, zA, zP, zG⟩
          · have c11 : ¬ 12 ≤ k := fun z => c11 ((gLe (a := 12) (b := k) rfl rfl (by omega) (by omega)).mpr z)
            exact absurd c11 (by omega)
        | succ d ih =>
          intro k hk s4  H locs zO h1 hk7 h2 zT zKT zE zB zF zN zA zP zG hS ls hl
          refine lv_iload hx hb dX11_odds_25 (lv_at hl 4 rfl) ?_
          refine lv_bipush (v := 12) hx hb dX11_odds_27 (by decide) ?_
          refine lv_icmp_ge (tgt := 66) hx hb dX11_odds_29 (by decide) (fun c16 => ?_) (fun c16 => ?_)
          · have c16 : 12 ≤ k := (gLe (a := 12) (b := k) rfl rfl (by omega) (by omega)).mp c16
            exact absurd c16 (by omega)
          · have c16 : ¬ 12 ≤ k := fun z => c16 ((gLe (a := 12) (b := k) rfl rfl (by omega) (by omega)).mpr z)
            refine lv_aload_n hx hb dX11_odds_32 rfl (lv_at hl 0 rfl) ?_
            refine g_get (v := .ref (B + 1)) (T := TX11) (ci := 11) (N := 13) hx hb hown hK (gY_X11 hT) rfl (zO 0 _ rfl) 0 (by decide) (hT _ gf_X11_12) rfl dX11_odds_33 ?_
            refine lv_iload_n hx hb dX11_odds_36 rfl (lv_at hl 1 rfl) ?_
            refine lv_aload_n hx hb dX11_odds_37 rfl (lv_at hl 0 rfl) ?_
            refine g_get (v := .ref (B + 1)) (T := TX11) (ci := 11) (N := 13) hx hb hown hK (gY_X11 hT) rfl (zO 0 _ rfl) 0 (by decide) (hT _ gf_X11_12) rfl dX11_odds_38 ?_
            refine g_get (v := .ref (B + 1 + 6)) (T := TX9) (ci := 9) (N := 16) hx hb hown hK (gY_X9 hT) rfl (h1 0 _ rfl) 5 (by decide) (hT _ gf_X11_79) rfl dX11_odds_41 ?_
            refine lv_iload_n hx hb dX11_odds_44 rfl (lv_at hl 1 rfl) ?_
            refine g_ia (j := j) (v := π 4 j) hx hb hK (h1 6 _ rfl) rfl (by omega) (Nat.le_of_ble_eq_true rfl) rfl dX11_odds_45 ?_
            refine lv_iconst (v := 1) hx hb dX11_odds_46 (by decide) ?_
            refine lv_iload hx hb dX11_odds_47 (lv_at hl 4 rfl) ?_
            refine lv_ishl hx hb dX11_odds_49 ?_
            refine lv_ior hx hb dX11_odds_50 ?_
            refine g_ki (g_runV (T := TX9) (ci := 9) (N := 16) (rest := []) hx hb hml hown hE hT (c_X9_gladness l G (B + 1) lp π ρ f hd1 acc hcl j (by omega) kd hkd ek ((π 4 j) ||| (1 <<< ((nI k) &&& 31)))) gM_X9_gladness gm_X11_95 gi_X9_gladness gs_RX9_yX9_gladness_yX9_gladness rfl (h1 0 _ rfl) ⟨h1, hk7, _, h2⟩ rfl hl.1 ⟨rfl, rfl⟩ ⟨Nat.le_of_ble_eq_true rfl, Nat.le_of_ble_eq_true rfl⟩ ⟨Nat.zero_le _, Nat.zero_le _⟩ rfl (Nat.le_of_ble_eq_true rfl) dX11_odds_51) hS (by intro q hq; omega) (fun r20 H17 locs q18 k19 hS => ?_)
            obtain ⟨e9, h1, hk7, s4, h2⟩ := q18
            rw [e9]
            have zO := gSg_free zO k19 (by intro k hk q; simp only [List.length_cons, List.length_nil] at hk; omega)
            have zT := gSg_free zT k19 (by intro k hk q; simp only [List.length_cons, List.length_nil] at hk; omega)
            have zKT := gSg_free zKT k19 (by intro k hk q; simp only [List.length_cons, List.length_nil] at hk; omega)
            have zE := gSg_free zE k19 (by intro k hk q; simp only [List.length_cons, List.length_nil] at hk; omega)
            have zB := gSg_free zB k19 (by intro k hk q; simp only [List.length_cons, List.length_nil] at hk; omega)
            have zF := gSg_free zF k19 (by intro k hk q; simp only [List.length_cons, List.length_nil] at hk; omega)
            have zN := gSg_free zN k19 (by intro k hk q; simp only [List.length_cons, List.length_nil] at hk; omega)
            have zA := gSg_free zA k19 (by intro k hk q; simp only [List.length_cons, List.length_nil] at hk; omega)
            have zP := gSg_free zP k19 (by intro k hk q; simp only [List.length_cons, List.length_nil] at hk; omega)
            have zG := gRows_free zG k19 (by intro k hk q; omega)
            refine lv_if_le (tgt := 60) hx hb dX11_odds_54 (by decide) (fun c21 => ?_) (fun c21 => ?_)
            · refine lv_iinc (v := nI (k + 1)) (lv' := [(4, .int (nI (k + 1))), (0, .ref B), (1, .int (nI j)), (2, .int q), (3, .int (gOdd π (gLof acc) j k))]) hx hb dX11_odds_60 hl (k := 4) rfl (gAdd rfl (show Int32.ofInt 1 = nI 1 from rfl)) (by decide) rfl (fun ls hl => ?_)
              refine lv_goto (tgt := 25) hx hb dX11_odds_63 (by decide) ?_
              exact ih (k + 1) (by omega) s4  _ _ zO h1 hk7 h2 zT zKT zE zB zF zN zA zP zG hS _ (by have hl := lv_sub hl [1, 2, 3, 4, 0] rfl; rw [show (gOdd π (gLof acc) j k : Int32) = gOdd π (gLof acc) j (k + 1) from by rw [gOdd, if_neg (Int32.not_lt.mpr c21)]] at hl; exact hl)
            · refine lv_iinc (v := (gOdd π (gLof acc) j k) + 1) (lv' := [(3, .int ((gOdd π (gLof acc) j k) + 1)), (0, .ref B), (1, .int (nI j)), (2, .int q), (4, .int (nI k))]) hx hb dX11_odds_57 hl (k := 3) rfl rfl (by decide) rfl (fun ls hl => ?_)
              refine lv_iinc (v := nI (k + 1)) (lv' := [(4, .int (nI (k + 1))), (3, .int ((gOdd π (gLof acc) j k) + 1)), (0, .ref B), (1, .int (nI j)), (2, .int q)]) hx hb dX11_odds_60 hl (k := 4) rfl (gAdd rfl (show Int32.ofInt 1 = nI 1 from rfl)) (by decide) rfl (fun ls hl => ?_)
              refine lv_goto (tgt := 25) hx hb dX11_odds_63 (by decide) ?_
              exact ih (k + 1) (by omega) s4  _ _ zO h1 hk7 h2 zT zKT zE zB zF zN zA zP zG hS _ (by have hl := lv_sub hl [2, 3, 4, 1, 0] rfl; rw [show ((gOdd π (gLof acc) j k) + 1 : Int32) = gOdd π (gLof acc) j (k + 1) from by rw [gOdd, if_pos (Int32.not_le.mp c21)]] at hl; exact hl)
      exact loop (12 - 0) 0 (by first | omega | simp) s4 _ _ zO h1 hk7 h2 zT zKT zE zB zF zN zA zP zG hS _ (lv_sub hl [2, 3, 4, 1, 0] rfl)
    · have c10 : ¬ (0 ≤ q ∧ q ≤ 1) := gB_0.mp c10
      refine lv_ldc2 (v := -9223372036854775808) hx hb hown (hT _ gl_X11_191) dX11_odds_16 ?_
      rw [← hQ]
      exact g_lret hx hb hr hlk hS dX11_odds_19 ⟨by simp only [if_pos c5, if_neg c10, nI_clamp (show j < 2 ^ 31 by omega)], _, hrr, zO, h1, hk7, ⟨_, h2⟩, ⟨_, _, _, zT⟩, zKT, ⟨_, hrk, zE⟩, zB, zF, ⟨_, zN⟩, zA, zP, zG⟩

set_option maxHeartbeats 4000000 in
set_option maxRecDepth 100000 in
theorem c_X11_mean (l : Launch) (G : gW) (B lp : Nat) (π πk f μ α : gPS) (lk : Nat) (g : Nat → Int64) (acc : List (Nat × Nat × List Nat)) (hcl : gClo f acc) (hI : gInv π) (hlp : lp = B + 23 ∨ lp = B + 58 ∨ lp = B + 93 ∨ (B + 120 ≤ lp ∧ lp + 6 ≤ B + 156)) (n9 : Nat) (hz9 : π 15 0 = nI n9) (hn9 : n9 ≤ 6) (q : Int32) : gCL l yX11_mean cX11_mean 5 (gRm 4 98) G [.ref B, .int q] (fun H => gCW G B lp π lk πk f μ α g H) (fun r H => r = (if 0 ≤ q ∧ q ≤ 1 then (if (gMea π (gLof acc) n9).2 = 0 then -9223372036854775808 else gPt (gMea π (gLof acc) n9).1.toInt64 (gMea π (gLof acc) n9).2.toInt64 q) else -9223372036854775808) ∧ gCW G B lp π lk πk f μ α g H) (fun q => (lp ≤ q ∧ q < lp + 6) ∨ (B ≤ q ∧ q < B + 23) ∨ (B + 36 ≤ q ∧ q < B + 58) ∨ (B + 71 ≤ q ∧ q < B + 93) ∨ (B + 106 ≤ q ∧ q < B + 120)) := by
  refine g_start (by decide) (Nat.le_of_ble_eq_true rfl) ?_
  intro pp_ ee_ s mm_ aa_ below meth cc_ ls Q hQ hX hE hP hl
  obtain ⟨hx, hb, hr, hml, hown, hT, hlk, hnm⟩ := hX
  have hK := hE.2.1
  obtain ⟨ρ, hrr, zO, h1, hk7, ⟨s4, h2⟩, ⟨πt, lt, ρt, zT⟩, zKT, ⟨ρk, hrk, zE⟩, zB, zF, ⟨γ, zN⟩, zA, zP, zG⟩ := hP
  have hS : va_S (fun q => (lp ≤ q ∧ q < lp + 6) ∨ (B ≤ q ∧ q < B + 23) ∨ (B + 36 ≤ q ∧ q < B + 58) ∨ (B + 71 ≤ q ∧ q < B + 93) ∨ (B + 106 ≤ q ∧ q < B + 120)) s.heap s.heap [] := va_S.rf
  have hl : lv_has ls 5 [(0, .ref B), (1, .int q)] := hl
  obtain ⟨⟨n, hn, hz, h0z⟩, hki, ⟨sn, hsn, hz3, hsp⟩, ⟨pn, hpn, hz4, hpo⟩, ⟨bn, hbn, hz5, hbo⟩, hfl9⟩ := id hI
  have hd1 : lp + 6 ≤ B + 1 ∨ lp = B + 1 + 22 ∨ B + 1 + 35 ≤ lp := by omega
  have hd36 : lp + 6 ≤ B + 36 ∨ lp = B + 36 + 22 ∨ B + 36 + 35 ≤ lp := by omega
  have en : n9 = n := (nI_eq (a := n9) (b := n) (by omega) (by omega)).mp (hz9.symm.trans hz)
  subst en
  refine lv_iload_n hx hb dX11_mean_0 rfl (lv_at hl 1 rfl) ?_
  refine lv_iconst (v := 1) hx hb dX11_mean_1 (by decide) ?_
  refine g_ki (g_runS (rest := []) hx hb hml hown hE hT (c_X11_isUpTo l G q 1) gM_X11_isUpTo gm_X11_57 gt_X11_isUpTo trivial rfl hl.1 ⟨rfl, rfl⟩ ⟨Nat.le_of_ble_eq_true rfl, Nat.le_of_ble_eq_true rfl⟩ ⟨Nat.zero_le _, Nat.zero_le _⟩ rfl (Nat.le_of_ble_eq_true rfl) dX11_mean_2) hS (fun _ h => h.elim) (fun r4 H1 locs q2 k3 hS => ?_)
  subst q2
  have zO := gSg_free zO k3 (by intro k hk q; simp only [List.length_cons, List.length_nil] at hk; omega)
  have h1 := gSg_free h1 k3 (by intro k hk q; simp only [List.length_cons, List.length_nil] at hk; omega)
  have hk7 := gSg_free hk7 k3 (by intro k hk q; simp only [List.length_cons, List.length_nil] at hk; omega)
  have h2 := gSg_free h2 k3 (by intro k hk q; simp only [List.length_cons, List.length_nil] at hk; omega)
  have zT := gSg_free zT k3 (by intro k hk q; simp only [List.length_cons, List.length_nil] at hk; omega)
  have zKT := gSg_free zKT k3 (by intro k hk q; simp only [List.length_cons, List.length_nil] at hk; omega)
  have zE := gSg_free zE k3 (by intro k hk q; simp only [List.length_cons, List.length_nil] at hk; omega)
  have zB := gSg_free zB k3 (by intro k hk q; simp only [List.length_cons, List.length_nil] at hk; omega)
  have zF := gSg_free zF k3 (by intro k hk q; simp only [List.length_cons, List.length_nil] at hk; omega)
  have zN := gSg_free zN k3 (by intro k hk q; simp only [List.length_cons, List.length_nil] at hk; omega)
  have zA := gSg_free zA k3 (by intro k hk q; simp only [List.length_cons, List.length_nil] at hk; omega)
  have zP := gSg_free zP k3 (by intro k hk q; simp only [List.length_cons, List.length_nil] at hk; omega)
  have zG := gRows_free zG k3 (by intro k hk q; omega)
  refine lv_if_ne (tgt := 12) hx hb dX11_mean_5 (by decide) (fun c5 => ?_) (fun c5 => ?_)
  · have c5 : 0 ≤ q ∧ q ≤ 1 := gB_1.mp c5
    refine lv_iconst (v := 0) hx hb dX11_mean_12 (by decide) ?_
    refine lv_istore_n (lv' := [(2, .int 0), (0, .ref B), (1, .int q)]) hx hb dX11_mean_13 rfl hl (by decide) rfl (fun ls hl => ?_)
    refine lv_iconst (v := 0) hx hb dX11_mean_14 (by decide) ?_
    refine lv_istore_n (lv' := [(3, .int 0), (2, .int 0), (0, .ref B), (1, .int q)]) hx hb dX11_mean_15 rfl hl (by decide) rfl (fun ls hl => ?_)
    refine lv_iconst (v := 0) hx hb dX11_mean_16 (by decide) ?_
    refine lv_istore (lv' := [(4, .int 0), (3, .int 0), (2, .int 0), (0, .ref B), (1, .int q)]) hx hb dX11_mean_17 hl (by decide) rfl (fun ls hl => ?_)
    have loop : ∀ (d k : Nat), k + d = n9 → ∀ (s4 : Nat → Int32), ∀ (H : Heap) (locs : List Loc), gSg G B (gLO G B μ) H → gSg G (B + 1) (gLS G (B + 1) π lp ρ) H → gSg G (B + 1 + 28) (gKk G (B + 1 + 28) ) H → gSg G lp (gLL G lp (gR f 4 s4)) H → gSg G (B + 36) (gLS G (B + 36) πt lt ρt) H → gSg G (B + 36 + 28) (gKk G (B + 36 + 28) ) H → gSg G (B + 71) (gLS G (B + 71) πk lk ρk) H → gSg G (B + 106) (gLB2 G (B + 106) μ) H → gSg G (B + 107) (gLF G (B + 107) ) H → gSg G (B + 108) (gLN G (B + 108) γ) H → gSg G (B + 109) (gLA G (B + 109) α) H → gSg G (B + 111) (gLT G (B + 111) μ) H → gRows G (B + 114) g H → va_S (fun q => (lp ≤ q ∧ q < lp + 6) ∨ (B ≤ q ∧ q < B + 23) ∨ (B + 36 ≤ q ∧ q < B + 58) ∨ (B + 71 ≤ q ∧ q < B + 93) ∨ (B + 106 ≤ q ∧ q < B + 120)) s.heap H locs → ∀ ls, lv_has ls 5 [(0, .ref B), (1, .int q), (2, .int ((gMea π (gLof acc) k).1)), (3, .int ((gMea π (gLof acc) k).2)), (4, .int (nI k))] → W pp_ l ee_ (gRm 4 98) s mm_ aa_ below meth cc_ H locs 0 0 Q (F0 mm_ 19 ls []) := by
      intro d
      induction d with
      | zero =>
        intro k hk s4  H locs zO h1 hk7 h2 zT zKT zE zB zF zN zA zP zG hS ls hl
        have hk : k = n9 := by omega
        refine lv_iload hx hb dX11_mean_19 (lv_at hl 4 rfl) ?_
        refine lv_aload_n hx hb dX11_mean_21 rfl (lv_at hl 0 rfl) ?_
        refine g_get (v := .ref (B + 1)) (T := TX11) (ci := 11) (N := 13) hx hb hown hK (gY_X11 hT) rfl (zO 0 _ rfl) 0 (by decide) (hT _ gf_X11_12) rfl dX11_mean_22 ?_
        refine g_get (v := .int (π 15 0)) (T := TX9) (ci := 9) (N := 16) hx hb hown hK (gY_X9 hT) rfl (h1 0 _ rfl) 12 (by decide) (hT _ gf_X11_61) rfl dX11_mean_25 ?_
        refine lv_icmp_ge (tgt := 75) hx hb dX11_mean_28 (by decide) (fun c6 => ?_) (fun c6 => ?_)
        · have c6 : n9 ≤ k := (gLe (a := n9) (b := k) hz rfl (by omega) (by omega)).mp c6
          subst hk
          refine lv_iload_n hx hb dX11_mean_75 rfl (lv_at hl 3 rfl) ?_
          refine lv_if_ne (tgt := 85) hx hb dX11_mean_76 (by decide) (fun c7 => ?_) (fun c7 => ?_)
          · obtain ⟨c9, l9, e9⟩ := gMea_n π (gLof acc) k
            have p9 : 0 < c9 := Nat.pos_of_ne_zero (fun z => c7 (by rw [e9, z]; rfl))
            refine lv_iload_n hx hb dX11_mean_85 rfl (lv_at hl 2 rfl) ?_
            refine lv_iload_n hx hb dX11_mean_86 rfl (lv_at hl 3 rfl) ?_
            refine lv_iload_n hx hb dX11_mean_87 rfl (lv_at hl 1 rfl) ?_
            have e9c := e9
            rw [e9]
            refine g_kl (g_runS (rest := []) hx hb hml hown hE hT (c_X11_lowestTerm l G ((gMea π (gLof acc) k).1) c9 (by omega) (by omega) q) gM_X11_lowestTerm gm_X11_193 gt_X11_lowestTerm trivial rfl hl.1 ⟨rfl, rfl⟩ ⟨Nat.le_of_ble_eq_true rfl, Nat.le_of_ble_eq_true rfl⟩ ⟨Nat.zero_le _, Nat.zero_le _⟩ rfl (Nat.le_of_ble_eq_true rfl) dX11_mean_88) hS (fun _ h => h.elim) (fun r11 H8 locs q9 k10 hS => ?_)
            subst q9
            have zO := gSg_free zO k10 (by intro k hk q; simp only [List.length_cons, List.length_nil] at hk; omega)
            have h1 := gSg_free h1 k10 (by intro k hk q; simp only [List.length_cons, List.length_nil] at hk; omega)
            have hk7 := gSg_free hk7 k10 (by intro k hk q; simp only [List.length_cons, List.length_nil] at hk; omega)
            have h2 := gSg_free h2 k10 (by intro k hk q; simp only [List.length_cons, List.length_nil] at hk; omega)
            have zT := gSg_free zT k10 (by intro k hk q; simp only [List.length_cons, List.length_nil] at hk; omega)
            have zKT := gSg_free zKT k10 (by intro k hk q; simp only [List.length_cons, List.length_nil] at hk; omega)
            have zE := gSg_free zE k10 (by intro k hk q; simp only [List.length_cons, List.length_nil] at hk; omega)
            have zB := gSg_free zB k10 (by intro k hk q; simp only [List.length_cons, List.length_nil] at hk; omega)
            have zF := gSg_free zF k10 (by intro k hk q; simp only [List.length_cons, List.length_nil] at hk; omega)
            have zN := gSg_free zN k10 (by intro k hk q; simp only [List.length_cons, List.length_nil] at hk; omega)
            have zA := gSg_free zA k10 (by intro k hk q; simp only [List.length_cons, List.length_nil] at hk; omega)
            have zP := gSg_free zP k10 (by intro k hk q; simp only [List.length_cons, List.length_nil] at hk; omega)
            have zG := gRows_free zG k10 (by intro k hk q; omega)
            rw [← hQ]
            exact g_lret hx hb hr hlk hS dX11_mean_91 ⟨by rw [if_pos c5, if_neg c7, e9], _, hrr, zO, h1, hk7, ⟨_, h2⟩, ⟨_, _, _, zT⟩, zKT, ⟨_, hrk, zE⟩, zB, zF, ⟨_, zN⟩, zA, zP, zG⟩
          · refine lv_ldc2 (v := -9223372036854775808) hx hb hown (hT _ gl_X11_191) dX11_mean_79 ?_
            refine lv_goto (tgt := 91) hx hb dX11_mean_82 (by decide) ?_
            rw [← hQ]
            exact g_lret hx hb hr hlk hS dX11_mean_91 ⟨by simp only [if_pos c5, if_pos c7], _, hrr, zO, h1, hk7, ⟨_, h2⟩, ⟨_, _, _, zT⟩, zKT, ⟨_, hrk, zE⟩, zB, zF, ⟨_, zN⟩, zA, zP, zG⟩
        · have c6 : ¬ n9 ≤ k := fun z => c6 ((gLe (a := n9) (b := k) hz rfl (by omega) (by omega)).mpr z)
          exact absurd c6 (by omega)
      | succ d ih =>
        intro k hk s4  H locs zO h1 hk7 h2 zT zKT zE zB zF zN zA zP zG hS ls hl
        refine lv_iload hx hb dX11_mean_19 (lv_at hl 4 rfl) ?_
        refine lv_aload_n hx hb dX11_mean_21 rfl (lv_at hl 0 rfl) ?_
        refine g_get (v := .ref (B + 1)) (T := TX11) (ci := 11) (N := 13) hx hb hown hK (gY_X11 hT) rfl (zO 0 _ rfl) 0 (by decide) (hT _ gf_X11_12) rfl dX11_mean_22 ?_
        refine g_get (v := .int (π 15 0)) (T := TX9) (ci := 9) (N := 16) hx hb hown hK (gY_X9 hT) rfl (h1 0 _ rfl) 12 (by decide) (hT _ gf_X11_61) rfl dX11_mean_25 ?_
        refine lv_icmp_ge (tgt := 75) hx hb dX11_mean_28 (by decide) (fun c12 => ?_) (fun c12 => ?_)
        · have c12 : n9 ≤ k := (gLe (a := n9) (b := k) hz rfl (by omega) (by omega)).mp c12
          exact absurd c12 (by omega)
        · have c12 : ¬ n9 ≤ k := fun z => c12 ((gLe (a := n9) (b := k) hz rfl (by omega) (by omega)).mpr z)
          refine lv_aload_n hx hb dX11_mean_31 rfl (lv_at hl 0 rfl) ?_
          refine g_get (v := .ref (B + 1)) (T := TX11) (ci := 11) (N := 13) hx hb hown hK (gY_X11 hT) rfl (zO 0 _ rfl) 0 (by decide) (hT _ gf_X11_12) rfl dX11_mean_32 ?_
          refine g_get (v := .ref (B + 1 + 6)) (T := TX9) (ci := 9) (N := 16) hx hb hown hK (gY_X9 hT) rfl (h1 0 _ rfl) 5 (by decide) (hT _ gf_X11_79) rfl dX11_mean_35 ?_
          refine lv_iload hx hb dX11_mean_38 (lv_at hl 4 rfl) ?_
          refine g_ia (j := k) (v := π 4 k) hx hb hK (h1 6 _ rfl) rfl (by omega) (Nat.le_of_ble_eq_true rfl) rfl dX11_mean_40 ?_
          refine lv_if_eq (tgt := 69) hx hb dX11_mean_41 (by decide) (fun c13 => ?_) (fun c13 => ?_)
          · refine lv_iinc (v := nI (k + 1)) (lv' := [(4, .int (nI (k + 1))), (0, .ref B), (1, .int q), (2, .int ((gMea π (gLof acc) k).1)), (3, .int ((gMea π (gLof acc) k).2))]) hx hb dX11_mean_69 hl (k := 4) rfl (gAdd rfl (show Int32.ofInt 1 = nI 1 from rfl)) (by decide) rfl (fun ls hl => ?_)
            refine lv_goto (tgt := 19) hx hb dX11_mean_72 (by decide) ?_
            exact ih (k + 1) (by omega) s4  _ _ zO h1 hk7 h2 zT zKT zE zB zF zN zA zP zG hS _ (by have hl := lv_sub hl [1, 2, 3, 4, 0] rfl; rw [show ((gMea π (gLof acc) k).1 : Int32) = (gMea π (gLof acc) (k + 1)).1 from by rw [gMea, if_pos c13]] at hl; rw [show ((gMea π (gLof acc) k).2 : Int32) = (gMea π (gLof acc) (k + 1)).2 from by rw [gMea, if_pos c13]] at hl; exact hl)
          · refine lv_iload_n hx hb dX11_mean_44 rfl (lv_at hl 2 rfl) ?_
            refine lv_aload_n hx hb dX11_mean_45 rfl (lv_at hl 0 rfl) ?_
            refine g_get (v := .ref (B + 1)) (T := TX11) (ci := 11) (N := 13) hx hb hown hK (gY_X11 hT) rfl (zO 0 _ rfl) 0 (by decide) (hT _ gf_X11_12) rfl dX11_mean_46 ?_
            refine lv_iload hx hb dX11_mean_49 (lv_at hl 4 rfl) ?_
            refine lv_aload_n hx hb dX11_mean_51 rfl (lv_at hl 0 rfl) ?_
            refine g_get (v := .ref (B + 1)) (T := TX11) (ci := 11) (N := 13) hx hb hown hK (gY_X11 hT) rfl (zO 0 _ rfl) 0 (by decide) (hT _ gf_X11_12) rfl dX11_mean_52 ?_
            refine g_get (v := .ref (B + 1 + 6)) (T := TX9) (ci := 9) (N := 16) hx hb hown hK (gY_X9 hT) rfl (h1 0 _ rfl) 5 (by decide) (hT _ gf_X11_79) rfl dX11_mean_55 ?_
            refine lv_iload hx hb dX11_mean_58 (lv_at hl 4 rfl) ?_
            refine g_ia (j := k) (v := π 4 k) hx hb hK (h1 6 _ rfl) rfl (by omega) (Nat.le_of_ble_eq_true rfl) rfl dX11_mean_60 ?_
            obtain ⟨kd, hkd, ek⟩ := hki k (by omega)
            refine g_ki (g_runV (T := TX9) (ci := 9) (N := 16) (rest := [.int ((gMea π (gLof acc) k).1)]) hx hb hml hown hE hT (c_X9_gladness l G (B + 1) lp π ρ f hd1 acc hcl k (by omega) kd hkd ek (π 4 k)) gM_X9_gladness gm_X11_95 gi_X9_gladness gs_RX9_yX9_gladness_yX9_gladness rfl (h1 0 _ rfl) ⟨h1, hk7, _, h2⟩ rfl hl.1 ⟨rfl, rfl⟩ ⟨Nat.le_of_ble_eq_true rfl, Nat.le_of_ble_eq_true rfl⟩ ⟨Nat.zero_le _, Nat.zero_le _⟩ rfl (Nat.le_of_ble_eq_true rfl) dX11_mean_61) hS (by intro q hq; omega) (fun r17 H14 locs q15 k16 hS => ?_)
            obtain ⟨e9, h1, hk7, s4, h2⟩ := q15
            rw [e9]
            have zO := gSg_free zO k16 (by intro k hk q; simp only [List.length_cons, List.length_nil] at hk; omega)
            have zT := gSg_free zT k16 (by intro k hk q; simp only [List.length_cons, List.length_nil] at hk; omega)
            have zKT := gSg_free zKT k16 (by intro k hk q; simp only [List.length_cons, List.length_nil] at hk; omega)
            have zE := gSg_free zE k16 (by intro k hk q; simp only [List.length_cons, List.length_nil] at hk; omega)
            have zB := gSg_free zB k16 (by intro k hk q; simp only [List.length_cons, List.length_nil] at hk; omega)
            have zF := gSg_free zF k16 (by intro k hk q; simp only [List.length_cons, List.length_nil] at hk; omega)
            have zN := gSg_free zN k16 (by intro k hk q; simp only [List.length_cons, List.length_nil] at hk; omega)
            have zA := gSg_free zA k16 (by intro k hk q; simp only [List.length_cons, List.length_nil] at hk; omega)
            have zP := gSg_free zP k16 (by intro k hk q; simp only [List.length_cons, List.length_nil] at hk; omega)
            have zG := gRows_free zG k16 (by intro k hk q; omega)
            refine lv_iadd hx hb dX11_mean_64 ?_
            refine lv_istore_n (lv' := [(2, .int (((gMea π (gLof acc) k).1) + (gJoy π (gLof acc) k (π 4 k)))), (0, .ref B), (1, .int q), (3, .int ((gMea π (gLof acc) k).2)), (4, .int (nI k))]) hx hb dX11_mean_65 rfl hl (by decide) rfl (fun ls hl => ?_)
            refine lv_iinc (v := ((gMea π (gLof acc) k).2) + 1) (lv' := [(3, .int (((gMea π (gLof acc) k).2) + 1)), (2, .int (((gMea π (gLof acc) k).1) + (gJoy π (gLof acc) k (π 4 k)))), (0, .ref B), (1, .int q), (4, .int (nI k))]) hx hb dX11_mean_66 hl (k := 3) rfl rfl (by decide) rfl (fun ls hl => ?_)
            refine lv_iinc (v := nI (k + 1)) (lv' := [(4, .int (nI (k + 1))), (3, .int (((gMea π (gLof acc) k).2) + 1)), (2, .int (((gMea π (gLof acc) k).1) + (gJoy π (gLof acc) k (π 4 k)))), (0, .ref B), (1, .int q)]) hx hb dX11_mean_69 hl (k := 4) rfl (gAdd rfl (show Int32.ofInt 1 = nI 1 from rfl)) (by decide) rfl (fun ls hl => ?_)
            refine lv_goto (tgt := 19) hx hb dX11_mean_72 (by decide) ?_
            exact ih (k + 1) (by omega) s4  _ _ zO h1 hk7 h2 zT zKT zE zB zF zN zA zP zG hS _ (by have hl := lv_sub hl [3, 4, 2, 1, 0] rfl; rw [show (((gMea π (gLof acc) k).1) + (gJoy π (gLof acc) k (π 4 k)) : Int32) = (gMea π (gLof acc) (k + 1)).1 from by rw [gMea, if_neg c13]] at hl; rw [show (((gMea π (gLof acc) k).2) + 1 : Int32) = (gMea π (gLof acc) (k + 1)).2 from by rw [gMea, if_neg c13]] at hl; exact hl)
    exact loop (n9 - 0) 0 (by first | omega | simp) s4 _ _ zO h1 hk7 h2 zT zKT zE zB zF zN zA zP zG hS _ (lv_sub hl [3, 4, 2, 1, 0] rfl)
  · have c5 : ¬ (0 ≤ q ∧ q ≤ 1) := gB_0.mp c5
    refine lv_ldc2 (v := -9223372036854775808) hx hb hown (hT _ gl_X11_191) dX11_mean_8 ?_
    rw [← hQ]
    exact g_lret hx hb hr hlk hS dX11_mean_11 ⟨by simp only [if_neg c5], _, hrr, zO, h1, hk7, ⟨_, h2⟩, ⟨_, _, _, zT⟩, zKT, ⟨_, hrk, zE⟩, zB, zF, ⟨_, zN⟩, zA, zP, zG⟩

set_option maxHeartbeats 4000000 in
set_option maxRecDepth 100000 in
theorem c_X11_image (l : Launch) (G : gW) (B lp : Nat) (π πk f μ α : gPS) (lk : Nat) (g : Nat → Int64) (acc : List (Nat × Nat × List Nat)) (hcl : gClo f acc) (hI : gInv π) (hlp : lp = B + 23 ∨ lp = B + 58 ∨ lp = B + 93 ∨ (B + 120 ≤ lp ∧ lp + 6 ≤ B + 156))  : gCI l yX11_image cX11_image 1 .int (gRm 2 61) G [.ref B] (fun H => gCW G B lp π lk πk f μ α g H) (fun r H => r = π 15 0 ∧ gCW G B lp π lp π f (gU μ 4 2 1) α g H) (fun q => (lp ≤ q ∧ q < lp + 6) ∨ (B ≤ q ∧ q < B + 23) ∨ (B + 36 ≤ q ∧ q < B + 58) ∨ (B + 71 ≤ q ∧ q < B + 93) ∨ (B + 106 ≤ q ∧ q < B + 120)) := by
  refine g_start (by decide) (Nat.le_of_ble_eq_true rfl) ?_
  intro pp_ ee_ s mm_ aa_ below meth cc_ ls Q hQ hX hE hP hl
  obtain ⟨hx, hb, hr, hml, hown, hT, hlk, hnm⟩ := hX
  have hK := hE.2.1
  obtain ⟨ρ, hrr, zO, h1, hk7, ⟨s4, h2⟩, ⟨πt, lt, ρt, zT⟩, zKT, ⟨ρk, hrk, zE⟩, zB, zF, ⟨γ, zN⟩, zA, zP, zG⟩ := hP
  have hS : va_S (fun q => (lp ≤ q ∧ q < lp + 6) ∨ (B ≤ q ∧ q < B + 23) ∨ (B + 36 ≤ q ∧ q < B + 58) ∨ (B + 71 ≤ q ∧ q < B + 93) ∨ (B + 106 ≤ q ∧ q < B + 120)) s.heap s.heap [] := va_S.rf
  have hl : lv_has ls 1 [(0, .ref B)] := hl
  obtain ⟨⟨n, hn, hz, h0z⟩, hki, ⟨sn, hsn, hz3, hsp⟩, ⟨pn, hpn, hz4, hpo⟩, ⟨bn, hbn, hz5, hbo⟩, hfl9⟩ := id hI
  have hd1 : lp + 6 ≤ B + 1 ∨ lp = B + 1 + 22 ∨ B + 1 + 35 ≤ lp := by omega
  have hd36 : lp + 6 ≤ B + 36 ∨ lp = B + 36 + 22 ∨ B + 36 + 35 ≤ lp := by omega
  refine lv_aload_n hx hb dX11_image_0 rfl (lv_at hl 0 rfl) ?_
  refine g_get (v := .ref (B + 71)) (T := TX11) (ci := 11) (N := 13) hx hb hown hK (gY_X11 hT) rfl (zO 0 _ rfl) 2 (by decide) (hT _ gf_X11_21) rfl dX11_image_1 ?_
  refine lv_aload_n hx hb dX11_image_4 rfl (lv_at hl 0 rfl) ?_
  refine g_get (v := .ref (B + 1)) (T := TX11) (ci := 11) (N := 13) hx hb hown hK (gY_X11 hT) rfl (zO 0 _ rfl) 0 (by decide) (hT _ gf_X11_12) rfl dX11_image_5 ?_
  refine g_kv (g_runV (T := TX9) (ci := 9) (N := 16) (rest := []) hx hb hml hown hE hT (c_X9_becomes l G (B + 71) (B + 1) lk lp πk ρk π ρ (by omega) sn pn bn hz3 hsn hz4 hpn hz5 hbn) gM_X9_becomes gm_X11_152 gi_X9_becomes gs_RX9_yX9_becomes_yX9_becomes rfl (zE 0 _ rfl) ⟨zE, h1⟩ rfl hl.1 ⟨rfl, rfl⟩ ⟨Nat.le_of_ble_eq_true rfl, Nat.le_of_ble_eq_true rfl⟩ ⟨Nat.zero_le _, Nat.zero_le _⟩ rfl (Nat.le_of_ble_eq_true rfl) dX11_image_8) hS (by intro q hq; omega) (fun H1 locs q2 k3 hS => ?_)
  obtain ⟨ρ9, hrw, zE⟩ := q2
  have zO := gSg_free zO k3 (by intro k hk q; simp only [List.length_cons, List.length_nil] at hk; omega)
  have h1 := gSg_free h1 k3 (by intro k hk q; simp only [List.length_cons, List.length_nil] at hk; omega)
  have hk7 := gSg_free hk7 k3 (by intro k hk q; simp only [List.length_cons, List.length_nil] at hk; omega)
  have h2 := gSg_free h2 k3 (by intro k hk q; simp only [List.length_cons, List.length_nil] at hk; omega)
  have zT := gSg_free zT k3 (by intro k hk q; simp only [List.length_cons, List.length_nil] at hk; omega)
  have zKT := gSg_free zKT k3 (by intro k hk q; simp only [List.length_cons, List.length_nil] at hk; omega)
  have zB := gSg_free zB k3 (by intro k hk q; simp only [List.length_cons, List.length_nil] at hk; omega)
  have zF := gSg_free zF k3 (by intro k hk q; simp only [List.length_cons, List.length_nil] at hk; omega)
  have zN := gSg_free zN k3 (by intro k hk q; simp only [List.length_cons, List.length_nil] at hk; omega)
  have zA := gSg_free zA k3 (by intro k hk q; simp only [List.length_cons, List.length_nil] at hk; omega)
  have zP := gSg_free zP k3 (by intro k hk q; simp only [List.length_cons, List.length_nil] at hk; omega)
  have zG := gRows_free zG k3 (by intro k hk q; omega)
  refine lv_aload_n hx hb dX11_image_11 rfl (lv_at hl 0 rfl) ?_
  refine lv_iconst (v := 1) hx hb dX11_image_12 (by decide) ?_
  refine g_put (T := TX11) (ci := 11) (N := 13) (ty0 := tyX11) hx hb hown hK hS (gY_X11 hT) tyX11_ok nmX11 rfl (zO 0 _ rfl) 3 (by decide) (hT _ gf_X11_223) rfl rfl rfl (Nat.le_of_ble_eq_true rfl) (by omega) dX11_image_13 (fun H5 locs c6 oq hS => ?_)
  have zO : gSg G B (gLO G B (gU μ 4 2 1)) H5 := gSg_set zO 0 c6 oq
  have h1 := gSg_off h1 oq (by simp only [List.length_cons, List.length_nil]; omega)
  have hk7 := gSg_off hk7 oq (by simp only [List.length_cons, List.length_nil]; omega)
  have h2 := gSg_off h2 oq (by simp only [List.length_cons, List.length_nil]; omega)
  have zT := gSg_off zT oq (by simp only [List.length_cons, List.length_nil]; omega)
  have zKT := gSg_off zKT oq (by simp only [List.length_cons, List.length_nil]; omega)
  have zE := gSg_off zE oq (by simp only [List.length_cons, List.length_nil]; omega)
  have zB := gSg_off zB oq (by simp only [List.length_cons, List.length_nil]; omega)
  have zF := gSg_off zF oq (by simp only [List.length_cons, List.length_nil]; omega)
  have zN := gSg_off zN oq (by simp only [List.length_cons, List.length_nil]; omega)
  have zA := gSg_off zA oq (by simp only [List.length_cons, List.length_nil]; omega)
  have zP := gSg_off zP oq (by simp only [List.length_cons, List.length_nil]; omega)
  have zG := gRows_off zG oq (by omega)
  refine lv_aload_n hx hb dX11_image_16 rfl (lv_at hl 0 rfl) ?_
  refine g_get (v := .ref (B + 71)) (T := TX11) (ci := 11) (N := 13) hx hb hown hK (gY_X11 hT) rfl (zO 0 _ rfl) 2 (by decide) (hT _ gf_X11_21) rfl dX11_image_17 ?_
  refine g_get (v := .int (π 15 0)) (T := TX9) (ci := 9) (N := 16) hx hb hown hK (gY_X9 hT) rfl (zE 0 _ rfl) 12 (by decide) (hT _ gf_X11_61) rfl dX11_image_20 ?_
  rw [← hQ]
  exact g_iret hx hb hr hlk hS dX11_image_23 ⟨rfl, _, hrr, zO, h1, hk7, ⟨_, h2⟩, ⟨_, _, _, zT⟩, zKT, ⟨_, gRho_w hrr hrw hz3 hsn hz4 hpn hz5 hbn, zE⟩, zB, zF, ⟨_, zN⟩, zA, zP, zG⟩
