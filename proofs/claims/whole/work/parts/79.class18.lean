set_option maxHeartbeats 4000000 in
set_option maxRecDepth 100000 in
theorem c_X11_can (l : Launch) (G : gW) (B lp : Nat) (π πk f μ α : gPS) (lk : Nat) (g : Nat → Int64) (acc : List (Nat × Nat × List Nat)) (hcl : gClo f acc) (hI : gInv π) (hlp : lp = B + 23 ∨ lp = B + 58 ∨ lp = B + 93 ∨ (B + 120 ≤ lp ∧ lp + 6 ≤ B + 156)) (sn9 : Nat) (hs9 : π 15 3 = nI sn9) (ls9 : sn9 ≤ 5) (p q : Int32) : gCI l yX11_can cX11_can 6 .int (gRm 5 120) G [.ref B, .int p, .int q] (fun H => gCW G B lp π lk πk f μ α g H) (fun r H => r = (if 0 ≤ p ∧ p < π 15 0 then (if 0 ≤ q ∧ q ≤ 1 then (if q = 0 then (gCan π (gLof acc) p.toNatClampNeg sn9 10).1 else (gCan π (gLof acc) p.toNatClampNeg sn9 10).2) else -1) else -1) ∧ gCW G B lp π lk πk f μ α g H) (fun q => (lp ≤ q ∧ q < lp + 6) ∨ (B ≤ q ∧ q < B + 23) ∨ (B + 36 ≤ q ∧ q < B + 58) ∨ (B + 71 ≤ q ∧ q < B + 93) ∨ (B + 106 ≤ q ∧ q < B + 120)) := by
  refine g_start (by decide) (Nat.le_of_ble_eq_true rfl) ?_
  intro pp_ ee_ s mm_ aa_ below meth cc_ ls Q hQ hX hE hP hl
  obtain ⟨hx, hb, hr, hml, hown, hT, hlk, hnm⟩ := hX
  have hK := hE.2.1
  obtain ⟨ρ, hrr, zO, h1, hk7, ⟨s4, h2⟩, ⟨πt, lt, ρt, zT⟩, zKT, ⟨ρk, hrk, zE⟩, zB, zF, ⟨γ, zN⟩, zA, zP, zG⟩ := hP
  have hS : va_S (fun q => (lp ≤ q ∧ q < lp + 6) ∨ (B ≤ q ∧ q < B + 23) ∨ (B + 36 ≤ q ∧ q < B + 58) ∨ (B + 71 ≤ q ∧ q < B + 93) ∨ (B + 106 ≤ q ∧ q < B + 120)) s.heap s.heap [] := va_S.rf
  have hl : lv_has ls 6 [(0, .ref B), (1, .int p), (2, .int q)] := hl
  obtain ⟨⟨n, hn, hz, h0z⟩, hki, ⟨sn, hsn, hz3, hsp⟩, ⟨pn, hpn, hz4, hpo⟩, ⟨bn, hbn, hz5, hbo⟩, hfl9⟩ := id hI
  have hd1 : lp + 6 ≤ B + 1 ∨ lp = B + 1 + 22 ∨ B + 1 + 35 ≤ lp := by omega
  have hd36 : lp + 6 ≤ B + 36 ∨ lp = B + 36 + 22 ∨ B + 36 + 35 ≤ lp := by omega
  have es : sn9 = sn := (nI_eq (a := sn9) (b := sn) (by omega) (by omega)).mp (hs9.symm.trans hz3)
  subst es
  refine lv_aload_n hx hb dX11_can_0 rfl (lv_at hl 0 rfl) ?_
  refine lv_iload_n hx hb dX11_can_1 rfl (lv_at hl 1 rfl) ?_
  refine g_ki (g_runV (T := TX11) (ci := 11) (N := 13) (rest := []) hx hb hml hown hE hT (c_X11_isPigeon l G B lp π ρ μ n hz (by omega) p) gM_X11_isPigeon gm_X11_69 gi_X11_isPigeon gs_RX11_yX11_isPigeon_yX11_isPigeon rfl (zO 0 _ rfl) ⟨zO, h1⟩ rfl hl.1 ⟨rfl, rfl⟩ ⟨Nat.le_of_ble_eq_true rfl, Nat.le_of_ble_eq_true rfl⟩ ⟨Nat.zero_le _, Nat.zero_le _⟩ rfl (Nat.le_of_ble_eq_true rfl) dX11_can_2) hS (fun _ h => h.elim) (fun r4 H1 locs q2 k3 hS => ?_)
  subst q2
  have zO := gSg_free zO k3 (by intro k hk q; simp only [List.length_cons, List.length_nil] at hk; omega)
  have h1 := gSg_free h1 k3 (by intro k hk q; simp only [List.length_cons, List.length_nil] at hk; omega)
  have hk7 := gSg_free hk7 k3 (by intro k hk q; simp only [List.length_cons, List.length_nil] at hk; omega)
  have h2 := gSg_free h2 k3 (by intro k hk q; simp only [List.length_cons, List.length_nil] at hk; omega)
  have zT := gSg_free zT k3 (by intro k hk q; simp only [List.length_cons, List.length_nil] at hk; omega)
  have zKT := gSg_free zKT k3 (by intro k hk q; simp only [List.length_cons, List.length_nil] at hk; omega)
  have zE := gSg_free zE k3 (by intro k hk q; simp only [List.length_cons, List.length_nil] at hk; omega)
  have zB := gSg_free zB k3 (by intro k hk q; simp only [List.length_cons, List.length_nil] at hk; omega)
  have zF := gSg_free zF k3 (by intro k hk q; simp only [List.length_cons, List.length_nil] at hk; omega)
  have zN := gSg_free zN k3 (by intro k hk q; simp only [List.length_cons, List.length_nil] at hk; omega)
  have zA := gSg_free zA k3 (by intro k hk q; simp only [List.length_cons, List.length_nil] at hk; omega)
  have zP := gSg_free zP k3 (by intro k hk q; simp only [List.length_cons, List.length_nil] at hk; omega)
  have zG := gRows_free zG k3 (by intro k hk q; omega)
  refine lv_if_eq (tgt := 16) hx hb dX11_can_5 (by decide) (fun c5 => ?_) (fun c5 => ?_)
  · have c5 : ¬ (0 ≤ p ∧ p < π 15 0) := gB_0.mp c5
    refine lv_iconst (v := (-1)) hx hb dX11_can_16 (by decide) ?_
    rw [← hQ]
    exact g_iret hx hb hr hlk hS dX11_can_17 ⟨by simp only [if_neg c5], _, hrr, zO, h1, hk7, ⟨_, h2⟩, ⟨_, _, _, zT⟩, zKT, ⟨_, hrk, zE⟩, zB, zF, ⟨_, zN⟩, zA, zP, zG⟩
  · have c5 : 0 ≤ p ∧ p < π 15 0 := gB_1.mp c5
    obtain ⟨j, hj, ej⟩ := gIx hz (by omega) c5
    subst ej
    refine lv_iload_n hx hb dX11_can_8 rfl (lv_at hl 2 rfl) ?_
    refine lv_iconst (v := 1) hx hb dX11_can_9 (by decide) ?_
    refine g_ki (g_runS (rest := []) hx hb hml hown hE hT (c_X11_isUpTo l G q 1) gM_X11_isUpTo gm_X11_57 gt_X11_isUpTo trivial rfl hl.1 ⟨rfl, rfl⟩ ⟨Nat.le_of_ble_eq_true rfl, Nat.le_of_ble_eq_true rfl⟩ ⟨Nat.zero_le _, Nat.zero_le _⟩ rfl (Nat.le_of_ble_eq_true rfl) dX11_can_10) hS (fun _ h => h.elim) (fun r9 H6 locs q7 k8 hS => ?_)
    subst q7
    have zO := gSg_free zO k8 (by intro k hk q; simp only [List.length_cons, List.length_nil] at hk; omega)
    have h1 := gSg_free h1 k8 (by intro k hk q; simp only [List.length_cons, List.length_nil] at hk; omega)
    have hk7 := gSg_free hk7 k8 (by intro k hk q; simp only [List.length_cons, List.length_nil] at hk; omega)
    have h2 := gSg_free h2 k8 (by intro k hk q; simp only [List.length_cons, List.length_nil] at hk; omega)
    have zT := gSg_free zT k8 (by intro k hk q; simp only [List.length_cons, List.length_nil] at hk; omega)
    have zKT := gSg_free zKT k8 (by intro k hk q; simp only [List.length_cons, List.length_nil] at hk; omega)
    have zE := gSg_free zE k8 (by intro k hk q; simp only [List.length_cons, List.length_nil] at hk; omega)
    have zB := gSg_free zB k8 (by intro k hk q; simp only [List.length_cons, List.length_nil] at hk; omega)
    have zF := gSg_free zF k8 (by intro k hk q; simp only [List.length_cons, List.length_nil] at hk; omega)
    have zN := gSg_free zN k8 (by intro k hk q; simp only [List.length_cons, List.length_nil] at hk; omega)
    have zA := gSg_free zA k8 (by intro k hk q; simp only [List.length_cons, List.length_nil] at hk; omega)
    have zP := gSg_free zP k8 (by intro k hk q; simp only [List.length_cons, List.length_nil] at hk; omega)
    have zG := gRows_free zG k8 (by intro k hk q; omega)
    refine lv_if_ne (tgt := 18) hx hb dX11_can_13 (by decide) (fun c10 => ?_) (fun c10 => ?_)
    · have c10 : 0 ≤ q ∧ q ≤ 1 := gB_1.mp c10
      refine lv_aload_n hx hb dX11_can_18 rfl (lv_at hl 0 rfl) ?_
      refine g_get (v := .ref (B + 36)) (T := TX11) (ci := 11) (N := 13) hx hb hown hK (gY_X11 hT) rfl (zO 0 _ rfl) 1 (by decide) (hT _ gf_X11_18) rfl dX11_can_19 ?_
      refine lv_aload_n hx hb dX11_can_22 rfl (lv_at hl 0 rfl) ?_
      refine g_get (v := .ref (B + 1)) (T := TX11) (ci := 11) (N := 13) hx hb hown hK (gY_X11 hT) rfl (zO 0 _ rfl) 0 (by decide) (hT _ gf_X11_12) rfl dX11_can_23 ?_
      refine g_kv (g_runV (T := TX9) (ci := 9) (N := 16) (rest := []) hx hb hml hown hE hT (c_X9_becomes l G (B + 36) (B + 1) lt lp πt ρt π ρ (by omega) sn9 pn bn hz3 hsn hz4 hpn hz5 hbn) gM_X9_becomes gm_X11_152 gi_X9_becomes gs_RX9_yX9_becomes_yX9_becomes rfl (zT 0 _ rfl) ⟨zT, h1⟩ rfl hl.1 ⟨rfl, rfl⟩ ⟨Nat.le_of_ble_eq_true rfl, Nat.le_of_ble_eq_true rfl⟩ ⟨Nat.zero_le _, Nat.zero_le _⟩ rfl (Nat.le_of_ble_eq_true rfl) dX11_can_26) hS (by intro q hq; omega) (fun H11 locs q12 k13 hS => ?_)
      obtain ⟨ρ9, hrw, zT⟩ := q12
      have zO := gSg_free zO k13 (by intro k hk q; simp only [List.length_cons, List.length_nil] at hk; omega)
      have h1 := gSg_free h1 k13 (by intro k hk q; simp only [List.length_cons, List.length_nil] at hk; omega)
      have hk7 := gSg_free hk7 k13 (by intro k hk q; simp only [List.length_cons, List.length_nil] at hk; omega)
      have h2 := gSg_free h2 k13 (by intro k hk q; simp only [List.length_cons, List.length_nil] at hk; omega)
      have zKT := gSg_free zKT k13 (by intro k hk q; simp only [List.length_cons, List.length_nil] at hk; omega)
      have zE := gSg_free zE k13 (by intro k hk q; simp only [List.length_cons, List.length_nil] at hk; omega)
      have zB := gSg_free zB k13 (by intro k hk q; simp only [List.length_cons, List.length_nil] at hk; omega)
      have zF := gSg_free zF k13 (by intro k hk q; simp only [List.length_cons, List.length_nil] at hk; omega)
      have zN := gSg_free zN k13 (by intro k hk q; simp only [List.length_cons, List.length_nil] at hk; omega)
      have zA := gSg_free zA k13 (by intro k hk q; simp only [List.length_cons, List.length_nil] at hk; omega)
      have zP := gSg_free zP k13 (by intro k hk q; simp only [List.length_cons, List.length_nil] at hk; omega)
      have zG := gRows_free zG k13 (by intro k hk q; omega)
      have hr9 : ∀ k, k < sn9 → ρ9 0 k = π 8 k ∧ ρ9 1 k = π 9 k ∧ ρ9 2 k = π 10 k := fun k hk => ⟨(hrw.1 k hk).1.trans (gRho_3 hrr hz3 hsn k hk).1, (hrw.1 k hk).2.1.trans (gRho_3 hrr hz3 hsn k hk).2.1, (hrw.1 k hk).2.2.trans (gRho_3 hrr hz3 hsn k hk).2.2⟩
      refine lv_iconst (v := 0) hx hb dX11_can_29 (by decide) ?_
      refine lv_istore_n (lv' := [(3, .int 0), (0, .ref B), (1, .int (nI j)), (2, .int q)]) hx hb dX11_can_30 rfl hl (by decide) rfl (fun ls hl => ?_)
      refine lv_bipush (v := (-5)) hx hb dX11_can_31 (by decide) ?_
      refine lv_istore (lv' := [(4, .int (-5)), (3, .int 0), (0, .ref B), (1, .int (nI j)), (2, .int q)]) hx hb dX11_can_33 hl (by decide) rfl (fun ls hl => ?_)
      refine lv_bipush (v := 9) hx hb dX11_can_35 (by decide) ?_
      refine lv_istore (lv' := [(5, .int 9), (4, .int (-5)), (3, .int 0), (0, .ref B), (1, .int (nI j)), (2, .int q)]) hx hb dX11_can_37 hl (by decide) rfl (fun ls hl => ?_)
      have hl : lv_has ls 6 [(5, .int (9 - nI 0)), (4, .int (-5)), (3, .int 0), (0, .ref B), (1, .int (nI j)), (2, .int q)] := hl
      have loop : ∀ (d k : Nat), k + d = 10 → ∀ (P9 : gPS) (s4 : Nat → Int32), (∀ y, gU P9 3 j y = gU π 3 j y) → ∀ (H : Heap) (locs : List Loc), gSg G B (gLO G B μ) H → gSg G (B + 1) (gLS G (B + 1) π lp ρ) H → gSg G (B + 1 + 28) (gKk G (B + 1 + 28) ) H → gSg G lp (gLL G lp (gR f 4 s4)) H → gSg G (B + 36) (gLS G (B + 36) P9 lp ρ9) H → gSg G (B + 36 + 28) (gKk G (B + 36 + 28) ) H → gSg G (B + 71) (gLS G (B + 71) πk lk ρk) H → gSg G (B + 106) (gLB2 G (B + 106) μ) H → gSg G (B + 107) (gLF G (B + 107) ) H → gSg G (B + 108) (gLN G (B + 108) γ) H → gSg G (B + 109) (gLA G (B + 109) α) H → gSg G (B + 111) (gLT G (B + 111) μ) H → gRows G (B + 114) g H → va_S (fun q => (lp ≤ q ∧ q < lp + 6) ∨ (B ≤ q ∧ q < B + 23) ∨ (B + 36 ≤ q ∧ q < B + 58) ∨ (B + 71 ≤ q ∧ q < B + 93) ∨ (B + 106 ≤ q ∧ q < B + 120)) s.heap H locs → ∀ ls, lv_has ls 6 [(0, .ref B), (1, .int (nI j)), (2, .int q), (3, .int ((gCan π (gLof acc) j sn9 k).1)), (4, .int ((gCan π (gLof acc) j sn9 k).2)), (5, .int (9 - nI k))] → W pp_ l ee_ (gRm 5 120) s mm_ aa_ below meth cc_ H locs 0 0 Q (F0 mm_ 39 ls []) := by
        intro d
        induction d with
        | zero =>
          intro k hk P9 s4 hPP H locs zO h1 hk7 h2 zT zKT zE zB zF zN zA zP zG hS ls hl
          have hk : k = 10 := by omega
          refine lv_iload hx hb dX11_can_39 (lv_at hl 5 rfl) ?_
          refine lv_if_lt (tgt := 78) hx hb dX11_can_41 (by decide) (fun c15 => ?_) (fun c15 => ?_)
          · refine lv_iload_n hx hb dX11_can_78 rfl (lv_at hl 2 rfl) ?_
            refine lv_if_ne (tgt := 86) hx hb dX11_can_79 (by decide) (fun c16 => ?_) (fun c16 => ?_)
            · refine lv_iload hx hb dX11_can_86 (lv_at hl 4 rfl) ?_
              rw [← hQ]
              exact g_iret hx hb hr hlk hS dX11_can_88 ⟨by simp only [if_pos c5, if_pos c10, nI_clamp (show j < 2 ^ 31 by omega), if_neg c16, hk], _, hrr, zO, h1, hk7, ⟨_, h2⟩, ⟨_, _, _, zT⟩, zKT, ⟨_, hrk, zE⟩, zB, zF, ⟨_, zN⟩, zA, zP, zG⟩
            · refine lv_iload_n hx hb dX11_can_82 rfl (lv_at hl 3 rfl) ?_
              refine lv_goto (tgt := 88) hx hb dX11_can_83 (by decide) ?_
              rw [← hQ]
              exact g_iret hx hb hr hlk hS dX11_can_88 ⟨by simp only [if_pos c5, if_pos c10, nI_clamp (show j < 2 ^ 31 by omega), if_pos c16, hk], _, hrr, zO, h1, hk7, ⟨_, h2⟩, ⟨_, _, _, zT⟩, zKT, ⟨_, hrk, zE⟩, zB, zF, ⟨_, zN⟩, zA, zP, zG⟩
          · exact absurd (by rw [hk]; decide) c15
        | succ d ih =>
          intro k hk P9 s4 hPP H locs zO h1 hk7 h2 zT zKT zE zB zF zN zA zP zG hS ls hl
          refine lv_iload hx hb dX11_can_39 (lv_at hl 5 rfl) ?_
          refine lv_if_lt (tgt := 78) hx hb dX11_can_41 (by decide) (fun c17 => ?_) (fun c17 => ?_)
          · exact absurd c17 (by rw [gDn k (by omega)]; exact nI_pos (by omega))
          · rw [gDn k (by omega)] at hl
            refine lv_aload_n hx hb dX11_can_44 rfl (lv_at hl 0 rfl) ?_
            refine g_get (v := .ref (B + 36)) (T := TX11) (ci := 11) (N := 13) hx hb hown hK (gY_X11 hT) rfl (zO 0 _ rfl) 1 (by decide) (hT _ gf_X11_18) rfl dX11_can_45 ?_
            refine g_get (v := .ref (B + 36 + 5)) (T := TX9) (ci := 9) (N := 16) hx hb hown hK (gY_X9 hT) rfl (zT 0 _ rfl) 4 (by decide) (hT _ gf_X11_76) rfl dX11_can_48 ?_
            refine lv_iload_n hx hb dX11_can_51 rfl (lv_at hl 1 rfl) ?_
            refine lv_iload hx hb dX11_can_52 (lv_at hl 5 rfl) ?_
            refine g_is (j := j) hx hb hK hS (zT 5 _ rfl) rfl (by omega) (Nat.le_of_ble_eq_true rfl) (by omega) dX11_can_54 (fun H18 locs c19 oq hS => ?_)
            have zT : gSg G (B + 36) (gLS G (B + 36) (gU P9 3 j (nI (9 - k))) lp ρ9) H18 := gSg_set zT 5 c19 oq
            have zO := gSg_off zO oq (by simp only [List.length_cons, List.length_nil]; omega)
            have h1 := gSg_off h1 oq (by simp only [List.length_cons, List.length_nil]; omega)
            have hk7 := gSg_off hk7 oq (by simp only [List.length_cons, List.length_nil]; omega)
            have h2 := gSg_off h2 oq (by simp only [List.length_cons, List.length_nil]; omega)
            have zKT := gSg_off zKT oq (by simp only [List.length_cons, List.length_nil]; omega)
            have zE := gSg_off zE oq (by simp only [List.length_cons, List.length_nil]; omega)
            have zB := gSg_off zB oq (by simp only [List.length_cons, List.length_nil]; omega)
            have zF := gSg_off zF oq (by simp only [List.length_cons, List.length_nil]; omega)
            have zN := gSg_off zN oq (by simp only [List.length_cons, List.length_nil]; omega)
            have zA := gSg_off zA oq (by simp only [List.length_cons, List.length_nil]; omega)
            have zP := gSg_off zP oq (by simp only [List.length_cons, List.length_nil]; omega)
            have zG := gRows_off zG oq (by omega)
            refine lv_aload_n hx hb dX11_can_55 rfl (lv_at hl 0 rfl) ?_
            refine g_get (v := .ref (B + 36)) (T := TX11) (ci := 11) (N := 13) hx hb hown hK (gY_X11 hT) rfl (zO 0 _ rfl) 1 (by decide) (hT _ gf_X11_18) rfl dX11_can_56 ?_
            rw [hPP] at zT
            refine g_ki (g_runV (T := TX9) (ci := 9) (N := 16) (rest := []) hx hb hml hown hE hT (c_X9_isSeenSo l G (B + 36) lp (gU π 3 j (nI (9 - k))) ρ9 f hd36 acc hcl hki sn9 hz3 hsn hsp hr9) gM_X9_isSeenSo gm_X11_187 gi_X9_isSeenSo gs_RX9_yX9_isSeenSo_yX9_isSeenSo rfl (zT 0 _ rfl) ⟨zT, zKT, _, h2⟩ rfl hl.1 ⟨rfl, rfl⟩ ⟨Nat.le_of_ble_eq_true rfl, Nat.le_of_ble_eq_true rfl⟩ ⟨Nat.zero_le _, Nat.zero_le _⟩ rfl (Nat.le_of_ble_eq_true rfl) dX11_can_59) hS (by intro q hq; omega) (fun r23 H20 locs q21 k22 hS => ?_)
            obtain ⟨e9, zT, zKT, s4, h2⟩ := q21
            rw [e9]
            have zO := gSg_free zO k22 (by intro k hk q; simp only [List.length_cons, List.length_nil] at hk; omega)
            have h1 := gSg_free h1 k22 (by intro k hk q; simp only [List.length_cons, List.length_nil] at hk; omega)
            have hk7 := gSg_free hk7 k22 (by intro k hk q; simp only [List.length_cons, List.length_nil] at hk; omega)
            have zE := gSg_free zE k22 (by intro k hk q; simp only [List.length_cons, List.length_nil] at hk; omega)
            have zB := gSg_free zB k22 (by intro k hk q; simp only [List.length_cons, List.length_nil] at hk; omega)
            have zF := gSg_free zF k22 (by intro k hk q; simp only [List.length_cons, List.length_nil] at hk; omega)
            have zN := gSg_free zN k22 (by intro k hk q; simp only [List.length_cons, List.length_nil] at hk; omega)
            have zA := gSg_free zA k22 (by intro k hk q; simp only [List.length_cons, List.length_nil] at hk; omega)
            have zP := gSg_free zP k22 (by intro k hk q; simp only [List.length_cons, List.length_nil] at hk; omega)
            have zG := gRows_free zG k22 (by intro k hk q; omega)
            refine lv_if_eq (tgt := 72) hx hb dX11_can_62 (by decide) (fun c24 => ?_) (fun c24 => ?_)
            · have c24 : ¬ (gSn (gU π 3 j (nI (9 - k))) (gLof acc) 0 sn9 = true) := gB_0.mp c24
              refine lv_iinc (v := (nI (9 - k)) + (-1)) (lv' := [(5, .int ((nI (9 - k)) + (-1))), (0, .ref B), (1, .int (nI j)), (2, .int q), (3, .int ((gCan π (gLof acc) j sn9 k).1)), (4, .int ((gCan π (gLof acc) j sn9 k).2))]) hx hb dX11_can_72 hl (k := 5) rfl rfl (by decide) rfl (fun ls hl => ?_)
              refine lv_goto (tgt := 39) hx hb dX11_can_75 (by decide) ?_
              exact ih (k + 1) (by omega) (gU π 3 j (nI (9 - k))) s4 (fun y => gU_uu) _ _ zO h1 hk7 h2 zT zKT zE zB zF zN zA zP zG hS _ (by have hl := lv_sub hl [1, 2, 3, 4, 5, 0] rfl; rw [show ((gCan π (gLof acc) j sn9 k).1 : Int32) = (gCan π (gLof acc) j sn9 (k + 1)).1 from by rw [gCan, if_neg c24]] at hl; rw [show ((gCan π (gLof acc) j sn9 k).2 : Int32) = (gCan π (gLof acc) j sn9 (k + 1)).2 from by rw [gCan, if_neg c24]] at hl; rw [show ((nI (9 - k)) + (-1) : Int32) = 9 - nI (k + 1) from gDn_s k (by omega)] at hl; exact hl)
            · have c24 : gSn (gU π 3 j (nI (9 - k))) (gLof acc) 0 sn9 = true := gB_1.mp c24
              refine lv_iinc (v := ((gCan π (gLof acc) j sn9 k).1) + 1) (lv' := [(3, .int (((gCan π (gLof acc) j sn9 k).1) + 1)), (0, .ref B), (1, .int (nI j)), (2, .int q), (4, .int ((gCan π (gLof acc) j sn9 k).2)), (5, .int (nI (9 - k)))]) hx hb dX11_can_65 hl (k := 3) rfl rfl (by decide) rfl (fun ls hl => ?_)
              refine lv_iload hx hb dX11_can_68 (lv_at hl 5 rfl) ?_
              refine lv_istore (lv' := [(4, .int (nI (9 - k))), (3, .int (((gCan π (gLof acc) j sn9 k).1) + 1)), (0, .ref B), (1, .int (nI j)), (2, .int q), (5, .int (nI (9 - k)))]) hx hb dX11_can_70 hl (by decide) rfl (fun ls hl => ?_)
              refine lv_iinc (v := (nI (9 - k)) + (-1)) (lv' := [(5, .int ((nI (9 - k)) + (-1))), (4, .int (nI (9 - k))), (3, .int (((gCan π (gLof acc) j sn9 k).1) + 1)), (0, .ref B), (1, .int (nI j)), (2, .int q)]) hx hb dX11_can_72 hl (k := 5) rfl rfl (by decide) rfl (fun ls hl => ?_)
              refine lv_goto (tgt := 39) hx hb dX11_can_75 (by decide) ?_
              exact ih (k + 1) (by omega) (gU π 3 j (nI (9 - k))) s4 (fun y => gU_uu) _ _ zO h1 hk7 h2 zT zKT zE zB zF zN zA zP zG hS _ (by have hl := lv_sub hl [3, 4, 5, 2, 1, 0] rfl; rw [show (((gCan π (gLof acc) j sn9 k).1) + 1 : Int32) = (gCan π (gLof acc) j sn9 (k + 1)).1 from by rw [gCan, if_pos c24]] at hl; rw [show ((nI (9 - k)) + (-1) : Int32) = 9 - nI (k + 1) from gDn_s k (by omega)] at hl; rw [show (nI (9 - k) : Int32) = (gCan π (gLof acc) j sn9 (k + 1)).2 from by rw [gCan, if_pos c24]] at hl; exact hl)
      exact loop (10 - 0) 0 (by first | omega | simp) π s4 (fun _ => rfl) _ _ zO h1 hk7 h2 zT zKT zE zB zF zN zA zP zG hS _ (lv_sub hl [3, 4, 5, 2, 1, 0] rfl)
    · have c10 : ¬ (0 ≤ q ∧ q ≤ 1) := gB_0.mp c10
      refine lv_iconst (v := (-1)) hx hb dX11_can_16 (by decide) ?_
      rw [← hQ]
      exact g_iret hx hb hr hlk hS dX11_can_17 ⟨by simp only [if_pos c5, if_neg c10, nI_clamp (show j < 2 ^ 31 by omega)], _, hrr, zO, h1, hk7, ⟨_, h2⟩, ⟨_, _, _, zT⟩, zKT, ⟨_, hrk, zE⟩, zB, zF, ⟨_, zN⟩, zA, zP, zG⟩

set_option maxHeartbeats 4000000 in
set_option maxRecDepth 100000 in
theorem c_X11_ends (l : Launch) (G : gW) (B lp : Nat) (π πk f μ α : gPS) (lk : Nat) (g : Nat → Int64) (acc : List (Nat × Nat × List Nat)) (hcl : gClo f acc) (hI : gInv π) (hlp : lp = B + 23 ∨ lp = B + 58 ∨ lp = B + 93 ∨ (B + 120 ≤ lp ∧ lp + 6 ≤ B + 156)) (n9 : Nat) (hz9 : π 15 0 = nI n9) (hn9 : n9 ≤ 6) (pn9 : Nat) (hp9 : π 15 4 = nI pn9) (lp9 : pn9 ≤ 10) (wh : Int32) : gCI l yX11_ends cX11_ends 3 .int (gRm 7 165) G [.ref B, .int wh] (fun H => gCW G B lp π lk πk f μ α g H) (fun r H => r = gqEnds π (gLof acc) n9 pn9 wh ∧ gCW G B lp π lk πk f μ α g H) (fun q => (lp ≤ q ∧ q < lp + 6) ∨ (B ≤ q ∧ q < B + 23) ∨ (B + 36 ≤ q ∧ q < B + 58) ∨ (B + 71 ≤ q ∧ q < B + 93) ∨ (B + 106 ≤ q ∧ q < B + 120)) := by
  refine g_start (by decide) (Nat.le_of_ble_eq_true rfl) ?_
  intro pp_ ee_ s mm_ aa_ below meth cc_ ls Q hQ hX hE hP hl
  obtain ⟨hx, hb, hr, hml, hown, hT, hlk, hnm⟩ := hX
  have hK := hE.2.1
  obtain ⟨ρ, hrr, zO, h1, hk7, ⟨s4, h2⟩, ⟨πt, lt, ρt, zT⟩, zKT, ⟨ρk, hrk, zE⟩, zB, zF, ⟨γ, zN⟩, zA, zP, zG⟩ := hP
  have hS : va_S (fun q => (lp ≤ q ∧ q < lp + 6) ∨ (B ≤ q ∧ q < B + 23) ∨ (B + 36 ≤ q ∧ q < B + 58) ∨ (B + 71 ≤ q ∧ q < B + 93) ∨ (B + 106 ≤ q ∧ q < B + 120)) s.heap s.heap [] := va_S.rf
  have hl : lv_has ls 3 [(0, .ref B), (1, .int wh)] := hl
  obtain ⟨⟨n, hn, hz, h0z⟩, hki, ⟨sn, hsn, hz3, hsp⟩, ⟨pn, hpn, hz4, hpo⟩, ⟨bn, hbn, hz5, hbo⟩, hfl9⟩ := id hI
  have hd1 : lp + 6 ≤ B + 1 ∨ lp = B + 1 + 22 ∨ B + 1 + 35 ≤ lp := by omega
  have hd36 : lp + 6 ≤ B + 36 ∨ lp = B + 36 + 22 ∨ B + 36 + 35 ≤ lp := by omega
  have en : n9 = n := (nI_eq (a := n9) (b := n) (by omega) (by omega)).mp (hz9.symm.trans hz)
  subst en
  have ep : pn9 = pn := (nI_eq (a := pn9) (b := pn) (by omega) (by omega)).mp (hp9.symm.trans hz4)
  subst ep
  refine lv_iload_n hx hb dX11_ends_0 rfl (lv_at hl 1 rfl) ?_
  refine lv_iconst (v := 1) hx hb dX11_ends_1 (by decide) ?_
  refine g_ki (g_runS (rest := []) hx hb hml hown hE hT (c_X11_isUpTo l G wh 1) gM_X11_isUpTo gm_X11_57 gt_X11_isUpTo trivial rfl hl.1 ⟨rfl, rfl⟩ ⟨Nat.le_of_ble_eq_true rfl, Nat.le_of_ble_eq_true rfl⟩ ⟨Nat.zero_le _, Nat.zero_le _⟩ rfl (Nat.le_of_ble_eq_true rfl) dX11_ends_2) hS (fun _ h => h.elim) (fun r4 H1 locs q2 k3 hS => ?_)
  subst q2
  have zO := gSg_free zO k3 (by intro k hk q; simp only [List.length_cons, List.length_nil] at hk; omega)
  have h1 := gSg_free h1 k3 (by intro k hk q; simp only [List.length_cons, List.length_nil] at hk; omega)
  have hk7 := gSg_free hk7 k3 (by intro k hk q; simp only [List.length_cons, List.length_nil] at hk; omega)
  have h2 := gSg_free h2 k3 (by intro k hk q; simp only [List.length_cons, List.length_nil] at hk; omega)
  have zT := gSg_free zT k3 (by intro k hk q; simp only [List.length_cons, List.length_nil] at hk; omega)
  have zKT := gSg_free zKT k3 (by intro k hk q; simp only [List.length_cons, List.length_nil] at hk; omega)
  have zE := gSg_free zE k3 (by intro k hk q; simp only [List.length_cons, List.length_nil] at hk; omega)
  have zB := gSg_free zB k3 (by intro k hk q; simp only [List.length_cons, List.length_nil] at hk; omega)
  have zF := gSg_free zF k3 (by intro k hk q; simp only [List.length_cons, List.length_nil] at hk; omega)
  have zN := gSg_free zN k3 (by intro k hk q; simp only [List.length_cons, List.length_nil] at hk; omega)
  have zA := gSg_free zA k3 (by intro k hk q; simp only [List.length_cons, List.length_nil] at hk; omega)
  have zP := gSg_free zP k3 (by intro k hk q; simp only [List.length_cons, List.length_nil] at hk; omega)
  have zG := gRows_free zG k3 (by intro k hk q; omega)
  refine lv_if_ne (tgt := 10) hx hb dX11_ends_5 (by decide) (fun c5 => ?_) (fun c5 => ?_)
  · have c5 : 0 ≤ wh ∧ wh ≤ 1 := gB_1.mp c5
    refine lv_aload_n hx hb dX11_ends_10 rfl (lv_at hl 0 rfl) ?_
    refine g_get (v := .ref (B + 36)) (T := TX11) (ci := 11) (N := 13) hx hb hown hK (gY_X11 hT) rfl (zO 0 _ rfl) 1 (by decide) (hT _ gf_X11_18) rfl dX11_ends_11 ?_
    refine lv_aload_n hx hb dX11_ends_14 rfl (lv_at hl 0 rfl) ?_
    refine g_get (v := .ref (B + 1)) (T := TX11) (ci := 11) (N := 13) hx hb hown hK (gY_X11 hT) rfl (zO 0 _ rfl) 0 (by decide) (hT _ gf_X11_12) rfl dX11_ends_15 ?_
    refine g_kv (g_runV (T := TX9) (ci := 9) (N := 16) (rest := []) hx hb hml hown hE hT (c_X9_becomes l G (B + 36) (B + 1) lt lp πt ρt π ρ (by omega) sn pn9 bn hz3 hsn hz4 hpn hz5 hbn) gM_X9_becomes gm_X11_152 gi_X9_becomes gs_RX9_yX9_becomes_yX9_becomes rfl (zT 0 _ rfl) ⟨zT, h1⟩ rfl hl.1 ⟨rfl, rfl⟩ ⟨Nat.le_of_ble_eq_true rfl, Nat.le_of_ble_eq_true rfl⟩ ⟨Nat.zero_le _, Nat.zero_le _⟩ rfl (Nat.le_of_ble_eq_true rfl) dX11_ends_18) hS (by intro q hq; omega) (fun H6 locs q7 k8 hS => ?_)
    obtain ⟨ρ9, hrw, zT⟩ := q7
    have zO := gSg_free zO k8 (by intro k hk q; simp only [List.length_cons, List.length_nil] at hk; omega)
    have h1 := gSg_free h1 k8 (by intro k hk q; simp only [List.length_cons, List.length_nil] at hk; omega)
    have hk7 := gSg_free hk7 k8 (by intro k hk q; simp only [List.length_cons, List.length_nil] at hk; omega)
    have h2 := gSg_free h2 k8 (by intro k hk q; simp only [List.length_cons, List.length_nil] at hk; omega)
    have zKT := gSg_free zKT k8 (by intro k hk q; simp only [List.length_cons, List.length_nil] at hk; omega)
    have zE := gSg_free zE k8 (by intro k hk q; simp only [List.length_cons, List.length_nil] at hk; omega)
    have zB := gSg_free zB k8 (by intro k hk q; simp only [List.length_cons, List.length_nil] at hk; omega)
    have zF := gSg_free zF k8 (by intro k hk q; simp only [List.length_cons, List.length_nil] at hk; omega)
    have zN := gSg_free zN k8 (by intro k hk q; simp only [List.length_cons, List.length_nil] at hk; omega)
    have zA := gSg_free zA k8 (by intro k hk q; simp only [List.length_cons, List.length_nil] at hk; omega)
    have zP := gSg_free zP k8 (by intro k hk q; simp only [List.length_cons, List.length_nil] at hk; omega)
    have zG := gRows_free zG k8 (by intro k hk q; omega)
    refine lv_iconst (v := 0) hx hb dX11_ends_21 (by decide) ?_
    refine lv_istore_n (lv' := [(2, .int 0), (0, .ref B), (1, .int wh)]) hx hb dX11_ends_22 rfl hl (by decide) rfl (fun ls hl => ?_)
    have hzp : ∀ k, (gPl π (gLof acc) n9 k) 15 0 = nI n9 := fun k => (gPl_15 (by decide) (by decide) k).trans hz
    have hkp : ∀ k j, j < 6 → ∃ z, z < 7 ∧ (gPl π (gLof acc) n9 k) 2 j = nI z := fun k j hj => by rw [gPl_r (by decide) (by decide) (by decide) (by decide) (by decide)]; exact hki j hj
    have loop : ∀ (d k : Nat), k + d = pn9 → ∀ (s4 : Nat → Int32), ∀ (H : Heap) (locs : List Loc), gSg G B (gLO G B μ) H → gSg G (B + 1) (gLS G (B + 1) π lp ρ) H → gSg G (B + 1 + 28) (gKk G (B + 1 + 28) ) H → gSg G lp (gLL G lp (gR f 4 s4)) H → gSg G (B + 36) (gLS G (B + 36) (gPl π (gLof acc) n9 k) lp ρ9) H → gSg G (B + 36 + 28) (gKk G (B + 36 + 28) ) H → gSg G (B + 71) (gLS G (B + 71) πk lk ρk) H → gSg G (B + 106) (gLB2 G (B + 106) μ) H → gSg G (B + 107) (gLF G (B + 107) ) H → gSg G (B + 108) (gLN G (B + 108) γ) H → gSg G (B + 109) (gLA G (B + 109) α) H → gSg G (B + 111) (gLT G (B + 111) μ) H → gRows G (B + 114) g H → va_S (fun q => (lp ≤ q ∧ q < lp + 6) ∨ (B ≤ q ∧ q < B + 23) ∨ (B + 36 ≤ q ∧ q < B + 58) ∨ (B + 71 ≤ q ∧ q < B + 93) ∨ (B + 106 ≤ q ∧ q < B + 120)) s.heap H locs → ∀ ls, lv_has ls 3 [(0, .ref B), (1, .int wh), (2, .int (nI k))] → W pp_ l ee_ (gRm 7 165) s mm_ aa_ below meth cc_ H locs 0 0 Q (F0 mm_ 23 ls []) := by
      intro d
      induction d with
      | zero =>
        intro k hk s4  H locs zO h1 hk7 h2 zT zKT zE zB zF zN zA zP zG hS ls hl
        have hk : k = pn9 := by omega
        refine lv_iload_n hx hb dX11_ends_23 rfl (lv_at hl 2 rfl) ?_
        refine lv_aload_n hx hb dX11_ends_24 rfl (lv_at hl 0 rfl) ?_
        refine g_get (v := .ref (B + 1)) (T := TX11) (ci := 11) (N := 13) hx hb hown hK (gY_X11 hT) rfl (zO 0 _ rfl) 0 (by decide) (hT _ gf_X11_12) rfl dX11_ends_25 ?_
        refine g_get (v := .ref (B + 1 + 14)) (T := TX9) (ci := 9) (N := 16) hx hb hown hK (gY_X9 hT) rfl (h1 0 _ rfl) 10 (by decide) (hT _ gf_X11_197) rfl dX11_ends_28 ?_
        refine g_get (v := .int (π 15 4)) (T := TX8) (ci := 8) (N := 4) hx hb hown hK (gY_X8 hT) rfl (h1 14 _ rfl) 3 (by decide) (hT _ gf_X11_200) rfl dX11_ends_31 ?_
        refine lv_icmp_ge (tgt := 74) hx hb dX11_ends_34 (by decide) (fun c10 => ?_) (fun c10 => ?_)
        · have c10 : pn9 ≤ k := (gLe (a := pn9) (b := k) hz4 rfl (by omega) (by omega)).mp c10
          rw [hk] at zT
          refine lv_iload_n hx hb dX11_ends_74 rfl (lv_at hl 1 rfl) ?_
          refine lv_if_ne (tgt := 88) hx hb dX11_ends_75 (by decide) (fun c11 => ?_) (fun c11 => ?_)
          · refine lv_aload_n hx hb dX11_ends_88 rfl (lv_at hl 0 rfl) ?_
            refine g_get (v := .ref (B + 36)) (T := TX11) (ci := 11) (N := 13) hx hb hown hK (gY_X11 hT) rfl (zO 0 _ rfl) 1 (by decide) (hT _ gf_X11_18) rfl dX11_ends_89 ?_
            refine g_ki (g_runV (T := TX9) (ci := 9) (N := 16) (rest := []) hx hb hml hown hE hT (c_X9_flownByAll l G (B + 36) lp (gPl π (gLof acc) n9 pn9) ρ9 n9 (hzp pn9) hn) gM_X9_flownByAll gm_X11_211 gi_X9_flownByAll gs_RX9_yX9_flownByAll_yX9_flownByAll rfl (zT 0 _ rfl) zT rfl hl.1 ⟨rfl, rfl⟩ ⟨Nat.le_of_ble_eq_true rfl, Nat.le_of_ble_eq_true rfl⟩ ⟨Nat.zero_le _, Nat.zero_le _⟩ rfl (Nat.le_of_ble_eq_true rfl) dX11_ends_92) hS (fun _ h => h.elim) (fun r15 H12 locs q13 k14 hS => ?_)
            subst q13
            have zO := gSg_free zO k14 (by intro k hk q; simp only [List.length_cons, List.length_nil] at hk; omega)
            have h1 := gSg_free h1 k14 (by intro k hk q; simp only [List.length_cons, List.length_nil] at hk; omega)
            have hk7 := gSg_free hk7 k14 (by intro k hk q; simp only [List.length_cons, List.length_nil] at hk; omega)
            have h2 := gSg_free h2 k14 (by intro k hk q; simp only [List.length_cons, List.length_nil] at hk; omega)
            have zT := gSg_free zT k14 (by intro k hk q; simp only [List.length_cons, List.length_nil] at hk; omega)
            have zKT := gSg_free zKT k14 (by intro k hk q; simp only [List.length_cons, List.length_nil] at hk; omega)
            have zE := gSg_free zE k14 (by intro k hk q; simp only [List.length_cons, List.length_nil] at hk; omega)
            have zB := gSg_free zB k14 (by intro k hk q; simp only [List.length_cons, List.length_nil] at hk; omega)
            have zF := gSg_free zF k14 (by intro k hk q; simp only [List.length_cons, List.length_nil] at hk; omega)
            have zN := gSg_free zN k14 (by intro k hk q; simp only [List.length_cons, List.length_nil] at hk; omega)
            have zA := gSg_free zA k14 (by intro k hk q; simp only [List.length_cons, List.length_nil] at hk; omega)
            have zP := gSg_free zP k14 (by intro k hk q; simp only [List.length_cons, List.length_nil] at hk; omega)
            have zG := gRows_free zG k14 (by intro k hk q; omega)
            rw [← hQ]
            exact g_iret hx hb hr hlk hS dX11_ends_95 ⟨by rw [gqEnds, if_pos c5, if_neg c11], _, hrr, zO, h1, hk7, ⟨_, h2⟩, ⟨_, _, _, zT⟩, zKT, ⟨_, hrk, zE⟩, zB, zF, ⟨_, zN⟩, zA, zP, zG⟩
          · refine lv_aload_n hx hb dX11_ends_78 rfl (lv_at hl 0 rfl) ?_
            refine g_get (v := .ref (B + 36)) (T := TX11) (ci := 11) (N := 13) hx hb hown hK (gY_X11 hT) rfl (zO 0 _ rfl) 1 (by decide) (hT _ gf_X11_18) rfl dX11_ends_79 ?_
            refine g_get (v := .int ((gPl π (gLof acc) n9 pn9) 15 1)) (T := TX9) (ci := 9) (N := 16) hx hb hown hK (gY_X9 hT) rfl (zT 0 _ rfl) 13 (by decide) (hT _ gf_X11_136) rfl dX11_ends_82 ?_
            refine lv_goto (tgt := 95) hx hb dX11_ends_85 (by decide) ?_
            rw [← hQ]
            exact g_iret hx hb hr hlk hS dX11_ends_95 ⟨by rw [gqEnds, if_pos c5, if_pos c11], _, hrr, zO, h1, hk7, ⟨_, h2⟩, ⟨_, _, _, zT⟩, zKT, ⟨_, hrk, zE⟩, zB, zF, ⟨_, zN⟩, zA, zP, zG⟩
        · have c10 : ¬ pn9 ≤ k := fun z => c10 ((gLe (a := pn9) (b := k) hz4 rfl (by omega) (by omega)).mpr z)
          exact absurd c10 (by omega)
      | succ d ih =>
        intro k hk s4  H locs zO h1 hk7 h2 zT zKT zE zB zF zN zA zP zG hS ls hl
        refine lv_iload_n hx hb dX11_ends_23 rfl (lv_at hl 2 rfl) ?_
        refine lv_aload_n hx hb dX11_ends_24 rfl (lv_at hl 0 rfl) ?_
        refine g_get (v := .ref (B + 1)) (T := TX11) (ci := 11) (N := 13) hx hb hown hK (gY_X11 hT) rfl (zO 0 _ rfl) 0 (by decide) (hT _ gf_X11_12) rfl dX11_ends_25 ?_
        refine g_get (v := .ref (B + 1 + 14)) (T := TX9) (ci := 9) (N := 16) hx hb hown hK (gY_X9 hT) rfl (h1 0 _ rfl) 10 (by decide) (hT _ gf_X11_197) rfl dX11_ends_28 ?_
        refine g_get (v := .int (π 15 4)) (T := TX8) (ci := 8) (N := 4) hx hb hown hK (gY_X8 hT) rfl (h1 14 _ rfl) 3 (by decide) (hT _ gf_X11_200) rfl dX11_ends_31 ?_
        refine lv_icmp_ge (tgt := 74) hx hb dX11_ends_34 (by decide) (fun c16 => ?_) (fun c16 => ?_)
        · have c16 : pn9 ≤ k := (gLe (a := pn9) (b := k) hz4 rfl (by omega) (by omega)).mp c16
          exact absurd c16 (by omega)
        · have c16 : ¬ pn9 ≤ k := fun z => c16 ((gLe (a := pn9) (b := k) hz4 rfl (by omega) (by omega)).mpr z)
          obtain ⟨r3, r4⟩ := gRho_4 hrr hz4 hpn k (by omega)
          refine lv_aload_n hx hb dX11_ends_37 rfl (lv_at hl 0 rfl) ?_
          refine g_get (v := .ref (B + 36)) (T := TX11) (ci := 11) (N := 13) hx hb hown hK (gY_X11 hT) rfl (zO 0 _ rfl) 1 (by decide) (hT _ gf_X11_18) rfl dX11_ends_38 ?_
          refine lv_aload_n hx hb dX11_ends_41 rfl (lv_at hl 0 rfl) ?_
          refine g_get (v := .ref (B + 1)) (T := TX11) (ci := 11) (N := 13) hx hb hown hK (gY_X11 hT) rfl (zO 0 _ rfl) 0 (by decide) (hT _ gf_X11_12) rfl dX11_ends_42 ?_
          refine g_get (v := .ref (B + 1 + 14)) (T := TX9) (ci := 9) (N := 16) hx hb hown hK (gY_X9 hT) rfl (h1 0 _ rfl) 10 (by decide) (hT _ gf_X11_197) rfl dX11_ends_45 ?_
          refine g_get (v := .ref (B + 1 + 15)) (T := TX8) (ci := 8) (N := 4) hx hb hown hK (gY_X8 hT) rfl (h1 14 _ rfl) 0 (by decide) (hT _ gf_X11_201) rfl dX11_ends_48 ?_
          refine lv_iload_n hx hb dX11_ends_51 rfl (lv_at hl 2 rfl) ?_
          refine g_ia (j := k) (v := π 11 k) hx hb hK (h1 15 _ rfl) rfl (by omega) (Nat.le_of_ble_eq_true rfl) r3 dX11_ends_52 ?_
          refine lv_aload_n hx hb dX11_ends_53 rfl (lv_at hl 0 rfl) ?_
          refine g_get (v := .ref (B + 1)) (T := TX11) (ci := 11) (N := 13) hx hb hown hK (gY_X11 hT) rfl (zO 0 _ rfl) 0 (by decide) (hT _ gf_X11_12) rfl dX11_ends_54 ?_
          refine g_get (v := .ref (B + 1 + 14)) (T := TX9) (ci := 9) (N := 16) hx hb hown hK (gY_X9 hT) rfl (h1 0 _ rfl) 10 (by decide) (hT _ gf_X11_197) rfl dX11_ends_57 ?_
          refine g_get (v := .ref (B + 1 + 16)) (T := TX8) (ci := 8) (N := 4) hx hb hown hK (gY_X8 hT) rfl (h1 14 _ rfl) 1 (by decide) (hT _ gf_X11_204) rfl dX11_ends_60 ?_
          refine lv_iload_n hx hb dX11_ends_63 rfl (lv_at hl 2 rfl) ?_
          refine g_ia (j := k) (v := ρ 4 k) hx hb hK (h1 16 _ rfl) rfl (by omega) (Nat.le_of_ble_eq_true rfl) rfl dX11_ends_64 ?_
          refine g_kv (g_runV (T := TX9) (ci := 9) (N := 16) (rest := []) hx hb hml hown hE hT (c_X9_planned l G (B + 36) lp (gPl π (gLof acc) n9 k) ρ9 f hd36 acc hcl n9 (hzp k) hn (hkp k) (π 11 k) (ρ 4 k) (π 12 k).toNatClampNeg (gPlx hpo (by omega) r4)) gM_X9_planned gm_X11_207 gi_X9_planned gs_RX9_yX9_planned_yX9_planned rfl (zT 0 _ rfl) ⟨zT, zKT, _, h2⟩ rfl hl.1 ⟨rfl, rfl⟩ ⟨Nat.le_of_ble_eq_true rfl, Nat.le_of_ble_eq_true rfl⟩ ⟨Nat.zero_le _, Nat.zero_le _⟩ rfl (Nat.le_of_ble_eq_true rfl) dX11_ends_65) hS (by intro q hq; omega) (fun H17 locs q18 k19 hS => ?_)
          obtain ⟨zT, zKT, s4, h2⟩ := q18
          have zO := gSg_free zO k19 (by intro k hk q; simp only [List.length_cons, List.length_nil] at hk; omega)
          have h1 := gSg_free h1 k19 (by intro k hk q; simp only [List.length_cons, List.length_nil] at hk; omega)
          have hk7 := gSg_free hk7 k19 (by intro k hk q; simp only [List.length_cons, List.length_nil] at hk; omega)
          have zE := gSg_free zE k19 (by intro k hk q; simp only [List.length_cons, List.length_nil] at hk; omega)
          have zB := gSg_free zB k19 (by intro k hk q; simp only [List.length_cons, List.length_nil] at hk; omega)
          have zF := gSg_free zF k19 (by intro k hk q; simp only [List.length_cons, List.length_nil] at hk; omega)
          have zN := gSg_free zN k19 (by intro k hk q; simp only [List.length_cons, List.length_nil] at hk; omega)
          have zA := gSg_free zA k19 (by intro k hk q; simp only [List.length_cons, List.length_nil] at hk; omega)
          have zP := gSg_free zP k19 (by intro k hk q; simp only [List.length_cons, List.length_nil] at hk; omega)
          have zG := gRows_free zG k19 (by intro k hk q; omega)
          have zT : gSg G (B + 36) (gLS G (B + 36) (gPl π (gLof acc) n9 (k + 1)) lp ρ9) H17 := zT
          refine lv_iinc (v := nI (k + 1)) (lv' := [(2, .int (nI (k + 1))), (0, .ref B), (1, .int wh)]) hx hb dX11_ends_68 hl (k := 2) rfl (gAdd rfl (show Int32.ofInt 1 = nI 1 from rfl)) (by decide) rfl (fun ls hl => ?_)
          refine lv_goto (tgt := 23) hx hb dX11_ends_71 (by decide) ?_
          exact ih (k + 1) (by omega) s4  _ _ zO h1 hk7 h2 zT zKT zE zB zF zN zA zP zG hS _ (by have hl := lv_sub hl [1, 2, 0] rfl; exact hl)
    exact loop (pn9 - 0) 0 (by first | omega | simp) s4 _ _ zO h1 hk7 h2 zT zKT zE zB zF zN zA zP zG hS _ (lv_sub hl [1, 2, 0] rfl)
  · have c5 : ¬ (0 ≤ wh ∧ wh ≤ 1) := gB_0.mp c5
    refine lv_iconst (v := (-1)) hx hb dX11_ends_8 (by decide) ?_
    rw [← hQ]
    exact g_iret hx hb hr hlk hS dX11_ends_9 ⟨by rw [gqEnds, if_neg c5], _, hrr, zO, h1, hk7, ⟨_, h2⟩, ⟨_, _, _, zT⟩, zKT, ⟨_, hrk, zE⟩, zB, zF, ⟨_, zN⟩, zA, zP, zG⟩

set_option maxHeartbeats 4000000 in
set_option maxRecDepth 100000 in
theorem c_X11_wording (l : Launch) (G : gW) (B lp : Nat) (π πk f μ α : gPS) (lk : Nat) (g : Nat → Int64) (acc : List (Nat × Nat × List Nat)) (hcl : gClo f acc) (hI : gInv π) (hlp : lp = B + 23 ∨ lp = B + 58 ∨ lp = B + 93 ∨ (B + 120 ≤ lp ∧ lp + 6 ≤ B + 156)) (p fa : Int32) : gCI l yX11_wording cX11_wording 7 .int (gRm 3 76) G [.ref B, .int p, .int fa] (fun H => gCW G B lp π lk πk f μ α g H) (fun r H => r = (if 0 ≤ p ∧ p < π 15 0 then (if 0 ≤ fa ∧ fa ≤ 255 then gWor π (gLof acc) p.toNatClampNeg fa 4096 else -2) else -1) ∧ gCW G B lp π lk πk f μ α g H) (fun q => (lp ≤ q ∧ q < lp + 6) ∨ (B ≤ q ∧ q < B + 23) ∨ (B + 36 ≤ q ∧ q < B + 58) ∨ (B + 71 ≤ q ∧ q < B + 93) ∨ (B + 106 ≤ q ∧ q < B + 120)) := by
  refine g_start (by decide) (Nat.le_of_ble_eq_true rfl) ?_
  intro pp_ ee_ s mm_ aa_ below meth cc_ ls Q hQ hX hE hP hl
  obtain ⟨hx, hb, hr, hml, hown, hT, hlk, hnm⟩ := hX
  have hK := hE.2.1
  obtain ⟨ρ, hrr, zO, h1, hk7, ⟨s4, h2⟩, ⟨πt, lt, ρt, zT⟩, zKT, ⟨ρk, hrk, zE⟩, zB, zF, ⟨γ, zN⟩, zA, zP, zG⟩ := hP
  have hS : va_S (fun q => (lp ≤ q ∧ q < lp + 6) ∨ (B ≤ q ∧ q < B + 23) ∨ (B + 36 ≤ q ∧ q < B + 58) ∨ (B + 71 ≤ q ∧ q < B + 93) ∨ (B + 106 ≤ q ∧ q < B + 120)) s.heap s.heap [] := va_S.rf
  have hl : lv_has ls 7 [(0, .ref B), (1, .int p), (2, .int fa)] := hl
  obtain ⟨⟨n, hn, hz, h0z⟩, hki, ⟨sn, hsn, hz3, hsp⟩, ⟨pn, hpn, hz4, hpo⟩, ⟨bn, hbn, hz5, hbo⟩, hfl9⟩ := id hI
  have hd1 : lp + 6 ≤ B + 1 ∨ lp = B + 1 + 22 ∨ B + 1 + 35 ≤ lp := by omega
  have hd36 : lp + 6 ≤ B + 36 ∨ lp = B + 36 + 22 ∨ B + 36 + 35 ≤ lp := by omega
  refine lv_aload_n hx hb dX11_wording_0 rfl (lv_at hl 0 rfl) ?_
  refine lv_iload_n hx hb dX11_wording_1 rfl (lv_at hl 1 rfl) ?_
  refine g_ki (g_runV (T := TX11) (ci := 11) (N := 13) (rest := []) hx hb hml hown hE hT (c_X11_isPigeon l G B lp π ρ μ n hz (by omega) p) gM_X11_isPigeon gm_X11_69 gi_X11_isPigeon gs_RX11_yX11_isPigeon_yX11_isPigeon rfl (zO 0 _ rfl) ⟨zO, h1⟩ rfl hl.1 ⟨rfl, rfl⟩ ⟨Nat.le_of_ble_eq_true rfl, Nat.le_of_ble_eq_true rfl⟩ ⟨Nat.zero_le _, Nat.zero_le _⟩ rfl (Nat.le_of_ble_eq_true rfl) dX11_wording_2) hS (fun _ h => h.elim) (fun r4 H1 locs q2 k3 hS => ?_)
  subst q2
  have zO := gSg_free zO k3 (by intro k hk q; simp only [List.length_cons, List.length_nil] at hk; omega)
  have h1 := gSg_free h1 k3 (by intro k hk q; simp only [List.length_cons, List.length_nil] at hk; omega)
  have hk7 := gSg_free hk7 k3 (by intro k hk q; simp only [List.length_cons, List.length_nil] at hk; omega)
  have h2 := gSg_free h2 k3 (by intro k hk q; simp only [List.length_cons, List.length_nil] at hk; omega)
  have zT := gSg_free zT k3 (by intro k hk q; simp only [List.length_cons, List.length_nil] at hk; omega)
  have zKT := gSg_free zKT k3 (by intro k hk q; simp only [List.length_cons, List.length_nil] at hk; omega)
  have zE := gSg_free zE k3 (by intro k hk q; simp only [List.length_cons, List.length_nil] at hk; omega)
  have zB := gSg_free zB k3 (by intro k hk q; simp only [List.length_cons, List.length_nil] at hk; omega)
  have zF := gSg_free zF k3 (by intro k hk q; simp only [List.length_cons, List.length_nil] at hk; omega)
  have zN := gSg_free zN k3 (by intro k hk q; simp only [List.length_cons, List.length_nil] at hk; omega)
  have zA := gSg_free zA k3 (by intro k hk q; simp only [List.length_cons, List.length_nil] at hk; omega)
  have zP := gSg_free zP k3 (by intro k hk q; simp only [List.length_cons, List.length_nil] at hk; omega)
  have zG := gRows_free zG k3 (by intro k hk q; omega)
  refine lv_if_ne (tgt := 10) hx hb dX11_wording_5 (by decide) (fun c5 => ?_) (fun c5 => ?_)
  · have c5 : 0 ≤ p ∧ p < π 15 0 := gB_1.mp c5
    obtain ⟨j, hj, ej⟩ := gIx hz (by omega) c5
    subst ej
    refine lv_iload_n hx hb dX11_wording_10 rfl (lv_at hl 2 rfl) ?_
    refine lv_sipush (v := 255) hx hb dX11_wording_11 (by decide) ?_
    refine g_ki (g_runS (rest := []) hx hb hml hown hE hT (c_X11_isUpTo l G fa 255) gM_X11_isUpTo gm_X11_57 gt_X11_isUpTo trivial rfl hl.1 ⟨rfl, rfl⟩ ⟨Nat.le_of_ble_eq_true rfl, Nat.le_of_ble_eq_true rfl⟩ ⟨Nat.zero_le _, Nat.zero_le _⟩ rfl (Nat.le_of_ble_eq_true rfl) dX11_wording_14) hS (fun _ h => h.elim) (fun r9 H6 locs q7 k8 hS => ?_)
    subst q7
    have zO := gSg_free zO k8 (by intro k hk q; simp only [List.length_cons, List.length_nil] at hk; omega)
    have h1 := gSg_free h1 k8 (by intro k hk q; simp only [List.length_cons, List.length_nil] at hk; omega)
    have hk7 := gSg_free hk7 k8 (by intro k hk q; simp only [List.length_cons, List.length_nil] at hk; omega)
    have h2 := gSg_free h2 k8 (by intro k hk q; simp only [List.length_cons, List.length_nil] at hk; omega)
    have zT := gSg_free zT k8 (by intro k hk q; simp only [List.length_cons, List.length_nil] at hk; omega)
    have zKT := gSg_free zKT k8 (by intro k hk q; simp only [List.length_cons, List.length_nil] at hk; omega)
    have zE := gSg_free zE k8 (by intro k hk q; simp only [List.length_cons, List.length_nil] at hk; omega)
    have zB := gSg_free zB k8 (by intro k hk q; simp only [List.length_cons, List.length_nil] at hk; omega)
    have zF := gSg_free zF k8 (by intro k hk q; simp only [List.length_cons, List.length_nil] at hk; omega)
    have zN := gSg_free zN k8 (by intro k hk q; simp only [List.length_cons, List.length_nil] at hk; omega)
    have zA := gSg_free zA k8 (by intro k hk q; simp only [List.length_cons, List.length_nil] at hk; omega)
    have zP := gSg_free zP k8 (by intro k hk q; simp only [List.length_cons, List.length_nil] at hk; omega)
    have zG := gRows_free zG k8 (by intro k hk q; omega)
    refine lv_if_ne (tgt := 23) hx hb dX11_wording_17 (by decide) (fun c10 => ?_) (fun c10 => ?_)
    · have c10 : 0 ≤ fa ∧ fa ≤ 255 := gB_1.mp c10
      refine lv_iconst (v := 0) hx hb dX11_wording_23 (by decide) ?_
      refine lv_istore_n (lv' := [(3, .int 0), (0, .ref B), (1, .int (nI j)), (2, .int fa)]) hx hb dX11_wording_24 rfl hl (by decide) rfl (fun ls hl => ?_)
      obtain ⟨kd, hkd, ek⟩ := hki j (by omega)
      have zN : gSg G (B + 108) (gLN G (B + 108) (gR γ 0 (γ 0))) H6 := zN
      have loop1 : ∀ (d k : Nat), k + d = 13 → ∀ (V : Nat → Int32) (s4 : Nat → Int32), (∀ i, i < k → V i = gGs (gLof acc) (gNu π j (nI i)) 0 acc.length) → ∀ (H : Heap) (locs : List Loc), gSg G B (gLO G B μ) H → gSg G (B + 1) (gLS G (B + 1) π lp ρ) H → gSg G (B + 1 + 28) (gKk G (B + 1 + 28) ) H → gSg G lp (gLL G lp (gR f 4 s4)) H → gSg G (B + 36) (gLS G (B + 36) πt lt ρt) H → gSg G (B + 36 + 28) (gKk G (B + 36 + 28) ) H → gSg G (B + 71) (gLS G (B + 71) πk lk ρk) H → gSg G (B + 106) (gLB2 G (B + 106) μ) H → gSg G (B + 107) (gLF G (B + 107) ) H → gSg G (B + 108) (gLN G (B + 108) (gR γ 0 V)) H → gSg G (B + 109) (gLA G (B + 109) α) H → gSg G (B + 111) (gLT G (B + 111) μ) H → gRows G (B + 114) g H → va_S (fun q => (lp ≤ q ∧ q < lp + 6) ∨ (B ≤ q ∧ q < B + 23) ∨ (B + 36 ≤ q ∧ q < B + 58) ∨ (B + 71 ≤ q ∧ q < B + 93) ∨ (B + 106 ≤ q ∧ q < B + 120)) s.heap H locs → ∀ ls, lv_has ls 7 [(0, .ref B), (1, .int (nI j)), (2, .int fa), (3, .int (nI k))] → W pp_ l ee_ (gRm 3 76) s mm_ aa_ below meth cc_ H locs 0 0 Q (F0 mm_ 25 ls []) := by
        intro d
        induction d with
        | zero =>
          intro k hk V s4 hV H locs zO h1 hk7 h2 zT zKT zE zB zF zN zA zP zG hS ls hl
          have hk : k = 13 := by omega
          refine lv_iload_n hx hb dX11_wording_25 rfl (lv_at hl 3 rfl) ?_
          refine lv_bipush (v := 12) hx hb dX11_wording_26 (by decide) ?_
          refine lv_icmp_gt (tgt := 59) hx hb dX11_wording_28 (by decide) (fun c11 => ?_) (fun c11 => ?_)
          · have c11 : 12 < k := (gLt (a := 12) (b := k) rfl rfl (by omega) (by omega)).mp c11
            rw [hk] at hV
            refine lv_bipush (v := (-5)) hx hb dX11_wording_59 (by decide) ?_
            refine lv_istore_n (lv' := [(3, .int (-5)), (0, .ref B), (1, .int (nI j)), (2, .int fa)]) hx hb dX11_wording_61 rfl hl (by decide) rfl (fun ls hl => ?_)
            refine lv_bipush (v := 13) hx hb dX11_wording_62 (by decide) ?_
            refine lv_istore (lv' := [(4, .int 13), (3, .int (-5)), (0, .ref B), (1, .int (nI j)), (2, .int fa)]) hx hb dX11_wording_64 hl (by decide) rfl (fun ls hl => ?_)
            refine lv_iconst (v := 0) hx hb dX11_wording_66 (by decide) ?_
            refine lv_istore (lv' := [(5, .int 0), (4, .int 13), (3, .int (-5)), (0, .ref B), (1, .int (nI j)), (2, .int fa)]) hx hb dX11_wording_67 hl (by decide) rfl (fun ls hl => ?_)
            have loop2 : ∀ (d2 k : Nat), k + d2 = 4096 → ∀ (s4 : Nat → Int32), ∀ (H : Heap) (locs : List Loc), gSg G B (gLO G B μ) H → gSg G (B + 1) (gLS G (B + 1) π lp ρ) H → gSg G (B + 1 + 28) (gKk G (B + 1 + 28) ) H → gSg G lp (gLL G lp (gR f 4 s4)) H → gSg G (B + 36) (gLS G (B + 36) πt lt ρt) H → gSg G (B + 36 + 28) (gKk G (B + 36 + 28) ) H → gSg G (B + 71) (gLS G (B + 71) πk lk ρk) H → gSg G (B + 106) (gLB2 G (B + 106) μ) H → gSg G (B + 107) (gLF G (B + 107) ) H → gSg G (B + 108) (gLN G (B + 108) (gR γ 0 V)) H → gSg G (B + 109) (gLA G (B + 109) α) H → gSg G (B + 111) (gLT G (B + 111) μ) H → gRows G (B + 114) g H → va_S (fun q => (lp ≤ q ∧ q < lp + 6) ∨ (B ≤ q ∧ q < B + 23) ∨ (B + 36 ≤ q ∧ q < B + 58) ∨ (B + 71 ≤ q ∧ q < B + 93) ∨ (B + 106 ≤ q ∧ q < B + 120)) s.heap H locs → ∀ ls, lv_has ls 7 [(0, .ref B), (1, .int (nI j)), (2, .int fa), (3, .int (gWor π (gLof acc) j fa k)), (4, .int (gFw (nI 13) (gWor π (gLof acc) j fa k))), (5, .int (nI k))] → W pp_ l ee_ (gRm 3 76) s mm_ aa_ below meth cc_ H locs 0 0 Q (F0 mm_ 69 ls []) := by
              intro d2
              induction d2 with
              | zero =>
                intro k hk s4  H locs zO h1 hk7 h2 zT zKT zE zB zF zN zA zP zG hS ls hl
                have hk : k = 4096 := by omega
                refine lv_iload hx hb dX11_wording_69 (lv_at hl 5 rfl) ?_
                refine lv_sipush (v := 4095) hx hb dX11_wording_71 (by decide) ?_
                refine lv_icmp_gt (tgt := 140) hx hb dX11_wording_74 (by decide) (fun c12 => ?_) (fun c12 => ?_)
                · have c12 : 4095 < k := (gLt (a := 4095) (b := k) rfl rfl (by omega) (by omega)).mp c12
                  refine lv_iload_n hx hb dX11_wording_140 rfl (lv_at hl 3 rfl) ?_
                  rw [← hQ]
                  exact g_iret hx hb hr hlk hS dX11_wording_141 ⟨by simp only [if_pos c5, if_pos c10, nI_clamp (show j < 2 ^ 31 by omega), ← hk], _, hrr, zO, h1, hk7, ⟨_, h2⟩, ⟨_, _, _, zT⟩, zKT, ⟨_, hrk, zE⟩, zB, zF, ⟨_, zN⟩, zA, zP, zG⟩
                · have c12 : ¬ 4095 < k := fun z => c12 ((gLt (a := 4095) (b := k) rfl rfl (by omega) (by omega)).mpr z)
                  exact absurd c12 (by omega)
              | succ d2 ih2 =>
                intro k hk s4  H locs zO h1 hk7 h2 zT zKT zE zB zF zN zA zP zG hS ls hl
                refine lv_iload hx hb dX11_wording_69 (lv_at hl 5 rfl) ?_
                refine lv_sipush (v := 4095) hx hb dX11_wording_71 (by decide) ?_
                refine lv_icmp_gt (tgt := 140) hx hb dX11_wording_74 (by decide) (fun c13 => ?_) (fun c13 => ?_)
                · have c13 : 4095 < k := (gLt (a := 4095) (b := k) rfl rfl (by omega) (by omega)).mp c13
                  exact absurd c13 (by omega)
                · have c13 : ¬ 4095 < k := fun z => c13 ((gLt (a := 4095) (b := k) rfl rfl (by omega) (by omega)).mpr z)
                  refine lv_iload hx hb dX11_wording_77 (lv_at hl 5 rfl) ?_
                  refine g_ki (g_runS (rest := []) hx hb hml hown hE hT (c_J6_bitCount_0f7a4 l G (nI k)) gM_J6_bitCount_0f7a4 gm_X11_160 gt_J6_bitCount_0f7a4 trivial rfl hl.1 ⟨rfl, rfl⟩ ⟨Nat.le_of_ble_eq_true rfl, Nat.le_of_ble_eq_true rfl⟩ ⟨Nat.zero_le _, Nat.zero_le _⟩ rfl (Nat.le_of_ble_eq_true rfl) dX11_wording_79) hS (fun _ h => h.elim) (fun r17 H14 locs q15 k16 hS => ?_)
                  subst q15
                  have zO := gSg_free zO k16 (by intro k hk q; simp only [List.length_cons, List.length_nil] at hk; omega)
                  have h1 := gSg_free h1 k16 (by intro k hk q; simp only [List.length_cons, List.length_nil] at hk; omega)
                  have hk7 := gSg_free hk7 k16 (by intro k hk q; simp only [List.length_cons, List.length_nil] at hk; omega)
                  have h2 := gSg_free h2 k16 (by intro k hk q; simp only [List.length_cons, List.length_nil] at hk; omega)
                  have zT := gSg_free zT k16 (by intro k hk q; simp only [List.length_cons, List.length_nil] at hk; omega)
                  have zKT := gSg_free zKT k16 (by intro k hk q; simp only [List.length_cons, List.length_nil] at hk; omega)
                  have zE := gSg_free zE k16 (by intro k hk q; simp only [List.length_cons, List.length_nil] at hk; omega)
                  have zB := gSg_free zB k16 (by intro k hk q; simp only [List.length_cons, List.length_nil] at hk; omega)
                  have zF := gSg_free zF k16 (by intro k hk q; simp only [List.length_cons, List.length_nil] at hk; omega)
                  have zN := gSg_free zN k16 (by intro k hk q; simp only [List.length_cons, List.length_nil] at hk; omega)
                  have zA := gSg_free zA k16 (by intro k hk q; simp only [List.length_cons, List.length_nil] at hk; omega)
                  have zP := gSg_free zP k16 (by intro k hk q; simp only [List.length_cons, List.length_nil] at hk; omega)
                  have zG := gRows_free zG k16 (by intro k hk q; omega)
                  obtain ⟨m, hm, em⟩ := gBc_m (gBc_12 k (by omega))
                  rw [em]
                  refine lv_istore (lv' := [(6, .int (nI m)), (0, .ref B), (1, .int (nI j)), (2, .int fa), (3, .int (gWor π (gLof acc) j fa k)), (4, .int (gFw (nI 13) (gWor π (gLof acc) j fa k))), (5, .int (nI k))]) hx hb dX11_wording_82 hl (by decide) rfl (fun ls hl => ?_)
                  refine lv_iload hx hb dX11_wording_84 (lv_at hl 0 rfl) ?_
                  refine lv_iload hx hb dX11_wording_86 (lv_at hl 5 rfl) ?_
                  refine lv_icmp_ge (tgt := 134) hx hb dX11_wording_88 (by decide) (fun c18 => ?_) (fun c18 => ?_)
                  · refine lv_iinc (v := nI (k + 1)) (lv' := [(5, .int (nI (k + 1))), (6, .int (nI m)), (0, .ref B), (1, .int (nI j)), (2, .int fa), (3, .int (gWor π (gLof acc) j fa k)), (4, .int (gFw (nI 13) (gWor π (gLof acc) j fa k)))]) hx hb dX11_wording_134 hl (k := 6) rfl (gAdd rfl (show Int32.ofInt 1 = nI 1 from rfl)) (by decide) rfl (fun ls hl => ?_)
                    refine lv_goto (tgt := 69) hx hb dX11_wording_137 (by decide) ?_
                    have hskip : ¬ gWor π (gLof acc) j fa k = -5 ∧ gBc (gWor π (gLof acc) j fa k) ≤ gBc (nI k) := by rw [em]; exact Decidable.not_not.mp (fun z => absurd ((gFw_lt (W := gWor π (gLof acc) j fa k) (m := m) (M := 13) (by omega) (by omega)).mpr z) (Int32.not_lt.mpr c18))
                    have hW : gWor π (gLof acc) j fa (k + 1) = gWor π (gLof acc) j fa k := by rw [gWor, if_pos hskip]
                    exact ih2 (k + 1) (by omega) s4  _ _ zO h1 hk7 h2 zT zKT zE zB zF zN zA zP zG hS _ (by have hl := lv_sub hl [2, 3, 4, 5, 6, 0] rfl; rw [show (gFw (nI 13) (gWor π (gLof acc) j fa k) : Int32) = gFw (nI 13) (gWor π (gLof acc) j fa (k + 1)) from by rw [hW]] at hl; rw [show (gWor π (gLof acc) j fa k : Int32) = gWor π (gLof acc) j fa (k + 1) from hW.symm] at hl; exact hl)
                  · refine lv_iload_n hx hb dX11_wording_91 rfl (lv_at hl 3 rfl) ?_
                    refine lv_aload_n hx hb dX11_wording_92 rfl (lv_at hl 1 rfl) ?_
                    refine g_get (v := .ref (B + 1)) (T := TX11) (ci := 11) (N := 13) hx hb hown hK (gY_X11 hT) rfl (zO 0 _ rfl) 0 (by decide) (hT _ gf_X11_12) rfl dX11_wording_93 ?_
                    refine lv_iload hx hb dX11_wording_96 (lv_at hl 6 rfl) ?_
                    refine g_ki (g_runV (T := TX9) (ci := 9) (N := 16) (rest := [.int fa]) hx hb hml hown hE hT (c_X9_meaningOf l G (B + 1) lp π ρ (nI k)) gM_X9_meaningOf gm_X11_165 gi_X9_meaningOf gs_RX9_yX9_meaningOf_yX9_meaningOf rfl (h1 0 _ rfl) h1 rfl hl.1 ⟨rfl, rfl⟩ ⟨Nat.le_of_ble_eq_true rfl, Nat.le_of_ble_eq_true rfl⟩ ⟨Nat.zero_le _, Nat.zero_le _⟩ rfl (Nat.le_of_ble_eq_true rfl) dX11_wording_98) hS (fun _ h => h.elim) (fun r22 H19 locs q20 k21 hS => ?_)
                    subst q20
                    have zO := gSg_free zO k21 (by intro k hk q; simp only [List.length_cons, List.length_nil] at hk; omega)
                    have h1 := gSg_free h1 k21 (by intro k hk q; simp only [List.length_cons, List.length_nil] at hk; omega)
                    have hk7 := gSg_free hk7 k21 (by intro k hk q; simp only [List.length_cons, List.length_nil] at hk; omega)
                    have h2 := gSg_free h2 k21 (by intro k hk q; simp only [List.length_cons, List.length_nil] at hk; omega)
                    have zT := gSg_free zT k21 (by intro k hk q; simp only [List.length_cons, List.length_nil] at hk; omega)
                    have zKT := gSg_free zKT k21 (by intro k hk q; simp only [List.length_cons, List.length_nil] at hk; omega)
                    have zE := gSg_free zE k21 (by intro k hk q; simp only [List.length_cons, List.length_nil] at hk; omega)
                    have zB := gSg_free zB k21 (by intro k hk q; simp only [List.length_cons, List.length_nil] at hk; omega)
                    have zF := gSg_free zF k21 (by intro k hk q; simp only [List.length_cons, List.length_nil] at hk; omega)
                    have zN := gSg_free zN k21 (by intro k hk q; simp only [List.length_cons, List.length_nil] at hk; omega)
                    have zA := gSg_free zA k21 (by intro k hk q; simp only [List.length_cons, List.length_nil] at hk; omega)
                    have zP := gSg_free zP k21 (by intro k hk q; simp only [List.length_cons, List.length_nil] at hk; omega)
                    have zG := gRows_free zG k21 (by intro k hk q; omega)
                    refine lv_iconst (v := (-1)) hx hb dX11_wording_101 (by decide) ?_
                    refine lv_ixor hx hb dX11_wording_102 ?_
                    refine lv_iand hx hb dX11_wording_103 ?_
                    refine lv_if_ne (tgt := 134) hx hb dX11_wording_104 (by decide) (fun c23 => ?_) (fun c23 => ?_)
                    · refine lv_iinc (v := nI (k + 1)) (lv' := [(5, .int (nI (k + 1))), (6, .int (nI m)), (0, .ref B), (1, .int (nI j)), (2, .int fa), (3, .int (gWor π (gLof acc) j fa k)), (4, .int (gFw (nI 13) (gWor π (gLof acc) j fa k)))]) hx hb dX11_wording_134 hl (k := 6) rfl (gAdd rfl (show Int32.ofInt 1 = nI 1 from rfl)) (by decide) rfl (fun ls hl => ?_)
                      refine lv_goto (tgt := 69) hx hb dX11_wording_137 (by decide) ?_
                      have hgo : ¬ (¬ gWor π (gLof acc) j fa k = -5 ∧ gBc (gWor π (gLof acc) j fa k) ≤ gBc (nI k)) := by rw [em]; exact (gFw_lt (W := gWor π (gLof acc) j fa k) (m := m) (M := 13) (by omega) (by omega)).mp (Int32.not_le.mp c18)
                      have hW : gWor π (gLof acc) j fa (k + 1) = gWor π (gLof acc) j fa k := by rw [gWor, if_neg hgo, if_pos c23]
                      exact ih2 (k + 1) (by omega) s4  _ _ zO h1 hk7 h2 zT zKT zE zB zF zN zA zP zG hS _ (by have hl := lv_sub hl [2, 3, 4, 5, 6, 0] rfl; rw [show (gFw (nI 13) (gWor π (gLof acc) j fa k) : Int32) = gFw (nI 13) (gWor π (gLof acc) j fa (k + 1)) from by rw [hW]] at hl; rw [show (gWor π (gLof acc) j fa k : Int32) = gWor π (gLof acc) j fa (k + 1) from hW.symm] at hl; exact hl)
                    · refine lv_aload_n hx hb dX11_wording_107 rfl (lv_at hl 1 rfl) ?_
                      refine g_get (v := .ref (B + 1)) (T := TX11) (ci := 11) (N := 13) hx hb hown hK (gY_X11 hT) rfl (zO 0 _ rfl) 0 (by decide) (hT _ gf_X11_12) rfl dX11_wording_108 ?_
                      refine lv_iload_n hx hb dX11_wording_111 rfl (lv_at hl 2 rfl) ?_
                      refine lv_iload hx hb dX11_wording_112 (lv_at hl 6 rfl) ?_
                      refine lv_aload_n hx hb dX11_wording_114 rfl (lv_at hl 1 rfl) ?_
                      refine g_get (v := .ref (B + 108)) (T := TX11) (ci := 11) (N := 13) hx hb hown hK (gY_X11 hT) rfl (zO 0 _ rfl) 8 (by decide) (hT _ gf_X11_34) rfl dX11_wording_115 ?_
                      refine lv_iload hx hb dX11_wording_118 (lv_at hl 0 rfl) ?_
                      refine g_ia (j := m) (v := V m) hx hb hK (zN 0 _ rfl) rfl (by omega) (Nat.le_of_ble_eq_true rfl) rfl dX11_wording_120 ?_
                      refine g_ki (g_runV (T := TX9) (ci := 9) (N := 16) (rest := []) hx hb hml hown hE hT (c_X9_gladnessBy l G (B + 1) lp π ρ j (by omega) kd hkd ek (nI k) (V m)) gM_X9_gladnessBy gm_X11_168 gi_X9_gladnessBy gs_RX9_yX9_gladnessBy_yX9_gladnessBy rfl (h1 0 _ rfl) ⟨h1, hk7⟩ rfl hl.1 ⟨rfl, rfl⟩ ⟨Nat.le_of_ble_eq_true rfl, Nat.le_of_ble_eq_true rfl⟩ ⟨Nat.zero_le _, Nat.zero_le _⟩ rfl (Nat.le_of_ble_eq_true rfl) dX11_wording_121) hS (fun _ h => h.elim) (fun r27 H24 locs q25 k26 hS => ?_)
                      obtain ⟨e9, h1, hk7⟩ := q25
                      rw [e9]
                      have zO := gSg_free zO k26 (by intro k hk q; simp only [List.length_cons, List.length_nil] at hk; omega)
                      have h2 := gSg_free h2 k26 (by intro k hk q; simp only [List.length_cons, List.length_nil] at hk; omega)
                      have zT := gSg_free zT k26 (by intro k hk q; simp only [List.length_cons, List.length_nil] at hk; omega)
                      have zKT := gSg_free zKT k26 (by intro k hk q; simp only [List.length_cons, List.length_nil] at hk; omega)
                      have zE := gSg_free zE k26 (by intro k hk q; simp only [List.length_cons, List.length_nil] at hk; omega)
                      have zB := gSg_free zB k26 (by intro k hk q; simp only [List.length_cons, List.length_nil] at hk; omega)
                      have zF := gSg_free zF k26 (by intro k hk q; simp only [List.length_cons, List.length_nil] at hk; omega)
                      have zN := gSg_free zN k26 (by intro k hk q; simp only [List.length_cons, List.length_nil] at hk; omega)
                      have zA := gSg_free zA k26 (by intro k hk q; simp only [List.length_cons, List.length_nil] at hk; omega)
                      have zP := gSg_free zP k26 (by intro k hk q; simp only [List.length_cons, List.length_nil] at hk; omega)
                      have zG := gRows_free zG k26 (by intro k hk q; omega)
                      have eJ : gJk π j (nI k) (gSw (π 0) (nI k) (V m - π 5 j) 12) = gJoy π (gLof acc) j (nI k) := by rw [hV m (by omega), ← em]; exact congrArg (gJk π j (nI k)) (gSum_c π (gLof acc) j (nI k))
                      rw [eJ]
                      refine lv_if_le (tgt := 134) hx hb dX11_wording_124 (by decide) (fun c28 => ?_) (fun c28 => ?_)
                      · refine lv_iinc (v := nI (k + 1)) (lv' := [(5, .int (nI (k + 1))), (6, .int (nI m)), (0, .ref B), (1, .int (nI j)), (2, .int fa), (3, .int (gWor π (gLof acc) j fa k)), (4, .int (gFw (nI 13) (gWor π (gLof acc) j fa k)))]) hx hb dX11_wording_134 hl (k := 6) rfl (gAdd rfl (show Int32.ofInt 1 = nI 1 from rfl)) (by decide) rfl (fun ls hl => ?_)
                        refine lv_goto (tgt := 69) hx hb dX11_wording_137 (by decide) ?_
                        have hgo : ¬ (¬ gWor π (gLof acc) j fa k = -5 ∧ gBc (gWor π (gLof acc) j fa k) ≤ gBc (nI k)) := by rw [em]; exact (gFw_lt (W := gWor π (gLof acc) j fa k) (m := m) (M := 13) (by omega) (by omega)).mp (Int32.not_le.mp c18)
                        have hW : gWor π (gLof acc) j fa (k + 1) = gWor π (gLof acc) j fa k := by rw [gWor, if_neg hgo, if_neg (Decidable.not_not.mpr c23), if_neg (Int32.not_lt.mpr c28)]
                        exact ih2 (k + 1) (by omega) s4  _ _ zO h1 hk7 h2 zT zKT zE zB zF zN zA zP zG hS _ (by have hl := lv_sub hl [2, 3, 4, 5, 6, 0] rfl; rw [show (gFw (nI 13) (gWor π (gLof acc) j fa k) : Int32) = gFw (nI 13) (gWor π (gLof acc) j fa (k + 1)) from by rw [hW]] at hl; rw [show (gWor π (gLof acc) j fa k : Int32) = gWor π (gLof acc) j fa (k + 1) from hW.symm] at hl; exact hl)
                      · refine lv_iload hx hb dX11_wording_127 (lv_at hl 6 rfl) ?_
                        refine lv_istore_n (lv' := [(3, .int (nI k)), (6, .int (nI m)), (0, .ref B), (1, .int (nI j)), (2, .int fa), (4, .int (gFw (nI 13) (gWor π (gLof acc) j fa k))), (5, .int (nI k))]) hx hb dX11_wording_129 rfl hl (by decide) rfl (fun ls hl => ?_)
                        refine lv_iload hx hb dX11_wording_130 (lv_at hl 1 rfl) ?_
                        refine lv_istore (lv' := [(4, .int (nI m)), (3, .int (nI k)), (6, .int (nI m)), (0, .ref B), (1, .int (nI j)), (2, .int fa), (5, .int (nI k))]) hx hb dX11_wording_132 hl (by decide) rfl (fun ls hl => ?_)
                        refine lv_iinc (v := nI (k + 1)) (lv' := [(5, .int (nI (k + 1))), (4, .int (nI m)), (3, .int (nI k)), (6, .int (nI m)), (0, .ref B), (1, .int (nI j)), (2, .int fa)]) hx hb dX11_wording_134 hl (k := 6) rfl (gAdd rfl (show Int32.ofInt 1 = nI 1 from rfl)) (by decide) rfl (fun ls hl => ?_)
                        refine lv_goto (tgt := 69) hx hb dX11_wording_137 (by decide) ?_
                        have hgo : ¬ (¬ gWor π (gLof acc) j fa k = -5 ∧ gBc (gWor π (gLof acc) j fa k) ≤ gBc (nI k)) := by rw [em]; exact (gFw_lt (W := gWor π (gLof acc) j fa k) (m := m) (M := 13) (by omega) (by omega)).mp (Int32.not_le.mp c18)
                        have hW : gWor π (gLof acc) j fa (k + 1) = nI k := by rw [gWor, if_neg hgo, if_neg (Decidable.not_not.mpr c23), if_pos (Int32.not_le.mp c28)]
                        exact ih2 (k + 1) (by omega) s4  _ _ zO h1 hk7 h2 zT zKT zE zB zF zN zA zP zG hS _ (by have hl := lv_sub hl [4, 5, 6, 2, 1, 0] rfl; rw [show (nI k : Int32) = gWor π (gLof acc) j fa (k + 1) from hW.symm] at hl; rw [show (nI m : Int32) = gFw (nI 13) (gWor π (gLof acc) j fa (k + 1)) from by rw [hW, gFw_k (by omega), em]] at hl; exact hl)
            exact loop2 (4096 - 0) 0 (by first | omega | simp) s4 _ _ zO h1 hk7 h2 zT zKT zE zB zF zN zA zP zG hS _ (lv_sub hl [3, 4, 5, 2, 1, 0] rfl)
          · have c11 : ¬ 12 < k := fun z => c11 ((gLt (a := 12) (b := k) rfl rfl (by omega) (by omega)).mpr z)
            exact absurd c11 (by omega)
        | succ d ih =>
          intro k hk V s4 hV H locs zO h1 hk7 h2 zT zKT zE zB zF zN zA zP zG hS ls hl
          refine lv_iload_n hx hb dX11_wording_25 rfl (lv_at hl 3 rfl) ?_
          refine lv_bipush (v := 12) hx hb dX11_wording_26 (by decide) ?_
          refine lv_icmp_gt (tgt := 59) hx hb dX11_wording_28 (by decide) (fun c29 => ?_) (fun c29 => ?_)
          · have c29 : 12 < k := (gLt (a := 12) (b := k) rfl rfl (by omega) (by omega)).mp c29
            exact absurd c29 (by omega)
          · have c29 : ¬ 12 < k := fun z => c29 ((gLt (a := 12) (b := k) rfl rfl (by omega) (by omega)).mpr z)
            refine lv_aload_n hx hb dX11_wording_31 rfl (lv_at hl 0 rfl) ?_
            refine g_get (v := .ref (B + 108)) (T := TX11) (ci := 11) (N := 13) hx hb hown hK (gY_X11 hT) rfl (zO 0 _ rfl) 8 (by decide) (hT _ gf_X11_34) rfl dX11_wording_32 ?_
            refine lv_iload_n hx hb dX11_wording_35 rfl (lv_at hl 3 rfl) ?_
            refine lv_aload_n hx hb dX11_wording_36 rfl (lv_at hl 0 rfl) ?_
            refine g_get (v := .ref (B + 1)) (T := TX11) (ci := 11) (N := 13) hx hb hown hK (gY_X11 hT) rfl (zO 0 _ rfl) 0 (by decide) (hT _ gf_X11_12) rfl dX11_wording_37 ?_
            refine g_get (v := .ref lp) (T := TX9) (ci := 9) (N := 16) hx hb hown hK (gY_X9 hT) rfl (h1 0 _ rfl) 15 (by decide) (hT _ gf_X11_120) rfl dX11_wording_40 ?_
            refine lv_aload_n hx hb dX11_wording_43 rfl (lv_at hl 0 rfl) ?_
            refine g_get (v := .ref (B + 1)) (T := TX11) (ci := 11) (N := 13) hx hb hown hK (gY_X11 hT) rfl (zO 0 _ rfl) 0 (by decide) (hT _ gf_X11_12) rfl dX11_wording_44 ?_
            refine lv_iload_n hx hb dX11_wording_47 rfl (lv_at hl 1 rfl) ?_
            refine lv_iload_n hx hb dX11_wording_48 rfl (lv_at hl 3 rfl) ?_
            refine g_ki (g_runV (T := TX5) (ci := 5) (N := 10) (rest := [.int (nI k), .ref (B + 108)]) hx hb hml hown hE hT (c_X5_gainBy l G (B + 1) lp π ρ f hd1 acc hcl j (by omega) (nI k)) gM_X5_gainBy gm_X11_156 gi_X5_gainBy gs_RX5_yX5_gainBy_yX5_gainBy rfl (h2 0 _ rfl) ⟨h1, _, h2⟩ rfl hl.1 ⟨rfl, rfl⟩ ⟨Nat.le_of_ble_eq_true rfl, Nat.le_of_ble_eq_true rfl⟩ ⟨Nat.zero_le _, Nat.zero_le _⟩ rfl (Nat.le_of_ble_eq_true rfl) dX11_wording_49) hS (by intro q hq; omega) (fun r33 H30 locs q31 k32 hS => ?_)
            obtain ⟨e9, h1, s4, h2⟩ := q31
            rw [e9]
            have zO := gSg_free zO k32 (by intro k hk q; simp only [List.length_cons, List.length_nil] at hk; omega)
            have hk7 := gSg_free hk7 k32 (by intro k hk q; simp only [List.length_cons, List.length_nil] at hk; omega)
            have zT := gSg_free zT k32 (by intro k hk q; simp only [List.length_cons, List.length_nil] at hk; omega)
            have zKT := gSg_free zKT k32 (by intro k hk q; simp only [List.length_cons, List.length_nil] at hk; omega)
            have zE := gSg_free zE k32 (by intro k hk q; simp only [List.length_cons, List.length_nil] at hk; omega)
            have zB := gSg_free zB k32 (by intro k hk q; simp only [List.length_cons, List.length_nil] at hk; omega)
            have zF := gSg_free zF k32 (by intro k hk q; simp only [List.length_cons, List.length_nil] at hk; omega)
            have zN := gSg_free zN k32 (by intro k hk q; simp only [List.length_cons, List.length_nil] at hk; omega)
            have zA := gSg_free zA k32 (by intro k hk q; simp only [List.length_cons, List.length_nil] at hk; omega)
            have zP := gSg_free zP k32 (by intro k hk q; simp only [List.length_cons, List.length_nil] at hk; omega)
            have zG := gRows_free zG k32 (by intro k hk q; omega)
            refine g_is (j := k) hx hb hK hS (zN 0 _ rfl) rfl (by omega) (Nat.le_of_ble_eq_true rfl) (by omega) dX11_wording_52 (fun H34 locs c35 oq hS => ?_)
            have zN : gSg G (B + 108) (gLN G (B + 108) (gR γ 0 (upd V k (gGs (gLof acc) (gNu π j (nI k)) 0 acc.length)))) H34 := gSg_set zN 0 c35 oq
            have zO := gSg_off zO oq (by simp only [List.length_cons, List.length_nil]; omega)
            have h1 := gSg_off h1 oq (by simp only [List.length_cons, List.length_nil]; omega)
            have hk7 := gSg_off hk7 oq (by simp only [List.length_cons, List.length_nil]; omega)
            have h2 := gSg_off h2 oq (by simp only [List.length_cons, List.length_nil]; omega)
            have zT := gSg_off zT oq (by simp only [List.length_cons, List.length_nil]; omega)
            have zKT := gSg_off zKT oq (by simp only [List.length_cons, List.length_nil]; omega)
            have zE := gSg_off zE oq (by simp only [List.length_cons, List.length_nil]; omega)
            have zB := gSg_off zB oq (by simp only [List.length_cons, List.length_nil]; omega)
            have zF := gSg_off zF oq (by simp only [List.length_cons, List.length_nil]; omega)
            have zA := gSg_off zA oq (by simp only [List.length_cons, List.length_nil]; omega)
            have zP := gSg_off zP oq (by simp only [List.length_cons, List.length_nil]; omega)
            have zG := gRows_off zG oq (by omega)
            refine lv_iinc (v := nI (k + 1)) (lv' := [(3, .int (nI (k + 1))), (0, .ref B), (1, .int (nI j)), (2, .int fa)]) hx hb dX11_wording_53 hl (k := 3) rfl (gAdd rfl (show Int32.ofInt 1 = nI 1 from rfl)) (by decide) rfl (fun ls hl => ?_)
            refine lv_goto (tgt := 25) hx hb dX11_wording_56 (by decide) ?_
            exact ih (k + 1) (by omega) (upd V k (gGs (gLof acc) (gNu π j (nI k)) 0 acc.length)) s4 (gUpd_w (F := fun i => gGs (gLof acc) (gNu π j (nI i)) 0 acc.length) hV) _ _ zO h1 hk7 h2 zT zKT zE zB zF zN zA zP zG hS _ (by have hl := lv_sub hl [1, 2, 3, 0] rfl; exact hl)
      exact loop1 (13 - 0) 0 (by first | omega | simp) (γ 0) s4 (fun i hi => absurd hi (Nat.not_lt_zero _)) _ _ zO h1 hk7 h2 zT zKT zE zB zF zN zA zP zG hS _ (lv_sub hl [1, 2, 3, 0] rfl)
    · have c10 : ¬ (0 ≤ fa ∧ fa ≤ 255) := gB_0.mp c10
      refine lv_bipush (v := (-2)) hx hb dX11_wording_20 (by decide) ?_
      rw [← hQ]
      exact g_iret hx hb hr hlk hS dX11_wording_22 ⟨by simp only [if_pos c5, if_neg c10, nI_clamp (show j < 2 ^ 31 by omega)], _, hrr, zO, h1, hk7, ⟨_, h2⟩, ⟨_, _, _, zT⟩, zKT, ⟨_, hrk, zE⟩, zB, zF, ⟨_, zN⟩, zA, zP, zG⟩
  · have c5 : ¬ (0 ≤ p ∧ p < π 15 0) := gB_0.mp c5
    refine lv_iconst (v := (-1)) hx hb dX11_wording_8 (by decide) ?_
    rw [← hQ]
    exact g_iret hx hb hr hlk hS dX11_wording_9 ⟨by simp only [if_neg c5], _, hrr, zO, h1, hk7, ⟨_, h2⟩, ⟨_, _, _, zT⟩, zKT, ⟨_, hrk, zE⟩, zB, zF, ⟨_, zN⟩, zA, zP, zG⟩

set_option maxHeartbeats 4000000 in
set_option maxRecDepth 100000 in
theorem c_X11_birds (l : Launch) (G : gW) (B lp : Nat) (π πk f μ α : gPS) (lk : Nat) (g : Nat → Int64) (acc : List (Nat × Nat × List Nat)) (hcl : gClo f acc) (hI : gInv π) (hlp : lp = B + 23 ∨ lp = B + 58 ∨ lp = B + 93 ∨ (B + 120 ≤ lp ∧ lp + 6 ≤ B + 156)) (n9 : Nat) (hz9 : π 15 0 = nI n9) (hn9 : n9 ≤ 6) (fa : Int32) : gCI l yX11_birds cX11_birds 7 .int (gRm 6 141) G [.ref B, .int fa] (fun H => gCW G B lp π lk πk f μ α g H) (fun r H => r = (if 0 ≤ fa ∧ fa ≤ 255 then gBir π (gLof acc) n9 fa (2 ^ n9) else -2) ∧ gCW G B lp π lk πk f μ α g H) (fun q => (lp ≤ q ∧ q < lp + 6) ∨ (B ≤ q ∧ q < B + 23) ∨ (B + 36 ≤ q ∧ q < B + 58) ∨ (B + 71 ≤ q ∧ q < B + 93) ∨ (B + 106 ≤ q ∧ q < B + 120)) := by
  refine g_start (by decide) (Nat.le_of_ble_eq_true rfl) ?_
  intro pp_ ee_ s mm_ aa_ below meth cc_ ls Q hQ hX hE hP hl
  obtain ⟨hx, hb, hr, hml, hown, hT, hlk, hnm⟩ := hX
  have hK := hE.2.1
  obtain ⟨ρ, hrr, zO, h1, hk7, ⟨s4, h2⟩, ⟨πt, lt, ρt, zT⟩, zKT, ⟨ρk, hrk, zE⟩, zB, zF, ⟨γ, zN⟩, zA, zP, zG⟩ := hP
  have hS : va_S (fun q => (lp ≤ q ∧ q < lp + 6) ∨ (B ≤ q ∧ q < B + 23) ∨ (B + 36 ≤ q ∧ q < B + 58) ∨ (B + 71 ≤ q ∧ q < B + 93) ∨ (B + 106 ≤ q ∧ q < B + 120)) s.heap s.heap [] := va_S.rf
  have hl : lv_has ls 7 [(0, .ref B), (1, .int fa)] := hl
  obtain ⟨⟨n, hn, hz, h0z⟩, hki, ⟨sn, hsn, hz3, hsp⟩, ⟨pn, hpn, hz4, hpo⟩, ⟨bn, hbn, hz5, hbo⟩, hfl9⟩ := id hI
  have hd1 : lp + 6 ≤ B + 1 ∨ lp = B + 1 + 22 ∨ B + 1 + 35 ≤ lp := by omega
  have hd36 : lp + 6 ≤ B + 36 ∨ lp = B + 36 + 22 ∨ B + 36 + 35 ≤ lp := by omega
  have en : n9 = n := (nI_eq (a := n9) (b := n) (by omega) (by omega)).mp (hz9.symm.trans hz)
  subst en
  refine lv_iload_n hx hb dX11_birds_0 rfl (lv_at hl 1 rfl) ?_
  refine lv_sipush (v := 255) hx hb dX11_birds_1 (by decide) ?_
  refine g_ki (g_runS (rest := []) hx hb hml hown hE hT (c_X11_isUpTo l G fa 255) gM_X11_isUpTo gm_X11_57 gt_X11_isUpTo trivial rfl hl.1 ⟨rfl, rfl⟩ ⟨Nat.le_of_ble_eq_true rfl, Nat.le_of_ble_eq_true rfl⟩ ⟨Nat.zero_le _, Nat.zero_le _⟩ rfl (Nat.le_of_ble_eq_true rfl) dX11_birds_4) hS (fun _ h => h.elim) (fun r4 H1 locs q2 k3 hS => ?_)
  subst q2
  have zO := gSg_free zO k3 (by intro k hk q; simp only [List.length_cons, List.length_nil] at hk; omega)
  have h1 := gSg_free h1 k3 (by intro k hk q; simp only [List.length_cons, List.length_nil] at hk; omega)
  have hk7 := gSg_free hk7 k3 (by intro k hk q; simp only [List.length_cons, List.length_nil] at hk; omega)
  have h2 := gSg_free h2 k3 (by intro k hk q; simp only [List.length_cons, List.length_nil] at hk; omega)
  have zT := gSg_free zT k3 (by intro k hk q; simp only [List.length_cons, List.length_nil] at hk; omega)
  have zKT := gSg_free zKT k3 (by intro k hk q; simp only [List.length_cons, List.length_nil] at hk; omega)
  have zE := gSg_free zE k3 (by intro k hk q; simp only [List.length_cons, List.length_nil] at hk; omega)
  have zB := gSg_free zB k3 (by intro k hk q; simp only [List.length_cons, List.length_nil] at hk; omega)
  have zF := gSg_free zF k3 (by intro k hk q; simp only [List.length_cons, List.length_nil] at hk; omega)
  have zN := gSg_free zN k3 (by intro k hk q; simp only [List.length_cons, List.length_nil] at hk; omega)
  have zA := gSg_free zA k3 (by intro k hk q; simp only [List.length_cons, List.length_nil] at hk; omega)
  have zP := gSg_free zP k3 (by intro k hk q; simp only [List.length_cons, List.length_nil] at hk; omega)
  have zG := gRows_free zG k3 (by intro k hk q; omega)
  refine lv_if_ne (tgt := 13) hx hb dX11_birds_7 (by decide) (fun c5 => ?_) (fun c5 => ?_)
  · have c5 : 0 ≤ fa ∧ fa ≤ 255 := gB_1.mp c5
    refine lv_aload_n hx hb dX11_birds_13 rfl (lv_at hl 0 rfl) ?_
    refine g_ki (g_runV (T := TX11) (ci := 11) (N := 13) (rest := []) hx hb hml hown hE hT (c_X11_willing l G B lp π ρ f μ acc hcl hlp n9 hz hn hki) gM_X11_willing gm_X11_139 gi_X11_willing gs_RX11_yX11_willing_yX11_willing rfl (zO 0 _ rfl) ⟨zO, h1, hk7, _, h2⟩ rfl hl.1 ⟨rfl, rfl⟩ ⟨Nat.le_of_ble_eq_true rfl, Nat.le_of_ble_eq_true rfl⟩ ⟨Nat.zero_le _, Nat.zero_le _⟩ rfl (Nat.le_of_ble_eq_true rfl) dX11_birds_14) hS (by intro q hq; omega) (fun r9 H6 locs q7 k8 hS => ?_)
    obtain ⟨e9, h1, hk7, s4, h2⟩ := q7
    rw [e9]
    have zO := gSg_free zO k8 (by intro k hk q; simp only [List.length_cons, List.length_nil] at hk; omega)
    have zT := gSg_free zT k8 (by intro k hk q; simp only [List.length_cons, List.length_nil] at hk; omega)
    have zKT := gSg_free zKT k8 (by intro k hk q; simp only [List.length_cons, List.length_nil] at hk; omega)
    have zE := gSg_free zE k8 (by intro k hk q; simp only [List.length_cons, List.length_nil] at hk; omega)
    have zB := gSg_free zB k8 (by intro k hk q; simp only [List.length_cons, List.length_nil] at hk; omega)
    have zF := gSg_free zF k8 (by intro k hk q; simp only [List.length_cons, List.length_nil] at hk; omega)
    have zN := gSg_free zN k8 (by intro k hk q; simp only [List.length_cons, List.length_nil] at hk; omega)
    have zA := gSg_free zA k8 (by intro k hk q; simp only [List.length_cons, List.length_nil] at hk; omega)
    have zP := gSg_free zP k8 (by intro k hk q; simp only [List.length_cons, List.length_nil] at hk; omega)
    have zG := gRows_free zG k8 (by intro k hk q; omega)
    refine lv_istore_n (lv' := [(2, .int (gRdy π (gLof acc) n9)), (0, .ref B), (1, .int fa)]) hx hb dX11_birds_17 rfl hl (by decide) rfl (fun ls hl => ?_)
    refine lv_bipush (v := (-5)) hx hb dX11_birds_18 (by decide) ?_
    refine lv_istore_n (lv' := [(3, .int (-5)), (2, .int (gRdy π (gLof acc) n9)), (0, .ref B), (1, .int fa)]) hx hb dX11_birds_20 rfl hl (by decide) rfl (fun ls hl => ?_)
    refine lv_bipush (v := 7) hx hb dX11_birds_21 (by decide) ?_
    refine lv_istore (lv' := [(4, .int 7), (3, .int (-5)), (2, .int (gRdy π (gLof acc) n9)), (0, .ref B), (1, .int fa)]) hx hb dX11_birds_23 hl (by decide) rfl (fun ls hl => ?_)
    refine lv_iconst (v := 0) hx hb dX11_birds_25 (by decide) ?_
    refine lv_istore (lv' := [(5, .int 0), (4, .int 7), (3, .int (-5)), (2, .int (gRdy π (gLof acc) n9)), (0, .ref B), (1, .int fa)]) hx hb dX11_birds_26 hl (by decide) rfl (fun ls hl => ?_)
    have loop : ∀ (d k : Nat), k + d = 64 → ∀ (s4 : Nat → Int32), ∀ (H : Heap) (locs : List Loc), gSg G B (gLO G B μ) H → gSg G (B + 1) (gLS G (B + 1) π lp ρ) H → gSg G (B + 1 + 28) (gKk G (B + 1 + 28) ) H → gSg G lp (gLL G lp (gR f 4 s4)) H → gSg G (B + 36) (gLS G (B + 36) πt lt ρt) H → gSg G (B + 36 + 28) (gKk G (B + 36 + 28) ) H → gSg G (B + 71) (gLS G (B + 71) πk lk ρk) H → gSg G (B + 106) (gLB2 G (B + 106) μ) H → gSg G (B + 107) (gLF G (B + 107) ) H → gSg G (B + 108) (gLN G (B + 108) γ) H → gSg G (B + 109) (gLA G (B + 109) α) H → gSg G (B + 111) (gLT G (B + 111) μ) H → gRows G (B + 114) g H → va_S (fun q => (lp ≤ q ∧ q < lp + 6) ∨ (B ≤ q ∧ q < B + 23) ∨ (B + 36 ≤ q ∧ q < B + 58) ∨ (B + 71 ≤ q ∧ q < B + 93) ∨ (B + 106 ≤ q ∧ q < B + 120)) s.heap H locs → ∀ ls, lv_has ls 7 [(0, .ref B), (1, .int fa), (2, .int (gRdy π (gLof acc) n9)), (3, .int (gBir π (gLof acc) n9 fa k)), (4, .int (gFw (nI 7) (gBir π (gLof acc) n9 fa k))), (5, .int (nI k))] → W pp_ l ee_ (gRm 6 141) s mm_ aa_ below meth cc_ H locs 0 0 Q (F0 mm_ 28 ls []) := by
      intro d
      induction d with
      | zero =>
        intro k hk s4  H locs zO h1 hk7 h2 zT zKT zE zB zF zN zA zP zG hS ls hl
        have hk : k = 64 := by omega
        refine lv_iload hx hb dX11_birds_28 (lv_at hl 5 rfl) ?_
        refine lv_bipush (v := 64) hx hb dX11_birds_30 (by decide) ?_
        refine lv_icmp_ge (tgt := 84) hx hb dX11_birds_32 (by decide) (fun c10 => ?_) (fun c10 => ?_)
        · have c10 : 64 ≤ k := (gLe (a := 64) (b := k) rfl rfl (by omega) (by omega)).mp c10
          refine lv_iload_n hx hb dX11_birds_84 rfl (lv_at hl 3 rfl) ?_
          rw [← hQ]
          exact g_iret hx hb hr hlk hS dX11_birds_85 ⟨by simp only [if_pos c5, ← gBir_64 hn, ← hk], _, hrr, zO, h1, hk7, ⟨_, h2⟩, ⟨_, _, _, zT⟩, zKT, ⟨_, hrk, zE⟩, zB, zF, ⟨_, zN⟩, zA, zP, zG⟩
        · have c10 : ¬ 64 ≤ k := fun z => c10 ((gLe (a := 64) (b := k) rfl rfl (by omega) (by omega)).mpr z)
          exact absurd c10 (by omega)
      | succ d ih =>
        intro k hk s4  H locs zO h1 hk7 h2 zT zKT zE zB zF zN zA zP zG hS ls hl
        refine lv_iload hx hb dX11_birds_28 (lv_at hl 5 rfl) ?_
        refine lv_bipush (v := 64) hx hb dX11_birds_30 (by decide) ?_
        refine lv_icmp_ge (tgt := 84) hx hb dX11_birds_32 (by decide) (fun c11 => ?_) (fun c11 => ?_)
        · have c11 : 64 ≤ k := (gLe (a := 64) (b := k) rfl rfl (by omega) (by omega)).mp c11
          exact absurd c11 (by omega)
        · have c11 : ¬ 64 ≤ k := fun z => c11 ((gLe (a := 64) (b := k) rfl rfl (by omega) (by omega)).mpr z)
          refine lv_iload hx hb dX11_birds_35 (lv_at hl 5 rfl) ?_
          refine g_ki (g_runS (rest := []) hx hb hml hown hE hT (c_J6_bitCount_0f7a4 l G (nI k)) gM_J6_bitCount_0f7a4 gm_X11_160 gt_J6_bitCount_0f7a4 trivial rfl hl.1 ⟨rfl, rfl⟩ ⟨Nat.le_of_ble_eq_true rfl, Nat.le_of_ble_eq_true rfl⟩ ⟨Nat.zero_le _, Nat.zero_le _⟩ rfl (Nat.le_of_ble_eq_true rfl) dX11_birds_37) hS (fun _ h => h.elim) (fun r15 H12 locs q13 k14 hS => ?_)
          subst q13
          have zO := gSg_free zO k14 (by intro k hk q; simp only [List.length_cons, List.length_nil] at hk; omega)
          have h1 := gSg_free h1 k14 (by intro k hk q; simp only [List.length_cons, List.length_nil] at hk; omega)
          have hk7 := gSg_free hk7 k14 (by intro k hk q; simp only [List.length_cons, List.length_nil] at hk; omega)
          have h2 := gSg_free h2 k14 (by intro k hk q; simp only [List.length_cons, List.length_nil] at hk; omega)
          have zT := gSg_free zT k14 (by intro k hk q; simp only [List.length_cons, List.length_nil] at hk; omega)
          have zKT := gSg_free zKT k14 (by intro k hk q; simp only [List.length_cons, List.length_nil] at hk; omega)
          have zE := gSg_free zE k14 (by intro k hk q; simp only [List.length_cons, List.length_nil] at hk; omega)
          have zB := gSg_free zB k14 (by intro k hk q; simp only [List.length_cons, List.length_nil] at hk; omega)
          have zF := gSg_free zF k14 (by intro k hk q; simp only [List.length_cons, List.length_nil] at hk; omega)
          have zN := gSg_free zN k14 (by intro k hk q; simp only [List.length_cons, List.length_nil] at hk; omega)
          have zA := gSg_free zA k14 (by intro k hk q; simp only [List.length_cons, List.length_nil] at hk; omega)
          have zP := gSg_free zP k14 (by intro k hk q; simp only [List.length_cons, List.length_nil] at hk; omega)
          have zG := gRows_free zG k14 (by intro k hk q; omega)
          obtain ⟨m, hm, em⟩ := gBc_m (gBc_6 k (by omega))
          rw [em]
          refine lv_istore (lv' := [(6, .int (nI m)), (0, .ref B), (1, .int fa), (2, .int (gRdy π (gLof acc) n9)), (3, .int (gBir π (gLof acc) n9 fa k)), (4, .int (gFw (nI 7) (gBir π (gLof acc) n9 fa k))), (5, .int (nI k))]) hx hb dX11_birds_40 hl (by decide) rfl (fun ls hl => ?_)
          refine lv_iload hx hb dX11_birds_42 (lv_at hl 0 rfl) ?_
          refine lv_iload hx hb dX11_birds_44 (lv_at hl 5 rfl) ?_
          refine lv_icmp_ge (tgt := 78) hx hb dX11_birds_46 (by decide) (fun c16 => ?_) (fun c16 => ?_)
          · refine lv_iinc (v := nI (k + 1)) (lv' := [(5, .int (nI (k + 1))), (6, .int (nI m)), (0, .ref B), (1, .int fa), (2, .int (gRdy π (gLof acc) n9)), (3, .int (gBir π (gLof acc) n9 fa k)), (4, .int (gFw (nI 7) (gBir π (gLof acc) n9 fa k)))]) hx hb dX11_birds_78 hl (k := 6) rfl (gAdd rfl (show Int32.ofInt 1 = nI 1 from rfl)) (by decide) rfl (fun ls hl => ?_)
            refine lv_goto (tgt := 28) hx hb dX11_birds_81 (by decide) ?_
            have hskip : ¬ gBir π (gLof acc) n9 fa k = -5 ∧ gBc (gBir π (gLof acc) n9 fa k) ≤ gBc (nI k) := by rw [em]; exact Decidable.not_not.mp (fun z => absurd ((gFw_lt (W := gBir π (gLof acc) n9 fa k) (m := m) (M := 7) (by omega) (by omega)).mpr z) (Int32.not_lt.mpr c16))
            have hW : gBir π (gLof acc) n9 fa (k + 1) = gBir π (gLof acc) n9 fa k := gBir_sk hskip
            exact ih (k + 1) (by omega) s4  _ _ zO h1 hk7 h2 zT zKT zE zB zF zN zA zP zG hS _ (by have hl := lv_sub hl [2, 3, 4, 5, 6, 0] rfl; rw [show (gFw (nI 7) (gBir π (gLof acc) n9 fa k) : Int32) = gFw (nI 7) (gBir π (gLof acc) n9 fa (k + 1)) from by rw [hW]] at hl; rw [show (gBir π (gLof acc) n9 fa k : Int32) = gBir π (gLof acc) n9 fa (k + 1) from hW.symm] at hl; exact hl)
          · refine lv_iload hx hb dX11_birds_49 (lv_at hl 6 rfl) ?_
            refine lv_iload_n hx hb dX11_birds_51 rfl (lv_at hl 3 rfl) ?_
            refine lv_iconst (v := (-1)) hx hb dX11_birds_52 (by decide) ?_
            refine lv_ixor hx hb dX11_birds_53 ?_
            refine lv_iand hx hb dX11_birds_54 ?_
            refine lv_if_ne (tgt := 78) hx hb dX11_birds_55 (by decide) (fun c17 => ?_) (fun c17 => ?_)
            · refine lv_iinc (v := nI (k + 1)) (lv' := [(5, .int (nI (k + 1))), (6, .int (nI m)), (0, .ref B), (1, .int fa), (2, .int (gRdy π (gLof acc) n9)), (3, .int (gBir π (gLof acc) n9 fa k)), (4, .int (gFw (nI 7) (gBir π (gLof acc) n9 fa k)))]) hx hb dX11_birds_78 hl (k := 6) rfl (gAdd rfl (show Int32.ofInt 1 = nI 1 from rfl)) (by decide) rfl (fun ls hl => ?_)
              refine lv_goto (tgt := 28) hx hb dX11_birds_81 (by decide) ?_
              have hgo : ¬ (¬ gBir π (gLof acc) n9 fa k = -5 ∧ gBc (gBir π (gLof acc) n9 fa k) ≤ gBc (nI k)) := by rw [em]; exact (gFw_lt (W := gBir π (gLof acc) n9 fa k) (m := m) (M := 7) (by omega) (by omega)).mp (Int32.not_le.mp c16)
              have hW : gBir π (gLof acc) n9 fa (k + 1) = gBir π (gLof acc) n9 fa k := by rw [gBir, if_pos c17]
              exact ih (k + 1) (by omega) s4  _ _ zO h1 hk7 h2 zT zKT zE zB zF zN zA zP zG hS _ (by have hl := lv_sub hl [2, 3, 4, 5, 6, 0] rfl; rw [show (gFw (nI 7) (gBir π (gLof acc) n9 fa k) : Int32) = gFw (nI 7) (gBir π (gLof acc) n9 fa (k + 1)) from by rw [hW]] at hl; rw [show (gBir π (gLof acc) n9 fa k : Int32) = gBir π (gLof acc) n9 fa (k + 1) from hW.symm] at hl; exact hl)
            · refine lv_iload_n hx hb dX11_birds_58 rfl (lv_at hl 2 rfl) ?_
              refine lv_aload_n hx hb dX11_birds_59 rfl (lv_at hl 1 rfl) ?_
              refine lv_iload hx hb dX11_birds_60 (lv_at hl 6 rfl) ?_
              refine g_ki (g_runV (T := TX11) (ci := 11) (N := 13) (rest := [.int fa]) hx hb hml hown hE hT (c_X11_broughtBy l G B lp π ρ μ n9 hz hn (nI k)) gM_X11_broughtBy gm_X11_172 gi_X11_broughtBy gs_RX11_yX11_broughtBy_yX11_broughtBy rfl (zO 0 _ rfl) ⟨zO, h1⟩ rfl hl.1 ⟨rfl, rfl⟩ ⟨Nat.le_of_ble_eq_true rfl, Nat.le_of_ble_eq_true rfl⟩ ⟨Nat.zero_le _, Nat.zero_le _⟩ rfl (Nat.le_of_ble_eq_true rfl) dX11_birds_62) hS (fun _ h => h.elim) (fun r21 H18 locs q19 k20 hS => ?_)
              subst q19
              have zO := gSg_free zO k20 (by intro k hk q; simp only [List.length_cons, List.length_nil] at hk; omega)
              have h1 := gSg_free h1 k20 (by intro k hk q; simp only [List.length_cons, List.length_nil] at hk; omega)
              have hk7 := gSg_free hk7 k20 (by intro k hk q; simp only [List.length_cons, List.length_nil] at hk; omega)
              have h2 := gSg_free h2 k20 (by intro k hk q; simp only [List.length_cons, List.length_nil] at hk; omega)
              have zT := gSg_free zT k20 (by intro k hk q; simp only [List.length_cons, List.length_nil] at hk; omega)
              have zKT := gSg_free zKT k20 (by intro k hk q; simp only [List.length_cons, List.length_nil] at hk; omega)
              have zE := gSg_free zE k20 (by intro k hk q; simp only [List.length_cons, List.length_nil] at hk; omega)
              have zB := gSg_free zB k20 (by intro k hk q; simp only [List.length_cons, List.length_nil] at hk; omega)
              have zF := gSg_free zF k20 (by intro k hk q; simp only [List.length_cons, List.length_nil] at hk; omega)
              have zN := gSg_free zN k20 (by intro k hk q; simp only [List.length_cons, List.length_nil] at hk; omega)
              have zA := gSg_free zA k20 (by intro k hk q; simp only [List.length_cons, List.length_nil] at hk; omega)
              have zP := gSg_free zP k20 (by intro k hk q; simp only [List.length_cons, List.length_nil] at hk; omega)
              have zG := gRows_free zG k20 (by intro k hk q; omega)
              refine lv_iconst (v := (-1)) hx hb dX11_birds_65 (by decide) ?_
              refine lv_ixor hx hb dX11_birds_66 ?_
              refine lv_iand hx hb dX11_birds_67 ?_
              refine lv_if_ne (tgt := 78) hx hb dX11_birds_68 (by decide) (fun c22 => ?_) (fun c22 => ?_)
              · refine lv_iinc (v := nI (k + 1)) (lv' := [(5, .int (nI (k + 1))), (6, .int (nI m)), (0, .ref B), (1, .int fa), (2, .int (gRdy π (gLof acc) n9)), (3, .int (gBir π (gLof acc) n9 fa k)), (4, .int (gFw (nI 7) (gBir π (gLof acc) n9 fa k)))]) hx hb dX11_birds_78 hl (k := 6) rfl (gAdd rfl (show Int32.ofInt 1 = nI 1 from rfl)) (by decide) rfl (fun ls hl => ?_)
                refine lv_goto (tgt := 28) hx hb dX11_birds_81 (by decide) ?_
                have hgo : ¬ (¬ gBir π (gLof acc) n9 fa k = -5 ∧ gBc (gBir π (gLof acc) n9 fa k) ≤ gBc (nI k)) := by rw [em]; exact (gFw_lt (W := gBir π (gLof acc) n9 fa k) (m := m) (M := 7) (by omega) (by omega)).mp (Int32.not_le.mp c16)
                have hW : gBir π (gLof acc) n9 fa (k + 1) = gBir π (gLof acc) n9 fa k := by rw [gBir, if_neg (Decidable.not_not.mpr c17), if_neg hgo, if_neg c22]
                exact ih (k + 1) (by omega) s4  _ _ zO h1 hk7 h2 zT zKT zE zB zF zN zA zP zG hS _ (by have hl := lv_sub hl [2, 3, 4, 5, 6, 0] rfl; rw [show (gFw (nI 7) (gBir π (gLof acc) n9 fa k) : Int32) = gFw (nI 7) (gBir π (gLof acc) n9 fa (k + 1)) from by rw [hW]] at hl; rw [show (gBir π (gLof acc) n9 fa k : Int32) = gBir π (gLof acc) n9 fa (k + 1) from hW.symm] at hl; exact hl)
              · refine lv_iload hx hb dX11_birds_71 (lv_at hl 6 rfl) ?_
                refine lv_istore_n (lv' := [(3, .int (nI k)), (6, .int (nI m)), (0, .ref B), (1, .int fa), (2, .int (gRdy π (gLof acc) n9)), (4, .int (gFw (nI 7) (gBir π (gLof acc) n9 fa k))), (5, .int (nI k))]) hx hb dX11_birds_73 rfl hl (by decide) rfl (fun ls hl => ?_)
                refine lv_iload hx hb dX11_birds_74 (lv_at hl 1 rfl) ?_
                refine lv_istore (lv' := [(4, .int (nI m)), (3, .int (nI k)), (6, .int (nI m)), (0, .ref B), (1, .int fa), (2, .int (gRdy π (gLof acc) n9)), (5, .int (nI k))]) hx hb dX11_birds_76 hl (by decide) rfl (fun ls hl => ?_)
                refine lv_iinc (v := nI (k + 1)) (lv' := [(5, .int (nI (k + 1))), (4, .int (nI m)), (3, .int (nI k)), (6, .int (nI m)), (0, .ref B), (1, .int fa), (2, .int (gRdy π (gLof acc) n9))]) hx hb dX11_birds_78 hl (k := 6) rfl (gAdd rfl (show Int32.ofInt 1 = nI 1 from rfl)) (by decide) rfl (fun ls hl => ?_)
                refine lv_goto (tgt := 28) hx hb dX11_birds_81 (by decide) ?_
                have hgo : ¬ (¬ gBir π (gLof acc) n9 fa k = -5 ∧ gBc (gBir π (gLof acc) n9 fa k) ≤ gBc (nI k)) := by rw [em]; exact (gFw_lt (W := gBir π (gLof acc) n9 fa k) (m := m) (M := 7) (by omega) (by omega)).mp (Int32.not_le.mp c16)
                have hW : gBir π (gLof acc) n9 fa (k + 1) = nI k := by rw [gBir, if_neg (Decidable.not_not.mpr c17), if_neg hgo, if_pos c22]
                exact ih (k + 1) (by omega) s4  _ _ zO h1 hk7 h2 zT zKT zE zB zF zN zA zP zG hS _ (by have hl := lv_sub hl [4, 5, 6, 2, 1, 0] rfl; rw [show (nI k : Int32) = gBir π (gLof acc) n9 fa (k + 1) from hW.symm] at hl; rw [show (nI m : Int32) = gFw (nI 7) (gBir π (gLof acc) n9 fa (k + 1)) from by rw [hW, gFw_k (by omega), em]] at hl; exact hl)
    exact loop (64 - 0) 0 (by first | omega | simp) s4 _ _ zO h1 hk7 h2 zT zKT zE zB zF zN zA zP zG hS _ (lv_sub hl [4, 5, 3, 2, 1, 0] rfl)
  · have c5 : ¬ (0 ≤ fa ∧ fa ≤ 255) := gB_0.mp c5
    refine lv_bipush (v := (-2)) hx hb dX11_birds_10 (by decide) ?_
    rw [← hQ]
    exact g_iret hx hb hr hlk hS dX11_birds_12 ⟨by simp only [if_neg c5], _, hrr, zO, h1, hk7, ⟨_, h2⟩, ⟨_, _, _, zT⟩, zKT, ⟨_, hrk, zE⟩, zB, zF, ⟨_, zN⟩, zA, zP, zG⟩
