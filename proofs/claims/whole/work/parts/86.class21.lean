set_option maxHeartbeats 4000000 in
set_option maxRecDepth 100000 in
theorem c_X11_shift (l : Launch) (G : gW) (B lp : Nat) (π πk f μ α : gPS) (lk : Nat) (g : Nat → Int64) (acc : List (Nat × Nat × List Nat)) (hcl : gClo f acc) (hI : gInv π) (hlp : lp = B + 23 ∨ lp = B + 58 ∨ lp = B + 93 ∨ (B + 120 ≤ lp ∧ lp + 6 ≤ B + 156)) (hTs : gTpe μ) (t i o j x : Int32) : gCI l yX11_shift cX11_shift 6 .int (gRm 1 40) G [.ref B, .int t, .int i, .int o, .int j, .int x] (fun H => gCW G B lp π lk πk f μ α g H) (fun r H => r = (gqShift μ g t i o j x).1 ∧ gCW G B lp π lk πk f μ α ((gqShift μ g t i o j x).2) H) (fun q => (lp ≤ q ∧ q < lp + 6) ∨ (B ≤ q ∧ q < B + 23) ∨ (B + 36 ≤ q ∧ q < B + 58) ∨ (B + 71 ≤ q ∧ q < B + 93) ∨ (B + 106 ≤ q ∧ q < B + 120)) := by
  refine g_start (by decide) (Nat.le_of_ble_eq_true rfl) ?_
  intro pp_ ee_ s mm_ aa_ below meth cc_ ls Q hQ hX hE hP hl
  obtain ⟨hx, hb, hr, hml, hown, hT, hlk, hnm⟩ := hX
  have hK := hE.2.1
  obtain ⟨ρ, hrr, zO, h1, hk7, ⟨s4, h2⟩, ⟨πt, lt, ρt, zT⟩, zKT, ⟨ρk, hrk, zE⟩, zB, zF, ⟨γ, zN⟩, zA, zP, zG⟩ := hP
  have hS : va_S (fun q => (lp ≤ q ∧ q < lp + 6) ∨ (B ≤ q ∧ q < B + 23) ∨ (B + 36 ≤ q ∧ q < B + 58) ∨ (B + 71 ≤ q ∧ q < B + 93) ∨ (B + 106 ≤ q ∧ q < B + 120)) s.heap s.heap [] := va_S.rf
  have hl : lv_has ls 6 [(0, .ref B), (1, .int t), (2, .int i), (3, .int o), (4, .int j), (5, .int x)] := hl
  obtain ⟨⟨n, hn, hz, h0z⟩, hki, ⟨sn, hsn, hz3, hsp⟩, ⟨pn, hpn, hz4, hpo⟩, ⟨bn, hbn, hz5, hbo⟩, hfl9⟩ := id hI
  have hd1 : lp + 6 ≤ B + 1 ∨ lp = B + 1 + 22 ∨ B + 1 + 35 ≤ lp := by omega
  have hd36 : lp + 6 ≤ B + 36 ∨ lp = B + 36 + 22 ∨ B + 36 + 35 ≤ lp := by omega
  refine lv_iload_n hx hb dX11_shift_0 rfl (lv_at hl 1 rfl) ?_
  refine g_ki (g_runS (rest := []) hx hb hml hown hE hT (c_X11_isTape l G t) gM_X11_isTape gm_X11_217 gt_X11_isTape trivial rfl hl.1 ⟨rfl, rfl⟩ ⟨Nat.le_of_ble_eq_true rfl, Nat.le_of_ble_eq_true rfl⟩ ⟨Nat.zero_le _, Nat.zero_le _⟩ rfl (Nat.le_of_ble_eq_true rfl) dX11_shift_1) hS (fun _ h => h.elim) (fun r4 H1 locs q2 k3 hS => ?_)
  subst q2
  have zO := gSg_free zO k3 (by intro k hk q; simp only [List.length_cons, List.length_nil] at hk; omega)
  have h1 := gSg_free h1 k3 (by intro k hk q; simp only [List.length_cons, List.length_nil] at hk; omega)
  have hk7 := gSg_free hk7 k3 (by intro k hk q; simp only [List.length_cons, List.length_nil] at hk; omega)
  have h2 := gSg_free h2 k3 (by intro k hk q; simp only [List.length_cons, List.length_nil] at hk; omega)
  have zT := gSg_free zT k3 (by intro k hk q; simp only [List.length_cons, List.length_nil] at hk; omega)
  have zKT := gSg_free zKT k3 (by intro k hk q; simp only [List.length_cons, List.length_nil] at hk; omega)
  have zE := gSg_free zE k3 (by intro k hk q; simp only [List.length_cons, List.length_nil] at hk; omega)
  have zB := gSg_free zB k3 (by intro k hk q; simp only [List.length_cons, List.length_nil] at hk; omega)
  have zF := gSg_free zF k3 (by intro k hk q; simp only [List.length_cons, List.length_nil] at hk; omega)
  have zN := gSg_free zN k3 (by intro k hk q; simp only [List.length_cons, List.length_nil] at hk; omega)
  have zA := gSg_free zA k3 (by intro k hk q; simp only [List.length_cons, List.length_nil] at hk; omega)
  have zP := gSg_free zP k3 (by intro k hk q; simp only [List.length_cons, List.length_nil] at hk; omega)
  have zG := gRows_free zG k3 (by intro k hk q; omega)
  refine lv_if_eq (tgt := 14) hx hb dX11_shift_4 (by decide) (fun c5 => ?_) (fun c5 => ?_)
  · have c5 : ¬ (0 ≤ t ∧ t ≤ 5) := gB_0.mp c5
    refine lv_iconst (v := (-1)) hx hb dX11_shift_14 (by decide) ?_
    rw [← hQ]
    exact g_iret hx hb hr hlk hS dX11_shift_15 (by rw [show gqShift μ g t i o j x = ((-1), g) from by rw [gqShift, if_neg c5]]; exact ⟨rfl, _, hrr, zO, h1, hk7, ⟨_, h2⟩, ⟨_, _, _, zT⟩, zKT, ⟨_, hrk, zE⟩, zB, zF, ⟨_, zN⟩, zA, zP, zG⟩)
  · have c5 : 0 ≤ t ∧ t ≤ 5 := gB_1.mp c5
    obtain ⟨k, hk, ek⟩ := gIw (M := 5) (n := 5) rfl (by decide) c5
    subst ek
    refine lv_iload_n hx hb dX11_shift_7 rfl (lv_at hl 3 rfl) ?_
    refine g_ki (g_runS (rest := []) hx hb hml hown hE hT (c_X11_isTape l G o) gM_X11_isTape gm_X11_217 gt_X11_isTape trivial rfl hl.1 ⟨rfl, rfl⟩ ⟨Nat.le_of_ble_eq_true rfl, Nat.le_of_ble_eq_true rfl⟩ ⟨Nat.zero_le _, Nat.zero_le _⟩ rfl (Nat.le_of_ble_eq_true rfl) dX11_shift_8) hS (fun _ h => h.elim) (fun r9 H6 locs q7 k8 hS => ?_)
    subst q7
    have zO := gSg_free zO k8 (by intro k hk q; simp only [List.length_cons, List.length_nil] at hk; omega)
    have h1 := gSg_free h1 k8 (by intro k hk q; simp only [List.length_cons, List.length_nil] at hk; omega)
    have hk7 := gSg_free hk7 k8 (by intro k hk q; simp only [List.length_cons, List.length_nil] at hk; omega)
    have h2 := gSg_free h2 k8 (by intro k hk q; simp only [List.length_cons, List.length_nil] at hk; omega)
    have zT := gSg_free zT k8 (by intro k hk q; simp only [List.length_cons, List.length_nil] at hk; omega)
    have zKT := gSg_free zKT k8 (by intro k hk q; simp only [List.length_cons, List.length_nil] at hk; omega)
    have zE := gSg_free zE k8 (by intro k hk q; simp only [List.length_cons, List.length_nil] at hk; omega)
    have zB := gSg_free zB k8 (by intro k hk q; simp only [List.length_cons, List.length_nil] at hk; omega)
    have zF := gSg_free zF k8 (by intro k hk q; simp only [List.length_cons, List.length_nil] at hk; omega)
    have zN := gSg_free zN k8 (by intro k hk q; simp only [List.length_cons, List.length_nil] at hk; omega)
    have zA := gSg_free zA k8 (by intro k hk q; simp only [List.length_cons, List.length_nil] at hk; omega)
    have zP := gSg_free zP k8 (by intro k hk q; simp only [List.length_cons, List.length_nil] at hk; omega)
    have zG := gRows_free zG k8 (by intro k hk q; omega)
    refine lv_if_ne (tgt := 16) hx hb dX11_shift_11 (by decide) (fun c10 => ?_) (fun c10 => ?_)
    · have c10 : 0 ≤ o ∧ o ≤ 5 := gB_1.mp c10
      obtain ⟨m, hm, em⟩ := gIw (M := 5) (n := 5) rfl (by decide) c10
      subst em
      refine lv_aload_n hx hb dX11_shift_16 rfl (lv_at hl 0 rfl) ?_
      refine g_get (v := .ref (B + 111)) (T := TX11) (ci := 11) (N := 13) hx hb hown hK (gY_X11 hT) rfl (zO 0 _ rfl) 10 (by decide) (hT _ gf_X11_45) rfl dX11_shift_17 ?_
      refine lv_iload_n hx hb dX11_shift_20 rfl (lv_at hl 1 rfl) ?_
      refine g_ia (j := k) (v := μ 2 k) hx hb hK (zP 0 _ rfl) rfl (by omega) (Nat.le_of_ble_eq_true rfl) rfl dX11_shift_21 ?_
      refine lv_if_lt (tgt := 34) hx hb dX11_shift_22 (by decide) (fun c11 => ?_) (fun c11 => ?_)
      · refine lv_bipush (v := (-11)) hx hb dX11_shift_34 (by decide) ?_
        rw [← hQ]
        exact g_iret hx hb hr hlk hS dX11_shift_36 (by rw [show gqShift μ g (nI k) i (nI m) j x = ((-11), g) from by rw [gqShift, if_pos c5, if_pos c10, nI_clamp (show k < 2 ^ 31 by omega), nI_clamp (show m < 2 ^ 31 by omega), if_pos c11]]; exact ⟨rfl, _, hrr, zO, h1, hk7, ⟨_, h2⟩, ⟨_, _, _, zT⟩, zKT, ⟨_, hrk, zE⟩, zB, zF, ⟨_, zN⟩, zA, zP, zG⟩)
      · refine lv_aload_n hx hb dX11_shift_25 rfl (lv_at hl 0 rfl) ?_
        refine g_get (v := .ref (B + 111)) (T := TX11) (ci := 11) (N := 13) hx hb hown hK (gY_X11 hT) rfl (zO 0 _ rfl) 10 (by decide) (hT _ gf_X11_45) rfl dX11_shift_26 ?_
        refine lv_iload_n hx hb dX11_shift_29 rfl (lv_at hl 3 rfl) ?_
        refine g_ia (j := m) (v := μ 2 m) hx hb hK (zP 0 _ rfl) rfl (by omega) (Nat.le_of_ble_eq_true rfl) rfl dX11_shift_30 ?_
        refine lv_if_ge (tgt := 37) hx hb dX11_shift_31 (by decide) (fun c12 => ?_) (fun c12 => ?_)
        · refine lv_aload_n hx hb dX11_shift_37 rfl (lv_at hl 0 rfl) ?_
          refine g_get (v := .ref (B + 111)) (T := TX11) (ci := 11) (N := 13) hx hb hown hK (gY_X11 hT) rfl (zO 0 _ rfl) 10 (by decide) (hT _ gf_X11_45) rfl dX11_shift_38 ?_
          refine lv_iload_n hx hb dX11_shift_41 rfl (lv_at hl 1 rfl) ?_
          refine g_ia (j := k) (v := μ 2 k) hx hb hK (zP 0 _ rfl) rfl (by omega) (Nat.le_of_ble_eq_true rfl) rfl dX11_shift_42 ?_
          refine lv_aload_n hx hb dX11_shift_43 rfl (lv_at hl 0 rfl) ?_
          refine g_get (v := .ref (B + 111)) (T := TX11) (ci := 11) (N := 13) hx hb hown hK (gY_X11 hT) rfl (zO 0 _ rfl) 10 (by decide) (hT _ gf_X11_45) rfl dX11_shift_44 ?_
          refine lv_iload_n hx hb dX11_shift_47 rfl (lv_at hl 3 rfl) ?_
          refine g_ia (j := m) (v := μ 2 m) hx hb hK (zP 0 _ rfl) rfl (by omega) (Nat.le_of_ble_eq_true rfl) rfl dX11_shift_48 ?_
          refine lv_icmp_eq (tgt := 55) hx hb dX11_shift_49 (by decide) (fun c13 => ?_) (fun c13 => ?_)
          · refine lv_iload hx hb dX11_shift_55 (lv_at hl 5 rfl) ?_
            refine lv_if_lt (tgt := 96) hx hb dX11_shift_57 (by decide) (fun c14 => ?_) (fun c14 => ?_)
            · refine lv_bipush (v := (-13)) hx hb dX11_shift_96 (by decide) ?_
              rw [← hQ]
              exact g_iret hx hb hr hlk hS dX11_shift_98 (by rw [show gqShift μ g (nI k) i (nI m) j x = ((-13), g) from by rw [gqShift, if_pos c5, if_pos c10, nI_clamp (show k < 2 ^ 31 by omega), nI_clamp (show m < 2 ^ 31 by omega), if_neg c11, if_pos c12, if_pos c13, if_pos c14]]; exact ⟨rfl, _, hrr, zO, h1, hk7, ⟨_, h2⟩, ⟨_, _, _, zT⟩, zKT, ⟨_, hrk, zE⟩, zB, zF, ⟨_, zN⟩, zA, zP, zG⟩)
            · obtain ⟨nn, lnn, enn⟩ := nI_of c14
              subst enn
              refine lv_iload_n hx hb dX11_shift_60 rfl (lv_at hl 2 rfl) ?_
              refine lv_if_lt (tgt := 96) hx hb dX11_shift_61 (by decide) (fun c15 => ?_) (fun c15 => ?_)
              · refine lv_bipush (v := (-13)) hx hb dX11_shift_96 (by decide) ?_
                rw [← hQ]
                exact g_iret hx hb hr hlk hS dX11_shift_98 (by rw [show gqShift μ g (nI k) i (nI m) j (nI nn) = ((-13), g) from by rw [gqShift, if_pos c5, if_pos c10, nI_clamp (show k < 2 ^ 31 by omega), nI_clamp (show m < 2 ^ 31 by omega), if_neg c11, if_pos c12, if_pos c13, if_neg (nI_pos (show nn < 2147483648 by omega)), if_pos c15]]; exact ⟨rfl, _, hrr, zO, h1, hk7, ⟨_, h2⟩, ⟨_, _, _, zT⟩, zKT, ⟨_, hrk, zE⟩, zB, zF, ⟨_, zN⟩, zA, zP, zG⟩)
              · obtain ⟨ii, lii, eii⟩ := nI_of c15
                subst eii
                refine lv_iload hx hb dX11_shift_64 (lv_at hl 4 rfl) ?_
                refine lv_if_lt (tgt := 96) hx hb dX11_shift_66 (by decide) (fun c16 => ?_) (fun c16 => ?_)
                · refine lv_bipush (v := (-13)) hx hb dX11_shift_96 (by decide) ?_
                  rw [← hQ]
                  exact g_iret hx hb hr hlk hS dX11_shift_98 (by rw [show gqShift μ g (nI k) (nI ii) (nI m) j (nI nn) = ((-13), g) from by rw [gqShift, if_pos c5, if_pos c10, nI_clamp (show k < 2 ^ 31 by omega), nI_clamp (show m < 2 ^ 31 by omega), if_neg c11, if_pos c12, if_pos c13, if_neg (nI_pos (show nn < 2147483648 by omega)), if_neg (nI_pos (show ii < 2147483648 by omega)), if_pos c16]]; exact ⟨rfl, _, hrr, zO, h1, hk7, ⟨_, h2⟩, ⟨_, _, _, zT⟩, zKT, ⟨_, hrk, zE⟩, zB, zF, ⟨_, zN⟩, zA, zP, zG⟩)
                · obtain ⟨jj, ljj, ejj⟩ := nI_of c16
                  subst ejj
                  obtain ⟨zz, lz, ez⟩ := gTpe_z hTs k (by omega)
                  obtain ⟨yy, ly, ey⟩ := gTpe_z hTs m (by omega)
                  refine lv_iload_n hx hb dX11_shift_69 rfl (lv_at hl 2 rfl) ?_
                  refine lv_aload_n hx hb dX11_shift_70 rfl (lv_at hl 0 rfl) ?_
                  refine g_get (v := .ref (B + 111 + 1)) (T := TX11) (ci := 11) (N := 13) hx hb hown hK (gY_X11 hT) rfl (zO 0 _ rfl) 11 (by decide) (hT _ gf_X11_48) rfl dX11_shift_71 ?_
                  refine lv_iload_n hx hb dX11_shift_74 rfl (lv_at hl 1 rfl) ?_
                  refine g_ia (j := k) (v := μ 3 k) hx hb hK (zP 1 _ rfl) rfl (by omega) (Nat.le_of_ble_eq_true rfl) rfl dX11_shift_75 ?_
                  refine lv_iload hx hb dX11_shift_76 (lv_at hl 5 rfl) ?_
                  refine lv_isub hx hb dX11_shift_78 ?_
                  refine lv_icmp_gt (tgt := 96) hx hb dX11_shift_79 (by decide) (fun c17 => ?_) (fun c17 => ?_)
                  · rw [ez] at c17
                    have hc1 : zz < ii + nn := (gShc lz (by omega) (by omega)).mp c17
                    refine lv_bipush (v := (-13)) hx hb dX11_shift_96 (by decide) ?_
                    rw [← hQ]
                    exact g_iret hx hb hr hlk hS dX11_shift_98 (by rw [show gqShift μ g (nI k) (nI ii) (nI m) (nI jj) (nI nn) = ((-13), g) from by rw [gqShift, if_pos c5, if_pos c10, nI_clamp (show k < 2 ^ 31 by omega), nI_clamp (show m < 2 ^ 31 by omega), if_neg c11, if_pos c12, if_pos c13, if_neg (nI_pos (show nn < 2147483648 by omega)), if_neg (nI_pos (show ii < 2147483648 by omega)), if_neg (nI_pos (show jj < 2147483648 by omega)), show (nI ii).toNatClampNeg = ii from nI_clamp (by omega), show (nI nn).toNatClampNeg = nn from nI_clamp (by omega), show (nI jj).toNatClampNeg = jj from nI_clamp (by omega), ez, ey, show (nI zz).toNatClampNeg = zz from nI_clamp (by omega), show (nI yy).toNatClampNeg = yy from nI_clamp (by omega), if_pos hc1]]; exact ⟨rfl, _, hrr, zO, h1, hk7, ⟨_, h2⟩, ⟨_, _, _, zT⟩, zKT, ⟨_, hrk, zE⟩, zB, zF, ⟨_, zN⟩, zA, zP, zG⟩)
                  · rw [ez] at c17
                    have hc1 : ¬ zz < ii + nn := fun q => c17 ((gShc lz (by omega) (by omega)).mpr q)
                    refine lv_iload hx hb dX11_shift_82 (lv_at hl 4 rfl) ?_
                    refine lv_aload_n hx hb dX11_shift_84 rfl (lv_at hl 0 rfl) ?_
                    refine g_get (v := .ref (B + 111 + 1)) (T := TX11) (ci := 11) (N := 13) hx hb hown hK (gY_X11 hT) rfl (zO 0 _ rfl) 11 (by decide) (hT _ gf_X11_48) rfl dX11_shift_85 ?_
                    refine lv_iload_n hx hb dX11_shift_88 rfl (lv_at hl 3 rfl) ?_
                    refine g_ia (j := m) (v := μ 3 m) hx hb hK (zP 1 _ rfl) rfl (by omega) (Nat.le_of_ble_eq_true rfl) rfl dX11_shift_89 ?_
                    refine lv_iload hx hb dX11_shift_90 (lv_at hl 5 rfl) ?_
                    refine lv_isub hx hb dX11_shift_92 ?_
                    refine lv_icmp_le (tgt := 99) hx hb dX11_shift_93 (by decide) (fun c18 => ?_) (fun c18 => ?_)
                    · rw [ey] at c18
                      have hc2 : ¬ yy < jj + nn := fun q => absurd ((gShc ly (by omega) (by omega)).mpr q) (Int32.not_lt.mpr c18)
                      refine lv_aload_n hx hb dX11_shift_99 rfl (lv_at hl 0 rfl) ?_
                      refine g_get (v := .ref (B + 111 + 2)) (T := TX11) (ci := 11) (N := 13) hx hb hown hK (gY_X11 hT) rfl (zO 0 _ rfl) 12 (by decide) (hT _ gf_X11_53) rfl dX11_shift_100 ?_
                      refine lv_iload_n hx hb dX11_shift_103 rfl (lv_at hl 1 rfl) ?_
                      refine g_aa6 (j := k) (v := .ref (B + 111 + 3 + k)) hx hb hK (zP 2 _ rfl) rfl (by omega) (Nat.le_of_ble_eq_true rfl) rfl dX11_shift_104 ?_
                      refine lv_iload_n hx hb dX11_shift_105 rfl (lv_at hl 2 rfl) ?_
                      refine lv_aload_n hx hb dX11_shift_106 rfl (lv_at hl 0 rfl) ?_
                      refine g_get (v := .ref (B + 111 + 2)) (T := TX11) (ci := 11) (N := 13) hx hb hown hK (gY_X11 hT) rfl (zO 0 _ rfl) 12 (by decide) (hT _ gf_X11_53) rfl dX11_shift_107 ?_
                      refine lv_iload_n hx hb dX11_shift_110 rfl (lv_at hl 3 rfl) ?_
                      refine g_aa6 (j := m) (v := .ref (B + 111 + 3 + m)) hx hb hK (zP 2 _ rfl) rfl (by omega) (Nat.le_of_ble_eq_true rfl) rfl dX11_shift_111 ?_
                      refine lv_iload hx hb dX11_shift_112 (lv_at hl 4 rfl) ?_
                      refine lv_iload hx hb dX11_shift_114 (lv_at hl 5 rfl) ?_
                      obtain ⟨rs, hes, hrs⟩ := zG k (by omega)
                      obtain ⟨rd, hed, hrd⟩ := zG m (by omega)
                      refine g_cpl (i := ii) (j := jj) (k := nn) hx hb hml hl.1 hown hT hK hS gm_X11_260 hes hed rfl rfl rfl (by omega) (by omega) (Nat.le_of_ble_eq_true rfl) (Nat.le_of_ble_eq_true rfl) (by omega) (Nat.le_of_ble_eq_true rfl) (Nat.le_of_ble_eq_true rfl) dX11_shift_116 (fun H19 locs c20 oq hS => ?_)
                      have zG : gRows G (B + 114) (gMv g (60 * k + ii) (60 * m + jj) nn) H19 := gRows_cp (t := k) (o := m) zG (by omega) (by omega) (by omega) hrs hrd c20 oq
                      have zO := gSg_off zO oq (by simp only [List.length_cons, List.length_nil]; omega)
                      have h1 := gSg_off h1 oq (by simp only [List.length_cons, List.length_nil]; omega)
                      have hk7 := gSg_off hk7 oq (by simp only [List.length_cons, List.length_nil]; omega)
                      have h2 := gSg_off h2 oq (by simp only [List.length_cons, List.length_nil]; omega)
                      have zT := gSg_off zT oq (by simp only [List.length_cons, List.length_nil]; omega)
                      have zKT := gSg_off zKT oq (by simp only [List.length_cons, List.length_nil]; omega)
                      have zE := gSg_off zE oq (by simp only [List.length_cons, List.length_nil]; omega)
                      have zB := gSg_off zB oq (by simp only [List.length_cons, List.length_nil]; omega)
                      have zF := gSg_off zF oq (by simp only [List.length_cons, List.length_nil]; omega)
                      have zN := gSg_off zN oq (by simp only [List.length_cons, List.length_nil]; omega)
                      have zA := gSg_off zA oq (by simp only [List.length_cons, List.length_nil]; omega)
                      have zP := gSg_off zP oq (by simp only [List.length_cons, List.length_nil]; omega)
                      refine lv_iload hx hb dX11_shift_119 (lv_at hl 5 rfl) ?_
                      rw [← hQ]
                      exact g_iret hx hb hr hlk hS dX11_shift_121 (by rw [show gqShift μ g (nI k) (nI ii) (nI m) (nI jj) (nI nn) = (nI nn, gMv g (60 * k + ii) (60 * m + jj) nn) from by rw [gqShift, if_pos c5, if_pos c10, nI_clamp (show k < 2 ^ 31 by omega), nI_clamp (show m < 2 ^ 31 by omega), if_neg c11, if_pos c12, if_pos c13, if_neg (nI_pos (show nn < 2147483648 by omega)), if_neg (nI_pos (show ii < 2147483648 by omega)), if_neg (nI_pos (show jj < 2147483648 by omega)), show (nI ii).toNatClampNeg = ii from nI_clamp (by omega), show (nI nn).toNatClampNeg = nn from nI_clamp (by omega), show (nI jj).toNatClampNeg = jj from nI_clamp (by omega), ez, ey, show (nI zz).toNatClampNeg = zz from nI_clamp (by omega), show (nI yy).toNatClampNeg = yy from nI_clamp (by omega), if_neg hc1, if_neg hc2]]; exact ⟨rfl, _, hrr, zO, h1, hk7, ⟨_, h2⟩, ⟨_, _, _, zT⟩, zKT, ⟨_, hrk, zE⟩, zB, zF, ⟨_, zN⟩, zA, zP, zG⟩)
                    · rw [ey] at c18
                      have hc2 : yy < jj + nn := (gShc ly (by omega) (by omega)).mp (Int32.not_le.mp c18)
                      refine lv_bipush (v := (-13)) hx hb dX11_shift_96 (by decide) ?_
                      rw [← hQ]
                      exact g_iret hx hb hr hlk hS dX11_shift_98 (by rw [show gqShift μ g (nI k) (nI ii) (nI m) (nI jj) (nI nn) = ((-13), g) from by rw [gqShift, if_pos c5, if_pos c10, nI_clamp (show k < 2 ^ 31 by omega), nI_clamp (show m < 2 ^ 31 by omega), if_neg c11, if_pos c12, if_pos c13, if_neg (nI_pos (show nn < 2147483648 by omega)), if_neg (nI_pos (show ii < 2147483648 by omega)), if_neg (nI_pos (show jj < 2147483648 by omega)), show (nI ii).toNatClampNeg = ii from nI_clamp (by omega), show (nI nn).toNatClampNeg = nn from nI_clamp (by omega), show (nI jj).toNatClampNeg = jj from nI_clamp (by omega), ez, ey, show (nI zz).toNatClampNeg = zz from nI_clamp (by omega), show (nI yy).toNatClampNeg = yy from nI_clamp (by omega), if_neg hc1, if_pos hc2]]; exact ⟨rfl, _, hrr, zO, h1, hk7, ⟨_, h2⟩, ⟨_, _, _, zT⟩, zKT, ⟨_, hrk, zE⟩, zB, zF, ⟨_, zN⟩, zA, zP, zG⟩)
          · refine lv_bipush (v := (-12)) hx hb dX11_shift_52 (by decide) ?_
            rw [← hQ]
            exact g_iret hx hb hr hlk hS dX11_shift_54 (by rw [show gqShift μ g (nI k) i (nI m) j x = ((-12), g) from by rw [gqShift, if_pos c5, if_pos c10, nI_clamp (show k < 2 ^ 31 by omega), nI_clamp (show m < 2 ^ 31 by omega), if_neg c11, if_pos c12, if_neg c13]]; exact ⟨rfl, _, hrr, zO, h1, hk7, ⟨_, h2⟩, ⟨_, _, _, zT⟩, zKT, ⟨_, hrk, zE⟩, zB, zF, ⟨_, zN⟩, zA, zP, zG⟩)
        · refine lv_bipush (v := (-11)) hx hb dX11_shift_34 (by decide) ?_
          rw [← hQ]
          exact g_iret hx hb hr hlk hS dX11_shift_36 (by rw [show gqShift μ g (nI k) i (nI m) j x = ((-11), g) from by rw [gqShift, if_pos c5, if_pos c10, nI_clamp (show k < 2 ^ 31 by omega), nI_clamp (show m < 2 ^ 31 by omega), if_neg c11, if_neg c12]]; exact ⟨rfl, _, hrr, zO, h1, hk7, ⟨_, h2⟩, ⟨_, _, _, zT⟩, zKT, ⟨_, hrk, zE⟩, zB, zF, ⟨_, zN⟩, zA, zP, zG⟩)
    · have c10 : ¬ (0 ≤ o ∧ o ≤ 5) := gB_0.mp c10
      refine lv_iconst (v := (-1)) hx hb dX11_shift_14 (by decide) ?_
      rw [← hQ]
      exact g_iret hx hb hr hlk hS dX11_shift_15 (by rw [show gqShift μ g (nI k) i o j x = ((-1), g) from by rw [gqShift, if_pos c5, if_neg c10]]; exact ⟨rfl, _, hrr, zO, h1, hk7, ⟨_, h2⟩, ⟨_, _, _, zT⟩, zKT, ⟨_, hrk, zE⟩, zB, zF, ⟨_, zN⟩, zA, zP, zG⟩)

set_option maxHeartbeats 4000000 in
set_option maxRecDepth 100000 in
theorem c_X11_loft_full (l : Launch) (G : gW) (B lp lk : Nat) (π πk μ α : gPS) (g : Nat → Int64) (tn : Nat) (htn : μ 4 0 = nI tn) (hTn : gTx (μ 0) tn) (lc : Nat) (hlc : μ 4 3 = nI lc) (f2 : gPS) (h30 : f2 3 0 = 0) (htG : G.2.2.2.size ≤ B) (h6 : lc = 6) : gCI l yX11_loft cX11_loft 3 .int (gRm 19 416) G [.ref B] (fun H => gCN G B lp π lk πk μ α g H) (fun r H => r = -4 ∧ gCN G B lp π lk πk μ α g H) (fun _ => False) := by
  refine g_start (by decide) (Nat.le_of_ble_eq_true rfl) ?_
  intro pp_ ee_ s mm_ aa_ below meth cc_ ls Q hQ hX hE hP hl
  obtain ⟨hx, hb, hr, hml, hown, hT, hlk, hnm⟩ := hX
  have hK := hE.2.1
  obtain ⟨ρ, hrr, zO, h1, hk7, ⟨πt, lt, ρt, zT⟩, zKT, ⟨ρk, hrk, zE⟩, zB, zF, ⟨γ, zN⟩, zA, zP, zG⟩ := hP
  have hS : va_S (fun _ => False) s.heap s.heap [] := va_S.rf
  have hl : lv_has ls 3 [(0, .ref B)] := hl
  refine lv_aload_n hx hb dX11_loft_0 rfl (lv_at hl 0 rfl) ?_
  refine g_get (v := .int (μ 4 3)) (T := TX11) (ci := 11) (N := 13) hx hb hown hK (gY_X11 hT) rfl (zO 0 _ rfl) 7 (by decide) (hT _ gf_X11_113) rfl dX11_loft_1 ?_
  refine lv_bipush (v := 6) hx hb dX11_loft_4 (by decide) ?_
  refine lv_icmp_lt (tgt := 12) hx hb dX11_loft_6 (by decide) (fun c1 => ?_) (fun c1 => ?_)
  · have c1 : lc < 6 := (gLt (a := lc) (b := 6) hlc rfl (by omega) (by omega)).mp c1
    exact absurd c1 (by omega)
  · have c1 : ¬ lc < 6 := fun z => c1 ((gLt (a := lc) (b := 6) hlc rfl (by omega) (by omega)).mpr z)
    refine lv_bipush (v := (-4)) hx hb dX11_loft_9 (by decide) ?_
    rw [← hQ]
    exact g_iret hx hb hr hlk hS dX11_loft_11 ⟨rfl, _, hrr, zO, h1, hk7, ⟨_, _, _, zT⟩, zKT, ⟨_, hrk, zE⟩, zB, zF, ⟨_, zN⟩, zA, zP, zG⟩

set_option maxHeartbeats 4000000 in
set_option maxRecDepth 100000 in
theorem c_X11_loft (l : Launch) (G : gW) (B lp lk : Nat) (π πk μ α : gPS) (g : Nat → Int64) (tn : Nat) (htn : μ 4 0 = nI tn) (hTn : gTx (μ 0) tn) (lc : Nat) (hlc : μ 4 3 = nI lc) (f2 : gPS) (h30 : f2 3 0 = 0) (htG : G.2.2.2.size ≤ B) (h6 : lc < 6) : gCI l yX11_loft cX11_loft 3 .int (gRm 19 416) G [.ref B] (fun H => gOld G H ∧ gCN G B lp π lk πk μ α g H ∧ gSg G (B + 107 + 13 + 6 * lc) (gLL G (B + 107 + 13 + 6 * lc) f2) H) (fun r H => ∃ f9 : gPS, gSg G (B + 107 + 13 + 6 * lc) (gLL G (B + 107 + 13 + 6 * lc) f9) H ∧ f9 3 0 = 0 ∧ (((gLo (μ 0) tn 10 0 []).1 = true ∧ r = nI lc ∧ gClo f9 (gLo (μ 0) tn 10 0 []).2.2 ∧ gCN G B (B + 107 + 13 + 6 * lc) π lk πk (gU (gU μ 4 0 0) 4 3 (nI (lc + 1))) α g H) ∨ ((gLo (μ 0) tn 10 0 []).1 = false ∧ r = -10 - nI (gLo (μ 0) tn 10 0 []).2.1 ∧ gCN G B lp π lk πk (gU μ 4 0 0) α g H))) (fun q => (B ≤ q ∧ q < B + 23) ∨ ((B + 107 + 13 + 6 * lc) ≤ q ∧ q < (B + 107 + 13 + 6 * lc) + 6)) := by
  refine g_start (by decide) (Nat.le_of_ble_eq_true rfl) ?_
  intro pp_ ee_ s mm_ aa_ below meth cc_ ls Q hQ hX hE hP hl
  obtain ⟨hx, hb, hr, hml, hown, hT, hlk, hnm⟩ := hX
  have hK := hE.2.1
  obtain ⟨hO, ⟨ρ, hrr, zO, h1, hk7, ⟨πt, lt, ρt, zT⟩, zKT, ⟨ρk, hrk, zE⟩, zB, zF, ⟨γ, zN⟩, zA, zP, zG⟩, zL⟩ := hP
  have hS : va_S (fun q => (B ≤ q ∧ q < B + 23) ∨ ((B + 107 + 13 + 6 * lc) ≤ q ∧ q < (B + 107 + 13 + 6 * lc) + 6)) s.heap s.heap [] := va_S.rf
  have hl : lv_has ls 3 [(0, .ref B)] := hl
  have hn9 : tn ≤ 100 := hTn.1
  have hJ := hE.2.2.2.2.2.2.now hO
  have hq9 : (gLo (μ 0) tn 10 0 []).2.1 ≤ tn := gLo_n (Nat.zero_le _)
  refine lv_aload_n hx hb dX11_loft_0 rfl (lv_at hl 0 rfl) ?_
  refine g_get (v := .int (μ 4 3)) (T := TX11) (ci := 11) (N := 13) hx hb hown hK (gY_X11 hT) rfl (zO 0 _ rfl) 7 (by decide) (hT _ gf_X11_113) rfl dX11_loft_1 ?_
  refine lv_bipush (v := 6) hx hb dX11_loft_4 (by decide) ?_
  refine lv_icmp_lt (tgt := 12) hx hb dX11_loft_6 (by decide) (fun c1 => ?_) (fun c1 => ?_)
  · have c1 : lc < 6 := (gLt (a := lc) (b := 6) hlc rfl (by omega) (by omega)).mp c1
    refine lv_aload_n hx hb dX11_loft_12 rfl (lv_at hl 0 rfl) ?_
    refine g_get (v := .ref (B + 107)) (T := TX11) (ci := 11) (N := 13) hx hb hown hK (gY_X11 hT) rfl (zO 0 _ rfl) 6 (by decide) (hT _ gf_X11_30) rfl dX11_loft_13 ?_
    refine lv_aload_n hx hb dX11_loft_16 rfl (lv_at hl 0 rfl) ?_
    refine g_get (v := .int (μ 4 3)) (T := TX11) (ci := 11) (N := 13) hx hb hown hK (gY_X11 hT) rfl (zO 0 _ rfl) 7 (by decide) (hT _ gf_X11_113) rfl dX11_loft_17 ?_
    refine g_aa4 (j := lc) (v := .ref (B + 107 + 13 + 6 * lc)) hx hb hK (zF 0 _ rfl) hlc (by omega) (Nat.le_of_ble_eq_true rfl) rfl dX11_loft_20 ?_
    refine lv_astore_n (lv' := [(1, .ref (B + 107 + 13 + 6 * lc)), (0, .ref B)]) hx hb dX11_loft_21 rfl hl (by decide) rfl (fun ls hl => ?_)
    refine lv_aload_n hx hb dX11_loft_22 rfl (lv_at hl 0 rfl) ?_
    refine lv_aload_n hx hb dX11_loft_23 rfl (lv_at hl 1 rfl) ?_
    refine g_get (v := .ref (B + 106)) (T := TX11) (ci := 11) (N := 13) hx hb hown hK (gY_X11 hT) rfl (zO 0 _ rfl) 4 (by decide) (hT _ gf_X11_24) rfl dX11_loft_24 ?_
    refine lv_aload_n hx hb dX11_loft_27 rfl (lv_at hl 1 rfl) ?_
    refine g_get (v := .int (μ 4 0)) (T := TX11) (ci := 11) (N := 13) hx hb hown hK (gY_X11 hT) rfl (zO 0 _ rfl) 5 (by decide) (hT _ gf_X11_110) rfl dX11_loft_28 ?_
    rw [htn]
    refine g_ki (g_runV (T := TX5) (ci := 5) (N := 10) (rest := []) hx hb hml hown hE hT (c_X5_faultOf l G (B + 107 + 13 + 6 * lc) f2 h30 (B + 106) μ tn hTn (by omega) (by omega)) gM_X5_faultOf gm_X11_116 gi_X5_faultOf gs_RX5_yX5_faultOf_yX5_faultOf rfl (zL 0 _ rfl) ⟨gOld_S hO hS (fun q9 hq9 => by omega), zB, zL⟩ rfl hl.1 ⟨rfl, rfl⟩ ⟨Nat.le_of_ble_eq_true rfl, Nat.le_of_ble_eq_true rfl⟩ ⟨Nat.zero_le _, Nat.zero_le _⟩ rfl (Nat.le_of_ble_eq_true rfl) dX11_loft_31) hS (by intro q hq; omega) (fun r5 H2 locs q3 k4 hS => ?_)
    obtain ⟨e9, f9, zL, h39, hcl9⟩ := q3
    have zO := gSg_free zO k4 (by intro k hk q; simp only [List.length_cons, List.length_nil] at hk; omega)
    have h1 := gSg_free h1 k4 (by intro k hk q; simp only [List.length_cons, List.length_nil] at hk; omega)
    have hk7 := gSg_free hk7 k4 (by intro k hk q; simp only [List.length_cons, List.length_nil] at hk; omega)
    have zT := gSg_free zT k4 (by intro k hk q; simp only [List.length_cons, List.length_nil] at hk; omega)
    have zKT := gSg_free zKT k4 (by intro k hk q; simp only [List.length_cons, List.length_nil] at hk; omega)
    have zE := gSg_free zE k4 (by intro k hk q; simp only [List.length_cons, List.length_nil] at hk; omega)
    have zB := gSg_free zB k4 (by intro k hk q; simp only [List.length_cons, List.length_nil] at hk; omega)
    have zF := gSg_free zF k4 (by intro k hk q; simp only [List.length_cons, List.length_nil] at hk; omega)
    have zN := gSg_free zN k4 (by intro k hk q; simp only [List.length_cons, List.length_nil] at hk; omega)
    have zA := gSg_free zA k4 (by intro k hk q; simp only [List.length_cons, List.length_nil] at hk; omega)
    have zP := gSg_free zP k4 (by intro k hk q; simp only [List.length_cons, List.length_nil] at hk; omega)
    have zG := gRows_free zG k4 (by intro k hk q; omega)
    rw [e9]
    by_cases hG9 : (gLo (μ 0) tn 10 0 []).1 = true
    · rw [if_pos hG9]
      refine lv_istore_n (lv' := [(2, .int (-1)), (1, .ref (B + 107 + 13 + 6 * lc)), (0, .ref B)]) hx hb dX11_loft_34 rfl hl (by decide) rfl (fun ls hl => ?_)
      refine lv_aload_n hx hb dX11_loft_35 rfl (lv_at hl 2 rfl) ?_
      refine lv_iconst (v := 0) hx hb dX11_loft_36 (by decide) ?_
      refine g_put (T := TX11) (ci := 11) (N := 13) (ty0 := tyX11) hx hb hown hK hS (gY_X11 hT) tyX11_ok nmX11 rfl (zO 0 _ rfl) 5 (by decide) (hT _ gf_X11_110) rfl rfl rfl (Nat.le_of_ble_eq_true rfl) (by omega) dX11_loft_37 (fun H6 locs c7 oq hS => ?_)
      have zO : gSg G B (gLO G B (gU μ 4 0 0)) H6 := gSg_set zO 0 c7 oq
      have h1 := gSg_off h1 oq (by simp only [List.length_cons, List.length_nil]; omega)
      have hk7 := gSg_off hk7 oq (by simp only [List.length_cons, List.length_nil]; omega)
      have zT := gSg_off zT oq (by simp only [List.length_cons, List.length_nil]; omega)
      have zKT := gSg_off zKT oq (by simp only [List.length_cons, List.length_nil]; omega)
      have zE := gSg_off zE oq (by simp only [List.length_cons, List.length_nil]; omega)
      have zB := gSg_off zB oq (by simp only [List.length_cons, List.length_nil]; omega)
      have zF := gSg_off zF oq (by simp only [List.length_cons, List.length_nil]; omega)
      have zN := gSg_off zN oq (by simp only [List.length_cons, List.length_nil]; omega)
      have zA := gSg_off zA oq (by simp only [List.length_cons, List.length_nil]; omega)
      have zP := gSg_off zP oq (by simp only [List.length_cons, List.length_nil]; omega)
      have zG := gRows_off zG oq (by omega)
      have zL := gSg_off zL oq (by simp only [List.length_cons, List.length_nil]; omega)
      refine lv_iload_n hx hb dX11_loft_40 rfl (lv_at hl 0 rfl) ?_
      refine lv_if_lt (tgt := 49) hx hb dX11_loft_41 (by decide) (fun c8 => ?_) (fun c8 => ?_)
      · refine lv_aload_n hx hb dX11_loft_49 rfl (lv_at hl 2 rfl) ?_
        refine g_get (v := .ref (B + 1)) (T := TX11) (ci := 11) (N := 13) hx hb hown hK (gY_X11 hT) rfl (zO 0 _ rfl) 0 (by decide) (hT _ gf_X11_12) rfl dX11_loft_50 ?_
        refine lv_aload_n hx hb dX11_loft_53 rfl (lv_at hl 1 rfl) ?_
        refine g_put (T := TX9) (ci := 9) (N := 16) (ty0 := tyX9) hx hb hown hK hS (gY_X9 hT) tyX9_ok nmX9 rfl (h1 0 _ rfl) 15 (by decide) (hT _ gf_X11_120) rfl rfl rfl (Nat.le_of_ble_eq_true rfl) (by omega) dX11_loft_54 (fun H9 locs c10 oq hS => ?_)
        have h1 : gSg G (B + 1) (gLS G (B + 1) π (B + 107 + 13 + 6 * lc) ρ) H9 := gSg_set h1 0 c10 oq
        have zO := gSg_off zO oq (by simp only [List.length_cons, List.length_nil]; omega)
        have hk7 := gSg_off hk7 oq (by simp only [List.length_cons, List.length_nil]; omega)
        have zT := gSg_off zT oq (by simp only [List.length_cons, List.length_nil]; omega)
        have zKT := gSg_off zKT oq (by simp only [List.length_cons, List.length_nil]; omega)
        have zE := gSg_off zE oq (by simp only [List.length_cons, List.length_nil]; omega)
        have zB := gSg_off zB oq (by simp only [List.length_cons, List.length_nil]; omega)
        have zF := gSg_off zF oq (by simp only [List.length_cons, List.length_nil]; omega)
        have zN := gSg_off zN oq (by simp only [List.length_cons, List.length_nil]; omega)
        have zA := gSg_off zA oq (by simp only [List.length_cons, List.length_nil]; omega)
        have zP := gSg_off zP oq (by simp only [List.length_cons, List.length_nil]; omega)
        have zG := gRows_off zG oq (by omega)
        have zL := gSg_off zL oq (by simp only [List.length_cons, List.length_nil]; omega)
        refine lv_aload_n hx hb dX11_loft_57 rfl (lv_at hl 2 rfl) ?_
        refine lv_dup hx hb dX11_loft_58 rfl ?_
        refine g_get (v := .int (μ 4 3)) (T := TX11) (ci := 11) (N := 13) hx hb hown hK (gY_X11 hT) rfl (zO 0 _ rfl) 7 (by decide) (hT _ gf_X11_113) rfl dX11_loft_59 ?_
        refine lv_iconst (v := 1) hx hb dX11_loft_62 (by decide) ?_
        refine lv_iadd hx hb dX11_loft_63 ?_
        rw [show ((μ 4 3) + 1 : Int32) = nI (lc + 1) from (gAdd hlc rfl)]
        refine g_put (T := TX11) (ci := 11) (N := 13) (ty0 := tyX11) hx hb hown hK hS (gY_X11 hT) tyX11_ok nmX11 rfl (zO 0 _ rfl) 7 (by decide) (hT _ gf_X11_113) rfl rfl rfl (Nat.le_of_ble_eq_true rfl) (by omega) dX11_loft_64 (fun H11 locs c12 oq hS => ?_)
        have zO : gSg G B (gLO G B (gU (gU μ 4 0 0) 4 3 (nI (lc + 1)))) H11 := gSg_set zO 0 c12 oq
        have h1 := gSg_off h1 oq (by simp only [List.length_cons, List.length_nil]; omega)
        have hk7 := gSg_off hk7 oq (by simp only [List.length_cons, List.length_nil]; omega)
        have zT := gSg_off zT oq (by simp only [List.length_cons, List.length_nil]; omega)
        have zKT := gSg_off zKT oq (by simp only [List.length_cons, List.length_nil]; omega)
        have zE := gSg_off zE oq (by simp only [List.length_cons, List.length_nil]; omega)
        have zB := gSg_off zB oq (by simp only [List.length_cons, List.length_nil]; omega)
        have zF := gSg_off zF oq (by simp only [List.length_cons, List.length_nil]; omega)
        have zN := gSg_off zN oq (by simp only [List.length_cons, List.length_nil]; omega)
        have zA := gSg_off zA oq (by simp only [List.length_cons, List.length_nil]; omega)
        have zP := gSg_off zP oq (by simp only [List.length_cons, List.length_nil]; omega)
        have zG := gRows_off zG oq (by omega)
        have zL := gSg_off zL oq (by simp only [List.length_cons, List.length_nil]; omega)
        refine lv_aload_n hx hb dX11_loft_67 rfl (lv_at hl 2 rfl) ?_
        refine g_get (v := .int (nI (lc + 1))) (T := TX11) (ci := 11) (N := 13) hx hb hown hK (gY_X11 hT) rfl (zO 0 _ rfl) 7 (by decide) (hT _ gf_X11_113) rfl dX11_loft_68 ?_
        refine lv_iconst (v := 1) hx hb dX11_loft_71 (by decide) ?_
        refine lv_isub hx hb dX11_loft_72 ?_
        rw [show ((nI (lc + 1)) - 1 : Int32) = nI ((lc + 1) - 1) from (gSub rfl rfl (by omega))]
        rw [← hQ]
        exact g_iret hx hb hr hlk hS dX11_loft_73 ⟨f9, zL, h39, Or.inl ⟨hG9, congrArg nI (by omega), hcl9 hG9, _, hrr, zO, h1, hk7, ⟨_, _, _, zT⟩, zKT, ⟨_, hrk, zE⟩, zB, zF, ⟨_, zN⟩, zA, zP, zG⟩⟩
      · exact absurd (by decide) c8
    · rw [if_neg hG9]
      refine lv_istore_n (lv' := [(2, .int (nI ((gLo (μ 0) tn 10 0 []).2.1))), (1, .ref (B + 107 + 13 + 6 * lc)), (0, .ref B)]) hx hb dX11_loft_34 rfl hl (by decide) rfl (fun ls hl => ?_)
      refine lv_aload_n hx hb dX11_loft_35 rfl (lv_at hl 2 rfl) ?_
      refine lv_iconst (v := 0) hx hb dX11_loft_36 (by decide) ?_
      refine g_put (T := TX11) (ci := 11) (N := 13) (ty0 := tyX11) hx hb hown hK hS (gY_X11 hT) tyX11_ok nmX11 rfl (zO 0 _ rfl) 5 (by decide) (hT _ gf_X11_110) rfl rfl rfl (Nat.le_of_ble_eq_true rfl) (by omega) dX11_loft_37 (fun H13 locs c14 oq hS => ?_)
      have zO : gSg G B (gLO G B (gU μ 4 0 0)) H13 := gSg_set zO 0 c14 oq
      have h1 := gSg_off h1 oq (by simp only [List.length_cons, List.length_nil]; omega)
      have hk7 := gSg_off hk7 oq (by simp only [List.length_cons, List.length_nil]; omega)
      have zT := gSg_off zT oq (by simp only [List.length_cons, List.length_nil]; omega)
      have zKT := gSg_off zKT oq (by simp only [List.length_cons, List.length_nil]; omega)
      have zE := gSg_off zE oq (by simp only [List.length_cons, List.length_nil]; omega)
      have zB := gSg_off zB oq (by simp only [List.length_cons, List.length_nil]; omega)
      have zF := gSg_off zF oq (by simp only [List.length_cons, List.length_nil]; omega)
      have zN := gSg_off zN oq (by simp only [List.length_cons, List.length_nil]; omega)
      have zA := gSg_off zA oq (by simp only [List.length_cons, List.length_nil]; omega)
      have zP := gSg_off zP oq (by simp only [List.length_cons, List.length_nil]; omega)
      have zG := gRows_off zG oq (by omega)
      have zL := gSg_off zL oq (by simp only [List.length_cons, List.length_nil]; omega)
      refine lv_iload_n hx hb dX11_loft_40 rfl (lv_at hl 0 rfl) ?_
      refine lv_if_lt (tgt := 49) hx hb dX11_loft_41 (by decide) (fun c15 => ?_) (fun c15 => ?_)
      · have c15 : ((gLo (μ 0) tn 10 0 []).2.1) < 0 := (gLt (a := (gLo (μ 0) tn 10 0 []).2.1) (b := 0) rfl rfl (by omega) (by omega)).mp c15
        exact absurd c15 (by omega)
      · have c15 : ¬ ((gLo (μ 0) tn 10 0 []).2.1) < 0 := fun z => c15 ((gLt (a := (gLo (μ 0) tn 10 0 []).2.1) (b := 0) rfl rfl (by omega) (by omega)).mpr z)
        refine lv_bipush (v := (-10)) hx hb dX11_loft_44 (by decide) ?_
        refine lv_iload_n hx hb dX11_loft_46 rfl (lv_at hl 0 rfl) ?_
        refine lv_isub hx hb dX11_loft_47 ?_
        rw [← hQ]
        exact g_iret hx hb hr hlk hS dX11_loft_48 ⟨f9, zL, h39, Or.inr ⟨by simpa using hG9, rfl, _, hrr, zO, h1, hk7, ⟨_, _, _, zT⟩, zKT, ⟨_, hrk, zE⟩, zB, zF, ⟨_, zN⟩, zA, zP, zG⟩⟩
  · have c1 : ¬ lc < 6 := fun z => c1 ((gLt (a := lc) (b := 6) hlc rfl (by omega) (by omega)).mpr z)
    exact absurd c1 (by omega)
