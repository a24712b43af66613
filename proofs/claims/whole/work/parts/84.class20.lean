set_option maxHeartbeats 4000000 in
set_option maxRecDepth 100000 in
theorem c_X11_item (l : Launch) (G : gW) (B lp : Nat) (π πk f μ α : gPS) (lk : Nat) (g : Nat → Int64) (acc : List (Nat × Nat × List Nat)) (hcl : gClo f acc) (hI : gInv π) (hlp : lp = B + 23 ∨ lp = B + 58 ∨ lp = B + 93 ∨ (B + 120 ≤ lp ∧ lp + 6 ≤ B + 156)) (hTs : gTpe μ) (t i : Int32) (v : Int64) : gCI l yX11_item cX11_item 5 .int (gRm 1 40) G [.ref B, .int t, .int i, .long v] (fun H => gCW G B lp π lk πk f μ α g H) (fun r H => r = (gqItem μ g t i v).1 ∧ gCW G B lp π lk πk f μ α ((gqItem μ g t i v).2) H) (fun q => (lp ≤ q ∧ q < lp + 6) ∨ (B ≤ q ∧ q < B + 23) ∨ (B + 36 ≤ q ∧ q < B + 58) ∨ (B + 71 ≤ q ∧ q < B + 93) ∨ (B + 106 ≤ q ∧ q < B + 120)) := by
  refine g_start (by decide) (Nat.le_of_ble_eq_true rfl) ?_
  intro pp_ ee_ s mm_ aa_ below meth cc_ ls Q hQ hX hE hP hl
  obtain ⟨hx, hb, hr, hml, hown, hT, hlk, hnm⟩ := hX
  have hK := hE.2.1
  obtain ⟨ρ, hrr, zO, h1, hk7, ⟨s4, h2⟩, ⟨πt, lt, ρt, zT⟩, zKT, ⟨ρk, hrk, zE⟩, zB, zF, ⟨γ, zN⟩, zA, zP, zG⟩ := hP
  have hS : va_S (fun q => (lp ≤ q ∧ q < lp + 6) ∨ (B ≤ q ∧ q < B + 23) ∨ (B + 36 ≤ q ∧ q < B + 58) ∨ (B + 71 ≤ q ∧ q < B + 93) ∨ (B + 106 ≤ q ∧ q < B + 120)) s.heap s.heap [] := va_S.rf
  have hl : lv_has ls 5 [(0, .ref B), (1, .int t), (2, .int i), (3, .long v)] := hl
  obtain ⟨⟨n, hn, hz, h0z⟩, hki, ⟨sn, hsn, hz3, hsp⟩, ⟨pn, hpn, hz4, hpo⟩, ⟨bn, hbn, hz5, hbo⟩, hfl9⟩ := id hI
  have hd1 : lp + 6 ≤ B + 1 ∨ lp = B + 1 + 22 ∨ B + 1 + 35 ≤ lp := by omega
  have hd36 : lp + 6 ≤ B + 36 ∨ lp = B + 36 + 22 ∨ B + 36 + 35 ≤ lp := by omega
  refine lv_iload_n hx hb dX11_item_0 rfl (lv_at hl 1 rfl) ?_
  refine g_ki (g_runS (rest := []) hx hb hml hown hE hT (c_X11_isTape l G t) gM_X11_isTape gm_X11_217 gt_X11_isTape trivial rfl hl.1 ⟨rfl, rfl⟩ ⟨Nat.le_of_ble_eq_true rfl, Nat.le_of_ble_eq_true rfl⟩ ⟨Nat.zero_le _, Nat.zero_le _⟩ rfl (Nat.le_of_ble_eq_true rfl) dX11_item_1) hS (fun _ h => h.elim) (fun r4 H1 locs q2 k3 hS => ?_)
  subst q2
  have zO := gSg_free zO k3 (by intro k hk q; simp only [List.length_cons, List.length_nil] at hk; omega)
  have h1 := gSg_free h1 k3 (by intro k hk q; simp only [List.length_cons, List.length_nil] at hk; omega)
  have hk7 := gSg_free hk7 k3 (by intro k hk q; simp only [List.length_cons, List.length_nil] at hk; omega)
  have h2 := gSg_free h2 k3 (by intro k hk q; simp only [List.length_cons, List.length_nil] at hk; omega)
  have zT := gSg_free zT k3 (by intro k hk q; simp only [List.length_cons, List.length_nil] at hk; omega)
  have zKT := gSg_free zKT k3 (by intro k hk q; simp only [List.length_cons, List.length_nil] at hk; omega)
  have zE := gSg_free zE k3 (by intro k hk q; simp only [List.length_cons, List.length_nil] at hk; omega)
  have zB := gSg_free zB k3 (by intro k hk q; simp only [List.length_cons, List.length_nil] at hk; omega)
  have zF := gSg_free zF k3 (by intro k hk q; simp only [List.length_cons, List.length_nil] at hk; omega)
  have zN := gSg_free zN k3 (by intro k hk q; simp only [List.length_cons, List.length_nil] at hk; omega)
  have zA := gSg_free zA k3 (by intro k hk q; simp only [List.length_cons, List.length_nil] at hk; omega)
  have zP := gSg_free zP k3 (by intro k hk q; simp only [List.length_cons, List.length_nil] at hk; omega)
  have zG := gRows_free zG k3 (by intro k hk q; omega)
  refine lv_if_ne (tgt := 9) hx hb dX11_item_4 (by decide) (fun c5 => ?_) (fun c5 => ?_)
  · have c5 : 0 ≤ t ∧ t ≤ 5 := gB_1.mp c5
    obtain ⟨k, hk, ek⟩ := gIw (M := 5) (n := 5) rfl (by decide) c5
    subst ek
    refine lv_aload_n hx hb dX11_item_9 rfl (lv_at hl 0 rfl) ?_
    refine g_get (v := .ref (B + 111)) (T := TX11) (ci := 11) (N := 13) hx hb hown hK (gY_X11 hT) rfl (zO 0 _ rfl) 10 (by decide) (hT _ gf_X11_45) rfl dX11_item_10 ?_
    refine lv_iload_n hx hb dX11_item_13 rfl (lv_at hl 1 rfl) ?_
    refine g_ia (j := k) (v := μ 2 k) hx hb hK (zP 0 _ rfl) rfl (by omega) (Nat.le_of_ble_eq_true rfl) rfl dX11_item_14 ?_
    refine lv_if_ge (tgt := 21) hx hb dX11_item_15 (by decide) (fun c6 => ?_) (fun c6 => ?_)
    · refine lv_aload_n hx hb dX11_item_21 rfl (lv_at hl 0 rfl) ?_
      refine lv_iload_n hx hb dX11_item_22 rfl (lv_at hl 1 rfl) ?_
      refine lv_iload_n hx hb dX11_item_23 rfl (lv_at hl 2 rfl) ?_
      refine g_ki (g_runV (T := TX11) (ci := 11) (N := 13) (rest := []) hx hb hml hown hE hT (c_X11_isPlace l G B μ k (by omega) i) gM_X11_isPlace gm_X11_220 gi_X11_isPlace gs_RX11_yX11_isPlace_yX11_isPlace rfl (zO 0 _ rfl) ⟨zO, zP⟩ rfl hl.1 ⟨rfl, rfl⟩ ⟨Nat.le_of_ble_eq_true rfl, Nat.le_of_ble_eq_true rfl⟩ ⟨Nat.zero_le _, Nat.zero_le _⟩ rfl (Nat.le_of_ble_eq_true rfl) dX11_item_24) hS (fun _ h => h.elim) (fun r10 H7 locs q8 k9 hS => ?_)
      subst q8
      have zO := gSg_free zO k9 (by intro k hk q; simp only [List.length_cons, List.length_nil] at hk; omega)
      have h1 := gSg_free h1 k9 (by intro k hk q; simp only [List.length_cons, List.length_nil] at hk; omega)
      have hk7 := gSg_free hk7 k9 (by intro k hk q; simp only [List.length_cons, List.length_nil] at hk; omega)
      have h2 := gSg_free h2 k9 (by intro k hk q; simp only [List.length_cons, List.length_nil] at hk; omega)
      have zT := gSg_free zT k9 (by intro k hk q; simp only [List.length_cons, List.length_nil] at hk; omega)
      have zKT := gSg_free zKT k9 (by intro k hk q; simp only [List.length_cons, List.length_nil] at hk; omega)
      have zE := gSg_free zE k9 (by intro k hk q; simp only [List.length_cons, List.length_nil] at hk; omega)
      have zB := gSg_free zB k9 (by intro k hk q; simp only [List.length_cons, List.length_nil] at hk; omega)
      have zF := gSg_free zF k9 (by intro k hk q; simp only [List.length_cons, List.length_nil] at hk; omega)
      have zN := gSg_free zN k9 (by intro k hk q; simp only [List.length_cons, List.length_nil] at hk; omega)
      have zA := gSg_free zA k9 (by intro k hk q; simp only [List.length_cons, List.length_nil] at hk; omega)
      have zP := gSg_free zP k9 (by intro k hk q; simp only [List.length_cons, List.length_nil] at hk; omega)
      have zG := gRows_free zG k9 (by intro k hk q; omega)
      refine lv_if_ne (tgt := 33) hx hb dX11_item_27 (by decide) (fun c11 => ?_) (fun c11 => ?_)
      · have c11 : 0 ≤ i ∧ i < μ 3 k := gB_1.mp c11
        obtain ⟨zz, lz, ez⟩ := gTpe_z hTs k (by omega)
        obtain ⟨j, hj, ej⟩ := gIx ez (by omega) c11
        subst ej
        refine lv_aload_n hx hb dX11_item_33 rfl (lv_at hl 0 rfl) ?_
        refine g_get (v := .ref (B + 111 + 2)) (T := TX11) (ci := 11) (N := 13) hx hb hown hK (gY_X11 hT) rfl (zO 0 _ rfl) 12 (by decide) (hT _ gf_X11_53) rfl dX11_item_34 ?_
        refine lv_iload_n hx hb dX11_item_37 rfl (lv_at hl 1 rfl) ?_
        refine g_aa6 (j := k) (v := .ref (B + 111 + 3 + k)) hx hb hK (zP 2 _ rfl) rfl (by omega) (Nat.le_of_ble_eq_true rfl) rfl dX11_item_38 ?_
        refine lv_iload_n hx hb dX11_item_39 rfl (lv_at hl 2 rfl) ?_
        refine lv_aload_n hx hb dX11_item_40 rfl (lv_at hl 0 rfl) ?_
        refine g_get (v := .ref (B + 111)) (T := TX11) (ci := 11) (N := 13) hx hb hown hK (gY_X11 hT) rfl (zO 0 _ rfl) 10 (by decide) (hT _ gf_X11_45) rfl dX11_item_41 ?_
        refine lv_iload_n hx hb dX11_item_44 rfl (lv_at hl 1 rfl) ?_
        refine g_ia (j := k) (v := μ 2 k) hx hb hK (zP 0 _ rfl) rfl (by omega) (Nat.le_of_ble_eq_true rfl) rfl dX11_item_45 ?_
        refine lv_lload_n hx hb dX11_item_46 rfl (lv_at hl 3 rfl) ?_
        refine g_kl (g_runS (rest := [.int (nI j), .ref (B + 111 + 3 + k)]) hx hb hml hown hE hT (c_X11_cut l G (μ 2 k) v) gM_X11_cut gm_X11_256 gt_X11_cut trivial rfl hl.1 ⟨rfl, rfl⟩ ⟨Nat.le_of_ble_eq_true rfl, Nat.le_of_ble_eq_true rfl⟩ ⟨Nat.zero_le _, Nat.zero_le _⟩ rfl (Nat.le_of_ble_eq_true rfl) dX11_item_47) hS (fun _ h => h.elim) (fun r15 H12 locs q13 k14 hS => ?_)
        subst q13
        have zO := gSg_free zO k14 (by intro k hk q; simp only [List.length_cons, List.length_nil] at hk; omega)
        have h1 := gSg_free h1 k14 (by intro k hk q; simp only [List.length_cons, List.length_nil] at hk; omega)
        have hk7 := gSg_free hk7 k14 (by intro k hk q; simp only [List.length_cons, List.length_nil] at hk; omega)
        have h2 := gSg_free h2 k14 (by intro k hk q; simp only [List.length_cons, List.length_nil] at hk; omega)
        have zT := gSg_free zT k14 (by intro k hk q; simp only [List.length_cons, List.length_nil] at hk; omega)
        have zKT := gSg_free zKT k14 (by intro k hk q; simp only [List.length_cons, List.length_nil] at hk; omega)
        have zE := gSg_free zE k14 (by intro k hk q; simp only [List.length_cons, List.length_nil] at hk; omega)
        have zB := gSg_free zB k14 (by intro k hk q; simp only [List.length_cons, List.length_nil] at hk; omega)
        have zF := gSg_free zF k14 (by intro k hk q; simp only [List.length_cons, List.length_nil] at hk; omega)
        have zN := gSg_free zN k14 (by intro k hk q; simp only [List.length_cons, List.length_nil] at hk; omega)
        have zA := gSg_free zA k14 (by intro k hk q; simp only [List.length_cons, List.length_nil] at hk; omega)
        have zP := gSg_free zP k14 (by intro k hk q; simp only [List.length_cons, List.length_nil] at hk; omega)
        have zG := gRows_free zG k14 (by intro k hk q; omega)
        obtain ⟨r9, he9, hr9⟩ := zG k (by omega)
        refine g_ls (j := j) hx hb hK hS he9 rfl (by omega) (Nat.le_of_ble_eq_true rfl) (by omega) dX11_item_50 (fun H16 locs c17 oq hS => ?_)
        have zG : gRows G (B + 114) (vp_updL g (60 * k + j) (gKept (μ 2 k) v)) H16 := gRows_set (t := k) zG (by omega) hr9 c17 oq
        have zO := gSg_off zO oq (by simp only [List.length_cons, List.length_nil]; omega)
        have h1 := gSg_off h1 oq (by simp only [List.length_cons, List.length_nil]; omega)
        have hk7 := gSg_off hk7 oq (by simp only [List.length_cons, List.length_nil]; omega)
        have h2 := gSg_off h2 oq (by simp only [List.length_cons, List.length_nil]; omega)
        have zT := gSg_off zT oq (by simp only [List.length_cons, List.length_nil]; omega)
        have zKT := gSg_off zKT oq (by simp only [List.length_cons, List.length_nil]; omega)
        have zE := gSg_off zE oq (by simp only [List.length_cons, List.length_nil]; omega)
        have zB := gSg_off zB oq (by simp only [List.length_cons, List.length_nil]; omega)
        have zF := gSg_off zF oq (by simp only [List.length_cons, List.length_nil]; omega)
        have zN := gSg_off zN oq (by simp only [List.length_cons, List.length_nil]; omega)
        have zA := gSg_off zA oq (by simp only [List.length_cons, List.length_nil]; omega)
        have zP := gSg_off zP oq (by simp only [List.length_cons, List.length_nil]; omega)
        refine lv_iconst (v := 1) hx hb dX11_item_51 (by decide) ?_
        rw [← hQ]
        exact g_iret hx hb hr hlk hS dX11_item_52 (by rw [show gqItem μ g (nI k) (nI j) v = (1, vp_updL g (60 * k + j) (gKept (μ 2 k) v)) from by simp only [gqItem, if_pos c5, if_pos c6, if_pos c11, nI_clamp (show k < 2 ^ 31 by omega), nI_clamp (show j < 2 ^ 31 by omega)]]; exact ⟨rfl, _, hrr, zO, h1, hk7, ⟨_, h2⟩, ⟨_, _, _, zT⟩, zKT, ⟨_, hrk, zE⟩, zB, zF, ⟨_, zN⟩, zA, zP, zG⟩)
      · have c11 : ¬ (0 ≤ i ∧ i < μ 3 k) := gB_0.mp c11
        refine lv_bipush (v := (-13)) hx hb dX11_item_30 (by decide) ?_
        rw [← hQ]
        exact g_iret hx hb hr hlk hS dX11_item_32 (by rw [show gqItem μ g (nI k) i v = ((-13), g) from by simp only [gqItem, if_pos c5, if_pos c6, if_neg c11, nI_clamp (show k < 2 ^ 31 by omega)]]; exact ⟨rfl, _, hrr, zO, h1, hk7, ⟨_, h2⟩, ⟨_, _, _, zT⟩, zKT, ⟨_, hrk, zE⟩, zB, zF, ⟨_, zN⟩, zA, zP, zG⟩)
    · refine lv_bipush (v := (-11)) hx hb dX11_item_18 (by decide) ?_
      rw [← hQ]
      exact g_iret hx hb hr hlk hS dX11_item_20 (by rw [show gqItem μ g (nI k) i v = ((-11), g) from by simp only [gqItem, if_pos c5, if_neg c6, nI_clamp (show k < 2 ^ 31 by omega)]]; exact ⟨rfl, _, hrr, zO, h1, hk7, ⟨_, h2⟩, ⟨_, _, _, zT⟩, zKT, ⟨_, hrk, zE⟩, zB, zF, ⟨_, zN⟩, zA, zP, zG⟩)
  · have c5 : ¬ (0 ≤ t ∧ t ≤ 5) := gB_0.mp c5
    refine lv_iconst (v := (-1)) hx hb dX11_item_7 (by decide) ?_
    rw [← hQ]
    exact g_iret hx hb hr hlk hS dX11_item_8 (by rw [show gqItem μ g t i v = ((-1), g) from by simp only [gqItem, if_neg c5]]; exact ⟨rfl, _, hrr, zO, h1, hk7, ⟨_, h2⟩, ⟨_, _, _, zT⟩, zKT, ⟨_, hrk, zE⟩, zB, zF, ⟨_, zN⟩, zA, zP, zG⟩)

set_option maxHeartbeats 4000000 in
set_option maxRecDepth 100000 in
theorem c_X11_read (l : Launch) (G : gW) (B lp : Nat) (π πk f μ α : gPS) (lk : Nat) (g : Nat → Int64) (acc : List (Nat × Nat × List Nat)) (hcl : gClo f acc) (hI : gInv π) (hlp : lp = B + 23 ∨ lp = B + 58 ∨ lp = B + 93 ∨ (B + 120 ≤ lp ∧ lp + 6 ≤ B + 156)) (hTs : gTpe μ) (t i : Int32) : gCL l yX11_read cX11_read 3 (gRm 1 40) G [.ref B, .int t, .int i] (fun H => gCW G B lp π lk πk f μ α g H) (fun r H => r = gqRead μ g t i ∧ gCW G B lp π lk πk f μ α g H) (fun q => (lp ≤ q ∧ q < lp + 6) ∨ (B ≤ q ∧ q < B + 23) ∨ (B + 36 ≤ q ∧ q < B + 58) ∨ (B + 71 ≤ q ∧ q < B + 93) ∨ (B + 106 ≤ q ∧ q < B + 120)) := by
  refine g_start (by decide) (Nat.le_of_ble_eq_true rfl) ?_
  intro pp_ ee_ s mm_ aa_ below meth cc_ ls Q hQ hX hE hP hl
  obtain ⟨hx, hb, hr, hml, hown, hT, hlk, hnm⟩ := hX
  have hK := hE.2.1
  obtain ⟨ρ, hrr, zO, h1, hk7, ⟨s4, h2⟩, ⟨πt, lt, ρt, zT⟩, zKT, ⟨ρk, hrk, zE⟩, zB, zF, ⟨γ, zN⟩, zA, zP, zG⟩ := hP
  have hS : va_S (fun q => (lp ≤ q ∧ q < lp + 6) ∨ (B ≤ q ∧ q < B + 23) ∨ (B + 36 ≤ q ∧ q < B + 58) ∨ (B + 71 ≤ q ∧ q < B + 93) ∨ (B + 106 ≤ q ∧ q < B + 120)) s.heap s.heap [] := va_S.rf
  have hl : lv_has ls 3 [(0, .ref B), (1, .int t), (2, .int i)] := hl
  obtain ⟨⟨n, hn, hz, h0z⟩, hki, ⟨sn, hsn, hz3, hsp⟩, ⟨pn, hpn, hz4, hpo⟩, ⟨bn, hbn, hz5, hbo⟩, hfl9⟩ := id hI
  have hd1 : lp + 6 ≤ B + 1 ∨ lp = B + 1 + 22 ∨ B + 1 + 35 ≤ lp := by omega
  have hd36 : lp + 6 ≤ B + 36 ∨ lp = B + 36 + 22 ∨ B + 36 + 35 ≤ lp := by omega
  refine lv_iload_n hx hb dX11_read_0 rfl (lv_at hl 1 rfl) ?_
  refine g_ki (g_runS (rest := []) hx hb hml hown hE hT (c_X11_isTape l G t) gM_X11_isTape gm_X11_217 gt_X11_isTape trivial rfl hl.1 ⟨rfl, rfl⟩ ⟨Nat.le_of_ble_eq_true rfl, Nat.le_of_ble_eq_true rfl⟩ ⟨Nat.zero_le _, Nat.zero_le _⟩ rfl (Nat.le_of_ble_eq_true rfl) dX11_read_1) hS (fun _ h => h.elim) (fun r4 H1 locs q2 k3 hS => ?_)
  subst q2
  have zO := gSg_free zO k3 (by intro k hk q; simp only [List.length_cons, List.length_nil] at hk; omega)
  have h1 := gSg_free h1 k3 (by intro k hk q; simp only [List.length_cons, List.length_nil] at hk; omega)
  have hk7 := gSg_free hk7 k3 (by intro k hk q; simp only [List.length_cons, List.length_nil] at hk; omega)
  have h2 := gSg_free h2 k3 (by intro k hk q; simp only [List.length_cons, List.length_nil] at hk; omega)
  have zT := gSg_free zT k3 (by intro k hk q; simp only [List.length_cons, List.length_nil] at hk; omega)
  have zKT := gSg_free zKT k3 (by intro k hk q; simp only [List.length_cons, List.length_nil] at hk; omega)
  have zE := gSg_free zE k3 (by intro k hk q; simp only [List.length_cons, List.length_nil] at hk; omega)
  have zB := gSg_free zB k3 (by intro k hk q; simp only [List.length_cons, List.length_nil] at hk; omega)
  have zF := gSg_free zF k3 (by intro k hk q; simp only [List.length_cons, List.length_nil] at hk; omega)
  have zN := gSg_free zN k3 (by intro k hk q; simp only [List.length_cons, List.length_nil] at hk; omega)
  have zA := gSg_free zA k3 (by intro k hk q; simp only [List.length_cons, List.length_nil] at hk; omega)
  have zP := gSg_free zP k3 (by intro k hk q; simp only [List.length_cons, List.length_nil] at hk; omega)
  have zG := gRows_free zG k3 (by intro k hk q; omega)
  refine lv_if_eq (tgt := 27) hx hb dX11_read_4 (by decide) (fun c5 => ?_) (fun c5 => ?_)
  · have c5 : ¬ (0 ≤ t ∧ t ≤ 5) := gB_0.mp c5
    refine lv_ldc2 (v := -9223372036854775808) hx hb hown (hT _ gl_X11_191) dX11_read_27 ?_
    rw [← hQ]
    exact g_lret hx hb hr hlk hS dX11_read_30 ⟨by rw [gqRead, if_neg c5], _, hrr, zO, h1, hk7, ⟨_, h2⟩, ⟨_, _, _, zT⟩, zKT, ⟨_, hrk, zE⟩, zB, zF, ⟨_, zN⟩, zA, zP, zG⟩
  · have c5 : 0 ≤ t ∧ t ≤ 5 := gB_1.mp c5
    obtain ⟨k, hk, ek⟩ := gIw (M := 5) (n := 5) rfl (by decide) c5
    subst ek
    refine lv_aload_n hx hb dX11_read_7 rfl (lv_at hl 0 rfl) ?_
    refine lv_iload_n hx hb dX11_read_8 rfl (lv_at hl 1 rfl) ?_
    refine lv_iload_n hx hb dX11_read_9 rfl (lv_at hl 2 rfl) ?_
    refine g_ki (g_runV (T := TX11) (ci := 11) (N := 13) (rest := []) hx hb hml hown hE hT (c_X11_isPlace l G B μ k (by omega) i) gM_X11_isPlace gm_X11_220 gi_X11_isPlace gs_RX11_yX11_isPlace_yX11_isPlace rfl (zO 0 _ rfl) ⟨zO, zP⟩ rfl hl.1 ⟨rfl, rfl⟩ ⟨Nat.le_of_ble_eq_true rfl, Nat.le_of_ble_eq_true rfl⟩ ⟨Nat.zero_le _, Nat.zero_le _⟩ rfl (Nat.le_of_ble_eq_true rfl) dX11_read_10) hS (fun _ h => h.elim) (fun r9 H6 locs q7 k8 hS => ?_)
    subst q7
    have zO := gSg_free zO k8 (by intro k hk q; simp only [List.length_cons, List.length_nil] at hk; omega)
    have h1 := gSg_free h1 k8 (by intro k hk q; simp only [List.length_cons, List.length_nil] at hk; omega)
    have hk7 := gSg_free hk7 k8 (by intro k hk q; simp only [List.length_cons, List.length_nil] at hk; omega)
    have h2 := gSg_free h2 k8 (by intro k hk q; simp only [List.length_cons, List.length_nil] at hk; omega)
    have zT := gSg_free zT k8 (by intro k hk q; simp only [List.length_cons, List.length_nil] at hk; omega)
    have zKT := gSg_free zKT k8 (by intro k hk q; simp only [List.length_cons, List.length_nil] at hk; omega)
    have zE := gSg_free zE k8 (by intro k hk q; simp only [List.length_cons, List.length_nil] at hk; omega)
    have zB := gSg_free zB k8 (by intro k hk q; simp only [List.length_cons, List.length_nil] at hk; omega)
    have zF := gSg_free zF k8 (by intro k hk q; simp only [List.length_cons, List.length_nil] at hk; omega)
    have zN := gSg_free zN k8 (by intro k hk q; simp only [List.length_cons, List.length_nil] at hk; omega)
    have zA := gSg_free zA k8 (by intro k hk q; simp only [List.length_cons, List.length_nil] at hk; omega)
    have zP := gSg_free zP k8 (by intro k hk q; simp only [List.length_cons, List.length_nil] at hk; omega)
    have zG := gRows_free zG k8 (by intro k hk q; omega)
    refine lv_if_eq (tgt := 27) hx hb dX11_read_13 (by decide) (fun c10 => ?_) (fun c10 => ?_)
    · have c10 : ¬ (0 ≤ i ∧ i < μ 3 k) := gB_0.mp c10
      refine lv_ldc2 (v := -9223372036854775808) hx hb hown (hT _ gl_X11_191) dX11_read_27 ?_
      rw [← hQ]
      exact g_lret hx hb hr hlk hS dX11_read_30 ⟨by rw [gqRead, if_pos c5, nI_clamp (show k < 2 ^ 31 by omega), if_neg c10]; split <;> rfl, _, hrr, zO, h1, hk7, ⟨_, h2⟩, ⟨_, _, _, zT⟩, zKT, ⟨_, hrk, zE⟩, zB, zF, ⟨_, zN⟩, zA, zP, zG⟩
    · have c10 : 0 ≤ i ∧ i < μ 3 k := gB_1.mp c10
      obtain ⟨zz, lz, ez⟩ := gTpe_z hTs k (by omega)
      obtain ⟨j, hj, ej⟩ := gIx ez (by omega) c10
      subst ej
      refine lv_aload_n hx hb dX11_read_16 rfl (lv_at hl 0 rfl) ?_
      refine g_get (v := .ref (B + 111 + 2)) (T := TX11) (ci := 11) (N := 13) hx hb hown hK (gY_X11 hT) rfl (zO 0 _ rfl) 12 (by decide) (hT _ gf_X11_53) rfl dX11_read_17 ?_
      refine lv_iload_n hx hb dX11_read_20 rfl (lv_at hl 1 rfl) ?_
      refine g_aa6 (j := k) (v := .ref (B + 111 + 3 + k)) hx hb hK (zP 2 _ rfl) rfl (by omega) (Nat.le_of_ble_eq_true rfl) rfl dX11_read_21 ?_
      refine lv_iload_n hx hb dX11_read_22 rfl (lv_at hl 2 rfl) ?_
      obtain ⟨r9, he9, hr9⟩ := zG k (by omega)
      refine g_la (j := j) (v := g (60 * k + j)) hx hb hK he9 rfl (by omega) (Nat.le_of_ble_eq_true rfl) (hr9 _ (by omega)) dX11_read_23 ?_
      refine lv_goto (tgt := 30) hx hb dX11_read_24 (by decide) ?_
      have hns : ¬ μ 2 k < 0 := fun y => by have e0 := (gTpe_n hTs (by omega) y).2; have q := c10.2; rw [e0] at q; exact absurd q (nI_pos (by omega))
      rw [← hQ]
      exact g_lret hx hb hr hlk hS dX11_read_30 ⟨by rw [gqRead, if_pos c5, nI_clamp (show k < 2 ^ 31 by omega), if_neg hns, if_pos c10, nI_clamp (show j < 2 ^ 31 by omega)], _, hrr, zO, h1, hk7, ⟨_, h2⟩, ⟨_, _, _, zT⟩, zKT, ⟨_, hrk, zE⟩, zB, zF, ⟨_, zN⟩, zA, zP, zG⟩

set_option maxHeartbeats 4000000 in
set_option maxRecDepth 100000 in
theorem c_X11_tape (l : Launch) (G : gW) (B lp : Nat) (π πk f μ α : gPS) (lk : Nat) (g : Nat → Int64) (acc : List (Nat × Nat × List Nat)) (hcl : gClo f acc) (hI : gInv π) (hlp : lp = B + 23 ∨ lp = B + 58 ∨ lp = B + 93 ∨ (B + 120 ≤ lp ∧ lp + 6 ≤ B + 156)) (hTs : gTpe μ) (t so x : Int32) : gCI l yX11_tape cX11_tape 5 .int (gRm 1 40) G [.ref B, .int t, .int so, .int x] (fun H => gCW G B lp π lk πk f μ α g H) (fun r H => r = (gqTape μ g t so x).1 ∧ gCW G B lp π lk πk f ((gqTape μ g t so x).2.1) α ((gqTape μ g t so x).2.2) H) (fun q => (lp ≤ q ∧ q < lp + 6) ∨ (B ≤ q ∧ q < B + 23) ∨ (B + 36 ≤ q ∧ q < B + 58) ∨ (B + 71 ≤ q ∧ q < B + 93) ∨ (B + 106 ≤ q ∧ q < B + 120)) := by
  refine g_start (by decide) (Nat.le_of_ble_eq_true rfl) ?_
  intro pp_ ee_ s mm_ aa_ below meth cc_ ls Q hQ hX hE hP hl
  obtain ⟨hx, hb, hr, hml, hown, hT, hlk, hnm⟩ := hX
  have hK := hE.2.1
  obtain ⟨ρ, hrr, zO, h1, hk7, ⟨s4, h2⟩, ⟨πt, lt, ρt, zT⟩, zKT, ⟨ρk, hrk, zE⟩, zB, zF, ⟨γ, zN⟩, zA, zP, zG⟩ := hP
  have hS : va_S (fun q => (lp ≤ q ∧ q < lp + 6) ∨ (B ≤ q ∧ q < B + 23) ∨ (B + 36 ≤ q ∧ q < B + 58) ∨ (B + 71 ≤ q ∧ q < B + 93) ∨ (B + 106 ≤ q ∧ q < B + 120)) s.heap s.heap [] := va_S.rf
  have hl : lv_has ls 5 [(0, .ref B), (1, .int t), (2, .int so), (3, .int x)] := hl
  obtain ⟨⟨n, hn, hz, h0z⟩, hki, ⟨sn, hsn, hz3, hsp⟩, ⟨pn, hpn, hz4, hpo⟩, ⟨bn, hbn, hz5, hbo⟩, hfl9⟩ := id hI
  have hd1 : lp + 6 ≤ B + 1 ∨ lp = B + 1 + 22 ∨ B + 1 + 35 ≤ lp := by omega
  have hd36 : lp + 6 ≤ B + 36 ∨ lp = B + 36 + 22 ∨ B + 36 + 35 ≤ lp := by omega
  refine lv_iload_n hx hb dX11_tape_0 rfl (lv_at hl 1 rfl) ?_
  refine g_ki (g_runS (rest := []) hx hb hml hown hE hT (c_X11_isTape l G t) gM_X11_isTape gm_X11_217 gt_X11_isTape trivial rfl hl.1 ⟨rfl, rfl⟩ ⟨Nat.le_of_ble_eq_true rfl, Nat.le_of_ble_eq_true rfl⟩ ⟨Nat.zero_le _, Nat.zero_le _⟩ rfl (Nat.le_of_ble_eq_true rfl) dX11_tape_1) hS (fun _ h => h.elim) (fun r4 H1 locs q2 k3 hS => ?_)
  subst q2
  have zO := gSg_free zO k3 (by intro k hk q; simp only [List.length_cons, List.length_nil] at hk; omega)
  have h1 := gSg_free h1 k3 (by intro k hk q; simp only [List.length_cons, List.length_nil] at hk; omega)
  have hk7 := gSg_free hk7 k3 (by intro k hk q; simp only [List.length_cons, List.length_nil] at hk; omega)
  have h2 := gSg_free h2 k3 (by intro k hk q; simp only [List.length_cons, List.length_nil] at hk; omega)
  have zT := gSg_free zT k3 (by intro k hk q; simp only [List.length_cons, List.length_nil] at hk; omega)
  have zKT := gSg_free zKT k3 (by intro k hk q; simp only [List.length_cons, List.length_nil] at hk; omega)
  have zE := gSg_free zE k3 (by intro k hk q; simp only [List.length_cons, List.length_nil] at hk; omega)
  have zB := gSg_free zB k3 (by intro k hk q; simp only [List.length_cons, List.length_nil] at hk; omega)
  have zF := gSg_free zF k3 (by intro k hk q; simp only [List.length_cons, List.length_nil] at hk; omega)
  have zN := gSg_free zN k3 (by intro k hk q; simp only [List.length_cons, List.length_nil] at hk; omega)
  have zA := gSg_free zA k3 (by intro k hk q; simp only [List.length_cons, List.length_nil] at hk; omega)
  have zP := gSg_free zP k3 (by intro k hk q; simp only [List.length_cons, List.length_nil] at hk; omega)
  have zG := gRows_free zG k3 (by intro k hk q; omega)
  refine lv_if_ne (tgt := 9) hx hb dX11_tape_4 (by decide) (fun c5 => ?_) (fun c5 => ?_)
  · have c5 : 0 ≤ t ∧ t ≤ 5 := gB_1.mp c5
    obtain ⟨k, hk, ek⟩ := gIw (M := 5) (n := 5) rfl (by decide) c5
    subst ek
    refine lv_iload_n hx hb dX11_tape_9 rfl (lv_at hl 2 rfl) ?_
    refine lv_iconst (v := (-1)) hx hb dX11_tape_10 (by decide) ?_
    refine lv_icmp_eq (tgt := 31) hx hb dX11_tape_11 (by decide) (fun c6 => ?_) (fun c6 => ?_)
    · refine lv_iload_n hx hb dX11_tape_31 rfl (lv_at hl 2 rfl) ?_
      refine lv_iconst (v := (-1)) hx hb dX11_tape_32 (by decide) ?_
      refine lv_icmp_eq (tgt := 43) hx hb dX11_tape_33 (by decide) (fun c7 => ?_) (fun c7 => ?_)
      · refine lv_aload_n hx hb dX11_tape_43 rfl (lv_at hl 0 rfl) ?_
        refine g_get (v := .ref (B + 111)) (T := TX11) (ci := 11) (N := 13) hx hb hown hK (gY_X11 hT) rfl (zO 0 _ rfl) 10 (by decide) (hT _ gf_X11_45) rfl dX11_tape_44 ?_
        refine lv_iload_n hx hb dX11_tape_47 rfl (lv_at hl 1 rfl) ?_
        refine lv_iload_n hx hb dX11_tape_48 rfl (lv_at hl 2 rfl) ?_
        refine g_is (j := k) hx hb hK hS (zP 0 _ rfl) rfl (by omega) (Nat.le_of_ble_eq_true rfl) (by omega) dX11_tape_49 (fun H8 locs c9 oq hS => ?_)
        have zP : gSg G (B + 111) (gLT G (B + 111) (gU μ 2 k so)) H8 := gSg_set zP 0 c9 oq
        have zO := gSg_off zO oq (by simp only [List.length_cons, List.length_nil]; omega)
        have h1 := gSg_off h1 oq (by simp only [List.length_cons, List.length_nil]; omega)
        have hk7 := gSg_off hk7 oq (by simp only [List.length_cons, List.length_nil]; omega)
        have h2 := gSg_off h2 oq (by simp only [List.length_cons, List.length_nil]; omega)
        have zT := gSg_off zT oq (by simp only [List.length_cons, List.length_nil]; omega)
        have zKT := gSg_off zKT oq (by simp only [List.length_cons, List.length_nil]; omega)
        have zE := gSg_off zE oq (by simp only [List.length_cons, List.length_nil]; omega)
        have zB := gSg_off zB oq (by simp only [List.length_cons, List.length_nil]; omega)
        have zF := gSg_off zF oq (by simp only [List.length_cons, List.length_nil]; omega)
        have zN := gSg_off zN oq (by simp only [List.length_cons, List.length_nil]; omega)
        have zA := gSg_off zA oq (by simp only [List.length_cons, List.length_nil]; omega)
        have zG := gRows_off zG oq (by omega)
        refine lv_aload_n hx hb dX11_tape_50 rfl (lv_at hl 0 rfl) ?_
        refine g_get (v := .ref (B + 111 + 1)) (T := TX11) (ci := 11) (N := 13) hx hb hown hK (gY_X11 hT) rfl (zO 0 _ rfl) 11 (by decide) (hT _ gf_X11_48) rfl dX11_tape_51 ?_
        refine lv_iload_n hx hb dX11_tape_54 rfl (lv_at hl 1 rfl) ?_
        refine lv_iload_n hx hb dX11_tape_55 rfl (lv_at hl 2 rfl) ?_
        refine lv_iconst (v := (-1)) hx hb dX11_tape_56 (by decide) ?_
        refine lv_icmp_ne (tgt := 64) hx hb dX11_tape_57 (by decide) (fun c10 => ?_) (fun c10 => ?_)
        · exact absurd c6 c10
        · refine lv_iconst (v := 0) hx hb dX11_tape_60 (by decide) ?_
          refine lv_goto (tgt := 65) hx hb dX11_tape_61 (by decide) ?_
          refine g_is (j := k) hx hb hK hS (zP 1 _ rfl) rfl (by omega) (Nat.le_of_ble_eq_true rfl) (by omega) dX11_tape_65 (fun H11 locs c12 oq hS => ?_)
          have zP : gSg G (B + 111) (gLT G (B + 111) (gU (gU μ 2 k so) 3 k 0)) H11 := gSg_set zP 1 c12 oq
          have zO := gSg_off zO oq (by simp only [List.length_cons, List.length_nil]; omega)
          have h1 := gSg_off h1 oq (by simp only [List.length_cons, List.length_nil]; omega)
          have hk7 := gSg_off hk7 oq (by simp only [List.length_cons, List.length_nil]; omega)
          have h2 := gSg_off h2 oq (by simp only [List.length_cons, List.length_nil]; omega)
          have zT := gSg_off zT oq (by simp only [List.length_cons, List.length_nil]; omega)
          have zKT := gSg_off zKT oq (by simp only [List.length_cons, List.length_nil]; omega)
          have zE := gSg_off zE oq (by simp only [List.length_cons, List.length_nil]; omega)
          have zB := gSg_off zB oq (by simp only [List.length_cons, List.length_nil]; omega)
          have zF := gSg_off zF oq (by simp only [List.length_cons, List.length_nil]; omega)
          have zN := gSg_off zN oq (by simp only [List.length_cons, List.length_nil]; omega)
          have zA := gSg_off zA oq (by simp only [List.length_cons, List.length_nil]; omega)
          have zG := gRows_off zG oq (by omega)
          refine lv_iconst (v := 0) hx hb dX11_tape_66 (by decide) ?_
          refine lv_istore (lv' := [(4, .int 0), (0, .ref B), (1, .int (nI k)), (2, .int so), (3, .int x)]) hx hb dX11_tape_67 hl (by decide) rfl (fun ls hl => ?_)
          have zG : gRows G (B + 114) (gZer g k 0) H11 := by rw [gZer_0]; exact zG
          have loop : ∀ (d i : Nat), i + d = 60 → ∀ (s4 : Nat → Int32), ∀ (H : Heap) (locs : List Loc), gSg G B (gLO G B μ) H → gSg G (B + 1) (gLS G (B + 1) π lp ρ) H → gSg G (B + 1 + 28) (gKk G (B + 1 + 28) ) H → gSg G lp (gLL G lp (gR f 4 s4)) H → gSg G (B + 36) (gLS G (B + 36) πt lt ρt) H → gSg G (B + 36 + 28) (gKk G (B + 36 + 28) ) H → gSg G (B + 71) (gLS G (B + 71) πk lk ρk) H → gSg G (B + 106) (gLB2 G (B + 106) μ) H → gSg G (B + 107) (gLF G (B + 107) ) H → gSg G (B + 108) (gLN G (B + 108) γ) H → gSg G (B + 109) (gLA G (B + 109) α) H → gSg G (B + 111) (gLT G (B + 111) (gU (gU μ 2 k so) 3 k 0)) H → gRows G (B + 114) (gZer g k i) H → va_S (fun q => (lp ≤ q ∧ q < lp + 6) ∨ (B ≤ q ∧ q < B + 23) ∨ (B + 36 ≤ q ∧ q < B + 58) ∨ (B + 71 ≤ q ∧ q < B + 93) ∨ (B + 106 ≤ q ∧ q < B + 120)) s.heap H locs → ∀ ls, lv_has ls 5 [(0, .ref B), (1, .int (nI k)), (2, .int so), (3, .int x), (4, .int (nI i))] → W pp_ l ee_ (gRm 1 40) s mm_ aa_ below meth cc_ H locs 0 0 Q (F0 mm_ 69 ls []) := by
            intro d
            induction d with
            | zero =>
              intro i hk9 s4  H locs zO h1 hk7 h2 zT zKT zE zB zF zN zA zP zG hS ls hl
              have hk9 : i = 60 := by omega
              refine lv_iload hx hb dX11_tape_69 (lv_at hl 4 rfl) ?_
              refine lv_bipush (v := 60) hx hb dX11_tape_71 (by decide) ?_
              refine lv_icmp_ge (tgt := 92) hx hb dX11_tape_73 (by decide) (fun c13 => ?_) (fun c13 => ?_)
              · have c13 : 60 ≤ i := (gLe (a := 60) (b := i) rfl rfl (by omega) (by omega)).mp c13
                refine lv_iconst (v := 1) hx hb dX11_tape_92 (by decide) ?_
                rw [← hQ]
                exact g_iret hx hb hr hlk hS dX11_tape_93 (by rw [show gqTape μ g (nI k) so x = (1, gU (gU μ 2 k so) 3 k 0, gZer g k 60) from by rw [gqTape, if_pos c5, if_pos (show -1 ≤ so ∧ so ≤ 4 from by rw [c6]; decide), if_pos (show so < 0 from by rw [c6]; decide), nI_clamp (show k < 2 ^ 31 by omega)]]; exact ⟨rfl, by rw [hk9] at zG; exact ⟨_, hrr, zO, h1, hk7, ⟨_, h2⟩, ⟨_, _, _, zT⟩, zKT, ⟨_, hrk, zE⟩, zB, zF, ⟨_, zN⟩, zA, zP, zG⟩⟩)
              · have c13 : ¬ 60 ≤ i := fun z => c13 ((gLe (a := 60) (b := i) rfl rfl (by omega) (by omega)).mpr z)
                exact absurd c13 (by omega)
            | succ d ih =>
              intro i hk9 s4  H locs zO h1 hk7 h2 zT zKT zE zB zF zN zA zP zG hS ls hl
              refine lv_iload hx hb dX11_tape_69 (lv_at hl 4 rfl) ?_
              refine lv_bipush (v := 60) hx hb dX11_tape_71 (by decide) ?_
              refine lv_icmp_ge (tgt := 92) hx hb dX11_tape_73 (by decide) (fun c14 => ?_) (fun c14 => ?_)
              · have c14 : 60 ≤ i := (gLe (a := 60) (b := i) rfl rfl (by omega) (by omega)).mp c14
                exact absurd c14 (by omega)
              · have c14 : ¬ 60 ≤ i := fun z => c14 ((gLe (a := 60) (b := i) rfl rfl (by omega) (by omega)).mpr z)
                refine lv_aload_n hx hb dX11_tape_76 rfl (lv_at hl 0 rfl) ?_
                refine g_get (v := .ref (B + 111 + 2)) (T := TX11) (ci := 11) (N := 13) hx hb hown hK (gY_X11 hT) rfl (zO 0 _ rfl) 12 (by decide) (hT _ gf_X11_53) rfl dX11_tape_77 ?_
                refine lv_iload_n hx hb dX11_tape_80 rfl (lv_at hl 1 rfl) ?_
                refine g_aa6 (j := k) (v := .ref (B + 111 + 3 + k)) hx hb hK (zP 2 _ rfl) rfl (by omega) (Nat.le_of_ble_eq_true rfl) rfl dX11_tape_81 ?_
                refine lv_iload hx hb dX11_tape_82 (lv_at hl 4 rfl) ?_
                refine lv_lconst (v := 0) hx hb dX11_tape_84 (by decide) ?_
                obtain ⟨r9, he9, hr9⟩ := zG k (by omega)
                refine g_ls (j := i) hx hb hK hS he9 rfl (by omega) (Nat.le_of_ble_eq_true rfl) (by omega) dX11_tape_85 (fun H15 locs c16 oq hS => ?_)
                have zG : gRows G (B + 114) (vp_updL (gZer g k i) (60 * k + i) 0) H15 := gRows_set (t := k) zG (by omega) hr9 c16 oq
                have zO := gSg_off zO oq (by simp only [List.length_cons, List.length_nil]; omega)
                have h1 := gSg_off h1 oq (by simp only [List.length_cons, List.length_nil]; omega)
                have hk7 := gSg_off hk7 oq (by simp only [List.length_cons, List.length_nil]; omega)
                have h2 := gSg_off h2 oq (by simp only [List.length_cons, List.length_nil]; omega)
                have zT := gSg_off zT oq (by simp only [List.length_cons, List.length_nil]; omega)
                have zKT := gSg_off zKT oq (by simp only [List.length_cons, List.length_nil]; omega)
                have zE := gSg_off zE oq (by simp only [List.length_cons, List.length_nil]; omega)
                have zB := gSg_off zB oq (by simp only [List.length_cons, List.length_nil]; omega)
                have zF := gSg_off zF oq (by simp only [List.length_cons, List.length_nil]; omega)
                have zN := gSg_off zN oq (by simp only [List.length_cons, List.length_nil]; omega)
                have zA := gSg_off zA oq (by simp only [List.length_cons, List.length_nil]; omega)
                have zP := gSg_off zP oq (by simp only [List.length_cons, List.length_nil]; omega)
                refine lv_iinc (v := nI (i + 1)) (lv' := [(4, .int (nI (i + 1))), (0, .ref B), (1, .int (nI k)), (2, .int so), (3, .int x)]) hx hb dX11_tape_86 hl (k := 4) rfl (gAdd rfl (show Int32.ofInt 1 = nI 1 from rfl)) (by decide) rfl (fun ls hl => ?_)
                refine lv_goto (tgt := 69) hx hb dX11_tape_89 (by decide) ?_
                rw [gZer_s] at zG
                exact ih (i + 1) (by omega) s4  _ _ zO h1 hk7 h2 zT zKT zE zB zF zN zA zP zG hS _ (by have hl := lv_sub hl [1, 2, 3, 4, 0] rfl; exact hl)
          exact loop (60 - 0) 0 (by first | omega | simp) s4 _ _ zO h1 hk7 h2 zT zKT zE zB zF zN zA zP zG hS _ (lv_sub hl [1, 2, 3, 4, 0] rfl)
      · exact absurd c6 c7
    · refine lv_iload_n hx hb dX11_tape_14 rfl (lv_at hl 2 rfl) ?_
      refine lv_iconst (v := 4) hx hb dX11_tape_15 (by decide) ?_
      refine g_ki (g_runS (rest := []) hx hb hml hown hE hT (c_X11_isUpTo l G so 4) gM_X11_isUpTo gm_X11_57 gt_X11_isUpTo trivial rfl hl.1 ⟨rfl, rfl⟩ ⟨Nat.le_of_ble_eq_true rfl, Nat.le_of_ble_eq_true rfl⟩ ⟨Nat.zero_le _, Nat.zero_le _⟩ rfl (Nat.le_of_ble_eq_true rfl) dX11_tape_16) hS (fun _ h => h.elim) (fun r20 H17 locs q18 k19 hS => ?_)
      subst q18
      have zO := gSg_free zO k19 (by intro k hk q; simp only [List.length_cons, List.length_nil] at hk; omega)
      have h1 := gSg_free h1 k19 (by intro k hk q; simp only [List.length_cons, List.length_nil] at hk; omega)
      have hk7 := gSg_free hk7 k19 (by intro k hk q; simp only [List.length_cons, List.length_nil] at hk; omega)
      have h2 := gSg_free h2 k19 (by intro k hk q; simp only [List.length_cons, List.length_nil] at hk; omega)
      have zT := gSg_free zT k19 (by intro k hk q; simp only [List.length_cons, List.length_nil] at hk; omega)
      have zKT := gSg_free zKT k19 (by intro k hk q; simp only [List.length_cons, List.length_nil] at hk; omega)
      have zE := gSg_free zE k19 (by intro k hk q; simp only [List.length_cons, List.length_nil] at hk; omega)
      have zB := gSg_free zB k19 (by intro k hk q; simp only [List.length_cons, List.length_nil] at hk; omega)
      have zF := gSg_free zF k19 (by intro k hk q; simp only [List.length_cons, List.length_nil] at hk; omega)
      have zN := gSg_free zN k19 (by intro k hk q; simp only [List.length_cons, List.length_nil] at hk; omega)
      have zA := gSg_free zA k19 (by intro k hk q; simp only [List.length_cons, List.length_nil] at hk; omega)
      have zP := gSg_free zP k19 (by intro k hk q; simp only [List.length_cons, List.length_nil] at hk; omega)
      have zG := gRows_free zG k19 (by intro k hk q; omega)
      refine lv_if_eq (tgt := 28) hx hb dX11_tape_19 (by decide) (fun c21 => ?_) (fun c21 => ?_)
      · have c21 : ¬ (0 ≤ so ∧ so ≤ 4) := gB_0.mp c21
        refine lv_bipush (v := (-2)) hx hb dX11_tape_28 (by decide) ?_
        rw [← hQ]
        exact g_iret hx hb hr hlk hS dX11_tape_30 (by rw [show gqTape μ g (nI k) so x = ((-2), μ, g) from by rw [gqTape, if_pos c5, if_neg (fun y => absurd y (gSoN c6 c21))]]; exact ⟨rfl, _, hrr, zO, h1, hk7, ⟨_, h2⟩, ⟨_, _, _, zT⟩, zKT, ⟨_, hrk, zE⟩, zB, zF, ⟨_, zN⟩, zA, zP, zG⟩)
      · have c21 : 0 ≤ so ∧ so ≤ 4 := gB_1.mp c21
        refine lv_iload_n hx hb dX11_tape_22 rfl (lv_at hl 3 rfl) ?_
        refine lv_bipush (v := 60) hx hb dX11_tape_23 (by decide) ?_
        refine lv_icmp_le (tgt := 31) hx hb dX11_tape_25 (by decide) (fun c22 => ?_) (fun c22 => ?_)
        · refine lv_iload_n hx hb dX11_tape_31 rfl (lv_at hl 2 rfl) ?_
          refine lv_iconst (v := (-1)) hx hb dX11_tape_32 (by decide) ?_
          refine lv_icmp_eq (tgt := 43) hx hb dX11_tape_33 (by decide) (fun c23 => ?_) (fun c23 => ?_)
          · exact absurd c23 c6
          · refine lv_iload_n hx hb dX11_tape_36 rfl (lv_at hl 3 rfl) ?_
            refine lv_if_ge (tgt := 43) hx hb dX11_tape_37 (by decide) (fun c24 => ?_) (fun c24 => ?_)
            · refine lv_aload_n hx hb dX11_tape_43 rfl (lv_at hl 0 rfl) ?_
              refine g_get (v := .ref (B + 111)) (T := TX11) (ci := 11) (N := 13) hx hb hown hK (gY_X11 hT) rfl (zO 0 _ rfl) 10 (by decide) (hT _ gf_X11_45) rfl dX11_tape_44 ?_
              refine lv_iload_n hx hb dX11_tape_47 rfl (lv_at hl 1 rfl) ?_
              refine lv_iload_n hx hb dX11_tape_48 rfl (lv_at hl 2 rfl) ?_
              refine g_is (j := k) hx hb hK hS (zP 0 _ rfl) rfl (by omega) (Nat.le_of_ble_eq_true rfl) (by omega) dX11_tape_49 (fun H25 locs c26 oq hS => ?_)
              have zP : gSg G (B + 111) (gLT G (B + 111) (gU μ 2 k so)) H25 := gSg_set zP 0 c26 oq
              have zO := gSg_off zO oq (by simp only [List.length_cons, List.length_nil]; omega)
              have h1 := gSg_off h1 oq (by simp only [List.length_cons, List.length_nil]; omega)
              have hk7 := gSg_off hk7 oq (by simp only [List.length_cons, List.length_nil]; omega)
              have h2 := gSg_off h2 oq (by simp only [List.length_cons, List.length_nil]; omega)
              have zT := gSg_off zT oq (by simp only [List.length_cons, List.length_nil]; omega)
              have zKT := gSg_off zKT oq (by simp only [List.length_cons, List.length_nil]; omega)
              have zE := gSg_off zE oq (by simp only [List.length_cons, List.length_nil]; omega)
              have zB := gSg_off zB oq (by simp only [List.length_cons, List.length_nil]; omega)
              have zF := gSg_off zF oq (by simp only [List.length_cons, List.length_nil]; omega)
              have zN := gSg_off zN oq (by simp only [List.length_cons, List.length_nil]; omega)
              have zA := gSg_off zA oq (by simp only [List.length_cons, List.length_nil]; omega)
              have zG := gRows_off zG oq (by omega)
              refine lv_aload_n hx hb dX11_tape_50 rfl (lv_at hl 0 rfl) ?_
              refine g_get (v := .ref (B + 111 + 1)) (T := TX11) (ci := 11) (N := 13) hx hb hown hK (gY_X11 hT) rfl (zO 0 _ rfl) 11 (by decide) (hT _ gf_X11_48) rfl dX11_tape_51 ?_
              refine lv_iload_n hx hb dX11_tape_54 rfl (lv_at hl 1 rfl) ?_
              refine lv_iload_n hx hb dX11_tape_55 rfl (lv_at hl 2 rfl) ?_
              refine lv_iconst (v := (-1)) hx hb dX11_tape_56 (by decide) ?_
              refine lv_icmp_ne (tgt := 64) hx hb dX11_tape_57 (by decide) (fun c27 => ?_) (fun c27 => ?_)
              · refine lv_iload_n hx hb dX11_tape_64 rfl (lv_at hl 3 rfl) ?_
                refine g_is (j := k) hx hb hK hS (zP 1 _ rfl) rfl (by omega) (Nat.le_of_ble_eq_true rfl) (by omega) dX11_tape_65 (fun H28 locs c29 oq hS => ?_)
                have zP : gSg G (B + 111) (gLT G (B + 111) (gU (gU μ 2 k so) 3 k x)) H28 := gSg_set zP 1 c29 oq
                have zO := gSg_off zO oq (by simp only [List.length_cons, List.length_nil]; omega)
                have h1 := gSg_off h1 oq (by simp only [List.length_cons, List.length_nil]; omega)
                have hk7 := gSg_off hk7 oq (by simp only [List.length_cons, List.length_nil]; omega)
                have h2 := gSg_off h2 oq (by simp only [List.length_cons, List.length_nil]; omega)
                have zT := gSg_off zT oq (by simp only [List.length_cons, List.length_nil]; omega)
                have zKT := gSg_off zKT oq (by simp only [List.length_cons, List.length_nil]; omega)
                have zE := gSg_off zE oq (by simp only [List.length_cons, List.length_nil]; omega)
                have zB := gSg_off zB oq (by simp only [List.length_cons, List.length_nil]; omega)
                have zF := gSg_off zF oq (by simp only [List.length_cons, List.length_nil]; omega)
                have zN := gSg_off zN oq (by simp only [List.length_cons, List.length_nil]; omega)
                have zA := gSg_off zA oq (by simp only [List.length_cons, List.length_nil]; omega)
                have zG := gRows_off zG oq (by omega)
                refine lv_iconst (v := 0) hx hb dX11_tape_66 (by decide) ?_
                refine lv_istore (lv' := [(4, .int 0), (0, .ref B), (1, .int (nI k)), (2, .int so), (3, .int x)]) hx hb dX11_tape_67 hl (by decide) rfl (fun ls hl => ?_)
                have zG : gRows G (B + 114) (gZer g k 0) H28 := by rw [gZer_0]; exact zG
                have loop : ∀ (d i : Nat), i + d = 60 → ∀ (s4 : Nat → Int32), ∀ (H : Heap) (locs : List Loc), gSg G B (gLO G B μ) H → gSg G (B + 1) (gLS G (B + 1) π lp ρ) H → gSg G (B + 1 + 28) (gKk G (B + 1 + 28) ) H → gSg G lp (gLL G lp (gR f 4 s4)) H → gSg G (B + 36) (gLS G (B + 36) πt lt ρt) H → gSg G (B + 36 + 28) (gKk G (B + 36 + 28) ) H → gSg G (B + 71) (gLS G (B + 71) πk lk ρk) H → gSg G (B + 106) (gLB2 G (B + 106) μ) H → gSg G (B + 107) (gLF G (B + 107) ) H → gSg G (B + 108) (gLN G (B + 108) γ) H → gSg G (B + 109) (gLA G (B + 109) α) H → gSg G (B + 111) (gLT G (B + 111) (gU (gU μ 2 k so) 3 k x)) H → gRows G (B + 114) (gZer g k i) H → va_S (fun q => (lp ≤ q ∧ q < lp + 6) ∨ (B ≤ q ∧ q < B + 23) ∨ (B + 36 ≤ q ∧ q < B + 58) ∨ (B + 71 ≤ q ∧ q < B + 93) ∨ (B + 106 ≤ q ∧ q < B + 120)) s.heap H locs → ∀ ls, lv_has ls 5 [(0, .ref B), (1, .int (nI k)), (2, .int so), (3, .int x), (4, .int (nI i))] → W pp_ l ee_ (gRm 1 40) s mm_ aa_ below meth cc_ H locs 0 0 Q (F0 mm_ 69 ls []) := by
                  intro d
                  induction d with
                  | zero =>
                    intro i hk9 s4  H locs zO h1 hk7 h2 zT zKT zE zB zF zN zA zP zG hS ls hl
                    have hk9 : i = 60 := by omega
                    refine lv_iload hx hb dX11_tape_69 (lv_at hl 4 rfl) ?_
                    refine lv_bipush (v := 60) hx hb dX11_tape_71 (by decide) ?_
                    refine lv_icmp_ge (tgt := 92) hx hb dX11_tape_73 (by decide) (fun c30 => ?_) (fun c30 => ?_)
                    · have c30 : 60 ≤ i := (gLe (a := 60) (b := i) rfl rfl (by omega) (by omega)).mp c30
                      refine lv_iconst (v := 1) hx hb dX11_tape_92 (by decide) ?_
                      rw [← hQ]
                      exact g_iret hx hb hr hlk hS dX11_tape_93 (by rw [show gqTape μ g (nI k) so x = (1, gU (gU μ 2 k so) 3 k x, gZer g k 60) from by rw [gqTape, if_pos c5, if_pos ⟨Int32.le_trans (by decide) c21.1, c21.2⟩, if_neg (Int32.not_lt.mpr c21.1), if_pos c22, if_pos c24, nI_clamp (show k < 2 ^ 31 by omega)]]; exact ⟨rfl, by rw [hk9] at zG; exact ⟨_, hrr, zO, h1, hk7, ⟨_, h2⟩, ⟨_, _, _, zT⟩, zKT, ⟨_, hrk, zE⟩, zB, zF, ⟨_, zN⟩, zA, zP, zG⟩⟩)
                    · have c30 : ¬ 60 ≤ i := fun z => c30 ((gLe (a := 60) (b := i) rfl rfl (by omega) (by omega)).mpr z)
                      exact absurd c30 (by omega)
                  | succ d ih =>
                    intro i hk9 s4  H locs zO h1 hk7 h2 zT zKT zE zB zF zN zA zP zG hS ls hl
                    refine lv_iload hx hb dX11_tape_69 (lv_at hl 4 rfl) ?_
                    refine lv_bipush (v := 60) hx hb dX11_tape_71 (by decide) ?_
                    refine lv_icmp_ge (tgt := 92) hx hb dX11_tape_73 (by decide) (fun c31 => ?_) (fun c31 => ?_)
                    · have c31 : 60 ≤ i := (gLe (a := 60) (b := i) rfl rfl (by omega) (by omega)).mp c31
                      exact absurd c31 (by omega)
                    · have c31 : ¬ 60 ≤ i := fun z => c31 ((gLe (a := 60) (b := i) rfl rfl (by omega) (by omega)).mpr z)
                      refine lv_aload_n hx hb dX11_tape_76 rfl (lv_at hl 0 rfl) ?_
                      refine g_get (v := .ref (B + 111 + 2)) (T := TX11) (ci := 11) (N := 13) hx hb hown hK (gY_X11 hT) rfl (zO 0 _ rfl) 12 (by decide) (hT _ gf_X11_53) rfl dX11_tape_77 ?_
                      refine lv_iload_n hx hb dX11_tape_80 rfl (lv_at hl 1 rfl) ?_
                      refine g_aa6 (j := k) (v := .ref (B + 111 + 3 + k)) hx hb hK (zP 2 _ rfl) rfl (by omega) (Nat.le_of_ble_eq_true rfl) rfl dX11_tape_81 ?_
                      refine lv_iload hx hb dX11_tape_82 (lv_at hl 4 rfl) ?_
                      refine lv_lconst (v := 0) hx hb dX11_tape_84 (by decide) ?_
                      obtain ⟨r9, he9, hr9⟩ := zG k (by omega)
                      refine g_ls (j := i) hx hb hK hS he9 rfl (by omega) (Nat.le_of_ble_eq_true rfl) (by omega) dX11_tape_85 (fun H32 locs c33 oq hS => ?_)
                      have zG : gRows G (B + 114) (vp_updL (gZer g k i) (60 * k + i) 0) H32 := gRows_set (t := k) zG (by omega) hr9 c33 oq
                      have zO := gSg_off zO oq (by simp only [List.length_cons, List.length_nil]; omega)
                      have h1 := gSg_off h1 oq (by simp only [List.length_cons, List.length_nil]; omega)
                      have hk7 := gSg_off hk7 oq (by simp only [List.length_cons, List.length_nil]; omega)
                      have h2 := gSg_off h2 oq (by simp only [List.length_cons, List.length_nil]; omega)
                      have zT := gSg_off zT oq (by simp only [List.length_cons, List.length_nil]; omega)
                      have zKT := gSg_off zKT oq (by simp only [List.length_cons, List.length_nil]; omega)
                      have zE := gSg_off zE oq (by simp only [List.length_cons, List.length_nil]; omega)
                      have zB := gSg_off zB oq (by simp only [List.length_cons, List.length_nil]; omega)
                      have zF := gSg_off zF oq (by simp only [List.length_cons, List.length_nil]; omega)
                      have zN := gSg_off zN oq (by simp only [List.length_cons, List.length_nil]; omega)
                      have zA := gSg_off zA oq (by simp only [List.length_cons, List.length_nil]; omega)
                      have zP := gSg_off zP oq (by simp only [List.length_cons, List.length_nil]; omega)
                      refine lv_iinc (v := nI (i + 1)) (lv' := [(4, .int (nI (i + 1))), (0, .ref B), (1, .int (nI k)), (2, .int so), (3, .int x)]) hx hb dX11_tape_86 hl (k := 4) rfl (gAdd rfl (show Int32.ofInt 1 = nI 1 from rfl)) (by decide) rfl (fun ls hl => ?_)
                      refine lv_goto (tgt := 69) hx hb dX11_tape_89 (by decide) ?_
                      rw [gZer_s] at zG
                      exact ih (i + 1) (by omega) s4  _ _ zO h1 hk7 h2 zT zKT zE zB zF zN zA zP zG hS _ (by have hl := lv_sub hl [1, 2, 3, 4, 0] rfl; exact hl)
                exact loop (60 - 0) 0 (by first | omega | simp) s4 _ _ zO h1 hk7 h2 zT zKT zE zB zF zN zA zP zG hS _ (lv_sub hl [1, 2, 3, 4, 0] rfl)
              · exact absurd c27 c6
            · refine lv_bipush (v := (-14)) hx hb dX11_tape_40 (by decide) ?_
              rw [← hQ]
              exact g_iret hx hb hr hlk hS dX11_tape_42 (by rw [show gqTape μ g (nI k) so x = ((-14), μ, g) from by rw [gqTape, if_pos c5, if_pos ⟨Int32.le_trans (by decide) c21.1, c21.2⟩, if_neg (Int32.not_lt.mpr c21.1), if_pos c22, if_neg c24]]; exact ⟨rfl, _, hrr, zO, h1, hk7, ⟨_, h2⟩, ⟨_, _, _, zT⟩, zKT, ⟨_, hrk, zE⟩, zB, zF, ⟨_, zN⟩, zA, zP, zG⟩)
        · refine lv_bipush (v := (-2)) hx hb dX11_tape_28 (by decide) ?_
          rw [← hQ]
          exact g_iret hx hb hr hlk hS dX11_tape_30 (by rw [show gqTape μ g (nI k) so x = ((-2), μ, g) from by rw [gqTape, if_pos c5, if_pos ⟨Int32.le_trans (by decide) c21.1, c21.2⟩, if_neg (Int32.not_lt.mpr c21.1), if_neg c22]]; exact ⟨rfl, _, hrr, zO, h1, hk7, ⟨_, h2⟩, ⟨_, _, _, zT⟩, zKT, ⟨_, hrk, zE⟩, zB, zF, ⟨_, zN⟩, zA, zP, zG⟩)
  · have c5 : ¬ (0 ≤ t ∧ t ≤ 5) := gB_0.mp c5
    refine lv_iconst (v := (-1)) hx hb dX11_tape_7 (by decide) ?_
    rw [← hQ]
    exact g_iret hx hb hr hlk hS dX11_tape_8 (by rw [show gqTape μ g t so x = (-1, μ, g) from by rw [gqTape, if_neg c5]]; exact ⟨rfl, _, hrr, zO, h1, hk7, ⟨_, h2⟩, ⟨_, _, _, zT⟩, zKT, ⟨_, hrk, zE⟩, zB, zF, ⟨_, zN⟩, zA, zP, zG⟩)

set_option maxHeartbeats 4000000 in
set_option maxRecDepth 100000 in
theorem c_X11_judge (l : Launch) (G : gW) (B lp : Nat) (π πk f μ α : gPS) (lk : Nat) (g : Nat → Int64) (acc : List (Nat × Nat × List Nat)) (hcl : gClo f acc) (hI : gInv π) (hlp : lp = B + 23 ∨ lp = B + 58 ∨ lp = B + 93 ∨ (B + 120 ≤ lp ∧ lp + 6 ≤ B + 156)) (hTs : gTpe μ) (t i : Int32) : gCI l yX11_judge cX11_judge 4 .int (gRm 1 40) G [.ref B, .int t, .int i] (fun H => gCW G B lp π lk πk f μ α g H) (fun r H => r = gqJudge π μ g t i ∧ gCW G B lp π lk πk f μ α g H) (fun q => (lp ≤ q ∧ q < lp + 6) ∨ (B ≤ q ∧ q < B + 23) ∨ (B + 36 ≤ q ∧ q < B + 58) ∨ (B + 71 ≤ q ∧ q < B + 93) ∨ (B + 106 ≤ q ∧ q < B + 120)) := by
  refine g_start (by decide) (Nat.le_of_ble_eq_true rfl) ?_
  intro pp_ ee_ s mm_ aa_ below meth cc_ ls Q hQ hX hE hP hl
  obtain ⟨hx, hb, hr, hml, hown, hT, hlk, hnm⟩ := hX
  have hK := hE.2.1
  obtain ⟨ρ, hrr, zO, h1, hk7, ⟨s4, h2⟩, ⟨πt, lt, ρt, zT⟩, zKT, ⟨ρk, hrk, zE⟩, zB, zF, ⟨γ, zN⟩, zA, zP, zG⟩ := hP
  have hS : va_S (fun q => (lp ≤ q ∧ q < lp + 6) ∨ (B ≤ q ∧ q < B + 23) ∨ (B + 36 ≤ q ∧ q < B + 58) ∨ (B + 71 ≤ q ∧ q < B + 93) ∨ (B + 106 ≤ q ∧ q < B + 120)) s.heap s.heap [] := va_S.rf
  have hl : lv_has ls 4 [(0, .ref B), (1, .int t), (2, .int i)] := hl
  obtain ⟨⟨n, hn, hz, h0z⟩, hki, ⟨sn, hsn, hz3, hsp⟩, ⟨pn, hpn, hz4, hpo⟩, ⟨bn, hbn, hz5, hbo⟩, hfl9⟩ := id hI
  have hd1 : lp + 6 ≤ B + 1 ∨ lp = B + 1 + 22 ∨ B + 1 + 35 ≤ lp := by omega
  have hd36 : lp + 6 ≤ B + 36 ∨ lp = B + 36 + 22 ∨ B + 36 + 35 ≤ lp := by omega
  refine lv_iload_n hx hb dX11_judge_0 rfl (lv_at hl 1 rfl) ?_
  refine g_ki (g_runS (rest := []) hx hb hml hown hE hT (c_X11_isTape l G t) gM_X11_isTape gm_X11_217 gt_X11_isTape trivial rfl hl.1 ⟨rfl, rfl⟩ ⟨Nat.le_of_ble_eq_true rfl, Nat.le_of_ble_eq_true rfl⟩ ⟨Nat.zero_le _, Nat.zero_le _⟩ rfl (Nat.le_of_ble_eq_true rfl) dX11_judge_1) hS (fun _ h => h.elim) (fun r4 H1 locs q2 k3 hS => ?_)
  subst q2
  have zO := gSg_free zO k3 (by intro k hk q; simp only [List.length_cons, List.length_nil] at hk; omega)
  have h1 := gSg_free h1 k3 (by intro k hk q; simp only [List.length_cons, List.length_nil] at hk; omega)
  have hk7 := gSg_free hk7 k3 (by intro k hk q; simp only [List.length_cons, List.length_nil] at hk; omega)
  have h2 := gSg_free h2 k3 (by intro k hk q; simp only [List.length_cons, List.length_nil] at hk; omega)
  have zT := gSg_free zT k3 (by intro k hk q; simp only [List.length_cons, List.length_nil] at hk; omega)
  have zKT := gSg_free zKT k3 (by intro k hk q; simp only [List.length_cons, List.length_nil] at hk; omega)
  have zE := gSg_free zE k3 (by intro k hk q; simp only [List.length_cons, List.length_nil] at hk; omega)
  have zB := gSg_free zB k3 (by intro k hk q; simp only [List.length_cons, List.length_nil] at hk; omega)
  have zF := gSg_free zF k3 (by intro k hk q; simp only [List.length_cons, List.length_nil] at hk; omega)
  have zN := gSg_free zN k3 (by intro k hk q; simp only [List.length_cons, List.length_nil] at hk; omega)
  have zA := gSg_free zA k3 (by intro k hk q; simp only [List.length_cons, List.length_nil] at hk; omega)
  have zP := gSg_free zP k3 (by intro k hk q; simp only [List.length_cons, List.length_nil] at hk; omega)
  have zG := gRows_free zG k3 (by intro k hk q; omega)
  refine lv_if_ne (tgt := 9) hx hb dX11_judge_4 (by decide) (fun c5 => ?_) (fun c5 => ?_)
  · have c5 : 0 ≤ t ∧ t ≤ 5 := gB_1.mp c5
    obtain ⟨k, hk, ek⟩ := gIw (M := 5) (n := 5) rfl (by decide) c5
    subst ek
    refine lv_aload_n hx hb dX11_judge_9 rfl (lv_at hl 0 rfl) ?_
    refine g_get (v := .ref (B + 111)) (T := TX11) (ci := 11) (N := 13) hx hb hown hK (gY_X11 hT) rfl (zO 0 _ rfl) 10 (by decide) (hT _ gf_X11_45) rfl dX11_judge_10 ?_
    refine lv_iload_n hx hb dX11_judge_13 rfl (lv_at hl 1 rfl) ?_
    refine g_ia (j := k) (v := μ 2 k) hx hb hK (zP 0 _ rfl) rfl (by omega) (Nat.le_of_ble_eq_true rfl) rfl dX11_judge_14 ?_
    refine lv_if_ge (tgt := 21) hx hb dX11_judge_15 (by decide) (fun c6 => ?_) (fun c6 => ?_)
    · refine lv_aload_n hx hb dX11_judge_21 rfl (lv_at hl 0 rfl) ?_
      refine g_get (v := .ref (B + 111)) (T := TX11) (ci := 11) (N := 13) hx hb hown hK (gY_X11 hT) rfl (zO 0 _ rfl) 10 (by decide) (hT _ gf_X11_45) rfl dX11_judge_22 ?_
      refine lv_iload_n hx hb dX11_judge_25 rfl (lv_at hl 1 rfl) ?_
      refine g_ia (j := k) (v := μ 2 k) hx hb hK (zP 0 _ rfl) rfl (by omega) (Nat.le_of_ble_eq_true rfl) rfl dX11_judge_26 ?_
      refine lv_iconst (v := 2) hx hb dX11_judge_27 (by decide) ?_
      refine lv_icmp_eq (tgt := 34) hx hb dX11_judge_28 (by decide) (fun c7 => ?_) (fun c7 => ?_)
      · refine lv_aload_n hx hb dX11_judge_34 rfl (lv_at hl 0 rfl) ?_
        refine lv_iload_n hx hb dX11_judge_35 rfl (lv_at hl 1 rfl) ?_
        refine lv_iload_n hx hb dX11_judge_36 rfl (lv_at hl 2 rfl) ?_
        refine g_ki (g_runV (T := TX11) (ci := 11) (N := 13) (rest := []) hx hb hml hown hE hT (c_X11_isPlace l G B μ k (by omega) i) gM_X11_isPlace gm_X11_220 gi_X11_isPlace gs_RX11_yX11_isPlace_yX11_isPlace rfl (zO 0 _ rfl) ⟨zO, zP⟩ rfl hl.1 ⟨rfl, rfl⟩ ⟨Nat.le_of_ble_eq_true rfl, Nat.le_of_ble_eq_true rfl⟩ ⟨Nat.zero_le _, Nat.zero_le _⟩ rfl (Nat.le_of_ble_eq_true rfl) dX11_judge_37) hS (fun _ h => h.elim) (fun r11 H8 locs q9 k10 hS => ?_)
        subst q9
        have zO := gSg_free zO k10 (by intro k hk q; simp only [List.length_cons, List.length_nil] at hk; omega)
        have h1 := gSg_free h1 k10 (by intro k hk q; simp only [List.length_cons, List.length_nil] at hk; omega)
        have hk7 := gSg_free hk7 k10 (by intro k hk q; simp only [List.length_cons, List.length_nil] at hk; omega)
        have h2 := gSg_free h2 k10 (by intro k hk q; simp only [List.length_cons, List.length_nil] at hk; omega)
        have zT := gSg_free zT k10 (by intro k hk q; simp only [List.length_cons, List.length_nil] at hk; omega)
        have zKT := gSg_free zKT k10 (by intro k hk q; simp only [List.length_cons, List.length_nil] at hk; omega)
        have zE := gSg_free zE k10 (by intro k hk q; simp only [List.length_cons, List.length_nil] at hk; omega)
        have zB := gSg_free zB k10 (by intro k hk q; simp only [List.length_cons, List.length_nil] at hk; omega)
        have zF := gSg_free zF k10 (by intro k hk q; simp only [List.length_cons, List.length_nil] at hk; omega)
        have zN := gSg_free zN k10 (by intro k hk q; simp only [List.length_cons, List.length_nil] at hk; omega)
        have zA := gSg_free zA k10 (by intro k hk q; simp only [List.length_cons, List.length_nil] at hk; omega)
        have zP := gSg_free zP k10 (by intro k hk q; simp only [List.length_cons, List.length_nil] at hk; omega)
        have zG := gRows_free zG k10 (by intro k hk q; omega)
        refine lv_if_ne (tgt := 46) hx hb dX11_judge_40 (by decide) (fun c12 => ?_) (fun c12 => ?_)
        · have c12 : 0 ≤ i ∧ i < μ 3 k := gB_1.mp c12
          obtain ⟨zz, lz, ez⟩ := gTpe_z hTs k (by omega)
          obtain ⟨j, hj, ej⟩ := gIx ez (by omega) c12
          subst ej
          refine lv_iconst (v := 0) hx hb dX11_judge_46 (by decide) ?_
          refine lv_istore_n (lv' := [(3, .int 0), (0, .ref B), (1, .int (nI k)), (2, .int (nI j))]) hx hb dX11_judge_47 rfl hl (by decide) rfl (fun ls hl => ?_)
          have loop : ∀ (dd w : Nat), w + dd = 12 → ∀ (s4 : Nat → Int32), gJud μ g π k j 0 12 = gJud μ g π k j w dd → ∀ (H : Heap) (locs : List Loc), gSg G B (gLO G B μ) H → gSg G (B + 1) (gLS G (B + 1) π lp ρ) H → gSg G (B + 1 + 28) (gKk G (B + 1 + 28) ) H → gSg G lp (gLL G lp (gR f 4 s4)) H → gSg G (B + 36) (gLS G (B + 36) πt lt ρt) H → gSg G (B + 36 + 28) (gKk G (B + 36 + 28) ) H → gSg G (B + 71) (gLS G (B + 71) πk lk ρk) H → gSg G (B + 106) (gLB2 G (B + 106) μ) H → gSg G (B + 107) (gLF G (B + 107) ) H → gSg G (B + 108) (gLN G (B + 108) γ) H → gSg G (B + 109) (gLA G (B + 109) α) H → gSg G (B + 111) (gLT G (B + 111) μ) H → gRows G (B + 114) g H → va_S (fun q => (lp ≤ q ∧ q < lp + 6) ∨ (B ≤ q ∧ q < B + 23) ∨ (B + 36 ≤ q ∧ q < B + 58) ∨ (B + 71 ≤ q ∧ q < B + 93) ∨ (B + 106 ≤ q ∧ q < B + 120)) s.heap H locs → ∀ ls, lv_has ls 4 [(0, .ref B), (1, .int (nI k)), (2, .int (nI j)), (3, .int (nI w))] → W pp_ l ee_ (gRm 1 40) s mm_ aa_ below meth cc_ H locs 0 0 Q (F0 mm_ 48 ls []) := by
            intro dd
            induction dd with
            | zero =>
              intro w hkw s4 hi H locs zO h1 hk7 h2 zT zKT zE zB zF zN zA zP zG hS ls hl
              have hkw : w = 12 := by omega
              refine lv_iload_n hx hb dX11_judge_48 rfl (lv_at hl 3 rfl) ?_
              refine lv_bipush (v := 12) hx hb dX11_judge_49 (by decide) ?_
              refine lv_icmp_ge (tgt := 103) hx hb dX11_judge_51 (by decide) (fun c13 => ?_) (fun c13 => ?_)
              · have c13 : 12 ≤ w := (gLe (a := 12) (b := w) rfl rfl (by omega) (by omega)).mp c13
                refine lv_bipush (v := (-5)) hx hb dX11_judge_103 (by decide) ?_
                rw [← hQ]
                exact g_iret hx hb hr hlk hS dX11_judge_105 ⟨by rw [gqJudge, if_pos c5, nI_clamp (show k < 2 ^ 31 by omega), if_neg (gTpe_p hTs (by omega) (gNlt c6)), if_pos c7, if_neg (nI_pos (by omega)), nI_clamp (show j < 2 ^ 31 by omega), hi, gJud], _, hrr, zO, h1, hk7, ⟨_, h2⟩, ⟨_, _, _, zT⟩, zKT, ⟨_, hrk, zE⟩, zB, zF, ⟨_, zN⟩, zA, zP, zG⟩
              · have c13 : ¬ 12 ≤ w := fun z => c13 ((gLe (a := 12) (b := w) rfl rfl (by omega) (by omega)).mpr z)
                exact absurd c13 (by omega)
            | succ dd ih =>
              intro w hkw s4 hi H locs zO h1 hk7 h2 zT zKT zE zB zF zN zA zP zG hS ls hl
              refine lv_iload_n hx hb dX11_judge_48 rfl (lv_at hl 3 rfl) ?_
              refine lv_bipush (v := 12) hx hb dX11_judge_49 (by decide) ?_
              refine lv_icmp_ge (tgt := 103) hx hb dX11_judge_51 (by decide) (fun c14 => ?_) (fun c14 => ?_)
              · have c14 : 12 ≤ w := (gLe (a := 12) (b := w) rfl rfl (by omega) (by omega)).mp c14
                exact absurd c14 (by omega)
              · have c14 : ¬ 12 ≤ w := fun z => c14 ((gLe (a := 12) (b := w) rfl rfl (by omega) (by omega)).mpr z)
                refine lv_iload_n hx hb dX11_judge_54 rfl (lv_at hl 2 rfl) ?_
                refine lv_iload_n hx hb dX11_judge_55 rfl (lv_at hl 3 rfl) ?_
                refine lv_iadd hx hb dX11_judge_56 ?_
                rw [show ((nI j) + (nI w) : Int32) = nI (j + w) from (gAdd rfl rfl)]
                refine lv_aload_n hx hb dX11_judge_57 rfl (lv_at hl 0 rfl) ?_
                refine g_get (v := .ref (B + 111 + 1)) (T := TX11) (ci := 11) (N := 13) hx hb hown hK (gY_X11 hT) rfl (zO 0 _ rfl) 11 (by decide) (hT _ gf_X11_48) rfl dX11_judge_58 ?_
                refine lv_iload_n hx hb dX11_judge_61 rfl (lv_at hl 1 rfl) ?_
                refine g_ia (j := k) (v := μ 3 k) hx hb hK (zP 1 _ rfl) rfl (by omega) (Nat.le_of_ble_eq_true rfl) rfl dX11_judge_62 ?_
                refine lv_icmp_lt (tgt := 71) hx hb dX11_judge_63 (by decide) (fun c15 => ?_) (fun c15 => ?_)
                · have c15 : (j + w) < zz := (gLt (a := j + w) (b := zz) rfl ez (by omega) (by omega)).mp c15
                  refine lv_aload_n hx hb dX11_judge_71 rfl (lv_at hl 0 rfl) ?_
                  refine g_get (v := .ref (B + 111 + 2)) (T := TX11) (ci := 11) (N := 13) hx hb hown hK (gY_X11 hT) rfl (zO 0 _ rfl) 12 (by decide) (hT _ gf_X11_53) rfl dX11_judge_72 ?_
                  refine lv_iload_n hx hb dX11_judge_75 rfl (lv_at hl 1 rfl) ?_
                  refine g_aa6 (j := k) (v := .ref (B + 111 + 3 + k)) hx hb hK (zP 2 _ rfl) rfl (by omega) (Nat.le_of_ble_eq_true rfl) rfl dX11_judge_76 ?_
                  refine lv_iload_n hx hb dX11_judge_77 rfl (lv_at hl 2 rfl) ?_
                  refine lv_iload_n hx hb dX11_judge_78 rfl (lv_at hl 3 rfl) ?_
                  refine lv_iadd hx hb dX11_judge_79 ?_
                  rw [show ((nI j) + (nI w) : Int32) = nI (j + w) from (gAdd rfl rfl)]
                  obtain ⟨r9, he9, hr9⟩ := zG k (by omega)
                  refine g_la (j := j + w) (v := g (60 * k + (j + w))) hx hb hK he9 rfl (by omega) (Nat.le_of_ble_eq_true rfl) (hr9 _ (by omega)) dX11_judge_80 ?_
                  refine lv_aload_n hx hb dX11_judge_81 rfl (lv_at hl 0 rfl) ?_
                  refine g_get (v := .ref (B + 1)) (T := TX11) (ci := 11) (N := 13) hx hb hown hK (gY_X11 hT) rfl (zO 0 _ rfl) 0 (by decide) (hT _ gf_X11_12) rfl dX11_judge_82 ?_
                  refine g_get (v := .ref (B + 1 + 2)) (T := TX9) (ci := 9) (N := 16) hx hb hown hK (gY_X9 hT) rfl (h1 0 _ rfl) 1 (by decide) (hT _ gf_X11_101) rfl dX11_judge_85 ?_
                  refine lv_iload_n hx hb dX11_judge_88 rfl (lv_at hl 3 rfl) ?_
                  refine g_ia (j := w) (v := π 0 w) hx hb hK (h1 2 _ rfl) rfl (by omega) (Nat.le_of_ble_eq_true rfl) rfl dX11_judge_89 ?_
                  refine lv_i2l hx hb dX11_judge_90 rfl ?_
                  refine W.lcmp hx hb dX11_judge_91 ?_
                  refine lv_if_eq (tgt := 97) hx hb dX11_judge_92 (by decide) (fun c16 => ?_) (fun c16 => ?_)
                  · have c16 : g (60 * k + (j + w)) = (π 0 w).toInt64 := gCmp0.mp c16
                    refine lv_iinc (v := nI (w + 1)) (lv' := [(3, .int (nI (w + 1))), (0, .ref B), (1, .int (nI k)), (2, .int (nI j))]) hx hb dX11_judge_97 hl (k := 3) rfl (gAdd rfl (show Int32.ofInt 1 = nI 1 from rfl)) (by decide) rfl (fun ls hl => ?_)
                    refine lv_goto (tgt := 48) hx hb dX11_judge_100 (by decide) ?_
                    exact ih (w + 1) (by omega) s4 (by rw [hi, gJud, if_pos (show j + w < (μ 3 k).toNatClampNeg from by rw [ez, nI_clamp (by omega)]; omega), show 60 * k + j + w = 60 * k + (j + w) from Nat.add_assoc _ _ _, if_pos c16]) _ _ zO h1 hk7 h2 zT zKT zE zB zF zN zA zP zG hS _ (by have hl := lv_sub hl [1, 2, 3, 0] rfl; exact hl)
                  · have c16 : ¬ g (60 * k + (j + w)) = (π 0 w).toInt64 := fun y => c16 (gCmp0.mpr y)
                    refine lv_iload_n hx hb dX11_judge_95 rfl (lv_at hl 3 rfl) ?_
                    rw [← hQ]
                    exact g_iret hx hb hr hlk hS dX11_judge_96 ⟨by rw [gqJudge, if_pos c5, nI_clamp (show k < 2 ^ 31 by omega), if_neg (gTpe_p hTs (by omega) (gNlt c6)), if_pos c7, if_neg (nI_pos (by omega)), nI_clamp (show j < 2 ^ 31 by omega), hi, gJud, if_pos (show j + w < (μ 3 k).toNatClampNeg from by rw [ez, nI_clamp (by omega)]; omega), show 60 * k + j + w = 60 * k + (j + w) from Nat.add_assoc _ _ _, if_neg c16], _, hrr, zO, h1, hk7, ⟨_, h2⟩, ⟨_, _, _, zT⟩, zKT, ⟨_, hrk, zE⟩, zB, zF, ⟨_, zN⟩, zA, zP, zG⟩
                · have c15 : ¬ (j + w) < zz := fun z => c15 ((gLt (a := j + w) (b := zz) rfl ez (by omega) (by omega)).mpr z)
                  refine lv_bipush (v := 100) hx hb dX11_judge_66 (by decide) ?_
                  refine lv_iload_n hx hb dX11_judge_68 rfl (lv_at hl 3 rfl) ?_
                  refine lv_iadd hx hb dX11_judge_69 ?_
                  rw [show (100 + (nI w) : Int32) = nI (100 + w) from (gAdd rfl rfl)]
                  rw [← hQ]
                  exact g_iret hx hb hr hlk hS dX11_judge_70 ⟨by rw [gqJudge, if_pos c5, nI_clamp (show k < 2 ^ 31 by omega), if_neg (gTpe_p hTs (by omega) (gNlt c6)), if_pos c7, if_neg (nI_pos (by omega)), nI_clamp (show j < 2 ^ 31 by omega), hi, gJud, if_neg (show ¬ j + w < (μ 3 k).toNatClampNeg from by rw [ez, nI_clamp (by omega)]; omega)], _, hrr, zO, h1, hk7, ⟨_, h2⟩, ⟨_, _, _, zT⟩, zKT, ⟨_, hrk, zE⟩, zB, zF, ⟨_, zN⟩, zA, zP, zG⟩
          exact loop (12 - 0) 0 (by first | omega | simp) s4 rfl _ _ zO h1 hk7 h2 zT zKT zE zB zF zN zA zP zG hS _ (lv_sub hl [1, 2, 3, 0] rfl)
        · have c12 : ¬ (0 ≤ i ∧ i < μ 3 k) := gB_0.mp c12
          refine lv_bipush (v := 100) hx hb dX11_judge_43 (by decide) ?_
          rw [← hQ]
          exact g_iret hx hb hr hlk hS dX11_judge_45 ⟨by rw [gqJudge, if_pos c5, nI_clamp (show k < 2 ^ 31 by omega), if_neg (gTpe_p hTs (by omega) (gNlt c6)), if_pos c7]; exact gJud_o hTs (by omega) c12, _, hrr, zO, h1, hk7, ⟨_, h2⟩, ⟨_, _, _, zT⟩, zKT, ⟨_, hrk, zE⟩, zB, zF, ⟨_, zN⟩, zA, zP, zG⟩
      · refine lv_bipush (v := (-12)) hx hb dX11_judge_31 (by decide) ?_
        rw [← hQ]
        exact g_iret hx hb hr hlk hS dX11_judge_33 ⟨by rw [gqJudge, if_pos c5, nI_clamp (show k < 2 ^ 31 by omega), if_neg (gTpe_p hTs (by omega) (gNlt c6)), if_neg c7], _, hrr, zO, h1, hk7, ⟨_, h2⟩, ⟨_, _, _, zT⟩, zKT, ⟨_, hrk, zE⟩, zB, zF, ⟨_, zN⟩, zA, zP, zG⟩
    · refine lv_bipush (v := 100) hx hb dX11_judge_18 (by decide) ?_
      rw [← hQ]
      exact g_iret hx hb hr hlk hS dX11_judge_20 ⟨by rw [gqJudge, if_pos c5, nI_clamp (show k < 2 ^ 31 by omega), if_pos (gTpe_n hTs (by omega) (gNle c6)).1], _, hrr, zO, h1, hk7, ⟨_, h2⟩, ⟨_, _, _, zT⟩, zKT, ⟨_, hrk, zE⟩, zB, zF, ⟨_, zN⟩, zA, zP, zG⟩
  · have c5 : ¬ (0 ≤ t ∧ t ≤ 5) := gB_0.mp c5
    refine lv_iconst (v := (-1)) hx hb dX11_judge_7 (by decide) ?_
    rw [← hQ]
    exact g_iret hx hb hr hlk hS dX11_judge_8 ⟨by rw [gqJudge, if_neg c5], _, hrr, zO, h1, hk7, ⟨_, h2⟩, ⟨_, _, _, zT⟩, zKT, ⟨_, hrk, zE⟩, zB, zF, ⟨_, zN⟩, zA, zP, zG⟩
