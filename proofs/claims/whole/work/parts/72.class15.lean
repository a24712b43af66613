set_option maxHeartbeats 4000000 in
set_option maxRecDepth 100000 in
theorem c_X11_pigeon (l : Launch) (G : gW) (B lp : Nat) (π πk f μ α : gPS) (lk : Nat) (g : Nat → Int64) (acc : List (Nat × Nat × List Nat)) (hcl : gClo f acc) (hI : gInv π) (hlp : lp = B + 23 ∨ lp = B + 58 ∨ lp = B + 93 ∨ (B + 120 ≤ lp ∧ lp + 6 ≤ B + 156)) (kd v : Int32) : gCI l yX11_pigeon cX11_pigeon 3 .int (gRm 1 40) G [.ref B, .int kd, .int v] (fun H => gCW G B lp π lk πk f μ α g H) (fun r H => r = (gqPigeon π kd v).1 ∧ gCW G B lp ((gqPigeon π kd v).2) lk πk f μ α g H) (fun q => (lp ≤ q ∧ q < lp + 6) ∨ (B ≤ q ∧ q < B + 23) ∨ (B + 36 ≤ q ∧ q < B + 58) ∨ (B + 71 ≤ q ∧ q < B + 93) ∨ (B + 106 ≤ q ∧ q < B + 120)) := by
  refine g_start (by decide) (Nat.le_of_ble_eq_true rfl) ?_
  intro pp_ ee_ s mm_ aa_ below meth cc_ ls Q hQ hX hE hP hl
  obtain ⟨hx, hb, hr, hml, hown, hT, hlk, hnm⟩ := hX
  have hK := hE.2.1
  obtain ⟨ρ, hrr, zO, h1, hk7, ⟨s4, h2⟩, ⟨πt, lt, ρt, zT⟩, zKT, ⟨ρk, hrk, zE⟩, zB, zF, ⟨γ, zN⟩, zA, zP, zG⟩ := hP
  have hS : va_S (fun q => (lp ≤ q ∧ q < lp + 6) ∨ (B ≤ q ∧ q < B + 23) ∨ (B + 36 ≤ q ∧ q < B + 58) ∨ (B + 71 ≤ q ∧ q < B + 93) ∨ (B + 106 ≤ q ∧ q < B + 120)) s.heap s.heap [] := va_S.rf
  have hl : lv_has ls 3 [(0, .ref B), (1, .int kd), (2, .int v)] := hl
  obtain ⟨⟨n, hn, hz, h0z⟩, hki, ⟨sn, hsn, hz3, hsp⟩, ⟨pn, hpn, hz4, hpo⟩, ⟨bn, hbn, hz5, hbo⟩, hfl9⟩ := id hI
  have hd1 : lp + 6 ≤ B + 1 ∨ lp = B + 1 + 22 ∨ B + 1 + 35 ≤ lp := by omega
  have hd36 : lp + 6 ≤ B + 36 ∨ lp = B + 36 + 22 ∨ B + 36 + 35 ≤ lp := by omega
  refine lv_iload_n hx hb dX11_pigeon_0 rfl (lv_at hl 1 rfl) ?_
  refine lv_bipush (v := 6) hx hb dX11_pigeon_1 (by decide) ?_
  refine g_ki (g_runS (rest := []) hx hb hml hown hE hT (c_X11_isUpTo l G kd 6) gM_X11_isUpTo gm_X11_57 gt_X11_isUpTo trivial rfl hl.1 ⟨rfl, rfl⟩ ⟨Nat.le_of_ble_eq_true rfl, Nat.le_of_ble_eq_true rfl⟩ ⟨Nat.zero_le _, Nat.zero_le _⟩ rfl (Nat.le_of_ble_eq_true rfl) dX11_pigeon_3) hS (fun _ h => h.elim) (fun r4 H1 locs q2 k3 hS => ?_)
  subst q2
  have zO := gSg_free zO k3 (by intro k hk q; simp only [List.length_cons, List.length_nil] at hk; omega)
  have h1 := gSg_free h1 k3 (by intro k hk q; simp only [List.length_cons, List.length_nil] at hk; omega)
  have hk7 := gSg_free hk7 k3 (by intro k hk q; simp only [List.length_cons, List.length_nil] at hk; omega)
  have h2 := gSg_free h2 k3 (by intro k hk q; simp only [List.length_cons, List.length_nil] at hk; omega)
  have zT := gSg_free zT k3 (by intro k hk q; simp only [List.length_cons, List.length_nil] at hk; omega)
  have zKT := gSg_free zKT k3 (by intro k hk q; simp only [List.length_cons, List.length_nil] at hk; omega)
  have zE := gSg_free zE k3 (by intro k hk q; simp only [List.length_cons, List.length_nil] at hk; omega)
  have zB := gSg_free zB k3 (by intro k hk q; simp only [List.length_cons, List.length_nil] at hk; omega)
  have zF := gSg_free zF k3 (by intro k hk q; simp only [List.length_cons, List.length_nil] at hk; omega)
  have zN := gSg_free zN k3 (by intro k hk q; simp only [List.length_cons, List.length_nil] at hk; omega)
  have zA := gSg_free zA k3 (by intro k hk q; simp only [List.length_cons, List.length_nil] at hk; omega)
  have zP := gSg_free zP k3 (by intro k hk q; simp only [List.length_cons, List.length_nil] at hk; omega)
  have zG := gRows_free zG k3 (by intro k hk q; omega)
  refine lv_if_ne (tgt := 11) hx hb dX11_pigeon_6 (by decide) (fun c5 => ?_) (fun c5 => ?_)
  · have c5 : 0 ≤ kd ∧ kd ≤ 6 := gB_1.mp c5
    refine lv_iload_n hx hb dX11_pigeon_11 rfl (lv_at hl 2 rfl) ?_
    refine lv_bipush (v := 9) hx hb dX11_pigeon_12 (by decide) ?_
    refine g_ki (g_runS (rest := []) hx hb hml hown hE hT (c_X11_isUpTo l G v 9) gM_X11_isUpTo gm_X11_57 gt_X11_isUpTo trivial rfl hl.1 ⟨rfl, rfl⟩ ⟨Nat.le_of_ble_eq_true rfl, Nat.le_of_ble_eq_true rfl⟩ ⟨Nat.zero_le _, Nat.zero_le _⟩ rfl (Nat.le_of_ble_eq_true rfl) dX11_pigeon_14) hS (fun _ h => h.elim) (fun r9 H6 locs q7 k8 hS => ?_)
    subst q7
    have zO := gSg_free zO k8 (by intro k hk q; simp only [List.length_cons, List.length_nil] at hk; omega)
    have h1 := gSg_free h1 k8 (by intro k hk q; simp only [List.length_cons, List.length_nil] at hk; omega)
    have hk7 := gSg_free hk7 k8 (by intro k hk q; simp only [List.length_cons, List.length_nil] at hk; omega)
    have h2 := gSg_free h2 k8 (by intro k hk q; simp only [List.length_cons, List.length_nil] at hk; omega)
    have zT := gSg_free zT k8 (by intro k hk q; simp only [List.length_cons, List.length_nil] at hk; omega)
    have zKT := gSg_free zKT k8 (by intro k hk q; simp only [List.length_cons, List.length_nil] at hk; omega)
    have zE := gSg_free zE k8 (by intro k hk q; simp only [List.length_cons, List.length_nil] at hk; omega)
    have zB := gSg_free zB k8 (by intro k hk q; simp only [List.length_cons, List.length_nil] at hk; omega)
    have zF := gSg_free zF k8 (by intro k hk q; simp only [List.length_cons, List.length_nil] at hk; omega)
    have zN := gSg_free zN k8 (by intro k hk q; simp only [List.length_cons, List.length_nil] at hk; omega)
    have zA := gSg_free zA k8 (by intro k hk q; simp only [List.length_cons, List.length_nil] at hk; omega)
    have zP := gSg_free zP k8 (by intro k hk q; simp only [List.length_cons, List.length_nil] at hk; omega)
    have zG := gRows_free zG k8 (by intro k hk q; omega)
    refine lv_if_ne (tgt := 23) hx hb dX11_pigeon_17 (by decide) (fun c10 => ?_) (fun c10 => ?_)
    · have c10 : 0 ≤ v ∧ v ≤ 9 := gB_1.mp c10
      refine lv_aload_n hx hb dX11_pigeon_23 rfl (lv_at hl 0 rfl) ?_
      refine g_get (v := .ref (B + 1)) (T := TX11) (ci := 11) (N := 13) hx hb hown hK (gY_X11 hT) rfl (zO 0 _ rfl) 0 (by decide) (hT _ gf_X11_12) rfl dX11_pigeon_24 ?_
      refine g_get (v := .int (π 15 0)) (T := TX9) (ci := 9) (N := 16) hx hb hown hK (gY_X9 hT) rfl (h1 0 _ rfl) 12 (by decide) (hT _ gf_X11_61) rfl dX11_pigeon_27 ?_
      refine lv_bipush (v := 6) hx hb dX11_pigeon_30 (by decide) ?_
      refine lv_icmp_lt (tgt := 38) hx hb dX11_pigeon_32 (by decide) (fun c11 => ?_) (fun c11 => ?_)
      · have c11 : n < 6 := (gLt (a := n) (b := 6) hz rfl (by omega) (by omega)).mp c11
        refine lv_aload_n hx hb dX11_pigeon_38 rfl (lv_at hl 0 rfl) ?_
        refine g_get (v := .ref (B + 1)) (T := TX11) (ci := 11) (N := 13) hx hb hown hK (gY_X11 hT) rfl (zO 0 _ rfl) 0 (by decide) (hT _ gf_X11_12) rfl dX11_pigeon_39 ?_
        refine lv_iload_n hx hb dX11_pigeon_42 rfl (lv_at hl 1 rfl) ?_
        refine lv_iload_n hx hb dX11_pigeon_43 rfl (lv_at hl 2 rfl) ?_
        refine g_ki (g_runV (T := TX9) (ci := 9) (N := 16) (rest := []) hx hb hml hown hE hT (c_X9_comes l G (B + 1) lp π ρ n hz hn (by omega) kd v) gM_X9_comes gm_X11_65 gi_X9_comes gs_RX9_yX9_comes_yX9_comes rfl (h1 0 _ rfl) h1 rfl hl.1 ⟨rfl, rfl⟩ ⟨Nat.le_of_ble_eq_true rfl, Nat.le_of_ble_eq_true rfl⟩ ⟨Nat.zero_le _, Nat.zero_le _⟩ rfl (Nat.le_of_ble_eq_true rfl) dX11_pigeon_44) hS (by intro q hq; omega) (fun r15 H12 locs q13 k14 hS => ?_)
        obtain ⟨e9, h1⟩ := q13
        rw [e9]
        have zO := gSg_free zO k14 (by intro k hk q; simp only [List.length_cons, List.length_nil] at hk; omega)
        have hk7 := gSg_free hk7 k14 (by intro k hk q; simp only [List.length_cons, List.length_nil] at hk; omega)
        have h2 := gSg_free h2 k14 (by intro k hk q; simp only [List.length_cons, List.length_nil] at hk; omega)
        have zT := gSg_free zT k14 (by intro k hk q; simp only [List.length_cons, List.length_nil] at hk; omega)
        have zKT := gSg_free zKT k14 (by intro k hk q; simp only [List.length_cons, List.length_nil] at hk; omega)
        have zE := gSg_free zE k14 (by intro k hk q; simp only [List.length_cons, List.length_nil] at hk; omega)
        have zB := gSg_free zB k14 (by intro k hk q; simp only [List.length_cons, List.length_nil] at hk; omega)
        have zF := gSg_free zF k14 (by intro k hk q; simp only [List.length_cons, List.length_nil] at hk; omega)
        have zN := gSg_free zN k14 (by intro k hk q; simp only [List.length_cons, List.length_nil] at hk; omega)
        have zA := gSg_free zA k14 (by intro k hk q; simp only [List.length_cons, List.length_nil] at hk; omega)
        have zP := gSg_free zP k14 (by intro k hk q; simp only [List.length_cons, List.length_nil] at hk; omega)
        have zG := gRows_free zG k14 (by intro k hk q; omega)
        rw [← hQ]
        exact g_iret hx hb hr hlk hS dX11_pigeon_47 (by rw [gqPigeon_c hz (by omega) (h0z n (Nat.le_refl n) (by omega)) c5 c10]; exact ⟨rfl, _, hrr, zO, h1, hk7, ⟨_, h2⟩, ⟨_, _, _, zT⟩, zKT, ⟨_, hrk, zE⟩, zB, zF, ⟨_, zN⟩, zA, zP, zG⟩)
      · have c11 : ¬ n < 6 := fun z => c11 ((gLt (a := n) (b := 6) hz rfl (by omega) (by omega)).mpr z)
        refine lv_bipush (v := (-4)) hx hb dX11_pigeon_35 (by decide) ?_
        rw [← hQ]
        exact g_iret hx hb hr hlk hS dX11_pigeon_37 (by rw [show gqPigeon π kd v = ((-4), π) from by simp only [gqPigeon, if_pos c5, if_pos c10, if_pos (show π 15 0 = 6 from (gEq (b := 6) hz rfl (by omega) (by omega)).mpr (by omega))]]; exact ⟨rfl, _, hrr, zO, h1, hk7, ⟨_, h2⟩, ⟨_, _, _, zT⟩, zKT, ⟨_, hrk, zE⟩, zB, zF, ⟨_, zN⟩, zA, zP, zG⟩)
    · have c10 : ¬ (0 ≤ v ∧ v ≤ 9) := gB_0.mp c10
      refine lv_bipush (v := (-2)) hx hb dX11_pigeon_20 (by decide) ?_
      rw [← hQ]
      exact g_iret hx hb hr hlk hS dX11_pigeon_22 (by rw [show gqPigeon π kd v = ((-2), π) from by simp only [gqPigeon, if_pos c5, if_neg c10]]; exact ⟨rfl, _, hrr, zO, h1, hk7, ⟨_, h2⟩, ⟨_, _, _, zT⟩, zKT, ⟨_, hrk, zE⟩, zB, zF, ⟨_, zN⟩, zA, zP, zG⟩)
  · have c5 : ¬ (0 ≤ kd ∧ kd ≤ 6) := gB_0.mp c5
    refine lv_iconst (v := (-1)) hx hb dX11_pigeon_9 (by decide) ?_
    rw [← hQ]
    exact g_iret hx hb hr hlk hS dX11_pigeon_10 (by rw [show gqPigeon π kd v = ((-1), π) from by simp only [gqPigeon, if_neg c5]]; exact ⟨rfl, _, hrr, zO, h1, hk7, ⟨_, h2⟩, ⟨_, _, _, zT⟩, zKT, ⟨_, hrk, zE⟩, zB, zF, ⟨_, zN⟩, zA, zP, zG⟩)

set_option maxHeartbeats 4000000 in
set_option maxRecDepth 100000 in
theorem c_X11_of (l : Launch) (G : gW) (B lp : Nat) (π πk f μ α : gPS) (lk : Nat) (g : Nat → Int64) (acc : List (Nat × Nat × List Nat)) (hcl : gClo f acc) (hI : gInv π) (hlp : lp = B + 23 ∨ lp = B + 58 ∨ lp = B + 93 ∨ (B + 120 ≤ lp ∧ lp + 6 ≤ B + 156)) (p wh : Int32) : gCI l yX11_of cX11_of 3 .int (gRm 5 124) G [.ref B, .int p, .int wh] (fun H => gCW G B lp π lk πk f μ α g H) (fun r H => r = gqOf π (gLof acc) p wh ∧ gCW G B lp π lk πk f μ α g H) (fun q => (lp ≤ q ∧ q < lp + 6) ∨ (B ≤ q ∧ q < B + 23) ∨ (B + 36 ≤ q ∧ q < B + 58) ∨ (B + 71 ≤ q ∧ q < B + 93) ∨ (B + 106 ≤ q ∧ q < B + 120)) := by
  refine g_start (by decide) (Nat.le_of_ble_eq_true rfl) ?_
  intro pp_ ee_ s mm_ aa_ below meth cc_ ls Q hQ hX hE hP hl
  obtain ⟨hx, hb, hr, hml, hown, hT, hlk, hnm⟩ := hX
  have hK := hE.2.1
  obtain ⟨ρ, hrr, zO, h1, hk7, ⟨s4, h2⟩, ⟨πt, lt, ρt, zT⟩, zKT, ⟨ρk, hrk, zE⟩, zB, zF, ⟨γ, zN⟩, zA, zP, zG⟩ := hP
  have hS : va_S (fun q => (lp ≤ q ∧ q < lp + 6) ∨ (B ≤ q ∧ q < B + 23) ∨ (B + 36 ≤ q ∧ q < B + 58) ∨ (B + 71 ≤ q ∧ q < B + 93) ∨ (B + 106 ≤ q ∧ q < B + 120)) s.heap s.heap [] := va_S.rf
  have hl : lv_has ls 3 [(0, .ref B), (1, .int p), (2, .int wh)] := hl
  obtain ⟨⟨n, hn, hz, h0z⟩, hki, ⟨sn, hsn, hz3, hsp⟩, ⟨pn, hpn, hz4, hpo⟩, ⟨bn, hbn, hz5, hbo⟩, hfl9⟩ := id hI
  have hd1 : lp + 6 ≤ B + 1 ∨ lp = B + 1 + 22 ∨ B + 1 + 35 ≤ lp := by omega
  have hd36 : lp + 6 ≤ B + 36 ∨ lp = B + 36 + 22 ∨ B + 36 + 35 ≤ lp := by omega
  refine lv_aload_n hx hb dX11_of_0 rfl (lv_at hl 0 rfl) ?_
  refine lv_iload_n hx hb dX11_of_1 rfl (lv_at hl 1 rfl) ?_
  refine g_ki (g_runV (T := TX11) (ci := 11) (N := 13) (rest := []) hx hb hml hown hE hT (c_X11_isPigeon l G B lp π ρ μ n hz (by omega) p) gM_X11_isPigeon gm_X11_69 gi_X11_isPigeon gs_RX11_yX11_isPigeon_yX11_isPigeon rfl (zO 0 _ rfl) ⟨zO, h1⟩ rfl hl.1 ⟨rfl, rfl⟩ ⟨Nat.le_of_ble_eq_true rfl, Nat.le_of_ble_eq_true rfl⟩ ⟨Nat.zero_le _, Nat.zero_le _⟩ rfl (Nat.le_of_ble_eq_true rfl) dX11_of_2) hS (fun _ h => h.elim) (fun r4 H1 locs q2 k3 hS => ?_)
  subst q2
  have zO := gSg_free zO k3 (by intro k hk q; simp only [List.length_cons, List.length_nil] at hk; omega)
  have h1 := gSg_free h1 k3 (by intro k hk q; simp only [List.length_cons, List.length_nil] at hk; omega)
  have hk7 := gSg_free hk7 k3 (by intro k hk q; simp only [List.length_cons, List.length_nil] at hk; omega)
  have h2 := gSg_free h2 k3 (by intro k hk q; simp only [List.length_cons, List.length_nil] at hk; omega)
  have zT := gSg_free zT k3 (by intro k hk q; simp only [List.length_cons, List.length_nil] at hk; omega)
  have zKT := gSg_free zKT k3 (by intro k hk q; simp only [List.length_cons, List.length_nil] at hk; omega)
  have zE := gSg_free zE k3 (by intro k hk q; simp only [List.length_cons, List.length_nil] at hk; omega)
  have zB := gSg_free zB k3 (by intro k hk q; simp only [List.length_cons, List.length_nil] at hk; omega)
  have zF := gSg_free zF k3 (by intro k hk q; simp only [List.length_cons, List.length_nil] at hk; omega)
  have zN := gSg_free zN k3 (by intro k hk q; simp only [List.length_cons, List.length_nil] at hk; omega)
  have zA := gSg_free zA k3 (by intro k hk q; simp only [List.length_cons, List.length_nil] at hk; omega)
  have zP := gSg_free zP k3 (by intro k hk q; simp only [List.length_cons, List.length_nil] at hk; omega)
  have zG := gRows_free zG k3 (by intro k hk q; omega)
  refine lv_if_ne (tgt := 10) hx hb dX11_of_5 (by decide) (fun c5 => ?_) (fun c5 => ?_)
  · have c5 : 0 ≤ p ∧ p < π 15 0 := gB_1.mp c5
    obtain ⟨k, hk, ek⟩ := gIx hz (by omega) c5
    subst ek
    refine lv_iload_n hx hb dX11_of_10 rfl (lv_at hl 2 rfl) ?_
    by_cases c6 : wh = 0
    · refine lv_tableIn (off := 41) (tgt := 52) hx hb dX11_of_11 (by rw [c6]; decide) (by rw [c6]; decide) (by rw [c6]; decide) (by decide) ?_
      refine lv_aload_n hx hb dX11_of_52 rfl (lv_at hl 0 rfl) ?_
      refine g_get (v := .ref (B + 1)) (T := TX11) (ci := 11) (N := 13) hx hb hown hK (gY_X11 hT) rfl (zO 0 _ rfl) 0 (by decide) (hT _ gf_X11_12) rfl dX11_of_53 ?_
      refine g_get (v := .ref (B + 1 + 4)) (T := TX9) (ci := 9) (N := 16) hx hb hown hK (gY_X9 hT) rfl (h1 0 _ rfl) 3 (by decide) (hT _ gf_X11_73) rfl dX11_of_56 ?_
      refine lv_iload_n hx hb dX11_of_59 rfl (lv_at hl 1 rfl) ?_
      refine g_ia (j := k) (v := π 2 k) hx hb hK (h1 4 _ rfl) rfl (by omega) (Nat.le_of_ble_eq_true rfl) rfl dX11_of_60 ?_
      rw [← hQ]
      exact g_iret hx hb hr hlk hS dX11_of_61 ⟨by simp only [gqOf, if_pos c5, if_pos c6, nI_clamp (show k < 2 ^ 31 by omega)], _, hrr, zO, h1, hk7, ⟨_, h2⟩, ⟨_, _, _, zT⟩, zKT, ⟨_, hrk, zE⟩, zB, zF, ⟨_, zN⟩, zA, zP, zG⟩
    · skip
      by_cases c7 : wh = 1
      · refine lv_tableIn (off := 51) (tgt := 62) hx hb dX11_of_11 (by rw [c7]; decide) (by rw [c7]; decide) (by rw [c7]; decide) (by decide) ?_
        refine lv_aload_n hx hb dX11_of_62 rfl (lv_at hl 0 rfl) ?_
        refine g_get (v := .ref (B + 1)) (T := TX11) (ci := 11) (N := 13) hx hb hown hK (gY_X11 hT) rfl (zO 0 _ rfl) 0 (by decide) (hT _ gf_X11_12) rfl dX11_of_63 ?_
        refine g_get (v := .ref (B + 1 + 5)) (T := TX9) (ci := 9) (N := 16) hx hb hown hK (gY_X9 hT) rfl (h1 0 _ rfl) 4 (by decide) (hT _ gf_X11_76) rfl dX11_of_66 ?_
        refine lv_iload_n hx hb dX11_of_69 rfl (lv_at hl 1 rfl) ?_
        refine g_ia (j := k) (v := π 3 k) hx hb hK (h1 5 _ rfl) rfl (by omega) (Nat.le_of_ble_eq_true rfl) rfl dX11_of_70 ?_
        rw [← hQ]
        exact g_iret hx hb hr hlk hS dX11_of_71 ⟨by simp only [gqOf, if_pos c5, if_neg c6, if_pos c7, nI_clamp (show k < 2 ^ 31 by omega)], _, hrr, zO, h1, hk7, ⟨_, h2⟩, ⟨_, _, _, zT⟩, zKT, ⟨_, hrk, zE⟩, zB, zF, ⟨_, zN⟩, zA, zP, zG⟩
      · skip
        by_cases c8 : wh = 2
        · refine lv_tableIn (off := 61) (tgt := 72) hx hb dX11_of_11 (by rw [c8]; decide) (by rw [c8]; decide) (by rw [c8]; decide) (by decide) ?_
          refine lv_aload_n hx hb dX11_of_72 rfl (lv_at hl 0 rfl) ?_
          refine g_get (v := .ref (B + 1)) (T := TX11) (ci := 11) (N := 13) hx hb hown hK (gY_X11 hT) rfl (zO 0 _ rfl) 0 (by decide) (hT _ gf_X11_12) rfl dX11_of_73 ?_
          refine g_get (v := .ref (B + 1 + 6)) (T := TX9) (ci := 9) (N := 16) hx hb hown hK (gY_X9 hT) rfl (h1 0 _ rfl) 5 (by decide) (hT _ gf_X11_79) rfl dX11_of_76 ?_
          refine lv_iload_n hx hb dX11_of_79 rfl (lv_at hl 1 rfl) ?_
          refine g_ia (j := k) (v := π 4 k) hx hb hK (h1 6 _ rfl) rfl (by omega) (Nat.le_of_ble_eq_true rfl) rfl dX11_of_80 ?_
          rw [← hQ]
          exact g_iret hx hb hr hlk hS dX11_of_81 ⟨by simp only [gqOf, if_pos c5, if_neg c6, if_neg c7, if_pos c8, nI_clamp (show k < 2 ^ 31 by omega)], _, hrr, zO, h1, hk7, ⟨_, h2⟩, ⟨_, _, _, zT⟩, zKT, ⟨_, hrk, zE⟩, zB, zF, ⟨_, zN⟩, zA, zP, zG⟩
        · skip
          by_cases c9 : wh = 3
          · refine lv_tableIn (off := 71) (tgt := 82) hx hb dX11_of_11 (by rw [c9]; decide) (by rw [c9]; decide) (by rw [c9]; decide) (by decide) ?_
            refine lv_aload_n hx hb dX11_of_82 rfl (lv_at hl 0 rfl) ?_
            refine g_get (v := .ref (B + 1)) (T := TX11) (ci := 11) (N := 13) hx hb hown hK (gY_X11 hT) rfl (zO 0 _ rfl) 0 (by decide) (hT _ gf_X11_12) rfl dX11_of_83 ?_
            refine g_get (v := .ref (B + 1 + 7)) (T := TX9) (ci := 9) (N := 16) hx hb hown hK (gY_X9 hT) rfl (h1 0 _ rfl) 6 (by decide) (hT _ gf_X11_82) rfl dX11_of_86 ?_
            refine lv_iload_n hx hb dX11_of_89 rfl (lv_at hl 1 rfl) ?_
            refine g_ia (j := k) (v := π 5 k) hx hb hK (h1 7 _ rfl) rfl (by omega) (Nat.le_of_ble_eq_true rfl) rfl dX11_of_90 ?_
            rw [← hQ]
            exact g_iret hx hb hr hlk hS dX11_of_91 ⟨by simp only [gqOf, if_pos c5, if_neg c6, if_neg c7, if_neg c8, if_pos c9, nI_clamp (show k < 2 ^ 31 by omega)], _, hrr, zO, h1, hk7, ⟨_, h2⟩, ⟨_, _, _, zT⟩, zKT, ⟨_, hrk, zE⟩, zB, zF, ⟨_, zN⟩, zA, zP, zG⟩
          · skip
            by_cases c10 : wh = 4
            · refine lv_tableIn (off := 81) (tgt := 92) hx hb dX11_of_11 (by rw [c10]; decide) (by rw [c10]; decide) (by rw [c10]; decide) (by decide) ?_
              refine lv_aload_n hx hb dX11_of_92 rfl (lv_at hl 0 rfl) ?_
              refine g_get (v := .ref (B + 1)) (T := TX11) (ci := 11) (N := 13) hx hb hown hK (gY_X11 hT) rfl (zO 0 _ rfl) 0 (by decide) (hT _ gf_X11_12) rfl dX11_of_93 ?_
              refine g_get (v := .ref (B + 1 + 8)) (T := TX9) (ci := 9) (N := 16) hx hb hown hK (gY_X9 hT) rfl (h1 0 _ rfl) 7 (by decide) (hT _ gf_X11_85) rfl dX11_of_96 ?_
              refine lv_iload_n hx hb dX11_of_99 rfl (lv_at hl 1 rfl) ?_
              refine g_ia (j := k) (v := π 6 k) hx hb hK (h1 8 _ rfl) rfl (by omega) (Nat.le_of_ble_eq_true rfl) rfl dX11_of_100 ?_
              rw [← hQ]
              exact g_iret hx hb hr hlk hS dX11_of_101 ⟨by simp only [gqOf, if_pos c5, if_neg c6, if_neg c7, if_neg c8, if_neg c9, if_pos c10, nI_clamp (show k < 2 ^ 31 by omega)], _, hrr, zO, h1, hk7, ⟨_, h2⟩, ⟨_, _, _, zT⟩, zKT, ⟨_, hrk, zE⟩, zB, zF, ⟨_, zN⟩, zA, zP, zG⟩
            · skip
              by_cases c11 : wh = 5
              · refine lv_tableIn (off := 91) (tgt := 102) hx hb dX11_of_11 (by rw [c11]; decide) (by rw [c11]; decide) (by rw [c11]; decide) (by decide) ?_
                refine lv_aload_n hx hb dX11_of_102 rfl (lv_at hl 0 rfl) ?_
                refine g_get (v := .ref (B + 1)) (T := TX11) (ci := 11) (N := 13) hx hb hown hK (gY_X11 hT) rfl (zO 0 _ rfl) 0 (by decide) (hT _ gf_X11_12) rfl dX11_of_103 ?_
                refine lv_iload_n hx hb dX11_of_106 rfl (lv_at hl 1 rfl) ?_
                obtain ⟨kd, hkd, ek⟩ := hki k (by omega)
                refine g_ki (g_runV (T := TX9) (ci := 9) (N := 16) (rest := []) hx hb hml hown hE hT (c_X9_willFlyOff l G (B + 1) lp π ρ f hd1 acc hcl k (by omega) kd hkd ek) gM_X9_willFlyOff gm_X11_88 gi_X9_willFlyOff gs_RX9_yX9_willFlyOff_yX9_willFlyOff rfl (h1 0 _ rfl) ⟨h1, hk7, _, h2⟩ rfl hl.1 ⟨rfl, rfl⟩ ⟨Nat.le_of_ble_eq_true rfl, Nat.le_of_ble_eq_true rfl⟩ ⟨Nat.zero_le _, Nat.zero_le _⟩ rfl (Nat.le_of_ble_eq_true rfl) dX11_of_107) hS (by intro q hq; omega) (fun r15 H12 locs q13 k14 hS => ?_)
                obtain ⟨e9, h1, hk7, s4, h2⟩ := q13
                rw [e9]
                have zO := gSg_free zO k14 (by intro k hk q; simp only [List.length_cons, List.length_nil] at hk; omega)
                have zT := gSg_free zT k14 (by intro k hk q; simp only [List.length_cons, List.length_nil] at hk; omega)
                have zKT := gSg_free zKT k14 (by intro k hk q; simp only [List.length_cons, List.length_nil] at hk; omega)
                have zE := gSg_free zE k14 (by intro k hk q; simp only [List.length_cons, List.length_nil] at hk; omega)
                have zB := gSg_free zB k14 (by intro k hk q; simp only [List.length_cons, List.length_nil] at hk; omega)
                have zF := gSg_free zF k14 (by intro k hk q; simp only [List.length_cons, List.length_nil] at hk; omega)
                have zN := gSg_free zN k14 (by intro k hk q; simp only [List.length_cons, List.length_nil] at hk; omega)
                have zA := gSg_free zA k14 (by intro k hk q; simp only [List.length_cons, List.length_nil] at hk; omega)
                have zP := gSg_free zP k14 (by intro k hk q; simp only [List.length_cons, List.length_nil] at hk; omega)
                have zG := gRows_free zG k14 (by intro k hk q; omega)
                refine lv_if_eq (tgt := 117) hx hb dX11_of_110 (by decide) (fun c16 => ?_) (fun c16 => ?_)
                · have c16 : ¬ (gFly π (gLof acc) k) := gB_0.mp c16
                  refine lv_iconst (v := 0) hx hb dX11_of_117 (by decide) ?_
                  rw [← hQ]
                  exact g_iret hx hb hr hlk hS dX11_of_118 ⟨by simp only [gqOf, if_pos c5, if_neg c6, if_neg c7, if_neg c8, if_neg c9, if_neg c10, if_pos c11, nI_clamp (show k < 2 ^ 31 by omega)]; exact (gB_f c16).symm, _, hrr, zO, h1, hk7, ⟨_, h2⟩, ⟨_, _, _, zT⟩, zKT, ⟨_, hrk, zE⟩, zB, zF, ⟨_, zN⟩, zA, zP, zG⟩
                · have c16 : gFly π (gLof acc) k := gB_1.mp c16
                  refine lv_iconst (v := 1) hx hb dX11_of_113 (by decide) ?_
                  refine lv_goto (tgt := 118) hx hb dX11_of_114 (by decide) ?_
                  rw [← hQ]
                  exact g_iret hx hb hr hlk hS dX11_of_118 ⟨by simp only [gqOf, if_pos c5, if_neg c6, if_neg c7, if_neg c8, if_neg c9, if_neg c10, if_pos c11, nI_clamp (show k < 2 ^ 31 by omega)]; exact (gB_t c16).symm, _, hrr, zO, h1, hk7, ⟨_, h2⟩, ⟨_, _, _, zT⟩, zKT, ⟨_, hrk, zE⟩, zB, zF, ⟨_, zN⟩, zA, zP, zG⟩
              · skip
                by_cases c17 : wh = 6
                · refine lv_tableIn (off := 108) (tgt := 119) hx hb dX11_of_11 (by rw [c17]; decide) (by rw [c17]; decide) (by rw [c17]; decide) (by decide) ?_
                  refine lv_aload_n hx hb dX11_of_119 rfl (lv_at hl 0 rfl) ?_
                  refine lv_iload_n hx hb dX11_of_120 rfl (lv_at hl 1 rfl) ?_
                  refine g_ki (g_runV (T := TX11) (ci := 11) (N := 13) (rest := []) hx hb hml hown hE hT (c_X11_spareOf l G B lp π ρ f μ acc hcl hlp hki k (by omega)) gM_X11_spareOf gm_X11_91 gi_X11_spareOf gs_RX11_yX11_spareOf_yX11_spareOf rfl (zO 0 _ rfl) ⟨zO, h1, hk7, _, h2⟩ rfl hl.1 ⟨rfl, rfl⟩ ⟨Nat.le_of_ble_eq_true rfl, Nat.le_of_ble_eq_true rfl⟩ ⟨Nat.zero_le _, Nat.zero_le _⟩ rfl (Nat.le_of_ble_eq_true rfl) dX11_of_121) hS (by intro q hq; omega) (fun r21 H18 locs q19 k20 hS => ?_)
                  obtain ⟨e9, h1, hk7, s4, h2⟩ := q19
                  rw [e9]
                  have zO := gSg_free zO k20 (by intro k hk q; simp only [List.length_cons, List.length_nil] at hk; omega)
                  have zT := gSg_free zT k20 (by intro k hk q; simp only [List.length_cons, List.length_nil] at hk; omega)
                  have zKT := gSg_free zKT k20 (by intro k hk q; simp only [List.length_cons, List.length_nil] at hk; omega)
                  have zE := gSg_free zE k20 (by intro k hk q; simp only [List.length_cons, List.length_nil] at hk; omega)
                  have zB := gSg_free zB k20 (by intro k hk q; simp only [List.length_cons, List.length_nil] at hk; omega)
                  have zF := gSg_free zF k20 (by intro k hk q; simp only [List.length_cons, List.length_nil] at hk; omega)
                  have zN := gSg_free zN k20 (by intro k hk q; simp only [List.length_cons, List.length_nil] at hk; omega)
                  have zA := gSg_free zA k20 (by intro k hk q; simp only [List.length_cons, List.length_nil] at hk; omega)
                  have zP := gSg_free zP k20 (by intro k hk q; simp only [List.length_cons, List.length_nil] at hk; omega)
                  have zG := gRows_free zG k20 (by intro k hk q; omega)
                  rw [← hQ]
                  exact g_iret hx hb hr hlk hS dX11_of_124 ⟨by simp only [gqOf, if_pos c5, if_neg c6, if_neg c7, if_neg c8, if_neg c9, if_neg c10, if_neg c11, if_pos c17, nI_clamp (show k < 2 ^ 31 by omega)], _, hrr, zO, h1, hk7, ⟨_, h2⟩, ⟨_, _, _, zT⟩, zKT, ⟨_, hrk, zE⟩, zB, zF, ⟨_, zN⟩, zA, zP, zG⟩
                · skip
                  have tc6 := lv_neT (k := 0) (a := 0) c6 (by decide)
                  have tc7 := lv_neT (k := 1) (a := 1) c7 (by decide)
                  have tc8 := lv_neT (k := 2) (a := 2) c8 (by decide)
                  have tc9 := lv_neT (k := 3) (a := 3) c9 (by decide)
                  have tc10 := lv_neT (k := 4) (a := 4) c10 (by decide)
                  have tc11 := lv_neT (k := 5) (a := 5) c11 (by decide)
                  have tc17 := lv_neT (k := 6) (a := 6) c17 (by decide)
                  refine lv_tableOut (tgt := 125) hx hb dX11_of_11 (by omega) (by decide) ?_
                  refine lv_iconst (v := (-1)) hx hb dX11_of_125 (by decide) ?_
                  rw [← hQ]
                  exact g_iret hx hb hr hlk hS dX11_of_126 ⟨by simp only [gqOf, if_pos c5, if_neg c6, if_neg c7, if_neg c8, if_neg c9, if_neg c10, if_neg c11, if_neg c17, nI_clamp (show k < 2 ^ 31 by omega)], _, hrr, zO, h1, hk7, ⟨_, h2⟩, ⟨_, _, _, zT⟩, zKT, ⟨_, hrk, zE⟩, zB, zF, ⟨_, zN⟩, zA, zP, zG⟩
  · have c5 : ¬ (0 ≤ p ∧ p < π 15 0) := gB_0.mp c5
    refine lv_iconst (v := (-1)) hx hb dX11_of_8 (by decide) ?_
    rw [← hQ]
    exact g_iret hx hb hr hlk hS dX11_of_9 ⟨by simp only [gqOf, if_neg c5], _, hrr, zO, h1, hk7, ⟨_, h2⟩, ⟨_, _, _, zT⟩, zKT, ⟨_, hrk, zE⟩, zB, zF, ⟨_, zN⟩, zA, zP, zG⟩

set_option maxHeartbeats 4000000 in
set_option maxRecDepth 100000 in
theorem c_X11_joy (l : Launch) (G : gW) (B lp : Nat) (π πk f μ α : gPS) (lk : Nat) (g : Nat → Int64) (acc : List (Nat × Nat × List Nat)) (hcl : gClo f acc) (hI : gInv π) (hlp : lp = B + 23 ∨ lp = B + 58 ∨ lp = B + 93 ∨ (B + 120 ≤ lp ∧ lp + 6 ≤ B + 156)) (p ws : Int32) : gCI l yX11_joy cX11_joy 3 .int (gRm 4 98) G [.ref B, .int p, .int ws] (fun H => gCW G B lp π lk πk f μ α g H) (fun r H => r = (if 0 ≤ p ∧ p < π 15 0 then (if 0 ≤ ws ∧ ws ≤ 4095 then gJoy π (gLof acc) p.toNatClampNeg ws else -10002) else -10001) ∧ gCW G B lp π lk πk f μ α g H) (fun q => (lp ≤ q ∧ q < lp + 6) ∨ (B ≤ q ∧ q < B + 23) ∨ (B + 36 ≤ q ∧ q < B + 58) ∨ (B + 71 ≤ q ∧ q < B + 93) ∨ (B + 106 ≤ q ∧ q < B + 120)) := by
  refine g_start (by decide) (Nat.le_of_ble_eq_true rfl) ?_
  intro pp_ ee_ s mm_ aa_ below meth cc_ ls Q hQ hX hE hP hl
  obtain ⟨hx, hb, hr, hml, hown, hT, hlk, hnm⟩ := hX
  have hK := hE.2.1
  obtain ⟨ρ, hrr, zO, h1, hk7, ⟨s4, h2⟩, ⟨πt, lt, ρt, zT⟩, zKT, ⟨ρk, hrk, zE⟩, zB, zF, ⟨γ, zN⟩, zA, zP, zG⟩ := hP
  have hS : va_S (fun q => (lp ≤ q ∧ q < lp + 6) ∨ (B ≤ q ∧ q < B + 23) ∨ (B + 36 ≤ q ∧ q < B + 58) ∨ (B + 71 ≤ q ∧ q < B + 93) ∨ (B + 106 ≤ q ∧ q < B + 120)) s.heap s.heap [] := va_S.rf
  have hl : lv_has ls 3 [(0, .ref B), (1, .int p), (2, .int ws)] := hl
  obtain ⟨⟨n, hn, hz, h0z⟩, hki, ⟨sn, hsn, hz3, hsp⟩, ⟨pn, hpn, hz4, hpo⟩, ⟨bn, hbn, hz5, hbo⟩, hfl9⟩ := id hI
  have hd1 : lp + 6 ≤ B + 1 ∨ lp = B + 1 + 22 ∨ B + 1 + 35 ≤ lp := by omega
  have hd36 : lp + 6 ≤ B + 36 ∨ lp = B + 36 + 22 ∨ B + 36 + 35 ≤ lp := by omega
  refine lv_aload_n hx hb dX11_joy_0 rfl (lv_at hl 0 rfl) ?_
  refine lv_iload_n hx hb dX11_joy_1 rfl (lv_at hl 1 rfl) ?_
  refine g_ki (g_runV (T := TX11) (ci := 11) (N := 13) (rest := []) hx hb hml hown hE hT (c_X11_isPigeon l G B lp π ρ μ n hz (by omega) p) gM_X11_isPigeon gm_X11_69 gi_X11_isPigeon gs_RX11_yX11_isPigeon_yX11_isPigeon rfl (zO 0 _ rfl) ⟨zO, h1⟩ rfl hl.1 ⟨rfl, rfl⟩ ⟨Nat.le_of_ble_eq_true rfl, Nat.le_of_ble_eq_true rfl⟩ ⟨Nat.zero_le _, Nat.zero_le _⟩ rfl (Nat.le_of_ble_eq_true rfl) dX11_joy_2) hS (fun _ h => h.elim) (fun r4 H1 locs q2 k3 hS => ?_)
  subst q2
  have zO := gSg_free zO k3 (by intro k hk q; simp only [List.length_cons, List.length_nil] at hk; omega)
  have h1 := gSg_free h1 k3 (by intro k hk q; simp only [List.length_cons, List.length_nil] at hk; omega)
  have hk7 := gSg_free hk7 k3 (by intro k hk q; simp only [List.length_cons, List.length_nil] at hk; omega)
  have h2 := gSg_free h2 k3 (by intro k hk q; simp only [List.length_cons, List.length_nil] at hk; omega)
  have zT := gSg_free zT k3 (by intro k hk q; simp only [List.length_cons, List.length_nil] at hk; omega)
  have zKT := gSg_free zKT k3 (by intro k hk q; simp only [List.length_cons, List.length_nil] at hk; omega)
  have zE := gSg_free zE k3 (by intro k hk q; simp only [List.length_cons, List.length_nil] at hk; omega)
  have zB := gSg_free zB k3 (by intro k hk q; simp only [List.length_cons, List.length_nil] at hk; omega)
  have zF := gSg_free zF k3 (by intro k hk q; simp only [List.length_cons, List.length_nil] at hk; omega)
  have zN := gSg_free zN k3 (by intro k hk q; simp only [List.length_cons, List.length_nil] at hk; omega)
  have zA := gSg_free zA k3 (by intro k hk q; simp only [List.length_cons, List.length_nil] at hk; omega)
  have zP := gSg_free zP k3 (by intro k hk q; simp only [List.length_cons, List.length_nil] at hk; omega)
  have zG := gRows_free zG k3 (by intro k hk q; omega)
  refine lv_if_ne (tgt := 12) hx hb dX11_joy_5 (by decide) (fun c5 => ?_) (fun c5 => ?_)
  · have c5 : 0 ≤ p ∧ p < π 15 0 := gB_1.mp c5
    obtain ⟨k, hk, ek⟩ := gIx hz (by omega) c5
    subst ek
    refine lv_iload_n hx hb dX11_joy_12 rfl (lv_at hl 2 rfl) ?_
    refine lv_sipush (v := 4095) hx hb dX11_joy_13 (by decide) ?_
    refine g_ki (g_runS (rest := []) hx hb hml hown hE hT (c_X11_isUpTo l G ws 4095) gM_X11_isUpTo gm_X11_57 gt_X11_isUpTo trivial rfl hl.1 ⟨rfl, rfl⟩ ⟨Nat.le_of_ble_eq_true rfl, Nat.le_of_ble_eq_true rfl⟩ ⟨Nat.zero_le _, Nat.zero_le _⟩ rfl (Nat.le_of_ble_eq_true rfl) dX11_joy_16) hS (fun _ h => h.elim) (fun r9 H6 locs q7 k8 hS => ?_)
    subst q7
    have zO := gSg_free zO k8 (by intro k hk q; simp only [List.length_cons, List.length_nil] at hk; omega)
    have h1 := gSg_free h1 k8 (by intro k hk q; simp only [List.length_cons, List.length_nil] at hk; omega)
    have hk7 := gSg_free hk7 k8 (by intro k hk q; simp only [List.length_cons, List.length_nil] at hk; omega)
    have h2 := gSg_free h2 k8 (by intro k hk q; simp only [List.length_cons, List.length_nil] at hk; omega)
    have zT := gSg_free zT k8 (by intro k hk q; simp only [List.length_cons, List.length_nil] at hk; omega)
    have zKT := gSg_free zKT k8 (by intro k hk q; simp only [List.length_cons, List.length_nil] at hk; omega)
    have zE := gSg_free zE k8 (by intro k hk q; simp only [List.length_cons, List.length_nil] at hk; omega)
    have zB := gSg_free zB k8 (by intro k hk q; simp only [List.length_cons, List.length_nil] at hk; omega)
    have zF := gSg_free zF k8 (by intro k hk q; simp only [List.length_cons, List.length_nil] at hk; omega)
    have zN := gSg_free zN k8 (by intro k hk q; simp only [List.length_cons, List.length_nil] at hk; omega)
    have zA := gSg_free zA k8 (by intro k hk q; simp only [List.length_cons, List.length_nil] at hk; omega)
    have zP := gSg_free zP k8 (by intro k hk q; simp only [List.length_cons, List.length_nil] at hk; omega)
    have zG := gRows_free zG k8 (by intro k hk q; omega)
    refine lv_if_ne (tgt := 26) hx hb dX11_joy_19 (by decide) (fun c10 => ?_) (fun c10 => ?_)
    · have c10 : 0 ≤ ws ∧ ws ≤ 4095 := gB_1.mp c10
      refine lv_aload_n hx hb dX11_joy_26 rfl (lv_at hl 0 rfl) ?_
      refine g_get (v := .ref (B + 1)) (T := TX11) (ci := 11) (N := 13) hx hb hown hK (gY_X11 hT) rfl (zO 0 _ rfl) 0 (by decide) (hT _ gf_X11_12) rfl dX11_joy_27 ?_
      refine lv_iload_n hx hb dX11_joy_30 rfl (lv_at hl 1 rfl) ?_
      refine lv_iload_n hx hb dX11_joy_31 rfl (lv_at hl 2 rfl) ?_
      obtain ⟨kd, hkd, ek⟩ := hki k (by omega)
      refine g_ki (g_runV (T := TX9) (ci := 9) (N := 16) (rest := []) hx hb hml hown hE hT (c_X9_gladness l G (B + 1) lp π ρ f hd1 acc hcl k (by omega) kd hkd ek ws) gM_X9_gladness gm_X11_95 gi_X9_gladness gs_RX9_yX9_gladness_yX9_gladness rfl (h1 0 _ rfl) ⟨h1, hk7, _, h2⟩ rfl hl.1 ⟨rfl, rfl⟩ ⟨Nat.le_of_ble_eq_true rfl, Nat.le_of_ble_eq_true rfl⟩ ⟨Nat.zero_le _, Nat.zero_le _⟩ rfl (Nat.le_of_ble_eq_true rfl) dX11_joy_32) hS (by intro q hq; omega) (fun r14 H11 locs q12 k13 hS => ?_)
      obtain ⟨e9, h1, hk7, s4, h2⟩ := q12
      rw [e9]
      have zO := gSg_free zO k13 (by intro k hk q; simp only [List.length_cons, List.length_nil] at hk; omega)
      have zT := gSg_free zT k13 (by intro k hk q; simp only [List.length_cons, List.length_nil] at hk; omega)
      have zKT := gSg_free zKT k13 (by intro k hk q; simp only [List.length_cons, List.length_nil] at hk; omega)
      have zE := gSg_free zE k13 (by intro k hk q; simp only [List.length_cons, List.length_nil] at hk; omega)
      have zB := gSg_free zB k13 (by intro k hk q; simp only [List.length_cons, List.length_nil] at hk; omega)
      have zF := gSg_free zF k13 (by intro k hk q; simp only [List.length_cons, List.length_nil] at hk; omega)
      have zN := gSg_free zN k13 (by intro k hk q; simp only [List.length_cons, List.length_nil] at hk; omega)
      have zA := gSg_free zA k13 (by intro k hk q; simp only [List.length_cons, List.length_nil] at hk; omega)
      have zP := gSg_free zP k13 (by intro k hk q; simp only [List.length_cons, List.length_nil] at hk; omega)
      have zG := gRows_free zG k13 (by intro k hk q; omega)
      rw [← hQ]
      exact g_iret hx hb hr hlk hS dX11_joy_35 ⟨by simp only [if_pos c5, if_pos c10, nI_clamp (show k < 2 ^ 31 by omega)], _, hrr, zO, h1, hk7, ⟨_, h2⟩, ⟨_, _, _, zT⟩, zKT, ⟨_, hrk, zE⟩, zB, zF, ⟨_, zN⟩, zA, zP, zG⟩
    · have c10 : ¬ (0 ≤ ws ∧ ws ≤ 4095) := gB_0.mp c10
      refine lv_sipush (v := (-10002)) hx hb dX11_joy_22 (by decide) ?_
      rw [← hQ]
      exact g_iret hx hb hr hlk hS dX11_joy_25 ⟨by simp only [if_pos c5, if_neg c10, nI_clamp (show k < 2 ^ 31 by omega)], _, hrr, zO, h1, hk7, ⟨_, h2⟩, ⟨_, _, _, zT⟩, zKT, ⟨_, hrk, zE⟩, zB, zF, ⟨_, zN⟩, zA, zP, zG⟩
  · have c5 : ¬ (0 ≤ p ∧ p < π 15 0) := gB_0.mp c5
    refine lv_sipush (v := (-10001)) hx hb dX11_joy_8 (by decide) ?_
    rw [← hQ]
    exact g_iret hx hb hr hlk hS dX11_joy_11 ⟨by simp only [if_neg c5], _, hrr, zO, h1, hk7, ⟨_, h2⟩, ⟨_, _, _, zT⟩, zKT, ⟨_, hrk, zE⟩, zB, zF, ⟨_, zN⟩, zA, zP, zG⟩

set_option maxHeartbeats 4000000 in
set_option maxRecDepth 100000 in
theorem c_X11_letter (l : Launch) (G : gW) (B lp : Nat) (π πk f μ α : gPS) (lk : Nat) (g : Nat → Int64) (acc : List (Nat × Nat × List Nat)) (hcl : gClo f acc) (hI : gInv π) (hlp : lp = B + 23 ∨ lp = B + 58 ∨ lp = B + 93 ∨ (B + 120 ≤ lp ∧ lp + 6 ≤ B + 156)) (p w : Int32) : gCI l yX11_letter cX11_letter 4 .int (gRm 1 40) G [.ref B, .int p, .int w] (fun H => gCW G B lp π lk πk f μ α g H) (fun r H => r = (gqLetter π p w).1 ∧ gCW G B lp ((gqLetter π p w).2) lk πk f μ α g H) (fun q => (lp ≤ q ∧ q < lp + 6) ∨ (B ≤ q ∧ q < B + 23) ∨ (B + 36 ≤ q ∧ q < B + 58) ∨ (B + 71 ≤ q ∧ q < B + 93) ∨ (B + 106 ≤ q ∧ q < B + 120)) := by
  refine g_start (by decide) (Nat.le_of_ble_eq_true rfl) ?_
  intro pp_ ee_ s mm_ aa_ below meth cc_ ls Q hQ hX hE hP hl
  obtain ⟨hx, hb, hr, hml, hown, hT, hlk, hnm⟩ := hX
  have hK := hE.2.1
  obtain ⟨ρ, hrr, zO, h1, hk7, ⟨s4, h2⟩, ⟨πt, lt, ρt, zT⟩, zKT, ⟨ρk, hrk, zE⟩, zB, zF, ⟨γ, zN⟩, zA, zP, zG⟩ := hP
  have hS : va_S (fun q => (lp ≤ q ∧ q < lp + 6) ∨ (B ≤ q ∧ q < B + 23) ∨ (B + 36 ≤ q ∧ q < B + 58) ∨ (B + 71 ≤ q ∧ q < B + 93) ∨ (B + 106 ≤ q ∧ q < B + 120)) s.heap s.heap [] := va_S.rf
  have hl : lv_has ls 4 [(0, .ref B), (1, .int p), (2, .int w)] := hl
  obtain ⟨⟨n, hn, hz, h0z⟩, hki, ⟨sn, hsn, hz3, hsp⟩, ⟨pn, hpn, hz4, hpo⟩, ⟨bn, hbn, hz5, hbo⟩, hfl9⟩ := id hI
  have hd1 : lp + 6 ≤ B + 1 ∨ lp = B + 1 + 22 ∨ B + 1 + 35 ≤ lp := by omega
  have hd36 : lp + 6 ≤ B + 36 ∨ lp = B + 36 + 22 ∨ B + 36 + 35 ≤ lp := by omega
  refine lv_aload_n hx hb dX11_letter_0 rfl (lv_at hl 0 rfl) ?_
  refine lv_iload_n hx hb dX11_letter_1 rfl (lv_at hl 1 rfl) ?_
  refine g_ki (g_runV (T := TX11) (ci := 11) (N := 13) (rest := []) hx hb hml hown hE hT (c_X11_isPigeon l G B lp π ρ μ n hz (by omega) p) gM_X11_isPigeon gm_X11_69 gi_X11_isPigeon gs_RX11_yX11_isPigeon_yX11_isPigeon rfl (zO 0 _ rfl) ⟨zO, h1⟩ rfl hl.1 ⟨rfl, rfl⟩ ⟨Nat.le_of_ble_eq_true rfl, Nat.le_of_ble_eq_true rfl⟩ ⟨Nat.zero_le _, Nat.zero_le _⟩ rfl (Nat.le_of_ble_eq_true rfl) dX11_letter_2) hS (fun _ h => h.elim) (fun r4 H1 locs q2 k3 hS => ?_)
  subst q2
  have zO := gSg_free zO k3 (by intro k hk q; simp only [List.length_cons, List.length_nil] at hk; omega)
  have h1 := gSg_free h1 k3 (by intro k hk q; simp only [List.length_cons, List.length_nil] at hk; omega)
  have hk7 := gSg_free hk7 k3 (by intro k hk q; simp only [List.length_cons, List.length_nil] at hk; omega)
  have h2 := gSg_free h2 k3 (by intro k hk q; simp only [List.length_cons, List.length_nil] at hk; omega)
  have zT := gSg_free zT k3 (by intro k hk q; simp only [List.length_cons, List.length_nil] at hk; omega)
  have zKT := gSg_free zKT k3 (by intro k hk q; simp only [List.length_cons, List.length_nil] at hk; omega)
  have zE := gSg_free zE k3 (by intro k hk q; simp only [List.length_cons, List.length_nil] at hk; omega)
  have zB := gSg_free zB k3 (by intro k hk q; simp only [List.length_cons, List.length_nil] at hk; omega)
  have zF := gSg_free zF k3 (by intro k hk q; simp only [List.length_cons, List.length_nil] at hk; omega)
  have zN := gSg_free zN k3 (by intro k hk q; simp only [List.length_cons, List.length_nil] at hk; omega)
  have zA := gSg_free zA k3 (by intro k hk q; simp only [List.length_cons, List.length_nil] at hk; omega)
  have zP := gSg_free zP k3 (by intro k hk q; simp only [List.length_cons, List.length_nil] at hk; omega)
  have zG := gRows_free zG k3 (by intro k hk q; omega)
  refine lv_if_ne (tgt := 10) hx hb dX11_letter_5 (by decide) (fun c5 => ?_) (fun c5 => ?_)
  · have c5 : 0 ≤ p ∧ p < π 15 0 := gB_1.mp c5
    obtain ⟨k, hk, ek⟩ := gIx hz (by omega) c5
    subst ek
    refine lv_iload_n hx hb dX11_letter_10 rfl (lv_at hl 2 rfl) ?_
    refine lv_sipush (v := 4095) hx hb dX11_letter_11 (by decide) ?_
    refine g_ki (g_runS (rest := []) hx hb hml hown hE hT (c_X11_isUpTo l G w 4095) gM_X11_isUpTo gm_X11_57 gt_X11_isUpTo trivial rfl hl.1 ⟨rfl, rfl⟩ ⟨Nat.le_of_ble_eq_true rfl, Nat.le_of_ble_eq_true rfl⟩ ⟨Nat.zero_le _, Nat.zero_le _⟩ rfl (Nat.le_of_ble_eq_true rfl) dX11_letter_14) hS (fun _ h => h.elim) (fun r9 H6 locs q7 k8 hS => ?_)
    subst q7
    have zO := gSg_free zO k8 (by intro k hk q; simp only [List.length_cons, List.length_nil] at hk; omega)
    have h1 := gSg_free h1 k8 (by intro k hk q; simp only [List.length_cons, List.length_nil] at hk; omega)
    have hk7 := gSg_free hk7 k8 (by intro k hk q; simp only [List.length_cons, List.length_nil] at hk; omega)
    have h2 := gSg_free h2 k8 (by intro k hk q; simp only [List.length_cons, List.length_nil] at hk; omega)
    have zT := gSg_free zT k8 (by intro k hk q; simp only [List.length_cons, List.length_nil] at hk; omega)
    have zKT := gSg_free zKT k8 (by intro k hk q; simp only [List.length_cons, List.length_nil] at hk; omega)
    have zE := gSg_free zE k8 (by intro k hk q; simp only [List.length_cons, List.length_nil] at hk; omega)
    have zB := gSg_free zB k8 (by intro k hk q; simp only [List.length_cons, List.length_nil] at hk; omega)
    have zF := gSg_free zF k8 (by intro k hk q; simp only [List.length_cons, List.length_nil] at hk; omega)
    have zN := gSg_free zN k8 (by intro k hk q; simp only [List.length_cons, List.length_nil] at hk; omega)
    have zA := gSg_free zA k8 (by intro k hk q; simp only [List.length_cons, List.length_nil] at hk; omega)
    have zP := gSg_free zP k8 (by intro k hk q; simp only [List.length_cons, List.length_nil] at hk; omega)
    have zG := gRows_free zG k8 (by intro k hk q; omega)
    refine lv_if_ne (tgt := 23) hx hb dX11_letter_17 (by decide) (fun c10 => ?_) (fun c10 => ?_)
    · have c10 : 0 ≤ w ∧ w ≤ 4095 := gB_1.mp c10
      refine lv_aload_n hx hb dX11_letter_23 rfl (lv_at hl 0 rfl) ?_
      refine g_get (v := .ref (B + 1)) (T := TX11) (ci := 11) (N := 13) hx hb hown hK (gY_X11 hT) rfl (zO 0 _ rfl) 0 (by decide) (hT _ gf_X11_12) rfl dX11_letter_24 ?_
      refine g_get (v := .ref (B + 1 + 6)) (T := TX9) (ci := 9) (N := 16) hx hb hown hK (gY_X9 hT) rfl (h1 0 _ rfl) 5 (by decide) (hT _ gf_X11_79) rfl dX11_letter_27 ?_
      refine lv_iload_n hx hb dX11_letter_30 rfl (lv_at hl 1 rfl) ?_
      refine g_ia (j := k) (v := π 4 k) hx hb hK (h1 6 _ rfl) rfl (by omega) (Nat.le_of_ble_eq_true rfl) rfl dX11_letter_31 ?_
      refine lv_istore_n (lv' := [(3, .int (π 4 k)), (0, .ref B), (1, .int (nI k)), (2, .int w)]) hx hb dX11_letter_32 rfl hl (by decide) rfl (fun ls hl => ?_)
      refine lv_aload_n hx hb dX11_letter_33 rfl (lv_at hl 1 rfl) ?_
      refine g_get (v := .ref (B + 1)) (T := TX11) (ci := 11) (N := 13) hx hb hown hK (gY_X11 hT) rfl (zO 0 _ rfl) 0 (by decide) (hT _ gf_X11_12) rfl dX11_letter_34 ?_
      refine g_get (v := .ref (B + 1 + 6)) (T := TX9) (ci := 9) (N := 16) hx hb hown hK (gY_X9 hT) rfl (h1 0 _ rfl) 5 (by decide) (hT _ gf_X11_79) rfl dX11_letter_37 ?_
      refine lv_iload_n hx hb dX11_letter_40 rfl (lv_at hl 2 rfl) ?_
      refine lv_iload_n hx hb dX11_letter_41 rfl (lv_at hl 3 rfl) ?_
      refine g_is (j := k) hx hb hK hS (h1 6 _ rfl) rfl (by omega) (Nat.le_of_ble_eq_true rfl) (by omega) dX11_letter_42 (fun H11 locs c12 oq hS => ?_)
      have h1 : gSg G (B + 1) (gLS G (B + 1) (gU π 4 k w) lp ρ) H11 := gSg_set h1 6 c12 oq
      have zO := gSg_off zO oq (by simp only [List.length_cons, List.length_nil]; omega)
      have hk7 := gSg_off hk7 oq (by simp only [List.length_cons, List.length_nil]; omega)
      have h2 := gSg_off h2 oq (by simp only [List.length_cons, List.length_nil]; omega)
      have zT := gSg_off zT oq (by simp only [List.length_cons, List.length_nil]; omega)
      have zKT := gSg_off zKT oq (by simp only [List.length_cons, List.length_nil]; omega)
      have zE := gSg_off zE oq (by simp only [List.length_cons, List.length_nil]; omega)
      have zB := gSg_off zB oq (by simp only [List.length_cons, List.length_nil]; omega)
      have zF := gSg_off zF oq (by simp only [List.length_cons, List.length_nil]; omega)
      have zN := gSg_off zN oq (by simp only [List.length_cons, List.length_nil]; omega)
      have zA := gSg_off zA oq (by simp only [List.length_cons, List.length_nil]; omega)
      have zP := gSg_off zP oq (by simp only [List.length_cons, List.length_nil]; omega)
      have zG := gRows_off zG oq (by omega)
      refine lv_iload_n hx hb dX11_letter_43 rfl (lv_at hl 0 rfl) ?_
      rw [← hQ]
      exact g_iret hx hb hr hlk hS dX11_letter_44 (by rw [show gqLetter π (nI k) w = (π 4 k, gU π 4 k w) from by simp only [gqLetter, if_pos c5, if_pos c10, nI_clamp (show k < 2 ^ 31 by omega)] <;> rfl]; exact ⟨rfl, _, hrr, zO, h1, hk7, ⟨_, h2⟩, ⟨_, _, _, zT⟩, zKT, ⟨_, hrk, zE⟩, zB, zF, ⟨_, zN⟩, zA, zP, zG⟩)
    · have c10 : ¬ (0 ≤ w ∧ w ≤ 4095) := gB_0.mp c10
      refine lv_bipush (v := (-2)) hx hb dX11_letter_20 (by decide) ?_
      rw [← hQ]
      exact g_iret hx hb hr hlk hS dX11_letter_22 (by rw [show gqLetter π (nI k) w = ((-2), π) from by simp only [gqLetter, if_pos c5, if_neg c10, nI_clamp (show k < 2 ^ 31 by omega)] <;> rfl]; exact ⟨rfl, _, hrr, zO, h1, hk7, ⟨_, h2⟩, ⟨_, _, _, zT⟩, zKT, ⟨_, hrk, zE⟩, zB, zF, ⟨_, zN⟩, zA, zP, zG⟩)
  · have c5 : ¬ (0 ≤ p ∧ p < π 15 0) := gB_0.mp c5
    refine lv_iconst (v := (-1)) hx hb dX11_letter_8 (by decide) ?_
    rw [← hQ]
    exact g_iret hx hb hr hlk hS dX11_letter_9 (by rw [show gqLetter π p w = ((-1), π) from by simp only [gqLetter, if_neg c5] <;> rfl]; exact ⟨rfl, _, hrr, zO, h1, hk7, ⟨_, h2⟩, ⟨_, _, _, zT⟩, zKT, ⟨_, hrk, zE⟩, zB, zF, ⟨_, zN⟩, zA, zP, zG⟩)

set_option maxHeartbeats 4000000 in
set_option maxRecDepth 100000 in
theorem c_X11_tire (l : Launch) (G : gW) (B lp : Nat) (π πk f μ α : gPS) (lk : Nat) (g : Nat → Int64) (acc : List (Nat × Nat × List Nat)) (hcl : gClo f acc) (hI : gInv π) (hlp : lp = B + 23 ∨ lp = B + 58 ∨ lp = B + 93 ∨ (B + 120 ≤ lp ∧ lp + 6 ≤ B + 156)) (p w : Int32) : gCI l yX11_tire cX11_tire 4 .int (gRm 1 40) G [.ref B, .int p, .int w] (fun H => gCW G B lp π lk πk f μ α g H) (fun r H => r = (gqTire π p w).1 ∧ gCW G B lp ((gqTire π p w).2) lk πk f μ α g H) (fun q => (lp ≤ q ∧ q < lp + 6) ∨ (B ≤ q ∧ q < B + 23) ∨ (B + 36 ≤ q ∧ q < B + 58) ∨ (B + 71 ≤ q ∧ q < B + 93) ∨ (B + 106 ≤ q ∧ q < B + 120)) := by
  refine g_start (by decide) (Nat.le_of_ble_eq_true rfl) ?_
  intro pp_ ee_ s mm_ aa_ below meth cc_ ls Q hQ hX hE hP hl
  obtain ⟨hx, hb, hr, hml, hown, hT, hlk, hnm⟩ := hX
  have hK := hE.2.1
  obtain ⟨ρ, hrr, zO, h1, hk7, ⟨s4, h2⟩, ⟨πt, lt, ρt, zT⟩, zKT, ⟨ρk, hrk, zE⟩, zB, zF, ⟨γ, zN⟩, zA, zP, zG⟩ := hP
  have hS : va_S (fun q => (lp ≤ q ∧ q < lp + 6) ∨ (B ≤ q ∧ q < B + 23) ∨ (B + 36 ≤ q ∧ q < B + 58) ∨ (B + 71 ≤ q ∧ q < B + 93) ∨ (B + 106 ≤ q ∧ q < B + 120)) s.heap s.heap [] := va_S.rf
  have hl : lv_has ls 4 [(0, .ref B), (1, .int p), (2, .int w)] := hl
  obtain ⟨⟨n, hn, hz, h0z⟩, hki, ⟨sn, hsn, hz3, hsp⟩, ⟨pn, hpn, hz4, hpo⟩, ⟨bn, hbn, hz5, hbo⟩, hfl9⟩ := id hI
  have hd1 : lp + 6 ≤ B + 1 ∨ lp = B + 1 + 22 ∨ B + 1 + 35 ≤ lp := by omega
  have hd36 : lp + 6 ≤ B + 36 ∨ lp = B + 36 + 22 ∨ B + 36 + 35 ≤ lp := by omega
  refine lv_aload_n hx hb dX11_tire_0 rfl (lv_at hl 0 rfl) ?_
  refine lv_iload_n hx hb dX11_tire_1 rfl (lv_at hl 1 rfl) ?_
  refine g_ki (g_runV (T := TX11) (ci := 11) (N := 13) (rest := []) hx hb hml hown hE hT (c_X11_isPigeon l G B lp π ρ μ n hz (by omega) p) gM_X11_isPigeon gm_X11_69 gi_X11_isPigeon gs_RX11_yX11_isPigeon_yX11_isPigeon rfl (zO 0 _ rfl) ⟨zO, h1⟩ rfl hl.1 ⟨rfl, rfl⟩ ⟨Nat.le_of_ble_eq_true rfl, Nat.le_of_ble_eq_true rfl⟩ ⟨Nat.zero_le _, Nat.zero_le _⟩ rfl (Nat.le_of_ble_eq_true rfl) dX11_tire_2) hS (fun _ h => h.elim) (fun r4 H1 locs q2 k3 hS => ?_)
  subst q2
  have zO := gSg_free zO k3 (by intro k hk q; simp only [List.length_cons, List.length_nil] at hk; omega)
  have h1 := gSg_free h1 k3 (by intro k hk q; simp only [List.length_cons, List.length_nil] at hk; omega)
  have hk7 := gSg_free hk7 k3 (by intro k hk q; simp only [List.length_cons, List.length_nil] at hk; omega)
  have h2 := gSg_free h2 k3 (by intro k hk q; simp only [List.length_cons, List.length_nil] at hk; omega)
  have zT := gSg_free zT k3 (by intro k hk q; simp only [List.length_cons, List.length_nil] at hk; omega)
  have zKT := gSg_free zKT k3 (by intro k hk q; simp only [List.length_cons, List.length_nil] at hk; omega)
  have zE := gSg_free zE k3 (by intro k hk q; simp only [List.length_cons, List.length_nil] at hk; omega)
  have zB := gSg_free zB k3 (by intro k hk q; simp only [List.length_cons, List.length_nil] at hk; omega)
  have zF := gSg_free zF k3 (by intro k hk q; simp only [List.length_cons, List.length_nil] at hk; omega)
  have zN := gSg_free zN k3 (by intro k hk q; simp only [List.length_cons, List.length_nil] at hk; omega)
  have zA := gSg_free zA k3 (by intro k hk q; simp only [List.length_cons, List.length_nil] at hk; omega)
  have zP := gSg_free zP k3 (by intro k hk q; simp only [List.length_cons, List.length_nil] at hk; omega)
  have zG := gRows_free zG k3 (by intro k hk q; omega)
  refine lv_if_ne (tgt := 10) hx hb dX11_tire_5 (by decide) (fun c5 => ?_) (fun c5 => ?_)
  · have c5 : 0 ≤ p ∧ p < π 15 0 := gB_1.mp c5
    obtain ⟨k, hk, ek⟩ := gIx hz (by omega) c5
    subst ek
    refine lv_iload_n hx hb dX11_tire_10 rfl (lv_at hl 2 rfl) ?_
    refine lv_bipush (v := 9) hx hb dX11_tire_11 (by decide) ?_
    refine g_ki (g_runS (rest := []) hx hb hml hown hE hT (c_X11_isUpTo l G w 9) gM_X11_isUpTo gm_X11_57 gt_X11_isUpTo trivial rfl hl.1 ⟨rfl, rfl⟩ ⟨Nat.le_of_ble_eq_true rfl, Nat.le_of_ble_eq_true rfl⟩ ⟨Nat.zero_le _, Nat.zero_le _⟩ rfl (Nat.le_of_ble_eq_true rfl) dX11_tire_13) hS (fun _ h => h.elim) (fun r9 H6 locs q7 k8 hS => ?_)
    subst q7
    have zO := gSg_free zO k8 (by intro k hk q; simp only [List.length_cons, List.length_nil] at hk; omega)
    have h1 := gSg_free h1 k8 (by intro k hk q; simp only [List.length_cons, List.length_nil] at hk; omega)
    have hk7 := gSg_free hk7 k8 (by intro k hk q; simp only [List.length_cons, List.length_nil] at hk; omega)
    have h2 := gSg_free h2 k8 (by intro k hk q; simp only [List.length_cons, List.length_nil] at hk; omega)
    have zT := gSg_free zT k8 (by intro k hk q; simp only [List.length_cons, List.length_nil] at hk; omega)
    have zKT := gSg_free zKT k8 (by intro k hk q; simp only [List.length_cons, List.length_nil] at hk; omega)
    have zE := gSg_free zE k8 (by intro k hk q; simp only [List.length_cons, List.length_nil] at hk; omega)
    have zB := gSg_free zB k8 (by intro k hk q; simp only [List.length_cons, List.length_nil] at hk; omega)
    have zF := gSg_free zF k8 (by intro k hk q; simp only [List.length_cons, List.length_nil] at hk; omega)
    have zN := gSg_free zN k8 (by intro k hk q; simp only [List.length_cons, List.length_nil] at hk; omega)
    have zA := gSg_free zA k8 (by intro k hk q; simp only [List.length_cons, List.length_nil] at hk; omega)
    have zP := gSg_free zP k8 (by intro k hk q; simp only [List.length_cons, List.length_nil] at hk; omega)
    have zG := gRows_free zG k8 (by intro k hk q; omega)
    refine lv_if_ne (tgt := 22) hx hb dX11_tire_16 (by decide) (fun c10 => ?_) (fun c10 => ?_)
    · have c10 : 0 ≤ w ∧ w ≤ 9 := gB_1.mp c10
      refine lv_aload_n hx hb dX11_tire_22 rfl (lv_at hl 0 rfl) ?_
      refine g_get (v := .ref (B + 1)) (T := TX11) (ci := 11) (N := 13) hx hb hown hK (gY_X11 hT) rfl (zO 0 _ rfl) 0 (by decide) (hT _ gf_X11_12) rfl dX11_tire_23 ?_
      refine g_get (v := .ref (B + 1 + 7)) (T := TX9) (ci := 9) (N := 16) hx hb hown hK (gY_X9 hT) rfl (h1 0 _ rfl) 6 (by decide) (hT _ gf_X11_82) rfl dX11_tire_26 ?_
      refine lv_iload_n hx hb dX11_tire_29 rfl (lv_at hl 1 rfl) ?_
      refine g_ia (j := k) (v := π 5 k) hx hb hK (h1 7 _ rfl) rfl (by omega) (Nat.le_of_ble_eq_true rfl) rfl dX11_tire_30 ?_
      refine lv_istore_n (lv' := [(3, .int (π 5 k)), (0, .ref B), (1, .int (nI k)), (2, .int w)]) hx hb dX11_tire_31 rfl hl (by decide) rfl (fun ls hl => ?_)
      refine lv_aload_n hx hb dX11_tire_32 rfl (lv_at hl 1 rfl) ?_
      refine g_get (v := .ref (B + 1)) (T := TX11) (ci := 11) (N := 13) hx hb hown hK (gY_X11 hT) rfl (zO 0 _ rfl) 0 (by decide) (hT _ gf_X11_12) rfl dX11_tire_33 ?_
      refine g_get (v := .ref (B + 1 + 7)) (T := TX9) (ci := 9) (N := 16) hx hb hown hK (gY_X9 hT) rfl (h1 0 _ rfl) 6 (by decide) (hT _ gf_X11_82) rfl dX11_tire_36 ?_
      refine lv_iload_n hx hb dX11_tire_39 rfl (lv_at hl 2 rfl) ?_
      refine lv_iload_n hx hb dX11_tire_40 rfl (lv_at hl 3 rfl) ?_
      refine g_is (j := k) hx hb hK hS (h1 7 _ rfl) rfl (by omega) (Nat.le_of_ble_eq_true rfl) (by omega) dX11_tire_41 (fun H11 locs c12 oq hS => ?_)
      have h1 : gSg G (B + 1) (gLS G (B + 1) (gU π 5 k w) lp ρ) H11 := gSg_set h1 7 c12 oq
      have zO := gSg_off zO oq (by simp only [List.length_cons, List.length_nil]; omega)
      have hk7 := gSg_off hk7 oq (by simp only [List.length_cons, List.length_nil]; omega)
      have h2 := gSg_off h2 oq (by simp only [List.length_cons, List.length_nil]; omega)
      have zT := gSg_off zT oq (by simp only [List.length_cons, List.length_nil]; omega)
      have zKT := gSg_off zKT oq (by simp only [List.length_cons, List.length_nil]; omega)
      have zE := gSg_off zE oq (by simp only [List.length_cons, List.length_nil]; omega)
      have zB := gSg_off zB oq (by simp only [List.length_cons, List.length_nil]; omega)
      have zF := gSg_off zF oq (by simp only [List.length_cons, List.length_nil]; omega)
      have zN := gSg_off zN oq (by simp only [List.length_cons, List.length_nil]; omega)
      have zA := gSg_off zA oq (by simp only [List.length_cons, List.length_nil]; omega)
      have zP := gSg_off zP oq (by simp only [List.length_cons, List.length_nil]; omega)
      have zG := gRows_off zG oq (by omega)
      refine lv_iload_n hx hb dX11_tire_42 rfl (lv_at hl 0 rfl) ?_
      rw [← hQ]
      exact g_iret hx hb hr hlk hS dX11_tire_43 (by rw [show gqTire π (nI k) w = (π 5 k, gU π 5 k w) from by simp only [gqTire, if_pos c5, if_pos c10, nI_clamp (show k < 2 ^ 31 by omega)] <;> rfl]; exact ⟨rfl, _, hrr, zO, h1, hk7, ⟨_, h2⟩, ⟨_, _, _, zT⟩, zKT, ⟨_, hrk, zE⟩, zB, zF, ⟨_, zN⟩, zA, zP, zG⟩)
    · have c10 : ¬ (0 ≤ w ∧ w ≤ 9) := gB_0.mp c10
      refine lv_bipush (v := (-2)) hx hb dX11_tire_19 (by decide) ?_
      rw [← hQ]
      exact g_iret hx hb hr hlk hS dX11_tire_21 (by rw [show gqTire π (nI k) w = ((-2), π) from by simp only [gqTire, if_pos c5, if_neg c10, nI_clamp (show k < 2 ^ 31 by omega)] <;> rfl]; exact ⟨rfl, _, hrr, zO, h1, hk7, ⟨_, h2⟩, ⟨_, _, _, zT⟩, zKT, ⟨_, hrk, zE⟩, zB, zF, ⟨_, zN⟩, zA, zP, zG⟩)
  · have c5 : ¬ (0 ≤ p ∧ p < π 15 0) := gB_0.mp c5
    refine lv_iconst (v := (-1)) hx hb dX11_tire_8 (by decide) ?_
    rw [← hQ]
    exact g_iret hx hb hr hlk hS dX11_tire_9 (by rw [show gqTire π p w = ((-1), π) from by simp only [gqTire, if_neg c5] <;> rfl]; exact ⟨rfl, _, hrr, zO, h1, hk7, ⟨_, h2⟩, ⟨_, _, _, zT⟩, zKT, ⟨_, hrk, zE⟩, zB, zF, ⟨_, zN⟩, zA, zP, zG⟩)

set_option maxHeartbeats 4000000 in
set_option maxRecDepth 100000 in
theorem c_X11_phrase (l : Launch) (G : gW) (B lp : Nat) (π πk f μ α : gPS) (lk : Nat) (g : Nat → Int64) (acc : List (Nat × Nat × List Nat)) (hcl : gClo f acc) (hI : gInv π) (hlp : lp = B + 23 ∨ lp = B + 58 ∨ lp = B + 93 ∨ (B + 120 ≤ lp ∧ lp + 6 ≤ B + 156)) (w wh x : Int32) : gCI l yX11_phrase cX11_phrase 6 .int (gRm 1 40) G [.ref B, .int w, .int wh, .int x] (fun H => gCW G B lp π lk πk f μ α g H) (fun r H => r = (gqPhrase π w wh x).1 ∧ gCW G B lp ((gqPhrase π w wh x).2) lk πk f μ α g H) (fun q => (lp ≤ q ∧ q < lp + 6) ∨ (B ≤ q ∧ q < B + 23) ∨ (B + 36 ≤ q ∧ q < B + 58) ∨ (B + 71 ≤ q ∧ q < B + 93) ∨ (B + 106 ≤ q ∧ q < B + 120)) := by
  refine g_start (by decide) (Nat.le_of_ble_eq_true rfl) ?_
  intro pp_ ee_ s mm_ aa_ below meth cc_ ls Q hQ hX hE hP hl
  obtain ⟨hx, hb, hr, hml, hown, hT, hlk, hnm⟩ := hX
  have hK := hE.2.1
  obtain ⟨ρ, hrr, zO, h1, hk7, ⟨s4, h2⟩, ⟨πt, lt, ρt, zT⟩, zKT, ⟨ρk, hrk, zE⟩, zB, zF, ⟨γ, zN⟩, zA, zP, zG⟩ := hP
  have hS : va_S (fun q => (lp ≤ q ∧ q < lp + 6) ∨ (B ≤ q ∧ q < B + 23) ∨ (B + 36 ≤ q ∧ q < B + 58) ∨ (B + 71 ≤ q ∧ q < B + 93) ∨ (B + 106 ≤ q ∧ q < B + 120)) s.heap s.heap [] := va_S.rf
  have hl : lv_has ls 6 [(0, .ref B), (1, .int w), (2, .int wh), (3, .int x)] := hl
  obtain ⟨⟨n, hn, hz, h0z⟩, hki, ⟨sn, hsn, hz3, hsp⟩, ⟨pn, hpn, hz4, hpo⟩, ⟨bn, hbn, hz5, hbo⟩, hfl9⟩ := id hI
  have hd1 : lp + 6 ≤ B + 1 ∨ lp = B + 1 + 22 ∨ B + 1 + 35 ≤ lp := by omega
  have hd36 : lp + 6 ≤ B + 36 ∨ lp = B + 36 + 22 ∨ B + 36 + 35 ≤ lp := by omega
  refine lv_iload_n hx hb dX11_phrase_0 rfl (lv_at hl 1 rfl) ?_
  refine g_ki (g_runS (rest := []) hx hb hml hown hE hT (c_X11_isWord l G w) gM_X11_isWord gm_X11_98 gt_X11_isWord trivial rfl hl.1 ⟨rfl, rfl⟩ ⟨Nat.le_of_ble_eq_true rfl, Nat.le_of_ble_eq_true rfl⟩ ⟨Nat.zero_le _, Nat.zero_le _⟩ rfl (Nat.le_of_ble_eq_true rfl) dX11_phrase_1) hS (fun _ h => h.elim) (fun r4 H1 locs q2 k3 hS => ?_)
  subst q2
  have zO := gSg_free zO k3 (by intro k hk q; simp only [List.length_cons, List.length_nil] at hk; omega)
  have h1 := gSg_free h1 k3 (by intro k hk q; simp only [List.length_cons, List.length_nil] at hk; omega)
  have hk7 := gSg_free hk7 k3 (by intro k hk q; simp only [List.length_cons, List.length_nil] at hk; omega)
  have h2 := gSg_free h2 k3 (by intro k hk q; simp only [List.length_cons, List.length_nil] at hk; omega)
  have zT := gSg_free zT k3 (by intro k hk q; simp only [List.length_cons, List.length_nil] at hk; omega)
  have zKT := gSg_free zKT k3 (by intro k hk q; simp only [List.length_cons, List.length_nil] at hk; omega)
  have zE := gSg_free zE k3 (by intro k hk q; simp only [List.length_cons, List.length_nil] at hk; omega)
  have zB := gSg_free zB k3 (by intro k hk q; simp only [List.length_cons, List.length_nil] at hk; omega)
  have zF := gSg_free zF k3 (by intro k hk q; simp only [List.length_cons, List.length_nil] at hk; omega)
  have zN := gSg_free zN k3 (by intro k hk q; simp only [List.length_cons, List.length_nil] at hk; omega)
  have zA := gSg_free zA k3 (by intro k hk q; simp only [List.length_cons, List.length_nil] at hk; omega)
  have zP := gSg_free zP k3 (by intro k hk q; simp only [List.length_cons, List.length_nil] at hk; omega)
  have zG := gRows_free zG k3 (by intro k hk q; omega)
  refine lv_if_eq (tgt := 15) hx hb dX11_phrase_4 (by decide) (fun c5 => ?_) (fun c5 => ?_)
  · have c5 : ¬ (0 ≤ w ∧ w ≤ 11) := gB_0.mp c5
    refine lv_iconst (v := (-1)) hx hb dX11_phrase_15 (by decide) ?_
    rw [← hQ]
    exact g_iret hx hb hr hlk hS dX11_phrase_16 (by rw [show gqPhrase π w wh x = ((-1), π) from by simp only [gqPhrase, if_neg c5] <;> rfl]; exact ⟨rfl, _, hrr, zO, h1, hk7, ⟨_, h2⟩, ⟨_, _, _, zT⟩, zKT, ⟨_, hrk, zE⟩, zB, zF, ⟨_, zN⟩, zA, zP, zG⟩)
  · have c5 : 0 ≤ w ∧ w ≤ 11 := gB_1.mp c5
    obtain ⟨k, hk, ek⟩ := gIw (M := 11) (n := 11) rfl (by decide) c5
    subst ek
    refine lv_iload_n hx hb dX11_phrase_7 rfl (lv_at hl 2 rfl) ?_
    refine lv_iconst (v := 1) hx hb dX11_phrase_8 (by decide) ?_
    refine g_ki (g_runS (rest := []) hx hb hml hown hE hT (c_X11_isUpTo l G wh 1) gM_X11_isUpTo gm_X11_57 gt_X11_isUpTo trivial rfl hl.1 ⟨rfl, rfl⟩ ⟨Nat.le_of_ble_eq_true rfl, Nat.le_of_ble_eq_true rfl⟩ ⟨Nat.zero_le _, Nat.zero_le _⟩ rfl (Nat.le_of_ble_eq_true rfl) dX11_phrase_9) hS (fun _ h => h.elim) (fun r9 H6 locs q7 k8 hS => ?_)
    subst q7
    have zO := gSg_free zO k8 (by intro k hk q; simp only [List.length_cons, List.length_nil] at hk; omega)
    have h1 := gSg_free h1 k8 (by intro k hk q; simp only [List.length_cons, List.length_nil] at hk; omega)
    have hk7 := gSg_free hk7 k8 (by intro k hk q; simp only [List.length_cons, List.length_nil] at hk; omega)
    have h2 := gSg_free h2 k8 (by intro k hk q; simp only [List.length_cons, List.length_nil] at hk; omega)
    have zT := gSg_free zT k8 (by intro k hk q; simp only [List.length_cons, List.length_nil] at hk; omega)
    have zKT := gSg_free zKT k8 (by intro k hk q; simp only [List.length_cons, List.length_nil] at hk; omega)
    have zE := gSg_free zE k8 (by intro k hk q; simp only [List.length_cons, List.length_nil] at hk; omega)
    have zB := gSg_free zB k8 (by intro k hk q; simp only [List.length_cons, List.length_nil] at hk; omega)
    have zF := gSg_free zF k8 (by intro k hk q; simp only [List.length_cons, List.length_nil] at hk; omega)
    have zN := gSg_free zN k8 (by intro k hk q; simp only [List.length_cons, List.length_nil] at hk; omega)
    have zA := gSg_free zA k8 (by intro k hk q; simp only [List.length_cons, List.length_nil] at hk; omega)
    have zP := gSg_free zP k8 (by intro k hk q; simp only [List.length_cons, List.length_nil] at hk; omega)
    have zG := gRows_free zG k8 (by intro k hk q; omega)
    refine lv_if_ne (tgt := 17) hx hb dX11_phrase_12 (by decide) (fun c10 => ?_) (fun c10 => ?_)
    · have c10 : 0 ≤ wh ∧ wh ≤ 1 := gB_1.mp c10
      refine lv_iload_n hx hb dX11_phrase_17 rfl (lv_at hl 3 rfl) ?_
      refine lv_iload_n hx hb dX11_phrase_18 rfl (lv_at hl 2 rfl) ?_
      refine lv_if_ne (tgt := 27) hx hb dX11_phrase_19 (by decide) (fun c11 => ?_) (fun c11 => ?_)
      · refine lv_sipush (v := 255) hx hb dX11_phrase_27 (by decide) ?_
        refine g_ki (g_runS (rest := []) hx hb hml hown hE hT (c_X11_isUpTo l G x 255) gM_X11_isUpTo gm_X11_57 gt_X11_isUpTo trivial rfl hl.1 ⟨rfl, rfl⟩ ⟨Nat.le_of_ble_eq_true rfl, Nat.le_of_ble_eq_true rfl⟩ ⟨Nat.zero_le _, Nat.zero_le _⟩ rfl (Nat.le_of_ble_eq_true rfl) dX11_phrase_30) hS (fun _ h => h.elim) (fun r15 H12 locs q13 k14 hS => ?_)
        subst q13
        have zO := gSg_free zO k14 (by intro k hk q; simp only [List.length_cons, List.length_nil] at hk; omega)
        have h1 := gSg_free h1 k14 (by intro k hk q; simp only [List.length_cons, List.length_nil] at hk; omega)
        have hk7 := gSg_free hk7 k14 (by intro k hk q; simp only [List.length_cons, List.length_nil] at hk; omega)
        have h2 := gSg_free h2 k14 (by intro k hk q; simp only [List.length_cons, List.length_nil] at hk; omega)
        have zT := gSg_free zT k14 (by intro k hk q; simp only [List.length_cons, List.length_nil] at hk; omega)
        have zKT := gSg_free zKT k14 (by intro k hk q; simp only [List.length_cons, List.length_nil] at hk; omega)
        have zE := gSg_free zE k14 (by intro k hk q; simp only [List.length_cons, List.length_nil] at hk; omega)
        have zB := gSg_free zB k14 (by intro k hk q; simp only [List.length_cons, List.length_nil] at hk; omega)
        have zF := gSg_free zF k14 (by intro k hk q; simp only [List.length_cons, List.length_nil] at hk; omega)
        have zN := gSg_free zN k14 (by intro k hk q; simp only [List.length_cons, List.length_nil] at hk; omega)
        have zA := gSg_free zA k14 (by intro k hk q; simp only [List.length_cons, List.length_nil] at hk; omega)
        have zP := gSg_free zP k14 (by intro k hk q; simp only [List.length_cons, List.length_nil] at hk; omega)
        have zG := gRows_free zG k14 (by intro k hk q; omega)
        refine lv_if_ne (tgt := 39) hx hb dX11_phrase_33 (by decide) (fun c16 => ?_) (fun c16 => ?_)
        · have c16 : 0 ≤ x ∧ x ≤ 255 := gB_1.mp c16
          refine lv_iload_n hx hb dX11_phrase_39 rfl (lv_at hl 2 rfl) ?_
          refine lv_if_ne (tgt := 53) hx hb dX11_phrase_40 (by decide) (fun c17 => ?_) (fun c17 => ?_)
          · refine lv_aload_n hx hb dX11_phrase_53 rfl (lv_at hl 0 rfl) ?_
            refine g_get (v := .ref (B + 1)) (T := TX11) (ci := 11) (N := 13) hx hb hown hK (gY_X11 hT) rfl (zO 0 _ rfl) 0 (by decide) (hT _ gf_X11_12) rfl dX11_phrase_54 ?_
            refine g_get (v := .ref (B + 1 + 3)) (T := TX9) (ci := 9) (N := 16) hx hb hown hK (gY_X9 hT) rfl (h1 0 _ rfl) 2 (by decide) (hT _ gf_X11_104) rfl dX11_phrase_57 ?_
            refine lv_astore (lv' := [(4, .ref (B + 1 + 3)), (0, .ref B), (1, .int (nI k)), (2, .int wh), (3, .int x)]) hx hb dX11_phrase_60 hl (by decide) rfl (fun ls hl => ?_)
            refine lv_aload hx hb dX11_phrase_62 (lv_at hl 0 rfl) ?_
            refine lv_iload_n hx hb dX11_phrase_64 rfl (lv_at hl 2 rfl) ?_
            refine g_ia (j := k) (v := π 1 k) hx hb hK (h1 3 _ rfl) rfl (by omega) (Nat.le_of_ble_eq_true rfl) rfl dX11_phrase_65 ?_
            refine lv_istore (lv' := [(5, .int (π 1 k)), (4, .ref (B + 1 + 3)), (0, .ref B), (1, .int (nI k)), (2, .int wh), (3, .int x)]) hx hb dX11_phrase_66 hl (by decide) rfl (fun ls hl => ?_)
            refine lv_aload hx hb dX11_phrase_68 (lv_at hl 1 rfl) ?_
            refine lv_iload_n hx hb dX11_phrase_70 rfl (lv_at hl 3 rfl) ?_
            refine lv_iload_n hx hb dX11_phrase_71 rfl (lv_at hl 5 rfl) ?_
            refine g_is (j := k) hx hb hK hS (h1 3 _ rfl) rfl (by omega) (Nat.le_of_ble_eq_true rfl) (by omega) dX11_phrase_72 (fun H18 locs c19 oq hS => ?_)
            have h1 : gSg G (B + 1) (gLS G (B + 1) (gU π 1 k x) lp ρ) H18 := gSg_set h1 3 c19 oq
            have zO := gSg_off zO oq (by simp only [List.length_cons, List.length_nil]; omega)
            have hk7 := gSg_off hk7 oq (by simp only [List.length_cons, List.length_nil]; omega)
            have h2 := gSg_off h2 oq (by simp only [List.length_cons, List.length_nil]; omega)
            have zT := gSg_off zT oq (by simp only [List.length_cons, List.length_nil]; omega)
            have zKT := gSg_off zKT oq (by simp only [List.length_cons, List.length_nil]; omega)
            have zE := gSg_off zE oq (by simp only [List.length_cons, List.length_nil]; omega)
            have zB := gSg_off zB oq (by simp only [List.length_cons, List.length_nil]; omega)
            have zF := gSg_off zF oq (by simp only [List.length_cons, List.length_nil]; omega)
            have zN := gSg_off zN oq (by simp only [List.length_cons, List.length_nil]; omega)
            have zA := gSg_off zA oq (by simp only [List.length_cons, List.length_nil]; omega)
            have zP := gSg_off zP oq (by simp only [List.length_cons, List.length_nil]; omega)
            have zG := gRows_off zG oq (by omega)
            refine lv_iload hx hb dX11_phrase_73 (lv_at hl 0 rfl) ?_
            rw [← hQ]
            exact g_iret hx hb hr hlk hS dX11_phrase_75 (by rw [show gqPhrase π (nI k) wh x = (π 1 k, gU π 1 k x) from by simp only [gqPhrase, if_pos c5, if_pos c10, if_neg c11, if_pos c16, nI_clamp (show k < 2 ^ 31 by omega)] <;> rfl]; exact ⟨rfl, _, hrr, zO, h1, hk7, ⟨_, h2⟩, ⟨_, _, _, zT⟩, zKT, ⟨_, hrk, zE⟩, zB, zF, ⟨_, zN⟩, zA, zP, zG⟩)
          · exact absurd c17 c11
        · have c16 : ¬ (0 ≤ x ∧ x ≤ 255) := gB_0.mp c16
          refine lv_bipush (v := (-2)) hx hb dX11_phrase_36 (by decide) ?_
          rw [← hQ]
          exact g_iret hx hb hr hlk hS dX11_phrase_38 (by rw [show gqPhrase π (nI k) wh x = ((-2), π) from by simp only [gqPhrase, if_pos c5, if_pos c10, if_neg c11, if_neg c16, nI_clamp (show k < 2 ^ 31 by omega)] <;> rfl]; exact ⟨rfl, _, hrr, zO, h1, hk7, ⟨_, h2⟩, ⟨_, _, _, zT⟩, zKT, ⟨_, hrk, zE⟩, zB, zF, ⟨_, zN⟩, zA, zP, zG⟩)
      · refine lv_bipush (v := 9) hx hb dX11_phrase_22 (by decide) ?_
        refine lv_goto (tgt := 30) hx hb dX11_phrase_24 (by decide) ?_
        refine g_ki (g_runS (rest := []) hx hb hml hown hE hT (c_X11_isUpTo l G x 9) gM_X11_isUpTo gm_X11_57 gt_X11_isUpTo trivial rfl hl.1 ⟨rfl, rfl⟩ ⟨Nat.le_of_ble_eq_true rfl, Nat.le_of_ble_eq_true rfl⟩ ⟨Nat.zero_le _, Nat.zero_le _⟩ rfl (Nat.le_of_ble_eq_true rfl) dX11_phrase_30) hS (fun _ h => h.elim) (fun r23 H20 locs q21 k22 hS => ?_)
        subst q21
        have zO := gSg_free zO k22 (by intro k hk q; simp only [List.length_cons, List.length_nil] at hk; omega)
        have h1 := gSg_free h1 k22 (by intro k hk q; simp only [List.length_cons, List.length_nil] at hk; omega)
        have hk7 := gSg_free hk7 k22 (by intro k hk q; simp only [List.length_cons, List.length_nil] at hk; omega)
        have h2 := gSg_free h2 k22 (by intro k hk q; simp only [List.length_cons, List.length_nil] at hk; omega)
        have zT := gSg_free zT k22 (by intro k hk q; simp only [List.length_cons, List.length_nil] at hk; omega)
        have zKT := gSg_free zKT k22 (by intro k hk q; simp only [List.length_cons, List.length_nil] at hk; omega)
        have zE := gSg_free zE k22 (by intro k hk q; simp only [List.length_cons, List.length_nil] at hk; omega)
        have zB := gSg_free zB k22 (by intro k hk q; simp only [List.length_cons, List.length_nil] at hk; omega)
        have zF := gSg_free zF k22 (by intro k hk q; simp only [List.length_cons, List.length_nil] at hk; omega)
        have zN := gSg_free zN k22 (by intro k hk q; simp only [List.length_cons, List.length_nil] at hk; omega)
        have zA := gSg_free zA k22 (by intro k hk q; simp only [List.length_cons, List.length_nil] at hk; omega)
        have zP := gSg_free zP k22 (by intro k hk q; simp only [List.length_cons, List.length_nil] at hk; omega)
        have zG := gRows_free zG k22 (by intro k hk q; omega)
        refine lv_if_ne (tgt := 39) hx hb dX11_phrase_33 (by decide) (fun c24 => ?_) (fun c24 => ?_)
        · have c24 : 0 ≤ x ∧ x ≤ 9 := gB_1.mp c24
          refine lv_iload_n hx hb dX11_phrase_39 rfl (lv_at hl 2 rfl) ?_
          refine lv_if_ne (tgt := 53) hx hb dX11_phrase_40 (by decide) (fun c25 => ?_) (fun c25 => ?_)
          · exact absurd c11 c25
          · refine lv_aload_n hx hb dX11_phrase_43 rfl (lv_at hl 0 rfl) ?_
            refine g_get (v := .ref (B + 1)) (T := TX11) (ci := 11) (N := 13) hx hb hown hK (gY_X11 hT) rfl (zO 0 _ rfl) 0 (by decide) (hT _ gf_X11_12) rfl dX11_phrase_44 ?_
            refine g_get (v := .ref (B + 1 + 2)) (T := TX9) (ci := 9) (N := 16) hx hb hown hK (gY_X9 hT) rfl (h1 0 _ rfl) 1 (by decide) (hT _ gf_X11_101) rfl dX11_phrase_47 ?_
            refine lv_goto (tgt := 60) hx hb dX11_phrase_50 (by decide) ?_
            refine lv_astore (lv' := [(4, .ref (B + 1 + 2)), (0, .ref B), (1, .int (nI k)), (2, .int wh), (3, .int x)]) hx hb dX11_phrase_60 hl (by decide) rfl (fun ls hl => ?_)
            refine lv_aload hx hb dX11_phrase_62 (lv_at hl 0 rfl) ?_
            refine lv_iload_n hx hb dX11_phrase_64 rfl (lv_at hl 2 rfl) ?_
            refine g_ia (j := k) (v := π 0 k) hx hb hK (h1 2 _ rfl) rfl (by omega) (Nat.le_of_ble_eq_true rfl) rfl dX11_phrase_65 ?_
            refine lv_istore (lv' := [(5, .int (π 0 k)), (4, .ref (B + 1 + 2)), (0, .ref B), (1, .int (nI k)), (2, .int wh), (3, .int x)]) hx hb dX11_phrase_66 hl (by decide) rfl (fun ls hl => ?_)
            refine lv_aload hx hb dX11_phrase_68 (lv_at hl 1 rfl) ?_
            refine lv_iload_n hx hb dX11_phrase_70 rfl (lv_at hl 3 rfl) ?_
            refine lv_iload_n hx hb dX11_phrase_71 rfl (lv_at hl 5 rfl) ?_
            refine g_is (j := k) hx hb hK hS (h1 2 _ rfl) rfl (by omega) (Nat.le_of_ble_eq_true rfl) (by omega) dX11_phrase_72 (fun H26 locs c27 oq hS => ?_)
            have h1 : gSg G (B + 1) (gLS G (B + 1) (gU π 0 k x) lp ρ) H26 := gSg_set h1 2 c27 oq
            have zO := gSg_off zO oq (by simp only [List.length_cons, List.length_nil]; omega)
            have hk7 := gSg_off hk7 oq (by simp only [List.length_cons, List.length_nil]; omega)
            have h2 := gSg_off h2 oq (by simp only [List.length_cons, List.length_nil]; omega)
            have zT := gSg_off zT oq (by simp only [List.length_cons, List.length_nil]; omega)
            have zKT := gSg_off zKT oq (by simp only [List.length_cons, List.length_nil]; omega)
            have zE := gSg_off zE oq (by simp only [List.length_cons, List.length_nil]; omega)
            have zB := gSg_off zB oq (by simp only [List.length_cons, List.length_nil]; omega)
            have zF := gSg_off zF oq (by simp only [List.length_cons, List.length_nil]; omega)
            have zN := gSg_off zN oq (by simp only [List.length_cons, List.length_nil]; omega)
            have zA := gSg_off zA oq (by simp only [List.length_cons, List.length_nil]; omega)
            have zP := gSg_off zP oq (by simp only [List.length_cons, List.length_nil]; omega)
            have zG := gRows_off zG oq (by omega)
            refine lv_iload hx hb dX11_phrase_73 (lv_at hl 0 rfl) ?_
            rw [← hQ]
            exact g_iret hx hb hr hlk hS dX11_phrase_75 (by rw [show gqPhrase π (nI k) wh x = (π 0 k, gU π 0 k x) from by simp only [gqPhrase, if_pos c5, if_pos c10, if_pos c11, if_pos c24, nI_clamp (show k < 2 ^ 31 by omega)] <;> rfl]; exact ⟨rfl, _, hrr, zO, h1, hk7, ⟨_, h2⟩, ⟨_, _, _, zT⟩, zKT, ⟨_, hrk, zE⟩, zB, zF, ⟨_, zN⟩, zA, zP, zG⟩)
        · have c24 : ¬ (0 ≤ x ∧ x ≤ 9) := gB_0.mp c24
          refine lv_bipush (v := (-2)) hx hb dX11_phrase_36 (by decide) ?_
          rw [← hQ]
          exact g_iret hx hb hr hlk hS dX11_phrase_38 (by rw [show gqPhrase π (nI k) wh x = ((-2), π) from by simp only [gqPhrase, if_pos c5, if_pos c10, if_pos c11, if_neg c24, nI_clamp (show k < 2 ^ 31 by omega)] <;> rfl]; exact ⟨rfl, _, hrr, zO, h1, hk7, ⟨_, h2⟩, ⟨_, _, _, zT⟩, zKT, ⟨_, hrk, zE⟩, zB, zF, ⟨_, zN⟩, zA, zP, zG⟩)
    · have c10 : ¬ (0 ≤ wh ∧ wh ≤ 1) := gB_0.mp c10
      refine lv_iconst (v := (-1)) hx hb dX11_phrase_15 (by decide) ?_
      rw [← hQ]
      exact g_iret hx hb hr hlk hS dX11_phrase_16 (by rw [show gqPhrase π (nI k) wh x = ((-1), π) from by simp only [gqPhrase, if_pos c5, if_neg c10, nI_clamp (show k < 2 ^ 31 by omega)] <;> rfl]; exact ⟨rfl, _, hrr, zO, h1, hk7, ⟨_, h2⟩, ⟨_, _, _, zT⟩, zKT, ⟨_, hrk, zE⟩, zB, zF, ⟨_, zN⟩, zA, zP, zG⟩)

set_option maxHeartbeats 4000000 in
set_option maxRecDepth 100000 in
theorem c_X11_row (l : Launch) (G : gW) (B lp : Nat) (π πk f μ α : gPS) (lk : Nat) (g : Nat → Int64) (acc : List (Nat × Nat × List Nat)) (hcl : gClo f acc) (hI : gInv π) (hlp : lp = B + 23 ∨ lp = B + 58 ∨ lp = B + 93 ∨ (B + 120 ≤ lp ∧ lp + 6 ≤ B + 156)) (p q x : Int32) : gCI l yX11_row cX11_row 6 .int (gRm 1 40) G [.ref B, .int p, .int q, .int x] (fun H => gCW G B lp π lk πk f μ α g H) (fun r H => r = (gqRow π p q x).1 ∧ gCW G B lp ((gqRow π p q x).2) lk πk f μ α g H) (fun q => (lp ≤ q ∧ q < lp + 6) ∨ (B ≤ q ∧ q < B + 23) ∨ (B + 36 ≤ q ∧ q < B + 58) ∨ (B + 71 ≤ q ∧ q < B + 93) ∨ (B + 106 ≤ q ∧ q < B + 120)) := by
  refine g_start (by decide) (Nat.le_of_ble_eq_true rfl) ?_
  intro pp_ ee_ s mm_ aa_ below meth cc_ ls Q hQ hX hE hP hl
  obtain ⟨hx, hb, hr, hml, hown, hT, hlk, hnm⟩ := hX
  have hK := hE.2.1
  obtain ⟨ρ, hrr, zO, h1, hk7, ⟨s4, h2⟩, ⟨πt, lt, ρt, zT⟩, zKT, ⟨ρk, hrk, zE⟩, zB, zF, ⟨γ, zN⟩, zA, zP, zG⟩ := hP
  have hS : va_S (fun q => (lp ≤ q ∧ q < lp + 6) ∨ (B ≤ q ∧ q < B + 23) ∨ (B + 36 ≤ q ∧ q < B + 58) ∨ (B + 71 ≤ q ∧ q < B + 93) ∨ (B + 106 ≤ q ∧ q < B + 120)) s.heap s.heap [] := va_S.rf
  have hl : lv_has ls 6 [(0, .ref B), (1, .int p), (2, .int q), (3, .int x)] := hl
  obtain ⟨⟨n, hn, hz, h0z⟩, hki, ⟨sn, hsn, hz3, hsp⟩, ⟨pn, hpn, hz4, hpo⟩, ⟨bn, hbn, hz5, hbo⟩, hfl9⟩ := id hI
  have hd1 : lp + 6 ≤ B + 1 ∨ lp = B + 1 + 22 ∨ B + 1 + 35 ≤ lp := by omega
  have hd36 : lp + 6 ≤ B + 36 ∨ lp = B + 36 + 22 ∨ B + 36 + 35 ≤ lp := by omega
  refine lv_aload_n hx hb dX11_row_0 rfl (lv_at hl 0 rfl) ?_
  refine lv_iload_n hx hb dX11_row_1 rfl (lv_at hl 1 rfl) ?_
  refine g_ki (g_runV (T := TX11) (ci := 11) (N := 13) (rest := []) hx hb hml hown hE hT (c_X11_isPigeon l G B lp π ρ μ n hz (by omega) p) gM_X11_isPigeon gm_X11_69 gi_X11_isPigeon gs_RX11_yX11_isPigeon_yX11_isPigeon rfl (zO 0 _ rfl) ⟨zO, h1⟩ rfl hl.1 ⟨rfl, rfl⟩ ⟨Nat.le_of_ble_eq_true rfl, Nat.le_of_ble_eq_true rfl⟩ ⟨Nat.zero_le _, Nat.zero_le _⟩ rfl (Nat.le_of_ble_eq_true rfl) dX11_row_2) hS (fun _ h => h.elim) (fun r4 H1 locs q2 k3 hS => ?_)
  subst q2
  have zO := gSg_free zO k3 (by intro k hk q; simp only [List.length_cons, List.length_nil] at hk; omega)
  have h1 := gSg_free h1 k3 (by intro k hk q; simp only [List.length_cons, List.length_nil] at hk; omega)
  have hk7 := gSg_free hk7 k3 (by intro k hk q; simp only [List.length_cons, List.length_nil] at hk; omega)
  have h2 := gSg_free h2 k3 (by intro k hk q; simp only [List.length_cons, List.length_nil] at hk; omega)
  have zT := gSg_free zT k3 (by intro k hk q; simp only [List.length_cons, List.length_nil] at hk; omega)
  have zKT := gSg_free zKT k3 (by intro k hk q; simp only [List.length_cons, List.length_nil] at hk; omega)
  have zE := gSg_free zE k3 (by intro k hk q; simp only [List.length_cons, List.length_nil] at hk; omega)
  have zB := gSg_free zB k3 (by intro k hk q; simp only [List.length_cons, List.length_nil] at hk; omega)
  have zF := gSg_free zF k3 (by intro k hk q; simp only [List.length_cons, List.length_nil] at hk; omega)
  have zN := gSg_free zN k3 (by intro k hk q; simp only [List.length_cons, List.length_nil] at hk; omega)
  have zA := gSg_free zA k3 (by intro k hk q; simp only [List.length_cons, List.length_nil] at hk; omega)
  have zP := gSg_free zP k3 (by intro k hk q; simp only [List.length_cons, List.length_nil] at hk; omega)
  have zG := gRows_free zG k3 (by intro k hk q; omega)
  refine lv_if_eq (tgt := 16) hx hb dX11_row_5 (by decide) (fun c5 => ?_) (fun c5 => ?_)
  · have c5 : ¬ (0 ≤ p ∧ p < π 15 0) := gB_0.mp c5
    refine lv_iconst (v := (-1)) hx hb dX11_row_16 (by decide) ?_
    rw [← hQ]
    exact g_iret hx hb hr hlk hS dX11_row_17 (by rw [show gqRow π p q x = ((-1), π) from by simp only [gqRow, if_neg c5] <;> rfl]; exact ⟨rfl, _, hrr, zO, h1, hk7, ⟨_, h2⟩, ⟨_, _, _, zT⟩, zKT, ⟨_, hrk, zE⟩, zB, zF, ⟨_, zN⟩, zA, zP, zG⟩)
  · have c5 : 0 ≤ p ∧ p < π 15 0 := gB_1.mp c5
    obtain ⟨k, hk, ek⟩ := gIx hz (by omega) c5
    subst ek
    refine lv_iload_n hx hb dX11_row_8 rfl (lv_at hl 2 rfl) ?_
    refine lv_iconst (v := 3) hx hb dX11_row_9 (by decide) ?_
    refine g_ki (g_runS (rest := []) hx hb hml hown hE hT (c_X11_isUpTo l G q 3) gM_X11_isUpTo gm_X11_57 gt_X11_isUpTo trivial rfl hl.1 ⟨rfl, rfl⟩ ⟨Nat.le_of_ble_eq_true rfl, Nat.le_of_ble_eq_true rfl⟩ ⟨Nat.zero_le _, Nat.zero_le _⟩ rfl (Nat.le_of_ble_eq_true rfl) dX11_row_10) hS (fun _ h => h.elim) (fun r9 H6 locs q7 k8 hS => ?_)
    subst q7
    have zO := gSg_free zO k8 (by intro k hk q; simp only [List.length_cons, List.length_nil] at hk; omega)
    have h1 := gSg_free h1 k8 (by intro k hk q; simp only [List.length_cons, List.length_nil] at hk; omega)
    have hk7 := gSg_free hk7 k8 (by intro k hk q; simp only [List.length_cons, List.length_nil] at hk; omega)
    have h2 := gSg_free h2 k8 (by intro k hk q; simp only [List.length_cons, List.length_nil] at hk; omega)
    have zT := gSg_free zT k8 (by intro k hk q; simp only [List.length_cons, List.length_nil] at hk; omega)
    have zKT := gSg_free zKT k8 (by intro k hk q; simp only [List.length_cons, List.length_nil] at hk; omega)
    have zE := gSg_free zE k8 (by intro k hk q; simp only [List.length_cons, List.length_nil] at hk; omega)
    have zB := gSg_free zB k8 (by intro k hk q; simp only [List.length_cons, List.length_nil] at hk; omega)
    have zF := gSg_free zF k8 (by intro k hk q; simp only [List.length_cons, List.length_nil] at hk; omega)
    have zN := gSg_free zN k8 (by intro k hk q; simp only [List.length_cons, List.length_nil] at hk; omega)
    have zA := gSg_free zA k8 (by intro k hk q; simp only [List.length_cons, List.length_nil] at hk; omega)
    have zP := gSg_free zP k8 (by intro k hk q; simp only [List.length_cons, List.length_nil] at hk; omega)
    have zG := gRows_free zG k8 (by intro k hk q; omega)
    refine lv_if_ne (tgt := 18) hx hb dX11_row_13 (by decide) (fun c10 => ?_) (fun c10 => ?_)
    · have c10 : 0 ≤ q ∧ q ≤ 3 := gB_1.mp c10
      obtain ⟨j, hj, ej⟩ := gIw (M := 3) (n := 3) rfl (by decide) c10
      subst ej
      refine lv_iload_n hx hb dX11_row_18 rfl (lv_at hl 3 rfl) ?_
      refine lv_bipush (v := 9) hx hb dX11_row_19 (by decide) ?_
      refine g_ki (g_runS (rest := []) hx hb hml hown hE hT (c_X11_isUpTo l G x 9) gM_X11_isUpTo gm_X11_57 gt_X11_isUpTo trivial rfl hl.1 ⟨rfl, rfl⟩ ⟨Nat.le_of_ble_eq_true rfl, Nat.le_of_ble_eq_true rfl⟩ ⟨Nat.zero_le _, Nat.zero_le _⟩ rfl (Nat.le_of_ble_eq_true rfl) dX11_row_21) hS (fun _ h => h.elim) (fun r14 H11 locs q12 k13 hS => ?_)
      subst q12
      have zO := gSg_free zO k13 (by intro k hk q; simp only [List.length_cons, List.length_nil] at hk; omega)
      have h1 := gSg_free h1 k13 (by intro k hk q; simp only [List.length_cons, List.length_nil] at hk; omega)
      have hk7 := gSg_free hk7 k13 (by intro k hk q; simp only [List.length_cons, List.length_nil] at hk; omega)
      have h2 := gSg_free h2 k13 (by intro k hk q; simp only [List.length_cons, List.length_nil] at hk; omega)
      have zT := gSg_free zT k13 (by intro k hk q; simp only [List.length_cons, List.length_nil] at hk; omega)
      have zKT := gSg_free zKT k13 (by intro k hk q; simp only [List.length_cons, List.length_nil] at hk; omega)
      have zE := gSg_free zE k13 (by intro k hk q; simp only [List.length_cons, List.length_nil] at hk; omega)
      have zB := gSg_free zB k13 (by intro k hk q; simp only [List.length_cons, List.length_nil] at hk; omega)
      have zF := gSg_free zF k13 (by intro k hk q; simp only [List.length_cons, List.length_nil] at hk; omega)
      have zN := gSg_free zN k13 (by intro k hk q; simp only [List.length_cons, List.length_nil] at hk; omega)
      have zA := gSg_free zA k13 (by intro k hk q; simp only [List.length_cons, List.length_nil] at hk; omega)
      have zP := gSg_free zP k13 (by intro k hk q; simp only [List.length_cons, List.length_nil] at hk; omega)
      have zG := gRows_free zG k13 (by intro k hk q; omega)
      refine lv_if_ne (tgt := 30) hx hb dX11_row_24 (by decide) (fun c15 => ?_) (fun c15 => ?_)
      · have c15 : 0 ≤ x ∧ x ≤ 9 := gB_1.mp c15
        refine lv_aload_n hx hb dX11_row_30 rfl (lv_at hl 0 rfl) ?_
        refine g_get (v := .ref (B + 1)) (T := TX11) (ci := 11) (N := 13) hx hb hown hK (gY_X11 hT) rfl (zO 0 _ rfl) 0 (by decide) (hT _ gf_X11_12) rfl dX11_row_31 ?_
        refine g_get (v := .ref (B + 1 + 4)) (T := TX9) (ci := 9) (N := 16) hx hb hown hK (gY_X9 hT) rfl (h1 0 _ rfl) 3 (by decide) (hT _ gf_X11_73) rfl dX11_row_34 ?_
        refine lv_iload_n hx hb dX11_row_37 rfl (lv_at hl 1 rfl) ?_
        refine g_ia (j := k) (v := π 2 k) hx hb hK (h1 4 _ rfl) rfl (by omega) (Nat.le_of_ble_eq_true rfl) rfl dX11_row_38 ?_
        refine lv_bipush (v := 6) hx hb dX11_row_39 (by decide) ?_
        refine lv_icmp_eq (tgt := 47) hx hb dX11_row_41 (by decide) (fun c16 => ?_) (fun c16 => ?_)
        · refine lv_iload_n hx hb dX11_row_47 rfl (lv_at hl 1 rfl) ?_
          refine lv_iconst (v := 4) hx hb dX11_row_48 (by decide) ?_
          refine lv_imul hx hb dX11_row_49 ?_
          rw [show ((nI k) * 4 : Int32) = nI (k * 4) from (gMul rfl rfl)]
          refine lv_iload_n hx hb dX11_row_50 rfl (lv_at hl 2 rfl) ?_
          refine lv_iadd hx hb dX11_row_51 ?_
          rw [show ((nI (k * 4)) + (nI j) : Int32) = nI ((k * 4) + j) from (gAdd rfl rfl)]
          refine lv_istore (lv' := [(4, .int (nI ((k * 4) + j))), (0, .ref B), (1, .int (nI k)), (2, .int (nI j)), (3, .int x)]) hx hb dX11_row_52 hl (by decide) rfl (fun ls hl => ?_)
          refine lv_aload_n hx hb dX11_row_54 rfl (lv_at hl 1 rfl) ?_
          refine g_get (v := .ref (B + 1)) (T := TX11) (ci := 11) (N := 13) hx hb hown hK (gY_X11 hT) rfl (zO 0 _ rfl) 0 (by decide) (hT _ gf_X11_12) rfl dX11_row_55 ?_
          refine g_get (v := .ref (B + 1 + 9)) (T := TX9) (ci := 9) (N := 16) hx hb hown hK (gY_X9 hT) rfl (h1 0 _ rfl) 8 (by decide) (hT _ gf_X11_107) rfl dX11_row_58 ?_
          refine lv_iload hx hb dX11_row_61 (lv_at hl 0 rfl) ?_
          refine g_ia (j := (k * 4) + j) (v := π 7 ((k * 4) + j)) hx hb hK (h1 9 _ rfl) rfl (by omega) (Nat.le_of_ble_eq_true rfl) rfl dX11_row_63 ?_
          refine lv_istore (lv' := [(5, .int (π 7 ((k * 4) + j))), (4, .int (nI ((k * 4) + j))), (0, .ref B), (1, .int (nI k)), (2, .int (nI j)), (3, .int x)]) hx hb dX11_row_64 hl (by decide) rfl (fun ls hl => ?_)
          refine lv_aload_n hx hb dX11_row_66 rfl (lv_at hl 2 rfl) ?_
          refine g_get (v := .ref (B + 1)) (T := TX11) (ci := 11) (N := 13) hx hb hown hK (gY_X11 hT) rfl (zO 0 _ rfl) 0 (by decide) (hT _ gf_X11_12) rfl dX11_row_67 ?_
          refine g_get (v := .ref (B + 1 + 9)) (T := TX9) (ci := 9) (N := 16) hx hb hown hK (gY_X9 hT) rfl (h1 0 _ rfl) 8 (by decide) (hT _ gf_X11_107) rfl dX11_row_70 ?_
          refine lv_iload hx hb dX11_row_73 (lv_at hl 1 rfl) ?_
          refine lv_iload_n hx hb dX11_row_75 rfl (lv_at hl 5 rfl) ?_
          refine g_is (j := (k * 4) + j) hx hb hK hS (h1 9 _ rfl) rfl (by omega) (Nat.le_of_ble_eq_true rfl) (by omega) dX11_row_76 (fun H17 locs c18 oq hS => ?_)
          have h1 : gSg G (B + 1) (gLS G (B + 1) (gU π 7 ((k * 4) + j) x) lp ρ) H17 := gSg_set h1 9 c18 oq
          have zO := gSg_off zO oq (by simp only [List.length_cons, List.length_nil]; omega)
          have hk7 := gSg_off hk7 oq (by simp only [List.length_cons, List.length_nil]; omega)
          have h2 := gSg_off h2 oq (by simp only [List.length_cons, List.length_nil]; omega)
          have zT := gSg_off zT oq (by simp only [List.length_cons, List.length_nil]; omega)
          have zKT := gSg_off zKT oq (by simp only [List.length_cons, List.length_nil]; omega)
          have zE := gSg_off zE oq (by simp only [List.length_cons, List.length_nil]; omega)
          have zB := gSg_off zB oq (by simp only [List.length_cons, List.length_nil]; omega)
          have zF := gSg_off zF oq (by simp only [List.length_cons, List.length_nil]; omega)
          have zN := gSg_off zN oq (by simp only [List.length_cons, List.length_nil]; omega)
          have zA := gSg_off zA oq (by simp only [List.length_cons, List.length_nil]; omega)
          have zP := gSg_off zP oq (by simp only [List.length_cons, List.length_nil]; omega)
          have zG := gRows_off zG oq (by omega)
          refine lv_iload hx hb dX11_row_77 (lv_at hl 0 rfl) ?_
          rw [← hQ]
          exact g_iret hx hb hr hlk hS dX11_row_79 (by rw [show gqRow π (nI k) (nI j) x = (π 7 ((k * 4) + j), gU π 7 ((k * 4) + j) x) from by simp only [gqRow, if_pos c5, if_pos c10, if_pos c15, if_pos c16, nI_clamp (show k < 2 ^ 31 by omega), nI_clamp (show j < 2 ^ 31 by omega), Nat.mul_comm 4 k] <;> rfl]; exact ⟨rfl, _, hrr, zO, h1, hk7, ⟨_, h2⟩, ⟨_, _, _, zT⟩, zKT, ⟨_, hrk, zE⟩, zB, zF, ⟨_, zN⟩, zA, zP, zG⟩)
        · refine lv_bipush (v := (-3)) hx hb dX11_row_44 (by decide) ?_
          rw [← hQ]
          exact g_iret hx hb hr hlk hS dX11_row_46 (by rw [show gqRow π (nI k) (nI j) x = ((-3), π) from by simp only [gqRow, if_pos c5, if_pos c10, if_pos c15, if_neg c16, nI_clamp (show k < 2 ^ 31 by omega), nI_clamp (show j < 2 ^ 31 by omega), Nat.mul_comm 4 k] <;> rfl]; exact ⟨rfl, _, hrr, zO, h1, hk7, ⟨_, h2⟩, ⟨_, _, _, zT⟩, zKT, ⟨_, hrk, zE⟩, zB, zF, ⟨_, zN⟩, zA, zP, zG⟩)
      · have c15 : ¬ (0 ≤ x ∧ x ≤ 9) := gB_0.mp c15
        refine lv_bipush (v := (-2)) hx hb dX11_row_27 (by decide) ?_
        rw [← hQ]
        exact g_iret hx hb hr hlk hS dX11_row_29 (by rw [show gqRow π (nI k) (nI j) x = ((-2), π) from by simp only [gqRow, if_pos c5, if_pos c10, if_neg c15, nI_clamp (show k < 2 ^ 31 by omega), nI_clamp (show j < 2 ^ 31 by omega), Nat.mul_comm 4 k] <;> rfl]; exact ⟨rfl, _, hrr, zO, h1, hk7, ⟨_, h2⟩, ⟨_, _, _, zT⟩, zKT, ⟨_, hrk, zE⟩, zB, zF, ⟨_, zN⟩, zA, zP, zG⟩)
    · have c10 : ¬ (0 ≤ q ∧ q ≤ 3) := gB_0.mp c10
      refine lv_iconst (v := (-1)) hx hb dX11_row_16 (by decide) ?_
      rw [← hQ]
      exact g_iret hx hb hr hlk hS dX11_row_17 (by rw [show gqRow π (nI k) q x = ((-1), π) from by simp only [gqRow, if_pos c5, if_neg c10, nI_clamp (show k < 2 ^ 31 by omega)] <;> rfl]; exact ⟨rfl, _, hrr, zO, h1, hk7, ⟨_, h2⟩, ⟨_, _, _, zT⟩, zKT, ⟨_, hrk, zE⟩, zB, zF, ⟨_, zN⟩, zA, zP, zG⟩)

set_option maxHeartbeats 4000000 in
set_option maxRecDepth 100000 in
theorem c_X11_feed (l : Launch) (G : gW) (B lp : Nat) (π πk f μ α : gPS) (lk : Nat) (g : Nat → Int64) (acc : List (Nat × Nat × List Nat)) (hcl : gClo f acc) (hI : gInv π) (hlp : lp = B + 23 ∨ lp = B + 58 ∨ lp = B + 93 ∨ (B + 120 ≤ lp ∧ lp + 6 ≤ B + 156)) (tn : Nat) (htn : μ 4 0 = nI tn) (ltn : tn ≤ 100) (sg : Int32) : gCI l yX11_feed cX11_feed 2 .int (gRm 1 40) G [.ref B, .int sg] (fun H => gCW G B lp π lk πk f μ α g H) (fun r H => r = (gqFeed μ sg).1 ∧ gCW G B lp π lk πk f ((gqFeed μ sg).2) α g H) (fun q => (lp ≤ q ∧ q < lp + 6) ∨ (B ≤ q ∧ q < B + 23) ∨ (B + 36 ≤ q ∧ q < B + 58) ∨ (B + 71 ≤ q ∧ q < B + 93) ∨ (B + 106 ≤ q ∧ q < B + 120)) := by
  refine g_start (by decide) (Nat.le_of_ble_eq_true rfl) ?_
  intro pp_ ee_ s mm_ aa_ below meth cc_ ls Q hQ hX hE hP hl
  obtain ⟨hx, hb, hr, hml, hown, hT, hlk, hnm⟩ := hX
  have hK := hE.2.1
  obtain ⟨ρ, hrr, zO, h1, hk7, ⟨s4, h2⟩, ⟨πt, lt, ρt, zT⟩, zKT, ⟨ρk, hrk, zE⟩, zB, zF, ⟨γ, zN⟩, zA, zP, zG⟩ := hP
  have hS : va_S (fun q => (lp ≤ q ∧ q < lp + 6) ∨ (B ≤ q ∧ q < B + 23) ∨ (B + 36 ≤ q ∧ q < B + 58) ∨ (B + 71 ≤ q ∧ q < B + 93) ∨ (B + 106 ≤ q ∧ q < B + 120)) s.heap s.heap [] := va_S.rf
  have hl : lv_has ls 2 [(0, .ref B), (1, .int sg)] := hl
  obtain ⟨⟨n, hn, hz, h0z⟩, hki, ⟨sn, hsn, hz3, hsp⟩, ⟨pn, hpn, hz4, hpo⟩, ⟨bn, hbn, hz5, hbo⟩, hfl9⟩ := id hI
  have hd1 : lp + 6 ≤ B + 1 ∨ lp = B + 1 + 22 ∨ B + 1 + 35 ≤ lp := by omega
  have hd36 : lp + 6 ≤ B + 36 ∨ lp = B + 36 + 22 ∨ B + 36 + 35 ≤ lp := by omega
  refine lv_iload_n hx hb dX11_feed_0 rfl (lv_at hl 1 rfl) ?_
  refine lv_bipush (v := 127) hx hb dX11_feed_1 (by decide) ?_
  refine g_ki (g_runS (rest := []) hx hb hml hown hE hT (c_X11_isUpTo l G sg 127) gM_X11_isUpTo gm_X11_57 gt_X11_isUpTo trivial rfl hl.1 ⟨rfl, rfl⟩ ⟨Nat.le_of_ble_eq_true rfl, Nat.le_of_ble_eq_true rfl⟩ ⟨Nat.zero_le _, Nat.zero_le _⟩ rfl (Nat.le_of_ble_eq_true rfl) dX11_feed_3) hS (fun _ h => h.elim) (fun r4 H1 locs q2 k3 hS => ?_)
  subst q2
  have zO := gSg_free zO k3 (by intro k hk q; simp only [List.length_cons, List.length_nil] at hk; omega)
  have h1 := gSg_free h1 k3 (by intro k hk q; simp only [List.length_cons, List.length_nil] at hk; omega)
  have hk7 := gSg_free hk7 k3 (by intro k hk q; simp only [List.length_cons, List.length_nil] at hk; omega)
  have h2 := gSg_free h2 k3 (by intro k hk q; simp only [List.length_cons, List.length_nil] at hk; omega)
  have zT := gSg_free zT k3 (by intro k hk q; simp only [List.length_cons, List.length_nil] at hk; omega)
  have zKT := gSg_free zKT k3 (by intro k hk q; simp only [List.length_cons, List.length_nil] at hk; omega)
  have zE := gSg_free zE k3 (by intro k hk q; simp only [List.length_cons, List.length_nil] at hk; omega)
  have zB := gSg_free zB k3 (by intro k hk q; simp only [List.length_cons, List.length_nil] at hk; omega)
  have zF := gSg_free zF k3 (by intro k hk q; simp only [List.length_cons, List.length_nil] at hk; omega)
  have zN := gSg_free zN k3 (by intro k hk q; simp only [List.length_cons, List.length_nil] at hk; omega)
  have zA := gSg_free zA k3 (by intro k hk q; simp only [List.length_cons, List.length_nil] at hk; omega)
  have zP := gSg_free zP k3 (by intro k hk q; simp only [List.length_cons, List.length_nil] at hk; omega)
  have zG := gRows_free zG k3 (by intro k hk q; omega)
  refine lv_if_ne (tgt := 12) hx hb dX11_feed_6 (by decide) (fun c5 => ?_) (fun c5 => ?_)
  · have c5 : 0 ≤ sg ∧ sg ≤ 127 := gB_1.mp c5
    obtain ⟨j, hj, ej⟩ := gIw (M := 127) (n := 127) rfl (by decide) c5
    subst ej
    refine lv_aload_n hx hb dX11_feed_12 rfl (lv_at hl 0 rfl) ?_
    refine g_get (v := .int (μ 4 0)) (T := TX11) (ci := 11) (N := 13) hx hb hown hK (gY_X11 hT) rfl (zO 0 _ rfl) 5 (by decide) (hT _ gf_X11_110) rfl dX11_feed_13 ?_
    refine lv_bipush (v := 100) hx hb dX11_feed_16 (by decide) ?_
    refine lv_icmp_lt (tgt := 24) hx hb dX11_feed_18 (by decide) (fun c6 => ?_) (fun c6 => ?_)
    · have c6 : tn < 100 := (gLt (a := tn) (b := 100) htn rfl (by omega) (by omega)).mp c6
      refine lv_aload_n hx hb dX11_feed_24 rfl (lv_at hl 0 rfl) ?_
      refine g_get (v := .ref (B + 106)) (T := TX11) (ci := 11) (N := 13) hx hb hown hK (gY_X11 hT) rfl (zO 0 _ rfl) 4 (by decide) (hT _ gf_X11_24) rfl dX11_feed_25 ?_
      refine lv_aload_n hx hb dX11_feed_28 rfl (lv_at hl 0 rfl) ?_
      refine g_get (v := .int (μ 4 0)) (T := TX11) (ci := 11) (N := 13) hx hb hown hK (gY_X11 hT) rfl (zO 0 _ rfl) 5 (by decide) (hT _ gf_X11_110) rfl dX11_feed_29 ?_
      refine lv_iload_n hx hb dX11_feed_32 rfl (lv_at hl 1 rfl) ?_
      refine lv_i2b hx hb dX11_feed_33 rfl ?_
      refine g_bs (j := tn) hx hb hK hS (zB 0 _ rfl) htn (by omega) (Nat.le_of_ble_eq_true rfl) (by omega) dX11_feed_34 (fun H7 locs c8 oq hS => ?_)
      have zB : gSg G (B + 106) (gLB2 G (B + 106) (gU μ 0 tn (vp_nar .byte ((nI j).toInt8.toInt32)))) H7 := gSg_set zB 0 c8 oq
      have zO := gSg_off zO oq (by simp only [List.length_cons, List.length_nil]; omega)
      have h1 := gSg_off h1 oq (by simp only [List.length_cons, List.length_nil]; omega)
      have hk7 := gSg_off hk7 oq (by simp only [List.length_cons, List.length_nil]; omega)
      have h2 := gSg_off h2 oq (by simp only [List.length_cons, List.length_nil]; omega)
      have zT := gSg_off zT oq (by simp only [List.length_cons, List.length_nil]; omega)
      have zKT := gSg_off zKT oq (by simp only [List.length_cons, List.length_nil]; omega)
      have zE := gSg_off zE oq (by simp only [List.length_cons, List.length_nil]; omega)
      have zF := gSg_off zF oq (by simp only [List.length_cons, List.length_nil]; omega)
      have zN := gSg_off zN oq (by simp only [List.length_cons, List.length_nil]; omega)
      have zA := gSg_off zA oq (by simp only [List.length_cons, List.length_nil]; omega)
      have zP := gSg_off zP oq (by simp only [List.length_cons, List.length_nil]; omega)
      have zG := gRows_off zG oq (by omega)
      rw [gNb j (by omega)] at zB
      refine lv_aload_n hx hb dX11_feed_35 rfl (lv_at hl 0 rfl) ?_
      refine lv_dup hx hb dX11_feed_36 rfl ?_
      refine g_get (v := .int (μ 4 0)) (T := TX11) (ci := 11) (N := 13) hx hb hown hK (gY_X11 hT) rfl (zO 0 _ rfl) 5 (by decide) (hT _ gf_X11_110) rfl dX11_feed_37 ?_
      refine lv_iconst (v := 1) hx hb dX11_feed_40 (by decide) ?_
      refine lv_iadd hx hb dX11_feed_41 ?_
      rw [show ((μ 4 0) + 1 : Int32) = nI (tn + 1) from (gAdd htn rfl)]
      refine g_put (T := TX11) (ci := 11) (N := 13) (ty0 := tyX11) hx hb hown hK hS (gY_X11 hT) tyX11_ok nmX11 rfl (zO 0 _ rfl) 5 (by decide) (hT _ gf_X11_110) rfl rfl rfl (Nat.le_of_ble_eq_true rfl) (by omega) dX11_feed_42 (fun H9 locs c10 oq hS => ?_)
      have zO : gSg G B (gLO G B (gU μ 4 0 (nI (tn + 1)))) H9 := gSg_set zO 0 c10 oq
      have h1 := gSg_off h1 oq (by simp only [List.length_cons, List.length_nil]; omega)
      have hk7 := gSg_off hk7 oq (by simp only [List.length_cons, List.length_nil]; omega)
      have h2 := gSg_off h2 oq (by simp only [List.length_cons, List.length_nil]; omega)
      have zT := gSg_off zT oq (by simp only [List.length_cons, List.length_nil]; omega)
      have zKT := gSg_off zKT oq (by simp only [List.length_cons, List.length_nil]; omega)
      have zE := gSg_off zE oq (by simp only [List.length_cons, List.length_nil]; omega)
      have zB := gSg_off zB oq (by simp only [List.length_cons, List.length_nil]; omega)
      have zF := gSg_off zF oq (by simp only [List.length_cons, List.length_nil]; omega)
      have zN := gSg_off zN oq (by simp only [List.length_cons, List.length_nil]; omega)
      have zA := gSg_off zA oq (by simp only [List.length_cons, List.length_nil]; omega)
      have zP := gSg_off zP oq (by simp only [List.length_cons, List.length_nil]; omega)
      have zG := gRows_off zG oq (by omega)
      refine lv_aload_n hx hb dX11_feed_45 rfl (lv_at hl 0 rfl) ?_
      refine g_get (v := .int (nI (tn + 1))) (T := TX11) (ci := 11) (N := 13) hx hb hown hK (gY_X11 hT) rfl (zO 0 _ rfl) 5 (by decide) (hT _ gf_X11_110) rfl dX11_feed_46 ?_
      rw [← hQ]
      exact g_iret hx hb hr hlk hS dX11_feed_49 (by rw [show gqFeed μ (nI j) = (nI (tn + 1), gU (gU μ 4 0 (nI (tn + 1))) 0 tn (nI j)) from by rw [gqFeed, if_pos c5, if_neg (show ¬ μ 4 0 = 100 from fun z => absurd ((gEq (b := 100) htn rfl (by omega) (by omega)).mp z) (by omega)), htn, show (nI tn).toNatClampNeg = tn from nI_clamp (by omega), show (nI tn + 1 : Int32) = nI (tn + 1) from gAdd rfl rfl]]; exact ⟨rfl, _, hrr, zO, h1, hk7, ⟨_, h2⟩, ⟨_, _, _, zT⟩, zKT, ⟨_, hrk, zE⟩, zB, zF, ⟨_, zN⟩, zA, zP, zG⟩)
    · have c6 : ¬ tn < 100 := fun z => c6 ((gLt (a := tn) (b := 100) htn rfl (by omega) (by omega)).mpr z)
      refine lv_bipush (v := (-4)) hx hb dX11_feed_21 (by decide) ?_
      rw [← hQ]
      exact g_iret hx hb hr hlk hS dX11_feed_23 (by rw [show gqFeed μ (nI j) = ((-4), μ) from by simp only [gqFeed, if_pos c5, if_pos (show μ 4 0 = 100 from (gEq (b := 100) htn rfl (by omega) (by omega)).mpr (by omega))]]; exact ⟨rfl, _, hrr, zO, h1, hk7, ⟨_, h2⟩, ⟨_, _, _, zT⟩, zKT, ⟨_, hrk, zE⟩, zB, zF, ⟨_, zN⟩, zA, zP, zG⟩)
  · have c5 : ¬ (0 ≤ sg ∧ sg ≤ 127) := gB_0.mp c5
    refine lv_bipush (v := (-2)) hx hb dX11_feed_9 (by decide) ?_
    rw [← hQ]
    exact g_iret hx hb hr hlk hS dX11_feed_11 (by rw [show gqFeed μ sg = ((-2), μ) from by simp only [gqFeed, if_neg c5]]; exact ⟨rfl, _, hrr, zO, h1, hk7, ⟨_, h2⟩, ⟨_, _, _, zT⟩, zKT, ⟨_, hrk, zE⟩, zB, zF, ⟨_, zN⟩, zA, zP, zG⟩)

set_option maxHeartbeats 4000000 in
set_option maxRecDepth 100000 in
theorem c_X11_count (l : Launch) (G : gW) (B lp : Nat) (π πk f μ α : gPS) (lk : Nat) (g : Nat → Int64) (acc : List (Nat × Nat × List Nat)) (hcl : gClo f acc) (hI : gInv π) (hlp : lp = B + 23 ∨ lp = B + 58 ∨ lp = B + 93 ∨ (B + 120 ≤ lp ∧ lp + 6 ≤ B + 156)) (hr1 : α 1 0 = μ 4 1) (wh : Int32) : gCI l yX11_count cX11_count 2 .int (gRm 1 40) G [.ref B, .int wh] (fun H => gCW G B lp π lk πk f μ α g H) (fun r H => r = gqCount π μ wh ∧ gCW G B lp π lk πk f μ α g H) (fun q => (lp ≤ q ∧ q < lp + 6) ∨ (B ≤ q ∧ q < B + 23) ∨ (B + 36 ≤ q ∧ q < B + 58) ∨ (B + 71 ≤ q ∧ q < B + 93) ∨ (B + 106 ≤ q ∧ q < B + 120)) := by
  refine g_start (by decide) (Nat.le_of_ble_eq_true rfl) ?_
  intro pp_ ee_ s mm_ aa_ below meth cc_ ls Q hQ hX hE hP hl
  obtain ⟨hx, hb, hr, hml, hown, hT, hlk, hnm⟩ := hX
  have hK := hE.2.1
  obtain ⟨ρ, hrr, zO, h1, hk7, ⟨s4, h2⟩, ⟨πt, lt, ρt, zT⟩, zKT, ⟨ρk, hrk, zE⟩, zB, zF, ⟨γ, zN⟩, zA, zP, zG⟩ := hP
  have hS : va_S (fun q => (lp ≤ q ∧ q < lp + 6) ∨ (B ≤ q ∧ q < B + 23) ∨ (B + 36 ≤ q ∧ q < B + 58) ∨ (B + 71 ≤ q ∧ q < B + 93) ∨ (B + 106 ≤ q ∧ q < B + 120)) s.heap s.heap [] := va_S.rf
  have hl : lv_has ls 2 [(0, .ref B), (1, .int wh)] := hl
  obtain ⟨⟨n, hn, hz, h0z⟩, hki, ⟨sn, hsn, hz3, hsp⟩, ⟨pn, hpn, hz4, hpo⟩, ⟨bn, hbn, hz5, hbo⟩, hfl9⟩ := id hI
  have hd1 : lp + 6 ≤ B + 1 ∨ lp = B + 1 + 22 ∨ B + 1 + 35 ≤ lp := by omega
  have hd36 : lp + 6 ≤ B + 36 ∨ lp = B + 36 + 22 ∨ B + 36 + 35 ≤ lp := by omega
  refine lv_iload_n hx hb dX11_count_0 rfl (lv_at hl 1 rfl) ?_
  by_cases c1 : wh = 0
  · refine lv_tableIn (off := 43) (tgt := 44) hx hb dX11_count_1 (by rw [c1]; decide) (by rw [c1]; decide) (by rw [c1]; decide) (by decide) ?_
    refine lv_aload_n hx hb dX11_count_44 rfl (lv_at hl 0 rfl) ?_
    refine g_get (v := .ref (B + 1)) (T := TX11) (ci := 11) (N := 13) hx hb hown hK (gY_X11 hT) rfl (zO 0 _ rfl) 0 (by decide) (hT _ gf_X11_12) rfl dX11_count_45 ?_
    refine g_get (v := .int (π 15 0)) (T := TX9) (ci := 9) (N := 16) hx hb hown hK (gY_X9 hT) rfl (h1 0 _ rfl) 12 (by decide) (hT _ gf_X11_61) rfl dX11_count_48 ?_
    rw [← hQ]
    exact g_iret hx hb hr hlk hS dX11_count_51 ⟨by simp only [gqCount, if_pos c1], _, hrr, zO, h1, hk7, ⟨_, h2⟩, ⟨_, _, _, zT⟩, zKT, ⟨_, hrk, zE⟩, zB, zF, ⟨_, zN⟩, zA, zP, zG⟩
  · skip
    by_cases c2 : wh = 1
    · refine lv_tableIn (off := 51) (tgt := 52) hx hb dX11_count_1 (by rw [c2]; decide) (by rw [c2]; decide) (by rw [c2]; decide) (by decide) ?_
      refine lv_aload_n hx hb dX11_count_52 rfl (lv_at hl 0 rfl) ?_
      refine g_get (v := .int (μ 4 3)) (T := TX11) (ci := 11) (N := 13) hx hb hown hK (gY_X11 hT) rfl (zO 0 _ rfl) 7 (by decide) (hT _ gf_X11_113) rfl dX11_count_53 ?_
      rw [← hQ]
      exact g_iret hx hb hr hlk hS dX11_count_56 ⟨by simp only [gqCount, if_neg c1, if_pos c2], _, hrr, zO, h1, hk7, ⟨_, h2⟩, ⟨_, _, _, zT⟩, zKT, ⟨_, hrk, zE⟩, zB, zF, ⟨_, zN⟩, zA, zP, zG⟩
    · skip
      by_cases c3 : wh = 2
      · refine lv_tableIn (off := 56) (tgt := 57) hx hb dX11_count_1 (by rw [c3]; decide) (by rw [c3]; decide) (by rw [c3]; decide) (by decide) ?_
        refine lv_aload_n hx hb dX11_count_57 rfl (lv_at hl 0 rfl) ?_
        refine g_get (v := .ref (B + 1)) (T := TX11) (ci := 11) (N := 13) hx hb hown hK (gY_X11 hT) rfl (zO 0 _ rfl) 0 (by decide) (hT _ gf_X11_12) rfl dX11_count_58 ?_
        refine g_get (v := .ref (B + 1 + 10)) (T := TX9) (ci := 9) (N := 16) hx hb hown hK (gY_X9 hT) rfl (h1 0 _ rfl) 9 (by decide) (hT _ gf_X11_175) rfl dX11_count_61 ?_
        refine g_get (v := .int (π 15 3)) (T := TX8) (ci := 8) (N := 4) hx hb hown hK (gY_X8 hT) rfl (h1 10 _ rfl) 3 (by decide) (hT _ gf_X11_200) rfl dX11_count_64 ?_
        rw [← hQ]
        exact g_iret hx hb hr hlk hS dX11_count_67 ⟨by simp only [gqCount, if_neg c1, if_neg c2, if_pos c3], _, hrr, zO, h1, hk7, ⟨_, h2⟩, ⟨_, _, _, zT⟩, zKT, ⟨_, hrk, zE⟩, zB, zF, ⟨_, zN⟩, zA, zP, zG⟩
      · skip
        by_cases c4 : wh = 3
        · refine lv_tableIn (off := 67) (tgt := 68) hx hb dX11_count_1 (by rw [c4]; decide) (by rw [c4]; decide) (by rw [c4]; decide) (by decide) ?_
          refine lv_aload_n hx hb dX11_count_68 rfl (lv_at hl 0 rfl) ?_
          refine g_get (v := .ref (B + 1)) (T := TX11) (ci := 11) (N := 13) hx hb hown hK (gY_X11 hT) rfl (zO 0 _ rfl) 0 (by decide) (hT _ gf_X11_12) rfl dX11_count_69 ?_
          refine g_get (v := .ref (B + 1 + 14)) (T := TX9) (ci := 9) (N := 16) hx hb hown hK (gY_X9 hT) rfl (h1 0 _ rfl) 10 (by decide) (hT _ gf_X11_197) rfl dX11_count_72 ?_
          refine g_get (v := .int (π 15 4)) (T := TX8) (ci := 8) (N := 4) hx hb hown hK (gY_X8 hT) rfl (h1 14 _ rfl) 3 (by decide) (hT _ gf_X11_200) rfl dX11_count_75 ?_
          rw [← hQ]
          exact g_iret hx hb hr hlk hS dX11_count_78 ⟨by simp only [gqCount, if_neg c1, if_neg c2, if_neg c3, if_pos c4], _, hrr, zO, h1, hk7, ⟨_, h2⟩, ⟨_, _, _, zT⟩, zKT, ⟨_, hrk, zE⟩, zB, zF, ⟨_, zN⟩, zA, zP, zG⟩
        · skip
          by_cases c5 : wh = 4
          · refine lv_tableIn (off := 78) (tgt := 79) hx hb dX11_count_1 (by rw [c5]; decide) (by rw [c5]; decide) (by rw [c5]; decide) (by decide) ?_
            refine lv_aload_n hx hb dX11_count_79 rfl (lv_at hl 0 rfl) ?_
            refine g_get (v := .ref (B + 1)) (T := TX11) (ci := 11) (N := 13) hx hb hown hK (gY_X11 hT) rfl (zO 0 _ rfl) 0 (by decide) (hT _ gf_X11_12) rfl dX11_count_80 ?_
            refine g_get (v := .ref (B + 1 + 18)) (T := TX9) (ci := 9) (N := 16) hx hb hown hK (gY_X9 hT) rfl (h1 0 _ rfl) 11 (by decide) (hT _ gf_X11_214) rfl dX11_count_83 ?_
            refine g_get (v := .int (π 15 5)) (T := TX8) (ci := 8) (N := 4) hx hb hown hK (gY_X8 hT) rfl (h1 18 _ rfl) 3 (by decide) (hT _ gf_X11_200) rfl dX11_count_86 ?_
            rw [← hQ]
            exact g_iret hx hb hr hlk hS dX11_count_89 ⟨by simp only [gqCount, if_neg c1, if_neg c2, if_neg c3, if_neg c4, if_pos c5], _, hrr, zO, h1, hk7, ⟨_, h2⟩, ⟨_, _, _, zT⟩, zKT, ⟨_, hrk, zE⟩, zB, zF, ⟨_, zN⟩, zA, zP, zG⟩
          · skip
            by_cases c6 : wh = 5
            · refine lv_tableIn (off := 89) (tgt := 90) hx hb dX11_count_1 (by rw [c6]; decide) (by rw [c6]; decide) (by rw [c6]; decide) (by decide) ?_
              refine lv_aload_n hx hb dX11_count_90 rfl (lv_at hl 0 rfl) ?_
              refine g_get (v := .int (μ 4 0)) (T := TX11) (ci := 11) (N := 13) hx hb hown hK (gY_X11 hT) rfl (zO 0 _ rfl) 5 (by decide) (hT _ gf_X11_110) rfl dX11_count_91 ?_
              rw [← hQ]
              exact g_iret hx hb hr hlk hS dX11_count_94 ⟨by simp only [gqCount, if_neg c1, if_neg c2, if_neg c3, if_neg c4, if_neg c5, if_pos c6], _, hrr, zO, h1, hk7, ⟨_, h2⟩, ⟨_, _, _, zT⟩, zKT, ⟨_, hrk, zE⟩, zB, zF, ⟨_, zN⟩, zA, zP, zG⟩
            · skip
              by_cases c7 : wh = 6
              · refine lv_tableIn (off := 94) (tgt := 95) hx hb dX11_count_1 (by rw [c7]; decide) (by rw [c7]; decide) (by rw [c7]; decide) (by decide) ?_
                refine lv_aload_n hx hb dX11_count_95 rfl (lv_at hl 0 rfl) ?_
                refine g_get (v := .ref (B + 109)) (T := TX11) (ci := 11) (N := 13) hx hb hown hK (gY_X11 hT) rfl (zO 0 _ rfl) 9 (by decide) (hT _ gf_X11_41) rfl dX11_count_96 ?_
                refine g_get (v := .int (α 1 0)) (T := TX0) (ci := 0) (N := 4) hx hb hown hK (gY_X0 hT) rfl (zA 0 _ rfl) 1 (by decide) (hT _ gf_X11_246) rfl dX11_count_99 ?_
                rw [← hQ]
                exact g_iret hx hb hr hlk hS dX11_count_102 ⟨by simp only [gqCount, if_neg c1, if_neg c2, if_neg c3, if_neg c4, if_neg c5, if_neg c6, if_pos c7, hr1], _, hrr, zO, h1, hk7, ⟨_, h2⟩, ⟨_, _, _, zT⟩, zKT, ⟨_, hrk, zE⟩, zB, zF, ⟨_, zN⟩, zA, zP, zG⟩
              · skip
                have tc1 := lv_neT (k := 0) (a := 0) c1 (by decide)
                have tc2 := lv_neT (k := 1) (a := 1) c2 (by decide)
                have tc3 := lv_neT (k := 2) (a := 2) c3 (by decide)
                have tc4 := lv_neT (k := 3) (a := 3) c4 (by decide)
                have tc5 := lv_neT (k := 4) (a := 4) c5 (by decide)
                have tc6 := lv_neT (k := 5) (a := 5) c6 (by decide)
                have tc7 := lv_neT (k := 6) (a := 6) c7 (by decide)
                refine lv_tableOut (tgt := 103) hx hb dX11_count_1 (by omega) (by decide) ?_
                refine lv_bipush (v := (-2)) hx hb dX11_count_103 (by decide) ?_
                rw [← hQ]
                exact g_iret hx hb hr hlk hS dX11_count_105 ⟨by simp only [gqCount, if_neg c1, if_neg c2, if_neg c3, if_neg c4, if_neg c5, if_neg c6, if_neg c7], _, hrr, zO, h1, hk7, ⟨_, h2⟩, ⟨_, _, _, zT⟩, zKT, ⟨_, hrk, zE⟩, zB, zF, ⟨_, zN⟩, zA, zP, zG⟩

set_option maxHeartbeats 4000000 in
set_option maxRecDepth 100000 in
theorem c_X11_trace (l : Launch) (G : gW) (B lp : Nat) (π πk f μ α : gPS) (lk : Nat) (g : Nat → Int64) (acc : List (Nat × Nat × List Nat)) (hcl : gClo f acc) (hI : gInv π) (hlp : lp = B + 23 ∨ lp = B + 58 ∨ lp = B + 93 ∨ (B + 120 ≤ lp ∧ lp + 6 ≤ B + 156)) (hr1 : α 1 0 = μ 4 1) (hr0 : α 0 = μ 1) (i : Int32) : gCI l yX11_trace cX11_trace 2 .int (gRm 1 40) G [.ref B, .int i] (fun H => gCW G B lp π lk πk f μ α g H) (fun r H => r = gqTrace μ i ∧ gCW G B lp π lk πk f μ α g H) (fun q => (lp ≤ q ∧ q < lp + 6) ∨ (B ≤ q ∧ q < B + 23) ∨ (B + 36 ≤ q ∧ q < B + 58) ∨ (B + 71 ≤ q ∧ q < B + 93) ∨ (B + 106 ≤ q ∧ q < B + 120)) := by
  refine g_start (by decide) (Nat.le_of_ble_eq_true rfl) ?_
  intro pp_ ee_ s mm_ aa_ below meth cc_ ls Q hQ hX hE hP hl
  obtain ⟨hx, hb, hr, hml, hown, hT, hlk, hnm⟩ := hX
  have hK := hE.2.1
  obtain ⟨ρ, hrr, zO, h1, hk7, ⟨s4, h2⟩, ⟨πt, lt, ρt, zT⟩, zKT, ⟨ρk, hrk, zE⟩, zB, zF, ⟨γ, zN⟩, zA, zP, zG⟩ := hP
  have hS : va_S (fun q => (lp ≤ q ∧ q < lp + 6) ∨ (B ≤ q ∧ q < B + 23) ∨ (B + 36 ≤ q ∧ q < B + 58) ∨ (B + 71 ≤ q ∧ q < B + 93) ∨ (B + 106 ≤ q ∧ q < B + 120)) s.heap s.heap [] := va_S.rf
  have hl : lv_has ls 2 [(0, .ref B), (1, .int i)] := hl
  obtain ⟨⟨n, hn, hz, h0z⟩, hki, ⟨sn, hsn, hz3, hsp⟩, ⟨pn, hpn, hz4, hpo⟩, ⟨bn, hbn, hz5, hbo⟩, hfl9⟩ := id hI
  have hd1 : lp + 6 ≤ B + 1 ∨ lp = B + 1 + 22 ∨ B + 1 + 35 ≤ lp := by omega
  have hd36 : lp + 6 ≤ B + 36 ∨ lp = B + 36 + 22 ∨ B + 36 + 35 ≤ lp := by omega
  refine lv_iload_n hx hb dX11_trace_0 rfl (lv_at hl 1 rfl) ?_
  refine lv_if_lt (tgt := 33) hx hb dX11_trace_1 (by decide) (fun c1 => ?_) (fun c1 => ?_)
  · refine lv_iconst (v := (-1)) hx hb dX11_trace_33 (by decide) ?_
    rw [← hQ]
    exact g_iret hx hb hr hlk hS dX11_trace_34 ⟨by rw [gqTrace, if_neg (fun z => absurd z.1 (Int32.not_le.mpr c1))], _, hrr, zO, h1, hk7, ⟨_, h2⟩, ⟨_, _, _, zT⟩, zKT, ⟨_, hrk, zE⟩, zB, zF, ⟨_, zN⟩, zA, zP, zG⟩
  · refine lv_iload_n hx hb dX11_trace_4 rfl (lv_at hl 1 rfl) ?_
    refine lv_aload_n hx hb dX11_trace_5 rfl (lv_at hl 0 rfl) ?_
    refine g_get (v := .ref (B + 109)) (T := TX11) (ci := 11) (N := 13) hx hb hown hK (gY_X11 hT) rfl (zO 0 _ rfl) 9 (by decide) (hT _ gf_X11_41) rfl dX11_trace_6 ?_
    refine g_get (v := .int (α 1 0)) (T := TX0) (ci := 0) (N := 4) hx hb hown hK (gY_X0 hT) rfl (zA 0 _ rfl) 1 (by decide) (hT _ gf_X11_246) rfl dX11_trace_9 ?_
    refine lv_icmp_ge (tgt := 33) hx hb dX11_trace_12 (by decide) (fun c2 => ?_) (fun c2 => ?_)
    · refine lv_iconst (v := (-1)) hx hb dX11_trace_33 (by decide) ?_
      rw [← hQ]
      exact g_iret hx hb hr hlk hS dX11_trace_34 ⟨by rw [gqTrace, if_neg (fun z => absurd z.2.1 (by rw [← hr1]; exact Int32.not_lt.mpr c2))], _, hrr, zO, h1, hk7, ⟨_, h2⟩, ⟨_, _, _, zT⟩, zKT, ⟨_, hrk, zE⟩, zB, zF, ⟨_, zN⟩, zA, zP, zG⟩
    · refine lv_iload_n hx hb dX11_trace_15 rfl (lv_at hl 1 rfl) ?_
      refine lv_bipush (v := 20) hx hb dX11_trace_16 (by decide) ?_
      refine lv_icmp_ge (tgt := 33) hx hb dX11_trace_18 (by decide) (fun c3 => ?_) (fun c3 => ?_)
      · refine lv_iconst (v := (-1)) hx hb dX11_trace_33 (by decide) ?_
        rw [← hQ]
        exact g_iret hx hb hr hlk hS dX11_trace_34 ⟨by rw [gqTrace, if_neg (fun z => absurd z.2.2 (Int32.not_lt.mpr c3))], _, hrr, zO, h1, hk7, ⟨_, h2⟩, ⟨_, _, _, zT⟩, zKT, ⟨_, hrk, zE⟩, zB, zF, ⟨_, zN⟩, zA, zP, zG⟩
      · obtain ⟨k, hk, ek⟩ := gIx (z := 20) (n := 20) rfl (by decide) ⟨Int32.not_lt.mp c1, Int32.not_le.mp c3⟩
        subst ek
        refine lv_aload_n hx hb dX11_trace_21 rfl (lv_at hl 0 rfl) ?_
        refine g_get (v := .ref (B + 109)) (T := TX11) (ci := 11) (N := 13) hx hb hown hK (gY_X11 hT) rfl (zO 0 _ rfl) 9 (by decide) (hT _ gf_X11_41) rfl dX11_trace_22 ?_
        refine g_get (v := .ref (B + 109 + 1)) (T := TX0) (ci := 0) (N := 4) hx hb hown hK (gY_X0 hT) rfl (zA 0 _ rfl) 0 (by decide) (hT _ gf_X11_249) rfl dX11_trace_25 ?_
        refine lv_iload_n hx hb dX11_trace_28 rfl (lv_at hl 1 rfl) ?_
        refine g_ia (j := k) (v := α 0 k) hx hb hK (zA 1 _ rfl) rfl (by omega) (Nat.le_of_ble_eq_true rfl) rfl dX11_trace_29 ?_
        refine lv_goto (tgt := 34) hx hb dX11_trace_30 (by decide) ?_
        rw [← hQ]
        exact g_iret hx hb hr hlk hS dX11_trace_34 ⟨by rw [gqTrace, if_pos ⟨Int32.not_lt.mp c1, by rw [← hr1]; exact Int32.not_le.mp c2, Int32.not_le.mp c3⟩, nI_clamp (show k < 2 ^ 31 by omega), hr0], _, hrr, zO, h1, hk7, ⟨_, h2⟩, ⟨_, _, _, zT⟩, zKT, ⟨_, hrk, zE⟩, zB, zF, ⟨_, zN⟩, zA, zP, zG⟩
