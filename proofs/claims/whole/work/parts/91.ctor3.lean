theorem gRho_0 : gRho gPi0 (fun _ _ => 0) := by
  have e3 : (gPi0 15 3).toNatClampNeg = 0 := by decide
  have e4 : (gPi0 15 4).toNatClampNeg = 0 := by decide
  have e5 : (gPi0 15 5).toNatClampNeg = 0 := by decide
  refine ⟨fun k hk => ?_, fun k hk => ?_, fun k hk => ?_⟩
  · rw [e3] at hk; exact absurd hk (Nat.not_lt_zero _)
  · rw [e4] at hk; exact absurd hk (Nat.not_lt_zero _)
  · rw [e5] at hk; exact absurd hk (Nat.not_lt_zero _)
set_option maxHeartbeats 4000000 in
set_option maxRecDepth 100000 in
theorem c_X11_init (l : Launch) (G : gW) (b : Nat) (htG : G.2.2.2.size ≤ b) : gCN2 l yX11_init cX11_init 2 5 105 155 3200 G [.ref b] (fun H => gOld G H ∧ gAt G b (.inr (11, [.null, .null, .null, .int 0, .null, .int 0, .null, .int 0, .null, .null, .null, .null, .null])) H ∧ H.size = b + 1) (fun H => gCW G b (b + 23) gPi0 (b + 93) gPi0 gFl0 gMu0 (fun _ _ => 0) (fun _ => 0) H ∧ (∀ i, i < 6 → gSg G (b + 107 + 13 + 6 * i) (gLL G (b + 107 + 13 + 6 * i) gFl0) H) ∧ gSg G (b + 58) (gLL G (b + 58) gFl0) H ∧ gSg G (b + 93) (gLL G (b + 93) gFl0) H ∧ H.size = b + 156) (fun q => b ≤ q) := by
  refine g_start2 (by decide) (Nat.le_of_ble_eq_true rfl) ?_
  intro pp_ ee_ s mm_ aa_ below meth cc_ ls Q hQ hX hE2 hP hl
  obtain ⟨hx, hb, hr, hml, hown, hT, hlk, hnm⟩ := hX
  have hE := hE2.1
  have hK := hE.2.1
  obtain ⟨hO, zZ0, hsz⟩ := hP
  have hS : va_S (fun q => b ≤ q) s.heap s.heap [] := va_S.rf
  have hl : lv_has ls 2 [(0, .ref b)] := hl
  have zZ : gSg G b ([.inr (11, [.null, .null, .null, .int 0, .null, .int 0, .null, .int 0, .null, .null, .null, .null, .null])]) s.heap := gSg_1 zZ0
  refine lv_aload_n hx hb dX11_init_0 rfl (lv_at hl 0 rfl) ?_
  refine g_objI hx hb hml hl.1 hown hT gm_X11_3 (Nat.le_of_ble_eq_true rfl) (Nat.le_of_ble_eq_true rfl) dX11_init_1 ?_
  refine lv_aload_n hx hb dX11_init_4 rfl (lv_at hl 0 rfl) ?_
  refine g_new (T := TX9) (N := 16) (ci := 9) (ty := tyX9) (fs := [.null, .null, .null, .null, .null, .null, .null, .null, .null, .null, .null, .null, .int 0, .int 0, .int 0, .null]) (b := b + 1) hx hb hown hT hK hS gk_X11_9 ga_RX9 gn_RX9 rfl (gY_X9 hT) tyX9_ok (by decide) (Nat.le_of_ble_eq_true rfl) (Nat.le_of_ble_eq_true rfl) hsz dX11_init_5 (fun H13 c14 zz15 oo16 hS => ?_)
  have zZ := gSg_kept zZ (fun k hk => oo16 _ (by simp only [List.length_cons, List.length_nil] at hk; omega))
  have zN : gSg G (b + 1) ([.inr (9, [.null, .null, .null, .null, .null, .null, .null, .null, .null, .null, .null, .null, .int 0, .int 0, .int 0, .null])]) H13 := gSg_1 c14
  have hsz : H13.size = b + 2 := zz15
  refine lv_dup hx hb dX11_init_8 rfl ?_
  have htG9 : G.2.2.2.size ≤ b + 1 := Nat.le_trans htG (Nat.le_add_right _ _)
  refine g_kn (g_runI (As := []) (rest := [.ref (b + 1), .ref b]) (n := 0) hx hb hml hown hE2 hT (c_X9_init l G (b + 1) htG9) gM_X9_init gm_X11_11 gi_X9_init rfl ⟨gOld_S hO hS (fun q9 hq9 => Nat.le_trans htG hq9), (zN 0 _ rfl), hsz⟩ rfl hl.1 ⟨rfl, rfl⟩ ⟨Nat.le_of_ble_eq_true rfl, Nat.le_of_ble_eq_true rfl⟩ ⟨Nat.le_of_ble_eq_true rfl, Nat.le_of_ble_eq_true rfl⟩ rfl (Nat.le_of_ble_eq_true rfl) dX11_init_9) hS (fun q hq => Nat.le_trans (Nat.le_add_right _ _) hq) (fun H25 locs q26 k27 hS => ?_)
  obtain ⟨y1, y2, y3, y4⟩ := q26
  have zZ := gSg_free zZ k27 (by intro k hk q; simp only [List.length_cons, List.length_nil] at hk; omega)
  have zN : gSg G (b + 1) (gLS G (b + 1) gPi0 (b + 23) (fun _ _ => 0)) H25 := y1
  have zNl : gSg G (b + 23) (gLL G (b + 23) gFl0) H25 := y2
  have zNk : gSg G (b + 29) (gKs) H25 := y3
  have hsz : H25.size = b + 36 := y4
  refine g_putF (T := TX11) (ci := 11) (N := 13) (ty0 := tyX11) hx hb hown hK hS (gY_X11 hT) tyX11_ok nmX11 rfl (zZ 0 _ rfl) 0 (by decide) (hT _ gf_X11_12) rfl hnm rfl rfl rfl (Nat.le_of_ble_eq_true rfl) (by omega) dX11_init_12 (fun H28 locs c29 oq hS => ?_)
  have zZ : gSg G b ([.inr (11, [.ref (b + 1), .null, .null, .int 0, .null, .int 0, .null, .int 0, .null, .null, .null, .null, .null])]) H28 := gSg_set zZ 0 c29 oq
  have zN := gSg_off zN oq (by simp only [List.length_cons, List.length_nil]; omega)
  have zNl := gSg_off zNl oq (by simp only [List.length_cons, List.length_nil]; omega)
  have zNk := gSg_off zNk oq (by simp only [List.length_cons, List.length_nil]; omega)
  have hsz := gSz oq (va_at.lt c29) (by rw [hsz]; omega) hsz
  refine lv_aload_n hx hb dX11_init_15 rfl (lv_at hl 0 rfl) ?_
  refine g_new (T := TX9) (N := 16) (ci := 9) (ty := tyX9) (fs := [.null, .null, .null, .null, .null, .null, .null, .null, .null, .null, .null, .null, .int 0, .int 0, .int 0, .null]) (b := b + 36) hx hb hown hT hK hS gk_X11_9 ga_RX9 gn_RX9 rfl (gY_X9 hT) tyX9_ok (by decide) (Nat.le_of_ble_eq_true rfl) (Nat.le_of_ble_eq_true rfl) hsz dX11_init_16 (fun H36 c37 zz38 oo39 hS => ?_)
  have zZ := gSg_kept zZ (fun k hk => oo39 _ (by simp only [List.length_cons, List.length_nil] at hk; omega))
  have zN := gSg_kept zN (fun k hk => oo39 _ (by simp only [List.length_cons, List.length_nil] at hk; omega))
  have zNl := gSg_kept zNl (fun k hk => oo39 _ (by simp only [List.length_cons, List.length_nil] at hk; omega))
  have zNk := gSg_kept zNk (fun k hk => oo39 _ (by simp only [List.length_cons, List.length_nil] at hk; omega))
  have zT : gSg G (b + 36) ([.inr (9, [.null, .null, .null, .null, .null, .null, .null, .null, .null, .null, .null, .null, .int 0, .int 0, .int 0, .null])]) H36 := gSg_1 c37
  have hsz : H36.size = b + 37 := zz38
  refine lv_dup hx hb dX11_init_19 rfl ?_
  have htG9 : G.2.2.2.size ≤ b + 36 := Nat.le_trans htG (Nat.le_add_right _ _)
  refine g_kn (g_runI (As := []) (rest := [.ref (b + 36), .ref b]) (n := 0) hx hb hml hown hE2 hT (c_X9_init l G (b + 36) htG9) gM_X9_init gm_X11_11 gi_X9_init rfl ⟨gOld_S hO hS (fun q9 hq9 => Nat.le_trans htG hq9), (zT 0 _ rfl), hsz⟩ rfl hl.1 ⟨rfl, rfl⟩ ⟨Nat.le_of_ble_eq_true rfl, Nat.le_of_ble_eq_true rfl⟩ ⟨Nat.le_of_ble_eq_true rfl, Nat.le_of_ble_eq_true rfl⟩ rfl (Nat.le_of_ble_eq_true rfl) dX11_init_20) hS (fun q hq => Nat.le_trans (Nat.le_add_right _ _) hq) (fun H48 locs q49 k50 hS => ?_)
  obtain ⟨y1, y2, y3, y4⟩ := q49
  have zZ := gSg_free zZ k50 (by intro k hk q; simp only [List.length_cons, List.length_nil] at hk; omega)
  have zN := gSg_free zN k50 (by intro k hk q; simp only [List.length_cons, List.length_nil] at hk; omega)
  have zNl := gSg_free zNl k50 (by intro k hk q; simp only [List.length_cons, List.length_nil] at hk; omega)
  have zNk := gSg_free zNk k50 (by intro k hk q; simp only [List.length_cons, List.length_nil] at hk; omega)
  have zT : gSg G (b + 36) (gLS G (b + 36) gPi0 (b + 58) (fun _ _ => 0)) H48 := y1
  have zTl : gSg G (b + 58) (gLL G (b + 58) gFl0) H48 := y2
  have zTk : gSg G (b + 64) (gKs) H48 := y3
  have hsz : H48.size = b + 71 := y4
  refine g_putF (T := TX11) (ci := 11) (N := 13) (ty0 := tyX11) hx hb hown hK hS (gY_X11 hT) tyX11_ok nmX11 rfl (zZ 0 _ rfl) 1 (by decide) (hT _ gf_X11_18) rfl hnm rfl rfl rfl (Nat.le_of_ble_eq_true rfl) (by omega) dX11_init_23 (fun H51 locs c52 oq hS => ?_)
  have zZ : gSg G b ([.inr (11, [.ref (b + 1), .ref (b + 36), .null, .int 0, .null, .int 0, .null, .int 0, .null, .null, .null, .null, .null])]) H51 := gSg_set zZ 0 c52 oq
  have zN := gSg_off zN oq (by simp only [List.length_cons, List.length_nil]; omega)
  have zNl := gSg_off zNl oq (by simp only [List.length_cons, List.length_nil]; omega)
  have zNk := gSg_off zNk oq (by simp only [List.length_cons, List.length_nil]; omega)
  have zT := gSg_off zT oq (by simp only [List.length_cons, List.length_nil]; omega)
  have zTl := gSg_off zTl oq (by simp only [List.length_cons, List.length_nil]; omega)
  have zTk := gSg_off zTk oq (by simp only [List.length_cons, List.length_nil]; omega)
  have hsz := gSz oq (va_at.lt c52) (by rw [hsz]; omega) hsz
  refine lv_aload_n hx hb dX11_init_26 rfl (lv_at hl 0 rfl) ?_
  refine g_new (T := TX9) (N := 16) (ci := 9) (ty := tyX9) (fs := [.null, .null, .null, .null, .null, .null, .null, .null, .null, .null, .null, .null, .int 0, .int 0, .int 0, .null]) (b := b + 71) hx hb hown hT hK hS gk_X11_9 ga_RX9 gn_RX9 rfl (gY_X9 hT) tyX9_ok (by decide) (Nat.le_of_ble_eq_true rfl) (Nat.le_of_ble_eq_true rfl) hsz dX11_init_27 (fun H59 c60 zz61 oo62 hS => ?_)
  have zZ := gSg_kept zZ (fun k hk => oo62 _ (by simp only [List.length_cons, List.length_nil] at hk; omega))
  have zN := gSg_kept zN (fun k hk => oo62 _ (by simp only [List.length_cons, List.length_nil] at hk; omega))
  have zNl := gSg_kept zNl (fun k hk => oo62 _ (by simp only [List.length_cons, List.length_nil] at hk; omega))
  have zNk := gSg_kept zNk (fun k hk => oo62 _ (by simp only [List.length_cons, List.length_nil] at hk; omega))
  have zT := gSg_kept zT (fun k hk => oo62 _ (by simp only [List.length_cons, List.length_nil] at hk; omega))
  have zTl := gSg_kept zTl (fun k hk => oo62 _ (by simp only [List.length_cons, List.length_nil] at hk; omega))
  have zTk := gSg_kept zTk (fun k hk => oo62 _ (by simp only [List.length_cons, List.length_nil] at hk; omega))
  have zK : gSg G (b + 71) ([.inr (9, [.null, .null, .null, .null, .null, .null, .null, .null, .null, .null, .null, .null, .int 0, .int 0, .int 0, .null])]) H59 := gSg_1 c60
  have hsz : H59.size = b + 72 := zz61
  refine lv_dup hx hb dX11_init_30 rfl ?_
  have htG9 : G.2.2.2.size ≤ b + 71 := Nat.le_trans htG (Nat.le_add_right _ _)
  refine g_kn (g_runI (As := []) (rest := [.ref (b + 71), .ref b]) (n := 0) hx hb hml hown hE2 hT (c_X9_init l G (b + 71) htG9) gM_X9_init gm_X11_11 gi_X9_init rfl ⟨gOld_S hO hS (fun q9 hq9 => Nat.le_trans htG hq9), (zK 0 _ rfl), hsz⟩ rfl hl.1 ⟨rfl, rfl⟩ ⟨Nat.le_of_ble_eq_true rfl, Nat.le_of_ble_eq_true rfl⟩ ⟨Nat.le_of_ble_eq_true rfl, Nat.le_of_ble_eq_true rfl⟩ rfl (Nat.le_of_ble_eq_true rfl) dX11_init_31) hS (fun q hq => Nat.le_trans (Nat.le_add_right _ _) hq) (fun H71 locs q72 k73 hS => ?_)
  obtain ⟨y1, y2, y3, y4⟩ := q72
  have zZ := gSg_free zZ k73 (by intro k hk q; simp only [List.length_cons, List.length_nil] at hk; omega)
  have zN := gSg_free zN k73 (by intro k hk q; simp only [List.length_cons, List.length_nil] at hk; omega)
  have zNl := gSg_free zNl k73 (by intro k hk q; simp only [List.length_cons, List.length_nil] at hk; omega)
  have zNk := gSg_free zNk k73 (by intro k hk q; simp only [List.length_cons, List.length_nil] at hk; omega)
  have zT := gSg_free zT k73 (by intro k hk q; simp only [List.length_cons, List.length_nil] at hk; omega)
  have zTl := gSg_free zTl k73 (by intro k hk q; simp only [List.length_cons, List.length_nil] at hk; omega)
  have zTk := gSg_free zTk k73 (by intro k hk q; simp only [List.length_cons, List.length_nil] at hk; omega)
  have zK : gSg G (b + 71) (gLS G (b + 71) gPi0 (b + 93) (fun _ _ => 0)) H71 := y1
  have zKl : gSg G (b + 93) (gLL G (b + 93) gFl0) H71 := y2
  have zKk : gSg G (b + 99) (gKs) H71 := y3
  have hsz : H71.size = b + 106 := y4
  refine g_putF (T := TX11) (ci := 11) (N := 13) (ty0 := tyX11) hx hb hown hK hS (gY_X11 hT) tyX11_ok nmX11 rfl (zZ 0 _ rfl) 2 (by decide) (hT _ gf_X11_21) rfl hnm rfl rfl rfl (Nat.le_of_ble_eq_true rfl) (by omega) dX11_init_34 (fun H74 locs c75 oq hS => ?_)
  have zZ : gSg G b ([.inr (11, [.ref (b + 1), .ref (b + 36), .ref (b + 71), .int 0, .null, .int 0, .null, .int 0, .null, .null, .null, .null, .null])]) H74 := gSg_set zZ 0 c75 oq
  have zN := gSg_off zN oq (by simp only [List.length_cons, List.length_nil]; omega)
  have zNl := gSg_off zNl oq (by simp only [List.length_cons, List.length_nil]; omega)
  have zNk := gSg_off zNk oq (by simp only [List.length_cons, List.length_nil]; omega)
  have zT := gSg_off zT oq (by simp only [List.length_cons, List.length_nil]; omega)
  have zTl := gSg_off zTl oq (by simp only [List.length_cons, List.length_nil]; omega)
  have zTk := gSg_off zTk oq (by simp only [List.length_cons, List.length_nil]; omega)
  have zK := gSg_off zK oq (by simp only [List.length_cons, List.length_nil]; omega)
  have zKl := gSg_off zKl oq (by simp only [List.length_cons, List.length_nil]; omega)
  have zKk := gSg_off zKk oq (by simp only [List.length_cons, List.length_nil]; omega)
  have hsz := gSz oq (va_at.lt c75) (by rw [hsz]; omega) hsz
  refine lv_aload_n hx hb dX11_init_37 rfl (lv_at hl 0 rfl) ?_
  refine lv_bipush (v := 100) hx hb dX11_init_38 (by decide) ?_
  refine g_newa 1 (atype := .byte) (cA := G.2.1 1) (N := 100) (b := b + 106) (a0 := (100, .inl (fun _ => 0))) hx hb hT hK hS gx_19 rfl (fun h => h) rfl (by decide) (by decide) (Nat.le_of_ble_eq_true rfl) (Nat.le_of_ble_eq_true rfl) (Nat.le_of_ble_eq_true rfl) hsz dX11_init_40 (fun H86 c87 zz88 oo89 hS => ?_)
  have zZ := gSg_kept zZ (fun k hk => oo89 _ (by simp only [List.length_cons, List.length_nil] at hk; omega))
  have zN := gSg_kept zN (fun k hk => oo89 _ (by simp only [List.length_cons, List.length_nil] at hk; omega))
  have zNl := gSg_kept zNl (fun k hk => oo89 _ (by simp only [List.length_cons, List.length_nil] at hk; omega))
  have zNk := gSg_kept zNk (fun k hk => oo89 _ (by simp only [List.length_cons, List.length_nil] at hk; omega))
  have zT := gSg_kept zT (fun k hk => oo89 _ (by simp only [List.length_cons, List.length_nil] at hk; omega))
  have zTl := gSg_kept zTl (fun k hk => oo89 _ (by simp only [List.length_cons, List.length_nil] at hk; omega))
  have zTk := gSg_kept zTk (fun k hk => oo89 _ (by simp only [List.length_cons, List.length_nil] at hk; omega))
  have zK := gSg_kept zK (fun k hk => oo89 _ (by simp only [List.length_cons, List.length_nil] at hk; omega))
  have zKl := gSg_kept zKl (fun k hk => oo89 _ (by simp only [List.length_cons, List.length_nil] at hk; omega))
  have zKk := gSg_kept zKk (fun k hk => oo89 _ (by simp only [List.length_cons, List.length_nil] at hk; omega))
  have zB : gSg G (b + 106) ([.inl (G.2.1 1, 100, .inl (fun _ => 0))]) H86 := gSg_1 c87
  have hsz : H86.size = b + 107 := zz88
  refine g_putF (T := TX11) (ci := 11) (N := 13) (ty0 := tyX11) hx hb hown hK hS (gY_X11 hT) tyX11_ok nmX11 rfl (zZ 0 _ rfl) 4 (by decide) (hT _ gf_X11_24) rfl hnm rfl rfl rfl (Nat.le_of_ble_eq_true rfl) (by omega) dX11_init_42 (fun H90 locs c91 oq hS => ?_)
  have zZ : gSg G b ([.inr (11, [.ref (b + 1), .ref (b + 36), .ref (b + 71), .int 0, .ref (b + 106), .int 0, .null, .int 0, .null, .null, .null, .null, .null])]) H90 := gSg_set zZ 0 c91 oq
  have zN := gSg_off zN oq (by simp only [List.length_cons, List.length_nil]; omega)
  have zNl := gSg_off zNl oq (by simp only [List.length_cons, List.length_nil]; omega)
  have zNk := gSg_off zNk oq (by simp only [List.length_cons, List.length_nil]; omega)
  have zT := gSg_off zT oq (by simp only [List.length_cons, List.length_nil]; omega)
  have zTl := gSg_off zTl oq (by simp only [List.length_cons, List.length_nil]; omega)
  have zTk := gSg_off zTk oq (by simp only [List.length_cons, List.length_nil]; omega)
  have zK := gSg_off zK oq (by simp only [List.length_cons, List.length_nil]; omega)
  have zKl := gSg_off zKl oq (by simp only [List.length_cons, List.length_nil]; omega)
  have zKk := gSg_off zKk oq (by simp only [List.length_cons, List.length_nil]; omega)
  have zB := gSg_off zB oq (by simp only [List.length_cons, List.length_nil]; omega)
  have hsz := gSz oq (va_at.lt c91) (by rw [hsz]; omega) hsz
  refine lv_aload_n hx hb dX11_init_45 rfl (lv_at hl 0 rfl) ?_
  refine lv_bipush (v := 6) hx hb dX11_init_46 (by decide) ?_
  refine g_newr 4 (C := RX5) (N := 6) (b := b + 107) hx hb hown hT hK hS hE2.2.1 gk_X11_28 rfl (by decide) (by decide) (Nat.le_of_ble_eq_true rfl) (Nat.le_of_ble_eq_true rfl) (Nat.le_of_ble_eq_true rfl) hsz dX11_init_48 (fun H102 c103 zz104 oo105 hS => ?_)
  have zZ := gSg_kept zZ (fun k hk => oo105 _ (by simp only [List.length_cons, List.length_nil] at hk; omega))
  have zN := gSg_kept zN (fun k hk => oo105 _ (by simp only [List.length_cons, List.length_nil] at hk; omega))
  have zNl := gSg_kept zNl (fun k hk => oo105 _ (by simp only [List.length_cons, List.length_nil] at hk; omega))
  have zNk := gSg_kept zNk (fun k hk => oo105 _ (by simp only [List.length_cons, List.length_nil] at hk; omega))
  have zT := gSg_kept zT (fun k hk => oo105 _ (by simp only [List.length_cons, List.length_nil] at hk; omega))
  have zTl := gSg_kept zTl (fun k hk => oo105 _ (by simp only [List.length_cons, List.length_nil] at hk; omega))
  have zTk := gSg_kept zTk (fun k hk => oo105 _ (by simp only [List.length_cons, List.length_nil] at hk; omega))
  have zK := gSg_kept zK (fun k hk => oo105 _ (by simp only [List.length_cons, List.length_nil] at hk; omega))
  have zKl := gSg_kept zKl (fun k hk => oo105 _ (by simp only [List.length_cons, List.length_nil] at hk; omega))
  have zKk := gSg_kept zKk (fun k hk => oo105 _ (by simp only [List.length_cons, List.length_nil] at hk; omega))
  have zB := gSg_kept zB (fun k hk => oo105 _ (by simp only [List.length_cons, List.length_nil] at hk; omega))
  have zF : gSg G (b + 107) ([.inl (G.2.1 4, 6, .inr (.inr (.inr (.inr (fun _ => none)))))]) H102 := gSg_1 c103
  have hsz : H102.size = b + 108 := zz104
  refine g_putF (T := TX11) (ci := 11) (N := 13) (ty0 := tyX11) hx hb hown hK hS (gY_X11 hT) tyX11_ok nmX11 rfl (zZ 0 _ rfl) 6 (by decide) (hT _ gf_X11_30) rfl hnm rfl rfl rfl (Nat.le_of_ble_eq_true rfl) (by omega) dX11_init_51 (fun H106 locs c107 oq hS => ?_)
  have zZ : gSg G b ([.inr (11, [.ref (b + 1), .ref (b + 36), .ref (b + 71), .int 0, .ref (b + 106), .int 0, .ref (b + 107), .int 0, .null, .null, .null, .null, .null])]) H106 := gSg_set zZ 0 c107 oq
  have zN := gSg_off zN oq (by simp only [List.length_cons, List.length_nil]; omega)
  have zNl := gSg_off zNl oq (by simp only [List.length_cons, List.length_nil]; omega)
  have zNk := gSg_off zNk oq (by simp only [List.length_cons, List.length_nil]; omega)
  have zT := gSg_off zT oq (by simp only [List.length_cons, List.length_nil]; omega)
  have zTl := gSg_off zTl oq (by simp only [List.length_cons, List.length_nil]; omega)
  have zTk := gSg_off zTk oq (by simp only [List.length_cons, List.length_nil]; omega)
  have zK := gSg_off zK oq (by simp only [List.length_cons, List.length_nil]; omega)
  have zKl := gSg_off zKl oq (by simp only [List.length_cons, List.length_nil]; omega)
  have zKk := gSg_off zKk oq (by simp only [List.length_cons, List.length_nil]; omega)
  have zB := gSg_off zB oq (by simp only [List.length_cons, List.length_nil]; omega)
  have zF := gSg_off zF oq (by simp only [List.length_cons, List.length_nil]; omega)
  have hsz := gSz oq (va_at.lt c107) (by rw [hsz]; omega) hsz
  refine lv_aload_n hx hb dX11_init_54 rfl (lv_at hl 0 rfl) ?_
  refine lv_bipush (v := 13) hx hb dX11_init_55 (by decide) ?_
  refine g_newa 0 (atype := .int) (cA := G.2.1 0) (N := 13) (b := b + 108) (a0 := (13, .inl (fun _ => 0))) hx hb hT hK hS gx_23 rfl (fun h => h) rfl (by decide) (by decide) (Nat.le_of_ble_eq_true rfl) (Nat.le_of_ble_eq_true rfl) (Nat.le_of_ble_eq_true rfl) hsz dX11_init_57 (fun H118 c119 zz120 oo121 hS => ?_)
  have zZ := gSg_kept zZ (fun k hk => oo121 _ (by simp only [List.length_cons, List.length_nil] at hk; omega))
  have zN := gSg_kept zN (fun k hk => oo121 _ (by simp only [List.length_cons, List.length_nil] at hk; omega))
  have zNl := gSg_kept zNl (fun k hk => oo121 _ (by simp only [List.length_cons, List.length_nil] at hk; omega))
  have zNk := gSg_kept zNk (fun k hk => oo121 _ (by simp only [List.length_cons, List.length_nil] at hk; omega))
  have zT := gSg_kept zT (fun k hk => oo121 _ (by simp only [List.length_cons, List.length_nil] at hk; omega))
  have zTl := gSg_kept zTl (fun k hk => oo121 _ (by simp only [List.length_cons, List.length_nil] at hk; omega))
  have zTk := gSg_kept zTk (fun k hk => oo121 _ (by simp only [List.length_cons, List.length_nil] at hk; omega))
  have zK := gSg_kept zK (fun k hk => oo121 _ (by simp only [List.length_cons, List.length_nil] at hk; omega))
  have zKl := gSg_kept zKl (fun k hk => oo121 _ (by simp only [List.length_cons, List.length_nil] at hk; omega))
  have zKk := gSg_kept zKk (fun k hk => oo121 _ (by simp only [List.length_cons, List.length_nil] at hk; omega))
  have zB := gSg_kept zB (fun k hk => oo121 _ (by simp only [List.length_cons, List.length_nil] at hk; omega))
  have zF := gSg_kept zF (fun k hk => oo121 _ (by simp only [List.length_cons, List.length_nil] at hk; omega))
  have zG9 : gSg G (b + 108) ([.inl (G.2.1 0, 13, .inl (fun _ => 0))]) H118 := gSg_1 c119
  have hsz : H118.size = b + 109 := zz120
  refine g_putF (T := TX11) (ci := 11) (N := 13) (ty0 := tyX11) hx hb hown hK hS (gY_X11 hT) tyX11_ok nmX11 rfl (zZ 0 _ rfl) 8 (by decide) (hT _ gf_X11_34) rfl hnm rfl rfl rfl (Nat.le_of_ble_eq_true rfl) (by omega) dX11_init_59 (fun H122 locs c123 oq hS => ?_)
  have zZ : gSg G b ([.inr (11, [.ref (b + 1), .ref (b + 36), .ref (b + 71), .int 0, .ref (b + 106), .int 0, .ref (b + 107), .int 0, .ref (b + 108), .null, .null, .null, .null])]) H122 := gSg_set zZ 0 c123 oq
  have zN := gSg_off zN oq (by simp only [List.length_cons, List.length_nil]; omega)
  have zNl := gSg_off zNl oq (by simp only [List.length_cons, List.length_nil]; omega)
  have zNk := gSg_off zNk oq (by simp only [List.length_cons, List.length_nil]; omega)
  have zT := gSg_off zT oq (by simp only [List.length_cons, List.length_nil]; omega)
  have zTl := gSg_off zTl oq (by simp only [List.length_cons, List.length_nil]; omega)
  have zTk := gSg_off zTk oq (by simp only [List.length_cons, List.length_nil]; omega)
  have zK := gSg_off zK oq (by simp only [List.length_cons, List.length_nil]; omega)
  have zKl := gSg_off zKl oq (by simp only [List.length_cons, List.length_nil]; omega)
  have zKk := gSg_off zKk oq (by simp only [List.length_cons, List.length_nil]; omega)
  have zB := gSg_off zB oq (by simp only [List.length_cons, List.length_nil]; omega)
  have zF := gSg_off zF oq (by simp only [List.length_cons, List.length_nil]; omega)
  have zG9 := gSg_off zG9 oq (by simp only [List.length_cons, List.length_nil]; omega)
  have hsz := gSz oq (va_at.lt c123) (by rw [hsz]; omega) hsz
  refine lv_aload_n hx hb dX11_init_62 rfl (lv_at hl 0 rfl) ?_
  refine g_new (T := TX0) (N := 4) (ci := 0) (ty := tyX0) (fs := [.null, .int 0, .int 0, .int 0]) (b := b + 109) hx hb hown hT hK hS gk_X11_38 ga_RX0 gn_RX0 rfl (gY_X0 hT) tyX0_ok (by decide) (Nat.le_of_ble_eq_true rfl) (Nat.le_of_ble_eq_true rfl) hsz dX11_init_63 (fun H130 c131 zz132 oo133 hS => ?_)
  have zZ := gSg_kept zZ (fun k hk => oo133 _ (by simp only [List.length_cons, List.length_nil] at hk; omega))
  have zN := gSg_kept zN (fun k hk => oo133 _ (by simp only [List.length_cons, List.length_nil] at hk; omega))
  have zNl := gSg_kept zNl (fun k hk => oo133 _ (by simp only [List.length_cons, List.length_nil] at hk; omega))
  have zNk := gSg_kept zNk (fun k hk => oo133 _ (by simp only [List.length_cons, List.length_nil] at hk; omega))
  have zT := gSg_kept zT (fun k hk => oo133 _ (by simp only [List.length_cons, List.length_nil] at hk; omega))
  have zTl := gSg_kept zTl (fun k hk => oo133 _ (by simp only [List.length_cons, List.length_nil] at hk; omega))
  have zTk := gSg_kept zTk (fun k hk => oo133 _ (by simp only [List.length_cons, List.length_nil] at hk; omega))
  have zK := gSg_kept zK (fun k hk => oo133 _ (by simp only [List.length_cons, List.length_nil] at hk; omega))
  have zKl := gSg_kept zKl (fun k hk => oo133 _ (by simp only [List.length_cons, List.length_nil] at hk; omega))
  have zKk := gSg_kept zKk (fun k hk => oo133 _ (by simp only [List.length_cons, List.length_nil] at hk; omega))
  have zB := gSg_kept zB (fun k hk => oo133 _ (by simp only [List.length_cons, List.length_nil] at hk; omega))
  have zF := gSg_kept zF (fun k hk => oo133 _ (by simp only [List.length_cons, List.length_nil] at hk; omega))
  have zG9 := gSg_kept zG9 (fun k hk => oo133 _ (by simp only [List.length_cons, List.length_nil] at hk; omega))
  have zA : gSg G (b + 109) ([.inr (0, [.null, .int 0, .int 0, .int 0])]) H130 := gSg_1 c131
  have hsz : H130.size = b + 110 := zz132
  refine lv_dup hx hb dX11_init_66 rfl ?_
  refine g_kn (g_runN (As := []) (rest := [.ref (b + 109), .ref b]) (n := 0) hx hb hml hown hE2 hT (c_X0_init l G (b + 109)) gM_X0_init (List.mem_of_getElem? (i := 0) rfl) gi_X0_init rfl ⟨(zA 0 _ rfl), hsz⟩ rfl hl.1 ⟨rfl, rfl⟩ ⟨Nat.le_of_ble_eq_true rfl, Nat.le_of_ble_eq_true rfl⟩ ⟨Nat.le_of_ble_eq_true rfl, Nat.le_of_ble_eq_true rfl⟩ rfl (Nat.le_of_ble_eq_true rfl) dX11_init_67) hS (fun q hq => Nat.le_trans (Nat.le_add_right _ _) hq) (fun H142 locs q143 k144 hS => ?_)
  obtain ⟨y1, y2⟩ := q143
  have zZ := gSg_free zZ k144 (by intro k hk q; simp only [List.length_cons, List.length_nil] at hk; omega)
  have zN := gSg_free zN k144 (by intro k hk q; simp only [List.length_cons, List.length_nil] at hk; omega)
  have zNl := gSg_free zNl k144 (by intro k hk q; simp only [List.length_cons, List.length_nil] at hk; omega)
  have zNk := gSg_free zNk k144 (by intro k hk q; simp only [List.length_cons, List.length_nil] at hk; omega)
  have zT := gSg_free zT k144 (by intro k hk q; simp only [List.length_cons, List.length_nil] at hk; omega)
  have zTl := gSg_free zTl k144 (by intro k hk q; simp only [List.length_cons, List.length_nil] at hk; omega)
  have zTk := gSg_free zTk k144 (by intro k hk q; simp only [List.length_cons, List.length_nil] at hk; omega)
  have zK := gSg_free zK k144 (by intro k hk q; simp only [List.length_cons, List.length_nil] at hk; omega)
  have zKl := gSg_free zKl k144 (by intro k hk q; simp only [List.length_cons, List.length_nil] at hk; omega)
  have zKk := gSg_free zKk k144 (by intro k hk q; simp only [List.length_cons, List.length_nil] at hk; omega)
  have zB := gSg_free zB k144 (by intro k hk q; simp only [List.length_cons, List.length_nil] at hk; omega)
  have zF := gSg_free zF k144 (by intro k hk q; simp only [List.length_cons, List.length_nil] at hk; omega)
  have zG9 := gSg_free zG9 k144 (by intro k hk q; simp only [List.length_cons, List.length_nil] at hk; omega)
  have zA := y1
  have hsz : H142.size = b + 111 := y2
  refine g_putF (T := TX11) (ci := 11) (N := 13) (ty0 := tyX11) hx hb hown hK hS (gY_X11 hT) tyX11_ok nmX11 rfl (zZ 0 _ rfl) 9 (by decide) (hT _ gf_X11_41) rfl hnm rfl rfl rfl (Nat.le_of_ble_eq_true rfl) (by omega) dX11_init_70 (fun H145 locs c146 oq hS => ?_)
  have zZ : gSg G b ([.inr (11, [.ref (b + 1), .ref (b + 36), .ref (b + 71), .int 0, .ref (b + 106), .int 0, .ref (b + 107), .int 0, .ref (b + 108), .ref (b + 109), .null, .null, .null])]) H145 := gSg_set zZ 0 c146 oq
  have zN := gSg_off zN oq (by simp only [List.length_cons, List.length_nil]; omega)
  have zNl := gSg_off zNl oq (by simp only [List.length_cons, List.length_nil]; omega)
  have zNk := gSg_off zNk oq (by simp only [List.length_cons, List.length_nil]; omega)
  have zT := gSg_off zT oq (by simp only [List.length_cons, List.length_nil]; omega)
  have zTl := gSg_off zTl oq (by simp only [List.length_cons, List.length_nil]; omega)
  have zTk := gSg_off zTk oq (by simp only [List.length_cons, List.length_nil]; omega)
  have zK := gSg_off zK oq (by simp only [List.length_cons, List.length_nil]; omega)
  have zKl := gSg_off zKl oq (by simp only [List.length_cons, List.length_nil]; omega)
  have zKk := gSg_off zKk oq (by simp only [List.length_cons, List.length_nil]; omega)
  have zB := gSg_off zB oq (by simp only [List.length_cons, List.length_nil]; omega)
  have zF := gSg_off zF oq (by simp only [List.length_cons, List.length_nil]; omega)
  have zG9 := gSg_off zG9 oq (by simp only [List.length_cons, List.length_nil]; omega)
  have zA := gSg_off zA oq (by simp only [List.length_cons, List.length_nil]; omega)
  have hsz := gSz oq (va_at.lt c146) (by rw [hsz]; omega) hsz
  refine lv_aload_n hx hb dX11_init_73 rfl (lv_at hl 0 rfl) ?_
  refine lv_bipush (v := 6) hx hb dX11_init_74 (by decide) ?_
  refine g_newa 0 (atype := .int) (cA := G.2.1 0) (N := 6) (b := b + 111) (a0 := (6, .inl (fun _ => 0))) hx hb hT hK hS gx_23 rfl (fun h => h) rfl (by decide) (by decide) (Nat.le_of_ble_eq_true rfl) (Nat.le_of_ble_eq_true rfl) (Nat.le_of_ble_eq_true rfl) hsz dX11_init_76 (fun H157 c158 zz159 oo160 hS => ?_)
  have zZ := gSg_kept zZ (fun k hk => oo160 _ (by simp only [List.length_cons, List.length_nil] at hk; omega))
  have zN := gSg_kept zN (fun k hk => oo160 _ (by simp only [List.length_cons, List.length_nil] at hk; omega))
  have zNl := gSg_kept zNl (fun k hk => oo160 _ (by simp only [List.length_cons, List.length_nil] at hk; omega))
  have zNk := gSg_kept zNk (fun k hk => oo160 _ (by simp only [List.length_cons, List.length_nil] at hk; omega))
  have zT := gSg_kept zT (fun k hk => oo160 _ (by simp only [List.length_cons, List.length_nil] at hk; omega))
  have zTl := gSg_kept zTl (fun k hk => oo160 _ (by simp only [List.length_cons, List.length_nil] at hk; omega))
  have zTk := gSg_kept zTk (fun k hk => oo160 _ (by simp only [List.length_cons, List.length_nil] at hk; omega))
  have zK := gSg_kept zK (fun k hk => oo160 _ (by simp only [List.length_cons, List.length_nil] at hk; omega))
  have zKl := gSg_kept zKl (fun k hk => oo160 _ (by simp only [List.length_cons, List.length_nil] at hk; omega))
  have zKk := gSg_kept zKk (fun k hk => oo160 _ (by simp only [List.length_cons, List.length_nil] at hk; omega))
  have zB := gSg_kept zB (fun k hk => oo160 _ (by simp only [List.length_cons, List.length_nil] at hk; omega))
  have zF := gSg_kept zF (fun k hk => oo160 _ (by simp only [List.length_cons, List.length_nil] at hk; omega))
  have zG9 := gSg_kept zG9 (fun k hk => oo160 _ (by simp only [List.length_cons, List.length_nil] at hk; omega))
  have zA := gSg_kept zA (fun k hk => oo160 _ (by simp only [List.length_cons, List.length_nil] at hk; omega))
  have zTP : gSg G (b + 111) ([.inl (G.2.1 0, 6, .inl (fun _ => 0))]) H157 := gSg_1 c158
  have hsz : H157.size = b + 112 := zz159
  refine g_putF (T := TX11) (ci := 11) (N := 13) (ty0 := tyX11) hx hb hown hK hS (gY_X11 hT) tyX11_ok nmX11 rfl (zZ 0 _ rfl) 10 (by decide) (hT _ gf_X11_45) rfl hnm rfl rfl rfl (Nat.le_of_ble_eq_true rfl) (by omega) dX11_init_78 (fun H161 locs c162 oq hS => ?_)
  have zZ : gSg G b ([.inr (11, [.ref (b + 1), .ref (b + 36), .ref (b + 71), .int 0, .ref (b + 106), .int 0, .ref (b + 107), .int 0, .ref (b + 108), .ref (b + 109), .ref (b + 111), .null, .null])]) H161 := gSg_set zZ 0 c162 oq
  have zN := gSg_off zN oq (by simp only [List.length_cons, List.length_nil]; omega)
  have zNl := gSg_off zNl oq (by simp only [List.length_cons, List.length_nil]; omega)
  have zNk := gSg_off zNk oq (by simp only [List.length_cons, List.length_nil]; omega)
  have zT := gSg_off zT oq (by simp only [List.length_cons, List.length_nil]; omega)
  have zTl := gSg_off zTl oq (by simp only [List.length_cons, List.length_nil]; omega)
  have zTk := gSg_off zTk oq (by simp only [List.length_cons, List.length_nil]; omega)
  have zK := gSg_off zK oq (by simp only [List.length_cons, List.length_nil]; omega)
  have zKl := gSg_off zKl oq (by simp only [List.length_cons, List.length_nil]; omega)
  have zKk := gSg_off zKk oq (by simp only [List.length_cons, List.length_nil]; omega)
  have zB := gSg_off zB oq (by simp only [List.length_cons, List.length_nil]; omega)
  have zF := gSg_off zF oq (by simp only [List.length_cons, List.length_nil]; omega)
  have zG9 := gSg_off zG9 oq (by simp only [List.length_cons, List.length_nil]; omega)
  have zA := gSg_off zA oq (by simp only [List.length_cons, List.length_nil]; omega)
  have zTP := gSg_off zTP oq (by simp only [List.length_cons, List.length_nil]; omega)
  have hsz := gSz oq (va_at.lt c162) (by rw [hsz]; omega) hsz
  refine lv_aload_n hx hb dX11_init_81 rfl (lv_at hl 0 rfl) ?_
  refine lv_bipush (v := 6) hx hb dX11_init_82 (by decide) ?_
  refine g_newa 0 (atype := .int) (cA := G.2.1 0) (N := 6) (b := b + 112) (a0 := (6, .inl (fun _ => 0))) hx hb hT hK hS gx_23 rfl (fun h => h) rfl (by decide) (by decide) (Nat.le_of_ble_eq_true rfl) (Nat.le_of_ble_eq_true rfl) (Nat.le_of_ble_eq_true rfl) hsz dX11_init_84 (fun H173 c174 zz175 oo176 hS => ?_)
  have zZ := gSg_kept zZ (fun k hk => oo176 _ (by simp only [List.length_cons, List.length_nil] at hk; omega))
  have zN := gSg_kept zN (fun k hk => oo176 _ (by simp only [List.length_cons, List.length_nil] at hk; omega))
  have zNl := gSg_kept zNl (fun k hk => oo176 _ (by simp only [List.length_cons, List.length_nil] at hk; omega))
  have zNk := gSg_kept zNk (fun k hk => oo176 _ (by simp only [List.length_cons, List.length_nil] at hk; omega))
  have zT := gSg_kept zT (fun k hk => oo176 _ (by simp only [List.length_cons, List.length_nil] at hk; omega))
  have zTl := gSg_kept zTl (fun k hk => oo176 _ (by simp only [List.length_cons, List.length_nil] at hk; omega))
  have zTk := gSg_kept zTk (fun k hk => oo176 _ (by simp only [List.length_cons, List.length_nil] at hk; omega))
  have zK := gSg_kept zK (fun k hk => oo176 _ (by simp only [List.length_cons, List.length_nil] at hk; omega))
  have zKl := gSg_kept zKl (fun k hk => oo176 _ (by simp only [List.length_cons, List.length_nil] at hk; omega))
  have zKk := gSg_kept zKk (fun k hk => oo176 _ (by simp only [List.length_cons, List.length_nil] at hk; omega))
  have zB := gSg_kept zB (fun k hk => oo176 _ (by simp only [List.length_cons, List.length_nil] at hk; omega))
  have zF := gSg_kept zF (fun k hk => oo176 _ (by simp only [List.length_cons, List.length_nil] at hk; omega))
  have zG9 := gSg_kept zG9 (fun k hk => oo176 _ (by simp only [List.length_cons, List.length_nil] at hk; omega))
  have zA := gSg_kept zA (fun k hk => oo176 _ (by simp only [List.length_cons, List.length_nil] at hk; omega))
  have zTP := gSg_kept zTP (fun k hk => oo176 _ (by simp only [List.length_cons, List.length_nil] at hk; omega))
  have zTP : gSg G (b + 111) ([.inl (G.2.1 0, 6, .inl (fun _ => 0)), .inl (G.2.1 0, 6, .inl (fun _ => 0))]) H173 := gSg_app zTP (gSg_1 c174)
  have hsz : H173.size = b + 113 := zz175
  refine g_putF (T := TX11) (ci := 11) (N := 13) (ty0 := tyX11) hx hb hown hK hS (gY_X11 hT) tyX11_ok nmX11 rfl (zZ 0 _ rfl) 11 (by decide) (hT _ gf_X11_48) rfl hnm rfl rfl rfl (Nat.le_of_ble_eq_true rfl) (by omega) dX11_init_86 (fun H177 locs c178 oq hS => ?_)
  have zZ : gSg G b ([.inr (11, [.ref (b + 1), .ref (b + 36), .ref (b + 71), .int 0, .ref (b + 106), .int 0, .ref (b + 107), .int 0, .ref (b + 108), .ref (b + 109), .ref (b + 111), .ref (b + 112), .null])]) H177 := gSg_set zZ 0 c178 oq
  have zN := gSg_off zN oq (by simp only [List.length_cons, List.length_nil]; omega)
  have zNl := gSg_off zNl oq (by simp only [List.length_cons, List.length_nil]; omega)
  have zNk := gSg_off zNk oq (by simp only [List.length_cons, List.length_nil]; omega)
  have zT := gSg_off zT oq (by simp only [List.length_cons, List.length_nil]; omega)
  have zTl := gSg_off zTl oq (by simp only [List.length_cons, List.length_nil]; omega)
  have zTk := gSg_off zTk oq (by simp only [List.length_cons, List.length_nil]; omega)
  have zK := gSg_off zK oq (by simp only [List.length_cons, List.length_nil]; omega)
  have zKl := gSg_off zKl oq (by simp only [List.length_cons, List.length_nil]; omega)
  have zKk := gSg_off zKk oq (by simp only [List.length_cons, List.length_nil]; omega)
  have zB := gSg_off zB oq (by simp only [List.length_cons, List.length_nil]; omega)
  have zF := gSg_off zF oq (by simp only [List.length_cons, List.length_nil]; omega)
  have zG9 := gSg_off zG9 oq (by simp only [List.length_cons, List.length_nil]; omega)
  have zA := gSg_off zA oq (by simp only [List.length_cons, List.length_nil]; omega)
  have zTP := gSg_off zTP oq (by simp only [List.length_cons, List.length_nil]; omega)
  have hsz := gSz oq (va_at.lt c178) (by rw [hsz]; omega) hsz
  refine lv_aload_n hx hb dX11_init_89 rfl (lv_at hl 0 rfl) ?_
  refine lv_bipush (v := 6) hx hb dX11_init_90 (by decide) ?_
  refine lv_bipush (v := 60) hx hb dX11_init_92 (by decide) ?_
  refine g_mna (N := 6) (K := 60) (b := b + 113) hx hb hown hT gk_X11_51 gx_32 hE2 hS (by decide) (by decide) (by decide) (by decide) (Nat.le_of_ble_eq_true rfl) (Nat.le_of_ble_eq_true rfl) (Nat.le_of_ble_eq_true rfl) (Nat.le_of_ble_eq_true rfl) (Nat.le_of_ble_eq_true rfl) hsz dX11_init_94 (fun H193 c194 rr195 zz196 oo197 hS => ?_)
  have zZ := gSg_kept zZ (fun k hk => oo197 _ (by simp only [List.length_cons, List.length_nil] at hk; omega))
  have zN := gSg_kept zN (fun k hk => oo197 _ (by simp only [List.length_cons, List.length_nil] at hk; omega))
  have zNl := gSg_kept zNl (fun k hk => oo197 _ (by simp only [List.length_cons, List.length_nil] at hk; omega))
  have zNk := gSg_kept zNk (fun k hk => oo197 _ (by simp only [List.length_cons, List.length_nil] at hk; omega))
  have zT := gSg_kept zT (fun k hk => oo197 _ (by simp only [List.length_cons, List.length_nil] at hk; omega))
  have zTl := gSg_kept zTl (fun k hk => oo197 _ (by simp only [List.length_cons, List.length_nil] at hk; omega))
  have zTk := gSg_kept zTk (fun k hk => oo197 _ (by simp only [List.length_cons, List.length_nil] at hk; omega))
  have zK := gSg_kept zK (fun k hk => oo197 _ (by simp only [List.length_cons, List.length_nil] at hk; omega))
  have zKl := gSg_kept zKl (fun k hk => oo197 _ (by simp only [List.length_cons, List.length_nil] at hk; omega))
  have zKk := gSg_kept zKk (fun k hk => oo197 _ (by simp only [List.length_cons, List.length_nil] at hk; omega))
  have zB := gSg_kept zB (fun k hk => oo197 _ (by simp only [List.length_cons, List.length_nil] at hk; omega))
  have zF := gSg_kept zF (fun k hk => oo197 _ (by simp only [List.length_cons, List.length_nil] at hk; omega))
  have zG9 := gSg_kept zG9 (fun k hk => oo197 _ (by simp only [List.length_cons, List.length_nil] at hk; omega))
  have zA := gSg_kept zA (fun k hk => oo197 _ (by simp only [List.length_cons, List.length_nil] at hk; omega))
  have zTP := gSg_kept zTP (fun k hk => oo197 _ (by simp only [List.length_cons, List.length_nil] at hk; omega))
  have zTP : gSg G (b + 111) ([.inl (G.2.1 0, 6, .inl (fun _ => 0)), .inl (G.2.1 0, 6, .inl (fun _ => 0)), .inl (G.2.1 6, 6, .inr (.inr (.inr (.inr (fun i => if i < 6 then some (b + 113 + 1 + i) else none)))))]) H193 := gSg_app zTP (gSg_1 c194)
  have zG : gRows G (b + 114) (fun _ => 0) H193 := fun t ht => ⟨fun _ => 0, rr195 t ht, fun _ _ => rfl⟩
  have hsz : H193.size = b + 120 := zz196
  refine g_putF (T := TX11) (ci := 11) (N := 13) (ty0 := tyX11) hx hb hown hK hS (gY_X11 hT) tyX11_ok nmX11 rfl (zZ 0 _ rfl) 12 (by decide) (hT _ gf_X11_53) rfl hnm rfl rfl rfl (Nat.le_of_ble_eq_true rfl) (by omega) dX11_init_98 (fun H198 locs c199 oq hS => ?_)
  have zZ : gSg G b ([.inr (11, [.ref (b + 1), .ref (b + 36), .ref (b + 71), .int 0, .ref (b + 106), .int 0, .ref (b + 107), .int 0, .ref (b + 108), .ref (b + 109), .ref (b + 111), .ref (b + 112), .ref (b + 113)])]) H198 := gSg_set zZ 0 c199 oq
  have zN := gSg_off zN oq (by simp only [List.length_cons, List.length_nil]; omega)
  have zNl := gSg_off zNl oq (by simp only [List.length_cons, List.length_nil]; omega)
  have zNk := gSg_off zNk oq (by simp only [List.length_cons, List.length_nil]; omega)
  have zT := gSg_off zT oq (by simp only [List.length_cons, List.length_nil]; omega)
  have zTl := gSg_off zTl oq (by simp only [List.length_cons, List.length_nil]; omega)
  have zTk := gSg_off zTk oq (by simp only [List.length_cons, List.length_nil]; omega)
  have zK := gSg_off zK oq (by simp only [List.length_cons, List.length_nil]; omega)
  have zKl := gSg_off zKl oq (by simp only [List.length_cons, List.length_nil]; omega)
  have zKk := gSg_off zKk oq (by simp only [List.length_cons, List.length_nil]; omega)
  have zB := gSg_off zB oq (by simp only [List.length_cons, List.length_nil]; omega)
  have zF := gSg_off zF oq (by simp only [List.length_cons, List.length_nil]; omega)
  have zG9 := gSg_off zG9 oq (by simp only [List.length_cons, List.length_nil]; omega)
  have zA := gSg_off zA oq (by simp only [List.length_cons, List.length_nil]; omega)
  have zTP := gSg_off zTP oq (by simp only [List.length_cons, List.length_nil]; omega)
  have zG := gRows_off zG oq (by omega)
  have hsz := gSz oq (va_at.lt c199) (by rw [hsz]; omega) hsz
  refine lv_iconst (v := 0) hx hb dX11_init_101 (by decide) ?_
  refine lv_istore_n (lv' := [(1, .int 0), (0, .ref b)]) hx hb dX11_init_102 rfl hl (by decide) rfl (fun ls hl => ?_)
  refine lv_iload_n hx hb dX11_init_103 rfl (lv_at hl 0 rfl) ?_
  refine lv_bipush (v := 6) hx hb dX11_init_104 (by decide) ?_
  refine lv_icmp_ge (tgt := 128) hx hb dX11_init_106 (by decide) (fun c222 => absurd c222 (by decide)) (fun _ => ?_)
  refine lv_aload_n hx hb dX11_init_109 rfl (lv_at hl 1 rfl) ?_
  refine g_get (v := .ref (b + 107)) (T := TX11) (ci := 11) (N := 13) hx hb hown hK (gY_X11 hT) rfl (zZ 0 _ rfl) 6 (by decide) (hT _ gf_X11_30) rfl dX11_init_110 ?_
  refine lv_iload_n hx hb dX11_init_113 rfl (lv_at hl 0 rfl) ?_
  refine g_new (T := TX5) (N := 10) (ci := 5) (ty := tyX5) (fs := [.null, .int 0, .int 0, .null, .int 0, .null, .null, .int 0, .null, .int 0]) (b := b + 120) hx hb hown hT hK hS gk_X11_28 ga_RX5 gn_RX5 rfl (gY_X5 hT) tyX5_ok (by decide) (Nat.le_of_ble_eq_true rfl) (Nat.le_of_ble_eq_true rfl) hsz dX11_init_114 (fun H235 c236 zz237 oo238 hS => ?_)
  have zZ := gSg_kept zZ (fun k hk => oo238 _ (by simp only [List.length_cons, List.length_nil] at hk; omega))
  have zN := gSg_kept zN (fun k hk => oo238 _ (by simp only [List.length_cons, List.length_nil] at hk; omega))
  have zNl := gSg_kept zNl (fun k hk => oo238 _ (by simp only [List.length_cons, List.length_nil] at hk; omega))
  have zNk := gSg_kept zNk (fun k hk => oo238 _ (by simp only [List.length_cons, List.length_nil] at hk; omega))
  have zT := gSg_kept zT (fun k hk => oo238 _ (by simp only [List.length_cons, List.length_nil] at hk; omega))
  have zTl := gSg_kept zTl (fun k hk => oo238 _ (by simp only [List.length_cons, List.length_nil] at hk; omega))
  have zTk := gSg_kept zTk (fun k hk => oo238 _ (by simp only [List.length_cons, List.length_nil] at hk; omega))
  have zK := gSg_kept zK (fun k hk => oo238 _ (by simp only [List.length_cons, List.length_nil] at hk; omega))
  have zKl := gSg_kept zKl (fun k hk => oo238 _ (by simp only [List.length_cons, List.length_nil] at hk; omega))
  have zKk := gSg_kept zKk (fun k hk => oo238 _ (by simp only [List.length_cons, List.length_nil] at hk; omega))
  have zB := gSg_kept zB (fun k hk => oo238 _ (by simp only [List.length_cons, List.length_nil] at hk; omega))
  have zF := gSg_kept zF (fun k hk => oo238 _ (by simp only [List.length_cons, List.length_nil] at hk; omega))
  have zG9 := gSg_kept zG9 (fun k hk => oo238 _ (by simp only [List.length_cons, List.length_nil] at hk; omega))
  have zA := gSg_kept zA (fun k hk => oo238 _ (by simp only [List.length_cons, List.length_nil] at hk; omega))
  have zTP := gSg_kept zTP (fun k hk => oo238 _ (by simp only [List.length_cons, List.length_nil] at hk; omega))
  have zG := gRows_kept zG (fun k hk => oo238 _ (by omega))
  have zL0 : gSg G (b + 120) ([.inr (5, [.null, .int 0, .int 0, .null, .int 0, .null, .null, .int 0, .null, .int 0])]) H235 := gSg_1 c236
  have hsz : H235.size = b + 121 := zz237
  refine lv_dup hx hb dX11_init_117 rfl ?_
  have htG9 : G.2.2.2.size ≤ b + 120 := Nat.le_trans htG (Nat.le_add_right _ _)
  refine g_kn (g_runN (As := []) (rest := [.ref (b + 120), .int 0, .ref (b + 107)]) (n := 0) hx hb hml hown hE2 hT (c_X5_init l G (b + 120) htG9) gM_X5_init (List.mem_of_getElem? (i := 1) rfl) gi_X5_init rfl ⟨gOld_S hO hS (fun q9 hq9 => Nat.le_trans htG hq9), (zL0 0 _ rfl), hsz⟩ rfl hl.1 ⟨rfl, rfl⟩ ⟨Nat.le_of_ble_eq_true rfl, Nat.le_of_ble_eq_true rfl⟩ ⟨Nat.le_of_ble_eq_true rfl, Nat.le_of_ble_eq_true rfl⟩ rfl (Nat.le_of_ble_eq_true rfl) dX11_init_118) hS (fun q hq => Nat.le_trans (Nat.le_add_right _ _) hq) (fun H247 locs q248 k249 hS => ?_)
  obtain ⟨y1, y2⟩ := q248
  have zZ := gSg_free zZ k249 (by intro k hk q; simp only [List.length_cons, List.length_nil] at hk; omega)
  have zN := gSg_free zN k249 (by intro k hk q; simp only [List.length_cons, List.length_nil] at hk; omega)
  have zNl := gSg_free zNl k249 (by intro k hk q; simp only [List.length_cons, List.length_nil] at hk; omega)
  have zNk := gSg_free zNk k249 (by intro k hk q; simp only [List.length_cons, List.length_nil] at hk; omega)
  have zT := gSg_free zT k249 (by intro k hk q; simp only [List.length_cons, List.length_nil] at hk; omega)
  have zTl := gSg_free zTl k249 (by intro k hk q; simp only [List.length_cons, List.length_nil] at hk; omega)
  have zTk := gSg_free zTk k249 (by intro k hk q; simp only [List.length_cons, List.length_nil] at hk; omega)
  have zK := gSg_free zK k249 (by intro k hk q; simp only [List.length_cons, List.length_nil] at hk; omega)
  have zKl := gSg_free zKl k249 (by intro k hk q; simp only [List.length_cons, List.length_nil] at hk; omega)
  have zKk := gSg_free zKk k249 (by intro k hk q; simp only [List.length_cons, List.length_nil] at hk; omega)
  have zB := gSg_free zB k249 (by intro k hk q; simp only [List.length_cons, List.length_nil] at hk; omega)
  have zF := gSg_free zF k249 (by intro k hk q; simp only [List.length_cons, List.length_nil] at hk; omega)
  have zG9 := gSg_free zG9 k249 (by intro k hk q; simp only [List.length_cons, List.length_nil] at hk; omega)
  have zA := gSg_free zA k249 (by intro k hk q; simp only [List.length_cons, List.length_nil] at hk; omega)
  have zTP := gSg_free zTP k249 (by intro k hk q; simp only [List.length_cons, List.length_nil] at hk; omega)
  have zG := gRows_free zG k249 (by intro k hk q; omega)
  have zL0 := y1
  have hsz : H247.size = b + 126 := y2
  refine g_aas 4 (C := RX5) (D := RX5) (T := TX5) (N := 10) (ci := 5) (j := 0) hx hb hE hS rfl (zF 0 _ rfl) (zL0 0 _ rfl) rfl (by decide) rfl (Nat.le_of_ble_eq_true rfl) (Nat.le_of_ble_eq_true rfl) (by omega) dX11_init_121 (fun H250 locs c251 oq hS => ?_)
  have zF : gSg G (b + 107) ([.inl (G.2.1 4, 6, .inr (.inr (.inr (.inr (va_up (fun _ => none) 0 (some (b + 120)))))))]) H250 := gSg_set zF 0 c251 oq
  have zZ := gSg_off zZ oq (by simp only [List.length_cons, List.length_nil]; omega)
  have zN := gSg_off zN oq (by simp only [List.length_cons, List.length_nil]; omega)
  have zNl := gSg_off zNl oq (by simp only [List.length_cons, List.length_nil]; omega)
  have zNk := gSg_off zNk oq (by simp only [List.length_cons, List.length_nil]; omega)
  have zT := gSg_off zT oq (by simp only [List.length_cons, List.length_nil]; omega)
  have zTl := gSg_off zTl oq (by simp only [List.length_cons, List.length_nil]; omega)
  have zTk := gSg_off zTk oq (by simp only [List.length_cons, List.length_nil]; omega)
  have zK := gSg_off zK oq (by simp only [List.length_cons, List.length_nil]; omega)
  have zKl := gSg_off zKl oq (by simp only [List.length_cons, List.length_nil]; omega)
  have zKk := gSg_off zKk oq (by simp only [List.length_cons, List.length_nil]; omega)
  have zB := gSg_off zB oq (by simp only [List.length_cons, List.length_nil]; omega)
  have zG9 := gSg_off zG9 oq (by simp only [List.length_cons, List.length_nil]; omega)
  have zA := gSg_off zA oq (by simp only [List.length_cons, List.length_nil]; omega)
  have zTP := gSg_off zTP oq (by simp only [List.length_cons, List.length_nil]; omega)
  have zG := gRows_off zG oq (by omega)
  have zL0 := gSg_off zL0 oq (by simp only [List.length_cons, List.length_nil]; omega)
  have hsz := gSz oq (va_at.lt c251) (by rw [hsz]; omega) hsz
  refine lv_iinc (v := 1) (lv' := [(1, .int 1), (0, .ref b)]) hx hb dX11_init_122 hl (k := 0) rfl (by decide) (by decide) rfl (fun ls hl => ?_)
  refine lv_goto (tgt := 103) hx hb dX11_init_125 (by decide) ?_
  refine lv_iload_n hx hb dX11_init_103 rfl (lv_at hl 0 rfl) ?_
  refine lv_bipush (v := 6) hx hb dX11_init_104 (by decide) ?_
  refine lv_icmp_ge (tgt := 128) hx hb dX11_init_106 (by decide) (fun c270 => absurd c270 (by decide)) (fun _ => ?_)
  refine lv_aload_n hx hb dX11_init_109 rfl (lv_at hl 1 rfl) ?_
  refine g_get (v := .ref (b + 107)) (T := TX11) (ci := 11) (N := 13) hx hb hown hK (gY_X11 hT) rfl (zZ 0 _ rfl) 6 (by decide) (hT _ gf_X11_30) rfl dX11_init_110 ?_
  refine lv_iload_n hx hb dX11_init_113 rfl (lv_at hl 0 rfl) ?_
  refine g_new (T := TX5) (N := 10) (ci := 5) (ty := tyX5) (fs := [.null, .int 0, .int 0, .null, .int 0, .null, .null, .int 0, .null, .int 0]) (b := b + 126) hx hb hown hT hK hS gk_X11_28 ga_RX5 gn_RX5 rfl (gY_X5 hT) tyX5_ok (by decide) (Nat.le_of_ble_eq_true rfl) (Nat.le_of_ble_eq_true rfl) hsz dX11_init_114 (fun H283 c284 zz285 oo286 hS => ?_)
  have zZ := gSg_kept zZ (fun k hk => oo286 _ (by simp only [List.length_cons, List.length_nil] at hk; omega))
  have zN := gSg_kept zN (fun k hk => oo286 _ (by simp only [List.length_cons, List.length_nil] at hk; omega))
  have zNl := gSg_kept zNl (fun k hk => oo286 _ (by simp only [List.length_cons, List.length_nil] at hk; omega))
  have zNk := gSg_kept zNk (fun k hk => oo286 _ (by simp only [List.length_cons, List.length_nil] at hk; omega))
  have zT := gSg_kept zT (fun k hk => oo286 _ (by simp only [List.length_cons, List.length_nil] at hk; omega))
  have zTl := gSg_kept zTl (fun k hk => oo286 _ (by simp only [List.length_cons, List.length_nil] at hk; omega))
  have zTk := gSg_kept zTk (fun k hk => oo286 _ (by simp only [List.length_cons, List.length_nil] at hk; omega))
  have zK := gSg_kept zK (fun k hk => oo286 _ (by simp only [List.length_cons, List.length_nil] at hk; omega))
  have zKl := gSg_kept zKl (fun k hk => oo286 _ (by simp only [List.length_cons, List.length_nil] at hk; omega))
  have zKk := gSg_kept zKk (fun k hk => oo286 _ (by simp only [List.length_cons, List.length_nil] at hk; omega))
  have zB := gSg_kept zB (fun k hk => oo286 _ (by simp only [List.length_cons, List.length_nil] at hk; omega))
  have zF := gSg_kept zF (fun k hk => oo286 _ (by simp only [List.length_cons, List.length_nil] at hk; omega))
  have zG9 := gSg_kept zG9 (fun k hk => oo286 _ (by simp only [List.length_cons, List.length_nil] at hk; omega))
  have zA := gSg_kept zA (fun k hk => oo286 _ (by simp only [List.length_cons, List.length_nil] at hk; omega))
  have zTP := gSg_kept zTP (fun k hk => oo286 _ (by simp only [List.length_cons, List.length_nil] at hk; omega))
  have zG := gRows_kept zG (fun k hk => oo286 _ (by omega))
  have zL0 := gSg_kept zL0 (fun k hk => oo286 _ (by simp only [List.length_cons, List.length_nil] at hk; omega))
  have zL1 : gSg G (b + 126) ([.inr (5, [.null, .int 0, .int 0, .null, .int 0, .null, .null, .int 0, .null, .int 0])]) H283 := gSg_1 c284
  have hsz : H283.size = b + 127 := zz285
  refine lv_dup hx hb dX11_init_117 rfl ?_
  have htG9 : G.2.2.2.size ≤ b + 126 := Nat.le_trans htG (Nat.le_add_right _ _)
  refine g_kn (g_runN (As := []) (rest := [.ref (b + 126), .int 1, .ref (b + 107)]) (n := 0) hx hb hml hown hE2 hT (c_X5_init l G (b + 126) htG9) gM_X5_init (List.mem_of_getElem? (i := 1) rfl) gi_X5_init rfl ⟨gOld_S hO hS (fun q9 hq9 => Nat.le_trans htG hq9), (zL1 0 _ rfl), hsz⟩ rfl hl.1 ⟨rfl, rfl⟩ ⟨Nat.le_of_ble_eq_true rfl, Nat.le_of_ble_eq_true rfl⟩ ⟨Nat.le_of_ble_eq_true rfl, Nat.le_of_ble_eq_true rfl⟩ rfl (Nat.le_of_ble_eq_true rfl) dX11_init_118) hS (fun q hq => Nat.le_trans (Nat.le_add_right _ _) hq) (fun H295 locs q296 k297 hS => ?_)
  obtain ⟨y1, y2⟩ := q296
  have zZ := gSg_free zZ k297 (by intro k hk q; simp only [List.length_cons, List.length_nil] at hk; omega)
  have zN := gSg_free zN k297 (by intro k hk q; simp only [List.length_cons, List.length_nil] at hk; omega)
  have zNl := gSg_free zNl k297 (by intro k hk q; simp only [List.length_cons, List.length_nil] at hk; omega)
  have zNk := gSg_free zNk k297 (by intro k hk q; simp only [List.length_cons, List.length_nil] at hk; omega)
  have zT := gSg_free zT k297 (by intro k hk q; simp only [List.length_cons, List.length_nil] at hk; omega)
  have zTl := gSg_free zTl k297 (by intro k hk q; simp only [List.length_cons, List.length_nil] at hk; omega)
  have zTk := gSg_free zTk k297 (by intro k hk q; simp only [List.length_cons, List.length_nil] at hk; omega)
  have zK := gSg_free zK k297 (by intro k hk q; simp only [List.length_cons, List.length_nil] at hk; omega)
  have zKl := gSg_free zKl k297 (by intro k hk q; simp only [List.length_cons, List.length_nil] at hk; omega)
  have zKk := gSg_free zKk k297 (by intro k hk q; simp only [List.length_cons, List.length_nil] at hk; omega)
  have zB := gSg_free zB k297 (by intro k hk q; simp only [List.length_cons, List.length_nil] at hk; omega)
  have zF := gSg_free zF k297 (by intro k hk q; simp only [List.length_cons, List.length_nil] at hk; omega)
  have zG9 := gSg_free zG9 k297 (by intro k hk q; simp only [List.length_cons, List.length_nil] at hk; omega)
  have zA := gSg_free zA k297 (by intro k hk q; simp only [List.length_cons, List.length_nil] at hk; omega)
  have zTP := gSg_free zTP k297 (by intro k hk q; simp only [List.length_cons, List.length_nil] at hk; omega)
  have zG := gRows_free zG k297 (by intro k hk q; omega)
  have zL0 := gSg_free zL0 k297 (by intro k hk q; simp only [List.length_cons, List.length_nil] at hk; omega)
  have zL1 := y1
  have hsz : H295.size = b + 132 := y2
  refine g_aas 4 (C := RX5) (D := RX5) (T := TX5) (N := 10) (ci := 5) (j := 1) hx hb hE hS rfl (zF 0 _ rfl) (zL1 0 _ rfl) rfl (by decide) rfl (Nat.le_of_ble_eq_true rfl) (Nat.le_of_ble_eq_true rfl) (by omega) dX11_init_121 (fun H298 locs c299 oq hS => ?_)
  have zF : gSg G (b + 107) ([.inl (G.2.1 4, 6, .inr (.inr (.inr (.inr (va_up (va_up (fun _ => none) 0 (some (b + 120))) 1 (some (b + 126)))))))]) H298 := gSg_set zF 0 c299 oq
  have zZ := gSg_off zZ oq (by simp only [List.length_cons, List.length_nil]; omega)
  have zN := gSg_off zN oq (by simp only [List.length_cons, List.length_nil]; omega)
  have zNl := gSg_off zNl oq (by simp only [List.length_cons, List.length_nil]; omega)
  have zNk := gSg_off zNk oq (by simp only [List.length_cons, List.length_nil]; omega)
  have zT := gSg_off zT oq (by simp only [List.length_cons, List.length_nil]; omega)
  have zTl := gSg_off zTl oq (by simp only [List.length_cons, List.length_nil]; omega)
  have zTk := gSg_off zTk oq (by simp only [List.length_cons, List.length_nil]; omega)
  have zK := gSg_off zK oq (by simp only [List.length_cons, List.length_nil]; omega)
  have zKl := gSg_off zKl oq (by simp only [List.length_cons, List.length_nil]; omega)
  have zKk := gSg_off zKk oq (by simp only [List.length_cons, List.length_nil]; omega)
  have zB := gSg_off zB oq (by simp only [List.length_cons, List.length_nil]; omega)
  have zG9 := gSg_off zG9 oq (by simp only [List.length_cons, List.length_nil]; omega)
  have zA := gSg_off zA oq (by simp only [List.length_cons, List.length_nil]; omega)
  have zTP := gSg_off zTP oq (by simp only [List.length_cons, List.length_nil]; omega)
  have zG := gRows_off zG oq (by omega)
  have zL0 := gSg_off zL0 oq (by simp only [List.length_cons, List.length_nil]; omega)
  have zL1 := gSg_off zL1 oq (by simp only [List.length_cons, List.length_nil]; omega)
  have hsz := gSz oq (va_at.lt c299) (by rw [hsz]; omega) hsz
  refine lv_iinc (v := 2) (lv' := [(1, .int 2), (0, .ref b)]) hx hb dX11_init_122 hl (k := 0) rfl (by decide) (by decide) rfl (fun ls hl => ?_)
  refine lv_goto (tgt := 103) hx hb dX11_init_125 (by decide) ?_
  refine lv_iload_n hx hb dX11_init_103 rfl (lv_at hl 0 rfl) ?_
  refine lv_bipush (v := 6) hx hb dX11_init_104 (by decide) ?_
  refine lv_icmp_ge (tgt := 128) hx hb dX11_init_106 (by decide) (fun c318 => absurd c318 (by decide)) (fun _ => ?_)
  refine lv_aload_n hx hb dX11_init_109 rfl (lv_at hl 1 rfl) ?_
  refine g_get (v := .ref (b + 107)) (T := TX11) (ci := 11) (N := 13) hx hb hown hK (gY_X11 hT) rfl (zZ 0 _ rfl) 6 (by decide) (hT _ gf_X11_30) rfl dX11_init_110 ?_
  refine lv_iload_n hx hb dX11_init_113 rfl (lv_at hl 0 rfl) ?_
  refine g_new (T := TX5) (N := 10) (ci := 5) (ty := tyX5) (fs := [.null, .int 0, .int 0, .null, .int 0, .null, .null, .int 0, .null, .int 0]) (b := b + 132) hx hb hown hT hK hS gk_X11_28 ga_RX5 gn_RX5 rfl (gY_X5 hT) tyX5_ok (by decide) (Nat.le_of_ble_eq_true rfl) (Nat.le_of_ble_eq_true rfl) hsz dX11_init_114 (fun H331 c332 zz333 oo334 hS => ?_)
  have zZ := gSg_kept zZ (fun k hk => oo334 _ (by simp only [List.length_cons, List.length_nil] at hk; omega))
  have zN := gSg_kept zN (fun k hk => oo334 _ (by simp only [List.length_cons, List.length_nil] at hk; omega))
  have zNl := gSg_kept zNl (fun k hk => oo334 _ (by simp only [List.length_cons, List.length_nil] at hk; omega))
  have zNk := gSg_kept zNk (fun k hk => oo334 _ (by simp only [List.length_cons, List.length_nil] at hk; omega))
  have zT := gSg_kept zT (fun k hk => oo334 _ (by simp only [List.length_cons, List.length_nil] at hk; omega))
  have zTl := gSg_kept zTl (fun k hk => oo334 _ (by simp only [List.length_cons, List.length_nil] at hk; omega))
  have zTk := gSg_kept zTk (fun k hk => oo334 _ (by simp only [List.length_cons, List.length_nil] at hk; omega))
  have zK := gSg_kept zK (fun k hk => oo334 _ (by simp only [List.length_cons, List.length_nil] at hk; omega))
  have zKl := gSg_kept zKl (fun k hk => oo334 _ (by simp only [List.length_cons, List.length_nil] at hk; omega))
  have zKk := gSg_kept zKk (fun k hk => oo334 _ (by simp only [List.length_cons, List.length_nil] at hk; omega))
  have zB := gSg_kept zB (fun k hk => oo334 _ (by simp only [List.length_cons, List.length_nil] at hk; omega))
  have zF := gSg_kept zF (fun k hk => oo334 _ (by simp only [List.length_cons, List.length_nil] at hk; omega))
  have zG9 := gSg_kept zG9 (fun k hk => oo334 _ (by simp only [List.length_cons, List.length_nil] at hk; omega))
  have zA := gSg_kept zA (fun k hk => oo334 _ (by simp only [List.length_cons, List.length_nil] at hk; omega))
  have zTP := gSg_kept zTP (fun k hk => oo334 _ (by simp only [List.length_cons, List.length_nil] at hk; omega))
  have zG := gRows_kept zG (fun k hk => oo334 _ (by omega))
  have zL0 := gSg_kept zL0 (fun k hk => oo334 _ (by simp only [List.length_cons, List.length_nil] at hk; omega))
  have zL1 := gSg_kept zL1 (fun k hk => oo334 _ (by simp only [List.length_cons, List.length_nil] at hk; omega))
  have zL2 : gSg G (b + 132) ([.inr (5, [.null, .int 0, .int 0, .null, .int 0, .null, .null, .int 0, .null, .int 0])]) H331 := gSg_1 c332
  have hsz : H331.size = b + 133 := zz333
  refine lv_dup hx hb dX11_init_117 rfl ?_
  have htG9 : G.2.2.2.size ≤ b + 132 := Nat.le_trans htG (Nat.le_add_right _ _)
  refine g_kn (g_runN (As := []) (rest := [.ref (b + 132), .int 2, .ref (b + 107)]) (n := 0) hx hb hml hown hE2 hT (c_X5_init l G (b + 132) htG9) gM_X5_init (List.mem_of_getElem? (i := 1) rfl) gi_X5_init rfl ⟨gOld_S hO hS (fun q9 hq9 => Nat.le_trans htG hq9), (zL2 0 _ rfl), hsz⟩ rfl hl.1 ⟨rfl, rfl⟩ ⟨Nat.le_of_ble_eq_true rfl, Nat.le_of_ble_eq_true rfl⟩ ⟨Nat.le_of_ble_eq_true rfl, Nat.le_of_ble_eq_true rfl⟩ rfl (Nat.le_of_ble_eq_true rfl) dX11_init_118) hS (fun q hq => Nat.le_trans (Nat.le_add_right _ _) hq) (fun H343 locs q344 k345 hS => ?_)
  obtain ⟨y1, y2⟩ := q344
  have zZ := gSg_free zZ k345 (by intro k hk q; simp only [List.length_cons, List.length_nil] at hk; omega)
  have zN := gSg_free zN k345 (by intro k hk q; simp only [List.length_cons, List.length_nil] at hk; omega)
  have zNl := gSg_free zNl k345 (by intro k hk q; simp only [List.length_cons, List.length_nil] at hk; omega)
  have zNk := gSg_free zNk k345 (by intro k hk q; simp only [List.length_cons, List.length_nil] at hk; omega)
  have zT := gSg_free zT k345 (by intro k hk q; simp only [List.length_cons, List.length_nil] at hk; omega)
  have zTl := gSg_free zTl k345 (by intro k hk q; simp only [List.length_cons, List.length_nil] at hk; omega)
  have zTk := gSg_free zTk k345 (by intro k hk q; simp only [List.length_cons, List.length_nil] at hk; omega)
  have zK := gSg_free zK k345 (by intro k hk q; simp only [List.length_cons, List.length_nil] at hk; omega)
  have zKl := gSg_free zKl k345 (by intro k hk q; simp only [List.length_cons, List.length_nil] at hk; omega)
  have zKk := gSg_free zKk k345 (by intro k hk q; simp only [List.length_cons, List.length_nil] at hk; omega)
  have zB := gSg_free zB k345 (by intro k hk q; simp only [List.length_cons, List.length_nil] at hk; omega)
  have zF := gSg_free zF k345 (by intro k hk q; simp only [List.length_cons, List.length_nil] at hk; omega)
  have zG9 := gSg_free zG9 k345 (by intro k hk q; simp only [List.length_cons, List.length_nil] at hk; omega)
  have zA := gSg_free zA k345 (by intro k hk q; simp only [List.length_cons, List.length_nil] at hk; omega)
  have zTP := gSg_free zTP k345 (by intro k hk q; simp only [List.length_cons, List.length_nil] at hk; omega)
  have zG := gRows_free zG k345 (by intro k hk q; omega)
  have zL0 := gSg_free zL0 k345 (by intro k hk q; simp only [List.length_cons, List.length_nil] at hk; omega)
  have zL1 := gSg_free zL1 k345 (by intro k hk q; simp only [List.length_cons, List.length_nil] at hk; omega)
  have zL2 := y1
  have hsz : H343.size = b + 138 := y2
  refine g_aas 4 (C := RX5) (D := RX5) (T := TX5) (N := 10) (ci := 5) (j := 2) hx hb hE hS rfl (zF 0 _ rfl) (zL2 0 _ rfl) rfl (by decide) rfl (Nat.le_of_ble_eq_true rfl) (Nat.le_of_ble_eq_true rfl) (by omega) dX11_init_121 (fun H346 locs c347 oq hS => ?_)
  have zF : gSg G (b + 107) ([.inl (G.2.1 4, 6, .inr (.inr (.inr (.inr (va_up (va_up (va_up (fun _ => none) 0 (some (b + 120))) 1 (some (b + 126))) 2 (some (b + 132)))))))]) H346 := gSg_set zF 0 c347 oq
  have zZ := gSg_off zZ oq (by simp only [List.length_cons, List.length_nil]; omega)
  have zN := gSg_off zN oq (by simp only [List.length_cons, List.length_nil]; omega)
  have zNl := gSg_off zNl oq (by simp only [List.length_cons, List.length_nil]; omega)
  have zNk := gSg_off zNk oq (by simp only [List.length_cons, List.length_nil]; omega)
  have zT := gSg_off zT oq (by simp only [List.length_cons, List.length_nil]; omega)
  have zTl := gSg_off zTl oq (by simp only [List.length_cons, List.length_nil]; omega)
  have zTk := gSg_off zTk oq (by simp only [List.length_cons, List.length_nil]; omega)
  have zK := gSg_off zK oq (by simp only [List.length_cons, List.length_nil]; omega)
  have zKl := gSg_off zKl oq (by simp only [List.length_cons, List.length_nil]; omega)
  have zKk := gSg_off zKk oq (by simp only [List.length_cons, List.length_nil]; omega)
  have zB := gSg_off zB oq (by simp only [List.length_cons, List.length_nil]; omega)
  have zG9 := gSg_off zG9 oq (by simp only [List.length_cons, List.length_nil]; omega)
  have zA := gSg_off zA oq (by simp only [List.length_cons, List.length_nil]; omega)
  have zTP := gSg_off zTP oq (by simp only [List.length_cons, List.length_nil]; omega)
  have zG := gRows_off zG oq (by omega)
  have zL0 := gSg_off zL0 oq (by simp only [List.length_cons, List.length_nil]; omega)
  have zL1 := gSg_off zL1 oq (by simp only [List.length_cons, List.length_nil]; omega)
  have zL2 := gSg_off zL2 oq (by simp only [List.length_cons, List.length_nil]; omega)
  have hsz := gSz oq (va_at.lt c347) (by rw [hsz]; omega) hsz
  refine lv_iinc (v := 3) (lv' := [(1, .int 3), (0, .ref b)]) hx hb dX11_init_122 hl (k := 0) rfl (by decide) (by decide) rfl (fun ls hl => ?_)
  refine lv_goto (tgt := 103) hx hb dX11_init_125 (by decide) ?_
  refine lv_iload_n hx hb dX11_init_103 rfl (lv_at hl 0 rfl) ?_
  refine lv_bipush (v := 6) hx hb dX11_init_104 (by decide) ?_
  refine lv_icmp_ge (tgt := 128) hx hb dX11_init_106 (by decide) (fun c366 => absurd c366 (by decide)) (fun _ => ?_)
  refine lv_aload_n hx hb dX11_init_109 rfl (lv_at hl 1 rfl) ?_
  refine g_get (v := .ref (b + 107)) (T := TX11) (ci := 11) (N := 13) hx hb hown hK (gY_X11 hT) rfl (zZ 0 _ rfl) 6 (by decide) (hT _ gf_X11_30) rfl dX11_init_110 ?_
  refine lv_iload_n hx hb dX11_init_113 rfl (lv_at hl 0 rfl) ?_
  refine g_new (T := TX5) (N := 10) (ci := 5) (ty := tyX5) (fs := [.null, .int 0, .int 0, .null, .int 0, .null, .null, .int 0, .null, .int 0]) (b := b + 138) hx hb hown hT hK hS gk_X11_28 ga_RX5 gn_RX5 rfl (gY_X5 hT) tyX5_ok (by decide) (Nat.le_of_ble_eq_true rfl) (Nat.le_of_ble_eq_true rfl) hsz dX11_init_114 (fun H379 c380 zz381 oo382 hS => ?_)
  have zZ := gSg_kept zZ (fun k hk => oo382 _ (by simp only [List.length_cons, List.length_nil] at hk; omega))
  have zN := gSg_kept zN (fun k hk => oo382 _ (by simp only [List.length_cons, List.length_nil] at hk; omega))
  have zNl := gSg_kept zNl (fun k hk => oo382 _ (by simp only [List.length_cons, List.length_nil] at hk; omega))
  have zNk := gSg_kept zNk (fun k hk => oo382 _ (by simp only [List.length_cons, List.length_nil] at hk; omega))
  have zT := gSg_kept zT (fun k hk => oo382 _ (by simp only [List.length_cons, List.length_nil] at hk; omega))
  have zTl := gSg_kept zTl (fun k hk => oo382 _ (by simp only [List.length_cons, List.length_nil] at hk; omega))
  have zTk := gSg_kept zTk (fun k hk => oo382 _ (by simp only [List.length_cons, List.length_nil] at hk; omega))
  have zK := gSg_kept zK (fun k hk => oo382 _ (by simp only [List.length_cons, List.length_nil] at hk; omega))
  have zKl := gSg_kept zKl (fun k hk => oo382 _ (by simp only [List.length_cons, List.length_nil] at hk; omega))
  have zKk := gSg_kept zKk (fun k hk => oo382 _ (by simp only [List.length_cons, List.length_nil] at hk; omega))
  have zB := gSg_kept zB (fun k hk => oo382 _ (by simp only [List.length_cons, List.length_nil] at hk; omega))
  have zF := gSg_kept zF (fun k hk => oo382 _ (by simp only [List.length_cons, List.length_nil] at hk; omega))
  have zG9 := gSg_kept zG9 (fun k hk => oo382 _ (by simp only [List.length_cons, List.length_nil] at hk; omega))
  have zA := gSg_kept zA (fun k hk => oo382 _ (by simp only [List.length_cons, List.length_nil] at hk; omega))
  have zTP := gSg_kept zTP (fun k hk => oo382 _ (by simp only [List.length_cons, List.length_nil] at hk; omega))
  have zG := gRows_kept zG (fun k hk => oo382 _ (by omega))
  have zL0 := gSg_kept zL0 (fun k hk => oo382 _ (by simp only [List.length_cons, List.length_nil] at hk; omega))
  have zL1 := gSg_kept zL1 (fun k hk => oo382 _ (by simp only [List.length_cons, List.length_nil] at hk; omega))
  have zL2 := gSg_kept zL2 (fun k hk => oo382 _ (by simp only [List.length_cons, List.length_nil] at hk; omega))
  have zL3 : gSg G (b + 138) ([.inr (5, [.null, .int 0, .int 0, .null, .int 0, .null, .null, .int 0, .null, .int 0])]) H379 := gSg_1 c380
  have hsz : H379.size = b + 139 := zz381
  refine lv_dup hx hb dX11_init_117 rfl ?_
  have htG9 : G.2.2.2.size ≤ b + 138 := Nat.le_trans htG (Nat.le_add_right _ _)
  refine g_kn (g_runN (As := []) (rest := [.ref (b + 138), .int 3, .ref (b + 107)]) (n := 0) hx hb hml hown hE2 hT (c_X5_init l G (b + 138) htG9) gM_X5_init (List.mem_of_getElem? (i := 1) rfl) gi_X5_init rfl ⟨gOld_S hO hS (fun q9 hq9 => Nat.le_trans htG hq9), (zL3 0 _ rfl), hsz⟩ rfl hl.1 ⟨rfl, rfl⟩ ⟨Nat.le_of_ble_eq_true rfl, Nat.le_of_ble_eq_true rfl⟩ ⟨Nat.le_of_ble_eq_true rfl, Nat.le_of_ble_eq_true rfl⟩ rfl (Nat.le_of_ble_eq_true rfl) dX11_init_118) hS (fun q hq => Nat.le_trans (Nat.le_add_right _ _) hq) (fun H391 locs q392 k393 hS => ?_)
  obtain ⟨y1, y2⟩ := q392
  have zZ := gSg_free zZ k393 (by intro k hk q; simp only [List.length_cons, List.length_nil] at hk; omega)
  have zN := gSg_free zN k393 (by intro k hk q; simp only [List.length_cons, List.length_nil] at hk; omega)
  have zNl := gSg_free zNl k393 (by intro k hk q; simp only [List.length_cons, List.length_nil] at hk; omega)
  have zNk := gSg_free zNk k393 (by intro k hk q; simp only [List.length_cons, List.length_nil] at hk; omega)
  have zT := gSg_free zT k393 (by intro k hk q; simp only [List.length_cons, List.length_nil] at hk; omega)
  have zTl := gSg_free zTl k393 (by intro k hk q; simp only [List.length_cons, List.length_nil] at hk; omega)
  have zTk := gSg_free zTk k393 (by intro k hk q; simp only [List.length_cons, List.length_nil] at hk; omega)
  have zK := gSg_free zK k393 (by intro k hk q; simp only [List.length_cons, List.length_nil] at hk; omega)
  have zKl := gSg_free zKl k393 (by intro k hk q; simp only [List.length_cons, List.length_nil] at hk; omega)
  have zKk := gSg_free zKk k393 (by intro k hk q; simp only [List.length_cons, List.length_nil] at hk; omega)
  have zB := gSg_free zB k393 (by intro k hk q; simp only [List.length_cons, List.length_nil] at hk; omega)
  have zF := gSg_free zF k393 (by intro k hk q; simp only [List.length_cons, List.length_nil] at hk; omega)
  have zG9 := gSg_free zG9 k393 (by intro k hk q; simp only [List.length_cons, List.length_nil] at hk; omega)
  have zA := gSg_free zA k393 (by intro k hk q; simp only [List.length_cons, List.length_nil] at hk; omega)
  have zTP := gSg_free zTP k393 (by intro k hk q; simp only [List.length_cons, List.length_nil] at hk; omega)
  have zG := gRows_free zG k393 (by intro k hk q; omega)
  have zL0 := gSg_free zL0 k393 (by intro k hk q; simp only [List.length_cons, List.length_nil] at hk; omega)
  have zL1 := gSg_free zL1 k393 (by intro k hk q; simp only [List.length_cons, List.length_nil] at hk; omega)
  have zL2 := gSg_free zL2 k393 (by intro k hk q; simp only [List.length_cons, List.length_nil] at hk; omega)
  have zL3 := y1
  have hsz : H391.size = b + 144 := y2
  refine g_aas 4 (C := RX5) (D := RX5) (T := TX5) (N := 10) (ci := 5) (j := 3) hx hb hE hS rfl (zF 0 _ rfl) (zL3 0 _ rfl) rfl (by decide) rfl (Nat.le_of_ble_eq_true rfl) (Nat.le_of_ble_eq_true rfl) (by omega) dX11_init_121 (fun H394 locs c395 oq hS => ?_)
  have zF : gSg G (b + 107) ([.inl (G.2.1 4, 6, .inr (.inr (.inr (.inr (va_up (va_up (va_up (va_up (fun _ => none) 0 (some (b + 120))) 1 (some (b + 126))) 2 (some (b + 132))) 3 (some (b + 138)))))))]) H394 := gSg_set zF 0 c395 oq
  have zZ := gSg_off zZ oq (by simp only [List.length_cons, List.length_nil]; omega)
  have zN := gSg_off zN oq (by simp only [List.length_cons, List.length_nil]; omega)
  have zNl := gSg_off zNl oq (by simp only [List.length_cons, List.length_nil]; omega)
  have zNk := gSg_off zNk oq (by simp only [List.length_cons, List.length_nil]; omega)
  have zT := gSg_off zT oq (by simp only [List.length_cons, List.length_nil]; omega)
  have zTl := gSg_off zTl oq (by simp only [List.length_cons, List.length_nil]; omega)
  have zTk := gSg_off zTk oq (by simp only [List.length_cons, List.length_nil]; omega)
  have zK := gSg_off zK oq (by simp only [List.length_cons, List.length_nil]; omega)
  have zKl := gSg_off zKl oq (by simp only [List.length_cons, List.length_nil]; omega)
  have zKk := gSg_off zKk oq (by simp only [List.length_cons, List.length_nil]; omega)
  have zB := gSg_off zB oq (by simp only [List.length_cons, List.length_nil]; omega)
  have zG9 := gSg_off zG9 oq (by simp only [List.length_cons, List.length_nil]; omega)
  have zA := gSg_off zA oq (by simp only [List.length_cons, List.length_nil]; omega)
  have zTP := gSg_off zTP oq (by simp only [List.length_cons, List.length_nil]; omega)
  have zG := gRows_off zG oq (by omega)
  have zL0 := gSg_off zL0 oq (by simp only [List.length_cons, List.length_nil]; omega)
  have zL1 := gSg_off zL1 oq (by simp only [List.length_cons, List.length_nil]; omega)
  have zL2 := gSg_off zL2 oq (by simp only [List.length_cons, List.length_nil]; omega)
  have zL3 := gSg_off zL3 oq (by simp only [List.length_cons, List.length_nil]; omega)
  have hsz := gSz oq (va_at.lt c395) (by rw [hsz]; omega) hsz
  refine lv_iinc (v := 4) (lv' := [(1, .int 4), (0, .ref b)]) hx hb dX11_init_122 hl (k := 0) rfl (by decide) (by decide) rfl (fun ls hl => ?_)
  refine lv_goto (tgt := 103) hx hb dX11_init_125 (by decide) ?_
  refine lv_iload_n hx hb dX11_init_103 rfl (lv_at hl 0 rfl) ?_
  refine lv_bipush (v := 6) hx hb dX11_init_104 (by decide) ?_
  refine lv_icmp_ge (tgt := 128) hx hb dX11_init_106 (by decide) (fun c414 => absurd c414 (by decide)) (fun _ => ?_)
  refine lv_aload_n hx hb dX11_init_109 rfl (lv_at hl 1 rfl) ?_
  refine g_get (v := .ref (b + 107)) (T := TX11) (ci := 11) (N := 13) hx hb hown hK (gY_X11 hT) rfl (zZ 0 _ rfl) 6 (by decide) (hT _ gf_X11_30) rfl dX11_init_110 ?_
  refine lv_iload_n hx hb dX11_init_113 rfl (lv_at hl 0 rfl) ?_
  refine g_new (T := TX5) (N := 10) (ci := 5) (ty := tyX5) (fs := [.null, .int 0, .int 0, .null, .int 0, .null, .null, .int 0, .null, .int 0]) (b := b + 144) hx hb hown hT hK hS gk_X11_28 ga_RX5 gn_RX5 rfl (gY_X5 hT) tyX5_ok (by decide) (Nat.le_of_ble_eq_true rfl) (Nat.le_of_ble_eq_true rfl) hsz dX11_init_114 (fun H427 c428 zz429 oo430 hS => ?_)
  have zZ := gSg_kept zZ (fun k hk => oo430 _ (by simp only [List.length_cons, List.length_nil] at hk; omega))
  have zN := gSg_kept zN (fun k hk => oo430 _ (by simp only [List.length_cons, List.length_nil] at hk; omega))
  have zNl := gSg_kept zNl (fun k hk => oo430 _ (by simp only [List.length_cons, List.length_nil] at hk; omega))
  have zNk := gSg_kept zNk (fun k hk => oo430 _ (by simp only [List.length_cons, List.length_nil] at hk; omega))
  have zT := gSg_kept zT (fun k hk => oo430 _ (by simp only [List.length_cons, List.length_nil] at hk; omega))
  have zTl := gSg_kept zTl (fun k hk => oo430 _ (by simp only [List.length_cons, List.length_nil] at hk; omega))
  have zTk := gSg_kept zTk (fun k hk => oo430 _ (by simp only [List.length_cons, List.length_nil] at hk; omega))
  have zK := gSg_kept zK (fun k hk => oo430 _ (by simp only [List.length_cons, List.length_nil] at hk; omega))
  have zKl := gSg_kept zKl (fun k hk => oo430 _ (by simp only [List.length_cons, List.length_nil] at hk; omega))
  have zKk := gSg_kept zKk (fun k hk => oo430 _ (by simp only [List.length_cons, List.length_nil] at hk; omega))
  have zB := gSg_kept zB (fun k hk => oo430 _ (by simp only [List.length_cons, List.length_nil] at hk; omega))
  have zF := gSg_kept zF (fun k hk => oo430 _ (by simp only [List.length_cons, List.length_nil] at hk; omega))
  have zG9 := gSg_kept zG9 (fun k hk => oo430 _ (by simp only [List.length_cons, List.length_nil] at hk; omega))
  have zA := gSg_kept zA (fun k hk => oo430 _ (by simp only [List.length_cons, List.length_nil] at hk; omega))
  have zTP := gSg_kept zTP (fun k hk => oo430 _ (by simp only [List.length_cons, List.length_nil] at hk; omega))
  have zG := gRows_kept zG (fun k hk => oo430 _ (by omega))
  have zL0 := gSg_kept zL0 (fun k hk => oo430 _ (by simp only [List.length_cons, List.length_nil] at hk; omega))
  have zL1 := gSg_kept zL1 (fun k hk => oo430 _ (by simp only [List.length_cons, List.length_nil] at hk; omega))
  have zL2 := gSg_kept zL2 (fun k hk => oo430 _ (by simp only [List.length_cons, List.length_nil] at hk; omega))
  have zL3 := gSg_kept zL3 (fun k hk => oo430 _ (by simp only [List.length_cons, List.length_nil] at hk; omega))
  have zL4 : gSg G (b + 144) ([.inr (5, [.null, .int 0, .int 0, .null, .int 0, .null, .null, .int 0, .null, .int 0])]) H427 := gSg_1 c428
  have hsz : H427.size = b + 145 := zz429
  refine lv_dup hx hb dX11_init_117 rfl ?_
  have htG9 : G.2.2.2.size ≤ b + 144 := Nat.le_trans htG (Nat.le_add_right _ _)
  refine g_kn (g_runN (As := []) (rest := [.ref (b + 144), .int 4, .ref (b + 107)]) (n := 0) hx hb hml hown hE2 hT (c_X5_init l G (b + 144) htG9) gM_X5_init (List.mem_of_getElem? (i := 1) rfl) gi_X5_init rfl ⟨gOld_S hO hS (fun q9 hq9 => Nat.le_trans htG hq9), (zL4 0 _ rfl), hsz⟩ rfl hl.1 ⟨rfl, rfl⟩ ⟨Nat.le_of_ble_eq_true rfl, Nat.le_of_ble_eq_true rfl⟩ ⟨Nat.le_of_ble_eq_true rfl, Nat.le_of_ble_eq_true rfl⟩ rfl (Nat.le_of_ble_eq_true rfl) dX11_init_118) hS (fun q hq => Nat.le_trans (Nat.le_add_right _ _) hq) (fun H439 locs q440 k441 hS => ?_)
  obtain ⟨y1, y2⟩ := q440
  have zZ := gSg_free zZ k441 (by intro k hk q; simp only [List.length_cons, List.length_nil] at hk; omega)
  have zN := gSg_free zN k441 (by intro k hk q; simp only [List.length_cons, List.length_nil] at hk; omega)
  have zNl := gSg_free zNl k441 (by intro k hk q; simp only [List.length_cons, List.length_nil] at hk; omega)
  have zNk := gSg_free zNk k441 (by intro k hk q; simp only [List.length_cons, List.length_nil] at hk; omega)
  have zT := gSg_free zT k441 (by intro k hk q; simp only [List.length_cons, List.length_nil] at hk; omega)
  have zTl := gSg_free zTl k441 (by intro k hk q; simp only [List.length_cons, List.length_nil] at hk; omega)
  have zTk := gSg_free zTk k441 (by intro k hk q; simp only [List.length_cons, List.length_nil] at hk; omega)
  have zK := gSg_free zK k441 (by intro k hk q; simp only [List.length_cons, List.length_nil] at hk; omega)
  have zKl := gSg_free zKl k441 (by intro k hk q; simp only [List.length_cons, List.length_nil] at hk; omega)
  have zKk := gSg_free zKk k441 (by intro k hk q; simp only [List.length_cons, List.length_nil] at hk; omega)
  have zB := gSg_free zB k441 (by intro k hk q; simp only [List.length_cons, List.length_nil] at hk; omega)
  have zF := gSg_free zF k441 (by intro k hk q; simp only [List.length_cons, List.length_nil] at hk; omega)
  have zG9 := gSg_free zG9 k441 (by intro k hk q; simp only [List.length_cons, List.length_nil] at hk; omega)
  have zA := gSg_free zA k441 (by intro k hk q; simp only [List.length_cons, List.length_nil] at hk; omega)
  have zTP := gSg_free zTP k441 (by intro k hk q; simp only [List.length_cons, List.length_nil] at hk; omega)
  have zG := gRows_free zG k441 (by intro k hk q; omega)
  have zL0 := gSg_free zL0 k441 (by intro k hk q; simp only [List.length_cons, List.length_nil] at hk; omega)
  have zL1 := gSg_free zL1 k441 (by intro k hk q; simp only [List.length_cons, List.length_nil] at hk; omega)
  have zL2 := gSg_free zL2 k441 (by intro k hk q; simp only [List.length_cons, List.length_nil] at hk; omega)
  have zL3 := gSg_free zL3 k441 (by intro k hk q; simp only [List.length_cons, List.length_nil] at hk; omega)
  have zL4 := y1
  have hsz : H439.size = b + 150 := y2
  refine g_aas 4 (C := RX5) (D := RX5) (T := TX5) (N := 10) (ci := 5) (j := 4) hx hb hE hS rfl (zF 0 _ rfl) (zL4 0 _ rfl) rfl (by decide) rfl (Nat.le_of_ble_eq_true rfl) (Nat.le_of_ble_eq_true rfl) (by omega) dX11_init_121 (fun H442 locs c443 oq hS => ?_)
  have zF : gSg G (b + 107) ([.inl (G.2.1 4, 6, .inr (.inr (.inr (.inr (va_up (va_up (va_up (va_up (va_up (fun _ => none) 0 (some (b + 120))) 1 (some (b + 126))) 2 (some (b + 132))) 3 (some (b + 138))) 4 (some (b + 144)))))))]) H442 := gSg_set zF 0 c443 oq
  have zZ := gSg_off zZ oq (by simp only [List.length_cons, List.length_nil]; omega)
  have zN := gSg_off zN oq (by simp only [List.length_cons, List.length_nil]; omega)
  have zNl := gSg_off zNl oq (by simp only [List.length_cons, List.length_nil]; omega)
  have zNk := gSg_off zNk oq (by simp only [List.length_cons, List.length_nil]; omega)
  have zT := gSg_off zT oq (by simp only [List.length_cons, List.length_nil]; omega)
  have zTl := gSg_off zTl oq (by simp only [List.length_cons, List.length_nil]; omega)
  have zTk := gSg_off zTk oq (by simp only [List.length_cons, List.length_nil]; omega)
  have zK := gSg_off zK oq (by simp only [List.length_cons, List.length_nil]; omega)
  have zKl := gSg_off zKl oq (by simp only [List.length_cons, List.length_nil]; omega)
  have zKk := gSg_off zKk oq (by simp only [List.length_cons, List.length_nil]; omega)
  have zB := gSg_off zB oq (by simp only [List.length_cons, List.length_nil]; omega)
  have zG9 := gSg_off zG9 oq (by simp only [List.length_cons, List.length_nil]; omega)
  have zA := gSg_off zA oq (by simp only [List.length_cons, List.length_nil]; omega)
  have zTP := gSg_off zTP oq (by simp only [List.length_cons, List.length_nil]; omega)
  have zG := gRows_off zG oq (by omega)
  have zL0 := gSg_off zL0 oq (by simp only [List.length_cons, List.length_nil]; omega)
  have zL1 := gSg_off zL1 oq (by simp only [List.length_cons, List.length_nil]; omega)
  have zL2 := gSg_off zL2 oq (by simp only [List.length_cons, List.length_nil]; omega)
  have zL3 := gSg_off zL3 oq (by simp only [List.length_cons, List.length_nil]; omega)
  have zL4 := gSg_off zL4 oq (by simp only [List.length_cons, List.length_nil]; omega)
  have hsz := gSz oq (va_at.lt c443) (by rw [hsz]; omega) hsz
  refine lv_iinc (v := 5) (lv' := [(1, .int 5), (0, .ref b)]) hx hb dX11_init_122 hl (k := 0) rfl (by decide) (by decide) rfl (fun ls hl => ?_)
  refine lv_goto (tgt := 103) hx hb dX11_init_125 (by decide) ?_
  refine lv_iload_n hx hb dX11_init_103 rfl (lv_at hl 0 rfl) ?_
  refine lv_bipush (v := 6) hx hb dX11_init_104 (by decide) ?_
  refine lv_icmp_ge (tgt := 128) hx hb dX11_init_106 (by decide) (fun c462 => absurd c462 (by decide)) (fun _ => ?_)
  refine lv_aload_n hx hb dX11_init_109 rfl (lv_at hl 1 rfl) ?_
  refine g_get (v := .ref (b + 107)) (T := TX11) (ci := 11) (N := 13) hx hb hown hK (gY_X11 hT) rfl (zZ 0 _ rfl) 6 (by decide) (hT _ gf_X11_30) rfl dX11_init_110 ?_
  refine lv_iload_n hx hb dX11_init_113 rfl (lv_at hl 0 rfl) ?_
  refine g_new (T := TX5) (N := 10) (ci := 5) (ty := tyX5) (fs := [.null, .int 0, .int 0, .null, .int 0, .null, .null, .int 0, .null, .int 0]) (b := b + 150) hx hb hown hT hK hS gk_X11_28 ga_RX5 gn_RX5 rfl (gY_X5 hT) tyX5_ok (by decide) (Nat.le_of_ble_eq_true rfl) (Nat.le_of_ble_eq_true rfl) hsz dX11_init_114 (fun H475 c476 zz477 oo478 hS => ?_)
  have zZ := gSg_kept zZ (fun k hk => oo478 _ (by simp only [List.length_cons, List.length_nil] at hk; omega))
  have zN := gSg_kept zN (fun k hk => oo478 _ (by simp only [List.length_cons, List.length_nil] at hk; omega))
  have zNl := gSg_kept zNl (fun k hk => oo478 _ (by simp only [List.length_cons, List.length_nil] at hk; omega))
  have zNk := gSg_kept zNk (fun k hk => oo478 _ (by simp only [List.length_cons, List.length_nil] at hk; omega))
  have zT := gSg_kept zT (fun k hk => oo478 _ (by simp only [List.length_cons, List.length_nil] at hk; omega))
  have zTl := gSg_kept zTl (fun k hk => oo478 _ (by simp only [List.length_cons, List.length_nil] at hk; omega))
  have zTk := gSg_kept zTk (fun k hk => oo478 _ (by simp only [List.length_cons, List.length_nil] at hk; omega))
  have zK := gSg_kept zK (fun k hk => oo478 _ (by simp only [List.length_cons, List.length_nil] at hk; omega))
  have zKl := gSg_kept zKl (fun k hk => oo478 _ (by simp only [List.length_cons, List.length_nil] at hk; omega))
  have zKk := gSg_kept zKk (fun k hk => oo478 _ (by simp only [List.length_cons, List.length_nil] at hk; omega))
  have zB := gSg_kept zB (fun k hk => oo478 _ (by simp only [List.length_cons, List.length_nil] at hk; omega))
  have zF := gSg_kept zF (fun k hk => oo478 _ (by simp only [List.length_cons, List.length_nil] at hk; omega))
  have zG9 := gSg_kept zG9 (fun k hk => oo478 _ (by simp only [List.length_cons, List.length_nil] at hk; omega))
  have zA := gSg_kept zA (fun k hk => oo478 _ (by simp only [List.length_cons, List.length_nil] at hk; omega))
  have zTP := gSg_kept zTP (fun k hk => oo478 _ (by simp only [List.length_cons, List.length_nil] at hk; omega))
  have zG := gRows_kept zG (fun k hk => oo478 _ (by omega))
  have zL0 := gSg_kept zL0 (fun k hk => oo478 _ (by simp only [List.length_cons, List.length_nil] at hk; omega))
  have zL1 := gSg_kept zL1 (fun k hk => oo478 _ (by simp only [List.length_cons, List.length_nil] at hk; omega))
  have zL2 := gSg_kept zL2 (fun k hk => oo478 _ (by simp only [List.length_cons, List.length_nil] at hk; omega))
  have zL3 := gSg_kept zL3 (fun k hk => oo478 _ (by simp only [List.length_cons, List.length_nil] at hk; omega))
  have zL4 := gSg_kept zL4 (fun k hk => oo478 _ (by simp only [List.length_cons, List.length_nil] at hk; omega))
  have zL5 : gSg G (b + 150) ([.inr (5, [.null, .int 0, .int 0, .null, .int 0, .null, .null, .int 0, .null, .int 0])]) H475 := gSg_1 c476
  have hsz : H475.size = b + 151 := zz477
  refine lv_dup hx hb dX11_init_117 rfl ?_
  have htG9 : G.2.2.2.size ≤ b + 150 := Nat.le_trans htG (Nat.le_add_right _ _)
  refine g_kn (g_runN (As := []) (rest := [.ref (b + 150), .int 5, .ref (b + 107)]) (n := 0) hx hb hml hown hE2 hT (c_X5_init l G (b + 150) htG9) gM_X5_init (List.mem_of_getElem? (i := 1) rfl) gi_X5_init rfl ⟨gOld_S hO hS (fun q9 hq9 => Nat.le_trans htG hq9), (zL5 0 _ rfl), hsz⟩ rfl hl.1 ⟨rfl, rfl⟩ ⟨Nat.le_of_ble_eq_true rfl, Nat.le_of_ble_eq_true rfl⟩ ⟨Nat.le_of_ble_eq_true rfl, Nat.le_of_ble_eq_true rfl⟩ rfl (Nat.le_of_ble_eq_true rfl) dX11_init_118) hS (fun q hq => Nat.le_trans (Nat.le_add_right _ _) hq) (fun H487 locs q488 k489 hS => ?_)
  obtain ⟨y1, y2⟩ := q488
  have zZ := gSg_free zZ k489 (by intro k hk q; simp only [List.length_cons, List.length_nil] at hk; omega)
  have zN := gSg_free zN k489 (by intro k hk q; simp only [List.length_cons, List.length_nil] at hk; omega)
  have zNl := gSg_free zNl k489 (by intro k hk q; simp only [List.length_cons, List.length_nil] at hk; omega)
  have zNk := gSg_free zNk k489 (by intro k hk q; simp only [List.length_cons, List.length_nil] at hk; omega)
  have zT := gSg_free zT k489 (by intro k hk q; simp only [List.length_cons, List.length_nil] at hk; omega)
  have zTl := gSg_free zTl k489 (by intro k hk q; simp only [List.length_cons, List.length_nil] at hk; omega)
  have zTk := gSg_free zTk k489 (by intro k hk q; simp only [List.length_cons, List.length_nil] at hk; omega)
  have zK := gSg_free zK k489 (by intro k hk q; simp only [List.length_cons, List.length_nil] at hk; omega)
  have zKl := gSg_free zKl k489 (by intro k hk q; simp only [List.length_cons, List.length_nil] at hk; omega)
  have zKk := gSg_free zKk k489 (by intro k hk q; simp only [List.length_cons, List.length_nil] at hk; omega)
  have zB := gSg_free zB k489 (by intro k hk q; simp only [List.length_cons, List.length_nil] at hk; omega)
  have zF := gSg_free zF k489 (by intro k hk q; simp only [List.length_cons, List.length_nil] at hk; omega)
  have zG9 := gSg_free zG9 k489 (by intro k hk q; simp only [List.length_cons, List.length_nil] at hk; omega)
  have zA := gSg_free zA k489 (by intro k hk q; simp only [List.length_cons, List.length_nil] at hk; omega)
  have zTP := gSg_free zTP k489 (by intro k hk q; simp only [List.length_cons, List.length_nil] at hk; omega)
  have zG := gRows_free zG k489 (by intro k hk q; omega)
  have zL0 := gSg_free zL0 k489 (by intro k hk q; simp only [List.length_cons, List.length_nil] at hk; omega)
  have zL1 := gSg_free zL1 k489 (by intro k hk q; simp only [List.length_cons, List.length_nil] at hk; omega)
  have zL2 := gSg_free zL2 k489 (by intro k hk q; simp only [List.length_cons, List.length_nil] at hk; omega)
  have zL3 := gSg_free zL3 k489 (by intro k hk q; simp only [List.length_cons, List.length_nil] at hk; omega)
  have zL4 := gSg_free zL4 k489 (by intro k hk q; simp only [List.length_cons, List.length_nil] at hk; omega)
  have zL5 := y1
  have hsz : H487.size = b + 156 := y2
  refine g_aas 4 (C := RX5) (D := RX5) (T := TX5) (N := 10) (ci := 5) (j := 5) hx hb hE hS rfl (zF 0 _ rfl) (zL5 0 _ rfl) rfl (by decide) rfl (Nat.le_of_ble_eq_true rfl) (Nat.le_of_ble_eq_true rfl) (by omega) dX11_init_121 (fun H490 locs c491 oq hS => ?_)
  have zF : gSg G (b + 107) ([.inl (G.2.1 4, 6, .inr (.inr (.inr (.inr (va_up (va_up (va_up (va_up (va_up (va_up (fun _ => none) 0 (some (b + 120))) 1 (some (b + 126))) 2 (some (b + 132))) 3 (some (b + 138))) 4 (some (b + 144))) 5 (some (b + 150)))))))]) H490 := gSg_set zF 0 c491 oq
  have zZ := gSg_off zZ oq (by simp only [List.length_cons, List.length_nil]; omega)
  have zN := gSg_off zN oq (by simp only [List.length_cons, List.length_nil]; omega)
  have zNl := gSg_off zNl oq (by simp only [List.length_cons, List.length_nil]; omega)
  have zNk := gSg_off zNk oq (by simp only [List.length_cons, List.length_nil]; omega)
  have zT := gSg_off zT oq (by simp only [List.length_cons, List.length_nil]; omega)
  have zTl := gSg_off zTl oq (by simp only [List.length_cons, List.length_nil]; omega)
  have zTk := gSg_off zTk oq (by simp only [List.length_cons, List.length_nil]; omega)
  have zK := gSg_off zK oq (by simp only [List.length_cons, List.length_nil]; omega)
  have zKl := gSg_off zKl oq (by simp only [List.length_cons, List.length_nil]; omega)
  have zKk := gSg_off zKk oq (by simp only [List.length_cons, List.length_nil]; omega)
  have zB := gSg_off zB oq (by simp only [List.length_cons, List.length_nil]; omega)
  have zG9 := gSg_off zG9 oq (by simp only [List.length_cons, List.length_nil]; omega)
  have zA := gSg_off zA oq (by simp only [List.length_cons, List.length_nil]; omega)
  have zTP := gSg_off zTP oq (by simp only [List.length_cons, List.length_nil]; omega)
  have zG := gRows_off zG oq (by omega)
  have zL0 := gSg_off zL0 oq (by simp only [List.length_cons, List.length_nil]; omega)
  have zL1 := gSg_off zL1 oq (by simp only [List.length_cons, List.length_nil]; omega)
  have zL2 := gSg_off zL2 oq (by simp only [List.length_cons, List.length_nil]; omega)
  have zL3 := gSg_off zL3 oq (by simp only [List.length_cons, List.length_nil]; omega)
  have zL4 := gSg_off zL4 oq (by simp only [List.length_cons, List.length_nil]; omega)
  have zL5 := gSg_off zL5 oq (by simp only [List.length_cons, List.length_nil]; omega)
  have hsz := gSz oq (va_at.lt c491) (by rw [hsz]; omega) hsz
  refine lv_iinc (v := 6) (lv' := [(1, .int 6), (0, .ref b)]) hx hb dX11_init_122 hl (k := 0) rfl (by decide) (by decide) rfl (fun ls hl => ?_)
  refine lv_goto (tgt := 103) hx hb dX11_init_125 (by decide) ?_
  refine lv_iload_n hx hb dX11_init_103 rfl (lv_at hl 0 rfl) ?_
  refine lv_bipush (v := 6) hx hb dX11_init_104 (by decide) ?_
  refine lv_icmp_ge (tgt := 128) hx hb dX11_init_106 (by decide) (fun _ => ?_) (fun c510 => absurd (by decide) c510)
  refine lv_iconst (v := 0) hx hb dX11_init_128 (by decide) ?_
  refine lv_istore_n (lv' := [(1, .int 0), (0, .ref b)]) hx hb dX11_init_129 rfl hl (by decide) rfl (fun ls hl => ?_)
  refine lv_iload_n hx hb dX11_init_130 rfl (lv_at hl 0 rfl) ?_
  refine lv_bipush (v := 6) hx hb dX11_init_131 (by decide) ?_
  refine lv_icmp_ge (tgt := 149) hx hb dX11_init_133 (by decide) (fun c531 => absurd c531 (by decide)) (fun _ => ?_)
  refine lv_aload_n hx hb dX11_init_136 rfl (lv_at hl 1 rfl) ?_
  refine g_get (v := .ref (b + 111)) (T := TX11) (ci := 11) (N := 13) hx hb hown hK (gY_X11 hT) rfl (zZ 0 _ rfl) 10 (by decide) (hT _ gf_X11_45) rfl dX11_init_137 ?_
  refine lv_iload_n hx hb dX11_init_140 rfl (lv_at hl 0 rfl) ?_
  refine lv_iconst (v := (-1)) hx hb dX11_init_141 (by decide) ?_
  refine g_is (j := 0) hx hb hK hS (zTP 0 _ rfl) rfl (by omega) (Nat.le_of_ble_eq_true rfl) (by omega) dX11_init_142 (fun H552 locs c553 oq hS => ?_)
  have zTP : gSg G (b + 111) ([.inl (G.2.1 0, 6, .inl (upd (fun _ => 0) 0 (-1))), .inl (G.2.1 0, 6, .inl (fun _ => 0)), .inl (G.2.1 6, 6, .inr (.inr (.inr (.inr (fun i => if i < 6 then some (b + 113 + 1 + i) else none)))))]) H552 := gSg_set zTP 0 c553 oq
  have zZ := gSg_off zZ oq (by simp only [List.length_cons, List.length_nil]; omega)
  have zN := gSg_off zN oq (by simp only [List.length_cons, List.length_nil]; omega)
  have zNl := gSg_off zNl oq (by simp only [List.length_cons, List.length_nil]; omega)
  have zNk := gSg_off zNk oq (by simp only [List.length_cons, List.length_nil]; omega)
  have zT := gSg_off zT oq (by simp only [List.length_cons, List.length_nil]; omega)
  have zTl := gSg_off zTl oq (by simp only [List.length_cons, List.length_nil]; omega)
  have zTk := gSg_off zTk oq (by simp only [List.length_cons, List.length_nil]; omega)
  have zK := gSg_off zK oq (by simp only [List.length_cons, List.length_nil]; omega)
  have zKl := gSg_off zKl oq (by simp only [List.length_cons, List.length_nil]; omega)
  have zKk := gSg_off zKk oq (by simp only [List.length_cons, List.length_nil]; omega)
  have zB := gSg_off zB oq (by simp only [List.length_cons, List.length_nil]; omega)
  have zF := gSg_off zF oq (by simp only [List.length_cons, List.length_nil]; omega)
  have zG9 := gSg_off zG9 oq (by simp only [List.length_cons, List.length_nil]; omega)
  have zA := gSg_off zA oq (by simp only [List.length_cons, List.length_nil]; omega)
  have zG := gRows_off zG oq (by omega)
  have zL0 := gSg_off zL0 oq (by simp only [List.length_cons, List.length_nil]; omega)
  have zL1 := gSg_off zL1 oq (by simp only [List.length_cons, List.length_nil]; omega)
  have zL2 := gSg_off zL2 oq (by simp only [List.length_cons, List.length_nil]; omega)
  have zL3 := gSg_off zL3 oq (by simp only [List.length_cons, List.length_nil]; omega)
  have zL4 := gSg_off zL4 oq (by simp only [List.length_cons, List.length_nil]; omega)
  have zL5 := gSg_off zL5 oq (by simp only [List.length_cons, List.length_nil]; omega)
  have hsz := gSz oq (va_at.lt c553) (by rw [hsz]; omega) hsz
  refine lv_iinc (v := 1) (lv' := [(1, .int 1), (0, .ref b)]) hx hb dX11_init_143 hl (k := 0) rfl (by decide) (by decide) rfl (fun ls hl => ?_)
  refine lv_goto (tgt := 130) hx hb dX11_init_146 (by decide) ?_
  refine lv_iload_n hx hb dX11_init_130 rfl (lv_at hl 0 rfl) ?_
  refine lv_bipush (v := 6) hx hb dX11_init_131 (by decide) ?_
  refine lv_icmp_ge (tgt := 149) hx hb dX11_init_133 (by decide) (fun c570 => absurd c570 (by decide)) (fun _ => ?_)
  refine lv_aload_n hx hb dX11_init_136 rfl (lv_at hl 1 rfl) ?_
  refine g_get (v := .ref (b + 111)) (T := TX11) (ci := 11) (N := 13) hx hb hown hK (gY_X11 hT) rfl (zZ 0 _ rfl) 10 (by decide) (hT _ gf_X11_45) rfl dX11_init_137 ?_
  refine lv_iload_n hx hb dX11_init_140 rfl (lv_at hl 0 rfl) ?_
  refine lv_iconst (v := (-1)) hx hb dX11_init_141 (by decide) ?_
  refine g_is (j := 1) hx hb hK hS (zTP 0 _ rfl) rfl (by omega) (Nat.le_of_ble_eq_true rfl) (by omega) dX11_init_142 (fun H591 locs c592 oq hS => ?_)
  have zTP : gSg G (b + 111) ([.inl (G.2.1 0, 6, .inl (upd (upd (fun _ => 0) 0 (-1)) 1 (-1))), .inl (G.2.1 0, 6, .inl (fun _ => 0)), .inl (G.2.1 6, 6, .inr (.inr (.inr (.inr (fun i => if i < 6 then some (b + 113 + 1 + i) else none)))))]) H591 := gSg_set zTP 0 c592 oq
  have zZ := gSg_off zZ oq (by simp only [List.length_cons, List.length_nil]; omega)
  have zN := gSg_off zN oq (by simp only [List.length_cons, List.length_nil]; omega)
  have zNl := gSg_off zNl oq (by simp only [List.length_cons, List.length_nil]; omega)
  have zNk := gSg_off zNk oq (by simp only [List.length_cons, List.length_nil]; omega)
  have zT := gSg_off zT oq (by simp only [List.length_cons, List.length_nil]; omega)
  have zTl := gSg_off zTl oq (by simp only [List.length_cons, List.length_nil]; omega)
  have zTk := gSg_off zTk oq (by simp only [List.length_cons, List.length_nil]; omega)
  have zK := gSg_off zK oq (by simp only [List.length_cons, List.length_nil]; omega)
  have zKl := gSg_off zKl oq (by simp only [List.length_cons, List.length_nil]; omega)
  have zKk := gSg_off zKk oq (by simp only [List.length_cons, List.length_nil]; omega)
  have zB := gSg_off zB oq (by simp only [List.length_cons, List.length_nil]; omega)
  have zF := gSg_off zF oq (by simp only [List.length_cons, List.length_nil]; omega)
  have zG9 := gSg_off zG9 oq (by simp only [List.length_cons, List.length_nil]; omega)
  have zA := gSg_off zA oq (by simp only [List.length_cons, List.length_nil]; omega)
  have zG := gRows_off zG oq (by omega)
  have zL0 := gSg_off zL0 oq (by simp only [List.length_cons, List.length_nil]; omega)
  have zL1 := gSg_off zL1 oq (by simp only [List.length_cons, List.length_nil]; omega)
  have zL2 := gSg_off zL2 oq (by simp only [List.length_cons, List.length_nil]; omega)
  have zL3 := gSg_off zL3 oq (by simp only [List.length_cons, List.length_nil]; omega)
  have zL4 := gSg_off zL4 oq (by simp only [List.length_cons, List.length_nil]; omega)
  have zL5 := gSg_off zL5 oq (by simp only [List.length_cons, List.length_nil]; omega)
  have hsz := gSz oq (va_at.lt c592) (by rw [hsz]; omega) hsz
  refine lv_iinc (v := 2) (lv' := [(1, .int 2), (0, .ref b)]) hx hb dX11_init_143 hl (k := 0) rfl (by decide) (by decide) rfl (fun ls hl => ?_)
  refine lv_goto (tgt := 130) hx hb dX11_init_146 (by decide) ?_
  refine lv_iload_n hx hb dX11_init_130 rfl (lv_at hl 0 rfl) ?_
  refine lv_bipush (v := 6) hx hb dX11_init_131 (by decide) ?_
  refine lv_icmp_ge (tgt := 149) hx hb dX11_init_133 (by decide) (fun c609 => absurd c609 (by decide)) (fun _ => ?_)
  refine lv_aload_n hx hb dX11_init_136 rfl (lv_at hl 1 rfl) ?_
  refine g_get (v := .ref (b + 111)) (T := TX11) (ci := 11) (N := 13) hx hb hown hK (gY_X11 hT) rfl (zZ 0 _ rfl) 10 (by decide) (hT _ gf_X11_45) rfl dX11_init_137 ?_
  refine lv_iload_n hx hb dX11_init_140 rfl (lv_at hl 0 rfl) ?_
  refine lv_iconst (v := (-1)) hx hb dX11_init_141 (by decide) ?_
  refine g_is (j := 2) hx hb hK hS (zTP 0 _ rfl) rfl (by omega) (Nat.le_of_ble_eq_true rfl) (by omega) dX11_init_142 (fun H630 locs c631 oq hS => ?_)
  have zTP : gSg G (b + 111) ([.inl (G.2.1 0, 6, .inl (upd (upd (upd (fun _ => 0) 0 (-1)) 1 (-1)) 2 (-1))), .inl (G.2.1 0, 6, .inl (fun _ => 0)), .inl (G.2.1 6, 6, .inr (.inr (.inr (.inr (fun i => if i < 6 then some (b + 113 + 1 + i) else none)))))]) H630 := gSg_set zTP 0 c631 oq
  have zZ := gSg_off zZ oq (by simp only [List.length_cons, List.length_nil]; omega)
  have zN := gSg_off zN oq (by simp only [List.length_cons, List.length_nil]; omega)
  have zNl := gSg_off zNl oq (by simp only [List.length_cons, List.length_nil]; omega)
  have zNk := gSg_off zNk oq (by simp only [List.length_cons, List.length_nil]; omega)
  have zT := gSg_off zT oq (by simp only [List.length_cons, List.length_nil]; omega)
  have zTl := gSg_off zTl oq (by simp only [List.length_cons, List.length_nil]; omega)
  have zTk := gSg_off zTk oq (by simp only [List.length_cons, List.length_nil]; omega)
  have zK := gSg_off zK oq (by simp only [List.length_cons, List.length_nil]; omega)
  have zKl := gSg_off zKl oq (by simp only [List.length_cons, List.length_nil]; omega)
  have zKk := gSg_off zKk oq (by simp only [List.length_cons, List.length_nil]; omega)
  have zB := gSg_off zB oq (by simp only [List.length_cons, List.length_nil]; omega)
  have zF := gSg_off zF oq (by simp only [List.length_cons, List.length_nil]; omega)
  have zG9 := gSg_off zG9 oq (by simp only [List.length_cons, List.length_nil]; omega)
  have zA := gSg_off zA oq (by simp only [List.length_cons, List.length_nil]; omega)
  have zG := gRows_off zG oq (by omega)
  have zL0 := gSg_off zL0 oq (by simp only [List.length_cons, List.length_nil]; omega)
  have zL1 := gSg_off zL1 oq (by simp only [List.length_cons, List.length_nil]; omega)
  have zL2 := gSg_off zL2 oq (by simp only [List.length_cons, List.length_nil]; omega)
  have zL3 := gSg_off zL3 oq (by simp only [List.length_cons, List.length_nil]; omega)
  have zL4 := gSg_off zL4 oq (by simp only [List.length_cons, List.length_nil]; omega)
  have zL5 := gSg_off zL5 oq (by simp only [List.length_cons, List.length_nil]; omega)
  have hsz := gSz oq (va_at.lt c631) (by rw [hsz]; omega) hsz
  refine lv_iinc (v := 3) (lv' := [(1, .int 3), (0, .ref b)]) hx hb dX11_init_143 hl (k := 0) rfl (by decide) (by decide) rfl (fun ls hl => ?_)
  refine lv_goto (tgt := 130) hx hb dX11_init_146 (by decide) ?_
  refine lv_iload_n hx hb dX11_init_130 rfl (lv_at hl 0 rfl) ?_
  refine lv_bipush (v := 6) hx hb dX11_init_131 (by decide) ?_
  refine lv_icmp_ge (tgt := 149) hx hb dX11_init_133 (by decide) (fun c648 => absurd c648 (by decide)) (fun _ => ?_)
  refine lv_aload_n hx hb dX11_init_136 rfl (lv_at hl 1 rfl) ?_
  refine g_get (v := .ref (b + 111)) (T := TX11) (ci := 11) (N := 13) hx hb hown hK (gY_X11 hT) rfl (zZ 0 _ rfl) 10 (by decide) (hT _ gf_X11_45) rfl dX11_init_137 ?_
  refine lv_iload_n hx hb dX11_init_140 rfl (lv_at hl 0 rfl) ?_
  refine lv_iconst (v := (-1)) hx hb dX11_init_141 (by decide) ?_
  refine g_is (j := 3) hx hb hK hS (zTP 0 _ rfl) rfl (by omega) (Nat.le_of_ble_eq_true rfl) (by omega) dX11_init_142 (fun H669 locs c670 oq hS => ?_)
  have zTP : gSg G (b + 111) ([.inl (G.2.1 0, 6, .inl (upd (upd (upd (upd (fun _ => 0) 0 (-1)) 1 (-1)) 2 (-1)) 3 (-1))), .inl (G.2.1 0, 6, .inl (fun _ => 0)), .inl (G.2.1 6, 6, .inr (.inr (.inr (.inr (fun i => if i < 6 then some (b + 113 + 1 + i) else none)))))]) H669 := gSg_set zTP 0 c670 oq
  have zZ := gSg_off zZ oq (by simp only [List.length_cons, List.length_nil]; omega)
  have zN := gSg_off zN oq (by simp only [List.length_cons, List.length_nil]; omega)
  have zNl := gSg_off zNl oq (by simp only [List.length_cons, List.length_nil]; omega)
  have zNk := gSg_off zNk oq (by simp only [List.length_cons, List.length_nil]; omega)
  have zT := gSg_off zT oq (by simp only [List.length_cons, List.length_nil]; omega)
  have zTl := gSg_off zTl oq (by simp only [List.length_cons, List.length_nil]; omega)
  have zTk := gSg_off zTk oq (by simp only [List.length_cons, List.length_nil]; omega)
  have zK := gSg_off zK oq (by simp only [List.length_cons, List.length_nil]; omega)
  have zKl := gSg_off zKl oq (by simp only [List.length_cons, List.length_nil]; omega)
  have zKk := gSg_off zKk oq (by simp only [List.length_cons, List.length_nil]; omega)
  have zB := gSg_off zB oq (by simp only [List.length_cons, List.length_nil]; omega)
  have zF := gSg_off zF oq (by simp only [List.length_cons, List.length_nil]; omega)
  have zG9 := gSg_off zG9 oq (by simp only [List.length_cons, List.length_nil]; omega)
  have zA := gSg_off zA oq (by simp only [List.length_cons, List.length_nil]; omega)
  have zG := gRows_off zG oq (by omega)
  have zL0 := gSg_off zL0 oq (by simp only [List.length_cons, List.length_nil]; omega)
  have zL1 := gSg_off zL1 oq (by simp only [List.length_cons, List.length_nil]; omega)
  have zL2 := gSg_off zL2 oq (by simp only [List.length_cons, List.length_nil]; omega)
  have zL3 := gSg_off zL3 oq (by simp only [List.length_cons, List.length_nil]; omega)
  have zL4 := gSg_off zL4 oq (by simp only [List.length_cons, List.length_nil]; omega)
  have zL5 := gSg_off zL5 oq (by simp only [List.length_cons, List.length_nil]; omega)
  have hsz := gSz oq (va_at.lt c670) (by rw [hsz]; omega) hsz
  refine lv_iinc (v := 4) (lv' := [(1, .int 4), (0, .ref b)]) hx hb dX11_init_143 hl (k := 0) rfl (by decide) (by decide) rfl (fun ls hl => ?_)
  refine lv_goto (tgt := 130) hx hb dX11_init_146 (by decide) ?_
  refine lv_iload_n hx hb dX11_init_130 rfl (lv_at hl 0 rfl) ?_
  refine lv_bipush (v := 6) hx hb dX11_init_131 (by decide) ?_
  refine lv_icmp_ge (tgt := 149) hx hb dX11_init_133 (by decide) (fun c687 => absurd c687 (by decide)) (fun _ => ?_)
  refine lv_aload_n hx hb dX11_init_136 rfl (lv_at hl 1 rfl) ?_
  refine g_get (v := .ref (b + 111)) (T := TX11) (ci := 11) (N := 13) hx hb hown hK (gY_X11 hT) rfl (zZ 0 _ rfl) 10 (by decide) (hT _ gf_X11_45) rfl dX11_init_137 ?_
  refine lv_iload_n hx hb dX11_init_140 rfl (lv_at hl 0 rfl) ?_
  refine lv_iconst (v := (-1)) hx hb dX11_init_141 (by decide) ?_
  refine g_is (j := 4) hx hb hK hS (zTP 0 _ rfl) rfl (by omega) (Nat.le_of_ble_eq_true rfl) (by omega) dX11_init_142 (fun H708 locs c709 oq hS => ?_)
  have zTP : gSg G (b + 111) ([.inl (G.2.1 0, 6, .inl (upd (upd (upd (upd (upd (fun _ => 0) 0 (-1)) 1 (-1)) 2 (-1)) 3 (-1)) 4 (-1))), .inl (G.2.1 0, 6, .inl (fun _ => 0)), .inl (G.2.1 6, 6, .inr (.inr (.inr (.inr (fun i => if i < 6 then some (b + 113 + 1 + i) else none)))))]) H708 := gSg_set zTP 0 c709 oq
  have zZ := gSg_off zZ oq (by simp only [List.length_cons, List.length_nil]; omega)
  have zN := gSg_off zN oq (by simp only [List.length_cons, List.length_nil]; omega)
  have zNl := gSg_off zNl oq (by simp only [List.length_cons, List.length_nil]; omega)
  have zNk := gSg_off zNk oq (by simp only [List.length_cons, List.length_nil]; omega)
  have zT := gSg_off zT oq (by simp only [List.length_cons, List.length_nil]; omega)
  have zTl := gSg_off zTl oq (by simp only [List.length_cons, List.length_nil]; omega)
  have zTk := gSg_off zTk oq (by simp only [List.length_cons, List.length_nil]; omega)
  have zK := gSg_off zK oq (by simp only [List.length_cons, List.length_nil]; omega)
  have zKl := gSg_off zKl oq (by simp only [List.length_cons, List.length_nil]; omega)
  have zKk := gSg_off zKk oq (by simp only [List.length_cons, List.length_nil]; omega)
  have zB := gSg_off zB oq (by simp only [List.length_cons, List.length_nil]; omega)
  have zF := gSg_off zF oq (by simp only [List.length_cons, List.length_nil]; omega)
  have zG9 := gSg_off zG9 oq (by simp only [List.length_cons, List.length_nil]; omega)
  have zA := gSg_off zA oq (by simp only [List.length_cons, List.length_nil]; omega)
  have zG := gRows_off zG oq (by omega)
  have zL0 := gSg_off zL0 oq (by simp only [List.length_cons, List.length_nil]; omega)
  have zL1 := gSg_off zL1 oq (by simp only [List.length_cons, List.length_nil]; omega)
  have zL2 := gSg_off zL2 oq (by simp only [List.length_cons, List.length_nil]; omega)
  have zL3 := gSg_off zL3 oq (by simp only [List.length_cons, List.length_nil]; omega)
  have zL4 := gSg_off zL4 oq (by simp only [List.length_cons, List.length_nil]; omega)
  have zL5 := gSg_off zL5 oq (by simp only [List.length_cons, List.length_nil]; omega)
  have hsz := gSz oq (va_at.lt c709) (by rw [hsz]; omega) hsz
  refine lv_iinc (v := 5) (lv' := [(1, .int 5), (0, .ref b)]) hx hb dX11_init_143 hl (k := 0) rfl (by decide) (by decide) rfl (fun ls hl => ?_)
  refine lv_goto (tgt := 130) hx hb dX11_init_146 (by decide) ?_
  refine lv_iload_n hx hb dX11_init_130 rfl (lv_at hl 0 rfl) ?_
  refine lv_bipush (v := 6) hx hb dX11_init_131 (by decide) ?_
  refine lv_icmp_ge (tgt := 149) hx hb dX11_init_133 (by decide) (fun c726 => absurd c726 (by decide)) (fun _ => ?_)
  refine lv_aload_n hx hb dX11_init_136 rfl (lv_at hl 1 rfl) ?_
  refine g_get (v := .ref (b + 111)) (T := TX11) (ci := 11) (N := 13) hx hb hown hK (gY_X11 hT) rfl (zZ 0 _ rfl) 10 (by decide) (hT _ gf_X11_45) rfl dX11_init_137 ?_
  refine lv_iload_n hx hb dX11_init_140 rfl (lv_at hl 0 rfl) ?_
  refine lv_iconst (v := (-1)) hx hb dX11_init_141 (by decide) ?_
  refine g_is (j := 5) hx hb hK hS (zTP 0 _ rfl) rfl (by omega) (Nat.le_of_ble_eq_true rfl) (by omega) dX11_init_142 (fun H747 locs c748 oq hS => ?_)
  have zTP : gSg G (b + 111) ([.inl (G.2.1 0, 6, .inl (upd (upd (upd (upd (upd (upd (fun _ => 0) 0 (-1)) 1 (-1)) 2 (-1)) 3 (-1)) 4 (-1)) 5 (-1))), .inl (G.2.1 0, 6, .inl (fun _ => 0)), .inl (G.2.1 6, 6, .inr (.inr (.inr (.inr (fun i => if i < 6 then some (b + 113 + 1 + i) else none)))))]) H747 := gSg_set zTP 0 c748 oq
  have zZ := gSg_off zZ oq (by simp only [List.length_cons, List.length_nil]; omega)
  have zN := gSg_off zN oq (by simp only [List.length_cons, List.length_nil]; omega)
  have zNl := gSg_off zNl oq (by simp only [List.length_cons, List.length_nil]; omega)
  have zNk := gSg_off zNk oq (by simp only [List.length_cons, List.length_nil]; omega)
  have zT := gSg_off zT oq (by simp only [List.length_cons, List.length_nil]; omega)
  have zTl := gSg_off zTl oq (by simp only [List.length_cons, List.length_nil]; omega)
  have zTk := gSg_off zTk oq (by simp only [List.length_cons, List.length_nil]; omega)
  have zK := gSg_off zK oq (by simp only [List.length_cons, List.length_nil]; omega)
  have zKl := gSg_off zKl oq (by simp only [List.length_cons, List.length_nil]; omega)
  have zKk := gSg_off zKk oq (by simp only [List.length_cons, List.length_nil]; omega)
  have zB := gSg_off zB oq (by simp only [List.length_cons, List.length_nil]; omega)
  have zF := gSg_off zF oq (by simp only [List.length_cons, List.length_nil]; omega)
  have zG9 := gSg_off zG9 oq (by simp only [List.length_cons, List.length_nil]; omega)
  have zA := gSg_off zA oq (by simp only [List.length_cons, List.length_nil]; omega)
  have zG := gRows_off zG oq (by omega)
  have zL0 := gSg_off zL0 oq (by simp only [List.length_cons, List.length_nil]; omega)
  have zL1 := gSg_off zL1 oq (by simp only [List.length_cons, List.length_nil]; omega)
  have zL2 := gSg_off zL2 oq (by simp only [List.length_cons, List.length_nil]; omega)
  have zL3 := gSg_off zL3 oq (by simp only [List.length_cons, List.length_nil]; omega)
  have zL4 := gSg_off zL4 oq (by simp only [List.length_cons, List.length_nil]; omega)
  have zL5 := gSg_off zL5 oq (by simp only [List.length_cons, List.length_nil]; omega)
  have hsz := gSz oq (va_at.lt c748) (by rw [hsz]; omega) hsz
  refine lv_iinc (v := 6) (lv' := [(1, .int 6), (0, .ref b)]) hx hb dX11_init_143 hl (k := 0) rfl (by decide) (by decide) rfl (fun ls hl => ?_)
  refine lv_goto (tgt := 130) hx hb dX11_init_146 (by decide) ?_
  refine lv_iload_n hx hb dX11_init_130 rfl (lv_at hl 0 rfl) ?_
  refine lv_bipush (v := 6) hx hb dX11_init_131 (by decide) ?_
  refine lv_icmp_ge (tgt := 149) hx hb dX11_init_133 (by decide) (fun _ => ?_) (fun c765 => absurd (by decide) c765)
  rw [← hQ]
  have zTP : gSg G (b + 111) ([.inl (G.2.1 0, 6, .inl (upd (upd (upd (upd (upd (upd (fun _ => 0) 0 (-1)) 1 (-1)) 2 (-1)) 3 (-1)) 4 (-1)) 5 (-1))), .inl (G.2.1 0, 6, .inl (fun _ => 0)), .inl (G.2.1 6, 6, .inr (.inr (.inr (.inr (fun t => some (b + 111 + 3 + t))))))]) H747 := gSg_ref zTP 2 rfl (fun j hj => (if_pos hj).trans (congrArg some (by omega)))
  have zF : gSg G (b + 107) ([.inl (G.2.1 4, 6, .inr (.inr (.inr (.inr (fun j => some (b + 107 + 13 + 6 * j))))))]) H747 := gSg_ref zF 0 rfl (by intro j hj; match j, hj with | 0, _ => rfl | 1, _ => rfl | 2, _ => rfl | 3, _ => rfl | 4, _ => rfl | 5, _ => rfl)
  exact g_vret hx hb hr hlk hS dX11_init_149 ⟨⟨fun _ _ => 0, gRho_0, zZ, zN, zNk, ⟨gFl0 4, zNl⟩, ⟨gPi0, b + 58, fun _ _ => 0, zT⟩, zTk, ⟨fun _ _ => 0, gRho_0, zK⟩, zB, zF, ⟨fun _ _ => 0, zG9⟩, zA, zTP, zG⟩, (by intro j hj; match j, hj with | 0, _ => exact zL0 | 1, _ => exact zL1 | 2, _ => exact zL2 | 3, _ => exact zL3 | 4, _ => exact zL4 | 5, _ => exact zL5), zTl, zKl, hsz⟩
