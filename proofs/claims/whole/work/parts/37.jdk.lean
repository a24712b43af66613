set_option maxHeartbeats 4000000 in
set_option maxRecDepth 100000 in
theorem c_J0_coder_7d493 (l : Launch) (G : gW) (i : Nat) (hi8 : i < 8) : gCI l yJ0_coder_7d493 cJ0_coder_7d493 1 .byte (gRm 0 0) G [.ref (G.2.2.1 i)] (fun H => gOld G H) (fun r H => r = 0) (fun _ => False) := by
  refine g_start (by decide) (Nat.le_of_ble_eq_true rfl) ?_
  intro pp_ ee_ s mm_ aa_ below meth cc_ ls Q hQ hX hE hP hl
  obtain ⟨hx, hb, hr, hml, hown, hT, hlk, hnm⟩ := hX
  have hK := hE.2.1
  have hO := hP
  have hS : va_S (fun _ => False) s.heap s.heap [] := va_S.rf
  have hl : lv_has ls 1 [(0, .ref (G.2.2.1 i))] := hl
  have hJ := hE.2.2.2.2.2.2.now hO
  have hL6 := gLen_le i hi8
  refine va_gets (C := "java/lang/String") (n := "COMPACT_STRINGS") (d := "Z") (ref := "java/lang/String") (v := .int 1) hx hb hJ.2.1 hS hown (hT _ gf_J0_38) (fun _ h => h) dJ0_coder_7d493_0 ?_
  refine lv_if_eq (tgt := 13) hx hb dJ0_coder_7d493_3 (by decide) (fun c1 => ?_) (fun c1 => ?_)
  · exact absurd c1 (by decide)
  · refine lv_aload_n hx hb dJ0_coder_7d493_6 rfl (lv_at hl 0 rfl) ?_
    refine vk_getf (o := "java/lang/String") (n := "coder") (d := "B") (ref := "java/lang/String") (v := .int 0) hx hb (hJ.1.1 i hi8).2.1 hS hown (hT _ gf_J0_15) (fun _ h => h) dJ0_coder_7d493_7 ?_
    refine lv_goto (tgt := 14) hx hb dJ0_coder_7d493_10 (by decide) ?_
    rw [← hQ]
    exact g_zret hx hb hr hlk rfl hS dJ0_coder_7d493_14 rfl

set_option maxHeartbeats 4000000 in
set_option maxRecDepth 100000 in
theorem c_J0_isLatin1_aae02 (l : Launch) (G : gW) (i : Nat) (hi8 : i < 8) : gCI l yJ0_isLatin1_aae02 cJ0_isLatin1_aae02 1 .boolean (gRm 0 0) G [.ref (G.2.2.1 i)] (fun H => gOld G H) (fun r H => r = 1) (fun _ => False) := by
  refine g_start (by decide) (Nat.le_of_ble_eq_true rfl) ?_
  intro pp_ ee_ s mm_ aa_ below meth cc_ ls Q hQ hX hE hP hl
  obtain ⟨hx, hb, hr, hml, hown, hT, hlk, hnm⟩ := hX
  have hK := hE.2.1
  have hO := hP
  have hS : va_S (fun _ => False) s.heap s.heap [] := va_S.rf
  have hl : lv_has ls 1 [(0, .ref (G.2.2.1 i))] := hl
  have hJ := hE.2.2.2.2.2.2.now hO
  have hL6 := gLen_le i hi8
  refine va_gets (C := "java/lang/String") (n := "COMPACT_STRINGS") (d := "Z") (ref := "java/lang/String") (v := .int 1) hx hb hJ.2.1 hS hown (hT _ gf_J0_38) (fun _ h => h) dJ0_isLatin1_aae02_0 ?_
  refine lv_if_eq (tgt := 17) hx hb dJ0_isLatin1_aae02_3 (by decide) (fun c1 => ?_) (fun c1 => ?_)
  · exact absurd c1 (by decide)
  · refine lv_aload_n hx hb dJ0_isLatin1_aae02_6 rfl (lv_at hl 0 rfl) ?_
    refine vk_getf (o := "java/lang/String") (n := "coder") (d := "B") (ref := "java/lang/String") (v := .int 0) hx hb (hJ.1.1 i hi8).2.1 hS hown (hT _ gf_J0_15) (fun _ h => h) dJ0_isLatin1_aae02_7 ?_
    refine lv_if_ne (tgt := 17) hx hb dJ0_isLatin1_aae02_10 (by decide) (fun c2 => ?_) (fun c2 => ?_)
    · exact absurd (by decide) c2
    · refine lv_iconst (v := 1) hx hb dJ0_isLatin1_aae02_13 (by decide) ?_
      refine lv_goto (tgt := 18) hx hb dJ0_isLatin1_aae02_14 (by decide) ?_
      rw [← hQ]
      exact g_zret hx hb hr hlk rfl hS dJ0_isLatin1_aae02_18 rfl

set_option maxHeartbeats 4000000 in
set_option maxRecDepth 100000 in
theorem c_J0_length_8abf5 (l : Launch) (G : gW) (i : Nat) (hi8 : i < 8) : gCI l yJ0_length_8abf5 cJ0_length_8abf5 1 .int (gRm 1 20) G [.ref (G.2.2.1 i)] (fun H => gOld G H) (fun r H => r = nI (gLen.getD i 0)) (fun _ => False) := by
  refine g_start (by decide) (Nat.le_of_ble_eq_true rfl) ?_
  intro pp_ ee_ s mm_ aa_ below meth cc_ ls Q hQ hX hE hP hl
  obtain ⟨hx, hb, hr, hml, hown, hT, hlk, hnm⟩ := hX
  have hK := hE.2.1
  have hO := hP
  have hS : va_S (fun _ => False) s.heap s.heap [] := va_S.rf
  have hl : lv_has ls 1 [(0, .ref (G.2.2.1 i))] := hl
  have hJ := hE.2.2.2.2.2.2.now hO
  have hL6 := gLen_le i hi8
  refine lv_aload_n hx hb dJ0_length_8abf5_0 rfl (lv_at hl 0 rfl) ?_
  refine vk_getf (o := "java/lang/String") (n := "value") (d := "[B") (ref := "java/lang/String") (v := .ref (G.2.2.1 (10 + i))) hx hb (hJ.1.1 i hi8).2.2.1 hS hown (hT _ gf_J0_9) (fun _ h => h) dJ0_length_8abf5_1 ?_
  refine va_tlen (v := nI (gLen.getD i 0)) hx hb (hJ.1.1 i hi8).2.2.2 hS rfl dJ0_length_8abf5_4 ?_
  refine lv_aload_n hx hb dJ0_length_8abf5_5 rfl (lv_at hl 0 rfl) ?_
  refine g_ki (g_runJ (rest := [.int (nI (gLen.getD i 0))]) hx hb hml hown hE hT (c_J0_coder_7d493 l G i hi8) gM_J0_coder_7d493 gm_J0_335 gi_J0_coder_7d493 gs_RJ0_yJ0_coder_7d493_yJ0_coder_7d493 (gJ_recv hJ hi8 hO hS (fun _ h => h.elim) hE) (gOld_S hO hS (fun _ h => h.elim)) rfl hl.1 ⟨rfl, rfl⟩ ⟨Nat.le_of_ble_eq_true rfl, Nat.le_of_ble_eq_true rfl⟩ ⟨Nat.zero_le _, Nat.zero_le _⟩ rfl (Nat.le_of_ble_eq_true rfl) dJ0_length_8abf5_6) hS (fun _ h => h.elim) (fun r4 H1 locs q2 k3 hS => ?_)
  subst q2
  refine lv_ishr hx hb dJ0_length_8abf5_9 ?_
  rw [← hQ]
  exact g_iret hx hb hr hlk hS dJ0_length_8abf5_10 (gShr0 _)

set_option maxHeartbeats 4000000 in
set_option maxRecDepth 100000 in
theorem c_J3_checkIndex_8e157_n (l : Launch) (G : gW) (k n : Nat) (hk : k < n) (hn : n ≤ 4096) : gCI l yJ3_checkIndex_8e157 cJ3_checkIndex_8e157 3 .int (gRm 0 0) G [.int (nI k), .int (nI n), .null] (fun H => True) (fun r H => True) (fun _ => False) := by
  refine g_start (by decide) (Nat.le_of_ble_eq_true rfl) ?_
  intro pp_ ee_ s mm_ aa_ below meth cc_ ls Q hQ hX hE hP hl
  obtain ⟨hx, hb, hr, hml, hown, hT, hlk, hnm⟩ := hX
  have hK := hE.2.1
  have hS : va_S (fun _ => False) s.heap s.heap [] := va_S.rf
  have hl : lv_has ls 3 [(0, .int (nI k)), (1, .int (nI n)), (2, .null)] := hl
  refine lv_iload_n hx hb dJ3_checkIndex_8e157_0 rfl (lv_at hl 0 rfl) ?_
  refine lv_if_lt (tgt := 9) hx hb dJ3_checkIndex_8e157_1 (by decide) (fun c1 => ?_) (fun c1 => ?_)
  · have c1 : k < 0 := (gLt (a := k) (b := 0) rfl rfl (by omega) (by omega)).mp c1
    exact absurd c1 (by omega)
  · have c1 : ¬ k < 0 := fun z => c1 ((gLt (a := k) (b := 0) rfl rfl (by omega) (by omega)).mpr z)
    refine lv_iload_n hx hb dJ3_checkIndex_8e157_4 rfl (lv_at hl 0 rfl) ?_
    refine lv_iload_n hx hb dJ3_checkIndex_8e157_5 rfl (lv_at hl 1 rfl) ?_
    refine lv_icmp_lt (tgt := 16) hx hb dJ3_checkIndex_8e157_6 (by decide) (fun c2 => ?_) (fun c2 => ?_)
    · have c2 : k < n := (gLt (a := k) (b := n) rfl rfl (by omega) (by omega)).mp c2
      refine lv_iload_n hx hb dJ3_checkIndex_8e157_16 rfl (lv_at hl 0 rfl) ?_
      rw [← hQ]
      exact g_iret hx hb hr hlk hS dJ3_checkIndex_8e157_17 trivial
    · have c2 : ¬ k < n := fun z => c2 ((gLt (a := k) (b := n) rfl rfl (by omega) (by omega)).mpr z)
      exact absurd c2 (by omega)

set_option maxHeartbeats 4000000 in
set_option maxRecDepth 100000 in
theorem c_J3_checkIndex_8e157_r (l : Launch) (G : gW) (k n : Nat) (hk : k < n) (hn : n ≤ 4096) (t : Nat) : gCI l yJ3_checkIndex_8e157 cJ3_checkIndex_8e157 3 .int (gRm 0 0) G [.int (nI k), .int (nI n), .ref t] (fun H => True) (fun r H => True) (fun _ => False) := by
  refine g_start (by decide) (Nat.le_of_ble_eq_true rfl) ?_
  intro pp_ ee_ s mm_ aa_ below meth cc_ ls Q hQ hX hE hP hl
  obtain ⟨hx, hb, hr, hml, hown, hT, hlk, hnm⟩ := hX
  have hK := hE.2.1
  have hS : va_S (fun _ => False) s.heap s.heap [] := va_S.rf
  have hl : lv_has ls 3 [(0, .int (nI k)), (1, .int (nI n)), (2, .ref t)] := hl
  refine lv_iload_n hx hb dJ3_checkIndex_8e157_0 rfl (lv_at hl 0 rfl) ?_
  refine lv_if_lt (tgt := 9) hx hb dJ3_checkIndex_8e157_1 (by decide) (fun c1 => ?_) (fun c1 => ?_)
  · have c1 : k < 0 := (gLt (a := k) (b := 0) rfl rfl (by omega) (by omega)).mp c1
    exact absurd c1 (by omega)
  · have c1 : ¬ k < 0 := fun z => c1 ((gLt (a := k) (b := 0) rfl rfl (by omega) (by omega)).mpr z)
    refine lv_iload_n hx hb dJ3_checkIndex_8e157_4 rfl (lv_at hl 0 rfl) ?_
    refine lv_iload_n hx hb dJ3_checkIndex_8e157_5 rfl (lv_at hl 1 rfl) ?_
    refine lv_icmp_lt (tgt := 16) hx hb dJ3_checkIndex_8e157_6 (by decide) (fun c2 => ?_) (fun c2 => ?_)
    · have c2 : k < n := (gLt (a := k) (b := n) rfl rfl (by omega) (by omega)).mp c2
      refine lv_iload_n hx hb dJ3_checkIndex_8e157_16 rfl (lv_at hl 0 rfl) ?_
      rw [← hQ]
      exact g_iret hx hb hr hlk hS dJ3_checkIndex_8e157_17 trivial
    · have c2 : ¬ k < n := fun z => c2 ((gLt (a := k) (b := n) rfl rfl (by omega) (by omega)).mpr z)
      exact absurd c2 (by omega)

set_option maxHeartbeats 4000000 in
set_option maxRecDepth 100000 in
theorem c_J0_checkIndex_df160 (l : Launch) (G : gW) (k n : Nat) (hk : k < n) (hn : n ≤ 4096) : gCV l yJ0_checkIndex_df160 cJ0_checkIndex_df160 2 (gRm 1 22) G [.int (nI k), .int (nI n)] (fun H => gOld G H) (fun H => True) (fun _ => False) := by
  refine g_start (by decide) (Nat.le_of_ble_eq_true rfl) ?_
  intro pp_ ee_ s mm_ aa_ below meth cc_ ls Q hQ hX hE hP hl
  obtain ⟨hx, hb, hr, hml, hown, hT, hlk, hnm⟩ := hX
  have hK := hE.2.1
  have hO := hP
  have hS : va_S (fun _ => False) s.heap s.heap [] := va_S.rf
  have hl : lv_has ls 2 [(0, .int (nI k)), (1, .int (nI n))] := hl
  have hJ := hE.2.2.2.2.2.2.now hO
  obtain ⟨vz, hvz, hz⟩ := hJ.2.2
  rcases hvz with rfl | ⟨tz, rfl⟩
  · refine lv_iload_n hx hb dJ0_checkIndex_df160_0 rfl (lv_at hl 0 rfl) ?_
    refine lv_iload_n hx hb dJ0_checkIndex_df160_1 rfl (lv_at hl 1 rfl) ?_
    refine va_gets (C := "jdk/internal/util/Preconditions") (n := "SIOOBE_FORMATTER") (d := "Ljava/util/function/BiFunction;") (ref := "jdk/internal/util/Preconditions") (v := .null) hx hb hz hS hown (hT _ gf_J0_1053) (fun _ h => h) dJ0_checkIndex_df160_2 ?_
    refine g_ki (g_runS (rest := []) hx hb hml hown hE hT (c_J3_checkIndex_8e157_n l G k n hk hn) gM_J3_checkIndex_8e157 gm_J0_1059 gt_J3_checkIndex_8e157 trivial rfl hl.1 ⟨rfl, rfl⟩ ⟨Nat.le_of_ble_eq_true rfl, Nat.le_of_ble_eq_true rfl⟩ ⟨Nat.zero_le _, Nat.zero_le _⟩ rfl (Nat.le_of_ble_eq_true rfl) dJ0_checkIndex_df160_5) hS (fun _ h => h.elim) (fun r4 H1 locs q2 k3 hS => ?_)
    refine lv_pop hx hb dJ0_checkIndex_df160_8 rfl ?_
    rw [← hQ]
    exact g_vret hx hb hr hlk hS dJ0_checkIndex_df160_9 trivial
  · refine lv_iload_n hx hb dJ0_checkIndex_df160_0 rfl (lv_at hl 0 rfl) ?_
    refine lv_iload_n hx hb dJ0_checkIndex_df160_1 rfl (lv_at hl 1 rfl) ?_
    refine va_gets (C := "jdk/internal/util/Preconditions") (n := "SIOOBE_FORMATTER") (d := "Ljava/util/function/BiFunction;") (ref := "jdk/internal/util/Preconditions") (v := .ref tz) hx hb hz hS hown (hT _ gf_J0_1053) (fun _ h => h) dJ0_checkIndex_df160_2 ?_
    refine g_ki (g_runS (rest := []) hx hb hml hown hE hT (c_J3_checkIndex_8e157_r l G k n hk hn tz) gM_J3_checkIndex_8e157 gm_J0_1059 gt_J3_checkIndex_8e157 trivial rfl hl.1 ⟨rfl, rfl⟩ ⟨Nat.le_of_ble_eq_true rfl, Nat.le_of_ble_eq_true rfl⟩ ⟨Nat.zero_le _, Nat.zero_le _⟩ rfl (Nat.le_of_ble_eq_true rfl) dJ0_checkIndex_df160_5) hS (fun _ h => h.elim) (fun r8 H5 locs q6 k7 hS => ?_)
    refine lv_pop hx hb dJ0_checkIndex_df160_8 rfl ?_
    rw [← hQ]
    exact g_vret hx hb hr hlk hS dJ0_checkIndex_df160_9 trivial

set_option maxHeartbeats 4000000 in
set_option maxRecDepth 100000 in
theorem c_J1_charAt_3b067 (l : Launch) (G : gW) (i : Nat) (hi8 : i < 8) (k : Nat) (hk : k < gLen.getD i 0) : gCI l yJ1_charAt_3b067 cJ1_charAt_3b067 2 .char (gRm 2 43) G [.ref (G.2.2.1 (10 + i)), .int (nI k)] (fun H => gOld G H) (fun r H => r = gChr i k) (fun _ => False) := by
  refine g_start (by decide) (Nat.le_of_ble_eq_true rfl) ?_
  intro pp_ ee_ s mm_ aa_ below meth cc_ ls Q hQ hX hE hP hl
  obtain ⟨hx, hb, hr, hml, hown, hT, hlk, hnm⟩ := hX
  have hK := hE.2.1
  have hO := hP
  have hS : va_S (fun _ => False) s.heap s.heap [] := va_S.rf
  have hl : lv_has ls 2 [(0, .ref (G.2.2.1 (10 + i))), (1, .int (nI k))] := hl
  have hJ := hE.2.2.2.2.2.2.now hO
  have hL6 := gLen_le i hi8
  refine lv_iload_n hx hb dJ1_charAt_3b067_0 rfl (lv_at hl 1 rfl) ?_
  refine lv_aload_n hx hb dJ1_charAt_3b067_1 rfl (lv_at hl 0 rfl) ?_
  refine va_tlen (v := nI (gLen.getD i 0)) hx hb (hJ.1.1 i hi8).2.2.2 hS rfl dJ1_charAt_3b067_2 ?_
  refine g_kv (g_runS (rest := []) hx hb hml hown hE hT (c_J0_checkIndex_df160 l G k (gLen.getD i 0) hk (by omega)) gM_J0_checkIndex_df160 gm_J1_9 gt_J0_checkIndex_df160 (gOld_S hO hS (fun _ h => h.elim)) rfl hl.1 ⟨rfl, rfl⟩ ⟨Nat.le_of_ble_eq_true rfl, Nat.le_of_ble_eq_true rfl⟩ ⟨Nat.zero_le _, Nat.zero_le _⟩ rfl (Nat.le_of_ble_eq_true rfl) dJ1_charAt_3b067_3) hS (fun _ h => h.elim) (fun H1 locs q2 k3 hS => ?_)
  refine lv_aload_n hx hb dJ1_charAt_3b067_6 rfl (lv_at hl 0 rfl) ?_
  refine lv_iload_n hx hb dJ1_charAt_3b067_7 rfl (lv_at hl 1 rfl) ?_
  refine va_tb (v := .int (gChr i k)) hx hb (hJ.1.1 i hi8).2.2.2 hS (gIn rfl (by omega) (by omega)) (by show Value.int ((gByt.getD i []).getD (Int32.toNatClampNeg _) 0) = _; rw [gCl rfl (show k < gLen.getD i 0 by omega) (by omega)]; rfl) dJ1_charAt_3b067_8 ?_
  refine lv_sipush (v := 255) hx hb dJ1_charAt_3b067_9 (by decide) ?_
  refine lv_iand hx hb dJ1_charAt_3b067_12 ?_
  refine lv_i2c hx hb dJ1_charAt_3b067_13 rfl ?_
  rw [gChr_c i hi8 k hk]
  rw [← hQ]
  exact g_zret hx hb hr hlk (gChr_n i hi8 k hk) hS dJ1_charAt_3b067_14 rfl

set_option maxHeartbeats 4000000 in
set_option maxRecDepth 100000 in
theorem c_J0_charAt_5068e (l : Launch) (G : gW) (i : Nat) (hi8 : i < 8) (k : Nat) (hk : k < gLen.getD i 0) : gCI l yJ0_charAt_5068e cJ0_charAt_5068e 2 .char (gRm 4 85) G [.ref (G.2.2.1 i), .int (nI k)] (fun H => gOld G H) (fun r H => r = gChr i k) (fun _ => False) := by
  refine g_start (by decide) (Nat.le_of_ble_eq_true rfl) ?_
  intro pp_ ee_ s mm_ aa_ below meth cc_ ls Q hQ hX hE hP hl
  obtain ⟨hx, hb, hr, hml, hown, hT, hlk, hnm⟩ := hX
  have hK := hE.2.1
  have hO := hP
  have hS : va_S (fun _ => False) s.heap s.heap [] := va_S.rf
  have hl : lv_has ls 2 [(0, .ref (G.2.2.1 i)), (1, .int (nI k))] := hl
  have hJ := hE.2.2.2.2.2.2.now hO
  have hL6 := gLen_le i hi8
  refine lv_aload_n hx hb dJ0_charAt_5068e_0 rfl (lv_at hl 0 rfl) ?_
  refine g_ki (g_runJ (rest := []) hx hb hml hown hE hT (c_J0_isLatin1_aae02 l G i hi8) gM_J0_isLatin1_aae02 gm_J0_492 gi_J0_isLatin1_aae02 gs_RJ0_yJ0_isLatin1_aae02_yJ0_isLatin1_aae02 (gJ_recv hJ hi8 hO hS (fun _ h => h.elim) hE) (gOld_S hO hS (fun _ h => h.elim)) rfl hl.1 ⟨rfl, rfl⟩ ⟨Nat.le_of_ble_eq_true rfl, Nat.le_of_ble_eq_true rfl⟩ ⟨Nat.zero_le _, Nat.zero_le _⟩ rfl (Nat.le_of_ble_eq_true rfl) dJ0_charAt_5068e_1) hS (fun _ h => h.elim) (fun r4 H1 locs q2 k3 hS => ?_)
  subst q2
  refine lv_if_eq (tgt := 16) hx hb dJ0_charAt_5068e_4 (by decide) (fun c5 => ?_) (fun c5 => ?_)
  · exact absurd c5 (by decide)
  · refine lv_aload_n hx hb dJ0_charAt_5068e_7 rfl (lv_at hl 0 rfl) ?_
    refine vk_getf (o := "java/lang/String") (n := "value") (d := "[B") (ref := "java/lang/String") (v := .ref (G.2.2.1 (10 + i))) hx hb (hJ.1.1 i hi8).2.2.1 hS hown (hT _ gf_J0_9) (fun _ h => h) dJ0_charAt_5068e_8 ?_
    refine lv_iload_n hx hb dJ0_charAt_5068e_11 rfl (lv_at hl 1 rfl) ?_
    refine g_ki (g_runS (rest := []) hx hb hml hown hE hT (c_J1_charAt_3b067 l G i hi8 k hk) gM_J1_charAt_3b067 gm_J0_495 gt_J1_charAt_3b067 (gOld_S hO hS (fun _ h => h.elim)) rfl hl.1 ⟨rfl, rfl⟩ ⟨Nat.le_of_ble_eq_true rfl, Nat.le_of_ble_eq_true rfl⟩ ⟨Nat.zero_le _, Nat.zero_le _⟩ rfl (Nat.le_of_ble_eq_true rfl) dJ0_charAt_5068e_12) hS (fun _ h => h.elim) (fun r9 H6 locs q7 k8 hS => ?_)
    subst q7
    rw [← hQ]
    exact g_zret hx hb hr hlk (gChr_n i hi8 k hk) hS dJ0_charAt_5068e_15 rfl

set_option maxHeartbeats 4000000 in
set_option maxRecDepth 100000 in
theorem c_J1_canEncode_9a6ad (l : Launch) (G : gW) (x : Nat) (hx8 : x < 128) : gCI l yJ1_canEncode_9a6ad cJ1_canEncode_9a6ad 1 .boolean (gRm 0 0) G [.int (nI x)] (fun H => True) (fun r H => r = 1) (fun _ => False) := by
  refine g_start (by decide) (Nat.le_of_ble_eq_true rfl) ?_
  intro pp_ ee_ s mm_ aa_ below meth cc_ ls Q hQ hX hE hP hl
  obtain ⟨hx, hb, hr, hml, hown, hT, hlk, hnm⟩ := hX
  have hK := hE.2.1
  have hS : va_S (fun _ => False) s.heap s.heap [] := va_S.rf
  have hl : lv_has ls 1 [(0, .int (nI x))] := hl
  refine lv_iload_n hx hb dJ1_canEncode_9a6ad_0 rfl (lv_at hl 0 rfl) ?_
  refine lv_if_lt (tgt := 15) hx hb dJ1_canEncode_9a6ad_1 (by decide) (fun c1 => ?_) (fun c1 => ?_)
  · have c1 : x < 0 := (gLt (a := x) (b := 0) rfl rfl (by omega) (by omega)).mp c1
    exact absurd c1 (by omega)
  · have c1 : ¬ x < 0 := fun z => c1 ((gLt (a := x) (b := 0) rfl rfl (by omega) (by omega)).mpr z)
    refine lv_iload_n hx hb dJ1_canEncode_9a6ad_4 rfl (lv_at hl 0 rfl) ?_
    refine lv_sipush (v := 255) hx hb dJ1_canEncode_9a6ad_5 (by decide) ?_
    refine lv_icmp_gt (tgt := 15) hx hb dJ1_canEncode_9a6ad_8 (by decide) (fun c2 => ?_) (fun c2 => ?_)
    · have c2 : 255 < x := (gLt (a := 255) (b := x) rfl rfl (by omega) (by omega)).mp c2
      exact absurd c2 (by omega)
    · have c2 : ¬ 255 < x := fun z => c2 ((gLt (a := 255) (b := x) rfl rfl (by omega) (by omega)).mpr z)
      refine lv_iconst (v := 1) hx hb dJ1_canEncode_9a6ad_11 (by decide) ?_
      refine lv_goto (tgt := 16) hx hb dJ1_canEncode_9a6ad_12 (by decide) ?_
      rw [← hQ]
      exact g_zret hx hb hr hlk rfl hS dJ1_canEncode_9a6ad_16 rfl

set_option maxHeartbeats 4000000 in
set_option maxRecDepth 100000 in
theorem c_J1_indexOfChar_4cfef (l : Launch) (G : gW) (i : Nat) (hi8 : i < 8) (x : Nat) (hx8 : x < 128) : gCI l yJ1_indexOfChar_4cfef cJ1_indexOfChar_4cfef 6 .int (gRm 0 0) G [.ref (G.2.2.1 (10 + i)), .int (nI x), .int (nI 0), .int (nI (gLen.getD i 0))] (fun H => gOld G H) (fun r H => r = gIxo i x 0 (gLen.getD i 0)) (fun _ => False) := by
  refine g_start (by decide) (Nat.le_of_ble_eq_true rfl) ?_
  intro pp_ ee_ s mm_ aa_ below meth cc_ ls Q hQ hX hE hP hl
  obtain ⟨hx, hb, hr, hml, hown, hT, hlk, hnm⟩ := hX
  have hK := hE.2.1
  have hO := hP
  have hS : va_S (fun _ => False) s.heap s.heap [] := va_S.rf
  have hl : lv_has ls 6 [(0, .ref (G.2.2.1 (10 + i))), (1, .int (nI x)), (2, .int (nI 0)), (3, .int (nI (gLen.getD i 0)))] := hl
  have hJ := hE.2.2.2.2.2.2.now hO
  have hL6 := gLen_le i hi8
  refine lv_iload_n hx hb dJ1_indexOfChar_4cfef_0 rfl (lv_at hl 1 rfl) ?_
  refine lv_i2b hx hb dJ1_indexOfChar_4cfef_1 rfl ?_
  refine lv_istore (lv' := [(4, .int ((nI x).toInt8.toInt32)), (0, .ref (G.2.2.1 (10 + i))), (1, .int (nI x)), (2, .int (nI 0)), (3, .int (nI (gLen.getD i 0)))]) hx hb dJ1_indexOfChar_4cfef_2 hl (by decide) rfl (fun ls hl => ?_)
  refine lv_iload_n hx hb dJ1_indexOfChar_4cfef_4 rfl (lv_at hl 3 rfl) ?_
  refine lv_istore (lv' := [(5, .int (nI 0)), (4, .int ((nI x).toInt8.toInt32)), (0, .ref (G.2.2.1 (10 + i))), (1, .int (nI x)), (2, .int (nI 0)), (3, .int (nI (gLen.getD i 0)))]) hx hb dJ1_indexOfChar_4cfef_5 hl (by decide) rfl (fun ls hl => ?_)
  have loop : ∀ (d k : Nat), k + d = (gLen.getD i 0) → gIxo i x 0 (gLen.getD i 0) = gIxo i x k d → ∀ ls, lv_has ls 6 [(0, .ref (G.2.2.1 (10 + i))), (1, .int (nI x)), (3, .int (nI (gLen.getD i 0))), (4, .int ((nI x).toInt8.toInt32)), (5, .int (nI k))] → W pp_ l ee_ (gRm 0 0) s mm_ aa_ below meth cc_ s.heap [] 0 0 Q (F0 mm_ 7 ls []) := by
    intro d
    induction d with
    | zero =>
      intro k hk  hi ls hl
      have hk : k = (gLen.getD i 0) := by omega
      refine lv_iload hx hb dJ1_indexOfChar_4cfef_7 (lv_at hl 4 rfl) ?_
      refine lv_iload_n hx hb dJ1_indexOfChar_4cfef_9 rfl (lv_at hl 2 rfl) ?_
      refine lv_icmp_ge (tgt := 31) hx hb dJ1_indexOfChar_4cfef_10 (by decide) (fun c1 => ?_) (fun c1 => ?_)
      · have c1 : (gLen.getD i 0) ≤ k := (gLe (a := gLen.getD i 0) (b := k) rfl rfl (by omega) (by omega)).mp c1
        refine lv_iconst (v := (-1)) hx hb dJ1_indexOfChar_4cfef_31 (by decide) ?_
        rw [← hQ]
        exact g_iret hx hb hr hlk hS dJ1_indexOfChar_4cfef_32 (by rw [hi, gIxo])
      · have c1 : ¬ (gLen.getD i 0) ≤ k := fun z => c1 ((gLe (a := gLen.getD i 0) (b := k) rfl rfl (by omega) (by omega)).mpr z)
        exact absurd c1 (by omega)
    | succ d ih =>
      intro k hk  hi ls hl
      refine lv_iload hx hb dJ1_indexOfChar_4cfef_7 (lv_at hl 4 rfl) ?_
      refine lv_iload_n hx hb dJ1_indexOfChar_4cfef_9 rfl (lv_at hl 2 rfl) ?_
      refine lv_icmp_ge (tgt := 31) hx hb dJ1_indexOfChar_4cfef_10 (by decide) (fun c2 => ?_) (fun c2 => ?_)
      · have c2 : (gLen.getD i 0) ≤ k := (gLe (a := gLen.getD i 0) (b := k) rfl rfl (by omega) (by omega)).mp c2
        exact absurd c2 (by omega)
      · have c2 : ¬ (gLen.getD i 0) ≤ k := fun z => c2 ((gLe (a := gLen.getD i 0) (b := k) rfl rfl (by omega) (by omega)).mpr z)
        refine lv_aload_n hx hb dJ1_indexOfChar_4cfef_13 rfl (lv_at hl 0 rfl) ?_
        refine lv_iload hx hb dJ1_indexOfChar_4cfef_14 (lv_at hl 4 rfl) ?_
        refine va_tb (v := .int (gChr i k)) hx hb (hJ.1.1 i hi8).2.2.2 hS (gIn rfl (by omega) (by omega)) (by show Value.int ((gByt.getD i []).getD (Int32.toNatClampNeg _) 0) = _; rw [gCl rfl (show k < gLen.getD i 0 by omega) (by omega)]; rfl) dJ1_indexOfChar_4cfef_16 ?_
        refine lv_iload hx hb dJ1_indexOfChar_4cfef_17 (lv_at hl 3 rfl) ?_
        refine lv_icmp_ne (tgt := 25) hx hb dJ1_indexOfChar_4cfef_19 (by decide) (fun c3 => ?_) (fun c3 => ?_)
        · rw [gI2b x hx8] at c3
          refine lv_iinc (v := nI (k + 1)) (lv' := [(5, .int (nI (k + 1))), (0, .ref (G.2.2.1 (10 + i))), (1, .int (nI x)), (3, .int (nI (gLen.getD i 0))), (4, .int ((nI x).toInt8.toInt32))]) hx hb dJ1_indexOfChar_4cfef_25 hl (k := 4) rfl (gAdd rfl (show Int32.ofInt 1 = nI 1 from rfl)) (by decide) rfl (fun ls hl => ?_)
          refine lv_goto (tgt := 7) hx hb dJ1_indexOfChar_4cfef_28 (by decide) ?_
          exact ih (k + 1) (by omega)  (by rw [hi, gIxo, if_neg c3]) _ (by have hl := lv_sub hl [1, 2, 3, 4, 0] rfl; exact hl)
        · rw [gI2b x hx8] at c3
          refine lv_iload hx hb dJ1_indexOfChar_4cfef_22 (lv_at hl 4 rfl) ?_
          rw [← hQ]
          exact g_iret hx hb hr hlk hS dJ1_indexOfChar_4cfef_24 (by rw [hi, gIxo, if_pos c3])
  exact loop ((gLen.getD i 0) - 0) 0 (by first | omega | simp) rfl _ (lv_sub hl [2, 3, 5, 1, 0] rfl)

set_option maxHeartbeats 4000000 in
set_option maxRecDepth 100000 in
theorem c_J1_indexOf_4cfef (l : Launch) (G : gW) (i : Nat) (hi8 : i < 8) (x : Nat) (hx8 : x < 128) : gCI l yJ1_indexOf_4cfef cJ1_indexOf_4cfef 4 .int (gRm 1 25) G [.ref (G.2.2.1 (10 + i)), .int (nI x), .int 0, .int (nI (gLen.getD i 0))] (fun H => gOld G H) (fun r H => r = gIxo i x 0 (gLen.getD i 0)) (fun _ => False) := by
  refine g_start (by decide) (Nat.le_of_ble_eq_true rfl) ?_
  intro pp_ ee_ s mm_ aa_ below meth cc_ ls Q hQ hX hE hP hl
  obtain ⟨hx, hb, hr, hml, hown, hT, hlk, hnm⟩ := hX
  have hK := hE.2.1
  have hO := hP
  have hS : va_S (fun _ => False) s.heap s.heap [] := va_S.rf
  have hl : lv_has ls 4 [(0, .ref (G.2.2.1 (10 + i))), (1, .int (nI x)), (2, .int 0), (3, .int (nI (gLen.getD i 0)))] := hl
  have hJ := hE.2.2.2.2.2.2.now hO
  have hL6 := gLen_le i hi8
  have hLp : 0 < gLen.getD i 0 := gLen_p i hi8
  refine lv_iload_n hx hb dJ1_indexOf_4cfef_0 rfl (lv_at hl 1 rfl) ?_
  refine g_ki (g_runS (rest := []) hx hb hml hown hE hT (c_J1_canEncode_9a6ad l G x hx8) gM_J1_canEncode_9a6ad gm_J1_88 gt_J1_canEncode_9a6ad trivial rfl hl.1 ⟨rfl, rfl⟩ ⟨Nat.le_of_ble_eq_true rfl, Nat.le_of_ble_eq_true rfl⟩ ⟨Nat.zero_le _, Nat.zero_le _⟩ rfl (Nat.le_of_ble_eq_true rfl) dJ1_indexOf_4cfef_1) hS (fun _ h => h.elim) (fun r4 H1 locs q2 k3 hS => ?_)
  subst q2
  refine lv_if_ne (tgt := 9) hx hb dJ1_indexOf_4cfef_4 (by decide) (fun c5 => ?_) (fun c5 => ?_)
  · refine lv_iload_n hx hb dJ1_indexOf_4cfef_9 rfl (lv_at hl 2 rfl) ?_
    refine lv_iconst (v := 0) hx hb dJ1_indexOf_4cfef_10 (by decide) ?_
    refine va_mmax hx hb (hml.trans hl.1.symm) hown (hT _ gm_J1_92) (hT _ gt_Lib_Math_max_name) (hT _ gn_java_lang_Math) (hT _ gc_Lib_Math_max_name) (Nat.le_of_ble_eq_true rfl) (Nat.le_of_ble_eq_true rfl) (Nat.zero_le _) (Nat.zero_le _) dJ1_indexOf_4cfef_11 ?_
    rw [show (if (0 : Int32) < 0 then (0 : Int32) else 0) = 0 from rfl]
    refine lv_istore_n (lv' := [(2, .int 0), (0, .ref (G.2.2.1 (10 + i))), (1, .int (nI x)), (3, .int (nI (gLen.getD i 0)))]) hx hb dJ1_indexOf_4cfef_14 rfl hl (by decide) rfl (fun ls hl => ?_)
    refine lv_iload_n hx hb dJ1_indexOf_4cfef_15 rfl (lv_at hl 3 rfl) ?_
    refine lv_aload_n hx hb dJ1_indexOf_4cfef_16 rfl (lv_at hl 1 rfl) ?_
    refine va_tlen (v := nI (gLen.getD i 0)) hx hb (hJ.1.1 i hi8).2.2.2 hS rfl dJ1_indexOf_4cfef_17 ?_
    refine va_mmin hx hb (hml.trans hl.1.symm) hown (hT _ gm_J1_38) (hT _ gt_Lib_Math_min_name) (hT _ gn_java_lang_Math) (hT _ gc_Lib_Math_min_name) (Nat.le_of_ble_eq_true rfl) (Nat.le_of_ble_eq_true rfl) (Nat.zero_le _) (Nat.zero_le _) dJ1_indexOf_4cfef_18 ?_
    rw [ite_self]
    refine lv_istore_n (lv' := [(3, .int (nI (gLen.getD i 0))), (2, .int 0), (0, .ref (G.2.2.1 (10 + i))), (1, .int (nI x))]) hx hb dJ1_indexOf_4cfef_21 rfl hl (by decide) rfl (fun ls hl => ?_)
    refine lv_iload_n hx hb dJ1_indexOf_4cfef_22 rfl (lv_at hl 1 rfl) ?_
    refine lv_iload_n hx hb dJ1_indexOf_4cfef_23 rfl (lv_at hl 0 rfl) ?_
    refine lv_icmp_lt (tgt := 29) hx hb dJ1_indexOf_4cfef_24 (by decide) (fun c6 => ?_) (fun c6 => ?_)
    · have c6 : 0 < (gLen.getD i 0) := (gLt (a := 0) (b := gLen.getD i 0) rfl rfl (by omega) (by omega)).mp c6
      refine lv_aload_n hx hb dJ1_indexOf_4cfef_29 rfl (lv_at hl 2 rfl) ?_
      refine lv_iload_n hx hb dJ1_indexOf_4cfef_30 rfl (lv_at hl 3 rfl) ?_
      refine lv_iload_n hx hb dJ1_indexOf_4cfef_31 rfl (lv_at hl 1 rfl) ?_
      refine lv_iload_n hx hb dJ1_indexOf_4cfef_32 rfl (lv_at hl 0 rfl) ?_
      refine g_ki (g_runS (rest := []) hx hb hml hown hE hT (c_J1_indexOfChar_4cfef l G i hi8 x hx8) gM_J1_indexOfChar_4cfef gm_J1_95 gt_J1_indexOfChar_4cfef (gOld_S hO hS (fun _ h => h.elim)) rfl hl.1 ⟨rfl, rfl⟩ ⟨Nat.le_of_ble_eq_true rfl, Nat.le_of_ble_eq_true rfl⟩ ⟨Nat.zero_le _, Nat.zero_le _⟩ rfl (Nat.le_of_ble_eq_true rfl) dJ1_indexOf_4cfef_33) hS (fun _ h => h.elim) (fun r10 H7 locs q8 k9 hS => ?_)
      subst q8
      rw [← hQ]
      exact g_iret hx hb hr hlk hS dJ1_indexOf_4cfef_36 rfl
    · have c6 : ¬ 0 < (gLen.getD i 0) := fun z => c6 ((gLt (a := 0) (b := gLen.getD i 0) rfl rfl (by omega) (by omega)).mpr z)
      exact absurd c6 (by omega)
  · exact absurd c5 (by decide)

set_option maxHeartbeats 4000000 in
set_option maxRecDepth 100000 in
theorem c_J0_indexOf_7cf53 (l : Launch) (G : gW) (i : Nat) (hi8 : i < 8) (x : Nat) (hx8 : x < 128) : gCI l yJ0_indexOf_7cf53 cJ0_indexOf_7cf53 3 .int (gRm 5 116) G [.ref (G.2.2.1 i), .int (nI x), .int 0] (fun H => gOld G H) (fun r H => r = gIxo i x 0 (gLen.getD i 0)) (fun _ => False) := by
  refine g_start (by decide) (Nat.le_of_ble_eq_true rfl) ?_
  intro pp_ ee_ s mm_ aa_ below meth cc_ ls Q hQ hX hE hP hl
  obtain ⟨hx, hb, hr, hml, hown, hT, hlk, hnm⟩ := hX
  have hK := hE.2.1
  have hO := hP
  have hS : va_S (fun _ => False) s.heap s.heap [] := va_S.rf
  have hl : lv_has ls 3 [(0, .ref (G.2.2.1 i)), (1, .int (nI x)), (2, .int 0)] := hl
  have hJ := hE.2.2.2.2.2.2.now hO
  have hL6 := gLen_le i hi8
  refine lv_aload_n hx hb dJ0_indexOf_7cf53_0 rfl (lv_at hl 0 rfl) ?_
  refine g_ki (g_runJ (rest := []) hx hb hml hown hE hT (c_J0_isLatin1_aae02 l G i hi8) gM_J0_isLatin1_aae02 gm_J0_492 gi_J0_isLatin1_aae02 gs_RJ0_yJ0_isLatin1_aae02_yJ0_isLatin1_aae02 (gJ_recv hJ hi8 hO hS (fun _ h => h.elim) hE) (gOld_S hO hS (fun _ h => h.elim)) rfl hl.1 ⟨rfl, rfl⟩ ⟨Nat.le_of_ble_eq_true rfl, Nat.le_of_ble_eq_true rfl⟩ ⟨Nat.zero_le _, Nat.zero_le _⟩ rfl (Nat.le_of_ble_eq_true rfl) dJ0_indexOf_7cf53_1) hS (fun _ h => h.elim) (fun r4 H1 locs q2 k3 hS => ?_)
  subst q2
  refine lv_if_eq (tgt := 23) hx hb dJ0_indexOf_7cf53_4 (by decide) (fun c5 => ?_) (fun c5 => ?_)
  · exact absurd c5 (by decide)
  · refine lv_aload_n hx hb dJ0_indexOf_7cf53_7 rfl (lv_at hl 0 rfl) ?_
    refine vk_getf (o := "java/lang/String") (n := "value") (d := "[B") (ref := "java/lang/String") (v := .ref (G.2.2.1 (10 + i))) hx hb (hJ.1.1 i hi8).2.2.1 hS hown (hT _ gf_J0_9) (fun _ h => h) dJ0_indexOf_7cf53_8 ?_
    refine lv_iload_n hx hb dJ0_indexOf_7cf53_11 rfl (lv_at hl 1 rfl) ?_
    refine lv_iload_n hx hb dJ0_indexOf_7cf53_12 rfl (lv_at hl 2 rfl) ?_
    refine lv_aload_n hx hb dJ0_indexOf_7cf53_13 rfl (lv_at hl 0 rfl) ?_
    refine g_ki (g_runJ (rest := [.int 0, .int (nI x), .ref (G.2.2.1 (10 + i))]) hx hb hml hown hE hT (c_J0_length_8abf5 l G i hi8) gM_J0_length_8abf5 gm_J0_505 gi_J0_length_8abf5 gs_RJ0_yJ0_length_8abf5_yJ0_length_8abf5 (gJ_recv hJ hi8 hO hS (fun _ h => h.elim) hE) (gOld_S hO hS (fun _ h => h.elim)) rfl hl.1 ⟨rfl, rfl⟩ ⟨Nat.le_of_ble_eq_true rfl, Nat.le_of_ble_eq_true rfl⟩ ⟨Nat.zero_le _, Nat.zero_le _⟩ rfl (Nat.le_of_ble_eq_true rfl) dJ0_indexOf_7cf53_14) hS (fun _ h => h.elim) (fun r9 H6 locs q7 k8 hS => ?_)
    subst q7
    refine g_ki (g_runS (rest := []) hx hb hml hown hE hT (c_J1_indexOf_4cfef l G i hi8 x hx8) gM_J1_indexOf_4cfef gm_J0_637 gt_J1_indexOf_4cfef (gOld_S hO hS (fun _ h => h.elim)) rfl hl.1 ⟨rfl, rfl⟩ ⟨Nat.le_of_ble_eq_true rfl, Nat.le_of_ble_eq_true rfl⟩ ⟨Nat.zero_le _, Nat.zero_le _⟩ rfl (Nat.le_of_ble_eq_true rfl) dJ0_indexOf_7cf53_17) hS (fun _ h => h.elim) (fun r13 H10 locs q11 k12 hS => ?_)
    subst q11
    refine lv_goto (tgt := 36) hx hb dJ0_indexOf_7cf53_20 (by decide) ?_
    rw [← hQ]
    exact g_iret hx hb hr hlk hS dJ0_indexOf_7cf53_36 rfl

set_option maxHeartbeats 4000000 in
set_option maxRecDepth 100000 in
theorem c_J0_indexOf_0f7a4 (l : Launch) (G : gW) (i : Nat) (hi8 : i < 8) (x : Nat) (hx8 : x < 128) : gCI l yJ0_indexOf_0f7a4 cJ0_indexOf_0f7a4 2 .int (gRm 6 138) G [.ref (G.2.2.1 i), .int (nI x)] (fun H => gOld G H) (fun r H => r = gIxo i x 0 (gLen.getD i 0)) (fun _ => False) := by
  refine g_start (by decide) (Nat.le_of_ble_eq_true rfl) ?_
  intro pp_ ee_ s mm_ aa_ below meth cc_ ls Q hQ hX hE hP hl
  obtain ⟨hx, hb, hr, hml, hown, hT, hlk, hnm⟩ := hX
  have hK := hE.2.1
  have hO := hP
  have hS : va_S (fun _ => False) s.heap s.heap [] := va_S.rf
  have hl : lv_has ls 2 [(0, .ref (G.2.2.1 i)), (1, .int (nI x))] := hl
  have hJ := hE.2.2.2.2.2.2.now hO
  have hL6 := gLen_le i hi8
  refine lv_aload_n hx hb dJ0_indexOf_0f7a4_0 rfl (lv_at hl 0 rfl) ?_
  refine lv_iload_n hx hb dJ0_indexOf_0f7a4_1 rfl (lv_at hl 1 rfl) ?_
  refine lv_iconst (v := 0) hx hb dJ0_indexOf_0f7a4_2 (by decide) ?_
  refine g_ki (g_runJ (rest := []) hx hb hml hown hE hT (c_J0_indexOf_7cf53 l G i hi8 x hx8) gM_J0_indexOf_7cf53 gm_J0_633 gi_J0_indexOf_7cf53 gs_RJ0_yJ0_indexOf_7cf53_yJ0_indexOf_7cf53 (gJ_recv hJ hi8 hO hS (fun _ h => h.elim) hE) (gOld_S hO hS (fun _ h => h.elim)) rfl hl.1 ⟨rfl, rfl⟩ ⟨Nat.le_of_ble_eq_true rfl, Nat.le_of_ble_eq_true rfl⟩ ⟨Nat.zero_le _, Nat.zero_le _⟩ rfl (Nat.le_of_ble_eq_true rfl) dJ0_indexOf_0f7a4_3) hS (fun _ h => h.elim) (fun r4 H1 locs q2 k3 hS => ?_)
  subst q2
  rw [← hQ]
  exact g_iret hx hb hr hlk hS dJ0_indexOf_0f7a4_6 rfl
