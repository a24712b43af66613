set_option maxHeartbeats 4000000 in
set_option maxRecDepth 100000 in
theorem c_X12_flies_0 (l : Launch) (G : gW) (b : Nat) (π μ f : gPS) (g : Nat → Int64) (t : Nat) (ht : μ 4 1 = nI t) (htl : t ≤ 2010) (p : Nat) (hp : p < 6) (kk : Nat) (hkk : kk < 7) (ek : π 2 p = nI kk) (x : Int32) : gCI l yX12_flies cX12_flies 5 .int (gRm 4 90) G [.ref b, .int (nI p), .int 0, .int x] (fun H => gSg G b (gLM G b π μ f g) H) (fun r H => r = (gCoo p (π 3 p) kk x).1 - π 3 p ∧ gSg G b (gLM G b π (gTrs μ ([11] ++ (gCoo p (π 3 p) kk x).2)) f g) H) (fun q => b ≤ q ∧ q < b + 30) := by
  refine g_start (by decide) (Nat.le_of_ble_eq_true rfl) ?_
  intro pp_ ee_ s mm_ aa_ below meth cc_ ls Q hQ hX hE hP hl
  obtain ⟨hx, hb, hr, hml, hown, hT, hlk, hnm⟩ := hX
  have hK := hE.2.1
  have h1 := hP
  have hS : va_S (fun q => b ≤ q ∧ q < b + 30) s.heap s.heap [] := va_S.rf
  have hl : lv_has ls 5 [(0, .ref b), (1, .int (nI p)), (2, .int 0), (3, .int x)] := hl
  have hn0 := gCoo_l p (π 3 p) kk x
  refine lv_iload_n hx hb dX12_flies_0 rfl (lv_at hl 2 rfl) ?_
  refine lv_tableIn (off := 102) (tgt := 103) hx hb dX12_flies_1 (by decide) (by decide) (by decide) (by decide) ?_
  refine lv_aload_n hx hb dX12_flies_103 rfl (lv_at hl 0 rfl) ?_
  refine lv_bipush (v := 11) hx hb dX12_flies_104 (by decide) ?_
  refine g_kv (g_runV (T := TX12) (ci := 12) (N := 45) (rest := []) hx hb hml hown hE hT (c_X12_ran l G b π μ f g t ht (by omega) 11) gM_X12_ran gm_X12_306 gi_X12_ran gs_RX12_yX12_ran_yX12_ran rfl (h1 0 _ rfl) h1 rfl hl.1 ⟨rfl, rfl⟩ ⟨Nat.le_of_ble_eq_true rfl, Nat.le_of_ble_eq_true rfl⟩ ⟨Nat.zero_le _, Nat.zero_le _⟩ rfl (Nat.le_of_ble_eq_true rfl) dX12_flies_106) hS (by intro q hq; omega) (fun H1 locs q2 k3 hS => ?_)
  have h1 := q2
  refine lv_aload_n hx hb dX12_flies_109 rfl (lv_at hl 0 rfl) ?_
  refine lv_iload_n hx hb dX12_flies_110 rfl (lv_at hl 1 rfl) ?_
  refine lv_aload_n hx hb dX12_flies_111 rfl (lv_at hl 0 rfl) ?_
  refine g_get (v := .ref (b + 3)) (T := TX12) (ci := 12) (N := 45) hx hb hown hK (gY_X12 hT) rfl (h1 0 _ rfl) 4 (by decide) (hT _ gf_X12_18) rfl dX12_flies_112 ?_
  refine lv_iload_n hx hb dX12_flies_115 rfl (lv_at hl 1 rfl) ?_
  refine g_ia (j := p) (v := π 2 p) hx hb hK (h1 3 _ rfl) rfl (by omega) (Nat.le_of_ble_eq_true rfl) rfl dX12_flies_116 ?_
  refine lv_iload_n hx hb dX12_flies_117 rfl (lv_at hl 3 rfl) ?_
  rw [ek]
  have hn118 := gCoo_l p (π 3 p) kk x
  refine g_ki (g_runV (T := TX12) (ci := 12) (N := 45) (rest := []) hx hb hml hown hE hT (c_X12_coos_all l G b π (gTr1 μ 11) f g (t + 1) (gTr1_n ht) (by omega) p hp kk hkk x) gM_X12_coos gm_X12_310 gi_X12_coos gs_RX12_yX12_coos_yX12_coos rfl (h1 0 _ rfl) h1 rfl hl.1 ⟨rfl, rfl⟩ ⟨Nat.le_of_ble_eq_true rfl, Nat.le_of_ble_eq_true rfl⟩ ⟨Nat.zero_le _, Nat.zero_le _⟩ rfl (Nat.le_of_ble_eq_true rfl) dX12_flies_118) hS (by intro q hq; omega) (fun r8 H5 locs q6 k7 hS => ?_)
  obtain ⟨e9, h1⟩ := q6
  rw [e9]
  refine lv_aload_n hx hb dX12_flies_121 rfl (lv_at hl 0 rfl) ?_
  refine g_get (v := .ref (b + 4)) (T := TX12) (ci := 12) (N := 45) hx hb hown hK (gY_X12 hT) rfl (h1 0 _ rfl) 5 (by decide) (hT _ gf_X12_21) rfl dX12_flies_122 ?_
  refine lv_iload_n hx hb dX12_flies_125 rfl (lv_at hl 1 rfl) ?_
  refine g_ia (j := p) (v := π 3 p) hx hb hK (h1 4 _ rfl) rfl (by omega) (Nat.le_of_ble_eq_true rfl) rfl dX12_flies_126 ?_
  refine lv_isub hx hb dX12_flies_127 ?_
  rw [← hQ]
  exact g_iret hx hb hr hlk hS dX12_flies_128 ⟨rfl, by rw [show gTrs μ ([11] ++ (gCoo p (π 3 p) kk x).2) = gTrs (gTr1 μ 11) (gCoo p (π 3 p) kk x).2 from by simp only [gTrs, List.foldl_append, List.foldl_cons, List.foldl_nil]]; exact h1⟩

set_option maxHeartbeats 4000000 in
set_option maxRecDepth 100000 in
theorem c_X12_flies_1 (l : Launch) (G : gW) (b : Nat) (π μ f : gPS) (g : Nat → Int64) (t : Nat) (ht : μ 4 1 = nI t) (htl : t ≤ 2009) (p : Nat) (hp : p < 6) (kk : Nat) (hkk : kk < 7) (ek : π 2 p = nI kk) (x : Int32) : gCI l yX12_flies cX12_flies 5 .int (gRm 5 114) G [.ref b, .int (nI p), .int 1, .int x] (fun H => gSg G b (gLM G b π μ f g) H) (fun r H => r = ((gCoo p (π 3 p) kk x).1 - π 3 p) ^^^ 6 ∧ gSg G b (gLM G b π (gTrs μ ([20, 11] ++ (gCoo p (π 3 p) kk x).2)) f g) H) (fun q => b ≤ q ∧ q < b + 30) := by
  refine g_start (by decide) (Nat.le_of_ble_eq_true rfl) ?_
  intro pp_ ee_ s mm_ aa_ below meth cc_ ls Q hQ hX hE hP hl
  obtain ⟨hx, hb, hr, hml, hown, hT, hlk, hnm⟩ := hX
  have hK := hE.2.1
  have h1 := hP
  have hS : va_S (fun q => b ≤ q ∧ q < b + 30) s.heap s.heap [] := va_S.rf
  have hl : lv_has ls 5 [(0, .ref b), (1, .int (nI p)), (2, .int 1), (3, .int x)] := hl
  have hn0 := gCoo_l p (π 3 p) kk x
  refine lv_iload_n hx hb dX12_flies_0 rfl (lv_at hl 2 rfl) ?_
  refine lv_tableIn (off := 43) (tgt := 44) hx hb dX12_flies_1 (by decide) (by decide) (by decide) (by decide) ?_
  refine lv_aload_n hx hb dX12_flies_44 rfl (lv_at hl 0 rfl) ?_
  refine lv_bipush (v := 20) hx hb dX12_flies_45 (by decide) ?_
  refine g_kv (g_runV (T := TX12) (ci := 12) (N := 45) (rest := []) hx hb hml hown hE hT (c_X12_ran l G b π μ f g t ht (by omega) 20) gM_X12_ran gm_X12_306 gi_X12_ran gs_RX12_yX12_ran_yX12_ran rfl (h1 0 _ rfl) h1 rfl hl.1 ⟨rfl, rfl⟩ ⟨Nat.le_of_ble_eq_true rfl, Nat.le_of_ble_eq_true rfl⟩ ⟨Nat.zero_le _, Nat.zero_le _⟩ rfl (Nat.le_of_ble_eq_true rfl) dX12_flies_47) hS (by intro q hq; omega) (fun H1 locs q2 k3 hS => ?_)
  have h1 := q2
  refine lv_aload_n hx hb dX12_flies_50 rfl (lv_at hl 0 rfl) ?_
  refine lv_iload_n hx hb dX12_flies_51 rfl (lv_at hl 1 rfl) ?_
  refine lv_iconst (v := 0) hx hb dX12_flies_52 (by decide) ?_
  refine lv_iload_n hx hb dX12_flies_53 rfl (lv_at hl 3 rfl) ?_
  have hn54 := gCoo_l p (π 3 p) kk x
  refine g_ki (g_runV (T := TX12) (ci := 12) (N := 45) (rest := []) hx hb hml hown hE hT (c_X12_flies_0 l G b π (gTr1 μ 20) f g (t + 1) (gTr1_n ht) (by first | omega | (simp only [List.length_append, List.length_cons, List.length_nil]; omega)) p hp kk hkk ek x) gM_X12_flies gm_X12_316 gi_X12_flies gs_RX12_yX12_flies_yX12_flies rfl (h1 0 _ rfl) h1 rfl hl.1 ⟨rfl, rfl⟩ ⟨Nat.le_of_ble_eq_true rfl, Nat.le_of_ble_eq_true rfl⟩ ⟨Nat.zero_le _, Nat.zero_le _⟩ rfl (Nat.le_of_ble_eq_true rfl) dX12_flies_54) hS (by intro q hq; omega) (fun r8 H5 locs q6 k7 hS => ?_)
  obtain ⟨e9, h1⟩ := q6
  rw [e9]
  refine lv_bipush (v := 6) hx hb dX12_flies_57 (by decide) ?_
  refine lv_ixor hx hb dX12_flies_59 ?_
  rw [← hQ]
  exact g_iret hx hb hr hlk hS dX12_flies_60 ⟨rfl, by rw [show gTrs μ ([20, 11] ++ (gCoo p (π 3 p) kk x).2) = gTrs (gTr1 μ 20) ([11] ++ (gCoo p (π 3 p) kk x).2) from by simp only [gTrs, List.foldl_append, List.foldl_cons, List.foldl_nil]]; exact h1⟩

set_option maxHeartbeats 4000000 in
set_option maxRecDepth 100000 in
theorem c_X12_flies_2 (l : Launch) (G : gW) (b : Nat) (π μ f : gPS) (g : Nat → Int64) (t : Nat) (ht : μ 4 1 = nI t) (htl : t ≤ 2009) (p : Nat) (hp : p < 6) (kk : Nat) (hkk : kk < 7) (ek : π 2 p = nI kk) (x : Int32) : gCI l yX12_flies cX12_flies 5 .int (gRm 5 114) G [.ref b, .int (nI p), .int 2, .int x] (fun H => gSg G b (gLM G b π μ f g) H) (fun r H => r = (gCoo p (π 3 p) kk x).1 - π 3 p ∧ gSg G b (gLM G b π (gTrs μ ([11] ++ (gCoo p (π 3 p) kk x).2)) f g) H) (fun q => b ≤ q ∧ q < b + 30) := by
  refine g_start (by decide) (Nat.le_of_ble_eq_true rfl) ?_
  intro pp_ ee_ s mm_ aa_ below meth cc_ ls Q hQ hX hE hP hl
  obtain ⟨hx, hb, hr, hml, hown, hT, hlk, hnm⟩ := hX
  have hK := hE.2.1
  have h1 := hP
  have hS : va_S (fun q => b ≤ q ∧ q < b + 30) s.heap s.heap [] := va_S.rf
  have hl : lv_has ls 5 [(0, .ref b), (1, .int (nI p)), (2, .int 2), (3, .int x)] := hl
  have hn0 := gCoo_l p (π 3 p) kk x
  refine lv_iload_n hx hb dX12_flies_0 rfl (lv_at hl 2 rfl) ?_
  refine lv_tableIn (off := 128) (tgt := 129) hx hb dX12_flies_1 (by decide) (by decide) (by decide) (by decide) ?_
  refine lv_aload_n hx hb dX12_flies_129 rfl (lv_at hl 0 rfl) ?_
  refine lv_iload_n hx hb dX12_flies_130 rfl (lv_at hl 1 rfl) ?_
  refine lv_iload_n hx hb dX12_flies_131 rfl (lv_at hl 2 rfl) ?_
  refine g_ki (g_runS (rest := [.int (nI p), .ref b]) hx hb hml hown hE hT (c_X12_above l G 2) gM_X12_above gm_X12_313 gt_X12_above trivial rfl hl.1 ⟨rfl, rfl⟩ ⟨Nat.le_of_ble_eq_true rfl, Nat.le_of_ble_eq_true rfl⟩ ⟨Nat.zero_le _, Nat.zero_le _⟩ rfl (Nat.le_of_ble_eq_true rfl) dX12_flies_132) hS (fun _ h => h.elim) (fun r4 H1 locs q2 k3 hS => ?_)
  subst q2
  have h1 := gSg_free h1 k3 (by intro k hk q; simp only [List.length_cons, List.length_nil] at hk; omega)
  rw [show gAbove 2 = 0 from by decide]
  refine lv_iload_n hx hb dX12_flies_135 rfl (lv_at hl 3 rfl) ?_
  have hn136 := gCoo_l p (π 3 p) kk x
  refine g_ki (g_runV (T := TX12) (ci := 12) (N := 45) (rest := []) hx hb hml hown hE hT (c_X12_flies_0 l G b π μ f g t ht (by first | omega | (simp only [List.length_append, List.length_cons, List.length_nil]; omega)) p hp kk hkk ek x) gM_X12_flies gm_X12_316 gi_X12_flies gs_RX12_yX12_flies_yX12_flies rfl (h1 0 _ rfl) h1 rfl hl.1 ⟨rfl, rfl⟩ ⟨Nat.le_of_ble_eq_true rfl, Nat.le_of_ble_eq_true rfl⟩ ⟨Nat.zero_le _, Nat.zero_le _⟩ rfl (Nat.le_of_ble_eq_true rfl) dX12_flies_136) hS (by intro q hq; omega) (fun r8 H5 locs q6 k7 hS => ?_)
  obtain ⟨e9, h1⟩ := q6
  rw [e9]
  rw [← hQ]
  exact g_iret hx hb hr hlk hS dX12_flies_139 ⟨rfl, by rw [show gTrs μ ([11] ++ (gCoo p (π 3 p) kk x).2) = gTrs μ ([11] ++ (gCoo p (π 3 p) kk x).2) from by simp only [gTrs, List.foldl_append, List.foldl_cons, List.foldl_nil]]; exact h1⟩

set_option maxHeartbeats 4000000 in
set_option maxRecDepth 100000 in
theorem c_X12_flies_3 (l : Launch) (G : gW) (b : Nat) (π μ f : gPS) (g : Nat → Int64) (t : Nat) (ht : μ 4 1 = nI t) (htl : t ≤ 2009) (p : Nat) (hp : p < 6) (kk : Nat) (hkk : kk < 7) (ek : π 2 p = nI kk) (x : Int32) : gCI l yX12_flies cX12_flies 5 .int (gRm 5 114) G [.ref b, .int (nI p), .int 3, .int x] (fun H => gSg G b (gLM G b π μ f g) H) (fun r H => r = (gCoo p (π 3 p) kk x).1 - π 3 p ∧ gSg G b (gLM G b π (gTrs μ ([11] ++ (gCoo p (π 3 p) kk x).2)) f g) H) (fun q => b ≤ q ∧ q < b + 30) := by
  refine g_start (by decide) (Nat.le_of_ble_eq_true rfl) ?_
  intro pp_ ee_ s mm_ aa_ below meth cc_ ls Q hQ hX hE hP hl
  obtain ⟨hx, hb, hr, hml, hown, hT, hlk, hnm⟩ := hX
  have hK := hE.2.1
  have h1 := hP
  have hS : va_S (fun q => b ≤ q ∧ q < b + 30) s.heap s.heap [] := va_S.rf
  have hl : lv_has ls 5 [(0, .ref b), (1, .int (nI p)), (2, .int 3), (3, .int x)] := hl
  have hn0 := gCoo_l p (π 3 p) kk x
  refine lv_iload_n hx hb dX12_flies_0 rfl (lv_at hl 2 rfl) ?_
  refine lv_tableIn (off := 128) (tgt := 129) hx hb dX12_flies_1 (by decide) (by decide) (by decide) (by decide) ?_
  refine lv_aload_n hx hb dX12_flies_129 rfl (lv_at hl 0 rfl) ?_
  refine lv_iload_n hx hb dX12_flies_130 rfl (lv_at hl 1 rfl) ?_
  refine lv_iload_n hx hb dX12_flies_131 rfl (lv_at hl 2 rfl) ?_
  refine g_ki (g_runS (rest := [.int (nI p), .ref b]) hx hb hml hown hE hT (c_X12_above l G 3) gM_X12_above gm_X12_313 gt_X12_above trivial rfl hl.1 ⟨rfl, rfl⟩ ⟨Nat.le_of_ble_eq_true rfl, Nat.le_of_ble_eq_true rfl⟩ ⟨Nat.zero_le _, Nat.zero_le _⟩ rfl (Nat.le_of_ble_eq_true rfl) dX12_flies_132) hS (fun _ h => h.elim) (fun r4 H1 locs q2 k3 hS => ?_)
  subst q2
  have h1 := gSg_free h1 k3 (by intro k hk q; simp only [List.length_cons, List.length_nil] at hk; omega)
  rw [show gAbove 3 = 0 from by decide]
  refine lv_iload_n hx hb dX12_flies_135 rfl (lv_at hl 3 rfl) ?_
  have hn136 := gCoo_l p (π 3 p) kk x
  refine g_ki (g_runV (T := TX12) (ci := 12) (N := 45) (rest := []) hx hb hml hown hE hT (c_X12_flies_0 l G b π μ f g t ht (by first | omega | (simp only [List.length_append, List.length_cons, List.length_nil]; omega)) p hp kk hkk ek x) gM_X12_flies gm_X12_316 gi_X12_flies gs_RX12_yX12_flies_yX12_flies rfl (h1 0 _ rfl) h1 rfl hl.1 ⟨rfl, rfl⟩ ⟨Nat.le_of_ble_eq_true rfl, Nat.le_of_ble_eq_true rfl⟩ ⟨Nat.zero_le _, Nat.zero_le _⟩ rfl (Nat.le_of_ble_eq_true rfl) dX12_flies_136) hS (by intro q hq; omega) (fun r8 H5 locs q6 k7 hS => ?_)
  obtain ⟨e9, h1⟩ := q6
  rw [e9]
  rw [← hQ]
  exact g_iret hx hb hr hlk hS dX12_flies_139 ⟨rfl, by rw [show gTrs μ ([11] ++ (gCoo p (π 3 p) kk x).2) = gTrs μ ([11] ++ (gCoo p (π 3 p) kk x).2) from by simp only [gTrs, List.foldl_append, List.foldl_cons, List.foldl_nil]]; exact h1⟩

set_option maxHeartbeats 4000000 in
set_option maxRecDepth 100000 in
theorem c_X12_flies_4 (l : Launch) (G : gW) (b : Nat) (π μ f : gPS) (g : Nat → Int64) (t : Nat) (ht : μ 4 1 = nI t) (htl : t ≤ 2008) (p : Nat) (hp : p < 6) (kk : Nat) (hkk : kk < 7) (ek : π 2 p = nI kk) (x : Int32) : gCI l yX12_flies cX12_flies 5 .int (gRm 6 138) G [.ref b, .int (nI p), .int 4, .int x] (fun H => gSg G b (gLM G b π μ f g) H) (fun r H => r = ((gCoo p (π 3 p) kk (x + 1)).1 - π 3 p) ^^^ 6 ∧ gSg G b (gLM G b π (gTrs μ ([51, 20, 11] ++ (gCoo p (π 3 p) kk (x + 1)).2)) f g) H) (fun q => b ≤ q ∧ q < b + 30) := by
  refine g_start (by decide) (Nat.le_of_ble_eq_true rfl) ?_
  intro pp_ ee_ s mm_ aa_ below meth cc_ ls Q hQ hX hE hP hl
  obtain ⟨hx, hb, hr, hml, hown, hT, hlk, hnm⟩ := hX
  have hK := hE.2.1
  have h1 := hP
  have hS : va_S (fun q => b ≤ q ∧ q < b + 30) s.heap s.heap [] := va_S.rf
  have hl : lv_has ls 5 [(0, .ref b), (1, .int (nI p)), (2, .int 4), (3, .int x)] := hl
  have hn0 := gCoo_l p (π 3 p) kk x
  refine lv_iload_n hx hb dX12_flies_0 rfl (lv_at hl 2 rfl) ?_
  refine lv_tableIn (off := 60) (tgt := 61) hx hb dX12_flies_1 (by decide) (by decide) (by decide) (by decide) ?_
  refine lv_aload_n hx hb dX12_flies_61 rfl (lv_at hl 0 rfl) ?_
  refine lv_bipush (v := 51) hx hb dX12_flies_62 (by decide) ?_
  refine g_kv (g_runV (T := TX12) (ci := 12) (N := 45) (rest := []) hx hb hml hown hE hT (c_X12_ran l G b π μ f g t ht (by omega) 51) gM_X12_ran gm_X12_306 gi_X12_ran gs_RX12_yX12_ran_yX12_ran rfl (h1 0 _ rfl) h1 rfl hl.1 ⟨rfl, rfl⟩ ⟨Nat.le_of_ble_eq_true rfl, Nat.le_of_ble_eq_true rfl⟩ ⟨Nat.zero_le _, Nat.zero_le _⟩ rfl (Nat.le_of_ble_eq_true rfl) dX12_flies_64) hS (by intro q hq; omega) (fun H1 locs q2 k3 hS => ?_)
  have h1 := q2
  refine lv_aload_n hx hb dX12_flies_67 rfl (lv_at hl 0 rfl) ?_
  refine lv_iload_n hx hb dX12_flies_68 rfl (lv_at hl 1 rfl) ?_
  refine lv_iconst (v := 1) hx hb dX12_flies_69 (by decide) ?_
  refine lv_iload_n hx hb dX12_flies_70 rfl (lv_at hl 3 rfl) ?_
  refine lv_iconst (v := 1) hx hb dX12_flies_71 (by decide) ?_
  refine lv_iadd hx hb dX12_flies_72 ?_
  have hn73 := gCoo_l p (π 3 p) kk (x + 1)
  refine g_ki (g_runV (T := TX12) (ci := 12) (N := 45) (rest := []) hx hb hml hown hE hT (c_X12_flies_1 l G b π (gTr1 μ 51) f g (t + 1) (gTr1_n ht) (by first | omega | (simp only [List.length_append, List.length_cons, List.length_nil]; omega)) p hp kk hkk ek (x + 1)) gM_X12_flies gm_X12_316 gi_X12_flies gs_RX12_yX12_flies_yX12_flies rfl (h1 0 _ rfl) h1 rfl hl.1 ⟨rfl, rfl⟩ ⟨Nat.le_of_ble_eq_true rfl, Nat.le_of_ble_eq_true rfl⟩ ⟨Nat.zero_le _, Nat.zero_le _⟩ rfl (Nat.le_of_ble_eq_true rfl) dX12_flies_73) hS (by intro q hq; omega) (fun r8 H5 locs q6 k7 hS => ?_)
  obtain ⟨e9, h1⟩ := q6
  rw [e9]
  rw [← hQ]
  exact g_iret hx hb hr hlk hS dX12_flies_76 ⟨rfl, by rw [show gTrs μ ([51, 20, 11] ++ (gCoo p (π 3 p) kk (x + 1)).2) = gTrs (gTr1 μ 51) ([20, 11] ++ (gCoo p (π 3 p) kk (x + 1)).2) from by simp only [gTrs, List.foldl_append, List.foldl_cons, List.foldl_nil]]; exact h1⟩

set_option maxHeartbeats 4000000 in
set_option maxRecDepth 100000 in
theorem c_X12_flies_5 (l : Launch) (G : gW) (b : Nat) (π μ f : gPS) (g : Nat → Int64) (t : Nat) (ht : μ 4 1 = nI t) (htl : t ≤ 2008) (p : Nat) (hp : p < 6) (kk : Nat) (hkk : kk < 7) (ek : π 2 p = nI kk) (x : Int32) : gCI l yX12_flies cX12_flies 5 .int (gRm 6 138) G [.ref b, .int (nI p), .int 5, .int x] (fun H => gSg G b (gLM G b π μ f g) H) (fun r H => r = (gCoo p (π 3 p) kk x).1 - π 3 p ∧ gSg G b (gLM G b π (gTrs μ ([11] ++ (gCoo p (π 3 p) kk x).2)) f g) H) (fun q => b ≤ q ∧ q < b + 30) := by
  refine g_start (by decide) (Nat.le_of_ble_eq_true rfl) ?_
  intro pp_ ee_ s mm_ aa_ below meth cc_ ls Q hQ hX hE hP hl
  obtain ⟨hx, hb, hr, hml, hown, hT, hlk, hnm⟩ := hX
  have hK := hE.2.1
  have h1 := hP
  have hS : va_S (fun q => b ≤ q ∧ q < b + 30) s.heap s.heap [] := va_S.rf
  have hl : lv_has ls 5 [(0, .ref b), (1, .int (nI p)), (2, .int 5), (3, .int x)] := hl
  have hn0 := gCoo_l p (π 3 p) kk x
  refine lv_iload_n hx hb dX12_flies_0 rfl (lv_at hl 2 rfl) ?_
  refine lv_tableIn (off := 128) (tgt := 129) hx hb dX12_flies_1 (by decide) (by decide) (by decide) (by decide) ?_
  refine lv_aload_n hx hb dX12_flies_129 rfl (lv_at hl 0 rfl) ?_
  refine lv_iload_n hx hb dX12_flies_130 rfl (lv_at hl 1 rfl) ?_
  refine lv_iload_n hx hb dX12_flies_131 rfl (lv_at hl 2 rfl) ?_
  refine g_ki (g_runS (rest := [.int (nI p), .ref b]) hx hb hml hown hE hT (c_X12_above l G 5) gM_X12_above gm_X12_313 gt_X12_above trivial rfl hl.1 ⟨rfl, rfl⟩ ⟨Nat.le_of_ble_eq_true rfl, Nat.le_of_ble_eq_true rfl⟩ ⟨Nat.zero_le _, Nat.zero_le _⟩ rfl (Nat.le_of_ble_eq_true rfl) dX12_flies_132) hS (fun _ h => h.elim) (fun r4 H1 locs q2 k3 hS => ?_)
  subst q2
  have h1 := gSg_free h1 k3 (by intro k hk q; simp only [List.length_cons, List.length_nil] at hk; omega)
  rw [show gAbove 5 = 2 from by decide]
  refine lv_iload_n hx hb dX12_flies_135 rfl (lv_at hl 3 rfl) ?_
  have hn136 := gCoo_l p (π 3 p) kk x
  refine g_ki (g_runV (T := TX12) (ci := 12) (N := 45) (rest := []) hx hb hml hown hE hT (c_X12_flies_2 l G b π μ f g t ht (by first | omega | (simp only [List.length_append, List.length_cons, List.length_nil]; omega)) p hp kk hkk ek x) gM_X12_flies gm_X12_316 gi_X12_flies gs_RX12_yX12_flies_yX12_flies rfl (h1 0 _ rfl) h1 rfl hl.1 ⟨rfl, rfl⟩ ⟨Nat.le_of_ble_eq_true rfl, Nat.le_of_ble_eq_true rfl⟩ ⟨Nat.zero_le _, Nat.zero_le _⟩ rfl (Nat.le_of_ble_eq_true rfl) dX12_flies_136) hS (by intro q hq; omega) (fun r8 H5 locs q6 k7 hS => ?_)
  obtain ⟨e9, h1⟩ := q6
  rw [e9]
  rw [← hQ]
  exact g_iret hx hb hr hlk hS dX12_flies_139 ⟨rfl, by rw [show gTrs μ ([11] ++ (gCoo p (π 3 p) kk x).2) = gTrs μ ([11] ++ (gCoo p (π 3 p) kk x).2) from by simp only [gTrs, List.foldl_append, List.foldl_cons, List.foldl_nil]]; exact h1⟩

set_option maxHeartbeats 4000000 in
set_option maxRecDepth 100000 in
theorem c_X12_flies_6 (l : Launch) (G : gW) (b : Nat) (π μ f : gPS) (g : Nat → Int64) (t : Nat) (ht : μ 4 1 = nI t) (htl : t ≤ 2008) (p : Nat) (hp : p < 6) (kk : Nat) (hkk : kk < 7) (ek : π 2 p = nI kk) (x : Int32) : gCI l yX12_flies cX12_flies 5 .int (gRm 6 138) G [.ref b, .int (nI p), .int 6, .int x] (fun H => gSg G b (gLM G b π μ f g) H) (fun r H => r = (gCoo p (π 3 p) kk x).1 - π 3 p + (2 + nI p) ∧ gSg G b (gLM G b π (gTrs μ ([70, 11] ++ (gCoo p (π 3 p) kk x).2 ++ [10])) f g) H) (fun q => b ≤ q ∧ q < b + 30) := by
  refine g_start (by decide) (Nat.le_of_ble_eq_true rfl) ?_
  intro pp_ ee_ s mm_ aa_ below meth cc_ ls Q hQ hX hE hP hl
  obtain ⟨hx, hb, hr, hml, hown, hT, hlk, hnm⟩ := hX
  have hK := hE.2.1
  have h1 := hP
  have hS : va_S (fun q => b ≤ q ∧ q < b + 30) s.heap s.heap [] := va_S.rf
  have hl : lv_has ls 5 [(0, .ref b), (1, .int (nI p)), (2, .int 6), (3, .int x)] := hl
  have hn0 := gCoo_l p (π 3 p) kk x
  refine lv_iload_n hx hb dX12_flies_0 rfl (lv_at hl 2 rfl) ?_
  refine lv_tableIn (off := 76) (tgt := 77) hx hb dX12_flies_1 (by decide) (by decide) (by decide) (by decide) ?_
  refine lv_aload_n hx hb dX12_flies_77 rfl (lv_at hl 0 rfl) ?_
  refine lv_bipush (v := 70) hx hb dX12_flies_78 (by decide) ?_
  refine g_kv (g_runV (T := TX12) (ci := 12) (N := 45) (rest := []) hx hb hml hown hE hT (c_X12_ran l G b π μ f g t ht (by omega) 70) gM_X12_ran gm_X12_306 gi_X12_ran gs_RX12_yX12_ran_yX12_ran rfl (h1 0 _ rfl) h1 rfl hl.1 ⟨rfl, rfl⟩ ⟨Nat.le_of_ble_eq_true rfl, Nat.le_of_ble_eq_true rfl⟩ ⟨Nat.zero_le _, Nat.zero_le _⟩ rfl (Nat.le_of_ble_eq_true rfl) dX12_flies_80) hS (by intro q hq; omega) (fun H1 locs q2 k3 hS => ?_)
  have h1 := q2
  refine lv_aload_n hx hb dX12_flies_83 rfl (lv_at hl 0 rfl) ?_
  refine lv_iload_n hx hb dX12_flies_84 rfl (lv_at hl 1 rfl) ?_
  refine lv_iconst (v := 3) hx hb dX12_flies_85 (by decide) ?_
  refine lv_iload_n hx hb dX12_flies_86 rfl (lv_at hl 3 rfl) ?_
  have hn87 := gCoo_l p (π 3 p) kk x
  refine g_ki (g_runV (T := TX12) (ci := 12) (N := 45) (rest := []) hx hb hml hown hE hT (c_X12_flies_3 l G b π (gTr1 μ 70) f g (t + 1) (gTr1_n ht) (by first | omega | (simp only [List.length_append, List.length_cons, List.length_nil]; omega)) p hp kk hkk ek x) gM_X12_flies gm_X12_316 gi_X12_flies gs_RX12_yX12_flies_yX12_flies rfl (h1 0 _ rfl) h1 rfl hl.1 ⟨rfl, rfl⟩ ⟨Nat.le_of_ble_eq_true rfl, Nat.le_of_ble_eq_true rfl⟩ ⟨Nat.zero_le _, Nat.zero_le _⟩ rfl (Nat.le_of_ble_eq_true rfl) dX12_flies_87) hS (by intro q hq; omega) (fun r8 H5 locs q6 k7 hS => ?_)
  obtain ⟨e9, h1⟩ := q6
  rw [e9]
  refine lv_istore (lv' := [(4, .int ((gCoo p (π 3 p) kk x).1 - π 3 p)), (0, .ref b), (1, .int (nI p)), (2, .int 6), (3, .int x)]) hx hb dX12_flies_90 hl (by decide) rfl (fun ls hl => ?_)
  refine lv_iload hx hb dX12_flies_92 (lv_at hl 0 rfl) ?_
  refine lv_aload_n hx hb dX12_flies_94 rfl (lv_at hl 1 rfl) ?_
  refine lv_iload_n hx hb dX12_flies_95 rfl (lv_at hl 2 rfl) ?_
  refine lv_iconst (v := 3) hx hb dX12_flies_96 (by decide) ?_
  refine lv_iconst (v := 2) hx hb dX12_flies_97 (by decide) ?_
  refine g_ki (g_runV (T := TX12) (ci := 12) (N := 45) (rest := [.int ((gCoo p (π 3 p) kk x).1 - π 3 p)]) hx hb hml hown hE hT (c_X12_coos_3 l G b π (gTrs (gTr1 μ 70) ([11] ++ (gCoo p (π 3 p) kk x).2)) f g (t + 1 + ([11] ++ (gCoo p (π 3 p) kk x).2).length) (gTrs_n (t := 0) _ (gTr1_n ht)) (by first | omega | (simp only [List.length_append, List.length_cons, List.length_nil]; omega)) p hp  2) gM_X12_coos gm_X12_310 gi_X12_coos gs_RX12_yX12_coos_yX12_coos rfl (h1 0 _ rfl) h1 rfl hl.1 ⟨rfl, rfl⟩ ⟨Nat.le_of_ble_eq_true rfl, Nat.le_of_ble_eq_true rfl⟩ ⟨Nat.zero_le _, Nat.zero_le _⟩ rfl (Nat.le_of_ble_eq_true rfl) dX12_flies_98) hS (by intro q hq; omega) (fun r12 H9 locs q10 k11 hS => ?_)
  obtain ⟨e9, h1⟩ := q10
  rw [e9]
  refine lv_iadd hx hb dX12_flies_101 ?_
  rw [← hQ]
  exact g_iret hx hb hr hlk hS dX12_flies_102 ⟨rfl, by rw [show gTrs μ ([70, 11] ++ (gCoo p (π 3 p) kk x).2 ++ [10]) = gTrs (gTrs (gTr1 μ 70) ([11] ++ (gCoo p (π 3 p) kk x).2)) ([10]) from by simp only [gTrs, List.foldl_append, List.foldl_cons, List.foldl_nil]]; exact h1⟩

set_option maxHeartbeats 4000000 in
set_option maxRecDepth 100000 in
theorem c_X12_flies_0a (l : Launch) (G : gW) (b : Nat) (π μ f : gPS) (g : Nat → Int64) (t : Nat) (ht : μ 4 1 = nI t) (htl : t ≤ 2000) (p : Nat) (hp : p < 6) (kk : Nat) (hkk : kk < 7) (ek : π 2 p = nI kk) (x : Int32) : gCI l yX12_flies cX12_flies 5 .int (gRm 6 138) G [.ref b, .int (nI p), .int 0, .int x] (fun H => gSg G b (gLM G b π μ f g) H) (fun r H => r = (gCoo p (π 3 p) kk x).1 - π 3 p ∧ gSg G b (gLM G b π (gTrs μ ([11] ++ (gCoo p (π 3 p) kk x).2)) f g) H) (fun q => b ≤ q ∧ q < b + 30) := by
  refine g_start (by decide) (Nat.le_of_ble_eq_true rfl) ?_
  intro pp_ ee_ s mm_ aa_ below meth cc_ ls Q hQ hX hE hP hl
  obtain ⟨hx, hb, hr, hml, hown, hT, hlk, hnm⟩ := hX
  have hK := hE.2.1
  have h1 := hP
  have hS : va_S (fun q => b ≤ q ∧ q < b + 30) s.heap s.heap [] := va_S.rf
  have hl : lv_has ls 5 [(0, .ref b), (1, .int (nI p)), (2, .int 0), (3, .int x)] := hl
  have hn0 := gCoo_l p (π 3 p) kk x
  refine lv_iload_n hx hb dX12_flies_0 rfl (lv_at hl 2 rfl) ?_
  refine lv_tableIn (off := 102) (tgt := 103) hx hb dX12_flies_1 (by decide) (by decide) (by decide) (by decide) ?_
  refine lv_aload_n hx hb dX12_flies_103 rfl (lv_at hl 0 rfl) ?_
  refine lv_bipush (v := 11) hx hb dX12_flies_104 (by decide) ?_
  refine g_kv (g_runV (T := TX12) (ci := 12) (N := 45) (rest := []) hx hb hml hown hE hT (c_X12_ran l G b π μ f g t ht (by omega) 11) gM_X12_ran gm_X12_306 gi_X12_ran gs_RX12_yX12_ran_yX12_ran rfl (h1 0 _ rfl) h1 rfl hl.1 ⟨rfl, rfl⟩ ⟨Nat.le_of_ble_eq_true rfl, Nat.le_of_ble_eq_true rfl⟩ ⟨Nat.zero_le _, Nat.zero_le _⟩ rfl (Nat.le_of_ble_eq_true rfl) dX12_flies_106) hS (by intro q hq; omega) (fun H1 locs q2 k3 hS => ?_)
  have h1 := q2
  refine lv_aload_n hx hb dX12_flies_109 rfl (lv_at hl 0 rfl) ?_
  refine lv_iload_n hx hb dX12_flies_110 rfl (lv_at hl 1 rfl) ?_
  refine lv_aload_n hx hb dX12_flies_111 rfl (lv_at hl 0 rfl) ?_
  refine g_get (v := .ref (b + 3)) (T := TX12) (ci := 12) (N := 45) hx hb hown hK (gY_X12 hT) rfl (h1 0 _ rfl) 4 (by decide) (hT _ gf_X12_18) rfl dX12_flies_112 ?_
  refine lv_iload_n hx hb dX12_flies_115 rfl (lv_at hl 1 rfl) ?_
  refine g_ia (j := p) (v := π 2 p) hx hb hK (h1 3 _ rfl) rfl (by omega) (Nat.le_of_ble_eq_true rfl) rfl dX12_flies_116 ?_
  refine lv_iload_n hx hb dX12_flies_117 rfl (lv_at hl 3 rfl) ?_
  rw [ek]
  have hn118 := gCoo_l p (π 3 p) kk x
  refine g_ki (g_runV (T := TX12) (ci := 12) (N := 45) (rest := []) hx hb hml hown hE hT (c_X12_coos_all l G b π (gTr1 μ 11) f g (t + 1) (gTr1_n ht) (by omega) p hp kk hkk x) gM_X12_coos gm_X12_310 gi_X12_coos gs_RX12_yX12_coos_yX12_coos rfl (h1 0 _ rfl) h1 rfl hl.1 ⟨rfl, rfl⟩ ⟨Nat.le_of_ble_eq_true rfl, Nat.le_of_ble_eq_true rfl⟩ ⟨Nat.zero_le _, Nat.zero_le _⟩ rfl (Nat.le_of_ble_eq_true rfl) dX12_flies_118) hS (by intro q hq; omega) (fun r8 H5 locs q6 k7 hS => ?_)
  obtain ⟨e9, h1⟩ := q6
  rw [e9]
  refine lv_aload_n hx hb dX12_flies_121 rfl (lv_at hl 0 rfl) ?_
  refine g_get (v := .ref (b + 4)) (T := TX12) (ci := 12) (N := 45) hx hb hown hK (gY_X12 hT) rfl (h1 0 _ rfl) 5 (by decide) (hT _ gf_X12_21) rfl dX12_flies_122 ?_
  refine lv_iload_n hx hb dX12_flies_125 rfl (lv_at hl 1 rfl) ?_
  refine g_ia (j := p) (v := π 3 p) hx hb hK (h1 4 _ rfl) rfl (by omega) (Nat.le_of_ble_eq_true rfl) rfl dX12_flies_126 ?_
  refine lv_isub hx hb dX12_flies_127 ?_
  rw [← hQ]
  exact g_iret hx hb hr hlk hS dX12_flies_128 ⟨rfl, by rw [show gTrs μ ([11] ++ (gCoo p (π 3 p) kk x).2) = gTrs (gTr1 μ 11) (gCoo p (π 3 p) kk x).2 from by simp only [gTrs, List.foldl_append, List.foldl_cons, List.foldl_nil]]; exact h1⟩

set_option maxHeartbeats 4000000 in
set_option maxRecDepth 100000 in
theorem c_X12_flies_1a (l : Launch) (G : gW) (b : Nat) (π μ f : gPS) (g : Nat → Int64) (t : Nat) (ht : μ 4 1 = nI t) (htl : t ≤ 2000) (p : Nat) (hp : p < 6) (kk : Nat) (hkk : kk < 7) (ek : π 2 p = nI kk) (x : Int32) : gCI l yX12_flies cX12_flies 5 .int (gRm 6 138) G [.ref b, .int (nI p), .int 1, .int x] (fun H => gSg G b (gLM G b π μ f g) H) (fun r H => r = ((gCoo p (π 3 p) kk x).1 - π 3 p) ^^^ 6 ∧ gSg G b (gLM G b π (gTrs μ ([20, 11] ++ (gCoo p (π 3 p) kk x).2)) f g) H) (fun q => b ≤ q ∧ q < b + 30) := by
  refine g_start (by decide) (Nat.le_of_ble_eq_true rfl) ?_
  intro pp_ ee_ s mm_ aa_ below meth cc_ ls Q hQ hX hE hP hl
  obtain ⟨hx, hb, hr, hml, hown, hT, hlk, hnm⟩ := hX
  have hK := hE.2.1
  have h1 := hP
  have hS : va_S (fun q => b ≤ q ∧ q < b + 30) s.heap s.heap [] := va_S.rf
  have hl : lv_has ls 5 [(0, .ref b), (1, .int (nI p)), (2, .int 1), (3, .int x)] := hl
  have hn0 := gCoo_l p (π 3 p) kk x
  refine lv_iload_n hx hb dX12_flies_0 rfl (lv_at hl 2 rfl) ?_
  refine lv_tableIn (off := 43) (tgt := 44) hx hb dX12_flies_1 (by decide) (by decide) (by decide) (by decide) ?_
  refine lv_aload_n hx hb dX12_flies_44 rfl (lv_at hl 0 rfl) ?_
  refine lv_bipush (v := 20) hx hb dX12_flies_45 (by decide) ?_
  refine g_kv (g_runV (T := TX12) (ci := 12) (N := 45) (rest := []) hx hb hml hown hE hT (c_X12_ran l G b π μ f g t ht (by omega) 20) gM_X12_ran gm_X12_306 gi_X12_ran gs_RX12_yX12_ran_yX12_ran rfl (h1 0 _ rfl) h1 rfl hl.1 ⟨rfl, rfl⟩ ⟨Nat.le_of_ble_eq_true rfl, Nat.le_of_ble_eq_true rfl⟩ ⟨Nat.zero_le _, Nat.zero_le _⟩ rfl (Nat.le_of_ble_eq_true rfl) dX12_flies_47) hS (by intro q hq; omega) (fun H1 locs q2 k3 hS => ?_)
  have h1 := q2
  refine lv_aload_n hx hb dX12_flies_50 rfl (lv_at hl 0 rfl) ?_
  refine lv_iload_n hx hb dX12_flies_51 rfl (lv_at hl 1 rfl) ?_
  refine lv_iconst (v := 0) hx hb dX12_flies_52 (by decide) ?_
  refine lv_iload_n hx hb dX12_flies_53 rfl (lv_at hl 3 rfl) ?_
  have hn54 := gCoo_l p (π 3 p) kk x
  refine g_ki (g_runV (T := TX12) (ci := 12) (N := 45) (rest := []) hx hb hml hown hE hT (c_X12_flies_0 l G b π (gTr1 μ 20) f g (t + 1) (gTr1_n ht) (by first | omega | (simp only [List.length_append, List.length_cons, List.length_nil]; omega)) p hp kk hkk ek x) gM_X12_flies gm_X12_316 gi_X12_flies gs_RX12_yX12_flies_yX12_flies rfl (h1 0 _ rfl) h1 rfl hl.1 ⟨rfl, rfl⟩ ⟨Nat.le_of_ble_eq_true rfl, Nat.le_of_ble_eq_true rfl⟩ ⟨Nat.zero_le _, Nat.zero_le _⟩ rfl (Nat.le_of_ble_eq_true rfl) dX12_flies_54) hS (by intro q hq; omega) (fun r8 H5 locs q6 k7 hS => ?_)
  obtain ⟨e9, h1⟩ := q6
  rw [e9]
  refine lv_bipush (v := 6) hx hb dX12_flies_57 (by decide) ?_
  refine lv_ixor hx hb dX12_flies_59 ?_
  rw [← hQ]
  exact g_iret hx hb hr hlk hS dX12_flies_60 ⟨rfl, by rw [show gTrs μ ([20, 11] ++ (gCoo p (π 3 p) kk x).2) = gTrs (gTr1 μ 20) ([11] ++ (gCoo p (π 3 p) kk x).2) from by simp only [gTrs, List.foldl_append, List.foldl_cons, List.foldl_nil]]; exact h1⟩

set_option maxHeartbeats 4000000 in
set_option maxRecDepth 100000 in
theorem c_X12_flies_2a (l : Launch) (G : gW) (b : Nat) (π μ f : gPS) (g : Nat → Int64) (t : Nat) (ht : μ 4 1 = nI t) (htl : t ≤ 2000) (p : Nat) (hp : p < 6) (kk : Nat) (hkk : kk < 7) (ek : π 2 p = nI kk) (x : Int32) : gCI l yX12_flies cX12_flies 5 .int (gRm 6 138) G [.ref b, .int (nI p), .int 2, .int x] (fun H => gSg G b (gLM G b π μ f g) H) (fun r H => r = (gCoo p (π 3 p) kk x).1 - π 3 p ∧ gSg G b (gLM G b π (gTrs μ ([11] ++ (gCoo p (π 3 p) kk x).2)) f g) H) (fun q => b ≤ q ∧ q < b + 30) := by
  refine g_start (by decide) (Nat.le_of_ble_eq_true rfl) ?_
  intro pp_ ee_ s mm_ aa_ below meth cc_ ls Q hQ hX hE hP hl
  obtain ⟨hx, hb, hr, hml, hown, hT, hlk, hnm⟩ := hX
  have hK := hE.2.1
  have h1 := hP
  have hS : va_S (fun q => b ≤ q ∧ q < b + 30) s.heap s.heap [] := va_S.rf
  have hl : lv_has ls 5 [(0, .ref b), (1, .int (nI p)), (2, .int 2), (3, .int x)] := hl
  have hn0 := gCoo_l p (π 3 p) kk x
  refine lv_iload_n hx hb dX12_flies_0 rfl (lv_at hl 2 rfl) ?_
  refine lv_tableIn (off := 128) (tgt := 129) hx hb dX12_flies_1 (by decide) (by decide) (by decide) (by decide) ?_
  refine lv_aload_n hx hb dX12_flies_129 rfl (lv_at hl 0 rfl) ?_
  refine lv_iload_n hx hb dX12_flies_130 rfl (lv_at hl 1 rfl) ?_
  refine lv_iload_n hx hb dX12_flies_131 rfl (lv_at hl 2 rfl) ?_
  refine g_ki (g_runS (rest := [.int (nI p), .ref b]) hx hb hml hown hE hT (c_X12_above l G 2) gM_X12_above gm_X12_313 gt_X12_above trivial rfl hl.1 ⟨rfl, rfl⟩ ⟨Nat.le_of_ble_eq_true rfl, Nat.le_of_ble_eq_true rfl⟩ ⟨Nat.zero_le _, Nat.zero_le _⟩ rfl (Nat.le_of_ble_eq_true rfl) dX12_flies_132) hS (fun _ h => h.elim) (fun r4 H1 locs q2 k3 hS => ?_)
  subst q2
  have h1 := gSg_free h1 k3 (by intro k hk q; simp only [List.length_cons, List.length_nil] at hk; omega)
  rw [show gAbove 2 = 0 from by decide]
  refine lv_iload_n hx hb dX12_flies_135 rfl (lv_at hl 3 rfl) ?_
  have hn136 := gCoo_l p (π 3 p) kk x
  refine g_ki (g_runV (T := TX12) (ci := 12) (N := 45) (rest := []) hx hb hml hown hE hT (c_X12_flies_0 l G b π μ f g t ht (by first | omega | (simp only [List.length_append, List.length_cons, List.length_nil]; omega)) p hp kk hkk ek x) gM_X12_flies gm_X12_316 gi_X12_flies gs_RX12_yX12_flies_yX12_flies rfl (h1 0 _ rfl) h1 rfl hl.1 ⟨rfl, rfl⟩ ⟨Nat.le_of_ble_eq_true rfl, Nat.le_of_ble_eq_true rfl⟩ ⟨Nat.zero_le _, Nat.zero_le _⟩ rfl (Nat.le_of_ble_eq_true rfl) dX12_flies_136) hS (by intro q hq; omega) (fun r8 H5 locs q6 k7 hS => ?_)
  obtain ⟨e9, h1⟩ := q6
  rw [e9]
  rw [← hQ]
  exact g_iret hx hb hr hlk hS dX12_flies_139 ⟨rfl, by rw [show gTrs μ ([11] ++ (gCoo p (π 3 p) kk x).2) = gTrs μ ([11] ++ (gCoo p (π 3 p) kk x).2) from by simp only [gTrs, List.foldl_append, List.foldl_cons, List.foldl_nil]]; exact h1⟩

set_option maxHeartbeats 4000000 in
set_option maxRecDepth 100000 in
theorem c_X12_flies_3a (l : Launch) (G : gW) (b : Nat) (π μ f : gPS) (g : Nat → Int64) (t : Nat) (ht : μ 4 1 = nI t) (htl : t ≤ 2000) (p : Nat) (hp : p < 6) (kk : Nat) (hkk : kk < 7) (ek : π 2 p = nI kk) (x : Int32) : gCI l yX12_flies cX12_flies 5 .int (gRm 6 138) G [.ref b, .int (nI p), .int 3, .int x] (fun H => gSg G b (gLM G b π μ f g) H) (fun r H => r = (gCoo p (π 3 p) kk x).1 - π 3 p ∧ gSg G b (gLM G b π (gTrs μ ([11] ++ (gCoo p (π 3 p) kk x).2)) f g) H) (fun q => b ≤ q ∧ q < b + 30) := by
  refine g_start (by decide) (Nat.le_of_ble_eq_true rfl) ?_
  intro pp_ ee_ s mm_ aa_ below meth cc_ ls Q hQ hX hE hP hl
  obtain ⟨hx, hb, hr, hml, hown, hT, hlk, hnm⟩ := hX
  have hK := hE.2.1
  have h1 := hP
  have hS : va_S (fun q => b ≤ q ∧ q < b + 30) s.heap s.heap [] := va_S.rf
  have hl : lv_has ls 5 [(0, .ref b), (1, .int (nI p)), (2, .int 3), (3, .int x)] := hl
  have hn0 := gCoo_l p (π 3 p) kk x
  refine lv_iload_n hx hb dX12_flies_0 rfl (lv_at hl 2 rfl) ?_
  refine lv_tableIn (off := 128) (tgt := 129) hx hb dX12_flies_1 (by decide) (by decide) (by decide) (by decide) ?_
  refine lv_aload_n hx hb dX12_flies_129 rfl (lv_at hl 0 rfl) ?_
  refine lv_iload_n hx hb dX12_flies_130 rfl (lv_at hl 1 rfl) ?_
  refine lv_iload_n hx hb dX12_flies_131 rfl (lv_at hl 2 rfl) ?_
  refine g_ki (g_runS (rest := [.int (nI p), .ref b]) hx hb hml hown hE hT (c_X12_above l G 3) gM_X12_above gm_X12_313 gt_X12_above trivial rfl hl.1 ⟨rfl, rfl⟩ ⟨Nat.le_of_ble_eq_true rfl, Nat.le_of_ble_eq_true rfl⟩ ⟨Nat.zero_le _, Nat.zero_le _⟩ rfl (Nat.le_of_ble_eq_true rfl) dX12_flies_132) hS (fun _ h => h.elim) (fun r4 H1 locs q2 k3 hS => ?_)
  subst q2
  have h1 := gSg_free h1 k3 (by intro k hk q; simp only [List.length_cons, List.length_nil] at hk; omega)
  rw [show gAbove 3 = 0 from by decide]
  refine lv_iload_n hx hb dX12_flies_135 rfl (lv_at hl 3 rfl) ?_
  have hn136 := gCoo_l p (π 3 p) kk x
  refine g_ki (g_runV (T := TX12) (ci := 12) (N := 45) (rest := []) hx hb hml hown hE hT (c_X12_flies_0 l G b π μ f g t ht (by first | omega | (simp only [List.length_append, List.length_cons, List.length_nil]; omega)) p hp kk hkk ek x) gM_X12_flies gm_X12_316 gi_X12_flies gs_RX12_yX12_flies_yX12_flies rfl (h1 0 _ rfl) h1 rfl hl.1 ⟨rfl, rfl⟩ ⟨Nat.le_of_ble_eq_true rfl, Nat.le_of_ble_eq_true rfl⟩ ⟨Nat.zero_le _, Nat.zero_le _⟩ rfl (Nat.le_of_ble_eq_true rfl) dX12_flies_136) hS (by intro q hq; omega) (fun r8 H5 locs q6 k7 hS => ?_)
  obtain ⟨e9, h1⟩ := q6
  rw [e9]
  rw [← hQ]
  exact g_iret hx hb hr hlk hS dX12_flies_139 ⟨rfl, by rw [show gTrs μ ([11] ++ (gCoo p (π 3 p) kk x).2) = gTrs μ ([11] ++ (gCoo p (π 3 p) kk x).2) from by simp only [gTrs, List.foldl_append, List.foldl_cons, List.foldl_nil]]; exact h1⟩

set_option maxHeartbeats 4000000 in
set_option maxRecDepth 100000 in
theorem c_X12_flies_4a (l : Launch) (G : gW) (b : Nat) (π μ f : gPS) (g : Nat → Int64) (t : Nat) (ht : μ 4 1 = nI t) (htl : t ≤ 2000) (p : Nat) (hp : p < 6) (kk : Nat) (hkk : kk < 7) (ek : π 2 p = nI kk) (x : Int32) : gCI l yX12_flies cX12_flies 5 .int (gRm 6 138) G [.ref b, .int (nI p), .int 4, .int x] (fun H => gSg G b (gLM G b π μ f g) H) (fun r H => r = ((gCoo p (π 3 p) kk (x + 1)).1 - π 3 p) ^^^ 6 ∧ gSg G b (gLM G b π (gTrs μ ([51, 20, 11] ++ (gCoo p (π 3 p) kk (x + 1)).2)) f g) H) (fun q => b ≤ q ∧ q < b + 30) := by
  refine g_start (by decide) (Nat.le_of_ble_eq_true rfl) ?_
  intro pp_ ee_ s mm_ aa_ below meth cc_ ls Q hQ hX hE hP hl
  obtain ⟨hx, hb, hr, hml, hown, hT, hlk, hnm⟩ := hX
  have hK := hE.2.1
  have h1 := hP
  have hS : va_S (fun q => b ≤ q ∧ q < b + 30) s.heap s.heap [] := va_S.rf
  have hl : lv_has ls 5 [(0, .ref b), (1, .int (nI p)), (2, .int 4), (3, .int x)] := hl
  have hn0 := gCoo_l p (π 3 p) kk x
  refine lv_iload_n hx hb dX12_flies_0 rfl (lv_at hl 2 rfl) ?_
  refine lv_tableIn (off := 60) (tgt := 61) hx hb dX12_flies_1 (by decide) (by decide) (by decide) (by decide) ?_
  refine lv_aload_n hx hb dX12_flies_61 rfl (lv_at hl 0 rfl) ?_
  refine lv_bipush (v := 51) hx hb dX12_flies_62 (by decide) ?_
  refine g_kv (g_runV (T := TX12) (ci := 12) (N := 45) (rest := []) hx hb hml hown hE hT (c_X12_ran l G b π μ f g t ht (by omega) 51) gM_X12_ran gm_X12_306 gi_X12_ran gs_RX12_yX12_ran_yX12_ran rfl (h1 0 _ rfl) h1 rfl hl.1 ⟨rfl, rfl⟩ ⟨Nat.le_of_ble_eq_true rfl, Nat.le_of_ble_eq_true rfl⟩ ⟨Nat.zero_le _, Nat.zero_le _⟩ rfl (Nat.le_of_ble_eq_true rfl) dX12_flies_64) hS (by intro q hq; omega) (fun H1 locs q2 k3 hS => ?_)
  have h1 := q2
  refine lv_aload_n hx hb dX12_flies_67 rfl (lv_at hl 0 rfl) ?_
  refine lv_iload_n hx hb dX12_flies_68 rfl (lv_at hl 1 rfl) ?_
  refine lv_iconst (v := 1) hx hb dX12_flies_69 (by decide) ?_
  refine lv_iload_n hx hb dX12_flies_70 rfl (lv_at hl 3 rfl) ?_
  refine lv_iconst (v := 1) hx hb dX12_flies_71 (by decide) ?_
  refine lv_iadd hx hb dX12_flies_72 ?_
  have hn73 := gCoo_l p (π 3 p) kk (x + 1)
  refine g_ki (g_runV (T := TX12) (ci := 12) (N := 45) (rest := []) hx hb hml hown hE hT (c_X12_flies_1 l G b π (gTr1 μ 51) f g (t + 1) (gTr1_n ht) (by first | omega | (simp only [List.length_append, List.length_cons, List.length_nil]; omega)) p hp kk hkk ek (x + 1)) gM_X12_flies gm_X12_316 gi_X12_flies gs_RX12_yX12_flies_yX12_flies rfl (h1 0 _ rfl) h1 rfl hl.1 ⟨rfl, rfl⟩ ⟨Nat.le_of_ble_eq_true rfl, Nat.le_of_ble_eq_true rfl⟩ ⟨Nat.zero_le _, Nat.zero_le _⟩ rfl (Nat.le_of_ble_eq_true rfl) dX12_flies_73) hS (by intro q hq; omega) (fun r8 H5 locs q6 k7 hS => ?_)
  obtain ⟨e9, h1⟩ := q6
  rw [e9]
  rw [← hQ]
  exact g_iret hx hb hr hlk hS dX12_flies_76 ⟨rfl, by rw [show gTrs μ ([51, 20, 11] ++ (gCoo p (π 3 p) kk (x + 1)).2) = gTrs (gTr1 μ 51) ([20, 11] ++ (gCoo p (π 3 p) kk (x + 1)).2) from by simp only [gTrs, List.foldl_append, List.foldl_cons, List.foldl_nil]]; exact h1⟩

set_option maxHeartbeats 4000000 in
set_option maxRecDepth 100000 in
theorem c_X12_flies_5a (l : Launch) (G : gW) (b : Nat) (π μ f : gPS) (g : Nat → Int64) (t : Nat) (ht : μ 4 1 = nI t) (htl : t ≤ 2000) (p : Nat) (hp : p < 6) (kk : Nat) (hkk : kk < 7) (ek : π 2 p = nI kk) (x : Int32) : gCI l yX12_flies cX12_flies 5 .int (gRm 6 138) G [.ref b, .int (nI p), .int 5, .int x] (fun H => gSg G b (gLM G b π μ f g) H) (fun r H => r = (gCoo p (π 3 p) kk x).1 - π 3 p ∧ gSg G b (gLM G b π (gTrs μ ([11] ++ (gCoo p (π 3 p) kk x).2)) f g) H) (fun q => b ≤ q ∧ q < b + 30) := by
  refine g_start (by decide) (Nat.le_of_ble_eq_true rfl) ?_
  intro pp_ ee_ s mm_ aa_ below meth cc_ ls Q hQ hX hE hP hl
  obtain ⟨hx, hb, hr, hml, hown, hT, hlk, hnm⟩ := hX
  have hK := hE.2.1
  have h1 := hP
  have hS : va_S (fun q => b ≤ q ∧ q < b + 30) s.heap s.heap [] := va_S.rf
  have hl : lv_has ls 5 [(0, .ref b), (1, .int (nI p)), (2, .int 5), (3, .int x)] := hl
  have hn0 := gCoo_l p (π 3 p) kk x
  refine lv_iload_n hx hb dX12_flies_0 rfl (lv_at hl 2 rfl) ?_
  refine lv_tableIn (off := 128) (tgt := 129) hx hb dX12_flies_1 (by decide) (by decide) (by decide) (by decide) ?_
  refine lv_aload_n hx hb dX12_flies_129 rfl (lv_at hl 0 rfl) ?_
  refine lv_iload_n hx hb dX12_flies_130 rfl (lv_at hl 1 rfl) ?_
  refine lv_iload_n hx hb dX12_flies_131 rfl (lv_at hl 2 rfl) ?_
  refine g_ki (g_runS (rest := [.int (nI p), .ref b]) hx hb hml hown hE hT (c_X12_above l G 5) gM_X12_above gm_X12_313 gt_X12_above trivial rfl hl.1 ⟨rfl, rfl⟩ ⟨Nat.le_of_ble_eq_true rfl, Nat.le_of_ble_eq_true rfl⟩ ⟨Nat.zero_le _, Nat.zero_le _⟩ rfl (Nat.le_of_ble_eq_true rfl) dX12_flies_132) hS (fun _ h => h.elim) (fun r4 H1 locs q2 k3 hS => ?_)
  subst q2
  have h1 := gSg_free h1 k3 (by intro k hk q; simp only [List.length_cons, List.length_nil] at hk; omega)
  rw [show gAbove 5 = 2 from by decide]
  refine lv_iload_n hx hb dX12_flies_135 rfl (lv_at hl 3 rfl) ?_
  have hn136 := gCoo_l p (π 3 p) kk x
  refine g_ki (g_runV (T := TX12) (ci := 12) (N := 45) (rest := []) hx hb hml hown hE hT (c_X12_flies_2 l G b π μ f g t ht (by first | omega | (simp only [List.length_append, List.length_cons, List.length_nil]; omega)) p hp kk hkk ek x) gM_X12_flies gm_X12_316 gi_X12_flies gs_RX12_yX12_flies_yX12_flies rfl (h1 0 _ rfl) h1 rfl hl.1 ⟨rfl, rfl⟩ ⟨Nat.le_of_ble_eq_true rfl, Nat.le_of_ble_eq_true rfl⟩ ⟨Nat.zero_le _, Nat.zero_le _⟩ rfl (Nat.le_of_ble_eq_true rfl) dX12_flies_136) hS (by intro q hq; omega) (fun r8 H5 locs q6 k7 hS => ?_)
  obtain ⟨e9, h1⟩ := q6
  rw [e9]
  rw [← hQ]
  exact g_iret hx hb hr hlk hS dX12_flies_139 ⟨rfl, by rw [show gTrs μ ([11] ++ (gCoo p (π 3 p) kk x).2) = gTrs μ ([11] ++ (gCoo p (π 3 p) kk x).2) from by simp only [gTrs, List.foldl_append, List.foldl_cons, List.foldl_nil]]; exact h1⟩

set_option maxHeartbeats 4000000 in
set_option maxRecDepth 100000 in
theorem c_X12_flies_6a (l : Launch) (G : gW) (b : Nat) (π μ f : gPS) (g : Nat → Int64) (t : Nat) (ht : μ 4 1 = nI t) (htl : t ≤ 2000) (p : Nat) (hp : p < 6) (kk : Nat) (hkk : kk < 7) (ek : π 2 p = nI kk) (x : Int32) : gCI l yX12_flies cX12_flies 5 .int (gRm 6 138) G [.ref b, .int (nI p), .int 6, .int x] (fun H => gSg G b (gLM G b π μ f g) H) (fun r H => r = (gCoo p (π 3 p) kk x).1 - π 3 p + (2 + nI p) ∧ gSg G b (gLM G b π (gTrs μ ([70, 11] ++ (gCoo p (π 3 p) kk x).2 ++ [10])) f g) H) (fun q => b ≤ q ∧ q < b + 30) := by
  refine g_start (by decide) (Nat.le_of_ble_eq_true rfl) ?_
  intro pp_ ee_ s mm_ aa_ below meth cc_ ls Q hQ hX hE hP hl
  obtain ⟨hx, hb, hr, hml, hown, hT, hlk, hnm⟩ := hX
  have hK := hE.2.1
  have h1 := hP
  have hS : va_S (fun q => b ≤ q ∧ q < b + 30) s.heap s.heap [] := va_S.rf
  have hl : lv_has ls 5 [(0, .ref b), (1, .int (nI p)), (2, .int 6), (3, .int x)] := hl
  have hn0 := gCoo_l p (π 3 p) kk x
  refine lv_iload_n hx hb dX12_flies_0 rfl (lv_at hl 2 rfl) ?_
  refine lv_tableIn (off := 76) (tgt := 77) hx hb dX12_flies_1 (by decide) (by decide) (by decide) (by decide) ?_
  refine lv_aload_n hx hb dX12_flies_77 rfl (lv_at hl 0 rfl) ?_
  refine lv_bipush (v := 70) hx hb dX12_flies_78 (by decide) ?_
  refine g_kv (g_runV (T := TX12) (ci := 12) (N := 45) (rest := []) hx hb hml hown hE hT (c_X12_ran l G b π μ f g t ht (by omega) 70) gM_X12_ran gm_X12_306 gi_X12_ran gs_RX12_yX12_ran_yX12_ran rfl (h1 0 _ rfl) h1 rfl hl.1 ⟨rfl, rfl⟩ ⟨Nat.le_of_ble_eq_true rfl, Nat.le_of_ble_eq_true rfl⟩ ⟨Nat.zero_le _, Nat.zero_le _⟩ rfl (Nat.le_of_ble_eq_true rfl) dX12_flies_80) hS (by intro q hq; omega) (fun H1 locs q2 k3 hS => ?_)
  have h1 := q2
  refine lv_aload_n hx hb dX12_flies_83 rfl (lv_at hl 0 rfl) ?_
  refine lv_iload_n hx hb dX12_flies_84 rfl (lv_at hl 1 rfl) ?_
  refine lv_iconst (v := 3) hx hb dX12_flies_85 (by decide) ?_
  refine lv_iload_n hx hb dX12_flies_86 rfl (lv_at hl 3 rfl) ?_
  have hn87 := gCoo_l p (π 3 p) kk x
  refine g_ki (g_runV (T := TX12) (ci := 12) (N := 45) (rest := []) hx hb hml hown hE hT (c_X12_flies_3 l G b π (gTr1 μ 70) f g (t + 1) (gTr1_n ht) (by first | omega | (simp only [List.length_append, List.length_cons, List.length_nil]; omega)) p hp kk hkk ek x) gM_X12_flies gm_X12_316 gi_X12_flies gs_RX12_yX12_flies_yX12_flies rfl (h1 0 _ rfl) h1 rfl hl.1 ⟨rfl, rfl⟩ ⟨Nat.le_of_ble_eq_true rfl, Nat.le_of_ble_eq_true rfl⟩ ⟨Nat.zero_le _, Nat.zero_le _⟩ rfl (Nat.le_of_ble_eq_true rfl) dX12_flies_87) hS (by intro q hq; omega) (fun r8 H5 locs q6 k7 hS => ?_)
  obtain ⟨e9, h1⟩ := q6
  rw [e9]
  refine lv_istore (lv' := [(4, .int ((gCoo p (π 3 p) kk x).1 - π 3 p)), (0, .ref b), (1, .int (nI p)), (2, .int 6), (3, .int x)]) hx hb dX12_flies_90 hl (by decide) rfl (fun ls hl => ?_)
  refine lv_iload hx hb dX12_flies_92 (lv_at hl 0 rfl) ?_
  refine lv_aload_n hx hb dX12_flies_94 rfl (lv_at hl 1 rfl) ?_
  refine lv_iload_n hx hb dX12_flies_95 rfl (lv_at hl 2 rfl) ?_
  refine lv_iconst (v := 3) hx hb dX12_flies_96 (by decide) ?_
  refine lv_iconst (v := 2) hx hb dX12_flies_97 (by decide) ?_
  refine g_ki (g_runV (T := TX12) (ci := 12) (N := 45) (rest := [.int ((gCoo p (π 3 p) kk x).1 - π 3 p)]) hx hb hml hown hE hT (c_X12_coos_3 l G b π (gTrs (gTr1 μ 70) ([11] ++ (gCoo p (π 3 p) kk x).2)) f g (t + 1 + ([11] ++ (gCoo p (π 3 p) kk x).2).length) (gTrs_n (t := 0) _ (gTr1_n ht)) (by first | omega | (simp only [List.length_append, List.length_cons, List.length_nil]; omega)) p hp  2) gM_X12_coos gm_X12_310 gi_X12_coos gs_RX12_yX12_coos_yX12_coos rfl (h1 0 _ rfl) h1 rfl hl.1 ⟨rfl, rfl⟩ ⟨Nat.le_of_ble_eq_true rfl, Nat.le_of_ble_eq_true rfl⟩ ⟨Nat.zero_le _, Nat.zero_le _⟩ rfl (Nat.le_of_ble_eq_true rfl) dX12_flies_98) hS (by intro q hq; omega) (fun r12 H9 locs q10 k11 hS => ?_)
  obtain ⟨e9, h1⟩ := q10
  rw [e9]
  refine lv_iadd hx hb dX12_flies_101 ?_
  rw [← hQ]
  exact g_iret hx hb hr hlk hS dX12_flies_102 ⟨rfl, by rw [show gTrs μ ([70, 11] ++ (gCoo p (π 3 p) kk x).2 ++ [10]) = gTrs (gTrs (gTr1 μ 70) ([11] ++ (gCoo p (π 3 p) kk x).2)) ([10]) from by simp only [gTrs, List.foldl_append, List.foldl_cons, List.foldl_nil]]; exact h1⟩

theorem c_X12_flies_all (l : Launch) (G : gW) (b : Nat) (π μ f : gPS) (g : Nat → Int64) (t : Nat) (ht : μ 4 1 = nI t) (htl : t ≤ 2000) (p : Nat) (hp : p < 6) (kk : Nat) (hkk : kk < 7) (ek : π 2 p = nI kk) (k : Nat) (hk7 : k < 7) (x : Int32) : gCI l yX12_flies cX12_flies 5 .int (gRm 6 138) G [.ref b, .int (nI p), .int (nI k), .int x] (fun H => gSg G b (gLM G b π μ f g) H) (fun r H => r = (gFli p (π 3 p) kk k x).1 ∧ gSg G b (gLM G b π (gTrs μ (gFli p (π 3 p) kk k x).2) f g) H) (fun q => b ≤ q ∧ q < b + 30) := by
  have h7 : k = 0 ∨ k = 1 ∨ k = 2 ∨ k = 3 ∨ k = 4 ∨ k = 5 ∨ k = 6 := by omega
  rcases h7 with rfl | rfl | rfl | rfl | rfl | rfl | rfl
  · exact c_X12_flies_0a l G b π μ f g t ht htl p hp kk hkk ek x
  · exact c_X12_flies_1a l G b π μ f g t ht htl p hp kk hkk ek x
  · exact c_X12_flies_2a l G b π μ f g t ht htl p hp kk hkk ek x
  · exact c_X12_flies_3a l G b π μ f g t ht htl p hp kk hkk ek x
  · exact c_X12_flies_4a l G b π μ f g t ht htl p hp kk hkk ek x
  · exact c_X12_flies_5a l G b π μ f g t ht htl p hp kk hkk ek x
  · exact c_X12_flies_6a l G b π μ f g t ht htl p hp kk hkk ek x

set_option maxHeartbeats 4000000 in
set_option maxRecDepth 100000 in
theorem c_X12_tells_0 (l : Launch) (G : gW) (b : Nat) (π μ f : gPS) (g : Nat → Int64) (t : Nat) (ht : μ 4 1 = nI t) (htl : t ≤ 1010) (p : Nat) (hp : p < 6) (kk : Nat) (hkk : kk < 7) (ek : π 2 p = nI kk) (x : Int32) : gCI l yX12_tells cX12_tells 5 .int (gRm 7 162) G [.ref b, .int (nI p), .int 0, .int x] (fun H => gSg G b (gLM G b π μ f g) H) (fun r H => r = (gFli p (π 3 p) kk kk x).1 * 2 ∧ gSg G b (gLM G b π (gTrs μ ([12] ++ (gFli p (π 3 p) kk kk x).2)) f g) H) (fun q => b ≤ q ∧ q < b + 30) := by
  refine g_start (by decide) (Nat.le_of_ble_eq_true rfl) ?_
  intro pp_ ee_ s mm_ aa_ below meth cc_ ls Q hQ hX hE hP hl
  obtain ⟨hx, hb, hr, hml, hown, hT, hlk, hnm⟩ := hX
  have hK := hE.2.1
  have h1 := hP
  have hS : va_S (fun q => b ≤ q ∧ q < b + 30) s.heap s.heap [] := va_S.rf
  have hl : lv_has ls 5 [(0, .ref b), (1, .int (nI p)), (2, .int 0), (3, .int x)] := hl
  refine lv_iload_n hx hb dX12_tells_0 rfl (lv_at hl 2 rfl) ?_
  refine lv_lookup (off := 82) (tgt := 83) hx hb dX12_tells_1 (by decide) (by decide) (by decide) ?_
  refine lv_aload_n hx hb dX12_tells_83 rfl (lv_at hl 0 rfl) ?_
  refine lv_bipush (v := 12) hx hb dX12_tells_84 (by decide) ?_
  refine g_kv (g_runV (T := TX12) (ci := 12) (N := 45) (rest := []) hx hb hml hown hE hT (c_X12_ran l G b π μ f g t ht (by omega) 12) gM_X12_ran gm_X12_306 gi_X12_ran gs_RX12_yX12_ran_yX12_ran rfl (h1 0 _ rfl) h1 rfl hl.1 ⟨rfl, rfl⟩ ⟨Nat.le_of_ble_eq_true rfl, Nat.le_of_ble_eq_true rfl⟩ ⟨Nat.zero_le _, Nat.zero_le _⟩ rfl (Nat.le_of_ble_eq_true rfl) dX12_tells_86) hS (by intro q hq; omega) (fun H1 locs q2 k3 hS => ?_)
  have h1 := q2
  refine lv_aload_n hx hb dX12_tells_89 rfl (lv_at hl 0 rfl) ?_
  refine lv_iload_n hx hb dX12_tells_90 rfl (lv_at hl 1 rfl) ?_
  refine lv_aload_n hx hb dX12_tells_91 rfl (lv_at hl 0 rfl) ?_
  refine g_get (v := .ref (b + 3)) (T := TX12) (ci := 12) (N := 45) hx hb hown hK (gY_X12 hT) rfl (h1 0 _ rfl) 4 (by decide) (hT _ gf_X12_18) rfl dX12_tells_92 ?_
  refine lv_iload_n hx hb dX12_tells_95 rfl (lv_at hl 1 rfl) ?_
  refine g_ia (j := p) (v := π 2 p) hx hb hK (h1 3 _ rfl) rfl (by omega) (Nat.le_of_ble_eq_true rfl) rfl dX12_tells_96 ?_
  refine lv_iload_n hx hb dX12_tells_97 rfl (lv_at hl 3 rfl) ?_
  rw [ek]
  have hn98 := gFli_l p (π 3 p) kk kk x
  refine g_ki (g_runV (T := TX12) (ci := 12) (N := 45) (rest := []) hx hb hml hown hE hT (c_X12_flies_all l G b π (gTr1 μ 12) f g (t + 1) (gTr1_n ht) (by first | omega | (simp only [List.length_append, List.length_cons, List.length_nil]; omega)) p hp kk hkk ek kk hkk x) gM_X12_flies gm_X12_316 gi_X12_flies gs_RX12_yX12_flies_yX12_flies rfl (h1 0 _ rfl) h1 rfl hl.1 ⟨rfl, rfl⟩ ⟨Nat.le_of_ble_eq_true rfl, Nat.le_of_ble_eq_true rfl⟩ ⟨Nat.zero_le _, Nat.zero_le _⟩ rfl (Nat.le_of_ble_eq_true rfl) dX12_tells_98) hS (by intro q hq; omega) (fun r8 H5 locs q6 k7 hS => ?_)
  obtain ⟨e9, h1⟩ := q6
  rw [e9]
  refine lv_iconst (v := 2) hx hb dX12_tells_101 (by decide) ?_
  refine lv_imul hx hb dX12_tells_102 ?_
  rw [← hQ]
  exact g_iret hx hb hr hlk hS dX12_tells_103 ⟨rfl, by rw [show gTrs μ ([12] ++ (gFli p (π 3 p) kk kk x).2) = gTrs (gTr1 μ 12) (gFli p (π 3 p) kk kk x).2 from by simp only [gTrs, List.foldl_append, List.foldl_cons, List.foldl_nil]]; exact h1⟩

set_option maxHeartbeats 4000000 in
set_option maxRecDepth 100000 in
theorem c_X12_tells_1 (l : Launch) (G : gW) (b : Nat) (π μ f : gPS) (g : Nat → Int64) (t : Nat) (ht : μ 4 1 = nI t) (htl : t ≤ 1009) (p : Nat) (hp : p < 6) (kk : Nat) (hkk : kk < 7) (ek : π 2 p = nI kk) (x : Int32) : gCI l yX12_tells cX12_tells 5 .int (gRm 8 186) G [.ref b, .int (nI p), .int 1, .int x] (fun H => gSg G b (gLM G b π μ f g) H) (fun r H => r = (gFli p (π 3 p) kk kk x).1 * 2 ∧ gSg G b (gLM G b π (gTrs μ ([12] ++ (gFli p (π 3 p) kk kk x).2)) f g) H) (fun q => b ≤ q ∧ q < b + 30) := by
  refine g_start (by decide) (Nat.le_of_ble_eq_true rfl) ?_
  intro pp_ ee_ s mm_ aa_ below meth cc_ ls Q hQ hX hE hP hl
  obtain ⟨hx, hb, hr, hml, hown, hT, hlk, hnm⟩ := hX
  have hK := hE.2.1
  have h1 := hP
  have hS : va_S (fun q => b ≤ q ∧ q < b + 30) s.heap s.heap [] := va_S.rf
  have hl : lv_has ls 5 [(0, .ref b), (1, .int (nI p)), (2, .int 1), (3, .int x)] := hl
  refine lv_iload_n hx hb dX12_tells_0 rfl (lv_at hl 2 rfl) ?_
  refine lv_lookup (off := 103) (tgt := 104) hx hb dX12_tells_1 (by decide) (by decide) (by decide) ?_
  refine lv_aload_n hx hb dX12_tells_104 rfl (lv_at hl 0 rfl) ?_
  refine lv_iload_n hx hb dX12_tells_105 rfl (lv_at hl 1 rfl) ?_
  refine lv_iload_n hx hb dX12_tells_106 rfl (lv_at hl 2 rfl) ?_
  refine g_ki (g_runS (rest := [.int (nI p), .ref b]) hx hb hml hown hE hT (c_X12_above l G 1) gM_X12_above gm_X12_313 gt_X12_above trivial rfl hl.1 ⟨rfl, rfl⟩ ⟨Nat.le_of_ble_eq_true rfl, Nat.le_of_ble_eq_true rfl⟩ ⟨Nat.zero_le _, Nat.zero_le _⟩ rfl (Nat.le_of_ble_eq_true rfl) dX12_tells_107) hS (fun _ h => h.elim) (fun r4 H1 locs q2 k3 hS => ?_)
  subst q2
  have h1 := gSg_free h1 k3 (by intro k hk q; simp only [List.length_cons, List.length_nil] at hk; omega)
  rw [show gAbove 1 = 0 from by decide]
  refine lv_iload_n hx hb dX12_tells_110 rfl (lv_at hl 3 rfl) ?_
  have hn111 := gFli_l p (π 3 p) kk kk x
  refine g_ki (g_runV (T := TX12) (ci := 12) (N := 45) (rest := []) hx hb hml hown hE hT (c_X12_tells_0 l G b π μ f g t ht (by first | omega | (simp only [List.length_append, List.length_cons, List.length_nil]; omega)) p hp kk hkk ek x) gM_X12_tells gm_X12_319 gi_X12_tells gs_RX12_yX12_tells_yX12_tells rfl (h1 0 _ rfl) h1 rfl hl.1 ⟨rfl, rfl⟩ ⟨Nat.le_of_ble_eq_true rfl, Nat.le_of_ble_eq_true rfl⟩ ⟨Nat.zero_le _, Nat.zero_le _⟩ rfl (Nat.le_of_ble_eq_true rfl) dX12_tells_111) hS (by intro q hq; omega) (fun r8 H5 locs q6 k7 hS => ?_)
  obtain ⟨e9, h1⟩ := q6
  rw [e9]
  rw [← hQ]
  exact g_iret hx hb hr hlk hS dX12_tells_114 ⟨rfl, by rw [show gTrs μ ([12] ++ (gFli p (π 3 p) kk kk x).2) = gTrs μ ([12] ++ (gFli p (π 3 p) kk kk x).2) from by simp only [gTrs, List.foldl_append, List.foldl_cons, List.foldl_nil]]; exact h1⟩

set_option maxHeartbeats 4000000 in
set_option maxRecDepth 100000 in
theorem c_X12_tells_2 (l : Launch) (G : gW) (b : Nat) (π μ f : gPS) (g : Nat → Int64) (t : Nat) (ht : μ 4 1 = nI t) (htl : t ≤ 1009) (p : Nat) (hp : p < 6) (kk : Nat) (hkk : kk < 7) (ek : π 2 p = nI kk) (x : Int32) : gCI l yX12_tells cX12_tells 5 .int (gRm 8 186) G [.ref b, .int (nI p), .int 2, .int x] (fun H => gSg G b (gLM G b π μ f g) H) (fun r H => r = (gFli p (π 3 p) kk kk x).1 * 2 ∧ gSg G b (gLM G b π (gTrs μ ([12] ++ (gFli p (π 3 p) kk kk x).2)) f g) H) (fun q => b ≤ q ∧ q < b + 30) := by
  refine g_start (by decide) (Nat.le_of_ble_eq_true rfl) ?_
  intro pp_ ee_ s mm_ aa_ below meth cc_ ls Q hQ hX hE hP hl
  obtain ⟨hx, hb, hr, hml, hown, hT, hlk, hnm⟩ := hX
  have hK := hE.2.1
  have h1 := hP
  have hS : va_S (fun q => b ≤ q ∧ q < b + 30) s.heap s.heap [] := va_S.rf
  have hl : lv_has ls 5 [(0, .ref b), (1, .int (nI p)), (2, .int 2), (3, .int x)] := hl
  refine lv_iload_n hx hb dX12_tells_0 rfl (lv_at hl 2 rfl) ?_
  refine lv_lookup (off := 103) (tgt := 104) hx hb dX12_tells_1 (by decide) (by decide) (by decide) ?_
  refine lv_aload_n hx hb dX12_tells_104 rfl (lv_at hl 0 rfl) ?_
  refine lv_iload_n hx hb dX12_tells_105 rfl (lv_at hl 1 rfl) ?_
  refine lv_iload_n hx hb dX12_tells_106 rfl (lv_at hl 2 rfl) ?_
  refine g_ki (g_runS (rest := [.int (nI p), .ref b]) hx hb hml hown hE hT (c_X12_above l G 2) gM_X12_above gm_X12_313 gt_X12_above trivial rfl hl.1 ⟨rfl, rfl⟩ ⟨Nat.le_of_ble_eq_true rfl, Nat.le_of_ble_eq_true rfl⟩ ⟨Nat.zero_le _, Nat.zero_le _⟩ rfl (Nat.le_of_ble_eq_true rfl) dX12_tells_107) hS (fun _ h => h.elim) (fun r4 H1 locs q2 k3 hS => ?_)
  subst q2
  have h1 := gSg_free h1 k3 (by intro k hk q; simp only [List.length_cons, List.length_nil] at hk; omega)
  rw [show gAbove 2 = 0 from by decide]
  refine lv_iload_n hx hb dX12_tells_110 rfl (lv_at hl 3 rfl) ?_
  have hn111 := gFli_l p (π 3 p) kk kk x
  refine g_ki (g_runV (T := TX12) (ci := 12) (N := 45) (rest := []) hx hb hml hown hE hT (c_X12_tells_0 l G b π μ f g t ht (by first | omega | (simp only [List.length_append, List.length_cons, List.length_nil]; omega)) p hp kk hkk ek x) gM_X12_tells gm_X12_319 gi_X12_tells gs_RX12_yX12_tells_yX12_tells rfl (h1 0 _ rfl) h1 rfl hl.1 ⟨rfl, rfl⟩ ⟨Nat.le_of_ble_eq_true rfl, Nat.le_of_ble_eq_true rfl⟩ ⟨Nat.zero_le _, Nat.zero_le _⟩ rfl (Nat.le_of_ble_eq_true rfl) dX12_tells_111) hS (by intro q hq; omega) (fun r8 H5 locs q6 k7 hS => ?_)
  obtain ⟨e9, h1⟩ := q6
  rw [e9]
  rw [← hQ]
  exact g_iret hx hb hr hlk hS dX12_tells_114 ⟨rfl, by rw [show gTrs μ ([12] ++ (gFli p (π 3 p) kk kk x).2) = gTrs μ ([12] ++ (gFli p (π 3 p) kk kk x).2) from by simp only [gTrs, List.foldl_append, List.foldl_cons, List.foldl_nil]]; exact h1⟩

set_option maxHeartbeats 4000000 in
set_option maxRecDepth 100000 in
theorem c_X12_tells_3 (l : Launch) (G : gW) (b : Nat) (π μ f : gPS) (g : Nat → Int64) (t : Nat) (ht : μ 4 1 = nI t) (htl : t ≤ 1009) (p : Nat) (hp : p < 6) (kk : Nat) (hkk : kk < 7) (ek : π 2 p = nI kk) (x : Int32) : gCI l yX12_tells cX12_tells 5 .int (gRm 8 186) G [.ref b, .int (nI p), .int 3, .int x] (fun H => gSg G b (gLM G b π μ f g) H) (fun r H => r = (gFli p (π 3 p) kk kk x).1 * 2 + (gFli p (π 3 p) kk kk 1).1 ∧ gSg G b (gLM G b π (gTrs μ ([40, 12] ++ (gFli p (π 3 p) kk kk x).2 ++ (gFli p (π 3 p) kk kk 1).2)) f g) H) (fun q => b ≤ q ∧ q < b + 30) := by
  refine g_start (by decide) (Nat.le_of_ble_eq_true rfl) ?_
  intro pp_ ee_ s mm_ aa_ below meth cc_ ls Q hQ hX hE hP hl
  obtain ⟨hx, hb, hr, hml, hown, hT, hlk, hnm⟩ := hX
  have hK := hE.2.1
  have h1 := hP
  have hS : va_S (fun q => b ≤ q ∧ q < b + 30) s.heap s.heap [] := va_S.rf
  have hl : lv_has ls 5 [(0, .ref b), (1, .int (nI p)), (2, .int 3), (3, .int x)] := hl
  refine lv_iload_n hx hb dX12_tells_0 rfl (lv_at hl 2 rfl) ?_
  refine lv_lookup (off := 35) (tgt := 36) hx hb dX12_tells_1 (by decide) (by decide) (by decide) ?_
  refine lv_aload_n hx hb dX12_tells_36 rfl (lv_at hl 0 rfl) ?_
  refine lv_bipush (v := 40) hx hb dX12_tells_37 (by decide) ?_
  refine g_kv (g_runV (T := TX12) (ci := 12) (N := 45) (rest := []) hx hb hml hown hE hT (c_X12_ran l G b π μ f g t ht (by omega) 40) gM_X12_ran gm_X12_306 gi_X12_ran gs_RX12_yX12_ran_yX12_ran rfl (h1 0 _ rfl) h1 rfl hl.1 ⟨rfl, rfl⟩ ⟨Nat.le_of_ble_eq_true rfl, Nat.le_of_ble_eq_true rfl⟩ ⟨Nat.zero_le _, Nat.zero_le _⟩ rfl (Nat.le_of_ble_eq_true rfl) dX12_tells_39) hS (by intro q hq; omega) (fun H1 locs q2 k3 hS => ?_)
  have h1 := q2
  refine lv_aload_n hx hb dX12_tells_42 rfl (lv_at hl 0 rfl) ?_
  refine lv_iload_n hx hb dX12_tells_43 rfl (lv_at hl 1 rfl) ?_
  refine lv_iconst (v := 0) hx hb dX12_tells_44 (by decide) ?_
  refine lv_iload_n hx hb dX12_tells_45 rfl (lv_at hl 3 rfl) ?_
  have hn46 := gFli_l p (π 3 p) kk kk x
  refine g_ki (g_runV (T := TX12) (ci := 12) (N := 45) (rest := []) hx hb hml hown hE hT (c_X12_tells_0 l G b π (gTr1 μ 40) f g (t + 1) (gTr1_n ht) (by first | omega | (simp only [List.length_append, List.length_cons, List.length_nil]; omega)) p hp kk hkk ek x) gM_X12_tells gm_X12_319 gi_X12_tells gs_RX12_yX12_tells_yX12_tells rfl (h1 0 _ rfl) h1 rfl hl.1 ⟨rfl, rfl⟩ ⟨Nat.le_of_ble_eq_true rfl, Nat.le_of_ble_eq_true rfl⟩ ⟨Nat.zero_le _, Nat.zero_le _⟩ rfl (Nat.le_of_ble_eq_true rfl) dX12_tells_46) hS (by intro q hq; omega) (fun r8 H5 locs q6 k7 hS => ?_)
  obtain ⟨e9, h1⟩ := q6
  rw [e9]
  refine lv_istore (lv' := [(4, .int ((gFli p (π 3 p) kk kk x).1 * 2)), (0, .ref b), (1, .int (nI p)), (2, .int 3), (3, .int x)]) hx hb dX12_tells_49 hl (by decide) rfl (fun ls hl => ?_)
  refine lv_iload hx hb dX12_tells_51 (lv_at hl 0 rfl) ?_
  refine lv_aload_n hx hb dX12_tells_53 rfl (lv_at hl 1 rfl) ?_
  refine lv_iload_n hx hb dX12_tells_54 rfl (lv_at hl 2 rfl) ?_
  refine lv_aload_n hx hb dX12_tells_55 rfl (lv_at hl 1 rfl) ?_
  refine g_get (v := .ref (b + 3)) (T := TX12) (ci := 12) (N := 45) hx hb hown hK (gY_X12 hT) rfl (h1 0 _ rfl) 4 (by decide) (hT _ gf_X12_18) rfl dX12_tells_56 ?_
  refine lv_iload_n hx hb dX12_tells_59 rfl (lv_at hl 2 rfl) ?_
  refine g_ia (j := p) (v := π 2 p) hx hb hK (h1 3 _ rfl) rfl (by omega) (Nat.le_of_ble_eq_true rfl) rfl dX12_tells_60 ?_
  refine lv_iconst (v := 1) hx hb dX12_tells_61 (by decide) ?_
  rw [ek]
  have hn62 := gFli_l p (π 3 p) kk kk 1
  refine g_ki (g_runV (T := TX12) (ci := 12) (N := 45) (rest := [.int ((gFli p (π 3 p) kk kk x).1 * 2)]) hx hb hml hown hE hT (c_X12_flies_all l G b π (gTrs (gTr1 μ 40) ([12] ++ (gFli p (π 3 p) kk kk x).2)) f g (t + 1 + ([12] ++ (gFli p (π 3 p) kk kk x).2).length) (gTrs_n (t := 0) _ (gTr1_n ht)) (by first | omega | (simp only [List.length_append, List.length_cons, List.length_nil]; omega)) p hp kk hkk ek kk hkk 1) gM_X12_flies gm_X12_316 gi_X12_flies gs_RX12_yX12_flies_yX12_flies rfl (h1 0 _ rfl) h1 rfl hl.1 ⟨rfl, rfl⟩ ⟨Nat.le_of_ble_eq_true rfl, Nat.le_of_ble_eq_true rfl⟩ ⟨Nat.zero_le _, Nat.zero_le _⟩ rfl (Nat.le_of_ble_eq_true rfl) dX12_tells_62) hS (by intro q hq; omega) (fun r12 H9 locs q10 k11 hS => ?_)
  obtain ⟨e9, h1⟩ := q10
  rw [e9]
  refine lv_iadd hx hb dX12_tells_65 ?_
  rw [← hQ]
  exact g_iret hx hb hr hlk hS dX12_tells_66 ⟨rfl, by rw [show gTrs μ ([40, 12] ++ (gFli p (π 3 p) kk kk x).2 ++ (gFli p (π 3 p) kk kk 1).2) = gTrs (gTrs (gTr1 μ 40) ([12] ++ (gFli p (π 3 p) kk kk x).2)) (gFli p (π 3 p) kk kk 1).2 from by simp only [gTrs, List.foldl_append, List.foldl_cons, List.foldl_nil]]; exact h1⟩

set_option maxHeartbeats 4000000 in
set_option maxRecDepth 100000 in
theorem c_X12_tells_4 (l : Launch) (G : gW) (b : Nat) (π μ f : gPS) (g : Nat → Int64) (t : Nat) (ht : μ 4 1 = nI t) (htl : t ≤ 1008) (p : Nat) (hp : p < 6) (kk : Nat) (hkk : kk < 7) (ek : π 2 p = nI kk) (x : Int32) : gCI l yX12_tells cX12_tells 5 .int (gRm 9 210) G [.ref b, .int (nI p), .int 4, .int x] (fun H => gSg G b (gLM G b π μ f g) H) (fun r H => r = (gFli p (π 3 p) kk kk x).1 * 2 ∧ gSg G b (gLM G b π (gTrs μ ([12] ++ (gFli p (π 3 p) kk kk x).2)) f g) H) (fun q => b ≤ q ∧ q < b + 30) := by
  refine g_start (by decide) (Nat.le_of_ble_eq_true rfl) ?_
  intro pp_ ee_ s mm_ aa_ below meth cc_ ls Q hQ hX hE hP hl
  obtain ⟨hx, hb, hr, hml, hown, hT, hlk, hnm⟩ := hX
  have hK := hE.2.1
  have h1 := hP
  have hS : va_S (fun q => b ≤ q ∧ q < b + 30) s.heap s.heap [] := va_S.rf
  have hl : lv_has ls 5 [(0, .ref b), (1, .int (nI p)), (2, .int 4), (3, .int x)] := hl
  refine lv_iload_n hx hb dX12_tells_0 rfl (lv_at hl 2 rfl) ?_
  refine lv_lookup (off := 103) (tgt := 104) hx hb dX12_tells_1 (by decide) (by decide) (by decide) ?_
  refine lv_aload_n hx hb dX12_tells_104 rfl (lv_at hl 0 rfl) ?_
  refine lv_iload_n hx hb dX12_tells_105 rfl (lv_at hl 1 rfl) ?_
  refine lv_iload_n hx hb dX12_tells_106 rfl (lv_at hl 2 rfl) ?_
  refine g_ki (g_runS (rest := [.int (nI p), .ref b]) hx hb hml hown hE hT (c_X12_above l G 4) gM_X12_above gm_X12_313 gt_X12_above trivial rfl hl.1 ⟨rfl, rfl⟩ ⟨Nat.le_of_ble_eq_true rfl, Nat.le_of_ble_eq_true rfl⟩ ⟨Nat.zero_le _, Nat.zero_le _⟩ rfl (Nat.le_of_ble_eq_true rfl) dX12_tells_107) hS (fun _ h => h.elim) (fun r4 H1 locs q2 k3 hS => ?_)
  subst q2
  have h1 := gSg_free h1 k3 (by intro k hk q; simp only [List.length_cons, List.length_nil] at hk; omega)
  rw [show gAbove 4 = 1 from by decide]
  refine lv_iload_n hx hb dX12_tells_110 rfl (lv_at hl 3 rfl) ?_
  have hn111 := gFli_l p (π 3 p) kk kk x
  refine g_ki (g_runV (T := TX12) (ci := 12) (N := 45) (rest := []) hx hb hml hown hE hT (c_X12_tells_1 l G b π μ f g t ht (by first | omega | (simp only [List.length_append, List.length_cons, List.length_nil]; omega)) p hp kk hkk ek x) gM_X12_tells gm_X12_319 gi_X12_tells gs_RX12_yX12_tells_yX12_tells rfl (h1 0 _ rfl) h1 rfl hl.1 ⟨rfl, rfl⟩ ⟨Nat.le_of_ble_eq_true rfl, Nat.le_of_ble_eq_true rfl⟩ ⟨Nat.zero_le _, Nat.zero_le _⟩ rfl (Nat.le_of_ble_eq_true rfl) dX12_tells_111) hS (by intro q hq; omega) (fun r8 H5 locs q6 k7 hS => ?_)
  obtain ⟨e9, h1⟩ := q6
  rw [e9]
  rw [← hQ]
  exact g_iret hx hb hr hlk hS dX12_tells_114 ⟨rfl, by rw [show gTrs μ ([12] ++ (gFli p (π 3 p) kk kk x).2) = gTrs μ ([12] ++ (gFli p (π 3 p) kk kk x).2) from by simp only [gTrs, List.foldl_append, List.foldl_cons, List.foldl_nil]]; exact h1⟩

set_option maxHeartbeats 4000000 in
set_option maxRecDepth 100000 in
theorem c_X12_tells_5 (l : Launch) (G : gW) (b : Nat) (π μ f : gPS) (g : Nat → Int64) (t : Nat) (ht : μ 4 1 = nI t) (htl : t ≤ 1008) (p : Nat) (hp : p < 6) (kk : Nat) (hkk : kk < 7) (ek : π 2 p = nI kk) (x : Int32) : gCI l yX12_tells cX12_tells 5 .int (gRm 9 210) G [.ref b, .int (nI p), .int 5, .int x] (fun H => gSg G b (gLM G b π μ f g) H) (fun r H => r = (gFli p (π 3 p) kk kk (x - nI p)).1 * 2 ∧ gSg G b (gLM G b π (gTrs μ ([60, 12] ++ (gFli p (π 3 p) kk kk (x - nI p)).2)) f g) H) (fun q => b ≤ q ∧ q < b + 30) := by
  refine g_start (by decide) (Nat.le_of_ble_eq_true rfl) ?_
  intro pp_ ee_ s mm_ aa_ below meth cc_ ls Q hQ hX hE hP hl
  obtain ⟨hx, hb, hr, hml, hown, hT, hlk, hnm⟩ := hX
  have hK := hE.2.1
  have h1 := hP
  have hS : va_S (fun q => b ≤ q ∧ q < b + 30) s.heap s.heap [] := va_S.rf
  have hl : lv_has ls 5 [(0, .ref b), (1, .int (nI p)), (2, .int 5), (3, .int x)] := hl
  refine lv_iload_n hx hb dX12_tells_0 rfl (lv_at hl 2 rfl) ?_
  refine lv_lookup (off := 66) (tgt := 67) hx hb dX12_tells_1 (by decide) (by decide) (by decide) ?_
  refine lv_aload_n hx hb dX12_tells_67 rfl (lv_at hl 0 rfl) ?_
  refine lv_bipush (v := 60) hx hb dX12_tells_68 (by decide) ?_
  refine g_kv (g_runV (T := TX12) (ci := 12) (N := 45) (rest := []) hx hb hml hown hE hT (c_X12_ran l G b π μ f g t ht (by omega) 60) gM_X12_ran gm_X12_306 gi_X12_ran gs_RX12_yX12_ran_yX12_ran rfl (h1 0 _ rfl) h1 rfl hl.1 ⟨rfl, rfl⟩ ⟨Nat.le_of_ble_eq_true rfl, Nat.le_of_ble_eq_true rfl⟩ ⟨Nat.zero_le _, Nat.zero_le _⟩ rfl (Nat.le_of_ble_eq_true rfl) dX12_tells_70) hS (by intro q hq; omega) (fun H1 locs q2 k3 hS => ?_)
  have h1 := q2
  refine lv_aload_n hx hb dX12_tells_73 rfl (lv_at hl 0 rfl) ?_
  refine lv_iload_n hx hb dX12_tells_74 rfl (lv_at hl 1 rfl) ?_
  refine lv_iconst (v := 2) hx hb dX12_tells_75 (by decide) ?_
  refine lv_iload_n hx hb dX12_tells_76 rfl (lv_at hl 3 rfl) ?_
  refine lv_iload_n hx hb dX12_tells_77 rfl (lv_at hl 1 rfl) ?_
  refine lv_isub hx hb dX12_tells_78 ?_
  have hn79 := gFli_l p (π 3 p) kk kk (x - (nI p))
  refine g_ki (g_runV (T := TX12) (ci := 12) (N := 45) (rest := []) hx hb hml hown hE hT (c_X12_tells_2 l G b π (gTr1 μ 60) f g (t + 1) (gTr1_n ht) (by first | omega | (simp only [List.length_append, List.length_cons, List.length_nil]; omega)) p hp kk hkk ek (x - (nI p))) gM_X12_tells gm_X12_319 gi_X12_tells gs_RX12_yX12_tells_yX12_tells rfl (h1 0 _ rfl) h1 rfl hl.1 ⟨rfl, rfl⟩ ⟨Nat.le_of_ble_eq_true rfl, Nat.le_of_ble_eq_true rfl⟩ ⟨Nat.zero_le _, Nat.zero_le _⟩ rfl (Nat.le_of_ble_eq_true rfl) dX12_tells_79) hS (by intro q hq; omega) (fun r8 H5 locs q6 k7 hS => ?_)
  obtain ⟨e9, h1⟩ := q6
  rw [e9]
  rw [← hQ]
  exact g_iret hx hb hr hlk hS dX12_tells_82 ⟨rfl, by rw [show gTrs μ ([60, 12] ++ (gFli p (π 3 p) kk kk (x - nI p)).2) = gTrs (gTr1 μ 60) ([12] ++ (gFli p (π 3 p) kk kk (x - (nI p))).2) from by simp only [gTrs, List.foldl_append, List.foldl_cons, List.foldl_nil]]; exact h1⟩

set_option maxHeartbeats 4000000 in
set_option maxRecDepth 100000 in
theorem c_X12_tells_6 (l : Launch) (G : gW) (b : Nat) (π μ f : gPS) (g : Nat → Int64) (t : Nat) (ht : μ 4 1 = nI t) (htl : t ≤ 1008) (p : Nat) (hp : p < 6) (kk : Nat) (hkk : kk < 7) (ek : π 2 p = nI kk) (x : Int32) : gCI l yX12_tells cX12_tells 5 .int (gRm 9 210) G [.ref b, .int (nI p), .int 6, .int x] (fun H => gSg G b (gLM G b π μ f g) H) (fun r H => r = (gFli p (π 3 p) kk kk x).1 * 2 + (gFli p (π 3 p) kk kk 1).1 ∧ gSg G b (gLM G b π (gTrs μ ([40, 12] ++ (gFli p (π 3 p) kk kk x).2 ++ (gFli p (π 3 p) kk kk 1).2)) f g) H) (fun q => b ≤ q ∧ q < b + 30) := by
  refine g_start (by decide) (Nat.le_of_ble_eq_true rfl) ?_
  intro pp_ ee_ s mm_ aa_ below meth cc_ ls Q hQ hX hE hP hl
  obtain ⟨hx, hb, hr, hml, hown, hT, hlk, hnm⟩ := hX
  have hK := hE.2.1
  have h1 := hP
  have hS : va_S (fun q => b ≤ q ∧ q < b + 30) s.heap s.heap [] := va_S.rf
  have hl : lv_has ls 5 [(0, .ref b), (1, .int (nI p)), (2, .int 6), (3, .int x)] := hl
  refine lv_iload_n hx hb dX12_tells_0 rfl (lv_at hl 2 rfl) ?_
  refine lv_lookup (off := 103) (tgt := 104) hx hb dX12_tells_1 (by decide) (by decide) (by decide) ?_
  refine lv_aload_n hx hb dX12_tells_104 rfl (lv_at hl 0 rfl) ?_
  refine lv_iload_n hx hb dX12_tells_105 rfl (lv_at hl 1 rfl) ?_
  refine lv_iload_n hx hb dX12_tells_106 rfl (lv_at hl 2 rfl) ?_
  refine g_ki (g_runS (rest := [.int (nI p), .ref b]) hx hb hml hown hE hT (c_X12_above l G 6) gM_X12_above gm_X12_313 gt_X12_above trivial rfl hl.1 ⟨rfl, rfl⟩ ⟨Nat.le_of_ble_eq_true rfl, Nat.le_of_ble_eq_true rfl⟩ ⟨Nat.zero_le _, Nat.zero_le _⟩ rfl (Nat.le_of_ble_eq_true rfl) dX12_tells_107) hS (fun _ h => h.elim) (fun r4 H1 locs q2 k3 hS => ?_)
  subst q2
  have h1 := gSg_free h1 k3 (by intro k hk q; simp only [List.length_cons, List.length_nil] at hk; omega)
  rw [show gAbove 6 = 3 from by decide]
  refine lv_iload_n hx hb dX12_tells_110 rfl (lv_at hl 3 rfl) ?_
  have hn111 := gFli_l p (π 3 p) kk kk x
  refine g_ki (g_runV (T := TX12) (ci := 12) (N := 45) (rest := []) hx hb hml hown hE hT (c_X12_tells_3 l G b π μ f g t ht (by first | omega | (simp only [List.length_append, List.length_cons, List.length_nil]; omega)) p hp kk hkk ek x) gM_X12_tells gm_X12_319 gi_X12_tells gs_RX12_yX12_tells_yX12_tells rfl (h1 0 _ rfl) h1 rfl hl.1 ⟨rfl, rfl⟩ ⟨Nat.le_of_ble_eq_true rfl, Nat.le_of_ble_eq_true rfl⟩ ⟨Nat.zero_le _, Nat.zero_le _⟩ rfl (Nat.le_of_ble_eq_true rfl) dX12_tells_111) hS (by intro q hq; omega) (fun r8 H5 locs q6 k7 hS => ?_)
  obtain ⟨e9, h1⟩ := q6
  rw [e9]
  rw [← hQ]
  exact g_iret hx hb hr hlk hS dX12_tells_114 ⟨rfl, by rw [show gTrs μ ([40, 12] ++ (gFli p (π 3 p) kk kk x).2 ++ (gFli p (π 3 p) kk kk 1).2) = gTrs μ ([40, 12] ++ (gFli p (π 3 p) kk kk x).2 ++ (gFli p (π 3 p) kk kk 1).2) from by simp only [gTrs, List.foldl_append, List.foldl_cons, List.foldl_nil]]; exact h1⟩

set_option maxHeartbeats 4000000 in
set_option maxRecDepth 100000 in
theorem c_X12_tells_0a (l : Launch) (G : gW) (b : Nat) (π μ f : gPS) (g : Nat → Int64) (t : Nat) (ht : μ 4 1 = nI t) (htl : t ≤ 1000) (p : Nat) (hp : p < 6) (kk : Nat) (hkk : kk < 7) (ek : π 2 p = nI kk) (x : Int32) : gCI l yX12_tells cX12_tells 5 .int (gRm 9 210) G [.ref b, .int (nI p), .int 0, .int x] (fun H => gSg G b (gLM G b π μ f g) H) (fun r H => r = (gFli p (π 3 p) kk kk x).1 * 2 ∧ gSg G b (gLM G b π (gTrs μ ([12] ++ (gFli p (π 3 p) kk kk x).2)) f g) H) (fun q => b ≤ q ∧ q < b + 30) := by
  refine g_start (by decide) (Nat.le_of_ble_eq_true rfl) ?_
  intro pp_ ee_ s mm_ aa_ below meth cc_ ls Q hQ hX hE hP hl
  obtain ⟨hx, hb, hr, hml, hown, hT, hlk, hnm⟩ := hX
  have hK := hE.2.1
  have h1 := hP
  have hS : va_S (fun q => b ≤ q ∧ q < b + 30) s.heap s.heap [] := va_S.rf
  have hl : lv_has ls 5 [(0, .ref b), (1, .int (nI p)), (2, .int 0), (3, .int x)] := hl
  refine lv_iload_n hx hb dX12_tells_0 rfl (lv_at hl 2 rfl) ?_
  refine lv_lookup (off := 82) (tgt := 83) hx hb dX12_tells_1 (by decide) (by decide) (by decide) ?_
  refine lv_aload_n hx hb dX12_tells_83 rfl (lv_at hl 0 rfl) ?_
  refine lv_bipush (v := 12) hx hb dX12_tells_84 (by decide) ?_
  refine g_kv (g_runV (T := TX12) (ci := 12) (N := 45) (rest := []) hx hb hml hown hE hT (c_X12_ran l G b π μ f g t ht (by omega) 12) gM_X12_ran gm_X12_306 gi_X12_ran gs_RX12_yX12_ran_yX12_ran rfl (h1 0 _ rfl) h1 rfl hl.1 ⟨rfl, rfl⟩ ⟨Nat.le_of_ble_eq_true rfl, Nat.le_of_ble_eq_true rfl⟩ ⟨Nat.zero_le _, Nat.zero_le _⟩ rfl (Nat.le_of_ble_eq_true rfl) dX12_tells_86) hS (by intro q hq; omega) (fun H1 locs q2 k3 hS => ?_)
  have h1 := q2
  refine lv_aload_n hx hb dX12_tells_89 rfl (lv_at hl 0 rfl) ?_
  refine lv_iload_n hx hb dX12_tells_90 rfl (lv_at hl 1 rfl) ?_
  refine lv_aload_n hx hb dX12_tells_91 rfl (lv_at hl 0 rfl) ?_
  refine g_get (v := .ref (b + 3)) (T := TX12) (ci := 12) (N := 45) hx hb hown hK (gY_X12 hT) rfl (h1 0 _ rfl) 4 (by decide) (hT _ gf_X12_18) rfl dX12_tells_92 ?_
  refine lv_iload_n hx hb dX12_tells_95 rfl (lv_at hl 1 rfl) ?_
  refine g_ia (j := p) (v := π 2 p) hx hb hK (h1 3 _ rfl) rfl (by omega) (Nat.le_of_ble_eq_true rfl) rfl dX12_tells_96 ?_
  refine lv_iload_n hx hb dX12_tells_97 rfl (lv_at hl 3 rfl) ?_
  rw [ek]
  have hn98 := gFli_l p (π 3 p) kk kk x
  refine g_ki (g_runV (T := TX12) (ci := 12) (N := 45) (rest := []) hx hb hml hown hE hT (c_X12_flies_all l G b π (gTr1 μ 12) f g (t + 1) (gTr1_n ht) (by first | omega | (simp only [List.length_append, List.length_cons, List.length_nil]; omega)) p hp kk hkk ek kk hkk x) gM_X12_flies gm_X12_316 gi_X12_flies gs_RX12_yX12_flies_yX12_flies rfl (h1 0 _ rfl) h1 rfl hl.1 ⟨rfl, rfl⟩ ⟨Nat.le_of_ble_eq_true rfl, Nat.le_of_ble_eq_true rfl⟩ ⟨Nat.zero_le _, Nat.zero_le _⟩ rfl (Nat.le_of_ble_eq_true rfl) dX12_tells_98) hS (by intro q hq; omega) (fun r8 H5 locs q6 k7 hS => ?_)
  obtain ⟨e9, h1⟩ := q6
  rw [e9]
  refine lv_iconst (v := 2) hx hb dX12_tells_101 (by decide) ?_
  refine lv_imul hx hb dX12_tells_102 ?_
  rw [← hQ]
  exact g_iret hx hb hr hlk hS dX12_tells_103 ⟨rfl, by rw [show gTrs μ ([12] ++ (gFli p (π 3 p) kk kk x).2) = gTrs (gTr1 μ 12) (gFli p (π 3 p) kk kk x).2 from by simp only [gTrs, List.foldl_append, List.foldl_cons, List.foldl_nil]]; exact h1⟩

set_option maxHeartbeats 4000000 in
set_option maxRecDepth 100000 in
theorem c_X12_tells_1a (l : Launch) (G : gW) (b : Nat) (π μ f : gPS) (g : Nat → Int64) (t : Nat) (ht : μ 4 1 = nI t) (htl : t ≤ 1000) (p : Nat) (hp : p < 6) (kk : Nat) (hkk : kk < 7) (ek : π 2 p = nI kk) (x : Int32) : gCI l yX12_tells cX12_tells 5 .int (gRm 9 210) G [.ref b, .int (nI p), .int 1, .int x] (fun H => gSg G b (gLM G b π μ f g) H) (fun r H => r = (gFli p (π 3 p) kk kk x).1 * 2 ∧ gSg G b (gLM G b π (gTrs μ ([12] ++ (gFli p (π 3 p) kk kk x).2)) f g) H) (fun q => b ≤ q ∧ q < b + 30) := by
  refine g_start (by decide) (Nat.le_of_ble_eq_true rfl) ?_
  intro pp_ ee_ s mm_ aa_ below meth cc_ ls Q hQ hX hE hP hl
  obtain ⟨hx, hb, hr, hml, hown, hT, hlk, hnm⟩ := hX
  have hK := hE.2.1
  have h1 := hP
  have hS : va_S (fun q => b ≤ q ∧ q < b + 30) s.heap s.heap [] := va_S.rf
  have hl : lv_has ls 5 [(0, .ref b), (1, .int (nI p)), (2, .int 1), (3, .int x)] := hl
  refine lv_iload_n hx hb dX12_tells_0 rfl (lv_at hl 2 rfl) ?_
  refine lv_lookup (off := 103) (tgt := 104) hx hb dX12_tells_1 (by decide) (by decide) (by decide) ?_
  refine lv_aload_n hx hb dX12_tells_104 rfl (lv_at hl 0 rfl) ?_
  refine lv_iload_n hx hb dX12_tells_105 rfl (lv_at hl 1 rfl) ?_
  refine lv_iload_n hx hb dX12_tells_106 rfl (lv_at hl 2 rfl) ?_
  refine g_ki (g_runS (rest := [.int (nI p), .ref b]) hx hb hml hown hE hT (c_X12_above l G 1) gM_X12_above gm_X12_313 gt_X12_above trivial rfl hl.1 ⟨rfl, rfl⟩ ⟨Nat.le_of_ble_eq_true rfl, Nat.le_of_ble_eq_true rfl⟩ ⟨Nat.zero_le _, Nat.zero_le _⟩ rfl (Nat.le_of_ble_eq_true rfl) dX12_tells_107) hS (fun _ h => h.elim) (fun r4 H1 locs q2 k3 hS => ?_)
  subst q2
  have h1 := gSg_free h1 k3 (by intro k hk q; simp only [List.length_cons, List.length_nil] at hk; omega)
  rw [show gAbove 1 = 0 from by decide]
  refine lv_iload_n hx hb dX12_tells_110 rfl (lv_at hl 3 rfl) ?_
  have hn111 := gFli_l p (π 3 p) kk kk x
  refine g_ki (g_runV (T := TX12) (ci := 12) (N := 45) (rest := []) hx hb hml hown hE hT (c_X12_tells_0 l G b π μ f g t ht (by first | omega | (simp only [List.length_append, List.length_cons, List.length_nil]; omega)) p hp kk hkk ek x) gM_X12_tells gm_X12_319 gi_X12_tells gs_RX12_yX12_tells_yX12_tells rfl (h1 0 _ rfl) h1 rfl hl.1 ⟨rfl, rfl⟩ ⟨Nat.le_of_ble_eq_true rfl, Nat.le_of_ble_eq_true rfl⟩ ⟨Nat.zero_le _, Nat.zero_le _⟩ rfl (Nat.le_of_ble_eq_true rfl) dX12_tells_111) hS (by intro q hq; omega) (fun r8 H5 locs q6 k7 hS => ?_)
  obtain ⟨e9, h1⟩ := q6
  rw [e9]
  rw [← hQ]
  exact g_iret hx hb hr hlk hS dX12_tells_114 ⟨rfl, by rw [show gTrs μ ([12] ++ (gFli p (π 3 p) kk kk x).2) = gTrs μ ([12] ++ (gFli p (π 3 p) kk kk x).2) from by simp only [gTrs, List.foldl_append, List.foldl_cons, List.foldl_nil]]; exact h1⟩

set_option maxHeartbeats 4000000 in
set_option maxRecDepth 100000 in
theorem c_X12_tells_2a (l : Launch) (G : gW) (b : Nat) (π μ f : gPS) (g : Nat → Int64) (t : Nat) (ht : μ 4 1 = nI t) (htl : t ≤ 1000) (p : Nat) (hp : p < 6) (kk : Nat) (hkk : kk < 7) (ek : π 2 p = nI kk) (x : Int32) : gCI l yX12_tells cX12_tells 5 .int (gRm 9 210) G [.ref b, .int (nI p), .int 2, .int x] (fun H => gSg G b (gLM G b π μ f g) H) (fun r H => r = (gFli p (π 3 p) kk kk x).1 * 2 ∧ gSg G b (gLM G b π (gTrs μ ([12] ++ (gFli p (π 3 p) kk kk x).2)) f g) H) (fun q => b ≤ q ∧ q < b + 30) := by
  refine g_start (by decide) (Nat.le_of_ble_eq_true rfl) ?_
  intro pp_ ee_ s mm_ aa_ below meth cc_ ls Q hQ hX hE hP hl
  obtain ⟨hx, hb, hr, hml, hown, hT, hlk, hnm⟩ := hX
  have hK := hE.2.1
  have h1 := hP
  have hS : va_S (fun q => b ≤ q ∧ q < b + 30) s.heap s.heap [] := va_S.rf
  have hl : lv_has ls 5 [(0, .ref b), (1, .int (nI p)), (2, .int 2), (3, .int x)] := hl
  refine lv_iload_n hx hb dX12_tells_0 rfl (lv_at hl 2 rfl) ?_
  refine lv_lookup (off := 103) (tgt := 104) hx hb dX12_tells_1 (by decide) (by decide) (by decide) ?_
  refine lv_aload_n hx hb dX12_tells_104 rfl (lv_at hl 0 rfl) ?_
  refine lv_iload_n hx hb dX12_tells_105 rfl (lv_at hl 1 rfl) ?_
  refine lv_iload_n hx hb dX12_tells_106 rfl (lv_at hl 2 rfl) ?_
  refine g_ki (g_runS (rest := [.int (nI p), .ref b]) hx hb hml hown hE hT (c_X12_above l G 2) gM_X12_above gm_X12_313 gt_X12_above trivial rfl hl.1 ⟨rfl, rfl⟩ ⟨Nat.le_of_ble_eq_true rfl, Nat.le_of_ble_eq_true rfl⟩ ⟨Nat.zero_le _, Nat.zero_le _⟩ rfl (Nat.le_of_ble_eq_true rfl) dX12_tells_107) hS (fun _ h => h.elim) (fun r4 H1 locs q2 k3 hS => ?_)
  subst q2
  have h1 := gSg_free h1 k3 (by intro k hk q; simp only [List.length_cons, List.length_nil] at hk; omega)
  rw [show gAbove 2 = 0 from by decide]
  refine lv_iload_n hx hb dX12_tells_110 rfl (lv_at hl 3 rfl) ?_
  have hn111 := gFli_l p (π 3 p) kk kk x
  refine g_ki (g_runV (T := TX12) (ci := 12) (N := 45) (rest := []) hx hb hml hown hE hT (c_X12_tells_0 l G b π μ f g t ht (by first | omega | (simp only [List.length_append, List.length_cons, List.length_nil]; omega)) p hp kk hkk ek x) gM_X12_tells gm_X12_319 gi_X12_tells gs_RX12_yX12_tells_yX12_tells rfl (h1 0 _ rfl) h1 rfl hl.1 ⟨rfl, rfl⟩ ⟨Nat.le_of_ble_eq_true rfl, Nat.le_of_ble_eq_true rfl⟩ ⟨Nat.zero_le _, Nat.zero_le _⟩ rfl (Nat.le_of_ble_eq_true rfl) dX12_tells_111) hS (by intro q hq; omega) (fun r8 H5 locs q6 k7 hS => ?_)
  obtain ⟨e9, h1⟩ := q6
  rw [e9]
  rw [← hQ]
  exact g_iret hx hb hr hlk hS dX12_tells_114 ⟨rfl, by rw [show gTrs μ ([12] ++ (gFli p (π 3 p) kk kk x).2) = gTrs μ ([12] ++ (gFli p (π 3 p) kk kk x).2) from by simp only [gTrs, List.foldl_append, List.foldl_cons, List.foldl_nil]]; exact h1⟩

set_option maxHeartbeats 4000000 in
set_option maxRecDepth 100000 in
theorem c_X12_tells_3a (l : Launch) (G : gW) (b : Nat) (π μ f : gPS) (g : Nat → Int64) (t : Nat) (ht : μ 4 1 = nI t) (htl : t ≤ 1000) (p : Nat) (hp : p < 6) (kk : Nat) (hkk : kk < 7) (ek : π 2 p = nI kk) (x : Int32) : gCI l yX12_tells cX12_tells 5 .int (gRm 9 210) G [.ref b, .int (nI p), .int 3, .int x] (fun H => gSg G b (gLM G b π μ f g) H) (fun r H => r = (gFli p (π 3 p) kk kk x).1 * 2 + (gFli p (π 3 p) kk kk 1).1 ∧ gSg G b (gLM G b π (gTrs μ ([40, 12] ++ (gFli p (π 3 p) kk kk x).2 ++ (gFli p (π 3 p) kk kk 1).2)) f g) H) (fun q => b ≤ q ∧ q < b + 30) := by
  refine g_start (by decide) (Nat.le_of_ble_eq_true rfl) ?_
  intro pp_ ee_ s mm_ aa_ below meth cc_ ls Q hQ hX hE hP hl
  obtain ⟨hx, hb, hr, hml, hown, hT, hlk, hnm⟩ := hX
  have hK := hE.2.1
  have h1 := hP
  have hS : va_S (fun q => b ≤ q ∧ q < b + 30) s.heap s.heap [] := va_S.rf
  have hl : lv_has ls 5 [(0, .ref b), (1, .int (nI p)), (2, .int 3), (3, .int x)] := hl
  refine lv_iload_n hx hb dX12_tells_0 rfl (lv_at hl 2 rfl) ?_
  refine lv_lookup (off := 35) (tgt := 36) hx hb dX12_tells_1 (by decide) (by decide) (by decide) ?_
  refine lv_aload_n hx hb dX12_tells_36 rfl (lv_at hl 0 rfl) ?_
  refine lv_bipush (v := 40) hx hb dX12_tells_37 (by decide) ?_
  refine g_kv (g_runV (T := TX12) (ci := 12) (N := 45) (rest := []) hx hb hml hown hE hT (c_X12_ran l G b π μ f g t ht (by omega) 40) gM_X12_ran gm_X12_306 gi_X12_ran gs_RX12_yX12_ran_yX12_ran rfl (h1 0 _ rfl) h1 rfl hl.1 ⟨rfl, rfl⟩ ⟨Nat.le_of_ble_eq_true rfl, Nat.le_of_ble_eq_true rfl⟩ ⟨Nat.zero_le _, Nat.zero_le _⟩ rfl (Nat.le_of_ble_eq_true rfl) dX12_tells_39) hS (by intro q hq; omega) (fun H1 locs q2 k3 hS => ?_)
  have h1 := q2
  refine lv_aload_n hx hb dX12_tells_42 rfl (lv_at hl 0 rfl) ?_
  refine lv_iload_n hx hb dX12_tells_43 rfl (lv_at hl 1 rfl) ?_
  refine lv_iconst (v := 0) hx hb dX12_tells_44 (by decide) ?_
  refine lv_iload_n hx hb dX12_tells_45 rfl (lv_at hl 3 rfl) ?_
  have hn46 := gFli_l p (π 3 p) kk kk x
  refine g_ki (g_runV (T := TX12) (ci := 12) (N := 45) (rest := []) hx hb hml hown hE hT (c_X12_tells_0 l G b π (gTr1 μ 40) f g (t + 1) (gTr1_n ht) (by first | omega | (simp only [List.length_append, List.length_cons, List.length_nil]; omega)) p hp kk hkk ek x) gM_X12_tells gm_X12_319 gi_X12_tells gs_RX12_yX12_tells_yX12_tells rfl (h1 0 _ rfl) h1 rfl hl.1 ⟨rfl, rfl⟩ ⟨Nat.le_of_ble_eq_true rfl, Nat.le_of_ble_eq_true rfl⟩ ⟨Nat.zero_le _, Nat.zero_le _⟩ rfl (Nat.le_of_ble_eq_true rfl) dX12_tells_46) hS (by intro q hq; omega) (fun r8 H5 locs q6 k7 hS => ?_)
  obtain ⟨e9, h1⟩ := q6
  rw [e9]
  refine lv_istore (lv' := [(4, .int ((gFli p (π 3 p) kk kk x).1 * 2)), (0, .ref b), (1, .int (nI p)), (2, .int 3), (3, .int x)]) hx hb dX12_tells_49 hl (by decide) rfl (fun ls hl => ?_)
  refine lv_iload hx hb dX12_tells_51 (lv_at hl 0 rfl) ?_
  refine lv_aload_n hx hb dX12_tells_53 rfl (lv_at hl 1 rfl) ?_
  refine lv_iload_n hx hb dX12_tells_54 rfl (lv_at hl 2 rfl) ?_
  refine lv_aload_n hx hb dX12_tells_55 rfl (lv_at hl 1 rfl) ?_
  refine g_get (v := .ref (b + 3)) (T := TX12) (ci := 12) (N := 45) hx hb hown hK (gY_X12 hT) rfl (h1 0 _ rfl) 4 (by decide) (hT _ gf_X12_18) rfl dX12_tells_56 ?_
  refine lv_iload_n hx hb dX12_tells_59 rfl (lv_at hl 2 rfl) ?_
  refine g_ia (j := p) (v := π 2 p) hx hb hK (h1 3 _ rfl) rfl (by omega) (Nat.le_of_ble_eq_true rfl) rfl dX12_tells_60 ?_
  refine lv_iconst (v := 1) hx hb dX12_tells_61 (by decide) ?_
  rw [ek]
  have hn62 := gFli_l p (π 3 p) kk kk 1
  refine g_ki (g_runV (T := TX12) (ci := 12) (N := 45) (rest := [.int ((gFli p (π 3 p) kk kk x).1 * 2)]) hx hb hml hown hE hT (c_X12_flies_all l G b π (gTrs (gTr1 μ 40) ([12] ++ (gFli p (π 3 p) kk kk x).2)) f g (t + 1 + ([12] ++ (gFli p (π 3 p) kk kk x).2).length) (gTrs_n (t := 0) _ (gTr1_n ht)) (by first | omega | (simp only [List.length_append, List.length_cons, List.length_nil]; omega)) p hp kk hkk ek kk hkk 1) gM_X12_flies gm_X12_316 gi_X12_flies gs_RX12_yX12_flies_yX12_flies rfl (h1 0 _ rfl) h1 rfl hl.1 ⟨rfl, rfl⟩ ⟨Nat.le_of_ble_eq_true rfl, Nat.le_of_ble_eq_true rfl⟩ ⟨Nat.zero_le _, Nat.zero_le _⟩ rfl (Nat.le_of_ble_eq_true rfl) dX12_tells_62) hS (by intro q hq; omega) (fun r12 H9 locs q10 k11 hS => ?_)
  obtain ⟨e9, h1⟩ := q10
  rw [e9]
  refine lv_iadd hx hb dX12_tells_65 ?_
  rw [← hQ]
  exact g_iret hx hb hr hlk hS dX12_tells_66 ⟨rfl, by rw [show gTrs μ ([40, 12] ++ (gFli p (π 3 p) kk kk x).2 ++ (gFli p (π 3 p) kk kk 1).2) = gTrs (gTrs (gTr1 μ 40) ([12] ++ (gFli p (π 3 p) kk kk x).2)) (gFli p (π 3 p) kk kk 1).2 from by simp only [gTrs, List.foldl_append, List.foldl_cons, List.foldl_nil]]; exact h1⟩

set_option maxHeartbeats 4000000 in
set_option maxRecDepth 100000 in
theorem c_X12_tells_4a (l : Launch) (G : gW) (b : Nat) (π μ f : gPS) (g : Nat → Int64) (t : Nat) (ht : μ 4 1 = nI t) (htl : t ≤ 1000) (p : Nat) (hp : p < 6) (kk : Nat) (hkk : kk < 7) (ek : π 2 p = nI kk) (x : Int32) : gCI l yX12_tells cX12_tells 5 .int (gRm 9 210) G [.ref b, .int (nI p), .int 4, .int x] (fun H => gSg G b (gLM G b π μ f g) H) (fun r H => r = (gFli p (π 3 p) kk kk x).1 * 2 ∧ gSg G b (gLM G b π (gTrs μ ([12] ++ (gFli p (π 3 p) kk kk x).2)) f g) H) (fun q => b ≤ q ∧ q < b + 30) := by
  refine g_start (by decide) (Nat.le_of_ble_eq_true rfl) ?_
  intro pp_ ee_ s mm_ aa_ below meth cc_ ls Q hQ hX hE hP hl
  obtain ⟨hx, hb, hr, hml, hown, hT, hlk, hnm⟩ := hX
  have hK := hE.2.1
  have h1 := hP
  have hS : va_S (fun q => b ≤ q ∧ q < b + 30) s.heap s.heap [] := va_S.rf
  have hl : lv_has ls 5 [(0, .ref b), (1, .int (nI p)), (2, .int 4), (3, .int x)] := hl
  refine lv_iload_n hx hb dX12_tells_0 rfl (lv_at hl 2 rfl) ?_
  refine lv_lookup (off := 103) (tgt := 104) hx hb dX12_tells_1 (by decide) (by decide) (by decide) ?_
  refine lv_aload_n hx hb dX12_tells_104 rfl (lv_at hl 0 rfl) ?_
  refine lv_iload_n hx hb dX12_tells_105 rfl (lv_at hl 1 rfl) ?_
  refine lv_iload_n hx hb dX12_tells_106 rfl (lv_at hl 2 rfl) ?_
  refine g_ki (g_runS (rest := [.int (nI p), .ref b]) hx hb hml hown hE hT (c_X12_above l G 4) gM_X12_above gm_X12_313 gt_X12_above trivial rfl hl.1 ⟨rfl, rfl⟩ ⟨Nat.le_of_ble_eq_true rfl, Nat.le_of_ble_eq_true rfl⟩ ⟨Nat.zero_le _, Nat.zero_le _⟩ rfl (Nat.le_of_ble_eq_true rfl) dX12_tells_107) hS (fun _ h => h.elim) (fun r4 H1 locs q2 k3 hS => ?_)
  subst q2
  have h1 := gSg_free h1 k3 (by intro k hk q; simp only [List.length_cons, List.length_nil] at hk; omega)
  rw [show gAbove 4 = 1 from by decide]
  refine lv_iload_n hx hb dX12_tells_110 rfl (lv_at hl 3 rfl) ?_
  have hn111 := gFli_l p (π 3 p) kk kk x
  refine g_ki (g_runV (T := TX12) (ci := 12) (N := 45) (rest := []) hx hb hml hown hE hT (c_X12_tells_1 l G b π μ f g t ht (by first | omega | (simp only [List.length_append, List.length_cons, List.length_nil]; omega)) p hp kk hkk ek x) gM_X12_tells gm_X12_319 gi_X12_tells gs_RX12_yX12_tells_yX12_tells rfl (h1 0 _ rfl) h1 rfl hl.1 ⟨rfl, rfl⟩ ⟨Nat.le_of_ble_eq_true rfl, Nat.le_of_ble_eq_true rfl⟩ ⟨Nat.zero_le _, Nat.zero_le _⟩ rfl (Nat.le_of_ble_eq_true rfl) dX12_tells_111) hS (by intro q hq; omega) (fun r8 H5 locs q6 k7 hS => ?_)
  obtain ⟨e9, h1⟩ := q6
  rw [e9]
  rw [← hQ]
  exact g_iret hx hb hr hlk hS dX12_tells_114 ⟨rfl, by rw [show gTrs μ ([12] ++ (gFli p (π 3 p) kk kk x).2) = gTrs μ ([12] ++ (gFli p (π 3 p) kk kk x).2) from by simp only [gTrs, List.foldl_append, List.foldl_cons, List.foldl_nil]]; exact h1⟩

set_option maxHeartbeats 4000000 in
set_option maxRecDepth 100000 in
theorem c_X12_tells_5a (l : Launch) (G : gW) (b : Nat) (π μ f : gPS) (g : Nat → Int64) (t : Nat) (ht : μ 4 1 = nI t) (htl : t ≤ 1000) (p : Nat) (hp : p < 6) (kk : Nat) (hkk : kk < 7) (ek : π 2 p = nI kk) (x : Int32) : gCI l yX12_tells cX12_tells 5 .int (gRm 9 210) G [.ref b, .int (nI p), .int 5, .int x] (fun H => gSg G b (gLM G b π μ f g) H) (fun r H => r = (gFli p (π 3 p) kk kk (x - nI p)).1 * 2 ∧ gSg G b (gLM G b π (gTrs μ ([60, 12] ++ (gFli p (π 3 p) kk kk (x - nI p)).2)) f g) H) (fun q => b ≤ q ∧ q < b + 30) := by
  refine g_start (by decide) (Nat.le_of_ble_eq_true rfl) ?_
  intro pp_ ee_ s mm_ aa_ below meth cc_ ls Q hQ hX hE hP hl
  obtain ⟨hx, hb, hr, hml, hown, hT, hlk, hnm⟩ := hX
  have hK := hE.2.1
  have h1 := hP
  have hS : va_S (fun q => b ≤ q ∧ q < b + 30) s.heap s.heap [] := va_S.rf
  have hl : lv_has ls 5 [(0, .ref b), (1, .int (nI p)), (2, .int 5), (3, .int x)] := hl
  refine lv_iload_n hx hb dX12_tells_0 rfl (lv_at hl 2 rfl) ?_
  refine lv_lookup (off := 66) (tgt := 67) hx hb dX12_tells_1 (by decide) (by decide) (by decide) ?_
  refine lv_aload_n hx hb dX12_tells_67 rfl (lv_at hl 0 rfl) ?_
  refine lv_bipush (v := 60) hx hb dX12_tells_68 (by decide) ?_
  refine g_kv (g_runV (T := TX12) (ci := 12) (N := 45) (rest := []) hx hb hml hown hE hT (c_X12_ran l G b π μ f g t ht (by omega) 60) gM_X12_ran gm_X12_306 gi_X12_ran gs_RX12_yX12_ran_yX12_ran rfl (h1 0 _ rfl) h1 rfl hl.1 ⟨rfl, rfl⟩ ⟨Nat.le_of_ble_eq_true rfl, Nat.le_of_ble_eq_true rfl⟩ ⟨Nat.zero_le _, Nat.zero_le _⟩ rfl (Nat.le_of_ble_eq_true rfl) dX12_tells_70) hS (by intro q hq; omega) (fun H1 locs q2 k3 hS => ?_)
  have h1 := q2
  refine lv_aload_n hx hb dX12_tells_73 rfl (lv_at hl 0 rfl) ?_
  refine lv_iload_n hx hb dX12_tells_74 rfl (lv_at hl 1 rfl) ?_
  refine lv_iconst (v := 2) hx hb dX12_tells_75 (by decide) ?_
  refine lv_iload_n hx hb dX12_tells_76 rfl (lv_at hl 3 rfl) ?_
  refine lv_iload_n hx hb dX12_tells_77 rfl (lv_at hl 1 rfl) ?_
  refine lv_isub hx hb dX12_tells_78 ?_
  have hn79 := gFli_l p (π 3 p) kk kk (x - (nI p))
  refine g_ki (g_runV (T := TX12) (ci := 12) (N := 45) (rest := []) hx hb hml hown hE hT (c_X12_tells_2 l G b π (gTr1 μ 60) f g (t + 1) (gTr1_n ht) (by first | omega | (simp only [List.length_append, List.length_cons, List.length_nil]; omega)) p hp kk hkk ek (x - (nI p))) gM_X12_tells gm_X12_319 gi_X12_tells gs_RX12_yX12_tells_yX12_tells rfl (h1 0 _ rfl) h1 rfl hl.1 ⟨rfl, rfl⟩ ⟨Nat.le_of_ble_eq_true rfl, Nat.le_of_ble_eq_true rfl⟩ ⟨Nat.zero_le _, Nat.zero_le _⟩ rfl (Nat.le_of_ble_eq_true rfl) dX12_tells_79) hS (by intro q hq; omega) (fun r8 H5 locs q6 k7 hS => ?_)
  obtain ⟨e9, h1⟩ := q6
  rw [e9]
  rw [← hQ]
  exact g_iret hx hb hr hlk hS dX12_tells_82 ⟨rfl, by rw [show gTrs μ ([60, 12] ++ (gFli p (π 3 p) kk kk (x - nI p)).2) = gTrs (gTr1 μ 60) ([12] ++ (gFli p (π 3 p) kk kk (x - (nI p))).2) from by simp only [gTrs, List.foldl_append, List.foldl_cons, List.foldl_nil]]; exact h1⟩

set_option maxHeartbeats 4000000 in
set_option maxRecDepth 100000 in
theorem c_X12_tells_6a (l : Launch) (G : gW) (b : Nat) (π μ f : gPS) (g : Nat → Int64) (t : Nat) (ht : μ 4 1 = nI t) (htl : t ≤ 1000) (p : Nat) (hp : p < 6) (kk : Nat) (hkk : kk < 7) (ek : π 2 p = nI kk) (x : Int32) : gCI l yX12_tells cX12_tells 5 .int (gRm 9 210) G [.ref b, .int (nI p), .int 6, .int x] (fun H => gSg G b (gLM G b π μ f g) H) (fun r H => r = (gFli p (π 3 p) kk kk x).1 * 2 + (gFli p (π 3 p) kk kk 1).1 ∧ gSg G b (gLM G b π (gTrs μ ([40, 12] ++ (gFli p (π 3 p) kk kk x).2 ++ (gFli p (π 3 p) kk kk 1).2)) f g) H) (fun q => b ≤ q ∧ q < b + 30) := by
  refine g_start (by decide) (Nat.le_of_ble_eq_true rfl) ?_
  intro pp_ ee_ s mm_ aa_ below meth cc_ ls Q hQ hX hE hP hl
  obtain ⟨hx, hb, hr, hml, hown, hT, hlk, hnm⟩ := hX
  have hK := hE.2.1
  have h1 := hP
  have hS : va_S (fun q => b ≤ q ∧ q < b + 30) s.heap s.heap [] := va_S.rf
  have hl : lv_has ls 5 [(0, .ref b), (1, .int (nI p)), (2, .int 6), (3, .int x)] := hl
  refine lv_iload_n hx hb dX12_tells_0 rfl (lv_at hl 2 rfl) ?_
  refine lv_lookup (off := 103) (tgt := 104) hx hb dX12_tells_1 (by decide) (by decide) (by decide) ?_
  refine lv_aload_n hx hb dX12_tells_104 rfl (lv_at hl 0 rfl) ?_
  refine lv_iload_n hx hb dX12_tells_105 rfl (lv_at hl 1 rfl) ?_
  refine lv_iload_n hx hb dX12_tells_106 rfl (lv_at hl 2 rfl) ?_
  refine g_ki (g_runS (rest := [.int (nI p), .ref b]) hx hb hml hown hE hT (c_X12_above l G 6) gM_X12_above gm_X12_313 gt_X12_above trivial rfl hl.1 ⟨rfl, rfl⟩ ⟨Nat.le_of_ble_eq_true rfl, Nat.le_of_ble_eq_true rfl⟩ ⟨Nat.zero_le _, Nat.zero_le _⟩ rfl (Nat.le_of_ble_eq_true rfl) dX12_tells_107) hS (fun _ h => h.elim) (fun r4 H1 locs q2 k3 hS => ?_)
  subst q2
  have h1 := gSg_free h1 k3 (by intro k hk q; simp only [List.length_cons, List.length_nil] at hk; omega)
  rw [show gAbove 6 = 3 from by decide]
  refine lv_iload_n hx hb dX12_tells_110 rfl (lv_at hl 3 rfl) ?_
  have hn111 := gFli_l p (π 3 p) kk kk x
  refine g_ki (g_runV (T := TX12) (ci := 12) (N := 45) (rest := []) hx hb hml hown hE hT (c_X12_tells_3 l G b π μ f g t ht (by first | omega | (simp only [List.length_append, List.length_cons, List.length_nil]; omega)) p hp kk hkk ek x) gM_X12_tells gm_X12_319 gi_X12_tells gs_RX12_yX12_tells_yX12_tells rfl (h1 0 _ rfl) h1 rfl hl.1 ⟨rfl, rfl⟩ ⟨Nat.le_of_ble_eq_true rfl, Nat.le_of_ble_eq_true rfl⟩ ⟨Nat.zero_le _, Nat.zero_le _⟩ rfl (Nat.le_of_ble_eq_true rfl) dX12_tells_111) hS (by intro q hq; omega) (fun r8 H5 locs q6 k7 hS => ?_)
  obtain ⟨e9, h1⟩ := q6
  rw [e9]
  rw [← hQ]
  exact g_iret hx hb hr hlk hS dX12_tells_114 ⟨rfl, by rw [show gTrs μ ([40, 12] ++ (gFli p (π 3 p) kk kk x).2 ++ (gFli p (π 3 p) kk kk 1).2) = gTrs μ ([40, 12] ++ (gFli p (π 3 p) kk kk x).2 ++ (gFli p (π 3 p) kk kk 1).2) from by simp only [gTrs, List.foldl_append, List.foldl_cons, List.foldl_nil]]; exact h1⟩

theorem c_X12_tells_all (l : Launch) (G : gW) (b : Nat) (π μ f : gPS) (g : Nat → Int64) (t : Nat) (ht : μ 4 1 = nI t) (htl : t ≤ 1000) (p : Nat) (hp : p < 6) (kk : Nat) (hkk : kk < 7) (ek : π 2 p = nI kk) (k : Nat) (hk7 : k < 7) (x : Int32) : gCI l yX12_tells cX12_tells 5 .int (gRm 9 210) G [.ref b, .int (nI p), .int (nI k), .int x] (fun H => gSg G b (gLM G b π μ f g) H) (fun r H => r = (gTel p (π 3 p) kk k x).1 ∧ gSg G b (gLM G b π (gTrs μ (gTel p (π 3 p) kk k x).2) f g) H) (fun q => b ≤ q ∧ q < b + 30) := by
  have h7 : k = 0 ∨ k = 1 ∨ k = 2 ∨ k = 3 ∨ k = 4 ∨ k = 5 ∨ k = 6 := by omega
  rcases h7 with rfl | rfl | rfl | rfl | rfl | rfl | rfl
  · exact c_X12_tells_0a l G b π μ f g t ht htl p hp kk hkk ek x
  · exact c_X12_tells_1a l G b π μ f g t ht htl p hp kk hkk ek x
  · exact c_X12_tells_2a l G b π μ f g t ht htl p hp kk hkk ek x
  · exact c_X12_tells_3a l G b π μ f g t ht htl p hp kk hkk ek x
  · exact c_X12_tells_4a l G b π μ f g t ht htl p hp kk hkk ek x
  · exact c_X12_tells_5a l G b π μ f g t ht htl p hp kk hkk ek x
  · exact c_X12_tells_6a l G b π μ f g t ht htl p hp kk hkk ek x

set_option maxHeartbeats 4000000 in
set_option maxRecDepth 100000 in
theorem c_X12_act (l : Launch) (G : gW) (b : Nat) (π μ f : gPS) (g : Nat → Int64) (n : Nat) (hz : π 15 0 = nI n) (hn : n ≤ 6) (hki : ∀ k, k < n → ∃ z, z < 7 ∧ π 2 k = nI z) (p a x : Int32) : gCI l yX12_act cX12_act 5 .int (gRm 10 234) G [.ref b, .int p, .int a, .int x] (fun H => gSg G b (gLM G b π μ f g) H) (fun r H => r = (gqAct π μ p a x).1 ∧ gSg G b (gLM G b π (gqAct π μ p a x).2 f g) H) (fun q => b ≤ q ∧ q < b + 30) := by
  refine g_start (by decide) (Nat.le_of_ble_eq_true rfl) ?_
  intro pp_ ee_ s mm_ aa_ below meth cc_ ls Q hQ hX hE hP hl
  obtain ⟨hx, hb, hr, hml, hown, hT, hlk, hnm⟩ := hX
  have hK := hE.2.1
  have h1 := hP
  have hS : va_S (fun q => b ≤ q ∧ q < b + 30) s.heap s.heap [] := va_S.rf
  have hl : lv_has ls 5 [(0, .ref b), (1, .int p), (2, .int a), (3, .int x)] := hl
  refine lv_aload_n hx hb dX12_act_0 rfl (lv_at hl 0 rfl) ?_
  refine lv_iconst (v := 0) hx hb dX12_act_1 (by decide) ?_
  refine g_put (T := TX12) (ci := 12) (N := 45) (ty0 := tyX12) hx hb hown hK hS (gY_X12 hT) tyX12_ok nmX12 rfl (h1 0 _ rfl) 37 (by decide) (hT _ gf_X12_303) rfl rfl rfl (Nat.le_of_ble_eq_true rfl) (by omega) dX12_act_2 (fun H1 locs c2 oq hS => ?_)
  have h1 : gSg G b (gLM G b π (gU μ 4 1 0) f g) H1 := gSg_set h1 0 c2 oq
  refine lv_aload_n hx hb dX12_act_5 rfl (lv_at hl 0 rfl) ?_
  refine lv_iload_n hx hb dX12_act_6 rfl (lv_at hl 1 rfl) ?_
  refine g_ki (g_runV (T := TX12) (ci := 12) (N := 45) (rest := []) hx hb hml hown hE hT (c_X12_isOne l G b π (gU μ 4 1 0) f g n hz (by omega) p) gM_X12_isOne gm_X12_112 gi_X12_isOne gs_RX12_yX12_isOne_yX12_isOne rfl (h1 0 _ rfl) h1 rfl hl.1 ⟨rfl, rfl⟩ ⟨Nat.le_of_ble_eq_true rfl, Nat.le_of_ble_eq_true rfl⟩ ⟨Nat.zero_le _, Nat.zero_le _⟩ rfl (Nat.le_of_ble_eq_true rfl) dX12_act_7) hS (fun _ h => h.elim) (fun r6 H3 locs q4 k5 hS => ?_)
  subst q4
  have h1 := gSg_free h1 k5 (by intro k hk q; simp only [List.length_cons, List.length_nil] at hk; omega)
  refine lv_if_eq (tgt := 22) hx hb dX12_act_10 (by decide) (fun c7 => ?_) (fun c7 => ?_)
  · have c7 : ¬ (0 ≤ p ∧ p < π 15 0) := gB_0.mp c7
    refine lv_iconst (v := 0) hx hb dX12_act_22 (by decide) ?_
    rw [← hQ]
    exact g_iret hx hb hr hlk hS dX12_act_23 (by rw [show gqAct π μ p a x = (0, gU μ 4 1 0) from by simp only [gqAct, if_neg c7]]; exact ⟨rfl, h1⟩)
  · have c7 : 0 ≤ p ∧ p < π 15 0 := gB_1.mp c7
    obtain ⟨q, hq, eq⟩ := gIx hz (by omega) c7
    subst eq
    refine lv_iload_n hx hb dX12_act_13 rfl (lv_at hl 2 rfl) ?_
    refine lv_iconst (v := 0) hx hb dX12_act_14 (by decide) ?_
    refine lv_iconst (v := 2) hx hb dX12_act_15 (by decide) ?_
    refine g_ki (g_runS (rest := []) hx hb hml hown hE hT (c_X12_within l G a 0 2) gM_X12_within gm_X12_108 gt_X12_within trivial rfl hl.1 ⟨rfl, rfl⟩ ⟨Nat.le_of_ble_eq_true rfl, Nat.le_of_ble_eq_true rfl⟩ ⟨Nat.zero_le _, Nat.zero_le _⟩ rfl (Nat.le_of_ble_eq_true rfl) dX12_act_16) hS (fun _ h => h.elim) (fun r11 H8 locs q9 k10 hS => ?_)
    subst q9
    have h1 := gSg_free h1 k10 (by intro k hk q; simp only [List.length_cons, List.length_nil] at hk; omega)
    refine lv_if_ne (tgt := 24) hx hb dX12_act_19 (by decide) (fun c12 => ?_) (fun c12 => ?_)
    · have c12 : 0 ≤ a ∧ a ≤ 2 := gB_1.mp c12
      obtain ⟨kk, hkk, ek⟩ := hki q hq
      have ec : (π 2 q).toNatClampNeg = kk := by rw [ek, nI_clamp (by omega)]
      have h1 : gSg G b (gLM G b π (gU μ 4 1 0) f g) H8 := h1
      refine lv_aload_n hx hb dX12_act_24 rfl (lv_at hl 0 rfl) ?_
      refine g_get (v := .ref (b + 3)) (T := TX12) (ci := 12) (N := 45) hx hb hown hK (gY_X12 hT) rfl (h1 0 _ rfl) 4 (by decide) (hT _ gf_X12_18) rfl dX12_act_25 ?_
      refine lv_iload_n hx hb dX12_act_28 rfl (lv_at hl 1 rfl) ?_
      refine g_ia (j := q) (v := π 2 q) hx hb hK (h1 3 _ rfl) rfl (by omega) (Nat.le_of_ble_eq_true rfl) rfl dX12_act_29 ?_
      refine lv_istore (lv' := [(4, .int (π 2 q)), (0, .ref b), (1, .int (nI q)), (2, .int a), (3, .int x)]) hx hb dX12_act_30 hl (by decide) rfl (fun ls hl => ?_)
      refine lv_iload_n hx hb dX12_act_32 rfl (lv_at hl 3 rfl) ?_
      refine lv_if_ne (tgt := 47) hx hb dX12_act_33 (by decide) (fun c13 => ?_) (fun c13 => ?_)
      · refine lv_iload_n hx hb dX12_act_47 rfl (lv_at hl 3 rfl) ?_
        refine lv_iconst (v := 1) hx hb dX12_act_48 (by decide) ?_
        refine lv_icmp_ne (tgt := 63) hx hb dX12_act_49 (by decide) (fun c14 => ?_) (fun c14 => ?_)
        · refine lv_aload_n hx hb dX12_act_63 rfl (lv_at hl 1 rfl) ?_
          refine lv_iload_n hx hb dX12_act_64 rfl (lv_at hl 2 rfl) ?_
          refine lv_iload hx hb dX12_act_65 (lv_at hl 0 rfl) ?_
          refine lv_iload_n hx hb dX12_act_67 rfl (lv_at hl 4 rfl) ?_
          rw [ek]
          refine g_ki (g_runV (T := TX12) (ci := 12) (N := 45) (rest := []) hx hb hml hown hE hT (c_X12_tells_all l G b π (gU μ 4 1 0) f g 0 gU_e (by omega) q (by omega) kk hkk ek kk hkk x) gM_X12_tells gm_X12_319 gi_X12_tells gs_RX12_yX12_tells_yX12_tells rfl (h1 0 _ rfl) h1 rfl hl.1 ⟨rfl, rfl⟩ ⟨Nat.le_of_ble_eq_true rfl, Nat.le_of_ble_eq_true rfl⟩ ⟨Nat.zero_le _, Nat.zero_le _⟩ rfl (Nat.le_of_ble_eq_true rfl) dX12_act_68) hS (by intro q hq; omega) (fun r18 H15 locs q16 k17 hS => ?_)
          obtain ⟨e9, h1⟩ := q16
          rw [e9]
          rw [← hQ]
          exact g_iret hx hb hr hlk hS dX12_act_71 (by rw [show gqAct π μ (nI q) a x = ((gTel q (π 3 q) kk kk x).1, gTrs (gU μ 4 1 0) (gTel q (π 3 q) kk kk x).2) from by simp only [gqAct, if_pos c7, if_pos c12, nI_clamp (show q < 2 ^ 31 by omega), gAct, ec, if_neg c13, if_neg c14]]; exact ⟨rfl, h1⟩)
        · refine lv_aload_n hx hb dX12_act_52 rfl (lv_at hl 1 rfl) ?_
          refine lv_iload_n hx hb dX12_act_53 rfl (lv_at hl 2 rfl) ?_
          refine lv_iload hx hb dX12_act_54 (lv_at hl 0 rfl) ?_
          refine lv_iload_n hx hb dX12_act_56 rfl (lv_at hl 4 rfl) ?_
          rw [ek]
          refine g_ki (g_runV (T := TX12) (ci := 12) (N := 45) (rest := []) hx hb hml hown hE hT (c_X12_flies_all l G b π (gU μ 4 1 0) f g 0 gU_e (by omega) q (by omega) kk hkk ek kk hkk x) gM_X12_flies gm_X12_316 gi_X12_flies gs_RX12_yX12_flies_yX12_flies rfl (h1 0 _ rfl) h1 rfl hl.1 ⟨rfl, rfl⟩ ⟨Nat.le_of_ble_eq_true rfl, Nat.le_of_ble_eq_true rfl⟩ ⟨Nat.zero_le _, Nat.zero_le _⟩ rfl (Nat.le_of_ble_eq_true rfl) dX12_act_57) hS (by intro q hq; omega) (fun r22 H19 locs q20 k21 hS => ?_)
          obtain ⟨e9, h1⟩ := q20
          rw [e9]
          refine lv_goto (tgt := 71) hx hb dX12_act_60 (by decide) ?_
          rw [← hQ]
          exact g_iret hx hb hr hlk hS dX12_act_71 (by rw [show gqAct π μ (nI q) a x = ((gFli q (π 3 q) kk kk x).1, gTrs (gU μ 4 1 0) (gFli q (π 3 q) kk kk x).2) from by simp only [gqAct, if_pos c7, if_pos c12, nI_clamp (show q < 2 ^ 31 by omega), gAct, ec, if_neg c13, if_pos c14]]; exact ⟨rfl, h1⟩)
      · refine lv_aload_n hx hb dX12_act_36 rfl (lv_at hl 1 rfl) ?_
        refine lv_iload_n hx hb dX12_act_37 rfl (lv_at hl 2 rfl) ?_
        refine lv_iload hx hb dX12_act_38 (lv_at hl 0 rfl) ?_
        refine lv_iload_n hx hb dX12_act_40 rfl (lv_at hl 4 rfl) ?_
        rw [ek]
        refine g_ki (g_runV (T := TX12) (ci := 12) (N := 45) (rest := []) hx hb hml hown hE hT (c_X12_coos_all l G b π (gU μ 4 1 0) f g 0 gU_e (by omega) q (by omega)  kk hkk x) gM_X12_coos gm_X12_310 gi_X12_coos gs_RX12_yX12_coos_yX12_coos rfl (h1 0 _ rfl) h1 rfl hl.1 ⟨rfl, rfl⟩ ⟨Nat.le_of_ble_eq_true rfl, Nat.le_of_ble_eq_true rfl⟩ ⟨Nat.zero_le _, Nat.zero_le _⟩ rfl (Nat.le_of_ble_eq_true rfl) dX12_act_41) hS (by intro q hq; omega) (fun r26 H23 locs q24 k25 hS => ?_)
        obtain ⟨e9, h1⟩ := q24
        rw [e9]
        refine lv_goto (tgt := 71) hx hb dX12_act_44 (by decide) ?_
        rw [← hQ]
        exact g_iret hx hb hr hlk hS dX12_act_71 (by rw [show gqAct π μ (nI q) a x = ((gCoo q (π 3 q) kk x).1, gTrs (gU μ 4 1 0) (gCoo q (π 3 q) kk x).2) from by simp only [gqAct, if_pos c7, if_pos c12, nI_clamp (show q < 2 ^ 31 by omega), gAct, ec, if_pos c13]]; exact ⟨rfl, h1⟩)
    · have c12 : ¬ (0 ≤ a ∧ a ≤ 2) := gB_0.mp c12
      refine lv_iconst (v := 0) hx hb dX12_act_22 (by decide) ?_
      rw [← hQ]
      exact g_iret hx hb hr hlk hS dX12_act_23 (by rw [show gqAct π μ (nI q) a x = (0, gU μ 4 1 0) from by simp only [gqAct, if_pos c7, if_neg c12]]; exact ⟨rfl, h1⟩)
