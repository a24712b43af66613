set_option maxHeartbeats 4000000 in
set_option maxRecDepth 100000 in
theorem c_X12_within (l : Launch) (G : gW) (v lo hi : Int32) : gCI l yX12_within cX12_within 3 .boolean (gRm 0 0) G [.int v, .int lo, .int hi] (fun H => True) (fun r H => r = gB (lo ≤ v ∧ v ≤ hi)) (fun _ => False) := by
  refine g_start (by decide) (Nat.le_of_ble_eq_true rfl) ?_
  intro pp_ ee_ s mm_ aa_ below meth cc_ ls Q hQ hX hE hP hl
  obtain ⟨hx, hb, hr, hml, hown, hT, hlk, hnm⟩ := hX
  have hK := hE.2.1
  have hS : va_S (fun _ => False) s.heap s.heap [] := va_S.rf
  have hl : lv_has ls 3 [(0, .int v), (1, .int lo), (2, .int hi)] := hl
  refine lv_iload_n hx hb dX12_within_0 rfl (lv_at hl 0 rfl) ?_
  refine lv_iload_n hx hb dX12_within_1 rfl (lv_at hl 1 rfl) ?_
  refine lv_icmp_lt (tgt := 14) hx hb dX12_within_2 (by decide) (fun c1 => ?_) (fun c1 => ?_)
  · refine lv_iconst (v := 0) hx hb dX12_within_14 (by decide) ?_
    rw [← hQ]
    exact g_zret hx hb hr hlk rfl hS dX12_within_15 (by rw [gB_f (by simp only [Int32.lt_iff_toInt_lt, Int32.le_iff_toInt_le, gz_m1, gz_0, gz_1, gz_2, gz_3, gz_4, gz_5, gz_6, gz_7, gz_8, gz_9, gz_10, gz_11, gz_12, gz_20, gz_30, gz_50, gz_57, gz_58, gz_59, gz_60, gz_61, gz_71, gz_99, gz_100, gz_110, gz_127, gz_255, gz_4095, gz_4096, gz_9999] at c1 ⊢; omega)])
  · refine lv_iload_n hx hb dX12_within_5 rfl (lv_at hl 0 rfl) ?_
    refine lv_iload_n hx hb dX12_within_6 rfl (lv_at hl 2 rfl) ?_
    refine lv_icmp_gt (tgt := 14) hx hb dX12_within_7 (by decide) (fun c2 => ?_) (fun c2 => ?_)
    · refine lv_iconst (v := 0) hx hb dX12_within_14 (by decide) ?_
      rw [← hQ]
      exact g_zret hx hb hr hlk rfl hS dX12_within_15 (by rw [gB_f (by simp only [Int32.lt_iff_toInt_lt, Int32.le_iff_toInt_le, gz_m1, gz_0, gz_1, gz_2, gz_3, gz_4, gz_5, gz_6, gz_7, gz_8, gz_9, gz_10, gz_11, gz_12, gz_20, gz_30, gz_50, gz_57, gz_58, gz_59, gz_60, gz_61, gz_71, gz_99, gz_100, gz_110, gz_127, gz_255, gz_4095, gz_4096, gz_9999] at c1 c2 ⊢; omega)])
    · refine lv_iconst (v := 1) hx hb dX12_within_10 (by decide) ?_
      refine lv_goto (tgt := 15) hx hb dX12_within_11 (by decide) ?_
      rw [← hQ]
      exact g_zret hx hb hr hlk rfl hS dX12_within_15 (by rw [gB_t (by simp only [Int32.lt_iff_toInt_lt, Int32.le_iff_toInt_le, gz_m1, gz_0, gz_1, gz_2, gz_3, gz_4, gz_5, gz_6, gz_7, gz_8, gz_9, gz_10, gz_11, gz_12, gz_20, gz_30, gz_50, gz_57, gz_58, gz_59, gz_60, gz_61, gz_71, gz_99, gz_100, gz_110, gz_127, gz_255, gz_4095, gz_4096, gz_9999] at c1 c2 ⊢; omega)])

set_option maxHeartbeats 4000000 in
set_option maxRecDepth 100000 in
theorem c_X12_isOne (l : Launch) (G : gW) (b : Nat) (π μ f : gPS) (g : Nat → Int64) (n : Nat) (hz : π 15 0 = nI n) (hn : n ≤ 4096) (p : Int32) : gCI l yX12_isOne cX12_isOne 2 .boolean (gRm 1 22) G [.ref b, .int p] (fun H => gSg G b (gLM G b π μ f g) H) (fun r H => r = gB (0 ≤ p ∧ p < π 15 0)) (fun _ => False) := by
  refine g_start (by decide) (Nat.le_of_ble_eq_true rfl) ?_
  intro pp_ ee_ s mm_ aa_ below meth cc_ ls Q hQ hX hE hP hl
  obtain ⟨hx, hb, hr, hml, hown, hT, hlk, hnm⟩ := hX
  have hK := hE.2.1
  have h1 := hP
  have hS : va_S (fun _ => False) s.heap s.heap [] := va_S.rf
  have hl : lv_has ls 2 [(0, .ref b), (1, .int p)] := hl
  refine lv_iload_n hx hb dX12_isOne_0 rfl (lv_at hl 1 rfl) ?_
  refine lv_iconst (v := 0) hx hb dX12_isOne_1 (by decide) ?_
  refine lv_aload_n hx hb dX12_isOne_2 rfl (lv_at hl 0 rfl) ?_
  refine g_get (v := .int (π 15 0)) (T := TX12) (ci := 12) (N := 45) hx hb hown hK (gY_X12 hT) rfl (h1 0 _ rfl) 3 (by decide) (hT _ gf_X12_105) rfl dX12_isOne_3 ?_
  refine lv_iconst (v := 1) hx hb dX12_isOne_6 (by decide) ?_
  refine lv_isub hx hb dX12_isOne_7 ?_
  refine g_ki (g_runS (rest := []) hx hb hml hown hE hT (c_X12_within l G p 0 ((π 15 0) - 1)) gM_X12_within gm_X12_108 gt_X12_within trivial rfl hl.1 ⟨rfl, rfl⟩ ⟨Nat.le_of_ble_eq_true rfl, Nat.le_of_ble_eq_true rfl⟩ ⟨Nat.zero_le _, Nat.zero_le _⟩ rfl (Nat.le_of_ble_eq_true rfl) dX12_isOne_8) hS (fun _ h => h.elim) (fun r4 H1 locs q2 k3 hS => ?_)
  subst q2
  have h1 := gSg_free h1 k3 (by intro k hk q; simp only [List.length_cons, List.length_nil] at hk; omega)
  rw [← hQ]
  exact g_zret hx hb hr hlk gB_n hS dX12_isOne_11 (gB_c (gPred hz hn))

set_option maxHeartbeats 4000000 in
set_option maxRecDepth 100000 in
theorem c_X12_isWord (l : Launch) (G : gW) (p : Int32) : gCI l yX12_isWord cX12_isWord 1 .boolean (gRm 1 22) G [.int p] (fun H => True) (fun r H => r = gB (0 ≤ p ∧ p ≤ 11)) (fun _ => False) := by
  refine g_start (by decide) (Nat.le_of_ble_eq_true rfl) ?_
  intro pp_ ee_ s mm_ aa_ below meth cc_ ls Q hQ hX hE hP hl
  obtain ⟨hx, hb, hr, hml, hown, hT, hlk, hnm⟩ := hX
  have hK := hE.2.1
  have hS : va_S (fun _ => False) s.heap s.heap [] := va_S.rf
  have hl : lv_has ls 1 [(0, .int p)] := hl
  refine lv_iload_n hx hb dX12_isWord_0 rfl (lv_at hl 0 rfl) ?_
  refine lv_iconst (v := 0) hx hb dX12_isWord_1 (by decide) ?_
  refine lv_bipush (v := 11) hx hb dX12_isWord_2 (by decide) ?_
  refine g_ki (g_runS (rest := []) hx hb hml hown hE hT (c_X12_within l G p 0 11) gM_X12_within gm_X12_108 gt_X12_within trivial rfl hl.1 ⟨rfl, rfl⟩ ⟨Nat.le_of_ble_eq_true rfl, Nat.le_of_ble_eq_true rfl⟩ ⟨Nat.zero_le _, Nat.zero_le _⟩ rfl (Nat.le_of_ble_eq_true rfl) dX12_isWord_4) hS (fun _ h => h.elim) (fun r4 H1 locs q2 k3 hS => ?_)
  subst q2
  rw [← hQ]
  exact g_zret hx hb hr hlk gB_n hS dX12_isWord_7 rfl

set_option maxHeartbeats 4000000 in
set_option maxRecDepth 100000 in
theorem c_X12_areWords (l : Launch) (G : gW) (p : Int32) : gCI l yX12_areWords cX12_areWords 1 .boolean (gRm 1 22) G [.int p] (fun H => True) (fun r H => r = gB (0 ≤ p ∧ p ≤ 4095)) (fun _ => False) := by
  refine g_start (by decide) (Nat.le_of_ble_eq_true rfl) ?_
  intro pp_ ee_ s mm_ aa_ below meth cc_ ls Q hQ hX hE hP hl
  obtain ⟨hx, hb, hr, hml, hown, hT, hlk, hnm⟩ := hX
  have hK := hE.2.1
  have hS : va_S (fun _ => False) s.heap s.heap [] := va_S.rf
  have hl : lv_has ls 1 [(0, .int p)] := hl
  refine lv_iload_n hx hb dX12_areWords_0 rfl (lv_at hl 0 rfl) ?_
  refine lv_iconst (v := 0) hx hb dX12_areWords_1 (by decide) ?_
  refine lv_sipush (v := 4095) hx hb dX12_areWords_2 (by decide) ?_
  refine g_ki (g_runS (rest := []) hx hb hml hown hE hT (c_X12_within l G p 0 4095) gM_X12_within gm_X12_108 gt_X12_within trivial rfl hl.1 ⟨rfl, rfl⟩ ⟨Nat.le_of_ble_eq_true rfl, Nat.le_of_ble_eq_true rfl⟩ ⟨Nat.zero_le _, Nat.zero_le _⟩ rfl (Nat.le_of_ble_eq_true rfl) dX12_areWords_5) hS (fun _ h => h.elim) (fun r4 H1 locs q2 k3 hS => ?_)
  subst q2
  rw [← hQ]
  exact g_zret hx hb hr hlk gB_n hS dX12_areWords_8 rfl

set_option maxHeartbeats 4000000 in
set_option maxRecDepth 100000 in
theorem c_X12_isTape (l : Launch) (G : gW) (p : Int32) : gCI l yX12_isTape cX12_isTape 1 .boolean (gRm 1 22) G [.int p] (fun H => True) (fun r H => r = gB (0 ≤ p ∧ p ≤ 5)) (fun _ => False) := by
  refine g_start (by decide) (Nat.le_of_ble_eq_true rfl) ?_
  intro pp_ ee_ s mm_ aa_ below meth cc_ ls Q hQ hX hE hP hl
  obtain ⟨hx, hb, hr, hml, hown, hT, hlk, hnm⟩ := hX
  have hK := hE.2.1
  have hS : va_S (fun _ => False) s.heap s.heap [] := va_S.rf
  have hl : lv_has ls 1 [(0, .int p)] := hl
  refine lv_iload_n hx hb dX12_isTape_0 rfl (lv_at hl 0 rfl) ?_
  refine lv_iconst (v := 0) hx hb dX12_isTape_1 (by decide) ?_
  refine lv_iconst (v := 5) hx hb dX12_isTape_2 (by decide) ?_
  refine g_ki (g_runS (rest := []) hx hb hml hown hE hT (c_X12_within l G p 0 5) gM_X12_within gm_X12_108 gt_X12_within trivial rfl hl.1 ⟨rfl, rfl⟩ ⟨Nat.le_of_ble_eq_true rfl, Nat.le_of_ble_eq_true rfl⟩ ⟨Nat.zero_le _, Nat.zero_le _⟩ rfl (Nat.le_of_ble_eq_true rfl) dX12_isTape_3) hS (fun _ h => h.elim) (fun r4 H1 locs q2 k3 hS => ?_)
  subst q2
  rw [← hQ]
  exact g_zret hx hb hr hlk gB_n hS dX12_isTape_6 rfl

set_option maxHeartbeats 4000000 in
set_option maxRecDepth 100000 in
theorem c_X12_letter (l : Launch) (G : gW) (b : Nat) (π μ f : gPS) (g : Nat → Int64) (n : Nat) (hz : π 15 0 = nI n) (hn : n ≤ 6) (p w : Int32) : gCI l yX12_letter cX12_letter 4 .int (gRm 2 43) G [.ref b, .int p, .int w] (fun H => gSg G b (gLM G b π μ f g) H) (fun r H => r = (gqLetter π p w).1 ∧ gSg G b (gLM G b (gqLetter π p w).2 μ f g) H) (fun q => b ≤ q ∧ q < b + 30) := by
  refine g_start (by decide) (Nat.le_of_ble_eq_true rfl) ?_
  intro pp_ ee_ s mm_ aa_ below meth cc_ ls Q hQ hX hE hP hl
  obtain ⟨hx, hb, hr, hml, hown, hT, hlk, hnm⟩ := hX
  have hK := hE.2.1
  have h1 := hP
  have hS : va_S (fun q => b ≤ q ∧ q < b + 30) s.heap s.heap [] := va_S.rf
  have hl : lv_has ls 4 [(0, .ref b), (1, .int p), (2, .int w)] := hl
  refine lv_aload_n hx hb dX12_letter_0 rfl (lv_at hl 0 rfl) ?_
  refine lv_iload_n hx hb dX12_letter_1 rfl (lv_at hl 1 rfl) ?_
  refine g_ki (g_runV (T := TX12) (ci := 12) (N := 45) (rest := []) hx hb hml hown hE hT (c_X12_isOne l G b π μ f g n hz (by omega) p) gM_X12_isOne gm_X12_112 gi_X12_isOne gs_RX12_yX12_isOne_yX12_isOne rfl (h1 0 _ rfl) h1 rfl hl.1 ⟨rfl, rfl⟩ ⟨Nat.le_of_ble_eq_true rfl, Nat.le_of_ble_eq_true rfl⟩ ⟨Nat.zero_le _, Nat.zero_le _⟩ rfl (Nat.le_of_ble_eq_true rfl) dX12_letter_2) hS (fun _ h => h.elim) (fun r4 H1 locs q2 k3 hS => ?_)
  subst q2
  have h1 := gSg_free h1 k3 (by intro k hk q; simp only [List.length_cons, List.length_nil] at hk; omega)
  refine lv_if_ne (tgt := 10) hx hb dX12_letter_5 (by decide) (fun c5 => ?_) (fun c5 => ?_)
  · have c5 : 0 ≤ p ∧ p < π 15 0 := gB_1.mp c5
    obtain ⟨k, hk, ek⟩ := gIx hz (by omega) c5
    subst ek
    refine lv_iload_n hx hb dX12_letter_10 rfl (lv_at hl 2 rfl) ?_
    refine g_ki (g_runS (rest := []) hx hb hml hown hE hT (c_X12_areWords l G w) gM_X12_areWords gm_X12_123 gt_X12_areWords trivial rfl hl.1 ⟨rfl, rfl⟩ ⟨Nat.le_of_ble_eq_true rfl, Nat.le_of_ble_eq_true rfl⟩ ⟨Nat.zero_le _, Nat.zero_le _⟩ rfl (Nat.le_of_ble_eq_true rfl) dX12_letter_11) hS (fun _ h => h.elim) (fun r9 H6 locs q7 k8 hS => ?_)
    subst q7
    have h1 := gSg_free h1 k8 (by intro k hk q; simp only [List.length_cons, List.length_nil] at hk; omega)
    refine lv_if_ne (tgt := 20) hx hb dX12_letter_14 (by decide) (fun c10 => ?_) (fun c10 => ?_)
    · have c10 : 0 ≤ w ∧ w ≤ 4095 := gB_1.mp c10
      refine lv_aload_n hx hb dX12_letter_20 rfl (lv_at hl 0 rfl) ?_
      refine g_get (v := .ref (b + 5)) (T := TX12) (ci := 12) (N := 45) hx hb hown hK (gY_X12 hT) rfl (h1 0 _ rfl) 6 (by decide) (hT _ gf_X12_24) rfl dX12_letter_21 ?_
      refine lv_iload_n hx hb dX12_letter_24 rfl (lv_at hl 1 rfl) ?_
      refine g_ia (j := k) (v := π 4 k) hx hb hK (h1 5 _ rfl) rfl (by omega) (Nat.le_of_ble_eq_true rfl) rfl dX12_letter_25 ?_
      refine lv_istore_n (lv' := [(3, .int (π 4 k)), (0, .ref b), (1, .int (nI k)), (2, .int w)]) hx hb dX12_letter_26 rfl hl (by decide) rfl (fun ls hl => ?_)
      refine lv_aload_n hx hb dX12_letter_27 rfl (lv_at hl 1 rfl) ?_
      refine g_get (v := .ref (b + 5)) (T := TX12) (ci := 12) (N := 45) hx hb hown hK (gY_X12 hT) rfl (h1 0 _ rfl) 6 (by decide) (hT _ gf_X12_24) rfl dX12_letter_28 ?_
      refine lv_iload_n hx hb dX12_letter_31 rfl (lv_at hl 2 rfl) ?_
      refine lv_iload_n hx hb dX12_letter_32 rfl (lv_at hl 3 rfl) ?_
      refine g_is (j := k) hx hb hK hS (h1 5 _ rfl) rfl (by omega) (Nat.le_of_ble_eq_true rfl) (by omega) dX12_letter_33 (fun H11 locs c12 oq hS => ?_)
      have h1 : gSg G b (gLM G b (gU π 4 k w) μ f g) H11 := gSg_set h1 5 c12 oq
      refine lv_iload_n hx hb dX12_letter_34 rfl (lv_at hl 0 rfl) ?_
      rw [← hQ]
      exact g_iret hx hb hr hlk hS dX12_letter_35 (by rw [show gqLetter π (nI k) w = (π 4 k, gU π 4 k w) from by simp only [gqLetter, if_pos c5, if_pos c10, nI_clamp (show k < 2 ^ 31 by omega)] <;> rfl]; exact ⟨rfl, h1⟩)
    · have c10 : ¬ (0 ≤ w ∧ w ≤ 4095) := gB_0.mp c10
      refine lv_bipush (v := (-2)) hx hb dX12_letter_17 (by decide) ?_
      rw [← hQ]
      exact g_iret hx hb hr hlk hS dX12_letter_19 (by rw [show gqLetter π (nI k) w = ((-2), π) from by simp only [gqLetter, if_pos c5, if_neg c10, nI_clamp (show k < 2 ^ 31 by omega)] <;> rfl]; exact ⟨rfl, h1⟩)
  · have c5 : ¬ (0 ≤ p ∧ p < π 15 0) := gB_0.mp c5
    refine lv_iconst (v := (-1)) hx hb dX12_letter_8 (by decide) ?_
    rw [← hQ]
    exact g_iret hx hb hr hlk hS dX12_letter_9 (by rw [show gqLetter π p w = ((-1), π) from by simp only [gqLetter, if_neg c5] <;> rfl]; exact ⟨rfl, h1⟩)

set_option maxHeartbeats 4000000 in
set_option maxRecDepth 100000 in
theorem c_X12_tire (l : Launch) (G : gW) (b : Nat) (π μ f : gPS) (g : Nat → Int64) (n : Nat) (hz : π 15 0 = nI n) (hn : n ≤ 6) (p w : Int32) : gCI l yX12_tire cX12_tire 4 .int (gRm 2 43) G [.ref b, .int p, .int w] (fun H => gSg G b (gLM G b π μ f g) H) (fun r H => r = (gqTire π p w).1 ∧ gSg G b (gLM G b (gqTire π p w).2 μ f g) H) (fun q => b ≤ q ∧ q < b + 30) := by
  refine g_start (by decide) (Nat.le_of_ble_eq_true rfl) ?_
  intro pp_ ee_ s mm_ aa_ below meth cc_ ls Q hQ hX hE hP hl
  obtain ⟨hx, hb, hr, hml, hown, hT, hlk, hnm⟩ := hX
  have hK := hE.2.1
  have h1 := hP
  have hS : va_S (fun q => b ≤ q ∧ q < b + 30) s.heap s.heap [] := va_S.rf
  have hl : lv_has ls 4 [(0, .ref b), (1, .int p), (2, .int w)] := hl
  refine lv_aload_n hx hb dX12_tire_0 rfl (lv_at hl 0 rfl) ?_
  refine lv_iload_n hx hb dX12_tire_1 rfl (lv_at hl 1 rfl) ?_
  refine g_ki (g_runV (T := TX12) (ci := 12) (N := 45) (rest := []) hx hb hml hown hE hT (c_X12_isOne l G b π μ f g n hz (by omega) p) gM_X12_isOne gm_X12_112 gi_X12_isOne gs_RX12_yX12_isOne_yX12_isOne rfl (h1 0 _ rfl) h1 rfl hl.1 ⟨rfl, rfl⟩ ⟨Nat.le_of_ble_eq_true rfl, Nat.le_of_ble_eq_true rfl⟩ ⟨Nat.zero_le _, Nat.zero_le _⟩ rfl (Nat.le_of_ble_eq_true rfl) dX12_tire_2) hS (fun _ h => h.elim) (fun r4 H1 locs q2 k3 hS => ?_)
  subst q2
  have h1 := gSg_free h1 k3 (by intro k hk q; simp only [List.length_cons, List.length_nil] at hk; omega)
  refine lv_if_ne (tgt := 10) hx hb dX12_tire_5 (by decide) (fun c5 => ?_) (fun c5 => ?_)
  · have c5 : 0 ≤ p ∧ p < π 15 0 := gB_1.mp c5
    obtain ⟨k, hk, ek⟩ := gIx hz (by omega) c5
    subst ek
    refine lv_iload_n hx hb dX12_tire_10 rfl (lv_at hl 2 rfl) ?_
    refine lv_iconst (v := 0) hx hb dX12_tire_11 (by decide) ?_
    refine lv_bipush (v := 9) hx hb dX12_tire_12 (by decide) ?_
    refine g_ki (g_runS (rest := []) hx hb hml hown hE hT (c_X12_within l G w 0 9) gM_X12_within gm_X12_108 gt_X12_within trivial rfl hl.1 ⟨rfl, rfl⟩ ⟨Nat.le_of_ble_eq_true rfl, Nat.le_of_ble_eq_true rfl⟩ ⟨Nat.zero_le _, Nat.zero_le _⟩ rfl (Nat.le_of_ble_eq_true rfl) dX12_tire_14) hS (fun _ h => h.elim) (fun r9 H6 locs q7 k8 hS => ?_)
    subst q7
    have h1 := gSg_free h1 k8 (by intro k hk q; simp only [List.length_cons, List.length_nil] at hk; omega)
    refine lv_if_ne (tgt := 23) hx hb dX12_tire_17 (by decide) (fun c10 => ?_) (fun c10 => ?_)
    · have c10 : 0 ≤ w ∧ w ≤ 9 := gB_1.mp c10
      refine lv_aload_n hx hb dX12_tire_23 rfl (lv_at hl 0 rfl) ?_
      refine g_get (v := .ref (b + 6)) (T := TX12) (ci := 12) (N := 45) hx hb hown hK (gY_X12 hT) rfl (h1 0 _ rfl) 7 (by decide) (hT _ gf_X12_27) rfl dX12_tire_24 ?_
      refine lv_iload_n hx hb dX12_tire_27 rfl (lv_at hl 1 rfl) ?_
      refine g_ia (j := k) (v := π 5 k) hx hb hK (h1 6 _ rfl) rfl (by omega) (Nat.le_of_ble_eq_true rfl) rfl dX12_tire_28 ?_
      refine lv_istore_n (lv' := [(3, .int (π 5 k)), (0, .ref b), (1, .int (nI k)), (2, .int w)]) hx hb dX12_tire_29 rfl hl (by decide) rfl (fun ls hl => ?_)
      refine lv_aload_n hx hb dX12_tire_30 rfl (lv_at hl 1 rfl) ?_
      refine g_get (v := .ref (b + 6)) (T := TX12) (ci := 12) (N := 45) hx hb hown hK (gY_X12 hT) rfl (h1 0 _ rfl) 7 (by decide) (hT _ gf_X12_27) rfl dX12_tire_31 ?_
      refine lv_iload_n hx hb dX12_tire_34 rfl (lv_at hl 2 rfl) ?_
      refine lv_iload_n hx hb dX12_tire_35 rfl (lv_at hl 3 rfl) ?_
      refine g_is (j := k) hx hb hK hS (h1 6 _ rfl) rfl (by omega) (Nat.le_of_ble_eq_true rfl) (by omega) dX12_tire_36 (fun H11 locs c12 oq hS => ?_)
      have h1 : gSg G b (gLM G b (gU π 5 k w) μ f g) H11 := gSg_set h1 6 c12 oq
      refine lv_iload_n hx hb dX12_tire_37 rfl (lv_at hl 0 rfl) ?_
      rw [← hQ]
      exact g_iret hx hb hr hlk hS dX12_tire_38 (by rw [show gqTire π (nI k) w = (π 5 k, gU π 5 k w) from by simp only [gqTire, if_pos c5, if_pos c10, nI_clamp (show k < 2 ^ 31 by omega)] <;> rfl]; exact ⟨rfl, h1⟩)
    · have c10 : ¬ (0 ≤ w ∧ w ≤ 9) := gB_0.mp c10
      refine lv_bipush (v := (-2)) hx hb dX12_tire_20 (by decide) ?_
      rw [← hQ]
      exact g_iret hx hb hr hlk hS dX12_tire_22 (by rw [show gqTire π (nI k) w = ((-2), π) from by simp only [gqTire, if_pos c5, if_neg c10, nI_clamp (show k < 2 ^ 31 by omega)] <;> rfl]; exact ⟨rfl, h1⟩)
  · have c5 : ¬ (0 ≤ p ∧ p < π 15 0) := gB_0.mp c5
    refine lv_iconst (v := (-1)) hx hb dX12_tire_8 (by decide) ?_
    rw [← hQ]
    exact g_iret hx hb hr hlk hS dX12_tire_9 (by rw [show gqTire π p w = ((-1), π) from by simp only [gqTire, if_neg c5] <;> rfl]; exact ⟨rfl, h1⟩)
