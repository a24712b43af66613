set_option maxHeartbeats 4000000 in
set_option maxRecDepth 100000 in
theorem c_X12_is (l : Launch) (G : gW) (b : Nat) (π μ f : gPS) (g : Nat → Int64) (n : Nat) (hn : μ 4 0 = nI n) (hT9 : gTx (μ 0) n) (E : Nat → Int32) (p o c : Nat) (v d : Int32) (hp : p ≤ n) (hc : c + (n - p) ≤ 800) (ho : o ≤ 4) (z : Int32) : gCI l yX12_is cX12_is 2 .boolean (gRm 0 0) G [.ref b, .int z] (fun H => gSg G b (gLM G b π μ (gR (gR f 6 E) 13 (gS5 (nI p) v d (nI o) (nI c))) g) H) (fun r H => r = gB (p < n ∧ μ 0 p = z) ∧ gSg G b (gLM G b π μ (gR (gR f 6 E) 13 (gS5 (nI (if p < n ∧ μ 0 p = z then p + 1 else p)) v d (nI o) (nI c))) g) H) (fun q => b ≤ q ∧ q < b + 30) := by
  refine g_start (by decide) (Nat.le_of_ble_eq_true rfl) ?_
  intro pp_ ee_ s mm_ aa_ below meth cc_ ls Q hQ hX hE hP hl
  obtain ⟨hx, hb, hr, hml, hown, hT, hlk, hnm⟩ := hX
  have hK := hE.2.1
  have h1 := hP
  have hS : va_S (fun q => b ≤ q ∧ q < b + 30) s.heap s.heap [] := va_S.rf
  have hl : lv_has ls 2 [(0, .ref b), (1, .int z)] := hl
  have hn9 : n ≤ 100 := hT9.1
  refine lv_aload_n hx hb dX12_is_0 rfl (lv_at hl 0 rfl) ?_
  refine g_get (v := .int (nI p)) (T := TX12) (ci := 12) (N := 45) hx hb hown hK (gY_X12 hT) rfl (h1 0 _ rfl) 13 (by decide) (hT _ gf_X12_136) rfl dX12_is_1 ?_
  refine lv_aload_n hx hb dX12_is_4 rfl (lv_at hl 0 rfl) ?_
  refine g_get (v := .int (μ 4 0)) (T := TX12) (ci := 12) (N := 45) hx hb hown hK (gY_X12 hT) rfl (h1 0 _ rfl) 11 (by decide) (hT _ gf_X12_133) rfl dX12_is_5 ?_
  refine lv_icmp_eq (tgt := 24) hx hb dX12_is_8 (by decide) (fun c1 => ?_) (fun c1 => ?_)
  · have c1 : p = n := (gEq (a := p) (b := n) rfl hn (by omega) (by omega)).mp c1
    refine lv_iconst (v := 0) hx hb dX12_is_24 (by decide) ?_
    rw [← hQ]
    exact g_zret hx hb hr hlk rfl hS dX12_is_25 ⟨(gB_f (fun z9 => absurd z9.1 (by omega))).symm, by rw [if_neg (fun z9 => absurd z9.1 (by omega))]; exact h1⟩
  · have c1 : ¬ p = n := fun z => c1 ((gEq (a := p) (b := n) rfl hn (by omega) (by omega)).mpr z)
    refine lv_aload_n hx hb dX12_is_11 rfl (lv_at hl 0 rfl) ?_
    refine g_get (v := .ref (b + 9)) (T := TX12) (ci := 12) (N := 45) hx hb hown hK (gY_X12 hT) rfl (h1 0 _ rfl) 12 (by decide) (hT _ gf_X12_36) rfl dX12_is_12 ?_
    refine lv_aload_n hx hb dX12_is_15 rfl (lv_at hl 0 rfl) ?_
    refine g_get (v := .int (nI p)) (T := TX12) (ci := 12) (N := 45) hx hb hown hK (gY_X12 hT) rfl (h1 0 _ rfl) 13 (by decide) (hT _ gf_X12_136) rfl dX12_is_16 ?_
    refine g_ia (j := p) (v := μ 0 p) hx hb hK (h1 9 _ rfl) rfl (by omega) (Nat.le_of_ble_eq_true rfl) rfl dX12_is_19 ?_
    refine lv_iload_n hx hb dX12_is_20 rfl (lv_at hl 1 rfl) ?_
    refine lv_icmp_eq (tgt := 26) hx hb dX12_is_21 (by decide) (fun c2 => ?_) (fun c2 => ?_)
    · refine lv_aload_n hx hb dX12_is_26 rfl (lv_at hl 0 rfl) ?_
      refine lv_dup hx hb dX12_is_27 rfl ?_
      refine g_get (v := .int (nI p)) (T := TX12) (ci := 12) (N := 45) hx hb hown hK (gY_X12 hT) rfl (h1 0 _ rfl) 13 (by decide) (hT _ gf_X12_136) rfl dX12_is_28 ?_
      refine lv_iconst (v := 1) hx hb dX12_is_31 (by decide) ?_
      refine lv_iadd hx hb dX12_is_32 ?_
      rw [show ((nI p) + 1 : Int32) = nI (p + 1) from (gAdd rfl rfl)]
      refine g_put (T := TX12) (ci := 12) (N := 45) (ty0 := tyX12) hx hb hown hK hS (gY_X12 hT) tyX12_ok nmX12 rfl (h1 0 _ rfl) 13 (by decide) (hT _ gf_X12_136) rfl rfl rfl (Nat.le_of_ble_eq_true rfl) (by omega) dX12_is_33 (fun H3 locs c4 oq hS => ?_)
      have h1 : gSg G b (gLM G b π μ (gR (gR f 6 E) 13 (gS5 (nI (p + 1)) v d (nI o) (nI c))) g) H3 := gSg_set h1 0 c4 oq
      refine lv_iconst (v := 1) hx hb dX12_is_36 (by decide) ?_
      rw [← hQ]
      exact g_zret hx hb hr hlk rfl hS dX12_is_37 ⟨(gB_t ⟨by omega, c2⟩).symm, by rw [if_pos ⟨by omega, c2⟩]; exact h1⟩
    · refine lv_iconst (v := 0) hx hb dX12_is_24 (by decide) ?_
      rw [← hQ]
      exact g_zret hx hb hr hlk rfl hS dX12_is_25 ⟨(gB_f (fun z9 => c2 z9.2)).symm, by rw [if_neg (fun z9 => c2 z9.2)]; exact h1⟩

set_option maxHeartbeats 4000000 in
set_option maxRecDepth 100000 in
theorem c_X12_isDigit (l : Launch) (G : gW) (b : Nat) (π μ f : gPS) (g : Nat → Int64) (n : Nat) (hn : μ 4 0 = nI n) (hT9 : gTx (μ 0) n) (E : Nat → Int32) (p o c : Nat) (v d : Int32) (hp : p ≤ n) (hc : c + (n - p) ≤ 800) (ho : o ≤ 4) : gCI l yX12_isDigit cX12_isDigit 1 .boolean (gRm 0 0) G [.ref b] (fun H => gSg G b (gLM G b π μ (gR (gR f 6 E) 13 (gS5 (nI p) v d (nI o) (nI c))) g) H) (fun r H => r = gB (gDg (μ 0) n p)) (fun _ => False) := by
  refine g_start (by decide) (Nat.le_of_ble_eq_true rfl) ?_
  intro pp_ ee_ s mm_ aa_ below meth cc_ ls Q hQ hX hE hP hl
  obtain ⟨hx, hb, hr, hml, hown, hT, hlk, hnm⟩ := hX
  have hK := hE.2.1
  have h1 := hP
  have hS : va_S (fun _ => False) s.heap s.heap [] := va_S.rf
  have hl : lv_has ls 1 [(0, .ref b)] := hl
  have hn9 : n ≤ 100 := hT9.1
  refine lv_aload_n hx hb dX12_isDigit_0 rfl (lv_at hl 0 rfl) ?_
  refine g_get (v := .int (nI p)) (T := TX12) (ci := 12) (N := 45) hx hb hown hK (gY_X12 hT) rfl (h1 0 _ rfl) 13 (by decide) (hT _ gf_X12_136) rfl dX12_isDigit_1 ?_
  refine lv_aload_n hx hb dX12_isDigit_4 rfl (lv_at hl 0 rfl) ?_
  refine g_get (v := .int (μ 4 0)) (T := TX12) (ci := 12) (N := 45) hx hb hown hK (gY_X12 hT) rfl (h1 0 _ rfl) 11 (by decide) (hT _ gf_X12_133) rfl dX12_isDigit_5 ?_
  refine lv_icmp_ge (tgt := 43) hx hb dX12_isDigit_8 (by decide) (fun c1 => ?_) (fun c1 => ?_)
  · have c1 : n ≤ p := (gLe (a := n) (b := p) hn rfl (by omega) (by omega)).mp c1
    refine lv_iconst (v := 0) hx hb dX12_isDigit_43 (by decide) ?_
    rw [← hQ]
    exact g_zret hx hb hr hlk rfl hS dX12_isDigit_44 (gB_f (fun z9 => absurd z9.1 (by omega))).symm
  · have c1 : ¬ n ≤ p := fun z => c1 ((gLe (a := n) (b := p) hn rfl (by omega) (by omega)).mpr z)
    refine lv_aload_n hx hb dX12_isDigit_11 rfl (lv_at hl 0 rfl) ?_
    refine g_get (v := .ref (b + 9)) (T := TX12) (ci := 12) (N := 45) hx hb hown hK (gY_X12 hT) rfl (h1 0 _ rfl) 12 (by decide) (hT _ gf_X12_36) rfl dX12_isDigit_12 ?_
    refine lv_aload_n hx hb dX12_isDigit_15 rfl (lv_at hl 0 rfl) ?_
    refine g_get (v := .int (nI p)) (T := TX12) (ci := 12) (N := 45) hx hb hown hK (gY_X12 hT) rfl (h1 0 _ rfl) 13 (by decide) (hT _ gf_X12_136) rfl dX12_isDigit_16 ?_
    refine g_ia (j := p) (v := μ 0 p) hx hb hK (h1 9 _ rfl) rfl (by omega) (Nat.le_of_ble_eq_true rfl) rfl dX12_isDigit_19 ?_
    refine lv_bipush (v := 48) hx hb dX12_isDigit_20 (by decide) ?_
    refine lv_icmp_lt (tgt := 43) hx hb dX12_isDigit_22 (by decide) (fun c2 => ?_) (fun c2 => ?_)
    · refine lv_iconst (v := 0) hx hb dX12_isDigit_43 (by decide) ?_
      rw [← hQ]
      exact g_zret hx hb hr hlk rfl hS dX12_isDigit_44 (gB_f (fun z9 => absurd z9.2.1 (Int32.not_le.mpr c2))).symm
    · refine lv_aload_n hx hb dX12_isDigit_25 rfl (lv_at hl 0 rfl) ?_
      refine g_get (v := .ref (b + 9)) (T := TX12) (ci := 12) (N := 45) hx hb hown hK (gY_X12 hT) rfl (h1 0 _ rfl) 12 (by decide) (hT _ gf_X12_36) rfl dX12_isDigit_26 ?_
      refine lv_aload_n hx hb dX12_isDigit_29 rfl (lv_at hl 0 rfl) ?_
      refine g_get (v := .int (nI p)) (T := TX12) (ci := 12) (N := 45) hx hb hown hK (gY_X12 hT) rfl (h1 0 _ rfl) 13 (by decide) (hT _ gf_X12_136) rfl dX12_isDigit_30 ?_
      refine g_ia (j := p) (v := μ 0 p) hx hb hK (h1 9 _ rfl) rfl (by omega) (Nat.le_of_ble_eq_true rfl) rfl dX12_isDigit_33 ?_
      refine lv_bipush (v := 57) hx hb dX12_isDigit_34 (by decide) ?_
      refine lv_icmp_gt (tgt := 43) hx hb dX12_isDigit_36 (by decide) (fun c3 => ?_) (fun c3 => ?_)
      · refine lv_iconst (v := 0) hx hb dX12_isDigit_43 (by decide) ?_
        rw [← hQ]
        exact g_zret hx hb hr hlk rfl hS dX12_isDigit_44 (gB_f (fun z9 => absurd z9.2.2 (Int32.not_le.mpr c3))).symm
      · refine lv_iconst (v := 1) hx hb dX12_isDigit_39 (by decide) ?_
        refine lv_goto (tgt := 44) hx hb dX12_isDigit_40 (by decide) ?_
        rw [← hQ]
        exact g_zret hx hb hr hlk rfl hS dX12_isDigit_44 (gB_t ⟨by omega, Int32.not_lt.mp c2, Int32.not_lt.mp c3⟩).symm

set_option maxHeartbeats 4000000 in
set_option maxRecDepth 100000 in
theorem c_X12_codes (l : Launch) (G : gW) (b : Nat) (π μ f : gPS) (g : Nat → Int64) (n : Nat) (hn : μ 4 0 = nI n) (hT9 : gTx (μ 0) n) (E : Nat → Int32) (p o c : Nat) (v d : Int32) (hp : p ≤ n) (hc : c + (n - p) ≤ 800) (ho : o ≤ 4) (x : Nat) (hc8 : c < 800) : gCI l yX12_codes cX12_codes 2 .boolean (gRm 0 0) G [.ref b, .int (nI x)] (fun H => gSg G b (gLM G b π μ (gR (gR f 6 E) 13 (gS5 (nI p) v d (nI o) (nI c))) g) H) (fun r H => r = 1 ∧ gSg G b (gLM G b π μ (gR (gR f 6 (upd E c (nI x))) 13 (gS5 (nI p) v d (nI o) (nI (c + 1)))) g) H) (fun q => b ≤ q ∧ q < b + 30) := by
  refine g_start (by decide) (Nat.le_of_ble_eq_true rfl) ?_
  intro pp_ ee_ s mm_ aa_ below meth cc_ ls Q hQ hX hE hP hl
  obtain ⟨hx, hb, hr, hml, hown, hT, hlk, hnm⟩ := hX
  have hK := hE.2.1
  have h1 := hP
  have hS : va_S (fun q => b ≤ q ∧ q < b + 30) s.heap s.heap [] := va_S.rf
  have hl : lv_has ls 2 [(0, .ref b), (1, .int (nI x))] := hl
  have hn9 : n ≤ 100 := hT9.1
  refine lv_aload_n hx hb dX12_codes_0 rfl (lv_at hl 0 rfl) ?_
  refine g_get (v := .ref (b + 15)) (T := TX12) (ci := 12) (N := 45) hx hb hown hK (gY_X12 hT) rfl (h1 0 _ rfl) 24 (by decide) (hT _ gf_X12_54) rfl dX12_codes_1 ?_
  refine lv_aload_n hx hb dX12_codes_4 rfl (lv_at hl 0 rfl) ?_
  refine lv_dup hx hb dX12_codes_5 rfl ?_
  refine g_get (v := .int (nI c)) (T := TX12) (ci := 12) (N := 45) hx hb hown hK (gY_X12 hT) rfl (h1 0 _ rfl) 25 (by decide) (hT _ gf_X12_161) rfl dX12_codes_6 ?_
  refine lv_dup_x1 hx hb dX12_codes_9 rfl rfl ?_
  refine lv_iconst (v := 1) hx hb dX12_codes_10 (by decide) ?_
  refine lv_iadd hx hb dX12_codes_11 ?_
  rw [show ((nI c) + 1 : Int32) = nI (c + 1) from (gAdd rfl rfl)]
  refine g_put (T := TX12) (ci := 12) (N := 45) (ty0 := tyX12) hx hb hown hK hS (gY_X12 hT) tyX12_ok nmX12 rfl (h1 0 _ rfl) 25 (by decide) (hT _ gf_X12_161) rfl rfl rfl (Nat.le_of_ble_eq_true rfl) (by omega) dX12_codes_12 (fun H1 locs c2 oq hS => ?_)
  have h1 : gSg G b (gLM G b π μ (gR (gR f 6 E) 13 (gS5 (nI p) v d (nI o) (nI (c + 1)))) g) H1 := gSg_set h1 0 c2 oq
  refine lv_iload_n hx hb dX12_codes_15 rfl (lv_at hl 1 rfl) ?_
  refine g_is (j := c) hx hb hK hS (h1 15 _ rfl) rfl (by omega) (Nat.le_of_ble_eq_true rfl) (by omega) dX12_codes_16 (fun H3 locs c4 oq hS => ?_)
  have h1 : gSg G b (gLM G b π μ (gR (gR f 6 (upd E c (nI x))) 13 (gS5 (nI p) v d (nI o) (nI (c + 1)))) g) H3 := gSg_set h1 15 c4 oq
  refine lv_iconst (v := 1) hx hb dX12_codes_17 (by decide) ?_
  rw [← hQ]
  exact g_zret hx hb hr hlk rfl hS dX12_codes_18 ⟨rfl, h1⟩

set_option maxHeartbeats 4000000 in
set_option maxRecDepth 100000 in
theorem c_X12_isOpened (l : Launch) (G : gW) (b : Nat) (π μ f : gPS) (g : Nat → Int64) (n : Nat) (hn : μ 4 0 = nI n) (hT9 : gTx (μ 0) n) (E : Nat → Int32) (p o c : Nat) (v d : Int32) (hp : p ≤ n) (hc : c + (n - p) ≤ 800) (ho : o ≤ 4) (z : Int32) : gCI l yX12_isOpened cX12_isOpened 2 .boolean (gRm 1 21) G [.ref b, .int z] (fun H => gSg G b (gLM G b π μ (gR (gR f 6 E) 13 (gS5 (nI p) v d (nI o) (nI c))) g) H) (fun r H => r = gB (¬ o = 4 ∧ p < n ∧ μ 0 p = z) ∧ gSg G b (gLM G b π μ (gR (gR f 6 E) 13 (gS5 (nI (if ¬ o = 4 ∧ p < n ∧ μ 0 p = z then p + 1 else p)) v d (nI (if ¬ o = 4 ∧ p < n ∧ μ 0 p = z then o + 1 else o)) (nI c))) g) H) (fun q => b ≤ q ∧ q < b + 30) := by
  refine g_start (by decide) (Nat.le_of_ble_eq_true rfl) ?_
  intro pp_ ee_ s mm_ aa_ below meth cc_ ls Q hQ hX hE hP hl
  obtain ⟨hx, hb, hr, hml, hown, hT, hlk, hnm⟩ := hX
  have hK := hE.2.1
  have h1 := hP
  have hS : va_S (fun q => b ≤ q ∧ q < b + 30) s.heap s.heap [] := va_S.rf
  have hl : lv_has ls 2 [(0, .ref b), (1, .int z)] := hl
  have hn9 : n ≤ 100 := hT9.1
  refine lv_aload_n hx hb dX12_isOpened_0 rfl (lv_at hl 0 rfl) ?_
  refine g_get (v := .int (nI o)) (T := TX12) (ci := 12) (N := 45) hx hb hown hK (gY_X12 hT) rfl (h1 0 _ rfl) 16 (by decide) (hT _ gf_X12_177) rfl dX12_isOpened_1 ?_
  refine lv_iconst (v := 4) hx hb dX12_isOpened_4 (by decide) ?_
  refine lv_icmp_eq (tgt := 16) hx hb dX12_isOpened_5 (by decide) (fun c1 => ?_) (fun c1 => ?_)
  · have c1 : o = 4 := (gEq (a := o) (b := 4) rfl rfl (by omega) (by omega)).mp c1
    refine lv_iconst (v := 0) hx hb dX12_isOpened_16 (by decide) ?_
    rw [← hQ]
    exact g_zret hx hb hr hlk rfl hS dX12_isOpened_17 ⟨(gB_f (fun z9 => z9.1 c1)).symm, by rw [if_neg (fun z9 => z9.1 c1), if_neg (fun z9 => z9.1 c1)]; exact h1⟩
  · have c1 : ¬ o = 4 := fun z => c1 ((gEq (a := o) (b := 4) rfl rfl (by omega) (by omega)).mpr z)
    refine lv_aload_n hx hb dX12_isOpened_8 rfl (lv_at hl 0 rfl) ?_
    refine lv_iload_n hx hb dX12_isOpened_9 rfl (lv_at hl 1 rfl) ?_
    refine g_ki (g_runV (T := TX12) (ci := 12) (N := 45) (rest := []) hx hb hml hown hE hT (c_X12_is l G b π μ f g n hn hT9 E p o c v d (by omega) (by omega) (by omega) z) gM_X12_is gm_X12_158 gi_X12_is gs_RX12_yX12_is_yX12_is rfl (h1 0 _ rfl) h1 rfl hl.1 ⟨rfl, rfl⟩ ⟨Nat.le_of_ble_eq_true rfl, Nat.le_of_ble_eq_true rfl⟩ ⟨Nat.zero_le _, Nat.zero_le _⟩ rfl (Nat.le_of_ble_eq_true rfl) dX12_isOpened_10) hS (by intro q hq; omega) (fun r5 H2 locs q3 k4 hS => ?_)
    obtain ⟨e9, h1⟩ := q3
    rw [e9]
    refine lv_if_ne (tgt := 18) hx hb dX12_isOpened_13 (by decide) (fun c6 => ?_) (fun c6 => ?_)
    · have c6 : p < n ∧ μ 0 p = z := gB_1.mp c6
      refine lv_aload_n hx hb dX12_isOpened_18 rfl (lv_at hl 0 rfl) ?_
      refine lv_dup hx hb dX12_isOpened_19 rfl ?_
      refine g_get (v := .int (nI o)) (T := TX12) (ci := 12) (N := 45) hx hb hown hK (gY_X12 hT) rfl (h1 0 _ rfl) 16 (by decide) (hT _ gf_X12_177) rfl dX12_isOpened_20 ?_
      refine lv_iconst (v := 1) hx hb dX12_isOpened_23 (by decide) ?_
      refine lv_iadd hx hb dX12_isOpened_24 ?_
      rw [show ((nI o) + 1 : Int32) = nI (o + 1) from (gAdd rfl rfl)]
      refine g_put (T := TX12) (ci := 12) (N := 45) (ty0 := tyX12) hx hb hown hK hS (gY_X12 hT) tyX12_ok nmX12 rfl (h1 0 _ rfl) 16 (by decide) (hT _ gf_X12_177) rfl rfl rfl (Nat.le_of_ble_eq_true rfl) (by omega) dX12_isOpened_25 (fun H7 locs c8 oq hS => ?_)
      have h1 : gSg G b (gLM G b π μ (gR (gR f 6 E) 13 (gS5 (nI (if p < n ∧ μ 0 p = z then p + 1 else p)) v d (nI (o + 1)) (nI c))) g) H7 := gSg_set h1 0 c8 oq
      refine lv_iconst (v := 1) hx hb dX12_isOpened_28 (by decide) ?_
      rw [← hQ]
      exact g_zret hx hb hr hlk rfl hS dX12_isOpened_29 ⟨(gB_t ⟨c1, c6⟩).symm, by rw [if_pos ⟨c1, c6⟩, if_pos ⟨c1, c6⟩]; rw [if_pos c6] at h1; exact h1⟩
    · have c6 : ¬ (p < n ∧ μ 0 p = z) := gB_0.mp c6
      refine lv_iconst (v := 0) hx hb dX12_isOpened_16 (by decide) ?_
      rw [← hQ]
      exact g_zret hx hb hr hlk rfl hS dX12_isOpened_17 ⟨(gB_f (fun z9 => c6 z9.2)).symm, by rw [if_neg (fun z9 => c6 z9.2), if_neg (fun z9 => c6 z9.2)]; rw [if_neg c6] at h1; exact h1⟩

set_option maxHeartbeats 4000000 in
set_option maxRecDepth 100000 in
theorem c_X12_isNumber (l : Launch) (G : gW) (b : Nat) (π μ f : gPS) (g : Nat → Int64) (n : Nat) (hn : μ 4 0 = nI n) (hT9 : gTx (μ 0) n) (E : Nat → Int32) (p o c : Nat) (v d : Int32) (hp : p ≤ n) (hc : c + (n - p) ≤ 800) (ho : o ≤ 4)  : gCI l yX12_isNumber cX12_isNumber 1 .boolean (gRm 1 20) G [.ref b] (fun H => gSg G b (gLM G b π μ (gR (gR f 6 E) 13 (gS5 (nI p) v d (nI o) (nI c))) g) H) (fun r H => r = gB ((gNum (μ 0) n p).1 = true) ∧ ∃ v d : Int32, gSg G b (gLM G b π μ (gR (gR f 6 E) 13 (gS5 (nI (gNum (μ 0) n p).2.1) v d (nI o) (nI c))) g) H ∧ ((gNum (μ 0) n p).1 = true → v = nI (gNum (μ 0) n p).2.2 ∧ (gNum (μ 0) n p).2.2 < 100)) (fun q => b ≤ q ∧ q < b + 30) := by
  refine g_start (by decide) (Nat.le_of_ble_eq_true rfl) ?_
  intro pp_ ee_ s mm_ aa_ below meth cc_ ls Q hQ hX hE hP hl
  obtain ⟨hx, hb, hr, hml, hown, hT, hlk, hnm⟩ := hX
  have hK := hE.2.1
  have h1 := hP
  have hS : va_S (fun q => b ≤ q ∧ q < b + 30) s.heap s.heap [] := va_S.rf
  have hl : lv_has ls 1 [(0, .ref b)] := hl
  have hn9 : n ≤ 100 := hT9.1
  refine lv_aload_n hx hb dX12_isNumber_0 rfl (lv_at hl 0 rfl) ?_
  refine lv_iconst (v := 0) hx hb dX12_isNumber_1 (by decide) ?_
  refine g_put (T := TX12) (ci := 12) (N := 45) (ty0 := tyX12) hx hb hown hK hS (gY_X12 hT) tyX12_ok nmX12 rfl (h1 0 _ rfl) 14 (by decide) (hT _ gf_X12_139) rfl rfl rfl (Nat.le_of_ble_eq_true rfl) (by omega) dX12_isNumber_2 (fun H1 locs c2 oq hS => ?_)
  have h1 : gSg G b (gLM G b π μ (gR (gR f 6 E) 13 (gS5 (nI p) 0 d (nI o) (nI c))) g) H1 := gSg_set h1 0 c2 oq
  refine lv_aload_n hx hb dX12_isNumber_5 rfl (lv_at hl 0 rfl) ?_
  refine lv_iconst (v := 0) hx hb dX12_isNumber_6 (by decide) ?_
  refine g_put (T := TX12) (ci := 12) (N := 45) (ty0 := tyX12) hx hb hown hK hS (gY_X12 hT) tyX12_ok nmX12 rfl (h1 0 _ rfl) 15 (by decide) (hT _ gf_X12_142) rfl rfl rfl (Nat.le_of_ble_eq_true rfl) (by omega) dX12_isNumber_7 (fun H3 locs c4 oq hS => ?_)
  have h1 : gSg G b (gLM G b π μ (gR (gR f 6 E) 13 (gS5 (nI p) 0 0 (nI o) (nI c))) g) H3 := gSg_set h1 0 c4 oq
  refine lv_aload_n hx hb dX12_isNumber_10 rfl (lv_at hl 0 rfl) ?_
  refine g_get (v := .int 0) (T := TX12) (ci := 12) (N := 45) hx hb hown hK (gY_X12 hT) rfl (h1 0 _ rfl) 15 (by decide) (hT _ gf_X12_142) rfl dX12_isNumber_11 ?_
  refine lv_iconst (v := 2) hx hb dX12_isNumber_14 (by decide) ?_
  refine lv_icmp_ge (tgt := 72) hx hb dX12_isNumber_15 (by decide) (fun c5 => ?_) (fun c5 => ?_)
  · exact absurd c5 (by decide)
  · refine lv_aload_n hx hb dX12_isNumber_18 rfl (lv_at hl 0 rfl) ?_
    refine g_ki (g_runV (T := TX12) (ci := 12) (N := 45) (rest := []) hx hb hml hown hE hT (c_X12_isDigit l G b π μ f g n hn hT9 E p o c 0 0 (by omega) (by omega) ho) gM_X12_isDigit gm_X12_145 gi_X12_isDigit gs_RX12_yX12_isDigit_yX12_isDigit rfl (h1 0 _ rfl) h1 rfl hl.1 ⟨rfl, rfl⟩ ⟨Nat.le_of_ble_eq_true rfl, Nat.le_of_ble_eq_true rfl⟩ ⟨Nat.zero_le _, Nat.zero_le _⟩ rfl (Nat.le_of_ble_eq_true rfl) dX12_isNumber_19) hS (fun _ h => h.elim) (fun r9 H6 locs q7 k8 hS => ?_)
    subst q7
    have h1 := gSg_free h1 k8 (by intro k hk q; simp only [List.length_cons, List.length_nil] at hk; omega)
    refine lv_if_eq (tgt := 72) hx hb dX12_isNumber_22 (by decide) (fun c10 => ?_) (fun c10 => ?_)
    · have c10 : ¬ (gDg (μ 0) n p) := gB_0.mp c10
      refine lv_aload_n hx hb dX12_isNumber_72 rfl (lv_at hl 0 rfl) ?_
      refine g_get (v := .int 0) (T := TX12) (ci := 12) (N := 45) hx hb hown hK (gY_X12 hT) rfl (h1 0 _ rfl) 15 (by decide) (hT _ gf_X12_142) rfl dX12_isNumber_73 ?_
      refine lv_if_le (tgt := 83) hx hb dX12_isNumber_76 (by decide) (fun c11 => ?_) (fun c11 => ?_)
      · refine lv_iconst (v := 0) hx hb dX12_isNumber_83 (by decide) ?_
        rw [← hQ]
        exact g_zret hx hb hr hlk rfl hS dX12_isNumber_84 (by rw [show gNum (μ 0) n p = (false, p, 0) from by simp only [gNum, if_neg c10]]; exact ⟨rfl, _, _, h1, fun z9 => Bool.noConfusion z9⟩)
      · exact absurd (by decide) c11
    · have c10 : gDg (μ 0) n p := gB_1.mp c10
      obtain ⟨x12, gx12, ex12, lx12⟩ := gDv_e c10
      refine lv_aload_n hx hb dX12_isNumber_25 rfl (lv_at hl 0 rfl) ?_
      refine lv_bipush (v := 10) hx hb dX12_isNumber_26 (by decide) ?_
      refine lv_aload_n hx hb dX12_isNumber_28 rfl (lv_at hl 0 rfl) ?_
      refine g_get (v := .int 0) (T := TX12) (ci := 12) (N := 45) hx hb hown hK (gY_X12 hT) rfl (h1 0 _ rfl) 14 (by decide) (hT _ gf_X12_139) rfl dX12_isNumber_29 ?_
      refine lv_imul hx hb dX12_isNumber_32 ?_
      rw [show (10 * 0 : Int32) = nI (10 * 0) from (gMul rfl rfl)]
      refine lv_aload_n hx hb dX12_isNumber_33 rfl (lv_at hl 0 rfl) ?_
      refine g_get (v := .ref (b + 9)) (T := TX12) (ci := 12) (N := 45) hx hb hown hK (gY_X12 hT) rfl (h1 0 _ rfl) 12 (by decide) (hT _ gf_X12_36) rfl dX12_isNumber_34 ?_
      refine lv_aload_n hx hb dX12_isNumber_37 rfl (lv_at hl 0 rfl) ?_
      refine g_get (v := .int (nI p)) (T := TX12) (ci := 12) (N := 45) hx hb hown hK (gY_X12 hT) rfl (h1 0 _ rfl) 13 (by decide) (hT _ gf_X12_136) rfl dX12_isNumber_38 ?_
      refine g_ia (j := p) (v := μ 0 p) hx hb hK (h1 9 _ rfl) rfl (by omega) (Nat.le_of_ble_eq_true rfl) rfl dX12_isNumber_41 ?_
      refine lv_iadd hx hb dX12_isNumber_42 ?_
      rw [show ((nI (10 * 0)) + (μ 0 p) : Int32) = nI ((10 * 0) + (x12 + 48)) from (gAdd rfl ex12)]
      refine lv_bipush (v := 48) hx hb dX12_isNumber_43 (by decide) ?_
      refine lv_isub hx hb dX12_isNumber_45 ?_
      rw [show ((nI ((10 * 0) + (x12 + 48))) - 48 : Int32) = nI (((10 * 0) + (x12 + 48)) - 48) from (gSub rfl rfl (by omega))]
      refine g_put (T := TX12) (ci := 12) (N := 45) (ty0 := tyX12) hx hb hown hK hS (gY_X12 hT) tyX12_ok nmX12 rfl (h1 0 _ rfl) 14 (by decide) (hT _ gf_X12_139) rfl rfl rfl (Nat.le_of_ble_eq_true rfl) (by omega) dX12_isNumber_46 (fun H13 locs c14 oq hS => ?_)
      have h1 : gSg G b (gLM G b π μ (gR (gR f 6 E) 13 (gS5 (nI p) (nI (((10 * 0) + (x12 + 48)) - 48)) 0 (nI o) (nI c))) g) H13 := gSg_set h1 0 c14 oq
      refine lv_aload_n hx hb dX12_isNumber_49 rfl (lv_at hl 0 rfl) ?_
      refine lv_dup hx hb dX12_isNumber_50 rfl ?_
      refine g_get (v := .int (nI p)) (T := TX12) (ci := 12) (N := 45) hx hb hown hK (gY_X12 hT) rfl (h1 0 _ rfl) 13 (by decide) (hT _ gf_X12_136) rfl dX12_isNumber_51 ?_
      refine lv_iconst (v := 1) hx hb dX12_isNumber_54 (by decide) ?_
      refine lv_iadd hx hb dX12_isNumber_55 ?_
      rw [show ((nI p) + 1 : Int32) = nI (p + 1) from (gAdd rfl rfl)]
      refine g_put (T := TX12) (ci := 12) (N := 45) (ty0 := tyX12) hx hb hown hK hS (gY_X12 hT) tyX12_ok nmX12 rfl (h1 0 _ rfl) 13 (by decide) (hT _ gf_X12_136) rfl rfl rfl (Nat.le_of_ble_eq_true rfl) (by omega) dX12_isNumber_56 (fun H15 locs c16 oq hS => ?_)
      have h1 : gSg G b (gLM G b π μ (gR (gR f 6 E) 13 (gS5 (nI (p + 1)) (nI (((10 * 0) + (x12 + 48)) - 48)) 0 (nI o) (nI c))) g) H15 := gSg_set h1 0 c16 oq
      refine lv_aload_n hx hb dX12_isNumber_59 rfl (lv_at hl 0 rfl) ?_
      refine lv_dup hx hb dX12_isNumber_60 rfl ?_
      refine g_get (v := .int 0) (T := TX12) (ci := 12) (N := 45) hx hb hown hK (gY_X12 hT) rfl (h1 0 _ rfl) 15 (by decide) (hT _ gf_X12_142) rfl dX12_isNumber_61 ?_
      refine lv_iconst (v := 1) hx hb dX12_isNumber_64 (by decide) ?_
      refine lv_iadd hx hb dX12_isNumber_65 ?_
      rw [show (0 + 1 : Int32) = nI (0 + 1) from (gAdd rfl rfl)]
      refine g_put (T := TX12) (ci := 12) (N := 45) (ty0 := tyX12) hx hb hown hK hS (gY_X12 hT) tyX12_ok nmX12 rfl (h1 0 _ rfl) 15 (by decide) (hT _ gf_X12_142) rfl rfl rfl (Nat.le_of_ble_eq_true rfl) (by omega) dX12_isNumber_66 (fun H17 locs c18 oq hS => ?_)
      have h1 : gSg G b (gLM G b π μ (gR (gR f 6 E) 13 (gS5 (nI (p + 1)) (nI (((10 * 0) + (x12 + 48)) - 48)) (nI (0 + 1)) (nI o) (nI c))) g) H17 := gSg_set h1 0 c18 oq
      refine lv_goto (tgt := 10) hx hb dX12_isNumber_69 (by decide) ?_
      refine lv_aload_n hx hb dX12_isNumber_10 rfl (lv_at hl 0 rfl) ?_
      refine g_get (v := .int (nI (0 + 1))) (T := TX12) (ci := 12) (N := 45) hx hb hown hK (gY_X12 hT) rfl (h1 0 _ rfl) 15 (by decide) (hT _ gf_X12_142) rfl dX12_isNumber_11 ?_
      refine lv_iconst (v := 2) hx hb dX12_isNumber_14 (by decide) ?_
      refine lv_icmp_ge (tgt := 72) hx hb dX12_isNumber_15 (by decide) (fun c19 => ?_) (fun c19 => ?_)
      · have c19 : 2 ≤ (0 + 1) := (gLe (a := 2) (b := 0 + 1) rfl rfl (by omega) (by omega)).mp c19
        exact absurd c19 (by omega)
      · have c19 : ¬ 2 ≤ (0 + 1) := fun z => c19 ((gLe (a := 2) (b := 0 + 1) rfl rfl (by omega) (by omega)).mpr z)
        refine lv_aload_n hx hb dX12_isNumber_18 rfl (lv_at hl 0 rfl) ?_
        refine g_ki (g_runV (T := TX12) (ci := 12) (N := 45) (rest := []) hx hb hml hown hE hT (c_X12_isDigit l G b π μ f g n hn hT9 E (p + 1) o c (nI (((10 * 0) + (x12 + 48)) - 48)) (nI (0 + 1)) (by omega) (by omega) ho) gM_X12_isDigit gm_X12_145 gi_X12_isDigit gs_RX12_yX12_isDigit_yX12_isDigit rfl (h1 0 _ rfl) h1 rfl hl.1 ⟨rfl, rfl⟩ ⟨Nat.le_of_ble_eq_true rfl, Nat.le_of_ble_eq_true rfl⟩ ⟨Nat.zero_le _, Nat.zero_le _⟩ rfl (Nat.le_of_ble_eq_true rfl) dX12_isNumber_19) hS (fun _ h => h.elim) (fun r23 H20 locs q21 k22 hS => ?_)
        subst q21
        have h1 := gSg_free h1 k22 (by intro k hk q; simp only [List.length_cons, List.length_nil] at hk; omega)
        refine lv_if_eq (tgt := 72) hx hb dX12_isNumber_22 (by decide) (fun c24 => ?_) (fun c24 => ?_)
        · have c24 : ¬ (gDg (μ 0) n (p + 1)) := gB_0.mp c24
          refine lv_aload_n hx hb dX12_isNumber_72 rfl (lv_at hl 0 rfl) ?_
          refine g_get (v := .int (nI (0 + 1))) (T := TX12) (ci := 12) (N := 45) hx hb hown hK (gY_X12 hT) rfl (h1 0 _ rfl) 15 (by decide) (hT _ gf_X12_142) rfl dX12_isNumber_73 ?_
          refine lv_if_le (tgt := 83) hx hb dX12_isNumber_76 (by decide) (fun c25 => ?_) (fun c25 => ?_)
          · have c25 : (0 + 1) ≤ 0 := (gLe (a := 0 + 1) (b := 0) rfl rfl (by omega) (by omega)).mp c25
            exact absurd c25 (by omega)
          · have c25 : ¬ (0 + 1) ≤ 0 := fun z => c25 ((gLe (a := 0 + 1) (b := 0) rfl rfl (by omega) (by omega)).mpr z)
            refine lv_iconst (v := 1) hx hb dX12_isNumber_79 (by decide) ?_
            refine lv_goto (tgt := 84) hx hb dX12_isNumber_80 (by decide) ?_
            rw [← hQ]
            exact g_zret hx hb hr hlk rfl hS dX12_isNumber_84 (by rw [show gNum (μ 0) n p = (true, p + 1, gDv (μ 0) p) from by simp only [gNum, if_pos c10, if_neg c24]]; exact ⟨rfl, _, _, h1, fun _ => by show nI (((10 * 0) + (x12 + 48)) - 48) = nI (gDv (μ 0) p) ∧ gDv (μ 0) p < 100; rw [gx12]; exact ⟨congrArg nI (by omega), by omega⟩⟩)
        · have c24 : gDg (μ 0) n (p + 1) := gB_1.mp c24
          obtain ⟨x26, gx26, ex26, lx26⟩ := gDv_e c24
          refine lv_aload_n hx hb dX12_isNumber_25 rfl (lv_at hl 0 rfl) ?_
          refine lv_bipush (v := 10) hx hb dX12_isNumber_26 (by decide) ?_
          refine lv_aload_n hx hb dX12_isNumber_28 rfl (lv_at hl 0 rfl) ?_
          refine g_get (v := .int (nI (((10 * 0) + (x12 + 48)) - 48))) (T := TX12) (ci := 12) (N := 45) hx hb hown hK (gY_X12 hT) rfl (h1 0 _ rfl) 14 (by decide) (hT _ gf_X12_139) rfl dX12_isNumber_29 ?_
          refine lv_imul hx hb dX12_isNumber_32 ?_
          rw [show (10 * (nI (((10 * 0) + (x12 + 48)) - 48)) : Int32) = nI (10 * (((10 * 0) + (x12 + 48)) - 48)) from (gMul rfl rfl)]
          refine lv_aload_n hx hb dX12_isNumber_33 rfl (lv_at hl 0 rfl) ?_
          refine g_get (v := .ref (b + 9)) (T := TX12) (ci := 12) (N := 45) hx hb hown hK (gY_X12 hT) rfl (h1 0 _ rfl) 12 (by decide) (hT _ gf_X12_36) rfl dX12_isNumber_34 ?_
          refine lv_aload_n hx hb dX12_isNumber_37 rfl (lv_at hl 0 rfl) ?_
          refine g_get (v := .int (nI (p + 1))) (T := TX12) (ci := 12) (N := 45) hx hb hown hK (gY_X12 hT) rfl (h1 0 _ rfl) 13 (by decide) (hT _ gf_X12_136) rfl dX12_isNumber_38 ?_
          refine g_ia (j := p + 1) (v := μ 0 (p + 1)) hx hb hK (h1 9 _ rfl) rfl (by omega) (Nat.le_of_ble_eq_true rfl) rfl dX12_isNumber_41 ?_
          refine lv_iadd hx hb dX12_isNumber_42 ?_
          rw [show ((nI (10 * (((10 * 0) + (x12 + 48)) - 48))) + (μ 0 (p + 1)) : Int32) = nI ((10 * (((10 * 0) + (x12 + 48)) - 48)) + (x26 + 48)) from (gAdd rfl ex26)]
          refine lv_bipush (v := 48) hx hb dX12_isNumber_43 (by decide) ?_
          refine lv_isub hx hb dX12_isNumber_45 ?_
          rw [show ((nI ((10 * (((10 * 0) + (x12 + 48)) - 48)) + (x26 + 48))) - 48 : Int32) = nI (((10 * (((10 * 0) + (x12 + 48)) - 48)) + (x26 + 48)) - 48) from (gSub rfl rfl (by omega))]
          refine g_put (T := TX12) (ci := 12) (N := 45) (ty0 := tyX12) hx hb hown hK hS (gY_X12 hT) tyX12_ok nmX12 rfl (h1 0 _ rfl) 14 (by decide) (hT _ gf_X12_139) rfl rfl rfl (Nat.le_of_ble_eq_true rfl) (by omega) dX12_isNumber_46 (fun H27 locs c28 oq hS => ?_)
          have h1 : gSg G b (gLM G b π μ (gR (gR f 6 E) 13 (gS5 (nI (p + 1)) (nI (((10 * (((10 * 0) + (x12 + 48)) - 48)) + (x26 + 48)) - 48)) (nI (0 + 1)) (nI o) (nI c))) g) H27 := gSg_set h1 0 c28 oq
          refine lv_aload_n hx hb dX12_isNumber_49 rfl (lv_at hl 0 rfl) ?_
          refine lv_dup hx hb dX12_isNumber_50 rfl ?_
          refine g_get (v := .int (nI (p + 1))) (T := TX12) (ci := 12) (N := 45) hx hb hown hK (gY_X12 hT) rfl (h1 0 _ rfl) 13 (by decide) (hT _ gf_X12_136) rfl dX12_isNumber_51 ?_
          refine lv_iconst (v := 1) hx hb dX12_isNumber_54 (by decide) ?_
          refine lv_iadd hx hb dX12_isNumber_55 ?_
          rw [show ((nI (p + 1)) + 1 : Int32) = nI ((p + 1) + 1) from (gAdd rfl rfl)]
          refine g_put (T := TX12) (ci := 12) (N := 45) (ty0 := tyX12) hx hb hown hK hS (gY_X12 hT) tyX12_ok nmX12 rfl (h1 0 _ rfl) 13 (by decide) (hT _ gf_X12_136) rfl rfl rfl (Nat.le_of_ble_eq_true rfl) (by omega) dX12_isNumber_56 (fun H29 locs c30 oq hS => ?_)
          have h1 : gSg G b (gLM G b π μ (gR (gR f 6 E) 13 (gS5 (nI ((p + 1) + 1)) (nI (((10 * (((10 * 0) + (x12 + 48)) - 48)) + (x26 + 48)) - 48)) (nI (0 + 1)) (nI o) (nI c))) g) H29 := gSg_set h1 0 c30 oq
          refine lv_aload_n hx hb dX12_isNumber_59 rfl (lv_at hl 0 rfl) ?_
          refine lv_dup hx hb dX12_isNumber_60 rfl ?_
          refine g_get (v := .int (nI (0 + 1))) (T := TX12) (ci := 12) (N := 45) hx hb hown hK (gY_X12 hT) rfl (h1 0 _ rfl) 15 (by decide) (hT _ gf_X12_142) rfl dX12_isNumber_61 ?_
          refine lv_iconst (v := 1) hx hb dX12_isNumber_64 (by decide) ?_
          refine lv_iadd hx hb dX12_isNumber_65 ?_
          rw [show ((nI (0 + 1)) + 1 : Int32) = nI ((0 + 1) + 1) from (gAdd rfl rfl)]
          refine g_put (T := TX12) (ci := 12) (N := 45) (ty0 := tyX12) hx hb hown hK hS (gY_X12 hT) tyX12_ok nmX12 rfl (h1 0 _ rfl) 15 (by decide) (hT _ gf_X12_142) rfl rfl rfl (Nat.le_of_ble_eq_true rfl) (by omega) dX12_isNumber_66 (fun H31 locs c32 oq hS => ?_)
          have h1 : gSg G b (gLM G b π μ (gR (gR f 6 E) 13 (gS5 (nI ((p + 1) + 1)) (nI (((10 * (((10 * 0) + (x12 + 48)) - 48)) + (x26 + 48)) - 48)) (nI ((0 + 1) + 1)) (nI o) (nI c))) g) H31 := gSg_set h1 0 c32 oq
          refine lv_goto (tgt := 10) hx hb dX12_isNumber_69 (by decide) ?_
          refine lv_aload_n hx hb dX12_isNumber_10 rfl (lv_at hl 0 rfl) ?_
          refine g_get (v := .int (nI ((0 + 1) + 1))) (T := TX12) (ci := 12) (N := 45) hx hb hown hK (gY_X12 hT) rfl (h1 0 _ rfl) 15 (by decide) (hT _ gf_X12_142) rfl dX12_isNumber_11 ?_
          refine lv_iconst (v := 2) hx hb dX12_isNumber_14 (by decide) ?_
          refine lv_icmp_ge (tgt := 72) hx hb dX12_isNumber_15 (by decide) (fun c33 => ?_) (fun c33 => ?_)
          · have c33 : 2 ≤ ((0 + 1) + 1) := (gLe (a := 2) (b := (0 + 1) + 1) rfl rfl (by omega) (by omega)).mp c33
            refine lv_aload_n hx hb dX12_isNumber_72 rfl (lv_at hl 0 rfl) ?_
            refine g_get (v := .int (nI ((0 + 1) + 1))) (T := TX12) (ci := 12) (N := 45) hx hb hown hK (gY_X12 hT) rfl (h1 0 _ rfl) 15 (by decide) (hT _ gf_X12_142) rfl dX12_isNumber_73 ?_
            refine lv_if_le (tgt := 83) hx hb dX12_isNumber_76 (by decide) (fun c34 => ?_) (fun c34 => ?_)
            · have c34 : ((0 + 1) + 1) ≤ 0 := (gLe (a := (0 + 1) + 1) (b := 0) rfl rfl (by omega) (by omega)).mp c34
              exact absurd c34 (by omega)
            · have c34 : ¬ ((0 + 1) + 1) ≤ 0 := fun z => c34 ((gLe (a := (0 + 1) + 1) (b := 0) rfl rfl (by omega) (by omega)).mpr z)
              refine lv_iconst (v := 1) hx hb dX12_isNumber_79 (by decide) ?_
              refine lv_goto (tgt := 84) hx hb dX12_isNumber_80 (by decide) ?_
              rw [← hQ]
              exact g_zret hx hb hr hlk rfl hS dX12_isNumber_84 (by rw [show gNum (μ 0) n p = (true, p + 1 + 1, 10 * gDv (μ 0) p + gDv (μ 0) (p + 1)) from by simp only [gNum, if_pos c10, if_pos c24]]; exact ⟨rfl, _, _, h1, fun _ => by show nI (((10 * (((10 * 0) + (x12 + 48)) - 48)) + (x26 + 48)) - 48) = nI (10 * gDv (μ 0) p + gDv (μ 0) (p + 1)) ∧ 10 * gDv (μ 0) p + gDv (μ 0) (p + 1) < 100; rw [gx12, gx26]; exact ⟨congrArg nI (by omega), by omega⟩⟩)
          · have c33 : ¬ 2 ≤ ((0 + 1) + 1) := fun z => c33 ((gLe (a := 2) (b := (0 + 1) + 1) rfl rfl (by omega) (by omega)).mpr z)
            exact absurd c33 (by omega)
