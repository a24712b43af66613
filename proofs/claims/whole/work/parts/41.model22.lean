set_option maxHeartbeats 4000000 in
set_option maxRecDepth 100000 in
theorem c_X12_isF_0 (l : Launch) (G : gW) (b : Nat) (π μ f : gPS) (g : Nat → Int64) (n : Nat) (hn : μ 4 0 = nI n) (hT9 : gTx (μ 0) n) (E : Nat → Int32) (p c : Nat) (v d : Int32) (hp : p ≤ n) (hc : c + (n - p) ≤ 800) (hbG : G.2.2.2.size ≤ b) : gCI l yX12_isF cX12_isF 2 .boolean (gRm 8 181) G [.ref b] (fun H => gOld G H ∧ gSg G b (gLM G b π μ (gR (gR f 6 E) 13 (gS5 (nI p) v d (nI 4) (nI c))) g) H) (fun r H => r = gB ((gPF (μ 0) n 0 p).1 = true) ∧ ∃ (v d : Int32) (E9 : Nat → Int32), gCd E c E9 (gPF (μ 0) n 0 p).2.2 ∧ gSg G b (gLM G b π μ (gR (gR f 6 E9) 13 (gS5 (nI (gPF (μ 0) n 0 p).2.1) v d (nI 4) (nI (c + (gPF (μ 0) n 0 p).2.2.length)))) g) H) (fun q => b ≤ q ∧ q < b + 30) := by
  refine g_start (by decide) (Nat.le_of_ble_eq_true rfl) ?_
  intro pp_ ee_ s mm_ aa_ below meth cc_ ls Q hQ hX hE hP hl
  obtain ⟨hx, hb, hr, hml, hown, hT, hlk, hnm⟩ := hX
  have hK := hE.2.1
  obtain ⟨hO, h1⟩ := hP
  have hS : va_S (fun q => b ≤ q ∧ q < b + 30) s.heap s.heap [] := va_S.rf
  have hl : lv_has ls 2 [(0, .ref b)] := hl
  have hn9 : n ≤ 100 := hT9.1
  have hJ := hE.2.2.2.2.2.2.now hO
  refine lv_aload_n hx hb dX12_isF_0 rfl (lv_at hl 0 rfl) ?_
  refine lv_bipush (v := 33) hx hb dX12_isF_1 (by decide) ?_
  refine g_ki (g_runV (T := TX12) (ci := 12) (N := 45) (rest := []) hx hb hml hown hE hT (c_X12_isOpened l G b π μ f g n hn hT9 E p 4 c v d (by omega) (by omega) (by omega) 33) gM_X12_isOpened gm_X12_180 gi_X12_isOpened gs_RX12_yX12_isOpened_yX12_isOpened rfl (h1 0 _ rfl) h1 rfl hl.1 ⟨rfl, rfl⟩ ⟨Nat.le_of_ble_eq_true rfl, Nat.le_of_ble_eq_true rfl⟩ ⟨Nat.zero_le _, Nat.zero_le _⟩ rfl (Nat.le_of_ble_eq_true rfl) dX12_isF_3) hS (by intro q hq; omega) (fun r4 H1 locs q2 k3 hS => ?_)
  obtain ⟨e9, h1⟩ := q2
  rw [e9]
  refine lv_if_eq (tgt := 33) hx hb dX12_isF_6 (by decide) (fun c5 => ?_) (fun c5 => ?_)
  · have c5 : ¬ (¬ 4 = 4 ∧ p < n ∧ μ 0 p = 33) := gB_0.mp c5
    rw [if_neg c5, if_neg c5] at h1
    refine lv_aload_n hx hb dX12_isF_33 rfl (lv_at hl 0 rfl) ?_
    refine lv_bipush (v := 40) hx hb dX12_isF_34 (by decide) ?_
    refine g_ki (g_runV (T := TX12) (ci := 12) (N := 45) (rest := []) hx hb hml hown hE hT (c_X12_isOpened l G b π μ f g n hn hT9 E p 4 c v d (by omega) (by omega) (by omega) 40) gM_X12_isOpened gm_X12_180 gi_X12_isOpened gs_RX12_yX12_isOpened_yX12_isOpened rfl (h1 0 _ rfl) h1 rfl hl.1 ⟨rfl, rfl⟩ ⟨Nat.le_of_ble_eq_true rfl, Nat.le_of_ble_eq_true rfl⟩ ⟨Nat.zero_le _, Nat.zero_le _⟩ rfl (Nat.le_of_ble_eq_true rfl) dX12_isF_36) hS (by intro q hq; omega) (fun r9 H6 locs q7 k8 hS => ?_)
    obtain ⟨e9, h1⟩ := q7
    rw [e9]
    refine lv_if_eq (tgt := 67) hx hb dX12_isF_39 (by decide) (fun c10 => ?_) (fun c10 => ?_)
    · have c10 : ¬ (¬ 4 = 4 ∧ p < n ∧ μ 0 p = 40) := gB_0.mp c10
      rw [if_neg c10, if_neg c10] at h1
      refine lv_aload_n hx hb dX12_isF_67 rfl (lv_at hl 0 rfl) ?_
      have fy11 : p ≤ (gTe (μ 0) n p).2.1 ∧ (gTe (μ 0) n p).2.1 ≤ n ∧ (gTe (μ 0) n p).2.2.length ≤ (gTe (μ 0) n p).2.1 - p := gTe_fit (μ 0) n p (by omega)
      refine g_ki (g_runV (T := TX12) (ci := 12) (N := 45) (rest := []) hx hb hml hown hE hT (c_X12_isTest l G b π μ f g n hn hT9 E p 4 c v d (by omega) (by omega) (by omega) hbG) gM_X12_isTest gm_X12_189 gi_X12_isTest gs_RX12_yX12_isTest_yX12_isTest rfl (h1 0 _ rfl) ⟨(gOld_S hO hS (fun q9 hq9 => Nat.le_trans hbG hq9.1)), h1⟩ rfl hl.1 ⟨rfl, rfl⟩ ⟨Nat.le_of_ble_eq_true rfl, Nat.le_of_ble_eq_true rfl⟩ ⟨Nat.zero_le _, Nat.zero_le _⟩ rfl (Nat.le_of_ble_eq_true rfl) dX12_isF_68) hS (by intro q hq; omega) (fun r15 H12 locs q13 k14 hS => ?_)
      obtain ⟨e9, vy11, dy11, Ey11, hcy11, h1⟩ := q13
      rw [e9]
      rw [← hQ]
      exact g_zret hx hb hr hlk gB_n hS dX12_isF_71 (by rw [show gPF (μ 0) n 0 p = gTe (μ 0) n p from by rw [gPF]]; exact ⟨rfl, _, _, _, hcy11, h1⟩)
    · have c10 : ¬ 4 = 4 ∧ p < n ∧ μ 0 p = 40 := gB_1.mp c10
      exact absurd rfl c10.1
  · have c5 : ¬ 4 = 4 ∧ p < n ∧ μ 0 p = 33 := gB_1.mp c5
    exact absurd rfl c5.1

set_option maxHeartbeats 4000000 in
set_option maxRecDepth 100000 in
theorem c_X12_isT_0 (l : Launch) (G : gW) (b : Nat) (π μ f : gPS) (g : Nat → Int64) (n : Nat) (hn : μ 4 0 = nI n) (hT9 : gTx (μ 0) n) (E : Nat → Int32) (p c : Nat) (v d : Int32) (hp : p ≤ n) (hc : c + (n - p) ≤ 800) (hbG : G.2.2.2.size ≤ b) : gCI l yX12_isT cX12_isT 1 .boolean (gRm 9 202) G [.ref b] (fun H => gOld G H ∧ gSg G b (gLM G b π μ (gR (gR f 6 E) 13 (gS5 (nI p) v d (nI 4) (nI c))) g) H) (fun r H => r = gB ((gT (μ 0) n 0 p).1 = true) ∧ ∃ (v d : Int32) (E9 : Nat → Int32), gCd E c E9 (gT (μ 0) n 0 p).2.2 ∧ gSg G b (gLM G b π μ (gR (gR f 6 E9) 13 (gS5 (nI (gT (μ 0) n 0 p).2.1) v d (nI 4) (nI (c + (gT (μ 0) n 0 p).2.2.length)))) g) H) (fun q => b ≤ q ∧ q < b + 30) := by
  refine g_start (by decide) (Nat.le_of_ble_eq_true rfl) ?_
  intro pp_ ee_ s mm_ aa_ below meth cc_ ls Q hQ hX hE hP hl
  obtain ⟨hx, hb, hr, hml, hown, hT, hlk, hnm⟩ := hX
  have hK := hE.2.1
  obtain ⟨hO, h1⟩ := hP
  have hS : va_S (fun q => b ≤ q ∧ q < b + 30) s.heap s.heap [] := va_S.rf
  have hl : lv_has ls 1 [(0, .ref b)] := hl
  have hn9 : n ≤ 100 := hT9.1
  have hJ := hE.2.2.2.2.2.2.now hO
  refine lv_aload_n hx hb dX12_isT_0 rfl (lv_at hl 0 rfl) ?_
  have fy1 : p ≤ (gPF (μ 0) n 0 p).2.1 ∧ (gPF (μ 0) n 0 p).2.1 ≤ n ∧ (gPF (μ 0) n 0 p).2.2.length ≤ (gPF (μ 0) n 0 p).2.1 - p := gPF_fit (μ 0) n 0 p (by omega)
  refine g_ki (g_runV (T := TX12) (ci := 12) (N := 45) (rest := []) hx hb hml hown hE hT (c_X12_isF_0 l G b π μ f g n hn hT9 E p c v d (by omega) (by omega) hbG) gM_X12_isF gm_X12_183 gi_X12_isF gs_RX12_yX12_isF_yX12_isF rfl (h1 0 _ rfl) ⟨(gOld_S hO hS (fun q9 hq9 => Nat.le_trans hbG hq9.1)), h1⟩ rfl hl.1 ⟨rfl, rfl⟩ ⟨Nat.le_of_ble_eq_true rfl, Nat.le_of_ble_eq_true rfl⟩ ⟨Nat.zero_le _, Nat.zero_le _⟩ rfl (Nat.le_of_ble_eq_true rfl) dX12_isT_1) hS (by intro q hq; omega) (fun r5 H2 locs q3 k4 hS => ?_)
  obtain ⟨e9, vy1, dy1, Ey1, hcy1, h1⟩ := q3
  rw [e9]
  refine lv_if_ne (tgt := 9) hx hb dX12_isT_4 (by decide) (fun c6 => ?_) (fun c6 => ?_)
  · have c6 : (gPF (μ 0) n 0 p).1 = true := gB_1.mp c6
    have loop : ∀ (m a : Nat) (K : List Nat) (v9 d9 : Int32) (E9 : Nat → Int32), a ≤ n → n < a + m → p ≤ a → gT (μ 0) n 0 p = gTl (gPF (μ 0) n 0) (μ 0) n 38 1 m a K → gCd E c E9 K → K.length ≤ a - p → ∀ (H : Heap) (locs : List Loc), gSg G b (gLM G b π μ (gR (gR f 6 E9) 13 (gS5 (nI a) v9 d9 (nI 4) (nI (c + K.length)))) g) H → va_S (fun q => b ≤ q ∧ q < b + 30) s.heap H locs → ∀ ls, lv_has ls 1 [(0, .ref b)] → W pp_ l ee_ (gRm 9 202) s mm_ aa_ below meth cc_ H locs 0 0 Q (F0 mm_ 9 ls []) := by
      intro m
      induction m with
      | zero => intro a K v9 d9 E9 ha hm; exact absurd hm (by omega)
      | succ m ih =>
        intro a K v9 d9 E9 ha hm hpa hi hcd hKl H locs h1 hS ls hl
        refine lv_aload_n hx hb dX12_isT_9 rfl (lv_at hl 0 rfl) ?_
        refine lv_bipush (v := 38) hx hb dX12_isT_10 (by decide) ?_
        refine g_ki (g_runV (T := TX12) (ci := 12) (N := 45) (rest := []) hx hb hml hown hE hT (c_X12_is l G b π μ f g n hn hT9 E9 a 4 (c + K.length) v9 d9 (by omega) (by omega) (by omega) 38) gM_X12_is gm_X12_158 gi_X12_is gs_RX12_yX12_is_yX12_is rfl (h1 0 _ rfl) h1 rfl hl.1 ⟨rfl, rfl⟩ ⟨Nat.le_of_ble_eq_true rfl, Nat.le_of_ble_eq_true rfl⟩ ⟨Nat.zero_le _, Nat.zero_le _⟩ rfl (Nat.le_of_ble_eq_true rfl) dX12_isT_12) hS (by intro q hq; omega) (fun r10 H7 locs q8 k9 hS => ?_)
        obtain ⟨e9, h1⟩ := q8
        rw [e9]
        refine lv_if_eq (tgt := 35) hx hb dX12_isT_15 (by decide) (fun c11 => ?_) (fun c11 => ?_)
        · have c11 : ¬ (a < n ∧ μ 0 a = 38) := gB_0.mp c11
          rw [if_neg c11] at h1
          refine lv_iconst (v := 1) hx hb dX12_isT_35 (by decide) ?_
          rw [← hQ]
          exact g_zret hx hb hr hlk rfl hS dX12_isT_36 (by rw [hi, gTl, if_neg c11]; exact ⟨rfl, _, _, _, hcd, h1⟩)
        · have c11 : a < n ∧ μ 0 a = 38 := gB_1.mp c11
          rw [if_pos c11] at h1
          have ltc11 := c11.1
          refine lv_aload_n hx hb dX12_isT_18 rfl (lv_at hl 0 rfl) ?_
          have fy12 : a + 1 ≤ (gPF (μ 0) n 0 (a + 1)).2.1 ∧ (gPF (μ 0) n 0 (a + 1)).2.1 ≤ n ∧ (gPF (μ 0) n 0 (a + 1)).2.2.length ≤ (gPF (μ 0) n 0 (a + 1)).2.1 - (a + 1) := gPF_fit (μ 0) n 0 (a + 1) (by omega)
          refine g_ki (g_runV (T := TX12) (ci := 12) (N := 45) (rest := []) hx hb hml hown hE hT (c_X12_isF_0 l G b π μ f g n hn hT9 E9 (a + 1) (c + K.length) v9 d9 (by omega) (by omega) hbG) gM_X12_isF gm_X12_183 gi_X12_isF gs_RX12_yX12_isF_yX12_isF rfl (h1 0 _ rfl) ⟨(gOld_S hO hS (fun q9 hq9 => Nat.le_trans hbG hq9.1)), h1⟩ rfl hl.1 ⟨rfl, rfl⟩ ⟨Nat.le_of_ble_eq_true rfl, Nat.le_of_ble_eq_true rfl⟩ ⟨Nat.zero_le _, Nat.zero_le _⟩ rfl (Nat.le_of_ble_eq_true rfl) dX12_isT_19) hS (by intro q hq; omega) (fun r16 H13 locs q14 k15 hS => ?_)
          obtain ⟨e9, vy12, dy12, Ey12, hcy12, h1⟩ := q14
          rw [e9]
          refine lv_if_eq (tgt := 33) hx hb dX12_isT_22 (by decide) (fun c17 => ?_) (fun c17 => ?_)
          · have c17 : ¬ ((gPF (μ 0) n 0 (a + 1)).1 = true) := gB_0.mp c17
            refine lv_iconst (v := 0) hx hb dX12_isT_33 (by decide) ?_
            rw [← hQ]
            exact g_zret hx hb hr hlk rfl hS dX12_isT_34 (by rw [hi, gTl, if_pos c11, if_neg c17]; exact ⟨rfl, _, _, _, gCd_t hcd hcy12, by rw [List.length_append, ← Nat.add_assoc]; exact h1⟩)
          · have c17 : (gPF (μ 0) n 0 (a + 1)).1 = true := gB_1.mp c17
            refine lv_aload_n hx hb dX12_isT_25 rfl (lv_at hl 0 rfl) ?_
            refine lv_iconst (v := 1) hx hb dX12_isT_26 (by decide) ?_
            refine g_ki (g_runV (T := TX12) (ci := 12) (N := 45) (rest := []) hx hb hml hown hE hT (c_X12_codes l G b π μ f g n hn hT9 Ey12 (gPF (μ 0) n 0 (a + 1)).2.1 4 (c + K.length + (gPF (μ 0) n 0 (a + 1)).2.2.length) vy12 dy12 (by omega) (by omega) (by omega) 1 (by omega)) gM_X12_codes gm_X12_174 gi_X12_codes gs_RX12_yX12_codes_yX12_codes rfl (h1 0 _ rfl) h1 rfl hl.1 ⟨rfl, rfl⟩ ⟨Nat.le_of_ble_eq_true rfl, Nat.le_of_ble_eq_true rfl⟩ ⟨Nat.zero_le _, Nat.zero_le _⟩ rfl (Nat.le_of_ble_eq_true rfl) dX12_isT_27) hS (by intro q hq; omega) (fun r21 H18 locs q19 k20 hS => ?_)
            obtain ⟨e9, h1⟩ := q19
            rw [e9]
            refine lv_if_ne (tgt := 9) hx hb dX12_isT_30 (by decide) (fun c22 => ?_) (fun c22 => ?_)
            · have h1 : gSg G b (gLM G b π μ (gR (gR f 6 (upd Ey12 (c + K.length + (gPF (μ 0) n 0 (a + 1)).2.2.length) (nI 1))) 13 (gS5 (nI (gPF (μ 0) n 0 (a + 1)).2.1) vy12 dy12 (nI 4) (nI (c + (K ++ (gPF (μ 0) n 0 (a + 1)).2.2 ++ [1]).length)))) g) H18 := by rw [List.length_append, List.length_append, ← Nat.add_assoc, ← Nat.add_assoc]; exact h1
              exact ih (gPF (μ 0) n 0 (a + 1)).2.1 (K ++ (gPF (μ 0) n 0 (a + 1)).2.2 ++ [1]) _ _ _ (by omega) (by omega) (by omega) (by rw [hi, gTl, if_pos c11, if_pos c17]) (by have q9 := gCd_a (x := 1) (gCd_t hcd hcy12); rw [List.length_append, ← Nat.add_assoc] at q9; exact q9) (by rw [List.length_append, List.length_append]; show K.length + (gPF (μ 0) n 0 (a + 1)).2.2.length + 1 ≤ _; omega) _ _ h1 hS _ (lv_sub hl [0] rfl)
            · exact absurd c22 (by decide)
    exact loop (n + 1) _ _ _ _ _ (by omega) (by omega) (by omega) (by rw [gT, gPT, if_pos c6]) hcy1 (by omega) _ _ h1 hS _ (lv_sub hl [0] rfl)
  · have c6 : ¬ ((gPF (μ 0) n 0 p).1 = true) := gB_0.mp c6
    refine lv_iconst (v := 0) hx hb dX12_isT_7 (by decide) ?_
    rw [← hQ]
    exact g_zret hx hb hr hlk rfl hS dX12_isT_8 (by rw [show gT (μ 0) n 0 p = (false, (gPF (μ 0) n 0 p).2.1, (gPF (μ 0) n 0 p).2.2) from by rw [gT, gPT, if_neg c6]]; exact ⟨rfl, _, _, _, hcy1, h1⟩)

set_option maxHeartbeats 4000000 in
set_option maxRecDepth 100000 in
theorem c_X12_isE_0 (l : Launch) (G : gW) (b : Nat) (π μ f : gPS) (g : Nat → Int64) (n : Nat) (hn : μ 4 0 = nI n) (hT9 : gTx (μ 0) n) (E : Nat → Int32) (p c : Nat) (v d : Int32) (hp : p ≤ n) (hc : c + (n - p) ≤ 800) (hbG : G.2.2.2.size ≤ b) : gCI l yX12_isE cX12_isE 1 .boolean (gRm 10 222) G [.ref b] (fun H => gOld G H ∧ gSg G b (gLM G b π μ (gR (gR f 6 E) 13 (gS5 (nI p) v d (nI 4) (nI c))) g) H) (fun r H => r = gB ((gE (μ 0) n 0 p).1 = true) ∧ ∃ (v d : Int32) (E9 : Nat → Int32), gCd E c E9 (gE (μ 0) n 0 p).2.2 ∧ gSg G b (gLM G b π μ (gR (gR f 6 E9) 13 (gS5 (nI (gE (μ 0) n 0 p).2.1) v d (nI 4) (nI (c + (gE (μ 0) n 0 p).2.2.length)))) g) H) (fun q => b ≤ q ∧ q < b + 30) := by
  refine g_start (by decide) (Nat.le_of_ble_eq_true rfl) ?_
  intro pp_ ee_ s mm_ aa_ below meth cc_ ls Q hQ hX hE hP hl
  obtain ⟨hx, hb, hr, hml, hown, hT, hlk, hnm⟩ := hX
  have hK := hE.2.1
  obtain ⟨hO, h1⟩ := hP
  have hS : va_S (fun q => b ≤ q ∧ q < b + 30) s.heap s.heap [] := va_S.rf
  have hl : lv_has ls 1 [(0, .ref b)] := hl
  have hn9 : n ≤ 100 := hT9.1
  have hJ := hE.2.2.2.2.2.2.now hO
  refine lv_aload_n hx hb dX12_isE_0 rfl (lv_at hl 0 rfl) ?_
  have fy1 : p ≤ (gT (μ 0) n 0 p).2.1 ∧ (gT (μ 0) n 0 p).2.1 ≤ n ∧ (gT (μ 0) n 0 p).2.2.length ≤ (gT (μ 0) n 0 p).2.1 - p := gT_fit (μ 0) n 0 p (by omega)
  refine g_ki (g_runV (T := TX12) (ci := 12) (N := 45) (rest := []) hx hb hml hown hE hT (c_X12_isT_0 l G b π μ f g n hn hT9 E p c v d (by omega) (by omega) hbG) gM_X12_isT gm_X12_192 gi_X12_isT gs_RX12_yX12_isT_yX12_isT rfl (h1 0 _ rfl) ⟨(gOld_S hO hS (fun q9 hq9 => Nat.le_trans hbG hq9.1)), h1⟩ rfl hl.1 ⟨rfl, rfl⟩ ⟨Nat.le_of_ble_eq_true rfl, Nat.le_of_ble_eq_true rfl⟩ ⟨Nat.zero_le _, Nat.zero_le _⟩ rfl (Nat.le_of_ble_eq_true rfl) dX12_isE_1) hS (by intro q hq; omega) (fun r5 H2 locs q3 k4 hS => ?_)
  obtain ⟨e9, vy1, dy1, Ey1, hcy1, h1⟩ := q3
  rw [e9]
  refine lv_if_ne (tgt := 9) hx hb dX12_isE_4 (by decide) (fun c6 => ?_) (fun c6 => ?_)
  · have c6 : (gT (μ 0) n 0 p).1 = true := gB_1.mp c6
    have loop : ∀ (m a : Nat) (K : List Nat) (v9 d9 : Int32) (E9 : Nat → Int32), a ≤ n → n < a + m → p ≤ a → gE (μ 0) n 0 p = gTl (gT (μ 0) n 0) (μ 0) n 124 2 m a K → gCd E c E9 K → K.length ≤ a - p → ∀ (H : Heap) (locs : List Loc), gSg G b (gLM G b π μ (gR (gR f 6 E9) 13 (gS5 (nI a) v9 d9 (nI 4) (nI (c + K.length)))) g) H → va_S (fun q => b ≤ q ∧ q < b + 30) s.heap H locs → ∀ ls, lv_has ls 1 [(0, .ref b)] → W pp_ l ee_ (gRm 10 222) s mm_ aa_ below meth cc_ H locs 0 0 Q (F0 mm_ 9 ls []) := by
      intro m
      induction m with
      | zero => intro a K v9 d9 E9 ha hm; exact absurd hm (by omega)
      | succ m ih =>
        intro a K v9 d9 E9 ha hm hpa hi hcd hKl H locs h1 hS ls hl
        refine lv_aload_n hx hb dX12_isE_9 rfl (lv_at hl 0 rfl) ?_
        refine lv_bipush (v := 124) hx hb dX12_isE_10 (by decide) ?_
        refine g_ki (g_runV (T := TX12) (ci := 12) (N := 45) (rest := []) hx hb hml hown hE hT (c_X12_is l G b π μ f g n hn hT9 E9 a 4 (c + K.length) v9 d9 (by omega) (by omega) (by omega) 124) gM_X12_is gm_X12_158 gi_X12_is gs_RX12_yX12_is_yX12_is rfl (h1 0 _ rfl) h1 rfl hl.1 ⟨rfl, rfl⟩ ⟨Nat.le_of_ble_eq_true rfl, Nat.le_of_ble_eq_true rfl⟩ ⟨Nat.zero_le _, Nat.zero_le _⟩ rfl (Nat.le_of_ble_eq_true rfl) dX12_isE_12) hS (by intro q hq; omega) (fun r10 H7 locs q8 k9 hS => ?_)
        obtain ⟨e9, h1⟩ := q8
        rw [e9]
        refine lv_if_eq (tgt := 35) hx hb dX12_isE_15 (by decide) (fun c11 => ?_) (fun c11 => ?_)
        · have c11 : ¬ (a < n ∧ μ 0 a = 124) := gB_0.mp c11
          rw [if_neg c11] at h1
          refine lv_iconst (v := 1) hx hb dX12_isE_35 (by decide) ?_
          rw [← hQ]
          exact g_zret hx hb hr hlk rfl hS dX12_isE_36 (by rw [hi, gTl, if_neg c11]; exact ⟨rfl, _, _, _, hcd, h1⟩)
        · have c11 : a < n ∧ μ 0 a = 124 := gB_1.mp c11
          rw [if_pos c11] at h1
          have ltc11 := c11.1
          refine lv_aload_n hx hb dX12_isE_18 rfl (lv_at hl 0 rfl) ?_
          have fy12 : a + 1 ≤ (gT (μ 0) n 0 (a + 1)).2.1 ∧ (gT (μ 0) n 0 (a + 1)).2.1 ≤ n ∧ (gT (μ 0) n 0 (a + 1)).2.2.length ≤ (gT (μ 0) n 0 (a + 1)).2.1 - (a + 1) := gT_fit (μ 0) n 0 (a + 1) (by omega)
          refine g_ki (g_runV (T := TX12) (ci := 12) (N := 45) (rest := []) hx hb hml hown hE hT (c_X12_isT_0 l G b π μ f g n hn hT9 E9 (a + 1) (c + K.length) v9 d9 (by omega) (by omega) hbG) gM_X12_isT gm_X12_192 gi_X12_isT gs_RX12_yX12_isT_yX12_isT rfl (h1 0 _ rfl) ⟨(gOld_S hO hS (fun q9 hq9 => Nat.le_trans hbG hq9.1)), h1⟩ rfl hl.1 ⟨rfl, rfl⟩ ⟨Nat.le_of_ble_eq_true rfl, Nat.le_of_ble_eq_true rfl⟩ ⟨Nat.zero_le _, Nat.zero_le _⟩ rfl (Nat.le_of_ble_eq_true rfl) dX12_isE_19) hS (by intro q hq; omega) (fun r16 H13 locs q14 k15 hS => ?_)
          obtain ⟨e9, vy12, dy12, Ey12, hcy12, h1⟩ := q14
          rw [e9]
          refine lv_if_eq (tgt := 33) hx hb dX12_isE_22 (by decide) (fun c17 => ?_) (fun c17 => ?_)
          · have c17 : ¬ ((gT (μ 0) n 0 (a + 1)).1 = true) := gB_0.mp c17
            refine lv_iconst (v := 0) hx hb dX12_isE_33 (by decide) ?_
            rw [← hQ]
            exact g_zret hx hb hr hlk rfl hS dX12_isE_34 (by rw [hi, gTl, if_pos c11, if_neg c17]; exact ⟨rfl, _, _, _, gCd_t hcd hcy12, by rw [List.length_append, ← Nat.add_assoc]; exact h1⟩)
          · have c17 : (gT (μ 0) n 0 (a + 1)).1 = true := gB_1.mp c17
            refine lv_aload_n hx hb dX12_isE_25 rfl (lv_at hl 0 rfl) ?_
            refine lv_iconst (v := 2) hx hb dX12_isE_26 (by decide) ?_
            refine g_ki (g_runV (T := TX12) (ci := 12) (N := 45) (rest := []) hx hb hml hown hE hT (c_X12_codes l G b π μ f g n hn hT9 Ey12 (gT (μ 0) n 0 (a + 1)).2.1 4 (c + K.length + (gT (μ 0) n 0 (a + 1)).2.2.length) vy12 dy12 (by omega) (by omega) (by omega) 2 (by omega)) gM_X12_codes gm_X12_174 gi_X12_codes gs_RX12_yX12_codes_yX12_codes rfl (h1 0 _ rfl) h1 rfl hl.1 ⟨rfl, rfl⟩ ⟨Nat.le_of_ble_eq_true rfl, Nat.le_of_ble_eq_true rfl⟩ ⟨Nat.zero_le _, Nat.zero_le _⟩ rfl (Nat.le_of_ble_eq_true rfl) dX12_isE_27) hS (by intro q hq; omega) (fun r21 H18 locs q19 k20 hS => ?_)
            obtain ⟨e9, h1⟩ := q19
            rw [e9]
            refine lv_if_ne (tgt := 9) hx hb dX12_isE_30 (by decide) (fun c22 => ?_) (fun c22 => ?_)
            · have h1 : gSg G b (gLM G b π μ (gR (gR f 6 (upd Ey12 (c + K.length + (gT (μ 0) n 0 (a + 1)).2.2.length) (nI 2))) 13 (gS5 (nI (gT (μ 0) n 0 (a + 1)).2.1) vy12 dy12 (nI 4) (nI (c + (K ++ (gT (μ 0) n 0 (a + 1)).2.2 ++ [2]).length)))) g) H18 := by rw [List.length_append, List.length_append, ← Nat.add_assoc, ← Nat.add_assoc]; exact h1
              exact ih (gT (μ 0) n 0 (a + 1)).2.1 (K ++ (gT (μ 0) n 0 (a + 1)).2.2 ++ [2]) _ _ _ (by omega) (by omega) (by omega) (by rw [hi, gTl, if_pos c11, if_pos c17]) (by have q9 := gCd_a (x := 2) (gCd_t hcd hcy12); rw [List.length_append, ← Nat.add_assoc] at q9; exact q9) (by rw [List.length_append, List.length_append]; show K.length + (gT (μ 0) n 0 (a + 1)).2.2.length + 1 ≤ _; omega) _ _ h1 hS _ (lv_sub hl [0] rfl)
            · exact absurd c22 (by decide)
    exact loop (n + 1) _ _ _ _ _ (by omega) (by omega) (by omega) (by rw [gE, gPT, if_pos c6]) hcy1 (by omega) _ _ h1 hS _ (lv_sub hl [0] rfl)
  · have c6 : ¬ ((gT (μ 0) n 0 p).1 = true) := gB_0.mp c6
    refine lv_iconst (v := 0) hx hb dX12_isE_7 (by decide) ?_
    rw [← hQ]
    exact g_zret hx hb hr hlk rfl hS dX12_isE_8 (by rw [show gE (μ 0) n 0 p = (false, (gT (μ 0) n 0 p).2.1, (gT (μ 0) n 0 p).2.2) from by rw [gE, gPT, if_neg c6]]; exact ⟨rfl, _, _, _, hcy1, h1⟩)

set_option maxHeartbeats 4000000 in
set_option maxRecDepth 100000 in
theorem c_X12_isF_1 (l : Launch) (G : gW) (b : Nat) (π μ f : gPS) (g : Nat → Int64) (n : Nat) (hn : μ 4 0 = nI n) (hT9 : gTx (μ 0) n) (E : Nat → Int32) (p c : Nat) (v d : Int32) (hp : p ≤ n) (hc : c + (n - p) ≤ 800) (hbG : G.2.2.2.size ≤ b) : gCI l yX12_isF cX12_isF 2 .boolean (gRm 11 242) G [.ref b] (fun H => gOld G H ∧ gSg G b (gLM G b π μ (gR (gR f 6 E) 13 (gS5 (nI p) v d (nI 3) (nI c))) g) H) (fun r H => r = gB ((gPF (μ 0) n 1 p).1 = true) ∧ ∃ (v d : Int32) (E9 : Nat → Int32), gCd E c E9 (gPF (μ 0) n 1 p).2.2 ∧ gSg G b (gLM G b π μ (gR (gR f 6 E9) 13 (gS5 (nI (gPF (μ 0) n 1 p).2.1) v d (nI 3) (nI (c + (gPF (μ 0) n 1 p).2.2.length)))) g) H) (fun q => b ≤ q ∧ q < b + 30) := by
  refine g_start (by decide) (Nat.le_of_ble_eq_true rfl) ?_
  intro pp_ ee_ s mm_ aa_ below meth cc_ ls Q hQ hX hE hP hl
  obtain ⟨hx, hb, hr, hml, hown, hT, hlk, hnm⟩ := hX
  have hK := hE.2.1
  obtain ⟨hO, h1⟩ := hP
  have hS : va_S (fun q => b ≤ q ∧ q < b + 30) s.heap s.heap [] := va_S.rf
  have hl : lv_has ls 2 [(0, .ref b)] := hl
  have hn9 : n ≤ 100 := hT9.1
  have hJ := hE.2.2.2.2.2.2.now hO
  refine lv_aload_n hx hb dX12_isF_0 rfl (lv_at hl 0 rfl) ?_
  refine lv_bipush (v := 33) hx hb dX12_isF_1 (by decide) ?_
  refine g_ki (g_runV (T := TX12) (ci := 12) (N := 45) (rest := []) hx hb hml hown hE hT (c_X12_isOpened l G b π μ f g n hn hT9 E p 3 c v d (by omega) (by omega) (by omega) 33) gM_X12_isOpened gm_X12_180 gi_X12_isOpened gs_RX12_yX12_isOpened_yX12_isOpened rfl (h1 0 _ rfl) h1 rfl hl.1 ⟨rfl, rfl⟩ ⟨Nat.le_of_ble_eq_true rfl, Nat.le_of_ble_eq_true rfl⟩ ⟨Nat.zero_le _, Nat.zero_le _⟩ rfl (Nat.le_of_ble_eq_true rfl) dX12_isF_3) hS (by intro q hq; omega) (fun r4 H1 locs q2 k3 hS => ?_)
  obtain ⟨e9, h1⟩ := q2
  rw [e9]
  refine lv_if_eq (tgt := 33) hx hb dX12_isF_6 (by decide) (fun c5 => ?_) (fun c5 => ?_)
  · have c5 : ¬ (¬ 3 = 4 ∧ p < n ∧ μ 0 p = 33) := gB_0.mp c5
    rw [if_neg c5, if_neg c5] at h1
    have gc5 : ¬ (p < n ∧ μ 0 p = 33) := fun z9 => c5 ⟨by decide, z9⟩
    refine lv_aload_n hx hb dX12_isF_33 rfl (lv_at hl 0 rfl) ?_
    refine lv_bipush (v := 40) hx hb dX12_isF_34 (by decide) ?_
    refine g_ki (g_runV (T := TX12) (ci := 12) (N := 45) (rest := []) hx hb hml hown hE hT (c_X12_isOpened l G b π μ f g n hn hT9 E p 3 c v d (by omega) (by omega) (by omega) 40) gM_X12_isOpened gm_X12_180 gi_X12_isOpened gs_RX12_yX12_isOpened_yX12_isOpened rfl (h1 0 _ rfl) h1 rfl hl.1 ⟨rfl, rfl⟩ ⟨Nat.le_of_ble_eq_true rfl, Nat.le_of_ble_eq_true rfl⟩ ⟨Nat.zero_le _, Nat.zero_le _⟩ rfl (Nat.le_of_ble_eq_true rfl) dX12_isF_36) hS (by intro q hq; omega) (fun r9 H6 locs q7 k8 hS => ?_)
    obtain ⟨e9, h1⟩ := q7
    rw [e9]
    refine lv_if_eq (tgt := 67) hx hb dX12_isF_39 (by decide) (fun c10 => ?_) (fun c10 => ?_)
    · have c10 : ¬ (¬ 3 = 4 ∧ p < n ∧ μ 0 p = 40) := gB_0.mp c10
      rw [if_neg c10, if_neg c10] at h1
      have gc10 : ¬ (p < n ∧ μ 0 p = 40) := fun z9 => c10 ⟨by decide, z9⟩
      refine lv_aload_n hx hb dX12_isF_67 rfl (lv_at hl 0 rfl) ?_
      have fy11 : p ≤ (gTe (μ 0) n p).2.1 ∧ (gTe (μ 0) n p).2.1 ≤ n ∧ (gTe (μ 0) n p).2.2.length ≤ (gTe (μ 0) n p).2.1 - p := gTe_fit (μ 0) n p (by omega)
      refine g_ki (g_runV (T := TX12) (ci := 12) (N := 45) (rest := []) hx hb hml hown hE hT (c_X12_isTest l G b π μ f g n hn hT9 E p 3 c v d (by omega) (by omega) (by omega) hbG) gM_X12_isTest gm_X12_189 gi_X12_isTest gs_RX12_yX12_isTest_yX12_isTest rfl (h1 0 _ rfl) ⟨(gOld_S hO hS (fun q9 hq9 => Nat.le_trans hbG hq9.1)), h1⟩ rfl hl.1 ⟨rfl, rfl⟩ ⟨Nat.le_of_ble_eq_true rfl, Nat.le_of_ble_eq_true rfl⟩ ⟨Nat.zero_le _, Nat.zero_le _⟩ rfl (Nat.le_of_ble_eq_true rfl) dX12_isF_68) hS (by intro q hq; omega) (fun r15 H12 locs q13 k14 hS => ?_)
      obtain ⟨e9, vy11, dy11, Ey11, hcy11, h1⟩ := q13
      rw [e9]
      rw [← hQ]
      exact g_zret hx hb hr hlk gB_n hS dX12_isF_71 (by rw [show gPF (μ 0) n 1 p = gTe (μ 0) n p from by rw [gPF.eq_2, if_neg gc5, if_neg gc10]]; exact ⟨rfl, _, _, _, hcy11, h1⟩)
    · have c10 : ¬ 3 = 4 ∧ p < n ∧ μ 0 p = 40 := gB_1.mp c10
      rw [if_pos c10, if_pos c10] at h1
      have ltc10 := c10.2.1
      have gc10 := c10.2
      have h1 : gSg G b (gLM G b π μ (gR (gR f 6 E) 13 (gS5 (nI (p + 1)) v d (nI 4) (nI c))) g) H6 := h1
      refine lv_aload_n hx hb dX12_isF_42 rfl (lv_at hl 0 rfl) ?_
      have fy16 : p + 1 ≤ (gE (μ 0) n 0 (p + 1)).2.1 ∧ (gE (μ 0) n 0 (p + 1)).2.1 ≤ n ∧ (gE (μ 0) n 0 (p + 1)).2.2.length ≤ (gE (μ 0) n 0 (p + 1)).2.1 - (p + 1) := gE_fit (μ 0) n 0 (p + 1) (by omega)
      refine g_ki (g_runV (T := TX12) (ci := 12) (N := 45) (rest := []) hx hb hml hown hE hT (c_X12_isE_0 l G b π μ f g n hn hT9 E (p + 1) c v d (by omega) (by omega) hbG) gM_X12_isE gm_X12_186 gi_X12_isE gs_RX12_yX12_isE_yX12_isE rfl (h1 0 _ rfl) ⟨(gOld_S hO hS (fun q9 hq9 => Nat.le_trans hbG hq9.1)), h1⟩ rfl hl.1 ⟨rfl, rfl⟩ ⟨Nat.le_of_ble_eq_true rfl, Nat.le_of_ble_eq_true rfl⟩ ⟨Nat.zero_le _, Nat.zero_le _⟩ rfl (Nat.le_of_ble_eq_true rfl) dX12_isF_43) hS (by intro q hq; omega) (fun r20 H17 locs q18 k19 hS => ?_)
      obtain ⟨e9, vy16, dy16, Ey16, hcy16, h1⟩ := q18
      rw [e9]
      refine lv_if_eq (tgt := 62) hx hb dX12_isF_46 (by decide) (fun c21 => ?_) (fun c21 => ?_)
      · have c21 : ¬ ((gE (μ 0) n 0 (p + 1)).1 = true) := gB_0.mp c21
        refine lv_iconst (v := 0) hx hb dX12_isF_62 (by decide) ?_
        refine lv_istore_n (lv' := [(1, .int 0), (0, .ref b)]) hx hb dX12_isF_63 rfl hl (by decide) rfl (fun ls hl => ?_)
        refine lv_goto (tgt := 72) hx hb dX12_isF_64 (by decide) ?_
        refine lv_aload_n hx hb dX12_isF_72 rfl (lv_at hl 1 rfl) ?_
        refine lv_dup hx hb dX12_isF_73 rfl ?_
        refine g_get (v := .int (nI 4)) (T := TX12) (ci := 12) (N := 45) hx hb hown hK (gY_X12 hT) rfl (h1 0 _ rfl) 16 (by decide) (hT _ gf_X12_177) rfl dX12_isF_74 ?_
        refine lv_iconst (v := 1) hx hb dX12_isF_77 (by decide) ?_
        refine lv_isub hx hb dX12_isF_78 ?_
        rw [show ((nI 4) - 1 : Int32) = nI (4 - 1) from (gSub rfl rfl (by omega))]
        refine g_put (T := TX12) (ci := 12) (N := 45) (ty0 := tyX12) hx hb hown hK hS (gY_X12 hT) tyX12_ok nmX12 rfl (h1 0 _ rfl) 16 (by decide) (hT _ gf_X12_177) rfl rfl rfl (Nat.le_of_ble_eq_true rfl) (by omega) dX12_isF_79 (fun H22 locs c23 oq hS => ?_)
        have h1 : gSg G b (gLM G b π μ (gR (gR f 6 Ey16) 13 (gS5 (nI (gE (μ 0) n 0 (p + 1)).2.1) vy16 dy16 (nI (4 - 1)) (nI (c + (gE (μ 0) n 0 (p + 1)).2.2.length)))) g) H22 := gSg_set h1 0 c23 oq
        refine lv_iload_n hx hb dX12_isF_82 rfl (lv_at hl 0 rfl) ?_
        rw [← hQ]
        exact g_zret hx hb hr hlk rfl hS dX12_isF_83 (by rw [show gPF (μ 0) n 1 p = (false, (gE (μ 0) n 0 (p + 1)).2.1, (gE (μ 0) n 0 (p + 1)).2.2) from by rw [gPF.eq_2, if_neg gc5, if_pos gc10, gE_e, if_neg c21]]; exact ⟨rfl, _, _, _, hcy16, h1⟩)
      · have c21 : (gE (μ 0) n 0 (p + 1)).1 = true := gB_1.mp c21
        refine lv_aload_n hx hb dX12_isF_49 rfl (lv_at hl 0 rfl) ?_
        refine lv_bipush (v := 41) hx hb dX12_isF_50 (by decide) ?_
        refine g_ki (g_runV (T := TX12) (ci := 12) (N := 45) (rest := []) hx hb hml hown hE hT (c_X12_is l G b π μ f g n hn hT9 Ey16 (gE (μ 0) n 0 (p + 1)).2.1 4 (c + (gE (μ 0) n 0 (p + 1)).2.2.length) vy16 dy16 (by omega) (by omega) (by omega) 41) gM_X12_is gm_X12_158 gi_X12_is gs_RX12_yX12_is_yX12_is rfl (h1 0 _ rfl) h1 rfl hl.1 ⟨rfl, rfl⟩ ⟨Nat.le_of_ble_eq_true rfl, Nat.le_of_ble_eq_true rfl⟩ ⟨Nat.zero_le _, Nat.zero_le _⟩ rfl (Nat.le_of_ble_eq_true rfl) dX12_isF_52) hS (by intro q hq; omega) (fun r27 H24 locs q25 k26 hS => ?_)
        obtain ⟨e9, h1⟩ := q25
        rw [e9]
        refine lv_if_eq (tgt := 62) hx hb dX12_isF_55 (by decide) (fun c28 => ?_) (fun c28 => ?_)
        · have c28 : ¬ ((gE (μ 0) n 0 (p + 1)).2.1 < n ∧ μ 0 (gE (μ 0) n 0 (p + 1)).2.1 = 41) := gB_0.mp c28
          rw [if_neg c28] at h1
          refine lv_iconst (v := 0) hx hb dX12_isF_62 (by decide) ?_
          refine lv_istore_n (lv' := [(1, .int 0), (0, .ref b)]) hx hb dX12_isF_63 rfl hl (by decide) rfl (fun ls hl => ?_)
          refine lv_goto (tgt := 72) hx hb dX12_isF_64 (by decide) ?_
          refine lv_aload_n hx hb dX12_isF_72 rfl (lv_at hl 1 rfl) ?_
          refine lv_dup hx hb dX12_isF_73 rfl ?_
          refine g_get (v := .int (nI 4)) (T := TX12) (ci := 12) (N := 45) hx hb hown hK (gY_X12 hT) rfl (h1 0 _ rfl) 16 (by decide) (hT _ gf_X12_177) rfl dX12_isF_74 ?_
          refine lv_iconst (v := 1) hx hb dX12_isF_77 (by decide) ?_
          refine lv_isub hx hb dX12_isF_78 ?_
          rw [show ((nI 4) - 1 : Int32) = nI (4 - 1) from (gSub rfl rfl (by omega))]
          refine g_put (T := TX12) (ci := 12) (N := 45) (ty0 := tyX12) hx hb hown hK hS (gY_X12 hT) tyX12_ok nmX12 rfl (h1 0 _ rfl) 16 (by decide) (hT _ gf_X12_177) rfl rfl rfl (Nat.le_of_ble_eq_true rfl) (by omega) dX12_isF_79 (fun H29 locs c30 oq hS => ?_)
          have h1 : gSg G b (gLM G b π μ (gR (gR f 6 Ey16) 13 (gS5 (nI ((gE (μ 0) n 0 (p + 1)).2.1)) vy16 dy16 (nI (4 - 1)) (nI (c + (gE (μ 0) n 0 (p + 1)).2.2.length)))) g) H29 := gSg_set h1 0 c30 oq
          refine lv_iload_n hx hb dX12_isF_82 rfl (lv_at hl 0 rfl) ?_
          rw [← hQ]
          exact g_zret hx hb hr hlk rfl hS dX12_isF_83 (by rw [show gPF (μ 0) n 1 p = (false, (gE (μ 0) n 0 (p + 1)).2.1, (gE (μ 0) n 0 (p + 1)).2.2) from by rw [gPF.eq_2, if_neg gc5, if_pos gc10, gE_e, if_pos c21, if_neg c28]]; exact ⟨rfl, _, _, _, hcy16, h1⟩)
        · have c28 : (gE (μ 0) n 0 (p + 1)).2.1 < n ∧ μ 0 (gE (μ 0) n 0 (p + 1)).2.1 = 41 := gB_1.mp c28
          rw [if_pos c28] at h1
          have ltc28 := c28.1
          refine lv_iconst (v := 1) hx hb dX12_isF_58 (by decide) ?_
          refine lv_goto (tgt := 63) hx hb dX12_isF_59 (by decide) ?_
          refine lv_istore_n (lv' := [(1, .int 1), (0, .ref b)]) hx hb dX12_isF_63 rfl hl (by decide) rfl (fun ls hl => ?_)
          refine lv_goto (tgt := 72) hx hb dX12_isF_64 (by decide) ?_
          refine lv_aload_n hx hb dX12_isF_72 rfl (lv_at hl 1 rfl) ?_
          refine lv_dup hx hb dX12_isF_73 rfl ?_
          refine g_get (v := .int (nI 4)) (T := TX12) (ci := 12) (N := 45) hx hb hown hK (gY_X12 hT) rfl (h1 0 _ rfl) 16 (by decide) (hT _ gf_X12_177) rfl dX12_isF_74 ?_
          refine lv_iconst (v := 1) hx hb dX12_isF_77 (by decide) ?_
          refine lv_isub hx hb dX12_isF_78 ?_
          rw [show ((nI 4) - 1 : Int32) = nI (4 - 1) from (gSub rfl rfl (by omega))]
          refine g_put (T := TX12) (ci := 12) (N := 45) (ty0 := tyX12) hx hb hown hK hS (gY_X12 hT) tyX12_ok nmX12 rfl (h1 0 _ rfl) 16 (by decide) (hT _ gf_X12_177) rfl rfl rfl (Nat.le_of_ble_eq_true rfl) (by omega) dX12_isF_79 (fun H31 locs c32 oq hS => ?_)
          have h1 : gSg G b (gLM G b π μ (gR (gR f 6 Ey16) 13 (gS5 (nI ((gE (μ 0) n 0 (p + 1)).2.1 + 1)) vy16 dy16 (nI (4 - 1)) (nI (c + (gE (μ 0) n 0 (p + 1)).2.2.length)))) g) H31 := gSg_set h1 0 c32 oq
          refine lv_iload_n hx hb dX12_isF_82 rfl (lv_at hl 0 rfl) ?_
          rw [← hQ]
          exact g_zret hx hb hr hlk rfl hS dX12_isF_83 (by rw [show gPF (μ 0) n 1 p = (true, (gE (μ 0) n 0 (p + 1)).2.1 + 1, (gE (μ 0) n 0 (p + 1)).2.2) from by rw [gPF.eq_2, if_neg gc5, if_pos gc10, gE_e, if_pos c21, if_pos c28]]; exact ⟨rfl, _, _, _, hcy16, h1⟩)
  · have c5 : ¬ 3 = 4 ∧ p < n ∧ μ 0 p = 33 := gB_1.mp c5
    rw [if_pos c5, if_pos c5] at h1
    have ltc5 := c5.2.1
    have gc5 := c5.2
    have h1 : gSg G b (gLM G b π μ (gR (gR f 6 E) 13 (gS5 (nI (p + 1)) v d (nI 4) (nI c))) g) H1 := h1
    refine lv_aload_n hx hb dX12_isF_9 rfl (lv_at hl 0 rfl) ?_
    have fy33 : p + 1 ≤ (gPF (μ 0) n 0 (p + 1)).2.1 ∧ (gPF (μ 0) n 0 (p + 1)).2.1 ≤ n ∧ (gPF (μ 0) n 0 (p + 1)).2.2.length ≤ (gPF (μ 0) n 0 (p + 1)).2.1 - (p + 1) := gPF_fit (μ 0) n 0 (p + 1) (by omega)
    refine g_ki (g_runV (T := TX12) (ci := 12) (N := 45) (rest := []) hx hb hml hown hE hT (c_X12_isF_0 l G b π μ f g n hn hT9 E (p + 1) c v d (by omega) (by omega) hbG) gM_X12_isF gm_X12_183 gi_X12_isF gs_RX12_yX12_isF_yX12_isF rfl (h1 0 _ rfl) ⟨(gOld_S hO hS (fun q9 hq9 => Nat.le_trans hbG hq9.1)), h1⟩ rfl hl.1 ⟨rfl, rfl⟩ ⟨Nat.le_of_ble_eq_true rfl, Nat.le_of_ble_eq_true rfl⟩ ⟨Nat.zero_le _, Nat.zero_le _⟩ rfl (Nat.le_of_ble_eq_true rfl) dX12_isF_10) hS (by intro q hq; omega) (fun r37 H34 locs q35 k36 hS => ?_)
    obtain ⟨e9, vy33, dy33, Ey33, hcy33, h1⟩ := q35
    rw [e9]
    refine lv_if_eq (tgt := 28) hx hb dX12_isF_13 (by decide) (fun c38 => ?_) (fun c38 => ?_)
    · have c38 : ¬ ((gPF (μ 0) n 0 (p + 1)).1 = true) := gB_0.mp c38
      refine lv_iconst (v := 0) hx hb dX12_isF_28 (by decide) ?_
      refine lv_istore_n (lv' := [(1, .int 0), (0, .ref b)]) hx hb dX12_isF_29 rfl hl (by decide) rfl (fun ls hl => ?_)
      refine lv_goto (tgt := 72) hx hb dX12_isF_30 (by decide) ?_
      refine lv_aload_n hx hb dX12_isF_72 rfl (lv_at hl 1 rfl) ?_
      refine lv_dup hx hb dX12_isF_73 rfl ?_
      refine g_get (v := .int (nI 4)) (T := TX12) (ci := 12) (N := 45) hx hb hown hK (gY_X12 hT) rfl (h1 0 _ rfl) 16 (by decide) (hT _ gf_X12_177) rfl dX12_isF_74 ?_
      refine lv_iconst (v := 1) hx hb dX12_isF_77 (by decide) ?_
      refine lv_isub hx hb dX12_isF_78 ?_
      rw [show ((nI 4) - 1 : Int32) = nI (4 - 1) from (gSub rfl rfl (by omega))]
      refine g_put (T := TX12) (ci := 12) (N := 45) (ty0 := tyX12) hx hb hown hK hS (gY_X12 hT) tyX12_ok nmX12 rfl (h1 0 _ rfl) 16 (by decide) (hT _ gf_X12_177) rfl rfl rfl (Nat.le_of_ble_eq_true rfl) (by omega) dX12_isF_79 (fun H39 locs c40 oq hS => ?_)
      have h1 : gSg G b (gLM G b π μ (gR (gR f 6 Ey33) 13 (gS5 (nI (gPF (μ 0) n 0 (p + 1)).2.1) vy33 dy33 (nI (4 - 1)) (nI (c + (gPF (μ 0) n 0 (p + 1)).2.2.length)))) g) H39 := gSg_set h1 0 c40 oq
      refine lv_iload_n hx hb dX12_isF_82 rfl (lv_at hl 0 rfl) ?_
      rw [← hQ]
      exact g_zret hx hb hr hlk rfl hS dX12_isF_83 (by rw [show gPF (μ 0) n 1 p = (false, (gPF (μ 0) n 0 (p + 1)).2.1, (gPF (μ 0) n 0 (p + 1)).2.2) from by rw [gPF.eq_2, if_pos gc5, if_neg c38]]; exact ⟨rfl, _, _, _, hcy33, h1⟩)
    · have c38 : (gPF (μ 0) n 0 (p + 1)).1 = true := gB_1.mp c38
      refine lv_aload_n hx hb dX12_isF_16 rfl (lv_at hl 0 rfl) ?_
      refine lv_iconst (v := 0) hx hb dX12_isF_17 (by decide) ?_
      refine g_ki (g_runV (T := TX12) (ci := 12) (N := 45) (rest := []) hx hb hml hown hE hT (c_X12_codes l G b π μ f g n hn hT9 Ey33 (gPF (μ 0) n 0 (p + 1)).2.1 4 (c + (gPF (μ 0) n 0 (p + 1)).2.2.length) vy33 dy33 (by omega) (by omega) (by omega) 0 (by omega)) gM_X12_codes gm_X12_174 gi_X12_codes gs_RX12_yX12_codes_yX12_codes rfl (h1 0 _ rfl) h1 rfl hl.1 ⟨rfl, rfl⟩ ⟨Nat.le_of_ble_eq_true rfl, Nat.le_of_ble_eq_true rfl⟩ ⟨Nat.zero_le _, Nat.zero_le _⟩ rfl (Nat.le_of_ble_eq_true rfl) dX12_isF_18) hS (by intro q hq; omega) (fun r44 H41 locs q42 k43 hS => ?_)
      obtain ⟨e9, h1⟩ := q42
      rw [e9]
      refine lv_if_eq (tgt := 28) hx hb dX12_isF_21 (by decide) (fun c45 => ?_) (fun c45 => ?_)
      · exact absurd c45 (by decide)
      · refine lv_iconst (v := 1) hx hb dX12_isF_24 (by decide) ?_
        refine lv_goto (tgt := 29) hx hb dX12_isF_25 (by decide) ?_
        refine lv_istore_n (lv' := [(1, .int 1), (0, .ref b)]) hx hb dX12_isF_29 rfl hl (by decide) rfl (fun ls hl => ?_)
        refine lv_goto (tgt := 72) hx hb dX12_isF_30 (by decide) ?_
        refine lv_aload_n hx hb dX12_isF_72 rfl (lv_at hl 1 rfl) ?_
        refine lv_dup hx hb dX12_isF_73 rfl ?_
        refine g_get (v := .int (nI 4)) (T := TX12) (ci := 12) (N := 45) hx hb hown hK (gY_X12 hT) rfl (h1 0 _ rfl) 16 (by decide) (hT _ gf_X12_177) rfl dX12_isF_74 ?_
        refine lv_iconst (v := 1) hx hb dX12_isF_77 (by decide) ?_
        refine lv_isub hx hb dX12_isF_78 ?_
        rw [show ((nI 4) - 1 : Int32) = nI (4 - 1) from (gSub rfl rfl (by omega))]
        refine g_put (T := TX12) (ci := 12) (N := 45) (ty0 := tyX12) hx hb hown hK hS (gY_X12 hT) tyX12_ok nmX12 rfl (h1 0 _ rfl) 16 (by decide) (hT _ gf_X12_177) rfl rfl rfl (Nat.le_of_ble_eq_true rfl) (by omega) dX12_isF_79 (fun H46 locs c47 oq hS => ?_)
        have h1 : gSg G b (gLM G b π μ (gR (gR f 6 (upd Ey33 (c + (gPF (μ 0) n 0 (p + 1)).2.2.length) (nI 0))) 13 (gS5 (nI (gPF (μ 0) n 0 (p + 1)).2.1) vy33 dy33 (nI (4 - 1)) (nI (c + (gPF (μ 0) n 0 (p + 1)).2.2.length + 1)))) g) H46 := gSg_set h1 0 c47 oq
        refine lv_iload_n hx hb dX12_isF_82 rfl (lv_at hl 0 rfl) ?_
        rw [← hQ]
        exact g_zret hx hb hr hlk rfl hS dX12_isF_83 (by rw [show gPF (μ 0) n 1 p = (true, (gPF (μ 0) n 0 (p + 1)).2.1, (gPF (μ 0) n 0 (p + 1)).2.2 ++ [0]) from by rw [gPF.eq_2, if_pos gc5, if_pos c38]]; exact ⟨rfl, _, _, _, gCd_a hcy33, by rw [List.length_append]; exact h1⟩)

set_option maxHeartbeats 4000000 in
set_option maxRecDepth 100000 in
theorem c_X12_isT_1 (l : Launch) (G : gW) (b : Nat) (π μ f : gPS) (g : Nat → Int64) (n : Nat) (hn : μ 4 0 = nI n) (hT9 : gTx (μ 0) n) (E : Nat → Int32) (p c : Nat) (v d : Int32) (hp : p ≤ n) (hc : c + (n - p) ≤ 800) (hbG : G.2.2.2.size ≤ b) : gCI l yX12_isT cX12_isT 1 .boolean (gRm 12 263) G [.ref b] (fun H => gOld G H ∧ gSg G b (gLM G b π μ (gR (gR f 6 E) 13 (gS5 (nI p) v d (nI 3) (nI c))) g) H) (fun r H => r = gB ((gT (μ 0) n 1 p).1 = true) ∧ ∃ (v d : Int32) (E9 : Nat → Int32), gCd E c E9 (gT (μ 0) n 1 p).2.2 ∧ gSg G b (gLM G b π μ (gR (gR f 6 E9) 13 (gS5 (nI (gT (μ 0) n 1 p).2.1) v d (nI 3) (nI (c + (gT (μ 0) n 1 p).2.2.length)))) g) H) (fun q => b ≤ q ∧ q < b + 30) := by
  refine g_start (by decide) (Nat.le_of_ble_eq_true rfl) ?_
  intro pp_ ee_ s mm_ aa_ below meth cc_ ls Q hQ hX hE hP hl
  obtain ⟨hx, hb, hr, hml, hown, hT, hlk, hnm⟩ := hX
  have hK := hE.2.1
  obtain ⟨hO, h1⟩ := hP
  have hS : va_S (fun q => b ≤ q ∧ q < b + 30) s.heap s.heap [] := va_S.rf
  have hl : lv_has ls 1 [(0, .ref b)] := hl
  have hn9 : n ≤ 100 := hT9.1
  have hJ := hE.2.2.2.2.2.2.now hO
  refine lv_aload_n hx hb dX12_isT_0 rfl (lv_at hl 0 rfl) ?_
  have fy1 : p ≤ (gPF (μ 0) n 1 p).2.1 ∧ (gPF (μ 0) n 1 p).2.1 ≤ n ∧ (gPF (μ 0) n 1 p).2.2.length ≤ (gPF (μ 0) n 1 p).2.1 - p := gPF_fit (μ 0) n 1 p (by omega)
  refine g_ki (g_runV (T := TX12) (ci := 12) (N := 45) (rest := []) hx hb hml hown hE hT (c_X12_isF_1 l G b π μ f g n hn hT9 E p c v d (by omega) (by omega) hbG) gM_X12_isF gm_X12_183 gi_X12_isF gs_RX12_yX12_isF_yX12_isF rfl (h1 0 _ rfl) ⟨(gOld_S hO hS (fun q9 hq9 => Nat.le_trans hbG hq9.1)), h1⟩ rfl hl.1 ⟨rfl, rfl⟩ ⟨Nat.le_of_ble_eq_true rfl, Nat.le_of_ble_eq_true rfl⟩ ⟨Nat.zero_le _, Nat.zero_le _⟩ rfl (Nat.le_of_ble_eq_true rfl) dX12_isT_1) hS (by intro q hq; omega) (fun r5 H2 locs q3 k4 hS => ?_)
  obtain ⟨e9, vy1, dy1, Ey1, hcy1, h1⟩ := q3
  rw [e9]
  refine lv_if_ne (tgt := 9) hx hb dX12_isT_4 (by decide) (fun c6 => ?_) (fun c6 => ?_)
  · have c6 : (gPF (μ 0) n 1 p).1 = true := gB_1.mp c6
    have loop : ∀ (m a : Nat) (K : List Nat) (v9 d9 : Int32) (E9 : Nat → Int32), a ≤ n → n < a + m → p ≤ a → gT (μ 0) n 1 p = gTl (gPF (μ 0) n 1) (μ 0) n 38 1 m a K → gCd E c E9 K → K.length ≤ a - p → ∀ (H : Heap) (locs : List Loc), gSg G b (gLM G b π μ (gR (gR f 6 E9) 13 (gS5 (nI a) v9 d9 (nI 3) (nI (c + K.length)))) g) H → va_S (fun q => b ≤ q ∧ q < b + 30) s.heap H locs → ∀ ls, lv_has ls 1 [(0, .ref b)] → W pp_ l ee_ (gRm 12 263) s mm_ aa_ below meth cc_ H locs 0 0 Q (F0 mm_ 9 ls []) := by
      intro m
      induction m with
      | zero => intro a K v9 d9 E9 ha hm; exact absurd hm (by omega)
      | succ m ih =>
        intro a K v9 d9 E9 ha hm hpa hi hcd hKl H locs h1 hS ls hl
        refine lv_aload_n hx hb dX12_isT_9 rfl (lv_at hl 0 rfl) ?_
        refine lv_bipush (v := 38) hx hb dX12_isT_10 (by decide) ?_
        refine g_ki (g_runV (T := TX12) (ci := 12) (N := 45) (rest := []) hx hb hml hown hE hT (c_X12_is l G b π μ f g n hn hT9 E9 a 3 (c + K.length) v9 d9 (by omega) (by omega) (by omega) 38) gM_X12_is gm_X12_158 gi_X12_is gs_RX12_yX12_is_yX12_is rfl (h1 0 _ rfl) h1 rfl hl.1 ⟨rfl, rfl⟩ ⟨Nat.le_of_ble_eq_true rfl, Nat.le_of_ble_eq_true rfl⟩ ⟨Nat.zero_le _, Nat.zero_le _⟩ rfl (Nat.le_of_ble_eq_true rfl) dX12_isT_12) hS (by intro q hq; omega) (fun r10 H7 locs q8 k9 hS => ?_)
        obtain ⟨e9, h1⟩ := q8
        rw [e9]
        refine lv_if_eq (tgt := 35) hx hb dX12_isT_15 (by decide) (fun c11 => ?_) (fun c11 => ?_)
        · have c11 : ¬ (a < n ∧ μ 0 a = 38) := gB_0.mp c11
          rw [if_neg c11] at h1
          refine lv_iconst (v := 1) hx hb dX12_isT_35 (by decide) ?_
          rw [← hQ]
          exact g_zret hx hb hr hlk rfl hS dX12_isT_36 (by rw [hi, gTl, if_neg c11]; exact ⟨rfl, _, _, _, hcd, h1⟩)
        · have c11 : a < n ∧ μ 0 a = 38 := gB_1.mp c11
          rw [if_pos c11] at h1
          have ltc11 := c11.1
          refine lv_aload_n hx hb dX12_isT_18 rfl (lv_at hl 0 rfl) ?_
          have fy12 : a + 1 ≤ (gPF (μ 0) n 1 (a + 1)).2.1 ∧ (gPF (μ 0) n 1 (a + 1)).2.1 ≤ n ∧ (gPF (μ 0) n 1 (a + 1)).2.2.length ≤ (gPF (μ 0) n 1 (a + 1)).2.1 - (a + 1) := gPF_fit (μ 0) n 1 (a + 1) (by omega)
          refine g_ki (g_runV (T := TX12) (ci := 12) (N := 45) (rest := []) hx hb hml hown hE hT (c_X12_isF_1 l G b π μ f g n hn hT9 E9 (a + 1) (c + K.length) v9 d9 (by omega) (by omega) hbG) gM_X12_isF gm_X12_183 gi_X12_isF gs_RX12_yX12_isF_yX12_isF rfl (h1 0 _ rfl) ⟨(gOld_S hO hS (fun q9 hq9 => Nat.le_trans hbG hq9.1)), h1⟩ rfl hl.1 ⟨rfl, rfl⟩ ⟨Nat.le_of_ble_eq_true rfl, Nat.le_of_ble_eq_true rfl⟩ ⟨Nat.zero_le _, Nat.zero_le _⟩ rfl (Nat.le_of_ble_eq_true rfl) dX12_isT_19) hS (by intro q hq; omega) (fun r16 H13 locs q14 k15 hS => ?_)
          obtain ⟨e9, vy12, dy12, Ey12, hcy12, h1⟩ := q14
          rw [e9]
          refine lv_if_eq (tgt := 33) hx hb dX12_isT_22 (by decide) (fun c17 => ?_) (fun c17 => ?_)
          · have c17 : ¬ ((gPF (μ 0) n 1 (a + 1)).1 = true) := gB_0.mp c17
            refine lv_iconst (v := 0) hx hb dX12_isT_33 (by decide) ?_
            rw [← hQ]
            exact g_zret hx hb hr hlk rfl hS dX12_isT_34 (by rw [hi, gTl, if_pos c11, if_neg c17]; exact ⟨rfl, _, _, _, gCd_t hcd hcy12, by rw [List.length_append, ← Nat.add_assoc]; exact h1⟩)
          · have c17 : (gPF (μ 0) n 1 (a + 1)).1 = true := gB_1.mp c17
            refine lv_aload_n hx hb dX12_isT_25 rfl (lv_at hl 0 rfl) ?_
            refine lv_iconst (v := 1) hx hb dX12_isT_26 (by decide) ?_
            refine g_ki (g_runV (T := TX12) (ci := 12) (N := 45) (rest := []) hx hb hml hown hE hT (c_X12_codes l G b π μ f g n hn hT9 Ey12 (gPF (μ 0) n 1 (a + 1)).2.1 3 (c + K.length + (gPF (μ 0) n 1 (a + 1)).2.2.length) vy12 dy12 (by omega) (by omega) (by omega) 1 (by omega)) gM_X12_codes gm_X12_174 gi_X12_codes gs_RX12_yX12_codes_yX12_codes rfl (h1 0 _ rfl) h1 rfl hl.1 ⟨rfl, rfl⟩ ⟨Nat.le_of_ble_eq_true rfl, Nat.le_of_ble_eq_true rfl⟩ ⟨Nat.zero_le _, Nat.zero_le _⟩ rfl (Nat.le_of_ble_eq_true rfl) dX12_isT_27) hS (by intro q hq; omega) (fun r21 H18 locs q19 k20 hS => ?_)
            obtain ⟨e9, h1⟩ := q19
            rw [e9]
            refine lv_if_ne (tgt := 9) hx hb dX12_isT_30 (by decide) (fun c22 => ?_) (fun c22 => ?_)
            · have h1 : gSg G b (gLM G b π μ (gR (gR f 6 (upd Ey12 (c + K.length + (gPF (μ 0) n 1 (a + 1)).2.2.length) (nI 1))) 13 (gS5 (nI (gPF (μ 0) n 1 (a + 1)).2.1) vy12 dy12 (nI 3) (nI (c + (K ++ (gPF (μ 0) n 1 (a + 1)).2.2 ++ [1]).length)))) g) H18 := by rw [List.length_append, List.length_append, ← Nat.add_assoc, ← Nat.add_assoc]; exact h1
              exact ih (gPF (μ 0) n 1 (a + 1)).2.1 (K ++ (gPF (μ 0) n 1 (a + 1)).2.2 ++ [1]) _ _ _ (by omega) (by omega) (by omega) (by rw [hi, gTl, if_pos c11, if_pos c17]) (by have q9 := gCd_a (x := 1) (gCd_t hcd hcy12); rw [List.length_append, ← Nat.add_assoc] at q9; exact q9) (by rw [List.length_append, List.length_append]; show K.length + (gPF (μ 0) n 1 (a + 1)).2.2.length + 1 ≤ _; omega) _ _ h1 hS _ (lv_sub hl [0] rfl)
            · exact absurd c22 (by decide)
    exact loop (n + 1) _ _ _ _ _ (by omega) (by omega) (by omega) (by rw [gT, gPT, if_pos c6]) hcy1 (by omega) _ _ h1 hS _ (lv_sub hl [0] rfl)
  · have c6 : ¬ ((gPF (μ 0) n 1 p).1 = true) := gB_0.mp c6
    refine lv_iconst (v := 0) hx hb dX12_isT_7 (by decide) ?_
    rw [← hQ]
    exact g_zret hx hb hr hlk rfl hS dX12_isT_8 (by rw [show gT (μ 0) n 1 p = (false, (gPF (μ 0) n 1 p).2.1, (gPF (μ 0) n 1 p).2.2) from by rw [gT, gPT, if_neg c6]]; exact ⟨rfl, _, _, _, hcy1, h1⟩)

set_option maxHeartbeats 4000000 in
set_option maxRecDepth 100000 in
theorem c_X12_isE_1 (l : Launch) (G : gW) (b : Nat) (π μ f : gPS) (g : Nat → Int64) (n : Nat) (hn : μ 4 0 = nI n) (hT9 : gTx (μ 0) n) (E : Nat → Int32) (p c : Nat) (v d : Int32) (hp : p ≤ n) (hc : c + (n - p) ≤ 800) (hbG : G.2.2.2.size ≤ b) : gCI l yX12_isE cX12_isE 1 .boolean (gRm 13 283) G [.ref b] (fun H => gOld G H ∧ gSg G b (gLM G b π μ (gR (gR f 6 E) 13 (gS5 (nI p) v d (nI 3) (nI c))) g) H) (fun r H => r = gB ((gE (μ 0) n 1 p).1 = true) ∧ ∃ (v d : Int32) (E9 : Nat → Int32), gCd E c E9 (gE (μ 0) n 1 p).2.2 ∧ gSg G b (gLM G b π μ (gR (gR f 6 E9) 13 (gS5 (nI (gE (μ 0) n 1 p).2.1) v d (nI 3) (nI (c + (gE (μ 0) n 1 p).2.2.length)))) g) H) (fun q => b ≤ q ∧ q < b + 30) := by
  refine g_start (by decide) (Nat.le_of_ble_eq_true rfl) ?_
  intro pp_ ee_ s mm_ aa_ below meth cc_ ls Q hQ hX hE hP hl
  obtain ⟨hx, hb, hr, hml, hown, hT, hlk, hnm⟩ := hX
  have hK := hE.2.1
  obtain ⟨hO, h1⟩ := hP
  have hS : va_S (fun q => b ≤ q ∧ q < b + 30) s.heap s.heap [] := va_S.rf
  have hl : lv_has ls 1 [(0, .ref b)] := hl
  have hn9 : n ≤ 100 := hT9.1
  have hJ := hE.2.2.2.2.2.2.now hO
  refine lv_aload_n hx hb dX12_isE_0 rfl (lv_at hl 0 rfl) ?_
  have fy1 : p ≤ (gT (μ 0) n 1 p).2.1 ∧ (gT (μ 0) n 1 p).2.1 ≤ n ∧ (gT (μ 0) n 1 p).2.2.length ≤ (gT (μ 0) n 1 p).2.1 - p := gT_fit (μ 0) n 1 p (by omega)
  refine g_ki (g_runV (T := TX12) (ci := 12) (N := 45) (rest := []) hx hb hml hown hE hT (c_X12_isT_1 l G b π μ f g n hn hT9 E p c v d (by omega) (by omega) hbG) gM_X12_isT gm_X12_192 gi_X12_isT gs_RX12_yX12_isT_yX12_isT rfl (h1 0 _ rfl) ⟨(gOld_S hO hS (fun q9 hq9 => Nat.le_trans hbG hq9.1)), h1⟩ rfl hl.1 ⟨rfl, rfl⟩ ⟨Nat.le_of_ble_eq_true rfl, Nat.le_of_ble_eq_true rfl⟩ ⟨Nat.zero_le _, Nat.zero_le _⟩ rfl (Nat.le_of_ble_eq_true rfl) dX12_isE_1) hS (by intro q hq; omega) (fun r5 H2 locs q3 k4 hS => ?_)
  obtain ⟨e9, vy1, dy1, Ey1, hcy1, h1⟩ := q3
  rw [e9]
  refine lv_if_ne (tgt := 9) hx hb dX12_isE_4 (by decide) (fun c6 => ?_) (fun c6 => ?_)
  · have c6 : (gT (μ 0) n 1 p).1 = true := gB_1.mp c6
    have loop : ∀ (m a : Nat) (K : List Nat) (v9 d9 : Int32) (E9 : Nat → Int32), a ≤ n → n < a + m → p ≤ a → gE (μ 0) n 1 p = gTl (gT (μ 0) n 1) (μ 0) n 124 2 m a K → gCd E c E9 K → K.length ≤ a - p → ∀ (H : Heap) (locs : List Loc), gSg G b (gLM G b π μ (gR (gR f 6 E9) 13 (gS5 (nI a) v9 d9 (nI 3) (nI (c + K.length)))) g) H → va_S (fun q => b ≤ q ∧ q < b + 30) s.heap H locs → ∀ ls, lv_has ls 1 [(0, .ref b)] → W pp_ l ee_ (gRm 13 283) s mm_ aa_ below meth cc_ H locs 0 0 Q (F0 mm_ 9 ls []) := by
      intro m
      induction m with
      | zero => intro a K v9 d9 E9 ha hm; exact absurd hm (by omega)
      | succ m ih =>
        intro a K v9 d9 E9 ha hm hpa hi hcd hKl H locs h1 hS ls hl
        refine lv_aload_n hx hb dX12_isE_9 rfl (lv_at hl 0 rfl) ?_
        refine lv_bipush (v := 124) hx hb dX12_isE_10 (by decide) ?_
        refine g_ki (g_runV (T := TX12) (ci := 12) (N := 45) (rest := []) hx hb hml hown hE hT (c_X12_is l G b π μ f g n hn hT9 E9 a 3 (c + K.length) v9 d9 (by omega) (by omega) (by omega) 124) gM_X12_is gm_X12_158 gi_X12_is gs_RX12_yX12_is_yX12_is rfl (h1 0 _ rfl) h1 rfl hl.1 ⟨rfl, rfl⟩ ⟨Nat.le_of_ble_eq_true rfl, Nat.le_of_ble_eq_true rfl⟩ ⟨Nat.zero_le _, Nat.zero_le _⟩ rfl (Nat.le_of_ble_eq_true rfl) dX12_isE_12) hS (by intro q hq; omega) (fun r10 H7 locs q8 k9 hS => ?_)
        obtain ⟨e9, h1⟩ := q8
        rw [e9]
        refine lv_if_eq (tgt := 35) hx hb dX12_isE_15 (by decide) (fun c11 => ?_) (fun c11 => ?_)
        · have c11 : ¬ (a < n ∧ μ 0 a = 124) := gB_0.mp c11
          rw [if_neg c11] at h1
          refine lv_iconst (v := 1) hx hb dX12_isE_35 (by decide) ?_
          rw [← hQ]
          exact g_zret hx hb hr hlk rfl hS dX12_isE_36 (by rw [hi, gTl, if_neg c11]; exact ⟨rfl, _, _, _, hcd, h1⟩)
        · have c11 : a < n ∧ μ 0 a = 124 := gB_1.mp c11
          rw [if_pos c11] at h1
          have ltc11 := c11.1
          refine lv_aload_n hx hb dX12_isE_18 rfl (lv_at hl 0 rfl) ?_
          have fy12 : a + 1 ≤ (gT (μ 0) n 1 (a + 1)).2.1 ∧ (gT (μ 0) n 1 (a + 1)).2.1 ≤ n ∧ (gT (μ 0) n 1 (a + 1)).2.2.length ≤ (gT (μ 0) n 1 (a + 1)).2.1 - (a + 1) := gT_fit (μ 0) n 1 (a + 1) (by omega)
          refine g_ki (g_runV (T := TX12) (ci := 12) (N := 45) (rest := []) hx hb hml hown hE hT (c_X12_isT_1 l G b π μ f g n hn hT9 E9 (a + 1) (c + K.length) v9 d9 (by omega) (by omega) hbG) gM_X12_isT gm_X12_192 gi_X12_isT gs_RX12_yX12_isT_yX12_isT rfl (h1 0 _ rfl) ⟨(gOld_S hO hS (fun q9 hq9 => Nat.le_trans hbG hq9.1)), h1⟩ rfl hl.1 ⟨rfl, rfl⟩ ⟨Nat.le_of_ble_eq_true rfl, Nat.le_of_ble_eq_true rfl⟩ ⟨Nat.zero_le _, Nat.zero_le _⟩ rfl (Nat.le_of_ble_eq_true rfl) dX12_isE_19) hS (by intro q hq; omega) (fun r16 H13 locs q14 k15 hS => ?_)
          obtain ⟨e9, vy12, dy12, Ey12, hcy12, h1⟩ := q14
          rw [e9]
          refine lv_if_eq (tgt := 33) hx hb dX12_isE_22 (by decide) (fun c17 => ?_) (fun c17 => ?_)
          · have c17 : ¬ ((gT (μ 0) n 1 (a + 1)).1 = true) := gB_0.mp c17
            refine lv_iconst (v := 0) hx hb dX12_isE_33 (by decide) ?_
            rw [← hQ]
            exact g_zret hx hb hr hlk rfl hS dX12_isE_34 (by rw [hi, gTl, if_pos c11, if_neg c17]; exact ⟨rfl, _, _, _, gCd_t hcd hcy12, by rw [List.length_append, ← Nat.add_assoc]; exact h1⟩)
          · have c17 : (gT (μ 0) n 1 (a + 1)).1 = true := gB_1.mp c17
            refine lv_aload_n hx hb dX12_isE_25 rfl (lv_at hl 0 rfl) ?_
            refine lv_iconst (v := 2) hx hb dX12_isE_26 (by decide) ?_
            refine g_ki (g_runV (T := TX12) (ci := 12) (N := 45) (rest := []) hx hb hml hown hE hT (c_X12_codes l G b π μ f g n hn hT9 Ey12 (gT (μ 0) n 1 (a + 1)).2.1 3 (c + K.length + (gT (μ 0) n 1 (a + 1)).2.2.length) vy12 dy12 (by omega) (by omega) (by omega) 2 (by omega)) gM_X12_codes gm_X12_174 gi_X12_codes gs_RX12_yX12_codes_yX12_codes rfl (h1 0 _ rfl) h1 rfl hl.1 ⟨rfl, rfl⟩ ⟨Nat.le_of_ble_eq_true rfl, Nat.le_of_ble_eq_true rfl⟩ ⟨Nat.zero_le _, Nat.zero_le _⟩ rfl (Nat.le_of_ble_eq_true rfl) dX12_isE_27) hS (by intro q hq; omega) (fun r21 H18 locs q19 k20 hS => ?_)
            obtain ⟨e9, h1⟩ := q19
            rw [e9]
            refine lv_if_ne (tgt := 9) hx hb dX12_isE_30 (by decide) (fun c22 => ?_) (fun c22 => ?_)
            · have h1 : gSg G b (gLM G b π μ (gR (gR f 6 (upd Ey12 (c + K.length + (gT (μ 0) n 1 (a + 1)).2.2.length) (nI 2))) 13 (gS5 (nI (gT (μ 0) n 1 (a + 1)).2.1) vy12 dy12 (nI 3) (nI (c + (K ++ (gT (μ 0) n 1 (a + 1)).2.2 ++ [2]).length)))) g) H18 := by rw [List.length_append, List.length_append, ← Nat.add_assoc, ← Nat.add_assoc]; exact h1
              exact ih (gT (μ 0) n 1 (a + 1)).2.1 (K ++ (gT (μ 0) n 1 (a + 1)).2.2 ++ [2]) _ _ _ (by omega) (by omega) (by omega) (by rw [hi, gTl, if_pos c11, if_pos c17]) (by have q9 := gCd_a (x := 2) (gCd_t hcd hcy12); rw [List.length_append, ← Nat.add_assoc] at q9; exact q9) (by rw [List.length_append, List.length_append]; show K.length + (gT (μ 0) n 1 (a + 1)).2.2.length + 1 ≤ _; omega) _ _ h1 hS _ (lv_sub hl [0] rfl)
            · exact absurd c22 (by decide)
    exact loop (n + 1) _ _ _ _ _ (by omega) (by omega) (by omega) (by rw [gE, gPT, if_pos c6]) hcy1 (by omega) _ _ h1 hS _ (lv_sub hl [0] rfl)
  · have c6 : ¬ ((gT (μ 0) n 1 p).1 = true) := gB_0.mp c6
    refine lv_iconst (v := 0) hx hb dX12_isE_7 (by decide) ?_
    rw [← hQ]
    exact g_zret hx hb hr hlk rfl hS dX12_isE_8 (by rw [show gE (μ 0) n 1 p = (false, (gT (μ 0) n 1 p).2.1, (gT (μ 0) n 1 p).2.2) from by rw [gE, gPT, if_neg c6]]; exact ⟨rfl, _, _, _, hcy1, h1⟩)

set_option maxHeartbeats 4000000 in
set_option maxRecDepth 100000 in
theorem c_X12_isF_2 (l : Launch) (G : gW) (b : Nat) (π μ f : gPS) (g : Nat → Int64) (n : Nat) (hn : μ 4 0 = nI n) (hT9 : gTx (μ 0) n) (E : Nat → Int32) (p c : Nat) (v d : Int32) (hp : p ≤ n) (hc : c + (n - p) ≤ 800) (hbG : G.2.2.2.size ≤ b) : gCI l yX12_isF cX12_isF 2 .boolean (gRm 14 303) G [.ref b] (fun H => gOld G H ∧ gSg G b (gLM G b π μ (gR (gR f 6 E) 13 (gS5 (nI p) v d (nI 2) (nI c))) g) H) (fun r H => r = gB ((gPF (μ 0) n 2 p).1 = true) ∧ ∃ (v d : Int32) (E9 : Nat → Int32), gCd E c E9 (gPF (μ 0) n 2 p).2.2 ∧ gSg G b (gLM G b π μ (gR (gR f 6 E9) 13 (gS5 (nI (gPF (μ 0) n 2 p).2.1) v d (nI 2) (nI (c + (gPF (μ 0) n 2 p).2.2.length)))) g) H) (fun q => b ≤ q ∧ q < b + 30) := by
  refine g_start (by decide) (Nat.le_of_ble_eq_true rfl) ?_
  intro pp_ ee_ s mm_ aa_ below meth cc_ ls Q hQ hX hE hP hl
  obtain ⟨hx, hb, hr, hml, hown, hT, hlk, hnm⟩ := hX
  have hK := hE.2.1
  obtain ⟨hO, h1⟩ := hP
  have hS : va_S (fun q => b ≤ q ∧ q < b + 30) s.heap s.heap [] := va_S.rf
  have hl : lv_has ls 2 [(0, .ref b)] := hl
  have hn9 : n ≤ 100 := hT9.1
  have hJ := hE.2.2.2.2.2.2.now hO
  refine lv_aload_n hx hb dX12_isF_0 rfl (lv_at hl 0 rfl) ?_
  refine lv_bipush (v := 33) hx hb dX12_isF_1 (by decide) ?_
  refine g_ki (g_runV (T := TX12) (ci := 12) (N := 45) (rest := []) hx hb hml hown hE hT (c_X12_isOpened l G b π μ f g n hn hT9 E p 2 c v d (by omega) (by omega) (by omega) 33) gM_X12_isOpened gm_X12_180 gi_X12_isOpened gs_RX12_yX12_isOpened_yX12_isOpened rfl (h1 0 _ rfl) h1 rfl hl.1 ⟨rfl, rfl⟩ ⟨Nat.le_of_ble_eq_true rfl, Nat.le_of_ble_eq_true rfl⟩ ⟨Nat.zero_le _, Nat.zero_le _⟩ rfl (Nat.le_of_ble_eq_true rfl) dX12_isF_3) hS (by intro q hq; omega) (fun r4 H1 locs q2 k3 hS => ?_)
  obtain ⟨e9, h1⟩ := q2
  rw [e9]
  refine lv_if_eq (tgt := 33) hx hb dX12_isF_6 (by decide) (fun c5 => ?_) (fun c5 => ?_)
  · have c5 : ¬ (¬ 2 = 4 ∧ p < n ∧ μ 0 p = 33) := gB_0.mp c5
    rw [if_neg c5, if_neg c5] at h1
    have gc5 : ¬ (p < n ∧ μ 0 p = 33) := fun z9 => c5 ⟨by decide, z9⟩
    refine lv_aload_n hx hb dX12_isF_33 rfl (lv_at hl 0 rfl) ?_
    refine lv_bipush (v := 40) hx hb dX12_isF_34 (by decide) ?_
    refine g_ki (g_runV (T := TX12) (ci := 12) (N := 45) (rest := []) hx hb hml hown hE hT (c_X12_isOpened l G b π μ f g n hn hT9 E p 2 c v d (by omega) (by omega) (by omega) 40) gM_X12_isOpened gm_X12_180 gi_X12_isOpened gs_RX12_yX12_isOpened_yX12_isOpened rfl (h1 0 _ rfl) h1 rfl hl.1 ⟨rfl, rfl⟩ ⟨Nat.le_of_ble_eq_true rfl, Nat.le_of_ble_eq_true rfl⟩ ⟨Nat.zero_le _, Nat.zero_le _⟩ rfl (Nat.le_of_ble_eq_true rfl) dX12_isF_36) hS (by intro q hq; omega) (fun r9 H6 locs q7 k8 hS => ?_)
    obtain ⟨e9, h1⟩ := q7
    rw [e9]
    refine lv_if_eq (tgt := 67) hx hb dX12_isF_39 (by decide) (fun c10 => ?_) (fun c10 => ?_)
    · have c10 : ¬ (¬ 2 = 4 ∧ p < n ∧ μ 0 p = 40) := gB_0.mp c10
      rw [if_neg c10, if_neg c10] at h1
      have gc10 : ¬ (p < n ∧ μ 0 p = 40) := fun z9 => c10 ⟨by decide, z9⟩
      refine lv_aload_n hx hb dX12_isF_67 rfl (lv_at hl 0 rfl) ?_
      have fy11 : p ≤ (gTe (μ 0) n p).2.1 ∧ (gTe (μ 0) n p).2.1 ≤ n ∧ (gTe (μ 0) n p).2.2.length ≤ (gTe (μ 0) n p).2.1 - p := gTe_fit (μ 0) n p (by omega)
      refine g_ki (g_runV (T := TX12) (ci := 12) (N := 45) (rest := []) hx hb hml hown hE hT (c_X12_isTest l G b π μ f g n hn hT9 E p 2 c v d (by omega) (by omega) (by omega) hbG) gM_X12_isTest gm_X12_189 gi_X12_isTest gs_RX12_yX12_isTest_yX12_isTest rfl (h1 0 _ rfl) ⟨(gOld_S hO hS (fun q9 hq9 => Nat.le_trans hbG hq9.1)), h1⟩ rfl hl.1 ⟨rfl, rfl⟩ ⟨Nat.le_of_ble_eq_true rfl, Nat.le_of_ble_eq_true rfl⟩ ⟨Nat.zero_le _, Nat.zero_le _⟩ rfl (Nat.le_of_ble_eq_true rfl) dX12_isF_68) hS (by intro q hq; omega) (fun r15 H12 locs q13 k14 hS => ?_)
      obtain ⟨e9, vy11, dy11, Ey11, hcy11, h1⟩ := q13
      rw [e9]
      rw [← hQ]
      exact g_zret hx hb hr hlk gB_n hS dX12_isF_71 (by rw [show gPF (μ 0) n 2 p = gTe (μ 0) n p from by rw [gPF.eq_2, if_neg gc5, if_neg gc10]]; exact ⟨rfl, _, _, _, hcy11, h1⟩)
    · have c10 : ¬ 2 = 4 ∧ p < n ∧ μ 0 p = 40 := gB_1.mp c10
      rw [if_pos c10, if_pos c10] at h1
      have ltc10 := c10.2.1
      have gc10 := c10.2
      have h1 : gSg G b (gLM G b π μ (gR (gR f 6 E) 13 (gS5 (nI (p + 1)) v d (nI 3) (nI c))) g) H6 := h1
      refine lv_aload_n hx hb dX12_isF_42 rfl (lv_at hl 0 rfl) ?_
      have fy16 : p + 1 ≤ (gE (μ 0) n 1 (p + 1)).2.1 ∧ (gE (μ 0) n 1 (p + 1)).2.1 ≤ n ∧ (gE (μ 0) n 1 (p + 1)).2.2.length ≤ (gE (μ 0) n 1 (p + 1)).2.1 - (p + 1) := gE_fit (μ 0) n 1 (p + 1) (by omega)
      refine g_ki (g_runV (T := TX12) (ci := 12) (N := 45) (rest := []) hx hb hml hown hE hT (c_X12_isE_1 l G b π μ f g n hn hT9 E (p + 1) c v d (by omega) (by omega) hbG) gM_X12_isE gm_X12_186 gi_X12_isE gs_RX12_yX12_isE_yX12_isE rfl (h1 0 _ rfl) ⟨(gOld_S hO hS (fun q9 hq9 => Nat.le_trans hbG hq9.1)), h1⟩ rfl hl.1 ⟨rfl, rfl⟩ ⟨Nat.le_of_ble_eq_true rfl, Nat.le_of_ble_eq_true rfl⟩ ⟨Nat.zero_le _, Nat.zero_le _⟩ rfl (Nat.le_of_ble_eq_true rfl) dX12_isF_43) hS (by intro q hq; omega) (fun r20 H17 locs q18 k19 hS => ?_)
      obtain ⟨e9, vy16, dy16, Ey16, hcy16, h1⟩ := q18
      rw [e9]
      refine lv_if_eq (tgt := 62) hx hb dX12_isF_46 (by decide) (fun c21 => ?_) (fun c21 => ?_)
      · have c21 : ¬ ((gE (μ 0) n 1 (p + 1)).1 = true) := gB_0.mp c21
        refine lv_iconst (v := 0) hx hb dX12_isF_62 (by decide) ?_
        refine lv_istore_n (lv' := [(1, .int 0), (0, .ref b)]) hx hb dX12_isF_63 rfl hl (by decide) rfl (fun ls hl => ?_)
        refine lv_goto (tgt := 72) hx hb dX12_isF_64 (by decide) ?_
        refine lv_aload_n hx hb dX12_isF_72 rfl (lv_at hl 1 rfl) ?_
        refine lv_dup hx hb dX12_isF_73 rfl ?_
        refine g_get (v := .int (nI 3)) (T := TX12) (ci := 12) (N := 45) hx hb hown hK (gY_X12 hT) rfl (h1 0 _ rfl) 16 (by decide) (hT _ gf_X12_177) rfl dX12_isF_74 ?_
        refine lv_iconst (v := 1) hx hb dX12_isF_77 (by decide) ?_
        refine lv_isub hx hb dX12_isF_78 ?_
        rw [show ((nI 3) - 1 : Int32) = nI (3 - 1) from (gSub rfl rfl (by omega))]
        refine g_put (T := TX12) (ci := 12) (N := 45) (ty0 := tyX12) hx hb hown hK hS (gY_X12 hT) tyX12_ok nmX12 rfl (h1 0 _ rfl) 16 (by decide) (hT _ gf_X12_177) rfl rfl rfl (Nat.le_of_ble_eq_true rfl) (by omega) dX12_isF_79 (fun H22 locs c23 oq hS => ?_)
        have h1 : gSg G b (gLM G b π μ (gR (gR f 6 Ey16) 13 (gS5 (nI (gE (μ 0) n 1 (p + 1)).2.1) vy16 dy16 (nI (3 - 1)) (nI (c + (gE (μ 0) n 1 (p + 1)).2.2.length)))) g) H22 := gSg_set h1 0 c23 oq
        refine lv_iload_n hx hb dX12_isF_82 rfl (lv_at hl 0 rfl) ?_
        rw [← hQ]
        exact g_zret hx hb hr hlk rfl hS dX12_isF_83 (by rw [show gPF (μ 0) n 2 p = (false, (gE (μ 0) n 1 (p + 1)).2.1, (gE (μ 0) n 1 (p + 1)).2.2) from by rw [gPF.eq_2, if_neg gc5, if_pos gc10, gE_e, if_neg c21]]; exact ⟨rfl, _, _, _, hcy16, h1⟩)
      · have c21 : (gE (μ 0) n 1 (p + 1)).1 = true := gB_1.mp c21
        refine lv_aload_n hx hb dX12_isF_49 rfl (lv_at hl 0 rfl) ?_
        refine lv_bipush (v := 41) hx hb dX12_isF_50 (by decide) ?_
        refine g_ki (g_runV (T := TX12) (ci := 12) (N := 45) (rest := []) hx hb hml hown hE hT (c_X12_is l G b π μ f g n hn hT9 Ey16 (gE (μ 0) n 1 (p + 1)).2.1 3 (c + (gE (μ 0) n 1 (p + 1)).2.2.length) vy16 dy16 (by omega) (by omega) (by omega) 41) gM_X12_is gm_X12_158 gi_X12_is gs_RX12_yX12_is_yX12_is rfl (h1 0 _ rfl) h1 rfl hl.1 ⟨rfl, rfl⟩ ⟨Nat.le_of_ble_eq_true rfl, Nat.le_of_ble_eq_true rfl⟩ ⟨Nat.zero_le _, Nat.zero_le _⟩ rfl (Nat.le_of_ble_eq_true rfl) dX12_isF_52) hS (by intro q hq; omega) (fun r27 H24 locs q25 k26 hS => ?_)
        obtain ⟨e9, h1⟩ := q25
        rw [e9]
        refine lv_if_eq (tgt := 62) hx hb dX12_isF_55 (by decide) (fun c28 => ?_) (fun c28 => ?_)
        · have c28 : ¬ ((gE (μ 0) n 1 (p + 1)).2.1 < n ∧ μ 0 (gE (μ 0) n 1 (p + 1)).2.1 = 41) := gB_0.mp c28
          rw [if_neg c28] at h1
          refine lv_iconst (v := 0) hx hb dX12_isF_62 (by decide) ?_
          refine lv_istore_n (lv' := [(1, .int 0), (0, .ref b)]) hx hb dX12_isF_63 rfl hl (by decide) rfl (fun ls hl => ?_)
          refine lv_goto (tgt := 72) hx hb dX12_isF_64 (by decide) ?_
          refine lv_aload_n hx hb dX12_isF_72 rfl (lv_at hl 1 rfl) ?_
          refine lv_dup hx hb dX12_isF_73 rfl ?_
          refine g_get (v := .int (nI 3)) (T := TX12) (ci := 12) (N := 45) hx hb hown hK (gY_X12 hT) rfl (h1 0 _ rfl) 16 (by decide) (hT _ gf_X12_177) rfl dX12_isF_74 ?_
          refine lv_iconst (v := 1) hx hb dX12_isF_77 (by decide) ?_
          refine lv_isub hx hb dX12_isF_78 ?_
          rw [show ((nI 3) - 1 : Int32) = nI (3 - 1) from (gSub rfl rfl (by omega))]
          refine g_put (T := TX12) (ci := 12) (N := 45) (ty0 := tyX12) hx hb hown hK hS (gY_X12 hT) tyX12_ok nmX12 rfl (h1 0 _ rfl) 16 (by decide) (hT _ gf_X12_177) rfl rfl rfl (Nat.le_of_ble_eq_true rfl) (by omega) dX12_isF_79 (fun H29 locs c30 oq hS => ?_)
          have h1 : gSg G b (gLM G b π μ (gR (gR f 6 Ey16) 13 (gS5 (nI ((gE (μ 0) n 1 (p + 1)).2.1)) vy16 dy16 (nI (3 - 1)) (nI (c + (gE (μ 0) n 1 (p + 1)).2.2.length)))) g) H29 := gSg_set h1 0 c30 oq
          refine lv_iload_n hx hb dX12_isF_82 rfl (lv_at hl 0 rfl) ?_
          rw [← hQ]
          exact g_zret hx hb hr hlk rfl hS dX12_isF_83 (by rw [show gPF (μ 0) n 2 p = (false, (gE (μ 0) n 1 (p + 1)).2.1, (gE (μ 0) n 1 (p + 1)).2.2) from by rw [gPF.eq_2, if_neg gc5, if_pos gc10, gE_e, if_pos c21, if_neg c28]]; exact ⟨rfl, _, _, _, hcy16, h1⟩)
        · have c28 : (gE (μ 0) n 1 (p + 1)).2.1 < n ∧ μ 0 (gE (μ 0) n 1 (p + 1)).2.1 = 41 := gB_1.mp c28
          rw [if_pos c28] at h1
          have ltc28 := c28.1
          refine lv_iconst (v := 1) hx hb dX12_isF_58 (by decide) ?_
          refine lv_goto (tgt := 63) hx hb dX12_isF_59 (by decide) ?_
          refine lv_istore_n (lv' := [(1, .int 1), (0, .ref b)]) hx hb dX12_isF_63 rfl hl (by decide) rfl (fun ls hl => ?_)
          refine lv_goto (tgt := 72) hx hb dX12_isF_64 (by decide) ?_
          refine lv_aload_n hx hb dX12_isF_72 rfl (lv_at hl 1 rfl) ?_
          refine lv_dup hx hb dX12_isF_73 rfl ?_
          refine g_get (v := .int (nI 3)) (T := TX12) (ci := 12) (N := 45) hx hb hown hK (gY_X12 hT) rfl (h1 0 _ rfl) 16 (by decide) (hT _ gf_X12_177) rfl dX12_isF_74 ?_
          refine lv_iconst (v := 1) hx hb dX12_isF_77 (by decide) ?_
          refine lv_isub hx hb dX12_isF_78 ?_
          rw [show ((nI 3) - 1 : Int32) = nI (3 - 1) from (gSub rfl rfl (by omega))]
          refine g_put (T := TX12) (ci := 12) (N := 45) (ty0 := tyX12) hx hb hown hK hS (gY_X12 hT) tyX12_ok nmX12 rfl (h1 0 _ rfl) 16 (by decide) (hT _ gf_X12_177) rfl rfl rfl (Nat.le_of_ble_eq_true rfl) (by omega) dX12_isF_79 (fun H31 locs c32 oq hS => ?_)
          have h1 : gSg G b (gLM G b π μ (gR (gR f 6 Ey16) 13 (gS5 (nI ((gE (μ 0) n 1 (p + 1)).2.1 + 1)) vy16 dy16 (nI (3 - 1)) (nI (c + (gE (μ 0) n 1 (p + 1)).2.2.length)))) g) H31 := gSg_set h1 0 c32 oq
          refine lv_iload_n hx hb dX12_isF_82 rfl (lv_at hl 0 rfl) ?_
          rw [← hQ]
          exact g_zret hx hb hr hlk rfl hS dX12_isF_83 (by rw [show gPF (μ 0) n 2 p = (true, (gE (μ 0) n 1 (p + 1)).2.1 + 1, (gE (μ 0) n 1 (p + 1)).2.2) from by rw [gPF.eq_2, if_neg gc5, if_pos gc10, gE_e, if_pos c21, if_pos c28]]; exact ⟨rfl, _, _, _, hcy16, h1⟩)
  · have c5 : ¬ 2 = 4 ∧ p < n ∧ μ 0 p = 33 := gB_1.mp c5
    rw [if_pos c5, if_pos c5] at h1
    have ltc5 := c5.2.1
    have gc5 := c5.2
    have h1 : gSg G b (gLM G b π μ (gR (gR f 6 E) 13 (gS5 (nI (p + 1)) v d (nI 3) (nI c))) g) H1 := h1
    refine lv_aload_n hx hb dX12_isF_9 rfl (lv_at hl 0 rfl) ?_
    have fy33 : p + 1 ≤ (gPF (μ 0) n 1 (p + 1)).2.1 ∧ (gPF (μ 0) n 1 (p + 1)).2.1 ≤ n ∧ (gPF (μ 0) n 1 (p + 1)).2.2.length ≤ (gPF (μ 0) n 1 (p + 1)).2.1 - (p + 1) := gPF_fit (μ 0) n 1 (p + 1) (by omega)
    refine g_ki (g_runV (T := TX12) (ci := 12) (N := 45) (rest := []) hx hb hml hown hE hT (c_X12_isF_1 l G b π μ f g n hn hT9 E (p + 1) c v d (by omega) (by omega) hbG) gM_X12_isF gm_X12_183 gi_X12_isF gs_RX12_yX12_isF_yX12_isF rfl (h1 0 _ rfl) ⟨(gOld_S hO hS (fun q9 hq9 => Nat.le_trans hbG hq9.1)), h1⟩ rfl hl.1 ⟨rfl, rfl⟩ ⟨Nat.le_of_ble_eq_true rfl, Nat.le_of_ble_eq_true rfl⟩ ⟨Nat.zero_le _, Nat.zero_le _⟩ rfl (Nat.le_of_ble_eq_true rfl) dX12_isF_10) hS (by intro q hq; omega) (fun r37 H34 locs q35 k36 hS => ?_)
    obtain ⟨e9, vy33, dy33, Ey33, hcy33, h1⟩ := q35
    rw [e9]
    refine lv_if_eq (tgt := 28) hx hb dX12_isF_13 (by decide) (fun c38 => ?_) (fun c38 => ?_)
    · have c38 : ¬ ((gPF (μ 0) n 1 (p + 1)).1 = true) := gB_0.mp c38
      refine lv_iconst (v := 0) hx hb dX12_isF_28 (by decide) ?_
      refine lv_istore_n (lv' := [(1, .int 0), (0, .ref b)]) hx hb dX12_isF_29 rfl hl (by decide) rfl (fun ls hl => ?_)
      refine lv_goto (tgt := 72) hx hb dX12_isF_30 (by decide) ?_
      refine lv_aload_n hx hb dX12_isF_72 rfl (lv_at hl 1 rfl) ?_
      refine lv_dup hx hb dX12_isF_73 rfl ?_
      refine g_get (v := .int (nI 3)) (T := TX12) (ci := 12) (N := 45) hx hb hown hK (gY_X12 hT) rfl (h1 0 _ rfl) 16 (by decide) (hT _ gf_X12_177) rfl dX12_isF_74 ?_
      refine lv_iconst (v := 1) hx hb dX12_isF_77 (by decide) ?_
      refine lv_isub hx hb dX12_isF_78 ?_
      rw [show ((nI 3) - 1 : Int32) = nI (3 - 1) from (gSub rfl rfl (by omega))]
      refine g_put (T := TX12) (ci := 12) (N := 45) (ty0 := tyX12) hx hb hown hK hS (gY_X12 hT) tyX12_ok nmX12 rfl (h1 0 _ rfl) 16 (by decide) (hT _ gf_X12_177) rfl rfl rfl (Nat.le_of_ble_eq_true rfl) (by omega) dX12_isF_79 (fun H39 locs c40 oq hS => ?_)
      have h1 : gSg G b (gLM G b π μ (gR (gR f 6 Ey33) 13 (gS5 (nI (gPF (μ 0) n 1 (p + 1)).2.1) vy33 dy33 (nI (3 - 1)) (nI (c + (gPF (μ 0) n 1 (p + 1)).2.2.length)))) g) H39 := gSg_set h1 0 c40 oq
      refine lv_iload_n hx hb dX12_isF_82 rfl (lv_at hl 0 rfl) ?_
      rw [← hQ]
      exact g_zret hx hb hr hlk rfl hS dX12_isF_83 (by rw [show gPF (μ 0) n 2 p = (false, (gPF (μ 0) n 1 (p + 1)).2.1, (gPF (μ 0) n 1 (p + 1)).2.2) from by rw [gPF.eq_2, if_pos gc5, if_neg c38]]; exact ⟨rfl, _, _, _, hcy33, h1⟩)
    · have c38 : (gPF (μ 0) n 1 (p + 1)).1 = true := gB_1.mp c38
      refine lv_aload_n hx hb dX12_isF_16 rfl (lv_at hl 0 rfl) ?_
      refine lv_iconst (v := 0) hx hb dX12_isF_17 (by decide) ?_
      refine g_ki (g_runV (T := TX12) (ci := 12) (N := 45) (rest := []) hx hb hml hown hE hT (c_X12_codes l G b π μ f g n hn hT9 Ey33 (gPF (μ 0) n 1 (p + 1)).2.1 3 (c + (gPF (μ 0) n 1 (p + 1)).2.2.length) vy33 dy33 (by omega) (by omega) (by omega) 0 (by omega)) gM_X12_codes gm_X12_174 gi_X12_codes gs_RX12_yX12_codes_yX12_codes rfl (h1 0 _ rfl) h1 rfl hl.1 ⟨rfl, rfl⟩ ⟨Nat.le_of_ble_eq_true rfl, Nat.le_of_ble_eq_true rfl⟩ ⟨Nat.zero_le _, Nat.zero_le _⟩ rfl (Nat.le_of_ble_eq_true rfl) dX12_isF_18) hS (by intro q hq; omega) (fun r44 H41 locs q42 k43 hS => ?_)
      obtain ⟨e9, h1⟩ := q42
      rw [e9]
      refine lv_if_eq (tgt := 28) hx hb dX12_isF_21 (by decide) (fun c45 => ?_) (fun c45 => ?_)
      · exact absurd c45 (by decide)
      · refine lv_iconst (v := 1) hx hb dX12_isF_24 (by decide) ?_
        refine lv_goto (tgt := 29) hx hb dX12_isF_25 (by decide) ?_
        refine lv_istore_n (lv' := [(1, .int 1), (0, .ref b)]) hx hb dX12_isF_29 rfl hl (by decide) rfl (fun ls hl => ?_)
        refine lv_goto (tgt := 72) hx hb dX12_isF_30 (by decide) ?_
        refine lv_aload_n hx hb dX12_isF_72 rfl (lv_at hl 1 rfl) ?_
        refine lv_dup hx hb dX12_isF_73 rfl ?_
        refine g_get (v := .int (nI 3)) (T := TX12) (ci := 12) (N := 45) hx hb hown hK (gY_X12 hT) rfl (h1 0 _ rfl) 16 (by decide) (hT _ gf_X12_177) rfl dX12_isF_74 ?_
        refine lv_iconst (v := 1) hx hb dX12_isF_77 (by decide) ?_
        refine lv_isub hx hb dX12_isF_78 ?_
        rw [show ((nI 3) - 1 : Int32) = nI (3 - 1) from (gSub rfl rfl (by omega))]
        refine g_put (T := TX12) (ci := 12) (N := 45) (ty0 := tyX12) hx hb hown hK hS (gY_X12 hT) tyX12_ok nmX12 rfl (h1 0 _ rfl) 16 (by decide) (hT _ gf_X12_177) rfl rfl rfl (Nat.le_of_ble_eq_true rfl) (by omega) dX12_isF_79 (fun H46 locs c47 oq hS => ?_)
        have h1 : gSg G b (gLM G b π μ (gR (gR f 6 (upd Ey33 (c + (gPF (μ 0) n 1 (p + 1)).2.2.length) (nI 0))) 13 (gS5 (nI (gPF (μ 0) n 1 (p + 1)).2.1) vy33 dy33 (nI (3 - 1)) (nI (c + (gPF (μ 0) n 1 (p + 1)).2.2.length + 1)))) g) H46 := gSg_set h1 0 c47 oq
        refine lv_iload_n hx hb dX12_isF_82 rfl (lv_at hl 0 rfl) ?_
        rw [← hQ]
        exact g_zret hx hb hr hlk rfl hS dX12_isF_83 (by rw [show gPF (μ 0) n 2 p = (true, (gPF (μ 0) n 1 (p + 1)).2.1, (gPF (μ 0) n 1 (p + 1)).2.2 ++ [0]) from by rw [gPF.eq_2, if_pos gc5, if_pos c38]]; exact ⟨rfl, _, _, _, gCd_a hcy33, by rw [List.length_append]; exact h1⟩)

set_option maxHeartbeats 4000000 in
set_option maxRecDepth 100000 in
theorem c_X12_isT_2 (l : Launch) (G : gW) (b : Nat) (π μ f : gPS) (g : Nat → Int64) (n : Nat) (hn : μ 4 0 = nI n) (hT9 : gTx (μ 0) n) (E : Nat → Int32) (p c : Nat) (v d : Int32) (hp : p ≤ n) (hc : c + (n - p) ≤ 800) (hbG : G.2.2.2.size ≤ b) : gCI l yX12_isT cX12_isT 1 .boolean (gRm 15 324) G [.ref b] (fun H => gOld G H ∧ gSg G b (gLM G b π μ (gR (gR f 6 E) 13 (gS5 (nI p) v d (nI 2) (nI c))) g) H) (fun r H => r = gB ((gT (μ 0) n 2 p).1 = true) ∧ ∃ (v d : Int32) (E9 : Nat → Int32), gCd E c E9 (gT (μ 0) n 2 p).2.2 ∧ gSg G b (gLM G b π μ (gR (gR f 6 E9) 13 (gS5 (nI (gT (μ 0) n 2 p).2.1) v d (nI 2) (nI (c + (gT (μ 0) n 2 p).2.2.length)))) g) H) (fun q => b ≤ q ∧ q < b + 30) := by
  refine g_start (by decide) (Nat.le_of_ble_eq_true rfl) ?_
  intro pp_ ee_ s mm_ aa_ below meth cc_ ls Q hQ hX hE hP hl
  obtain ⟨hx, hb, hr, hml, hown, hT, hlk, hnm⟩ := hX
  have hK := hE.2.1
  obtain ⟨hO, h1⟩ := hP
  have hS : va_S (fun q => b ≤ q ∧ q < b + 30) s.heap s.heap [] := va_S.rf
  have hl : lv_has ls 1 [(0, .ref b)] := hl
  have hn9 : n ≤ 100 := hT9.1
  have hJ := hE.2.2.2.2.2.2.now hO
  refine lv_aload_n hx hb dX12_isT_0 rfl (lv_at hl 0 rfl) ?_
  have fy1 : p ≤ (gPF (μ 0) n 2 p).2.1 ∧ (gPF (μ 0) n 2 p).2.1 ≤ n ∧ (gPF (μ 0) n 2 p).2.2.length ≤ (gPF (μ 0) n 2 p).2.1 - p := gPF_fit (μ 0) n 2 p (by omega)
  refine g_ki (g_runV (T := TX12) (ci := 12) (N := 45) (rest := []) hx hb hml hown hE hT (c_X12_isF_2 l G b π μ f g n hn hT9 E p c v d (by omega) (by omega) hbG) gM_X12_isF gm_X12_183 gi_X12_isF gs_RX12_yX12_isF_yX12_isF rfl (h1 0 _ rfl) ⟨(gOld_S hO hS (fun q9 hq9 => Nat.le_trans hbG hq9.1)), h1⟩ rfl hl.1 ⟨rfl, rfl⟩ ⟨Nat.le_of_ble_eq_true rfl, Nat.le_of_ble_eq_true rfl⟩ ⟨Nat.zero_le _, Nat.zero_le _⟩ rfl (Nat.le_of_ble_eq_true rfl) dX12_isT_1) hS (by intro q hq; omega) (fun r5 H2 locs q3 k4 hS => ?_)
  obtain ⟨e9, vy1, dy1, Ey1, hcy1, h1⟩ := q3
  rw [e9]
  refine lv_if_ne (tgt := 9) hx hb dX12_isT_4 (by decide) (fun c6 => ?_) (fun c6 => ?_)
  · have c6 : (gPF (μ 0) n 2 p).1 = true := gB_1.mp c6
    have loop : ∀ (m a : Nat) (K : List Nat) (v9 d9 : Int32) (E9 : Nat → Int32), a ≤ n → n < a + m → p ≤ a → gT (μ 0) n 2 p = gTl (gPF (μ 0) n 2) (μ 0) n 38 1 m a K → gCd E c E9 K → K.length ≤ a - p → ∀ (H : Heap) (locs : List Loc), gSg G b (gLM G b π μ (gR (gR f 6 E9) 13 (gS5 (nI a) v9 d9 (nI 2) (nI (c + K.length)))) g) H → va_S (fun q => b ≤ q ∧ q < b + 30) s.heap H locs → ∀ ls, lv_has ls 1 [(0, .ref b)] → W pp_ l ee_ (gRm 15 324) s mm_ aa_ below meth cc_ H locs 0 0 Q (F0 mm_ 9 ls []) := by
      intro m
      induction m with
      | zero => intro a K v9 d9 E9 ha hm; exact absurd hm (by omega)
      | succ m ih =>
        intro a K v9 d9 E9 ha hm hpa hi hcd hKl H locs h1 hS ls hl
        refine lv_aload_n hx hb dX12_isT_9 rfl (lv_at hl 0 rfl) ?_
        refine lv_bipush (v := 38) hx hb dX12_isT_10 (by decide) ?_
        refine g_ki (g_runV (T := TX12) (ci := 12) (N := 45) (rest := []) hx hb hml hown hE hT (c_X12_is l G b π μ f g n hn hT9 E9 a 2 (c + K.length) v9 d9 (by omega) (by omega) (by omega) 38) gM_X12_is gm_X12_158 gi_X12_is gs_RX12_yX12_is_yX12_is rfl (h1 0 _ rfl) h1 rfl hl.1 ⟨rfl, rfl⟩ ⟨Nat.le_of_ble_eq_true rfl, Nat.le_of_ble_eq_true rfl⟩ ⟨Nat.zero_le _, Nat.zero_le _⟩ rfl (Nat.le_of_ble_eq_true rfl) dX12_isT_12) hS (by intro q hq; omega) (fun r10 H7 locs q8 k9 hS => ?_)
        obtain ⟨e9, h1⟩ := q8
        rw [e9]
        refine lv_if_eq (tgt := 35) hx hb dX12_isT_15 (by decide) (fun c11 => ?_) (fun c11 => ?_)
        · have c11 : ¬ (a < n ∧ μ 0 a = 38) := gB_0.mp c11
          rw [if_neg c11] at h1
          refine lv_iconst (v := 1) hx hb dX12_isT_35 (by decide) ?_
          rw [← hQ]
          exact g_zret hx hb hr hlk rfl hS dX12_isT_36 (by rw [hi, gTl, if_neg c11]; exact ⟨rfl, _, _, _, hcd, h1⟩)
        · have c11 : a < n ∧ μ 0 a = 38 := gB_1.mp c11
          rw [if_pos c11] at h1
          have ltc11 := c11.1
          refine lv_aload_n hx hb dX12_isT_18 rfl (lv_at hl 0 rfl) ?_
          have fy12 : a + 1 ≤ (gPF (μ 0) n 2 (a + 1)).2.1 ∧ (gPF (μ 0) n 2 (a + 1)).2.1 ≤ n ∧ (gPF (μ 0) n 2 (a + 1)).2.2.length ≤ (gPF (μ 0) n 2 (a + 1)).2.1 - (a + 1) := gPF_fit (μ 0) n 2 (a + 1) (by omega)
          refine g_ki (g_runV (T := TX12) (ci := 12) (N := 45) (rest := []) hx hb hml hown hE hT (c_X12_isF_2 l G b π μ f g n hn hT9 E9 (a + 1) (c + K.length) v9 d9 (by omega) (by omega) hbG) gM_X12_isF gm_X12_183 gi_X12_isF gs_RX12_yX12_isF_yX12_isF rfl (h1 0 _ rfl) ⟨(gOld_S hO hS (fun q9 hq9 => Nat.le_trans hbG hq9.1)), h1⟩ rfl hl.1 ⟨rfl, rfl⟩ ⟨Nat.le_of_ble_eq_true rfl, Nat.le_of_ble_eq_true rfl⟩ ⟨Nat.zero_le _, Nat.zero_le _⟩ rfl (Nat.le_of_ble_eq_true rfl) dX12_isT_19) hS (by intro q hq; omega) (fun r16 H13 locs q14 k15 hS => ?_)
          obtain ⟨e9, vy12, dy12, Ey12, hcy12, h1⟩ := q14
          rw [e9]
          refine lv_if_eq (tgt := 33) hx hb dX12_isT_22 (by decide) (fun c17 => ?_) (fun c17 => ?_)
          · have c17 : ¬ ((gPF (μ 0) n 2 (a + 1)).1 = true) := gB_0.mp c17
            refine lv_iconst (v := 0) hx hb dX12_isT_33 (by decide) ?_
            rw [← hQ]
            exact g_zret hx hb hr hlk rfl hS dX12_isT_34 (by rw [hi, gTl, if_pos c11, if_neg c17]; exact ⟨rfl, _, _, _, gCd_t hcd hcy12, by rw [List.length_append, ← Nat.add_assoc]; exact h1⟩)
          · have c17 : (gPF (μ 0) n 2 (a + 1)).1 = true := gB_1.mp c17
            refine lv_aload_n hx hb dX12_isT_25 rfl (lv_at hl 0 rfl) ?_
            refine lv_iconst (v := 1) hx hb dX12_isT_26 (by decide) ?_
            refine g_ki (g_runV (T := TX12) (ci := 12) (N := 45) (rest := []) hx hb hml hown hE hT (c_X12_codes l G b π μ f g n hn hT9 Ey12 (gPF (μ 0) n 2 (a + 1)).2.1 2 (c + K.length + (gPF (μ 0) n 2 (a + 1)).2.2.length) vy12 dy12 (by omega) (by omega) (by omega) 1 (by omega)) gM_X12_codes gm_X12_174 gi_X12_codes gs_RX12_yX12_codes_yX12_codes rfl (h1 0 _ rfl) h1 rfl hl.1 ⟨rfl, rfl⟩ ⟨Nat.le_of_ble_eq_true rfl, Nat.le_of_ble_eq_true rfl⟩ ⟨Nat.zero_le _, Nat.zero_le _⟩ rfl (Nat.le_of_ble_eq_true rfl) dX12_isT_27) hS (by intro q hq; omega) (fun r21 H18 locs q19 k20 hS => ?_)
            obtain ⟨e9, h1⟩ := q19
            rw [e9]
            refine lv_if_ne (tgt := 9) hx hb dX12_isT_30 (by decide) (fun c22 => ?_) (fun c22 => ?_)
            · have h1 : gSg G b (gLM G b π μ (gR (gR f 6 (upd Ey12 (c + K.length + (gPF (μ 0) n 2 (a + 1)).2.2.length) (nI 1))) 13 (gS5 (nI (gPF (μ 0) n 2 (a + 1)).2.1) vy12 dy12 (nI 2) (nI (c + (K ++ (gPF (μ 0) n 2 (a + 1)).2.2 ++ [1]).length)))) g) H18 := by rw [List.length_append, List.length_append, ← Nat.add_assoc, ← Nat.add_assoc]; exact h1
              exact ih (gPF (μ 0) n 2 (a + 1)).2.1 (K ++ (gPF (μ 0) n 2 (a + 1)).2.2 ++ [1]) _ _ _ (by omega) (by omega) (by omega) (by rw [hi, gTl, if_pos c11, if_pos c17]) (by have q9 := gCd_a (x := 1) (gCd_t hcd hcy12); rw [List.length_append, ← Nat.add_assoc] at q9; exact q9) (by rw [List.length_append, List.length_append]; show K.length + (gPF (μ 0) n 2 (a + 1)).2.2.length + 1 ≤ _; omega) _ _ h1 hS _ (lv_sub hl [0] rfl)
            · exact absurd c22 (by decide)
    exact loop (n + 1) _ _ _ _ _ (by omega) (by omega) (by omega) (by rw [gT, gPT, if_pos c6]) hcy1 (by omega) _ _ h1 hS _ (lv_sub hl [0] rfl)
  · have c6 : ¬ ((gPF (μ 0) n 2 p).1 = true) := gB_0.mp c6
    refine lv_iconst (v := 0) hx hb dX12_isT_7 (by decide) ?_
    rw [← hQ]
    exact g_zret hx hb hr hlk rfl hS dX12_isT_8 (by rw [show gT (μ 0) n 2 p = (false, (gPF (μ 0) n 2 p).2.1, (gPF (μ 0) n 2 p).2.2) from by rw [gT, gPT, if_neg c6]]; exact ⟨rfl, _, _, _, hcy1, h1⟩)

set_option maxHeartbeats 4000000 in
set_option maxRecDepth 100000 in
theorem c_X12_isE_2 (l : Launch) (G : gW) (b : Nat) (π μ f : gPS) (g : Nat → Int64) (n : Nat) (hn : μ 4 0 = nI n) (hT9 : gTx (μ 0) n) (E : Nat → Int32) (p c : Nat) (v d : Int32) (hp : p ≤ n) (hc : c + (n - p) ≤ 800) (hbG : G.2.2.2.size ≤ b) : gCI l yX12_isE cX12_isE 1 .boolean (gRm 16 344) G [.ref b] (fun H => gOld G H ∧ gSg G b (gLM G b π μ (gR (gR f 6 E) 13 (gS5 (nI p) v d (nI 2) (nI c))) g) H) (fun r H => r = gB ((gE (μ 0) n 2 p).1 = true) ∧ ∃ (v d : Int32) (E9 : Nat → Int32), gCd E c E9 (gE (μ 0) n 2 p).2.2 ∧ gSg G b (gLM G b π μ (gR (gR f 6 E9) 13 (gS5 (nI (gE (μ 0) n 2 p).2.1) v d (nI 2) (nI (c + (gE (μ 0) n 2 p).2.2.length)))) g) H) (fun q => b ≤ q ∧ q < b + 30) := by
  refine g_start (by decide) (Nat.le_of_ble_eq_true rfl) ?_
  intro pp_ ee_ s mm_ aa_ below meth cc_ ls Q hQ hX hE hP hl
  obtain ⟨hx, hb, hr, hml, hown, hT, hlk, hnm⟩ := hX
  have hK := hE.2.1
  obtain ⟨hO, h1⟩ := hP
  have hS : va_S (fun q => b ≤ q ∧ q < b + 30) s.heap s.heap [] := va_S.rf
  have hl : lv_has ls 1 [(0, .ref b)] := hl
  have hn9 : n ≤ 100 := hT9.1
  have hJ := hE.2.2.2.2.2.2.now hO
  refine lv_aload_n hx hb dX12_isE_0 rfl (lv_at hl 0 rfl) ?_
  have fy1 : p ≤ (gT (μ 0) n 2 p).2.1 ∧ (gT (μ 0) n 2 p).2.1 ≤ n ∧ (gT (μ 0) n 2 p).2.2.length ≤ (gT (μ 0) n 2 p).2.1 - p := gT_fit (μ 0) n 2 p (by omega)
  refine g_ki (g_runV (T := TX12) (ci := 12) (N := 45) (rest := []) hx hb hml hown hE hT (c_X12_isT_2 l G b π μ f g n hn hT9 E p c v d (by omega) (by omega) hbG) gM_X12_isT gm_X12_192 gi_X12_isT gs_RX12_yX12_isT_yX12_isT rfl (h1 0 _ rfl) ⟨(gOld_S hO hS (fun q9 hq9 => Nat.le_trans hbG hq9.1)), h1⟩ rfl hl.1 ⟨rfl, rfl⟩ ⟨Nat.le_of_ble_eq_true rfl, Nat.le_of_ble_eq_true rfl⟩ ⟨Nat.zero_le _, Nat.zero_le _⟩ rfl (Nat.le_of_ble_eq_true rfl) dX12_isE_1) hS (by intro q hq; omega) (fun r5 H2 locs q3 k4 hS => ?_)
  obtain ⟨e9, vy1, dy1, Ey1, hcy1, h1⟩ := q3
  rw [e9]
  refine lv_if_ne (tgt := 9) hx hb dX12_isE_4 (by decide) (fun c6 => ?_) (fun c6 => ?_)
  · have c6 : (gT (μ 0) n 2 p).1 = true := gB_1.mp c6
    have loop : ∀ (m a : Nat) (K : List Nat) (v9 d9 : Int32) (E9 : Nat → Int32), a ≤ n → n < a + m → p ≤ a → gE (μ 0) n 2 p = gTl (gT (μ 0) n 2) (μ 0) n 124 2 m a K → gCd E c E9 K → K.length ≤ a - p → ∀ (H : Heap) (locs : List Loc), gSg G b (gLM G b π μ (gR (gR f 6 E9) 13 (gS5 (nI a) v9 d9 (nI 2) (nI (c + K.length)))) g) H → va_S (fun q => b ≤ q ∧ q < b + 30) s.heap H locs → ∀ ls, lv_has ls 1 [(0, .ref b)] → W pp_ l ee_ (gRm 16 344) s mm_ aa_ below meth cc_ H locs 0 0 Q (F0 mm_ 9 ls []) := by
      intro m
      induction m with
      | zero => intro a K v9 d9 E9 ha hm; exact absurd hm (by omega)
      | succ m ih =>
        intro a K v9 d9 E9 ha hm hpa hi hcd hKl H locs h1 hS ls hl
        refine lv_aload_n hx hb dX12_isE_9 rfl (lv_at hl 0 rfl) ?_
        refine lv_bipush (v := 124) hx hb dX12_isE_10 (by decide) ?_
        refine g_ki (g_runV (T := TX12) (ci := 12) (N := 45) (rest := []) hx hb hml hown hE hT (c_X12_is l G b π μ f g n hn hT9 E9 a 2 (c + K.length) v9 d9 (by omega) (by omega) (by omega) 124) gM_X12_is gm_X12_158 gi_X12_is gs_RX12_yX12_is_yX12_is rfl (h1 0 _ rfl) h1 rfl hl.1 ⟨rfl, rfl⟩ ⟨Nat.le_of_ble_eq_true rfl, Nat.le_of_ble_eq_true rfl⟩ ⟨Nat.zero_le _, Nat.zero_le _⟩ rfl (Nat.le_of_ble_eq_true rfl) dX12_isE_12) hS (by intro q hq; omega) (fun r10 H7 locs q8 k9 hS => ?_)
        obtain ⟨e9, h1⟩ := q8
        rw [e9]
        refine lv_if_eq (tgt := 35) hx hb dX12_isE_15 (by decide) (fun c11 => ?_) (fun c11 => ?_)
        · have c11 : ¬ (a < n ∧ μ 0 a = 124) := gB_0.mp c11
          rw [if_neg c11] at h1
          refine lv_iconst (v := 1) hx hb dX12_isE_35 (by decide) ?_
          rw [← hQ]
          exact g_zret hx hb hr hlk rfl hS dX12_isE_36 (by rw [hi, gTl, if_neg c11]; exact ⟨rfl, _, _, _, hcd, h1⟩)
        · have c11 : a < n ∧ μ 0 a = 124 := gB_1.mp c11
          rw [if_pos c11] at h1
          have ltc11 := c11.1
          refine lv_aload_n hx hb dX12_isE_18 rfl (lv_at hl 0 rfl) ?_
          have fy12 : a + 1 ≤ (gT (μ 0) n 2 (a + 1)).2.1 ∧ (gT (μ 0) n 2 (a + 1)).2.1 ≤ n ∧ (gT (μ 0) n 2 (a + 1)).2.2.length ≤ (gT (μ 0) n 2 (a + 1)).2.1 - (a + 1) := gT_fit (μ 0) n 2 (a + 1) (by omega)
          refine g_ki (g_runV (T := TX12) (ci := 12) (N := 45) (rest := []) hx hb hml hown hE hT (c_X12_isT_2 l G b π μ f g n hn hT9 E9 (a + 1) (c + K.length) v9 d9 (by omega) (by omega) hbG) gM_X12_isT gm_X12_192 gi_X12_isT gs_RX12_yX12_isT_yX12_isT rfl (h1 0 _ rfl) ⟨(gOld_S hO hS (fun q9 hq9 => Nat.le_trans hbG hq9.1)), h1⟩ rfl hl.1 ⟨rfl, rfl⟩ ⟨Nat.le_of_ble_eq_true rfl, Nat.le_of_ble_eq_true rfl⟩ ⟨Nat.zero_le _, Nat.zero_le _⟩ rfl (Nat.le_of_ble_eq_true rfl) dX12_isE_19) hS (by intro q hq; omega) (fun r16 H13 locs q14 k15 hS => ?_)
          obtain ⟨e9, vy12, dy12, Ey12, hcy12, h1⟩ := q14
          rw [e9]
          refine lv_if_eq (tgt := 33) hx hb dX12_isE_22 (by decide) (fun c17 => ?_) (fun c17 => ?_)
          · have c17 : ¬ ((gT (μ 0) n 2 (a + 1)).1 = true) := gB_0.mp c17
            refine lv_iconst (v := 0) hx hb dX12_isE_33 (by decide) ?_
            rw [← hQ]
            exact g_zret hx hb hr hlk rfl hS dX12_isE_34 (by rw [hi, gTl, if_pos c11, if_neg c17]; exact ⟨rfl, _, _, _, gCd_t hcd hcy12, by rw [List.length_append, ← Nat.add_assoc]; exact h1⟩)
          · have c17 : (gT (μ 0) n 2 (a + 1)).1 = true := gB_1.mp c17
            refine lv_aload_n hx hb dX12_isE_25 rfl (lv_at hl 0 rfl) ?_
            refine lv_iconst (v := 2) hx hb dX12_isE_26 (by decide) ?_
            refine g_ki (g_runV (T := TX12) (ci := 12) (N := 45) (rest := []) hx hb hml hown hE hT (c_X12_codes l G b π μ f g n hn hT9 Ey12 (gT (μ 0) n 2 (a + 1)).2.1 2 (c + K.length + (gT (μ 0) n 2 (a + 1)).2.2.length) vy12 dy12 (by omega) (by omega) (by omega) 2 (by omega)) gM_X12_codes gm_X12_174 gi_X12_codes gs_RX12_yX12_codes_yX12_codes rfl (h1 0 _ rfl) h1 rfl hl.1 ⟨rfl, rfl⟩ ⟨Nat.le_of_ble_eq_true rfl, Nat.le_of_ble_eq_true rfl⟩ ⟨Nat.zero_le _, Nat.zero_le _⟩ rfl (Nat.le_of_ble_eq_true rfl) dX12_isE_27) hS (by intro q hq; omega) (fun r21 H18 locs q19 k20 hS => ?_)
            obtain ⟨e9, h1⟩ := q19
            rw [e9]
            refine lv_if_ne (tgt := 9) hx hb dX12_isE_30 (by decide) (fun c22 => ?_) (fun c22 => ?_)
            · have h1 : gSg G b (gLM G b π μ (gR (gR f 6 (upd Ey12 (c + K.length + (gT (μ 0) n 2 (a + 1)).2.2.length) (nI 2))) 13 (gS5 (nI (gT (μ 0) n 2 (a + 1)).2.1) vy12 dy12 (nI 2) (nI (c + (K ++ (gT (μ 0) n 2 (a + 1)).2.2 ++ [2]).length)))) g) H18 := by rw [List.length_append, List.length_append, ← Nat.add_assoc, ← Nat.add_assoc]; exact h1
              exact ih (gT (μ 0) n 2 (a + 1)).2.1 (K ++ (gT (μ 0) n 2 (a + 1)).2.2 ++ [2]) _ _ _ (by omega) (by omega) (by omega) (by rw [hi, gTl, if_pos c11, if_pos c17]) (by have q9 := gCd_a (x := 2) (gCd_t hcd hcy12); rw [List.length_append, ← Nat.add_assoc] at q9; exact q9) (by rw [List.length_append, List.length_append]; show K.length + (gT (μ 0) n 2 (a + 1)).2.2.length + 1 ≤ _; omega) _ _ h1 hS _ (lv_sub hl [0] rfl)
            · exact absurd c22 (by decide)
    exact loop (n + 1) _ _ _ _ _ (by omega) (by omega) (by omega) (by rw [gE, gPT, if_pos c6]) hcy1 (by omega) _ _ h1 hS _ (lv_sub hl [0] rfl)
  · have c6 : ¬ ((gT (μ 0) n 2 p).1 = true) := gB_0.mp c6
    refine lv_iconst (v := 0) hx hb dX12_isE_7 (by decide) ?_
    rw [← hQ]
    exact g_zret hx hb hr hlk rfl hS dX12_isE_8 (by rw [show gE (μ 0) n 2 p = (false, (gT (μ 0) n 2 p).2.1, (gT (μ 0) n 2 p).2.2) from by rw [gE, gPT, if_neg c6]]; exact ⟨rfl, _, _, _, hcy1, h1⟩)

set_option maxHeartbeats 4000000 in
set_option maxRecDepth 100000 in
theorem c_X12_isF_3 (l : Launch) (G : gW) (b : Nat) (π μ f : gPS) (g : Nat → Int64) (n : Nat) (hn : μ 4 0 = nI n) (hT9 : gTx (μ 0) n) (E : Nat → Int32) (p c : Nat) (v d : Int32) (hp : p ≤ n) (hc : c + (n - p) ≤ 800) (hbG : G.2.2.2.size ≤ b) : gCI l yX12_isF cX12_isF 2 .boolean (gRm 17 364) G [.ref b] (fun H => gOld G H ∧ gSg G b (gLM G b π μ (gR (gR f 6 E) 13 (gS5 (nI p) v d (nI 1) (nI c))) g) H) (fun r H => r = gB ((gPF (μ 0) n 3 p).1 = true) ∧ ∃ (v d : Int32) (E9 : Nat → Int32), gCd E c E9 (gPF (μ 0) n 3 p).2.2 ∧ gSg G b (gLM G b π μ (gR (gR f 6 E9) 13 (gS5 (nI (gPF (μ 0) n 3 p).2.1) v d (nI 1) (nI (c + (gPF (μ 0) n 3 p).2.2.length)))) g) H) (fun q => b ≤ q ∧ q < b + 30) := by
  refine g_start (by decide) (Nat.le_of_ble_eq_true rfl) ?_
  intro pp_ ee_ s mm_ aa_ below meth cc_ ls Q hQ hX hE hP hl
  obtain ⟨hx, hb, hr, hml, hown, hT, hlk, hnm⟩ := hX
  have hK := hE.2.1
  obtain ⟨hO, h1⟩ := hP
  have hS : va_S (fun q => b ≤ q ∧ q < b + 30) s.heap s.heap [] := va_S.rf
  have hl : lv_has ls 2 [(0, .ref b)] := hl
  have hn9 : n ≤ 100 := hT9.1
  have hJ := hE.2.2.2.2.2.2.now hO
  refine lv_aload_n hx hb dX12_isF_0 rfl (lv_at hl 0 rfl) ?_
  refine lv_bipush (v := 33) hx hb dX12_isF_1 (by decide) ?_
  refine g_ki (g_runV (T := TX12) (ci := 12) (N := 45) (rest := []) hx hb hml hown hE hT (c_X12_isOpened l G b π μ f g n hn hT9 E p 1 c v d (by omega) (by omega) (by omega) 33) gM_X12_isOpened gm_X12_180 gi_X12_isOpened gs_RX12_yX12_isOpened_yX12_isOpened rfl (h1 0 _ rfl) h1 rfl hl.1 ⟨rfl, rfl⟩ ⟨Nat.le_of_ble_eq_true rfl, Nat.le_of_ble_eq_true rfl⟩ ⟨Nat.zero_le _, Nat.zero_le _⟩ rfl (Nat.le_of_ble_eq_true rfl) dX12_isF_3) hS (by intro q hq; omega) (fun r4 H1 locs q2 k3 hS => ?_)
  obtain ⟨e9, h1⟩ := q2
  rw [e9]
  refine lv_if_eq (tgt := 33) hx hb dX12_isF_6 (by decide) (fun c5 => ?_) (fun c5 => ?_)
  · have c5 : ¬ (¬ 1 = 4 ∧ p < n ∧ μ 0 p = 33) := gB_0.mp c5
    rw [if_neg c5, if_neg c5] at h1
    have gc5 : ¬ (p < n ∧ μ 0 p = 33) := fun z9 => c5 ⟨by decide, z9⟩
    refine lv_aload_n hx hb dX12_isF_33 rfl (lv_at hl 0 rfl) ?_
    refine lv_bipush (v := 40) hx hb dX12_isF_34 (by decide) ?_
    refine g_ki (g_runV (T := TX12) (ci := 12) (N := 45) (rest := []) hx hb hml hown hE hT (c_X12_isOpened l G b π μ f g n hn hT9 E p 1 c v d (by omega) (by omega) (by omega) 40) gM_X12_isOpened gm_X12_180 gi_X12_isOpened gs_RX12_yX12_isOpened_yX12_isOpened rfl (h1 0 _ rfl) h1 rfl hl.1 ⟨rfl, rfl⟩ ⟨Nat.le_of_ble_eq_true rfl, Nat.le_of_ble_eq_true rfl⟩ ⟨Nat.zero_le _, Nat.zero_le _⟩ rfl (Nat.le_of_ble_eq_true rfl) dX12_isF_36) hS (by intro q hq; omega) (fun r9 H6 locs q7 k8 hS => ?_)
    obtain ⟨e9, h1⟩ := q7
    rw [e9]
    refine lv_if_eq (tgt := 67) hx hb dX12_isF_39 (by decide) (fun c10 => ?_) (fun c10 => ?_)
    · have c10 : ¬ (¬ 1 = 4 ∧ p < n ∧ μ 0 p = 40) := gB_0.mp c10
      rw [if_neg c10, if_neg c10] at h1
      have gc10 : ¬ (p < n ∧ μ 0 p = 40) := fun z9 => c10 ⟨by decide, z9⟩
      refine lv_aload_n hx hb dX12_isF_67 rfl (lv_at hl 0 rfl) ?_
      have fy11 : p ≤ (gTe (μ 0) n p).2.1 ∧ (gTe (μ 0) n p).2.1 ≤ n ∧ (gTe (μ 0) n p).2.2.length ≤ (gTe (μ 0) n p).2.1 - p := gTe_fit (μ 0) n p (by omega)
      refine g_ki (g_runV (T := TX12) (ci := 12) (N := 45) (rest := []) hx hb hml hown hE hT (c_X12_isTest l G b π μ f g n hn hT9 E p 1 c v d (by omega) (by omega) (by omega) hbG) gM_X12_isTest gm_X12_189 gi_X12_isTest gs_RX12_yX12_isTest_yX12_isTest rfl (h1 0 _ rfl) ⟨(gOld_S hO hS (fun q9 hq9 => Nat.le_trans hbG hq9.1)), h1⟩ rfl hl.1 ⟨rfl, rfl⟩ ⟨Nat.le_of_ble_eq_true rfl, Nat.le_of_ble_eq_true rfl⟩ ⟨Nat.zero_le _, Nat.zero_le _⟩ rfl (Nat.le_of_ble_eq_true rfl) dX12_isF_68) hS (by intro q hq; omega) (fun r15 H12 locs q13 k14 hS => ?_)
      obtain ⟨e9, vy11, dy11, Ey11, hcy11, h1⟩ := q13
      rw [e9]
      rw [← hQ]
      exact g_zret hx hb hr hlk gB_n hS dX12_isF_71 (by rw [show gPF (μ 0) n 3 p = gTe (μ 0) n p from by rw [gPF.eq_2, if_neg gc5, if_neg gc10]]; exact ⟨rfl, _, _, _, hcy11, h1⟩)
    · have c10 : ¬ 1 = 4 ∧ p < n ∧ μ 0 p = 40 := gB_1.mp c10
      rw [if_pos c10, if_pos c10] at h1
      have ltc10 := c10.2.1
      have gc10 := c10.2
      have h1 : gSg G b (gLM G b π μ (gR (gR f 6 E) 13 (gS5 (nI (p + 1)) v d (nI 2) (nI c))) g) H6 := h1
      refine lv_aload_n hx hb dX12_isF_42 rfl (lv_at hl 0 rfl) ?_
      have fy16 : p + 1 ≤ (gE (μ 0) n 2 (p + 1)).2.1 ∧ (gE (μ 0) n 2 (p + 1)).2.1 ≤ n ∧ (gE (μ 0) n 2 (p + 1)).2.2.length ≤ (gE (μ 0) n 2 (p + 1)).2.1 - (p + 1) := gE_fit (μ 0) n 2 (p + 1) (by omega)
      refine g_ki (g_runV (T := TX12) (ci := 12) (N := 45) (rest := []) hx hb hml hown hE hT (c_X12_isE_2 l G b π μ f g n hn hT9 E (p + 1) c v d (by omega) (by omega) hbG) gM_X12_isE gm_X12_186 gi_X12_isE gs_RX12_yX12_isE_yX12_isE rfl (h1 0 _ rfl) ⟨(gOld_S hO hS (fun q9 hq9 => Nat.le_trans hbG hq9.1)), h1⟩ rfl hl.1 ⟨rfl, rfl⟩ ⟨Nat.le_of_ble_eq_true rfl, Nat.le_of_ble_eq_true rfl⟩ ⟨Nat.zero_le _, Nat.zero_le _⟩ rfl (Nat.le_of_ble_eq_true rfl) dX12_isF_43) hS (by intro q hq; omega) (fun r20 H17 locs q18 k19 hS => ?_)
      obtain ⟨e9, vy16, dy16, Ey16, hcy16, h1⟩ := q18
      rw [e9]
      refine lv_if_eq (tgt := 62) hx hb dX12_isF_46 (by decide) (fun c21 => ?_) (fun c21 => ?_)
      · have c21 : ¬ ((gE (μ 0) n 2 (p + 1)).1 = true) := gB_0.mp c21
        refine lv_iconst (v := 0) hx hb dX12_isF_62 (by decide) ?_
        refine lv_istore_n (lv' := [(1, .int 0), (0, .ref b)]) hx hb dX12_isF_63 rfl hl (by decide) rfl (fun ls hl => ?_)
        refine lv_goto (tgt := 72) hx hb dX12_isF_64 (by decide) ?_
        refine lv_aload_n hx hb dX12_isF_72 rfl (lv_at hl 1 rfl) ?_
        refine lv_dup hx hb dX12_isF_73 rfl ?_
        refine g_get (v := .int (nI 2)) (T := TX12) (ci := 12) (N := 45) hx hb hown hK (gY_X12 hT) rfl (h1 0 _ rfl) 16 (by decide) (hT _ gf_X12_177) rfl dX12_isF_74 ?_
        refine lv_iconst (v := 1) hx hb dX12_isF_77 (by decide) ?_
        refine lv_isub hx hb dX12_isF_78 ?_
        rw [show ((nI 2) - 1 : Int32) = nI (2 - 1) from (gSub rfl rfl (by omega))]
        refine g_put (T := TX12) (ci := 12) (N := 45) (ty0 := tyX12) hx hb hown hK hS (gY_X12 hT) tyX12_ok nmX12 rfl (h1 0 _ rfl) 16 (by decide) (hT _ gf_X12_177) rfl rfl rfl (Nat.le_of_ble_eq_true rfl) (by omega) dX12_isF_79 (fun H22 locs c23 oq hS => ?_)
        have h1 : gSg G b (gLM G b π μ (gR (gR f 6 Ey16) 13 (gS5 (nI (gE (μ 0) n 2 (p + 1)).2.1) vy16 dy16 (nI (2 - 1)) (nI (c + (gE (μ 0) n 2 (p + 1)).2.2.length)))) g) H22 := gSg_set h1 0 c23 oq
        refine lv_iload_n hx hb dX12_isF_82 rfl (lv_at hl 0 rfl) ?_
        rw [← hQ]
        exact g_zret hx hb hr hlk rfl hS dX12_isF_83 (by rw [show gPF (μ 0) n 3 p = (false, (gE (μ 0) n 2 (p + 1)).2.1, (gE (μ 0) n 2 (p + 1)).2.2) from by rw [gPF.eq_2, if_neg gc5, if_pos gc10, gE_e, if_neg c21]]; exact ⟨rfl, _, _, _, hcy16, h1⟩)
      · have c21 : (gE (μ 0) n 2 (p + 1)).1 = true := gB_1.mp c21
        refine lv_aload_n hx hb dX12_isF_49 rfl (lv_at hl 0 rfl) ?_
        refine lv_bipush (v := 41) hx hb dX12_isF_50 (by decide) ?_
        refine g_ki (g_runV (T := TX12) (ci := 12) (N := 45) (rest := []) hx hb hml hown hE hT (c_X12_is l G b π μ f g n hn hT9 Ey16 (gE (μ 0) n 2 (p + 1)).2.1 2 (c + (gE (μ 0) n 2 (p + 1)).2.2.length) vy16 dy16 (by omega) (by omega) (by omega) 41) gM_X12_is gm_X12_158 gi_X12_is gs_RX12_yX12_is_yX12_is rfl (h1 0 _ rfl) h1 rfl hl.1 ⟨rfl, rfl⟩ ⟨Nat.le_of_ble_eq_true rfl, Nat.le_of_ble_eq_true rfl⟩ ⟨Nat.zero_le _, Nat.zero_le _⟩ rfl (Nat.le_of_ble_eq_true rfl) dX12_isF_52) hS (by intro q hq; omega) (fun r27 H24 locs q25 k26 hS => ?_)
        obtain ⟨e9, h1⟩ := q25
        rw [e9]
        refine lv_if_eq (tgt := 62) hx hb dX12_isF_55 (by decide) (fun c28 => ?_) (fun c28 => ?_)
        · have c28 : ¬ ((gE (μ 0) n 2 (p + 1)).2.1 < n ∧ μ 0 (gE (μ 0) n 2 (p + 1)).2.1 = 41) := gB_0.mp c28
          rw [if_neg c28] at h1
          refine lv_iconst (v := 0) hx hb dX12_isF_62 (by decide) ?_
          refine lv_istore_n (lv' := [(1, .int 0), (0, .ref b)]) hx hb dX12_isF_63 rfl hl (by decide) rfl (fun ls hl => ?_)
          refine lv_goto (tgt := 72) hx hb dX12_isF_64 (by decide) ?_
          refine lv_aload_n hx hb dX12_isF_72 rfl (lv_at hl 1 rfl) ?_
          refine lv_dup hx hb dX12_isF_73 rfl ?_
          refine g_get (v := .int (nI 2)) (T := TX12) (ci := 12) (N := 45) hx hb hown hK (gY_X12 hT) rfl (h1 0 _ rfl) 16 (by decide) (hT _ gf_X12_177) rfl dX12_isF_74 ?_
          refine lv_iconst (v := 1) hx hb dX12_isF_77 (by decide) ?_
          refine lv_isub hx hb dX12_isF_78 ?_
          rw [show ((nI 2) - 1 : Int32) = nI (2 - 1) from (gSub rfl rfl (by omega))]
          refine g_put (T := TX12) (ci := 12) (N := 45) (ty0 := tyX12) hx hb hown hK hS (gY_X12 hT) tyX12_ok nmX12 rfl (h1 0 _ rfl) 16 (by decide) (hT _ gf_X12_177) rfl rfl rfl (Nat.le_of_ble_eq_true rfl) (by omega) dX12_isF_79 (fun H29 locs c30 oq hS => ?_)
          have h1 : gSg G b (gLM G b π μ (gR (gR f 6 Ey16) 13 (gS5 (nI ((gE (μ 0) n 2 (p + 1)).2.1)) vy16 dy16 (nI (2 - 1)) (nI (c + (gE (μ 0) n 2 (p + 1)).2.2.length)))) g) H29 := gSg_set h1 0 c30 oq
          refine lv_iload_n hx hb dX12_isF_82 rfl (lv_at hl 0 rfl) ?_
          rw [← hQ]
          exact g_zret hx hb hr hlk rfl hS dX12_isF_83 (by rw [show gPF (μ 0) n 3 p = (false, (gE (μ 0) n 2 (p + 1)).2.1, (gE (μ 0) n 2 (p + 1)).2.2) from by rw [gPF.eq_2, if_neg gc5, if_pos gc10, gE_e, if_pos c21, if_neg c28]]; exact ⟨rfl, _, _, _, hcy16, h1⟩)
        · have c28 : (gE (μ 0) n 2 (p + 1)).2.1 < n ∧ μ 0 (gE (μ 0) n 2 (p + 1)).2.1 = 41 := gB_1.mp c28
          rw [if_pos c28] at h1
          have ltc28 := c28.1
          refine lv_iconst (v := 1) hx hb dX12_isF_58 (by decide) ?_
          refine lv_goto (tgt := 63) hx hb dX12_isF_59 (by decide) ?_
          refine lv_istore_n (lv' := [(1, .int 1), (0, .ref b)]) hx hb dX12_isF_63 rfl hl (by decide) rfl (fun ls hl => ?_)
          refine lv_goto (tgt := 72) hx hb dX12_isF_64 (by decide) ?_
          refine lv_aload_n hx hb dX12_isF_72 rfl (lv_at hl 1 rfl) ?_
          refine lv_dup hx hb dX12_isF_73 rfl ?_
          refine g_get (v := .int (nI 2)) (T := TX12) (ci := 12) (N := 45) hx hb hown hK (gY_X12 hT) rfl (h1 0 _ rfl) 16 (by decide) (hT _ gf_X12_177) rfl dX12_isF_74 ?_
          refine lv_iconst (v := 1) hx hb dX12_isF_77 (by decide) ?_
          refine lv_isub hx hb dX12_isF_78 ?_
          rw [show ((nI 2) - 1 : Int32) = nI (2 - 1) from (gSub rfl rfl (by omega))]
          refine g_put (T := TX12) (ci := 12) (N := 45) (ty0 := tyX12) hx hb hown hK hS (gY_X12 hT) tyX12_ok nmX12 rfl (h1 0 _ rfl) 16 (by decide) (hT _ gf_X12_177) rfl rfl rfl (Nat.le_of_ble_eq_true rfl) (by omega) dX12_isF_79 (fun H31 locs c32 oq hS => ?_)
          have h1 : gSg G b (gLM G b π μ (gR (gR f 6 Ey16) 13 (gS5 (nI ((gE (μ 0) n 2 (p + 1)).2.1 + 1)) vy16 dy16 (nI (2 - 1)) (nI (c + (gE (μ 0) n 2 (p + 1)).2.2.length)))) g) H31 := gSg_set h1 0 c32 oq
          refine lv_iload_n hx hb dX12_isF_82 rfl (lv_at hl 0 rfl) ?_
          rw [← hQ]
          exact g_zret hx hb hr hlk rfl hS dX12_isF_83 (by rw [show gPF (μ 0) n 3 p = (true, (gE (μ 0) n 2 (p + 1)).2.1 + 1, (gE (μ 0) n 2 (p + 1)).2.2) from by rw [gPF.eq_2, if_neg gc5, if_pos gc10, gE_e, if_pos c21, if_pos c28]]; exact ⟨rfl, _, _, _, hcy16, h1⟩)
  · have c5 : ¬ 1 = 4 ∧ p < n ∧ μ 0 p = 33 := gB_1.mp c5
    rw [if_pos c5, if_pos c5] at h1
    have ltc5 := c5.2.1
    have gc5 := c5.2
    have h1 : gSg G b (gLM G b π μ (gR (gR f 6 E) 13 (gS5 (nI (p + 1)) v d (nI 2) (nI c))) g) H1 := h1
    refine lv_aload_n hx hb dX12_isF_9 rfl (lv_at hl 0 rfl) ?_
    have fy33 : p + 1 ≤ (gPF (μ 0) n 2 (p + 1)).2.1 ∧ (gPF (μ 0) n 2 (p + 1)).2.1 ≤ n ∧ (gPF (μ 0) n 2 (p + 1)).2.2.length ≤ (gPF (μ 0) n 2 (p + 1)).2.1 - (p + 1) := gPF_fit (μ 0) n 2 (p + 1) (by omega)
    refine g_ki (g_runV (T := TX12) (ci := 12) (N := 45) (rest := []) hx hb hml hown hE hT (c_X12_isF_2 l G b π μ f g n hn hT9 E (p + 1) c v d (by omega) (by omega) hbG) gM_X12_isF gm_X12_183 gi_X12_isF gs_RX12_yX12_isF_yX12_isF rfl (h1 0 _ rfl) ⟨(gOld_S hO hS (fun q9 hq9 => Nat.le_trans hbG hq9.1)), h1⟩ rfl hl.1 ⟨rfl, rfl⟩ ⟨Nat.le_of_ble_eq_true rfl, Nat.le_of_ble_eq_true rfl⟩ ⟨Nat.zero_le _, Nat.zero_le _⟩ rfl (Nat.le_of_ble_eq_true rfl) dX12_isF_10) hS (by intro q hq; omega) (fun r37 H34 locs q35 k36 hS => ?_)
    obtain ⟨e9, vy33, dy33, Ey33, hcy33, h1⟩ := q35
    rw [e9]
    refine lv_if_eq (tgt := 28) hx hb dX12_isF_13 (by decide) (fun c38 => ?_) (fun c38 => ?_)
    · have c38 : ¬ ((gPF (μ 0) n 2 (p + 1)).1 = true) := gB_0.mp c38
      refine lv_iconst (v := 0) hx hb dX12_isF_28 (by decide) ?_
      refine lv_istore_n (lv' := [(1, .int 0), (0, .ref b)]) hx hb dX12_isF_29 rfl hl (by decide) rfl (fun ls hl => ?_)
      refine lv_goto (tgt := 72) hx hb dX12_isF_30 (by decide) ?_
      refine lv_aload_n hx hb dX12_isF_72 rfl (lv_at hl 1 rfl) ?_
      refine lv_dup hx hb dX12_isF_73 rfl ?_
      refine g_get (v := .int (nI 2)) (T := TX12) (ci := 12) (N := 45) hx hb hown hK (gY_X12 hT) rfl (h1 0 _ rfl) 16 (by decide) (hT _ gf_X12_177) rfl dX12_isF_74 ?_
      refine lv_iconst (v := 1) hx hb dX12_isF_77 (by decide) ?_
      refine lv_isub hx hb dX12_isF_78 ?_
      rw [show ((nI 2) - 1 : Int32) = nI (2 - 1) from (gSub rfl rfl (by omega))]
      refine g_put (T := TX12) (ci := 12) (N := 45) (ty0 := tyX12) hx hb hown hK hS (gY_X12 hT) tyX12_ok nmX12 rfl (h1 0 _ rfl) 16 (by decide) (hT _ gf_X12_177) rfl rfl rfl (Nat.le_of_ble_eq_true rfl) (by omega) dX12_isF_79 (fun H39 locs c40 oq hS => ?_)
      have h1 : gSg G b (gLM G b π μ (gR (gR f 6 Ey33) 13 (gS5 (nI (gPF (μ 0) n 2 (p + 1)).2.1) vy33 dy33 (nI (2 - 1)) (nI (c + (gPF (μ 0) n 2 (p + 1)).2.2.length)))) g) H39 := gSg_set h1 0 c40 oq
      refine lv_iload_n hx hb dX12_isF_82 rfl (lv_at hl 0 rfl) ?_
      rw [← hQ]
      exact g_zret hx hb hr hlk rfl hS dX12_isF_83 (by rw [show gPF (μ 0) n 3 p = (false, (gPF (μ 0) n 2 (p + 1)).2.1, (gPF (μ 0) n 2 (p + 1)).2.2) from by rw [gPF.eq_2, if_pos gc5, if_neg c38]]; exact ⟨rfl, _, _, _, hcy33, h1⟩)
    · have c38 : (gPF (μ 0) n 2 (p + 1)).1 = true := gB_1.mp c38
      refine lv_aload_n hx hb dX12_isF_16 rfl (lv_at hl 0 rfl) ?_
      refine lv_iconst (v := 0) hx hb dX12_isF_17 (by decide) ?_
      refine g_ki (g_runV (T := TX12) (ci := 12) (N := 45) (rest := []) hx hb hml hown hE hT (c_X12_codes l G b π μ f g n hn hT9 Ey33 (gPF (μ 0) n 2 (p + 1)).2.1 2 (c + (gPF (μ 0) n 2 (p + 1)).2.2.length) vy33 dy33 (by omega) (by omega) (by omega) 0 (by omega)) gM_X12_codes gm_X12_174 gi_X12_codes gs_RX12_yX12_codes_yX12_codes rfl (h1 0 _ rfl) h1 rfl hl.1 ⟨rfl, rfl⟩ ⟨Nat.le_of_ble_eq_true rfl, Nat.le_of_ble_eq_true rfl⟩ ⟨Nat.zero_le _, Nat.zero_le _⟩ rfl (Nat.le_of_ble_eq_true rfl) dX12_isF_18) hS (by intro q hq; omega) (fun r44 H41 locs q42 k43 hS => ?_)
      obtain ⟨e9, h1⟩ := q42
      rw [e9]
      refine lv_if_eq (tgt := 28) hx hb dX12_isF_21 (by decide) (fun c45 => ?_) (fun c45 => ?_)
      · exact absurd c45 (by decide)
      · refine lv_iconst (v := 1) hx hb dX12_isF_24 (by decide) ?_
        refine lv_goto (tgt := 29) hx hb dX12_isF_25 (by decide) ?_
        refine lv_istore_n (lv' := [(1, .int 1), (0, .ref b)]) hx hb dX12_isF_29 rfl hl (by decide) rfl (fun ls hl => ?_)
        refine lv_goto (tgt := 72) hx hb dX12_isF_30 (by decide) ?_
        refine lv_aload_n hx hb dX12_isF_72 rfl (lv_at hl 1 rfl) ?_
        refine lv_dup hx hb dX12_isF_73 rfl ?_
        refine g_get (v := .int (nI 2)) (T := TX12) (ci := 12) (N := 45) hx hb hown hK (gY_X12 hT) rfl (h1 0 _ rfl) 16 (by decide) (hT _ gf_X12_177) rfl dX12_isF_74 ?_
        refine lv_iconst (v := 1) hx hb dX12_isF_77 (by decide) ?_
        refine lv_isub hx hb dX12_isF_78 ?_
        rw [show ((nI 2) - 1 : Int32) = nI (2 - 1) from (gSub rfl rfl (by omega))]
        refine g_put (T := TX12) (ci := 12) (N := 45) (ty0 := tyX12) hx hb hown hK hS (gY_X12 hT) tyX12_ok nmX12 rfl (h1 0 _ rfl) 16 (by decide) (hT _ gf_X12_177) rfl rfl rfl (Nat.le_of_ble_eq_true rfl) (by omega) dX12_isF_79 (fun H46 locs c47 oq hS => ?_)
        have h1 : gSg G b (gLM G b π μ (gR (gR f 6 (upd Ey33 (c + (gPF (μ 0) n 2 (p + 1)).2.2.length) (nI 0))) 13 (gS5 (nI (gPF (μ 0) n 2 (p + 1)).2.1) vy33 dy33 (nI (2 - 1)) (nI (c + (gPF (μ 0) n 2 (p + 1)).2.2.length + 1)))) g) H46 := gSg_set h1 0 c47 oq
        refine lv_iload_n hx hb dX12_isF_82 rfl (lv_at hl 0 rfl) ?_
        rw [← hQ]
        exact g_zret hx hb hr hlk rfl hS dX12_isF_83 (by rw [show gPF (μ 0) n 3 p = (true, (gPF (μ 0) n 2 (p + 1)).2.1, (gPF (μ 0) n 2 (p + 1)).2.2 ++ [0]) from by rw [gPF.eq_2, if_pos gc5, if_pos c38]]; exact ⟨rfl, _, _, _, gCd_a hcy33, by rw [List.length_append]; exact h1⟩)

set_option maxHeartbeats 4000000 in
set_option maxRecDepth 100000 in
theorem c_X12_isT_3 (l : Launch) (G : gW) (b : Nat) (π μ f : gPS) (g : Nat → Int64) (n : Nat) (hn : μ 4 0 = nI n) (hT9 : gTx (μ 0) n) (E : Nat → Int32) (p c : Nat) (v d : Int32) (hp : p ≤ n) (hc : c + (n - p) ≤ 800) (hbG : G.2.2.2.size ≤ b) : gCI l yX12_isT cX12_isT 1 .boolean (gRm 18 385) G [.ref b] (fun H => gOld G H ∧ gSg G b (gLM G b π μ (gR (gR f 6 E) 13 (gS5 (nI p) v d (nI 1) (nI c))) g) H) (fun r H => r = gB ((gT (μ 0) n 3 p).1 = true) ∧ ∃ (v d : Int32) (E9 : Nat → Int32), gCd E c E9 (gT (μ 0) n 3 p).2.2 ∧ gSg G b (gLM G b π μ (gR (gR f 6 E9) 13 (gS5 (nI (gT (μ 0) n 3 p).2.1) v d (nI 1) (nI (c + (gT (μ 0) n 3 p).2.2.length)))) g) H) (fun q => b ≤ q ∧ q < b + 30) := by
  refine g_start (by decide) (Nat.le_of_ble_eq_true rfl) ?_
  intro pp_ ee_ s mm_ aa_ below meth cc_ ls Q hQ hX hE hP hl
  obtain ⟨hx, hb, hr, hml, hown, hT, hlk, hnm⟩ := hX
  have hK := hE.2.1
  obtain ⟨hO, h1⟩ := hP
  have hS : va_S (fun q => b ≤ q ∧ q < b + 30) s.heap s.heap [] := va_S.rf
  have hl : lv_has ls 1 [(0, .ref b)] := hl
  have hn9 : n ≤ 100 := hT9.1
  have hJ := hE.2.2.2.2.2.2.now hO
  refine lv_aload_n hx hb dX12_isT_0 rfl (lv_at hl 0 rfl) ?_
  have fy1 : p ≤ (gPF (μ 0) n 3 p).2.1 ∧ (gPF (μ 0) n 3 p).2.1 ≤ n ∧ (gPF (μ 0) n 3 p).2.2.length ≤ (gPF (μ 0) n 3 p).2.1 - p := gPF_fit (μ 0) n 3 p (by omega)
  refine g_ki (g_runV (T := TX12) (ci := 12) (N := 45) (rest := []) hx hb hml hown hE hT (c_X12_isF_3 l G b π μ f g n hn hT9 E p c v d (by omega) (by omega) hbG) gM_X12_isF gm_X12_183 gi_X12_isF gs_RX12_yX12_isF_yX12_isF rfl (h1 0 _ rfl) ⟨(gOld_S hO hS (fun q9 hq9 => Nat.le_trans hbG hq9.1)), h1⟩ rfl hl.1 ⟨rfl, rfl⟩ ⟨Nat.le_of_ble_eq_true rfl, Nat.le_of_ble_eq_true rfl⟩ ⟨Nat.zero_le _, Nat.zero_le _⟩ rfl (Nat.le_of_ble_eq_true rfl) dX12_isT_1) hS (by intro q hq; omega) (fun r5 H2 locs q3 k4 hS => ?_)
  obtain ⟨e9, vy1, dy1, Ey1, hcy1, h1⟩ := q3
  rw [e9]
  refine lv_if_ne (tgt := 9) hx hb dX12_isT_4 (by decide) (fun c6 => ?_) (fun c6 => ?_)
  · have c6 : (gPF (μ 0) n 3 p).1 = true := gB_1.mp c6
    have loop : ∀ (m a : Nat) (K : List Nat) (v9 d9 : Int32) (E9 : Nat → Int32), a ≤ n → n < a + m → p ≤ a → gT (μ 0) n 3 p = gTl (gPF (μ 0) n 3) (μ 0) n 38 1 m a K → gCd E c E9 K → K.length ≤ a - p → ∀ (H : Heap) (locs : List Loc), gSg G b (gLM G b π μ (gR (gR f 6 E9) 13 (gS5 (nI a) v9 d9 (nI 1) (nI (c + K.length)))) g) H → va_S (fun q => b ≤ q ∧ q < b + 30) s.heap H locs → ∀ ls, lv_has ls 1 [(0, .ref b)] → W pp_ l ee_ (gRm 18 385) s mm_ aa_ below meth cc_ H locs 0 0 Q (F0 mm_ 9 ls []) := by
      intro m
      induction m with
      | zero => intro a K v9 d9 E9 ha hm; exact absurd hm (by omega)
      | succ m ih =>
        intro a K v9 d9 E9 ha hm hpa hi hcd hKl H locs h1 hS ls hl
        refine lv_aload_n hx hb dX12_isT_9 rfl (lv_at hl 0 rfl) ?_
        refine lv_bipush (v := 38) hx hb dX12_isT_10 (by decide) ?_
        refine g_ki (g_runV (T := TX12) (ci := 12) (N := 45) (rest := []) hx hb hml hown hE hT (c_X12_is l G b π μ f g n hn hT9 E9 a 1 (c + K.length) v9 d9 (by omega) (by omega) (by omega) 38) gM_X12_is gm_X12_158 gi_X12_is gs_RX12_yX12_is_yX12_is rfl (h1 0 _ rfl) h1 rfl hl.1 ⟨rfl, rfl⟩ ⟨Nat.le_of_ble_eq_true rfl, Nat.le_of_ble_eq_true rfl⟩ ⟨Nat.zero_le _, Nat.zero_le _⟩ rfl (Nat.le_of_ble_eq_true rfl) dX12_isT_12) hS (by intro q hq; omega) (fun r10 H7 locs q8 k9 hS => ?_)
        obtain ⟨e9, h1⟩ := q8
        rw [e9]
        refine lv_if_eq (tgt := 35) hx hb dX12_isT_15 (by decide) (fun c11 => ?_) (fun c11 => ?_)
        · have c11 : ¬ (a < n ∧ μ 0 a = 38) := gB_0.mp c11
          rw [if_neg c11] at h1
          refine lv_iconst (v := 1) hx hb dX12_isT_35 (by decide) ?_
          rw [← hQ]
          exact g_zret hx hb hr hlk rfl hS dX12_isT_36 (by rw [hi, gTl, if_neg c11]; exact ⟨rfl, _, _, _, hcd, h1⟩)
        · have c11 : a < n ∧ μ 0 a = 38 := gB_1.mp c11
          rw [if_pos c11] at h1
          have ltc11 := c11.1
          refine lv_aload_n hx hb dX12_isT_18 rfl (lv_at hl 0 rfl) ?_
          have fy12 : a + 1 ≤ (gPF (μ 0) n 3 (a + 1)).2.1 ∧ (gPF (μ 0) n 3 (a + 1)).2.1 ≤ n ∧ (gPF (μ 0) n 3 (a + 1)).2.2.length ≤ (gPF (μ 0) n 3 (a + 1)).2.1 - (a + 1) := gPF_fit (μ 0) n 3 (a + 1) (by omega)
          refine g_ki (g_runV (T := TX12) (ci := 12) (N := 45) (rest := []) hx hb hml hown hE hT (c_X12_isF_3 l G b π μ f g n hn hT9 E9 (a + 1) (c + K.length) v9 d9 (by omega) (by omega) hbG) gM_X12_isF gm_X12_183 gi_X12_isF gs_RX12_yX12_isF_yX12_isF rfl (h1 0 _ rfl) ⟨(gOld_S hO hS (fun q9 hq9 => Nat.le_trans hbG hq9.1)), h1⟩ rfl hl.1 ⟨rfl, rfl⟩ ⟨Nat.le_of_ble_eq_true rfl, Nat.le_of_ble_eq_true rfl⟩ ⟨Nat.zero_le _, Nat.zero_le _⟩ rfl (Nat.le_of_ble_eq_true rfl) dX12_isT_19) hS (by intro q hq; omega) (fun r16 H13 locs q14 k15 hS => ?_)
          obtain ⟨e9, vy12, dy12, Ey12, hcy12, h1⟩ := q14
          rw [e9]
          refine lv_if_eq (tgt := 33) hx hb dX12_isT_22 (by decide) (fun c17 => ?_) (fun c17 => ?_)
          · have c17 : ¬ ((gPF (μ 0) n 3 (a + 1)).1 = true) := gB_0.mp c17
            refine lv_iconst (v := 0) hx hb dX12_isT_33 (by decide) ?_
            rw [← hQ]
            exact g_zret hx hb hr hlk rfl hS dX12_isT_34 (by rw [hi, gTl, if_pos c11, if_neg c17]; exact ⟨rfl, _, _, _, gCd_t hcd hcy12, by rw [List.length_append, ← Nat.add_assoc]; exact h1⟩)
          · have c17 : (gPF (μ 0) n 3 (a + 1)).1 = true := gB_1.mp c17
            refine lv_aload_n hx hb dX12_isT_25 rfl (lv_at hl 0 rfl) ?_
            refine lv_iconst (v := 1) hx hb dX12_isT_26 (by decide) ?_
            refine g_ki (g_runV (T := TX12) (ci := 12) (N := 45) (rest := []) hx hb hml hown hE hT (c_X12_codes l G b π μ f g n hn hT9 Ey12 (gPF (μ 0) n 3 (a + 1)).2.1 1 (c + K.length + (gPF (μ 0) n 3 (a + 1)).2.2.length) vy12 dy12 (by omega) (by omega) (by omega) 1 (by omega)) gM_X12_codes gm_X12_174 gi_X12_codes gs_RX12_yX12_codes_yX12_codes rfl (h1 0 _ rfl) h1 rfl hl.1 ⟨rfl, rfl⟩ ⟨Nat.le_of_ble_eq_true rfl, Nat.le_of_ble_eq_true rfl⟩ ⟨Nat.zero_le _, Nat.zero_le _⟩ rfl (Nat.le_of_ble_eq_true rfl) dX12_isT_27) hS (by intro q hq; omega) (fun r21 H18 locs q19 k20 hS => ?_)
            obtain ⟨e9, h1⟩ := q19
            rw [e9]
            refine lv_if_ne (tgt := 9) hx hb dX12_isT_30 (by decide) (fun c22 => ?_) (fun c22 => ?_)
            · have h1 : gSg G b (gLM G b π μ (gR (gR f 6 (upd Ey12 (c + K.length + (gPF (μ 0) n 3 (a + 1)).2.2.length) (nI 1))) 13 (gS5 (nI (gPF (μ 0) n 3 (a + 1)).2.1) vy12 dy12 (nI 1) (nI (c + (K ++ (gPF (μ 0) n 3 (a + 1)).2.2 ++ [1]).length)))) g) H18 := by rw [List.length_append, List.length_append, ← Nat.add_assoc, ← Nat.add_assoc]; exact h1
              exact ih (gPF (μ 0) n 3 (a + 1)).2.1 (K ++ (gPF (μ 0) n 3 (a + 1)).2.2 ++ [1]) _ _ _ (by omega) (by omega) (by omega) (by rw [hi, gTl, if_pos c11, if_pos c17]) (by have q9 := gCd_a (x := 1) (gCd_t hcd hcy12); rw [List.length_append, ← Nat.add_assoc] at q9; exact q9) (by rw [List.length_append, List.length_append]; show K.length + (gPF (μ 0) n 3 (a + 1)).2.2.length + 1 ≤ _; omega) _ _ h1 hS _ (lv_sub hl [0] rfl)
            · exact absurd c22 (by decide)
    exact loop (n + 1) _ _ _ _ _ (by omega) (by omega) (by omega) (by rw [gT, gPT, if_pos c6]) hcy1 (by omega) _ _ h1 hS _ (lv_sub hl [0] rfl)
  · have c6 : ¬ ((gPF (μ 0) n 3 p).1 = true) := gB_0.mp c6
    refine lv_iconst (v := 0) hx hb dX12_isT_7 (by decide) ?_
    rw [← hQ]
    exact g_zret hx hb hr hlk rfl hS dX12_isT_8 (by rw [show gT (μ 0) n 3 p = (false, (gPF (μ 0) n 3 p).2.1, (gPF (μ 0) n 3 p).2.2) from by rw [gT, gPT, if_neg c6]]; exact ⟨rfl, _, _, _, hcy1, h1⟩)

set_option maxHeartbeats 4000000 in
set_option maxRecDepth 100000 in
theorem c_X12_isE_3 (l : Launch) (G : gW) (b : Nat) (π μ f : gPS) (g : Nat → Int64) (n : Nat) (hn : μ 4 0 = nI n) (hT9 : gTx (μ 0) n) (E : Nat → Int32) (p c : Nat) (v d : Int32) (hp : p ≤ n) (hc : c + (n - p) ≤ 800) (hbG : G.2.2.2.size ≤ b) : gCI l yX12_isE cX12_isE 1 .boolean (gRm 19 405) G [.ref b] (fun H => gOld G H ∧ gSg G b (gLM G b π μ (gR (gR f 6 E) 13 (gS5 (nI p) v d (nI 1) (nI c))) g) H) (fun r H => r = gB ((gE (μ 0) n 3 p).1 = true) ∧ ∃ (v d : Int32) (E9 : Nat → Int32), gCd E c E9 (gE (μ 0) n 3 p).2.2 ∧ gSg G b (gLM G b π μ (gR (gR f 6 E9) 13 (gS5 (nI (gE (μ 0) n 3 p).2.1) v d (nI 1) (nI (c + (gE (μ 0) n 3 p).2.2.length)))) g) H) (fun q => b ≤ q ∧ q < b + 30) := by
  refine g_start (by decide) (Nat.le_of_ble_eq_true rfl) ?_
  intro pp_ ee_ s mm_ aa_ below meth cc_ ls Q hQ hX hE hP hl
  obtain ⟨hx, hb, hr, hml, hown, hT, hlk, hnm⟩ := hX
  have hK := hE.2.1
  obtain ⟨hO, h1⟩ := hP
  have hS : va_S (fun q => b ≤ q ∧ q < b + 30) s.heap s.heap [] := va_S.rf
  have hl : lv_has ls 1 [(0, .ref b)] := hl
  have hn9 : n ≤ 100 := hT9.1
  have hJ := hE.2.2.2.2.2.2.now hO
  refine lv_aload_n hx hb dX12_isE_0 rfl (lv_at hl 0 rfl) ?_
  have fy1 : p ≤ (gT (μ 0) n 3 p).2.1 ∧ (gT (μ 0) n 3 p).2.1 ≤ n ∧ (gT (μ 0) n 3 p).2.2.length ≤ (gT (μ 0) n 3 p).2.1 - p := gT_fit (μ 0) n 3 p (by omega)
  refine g_ki (g_runV (T := TX12) (ci := 12) (N := 45) (rest := []) hx hb hml hown hE hT (c_X12_isT_3 l G b π μ f g n hn hT9 E p c v d (by omega) (by omega) hbG) gM_X12_isT gm_X12_192 gi_X12_isT gs_RX12_yX12_isT_yX12_isT rfl (h1 0 _ rfl) ⟨(gOld_S hO hS (fun q9 hq9 => Nat.le_trans hbG hq9.1)), h1⟩ rfl hl.1 ⟨rfl, rfl⟩ ⟨Nat.le_of_ble_eq_true rfl, Nat.le_of_ble_eq_true rfl⟩ ⟨Nat.zero_le _, Nat.zero_le _⟩ rfl (Nat.le_of_ble_eq_true rfl) dX12_isE_1) hS (by intro q hq; omega) (fun r5 H2 locs q3 k4 hS => ?_)
  obtain ⟨e9, vy1, dy1, Ey1, hcy1, h1⟩ := q3
  rw [e9]
  refine lv_if_ne (tgt := 9) hx hb dX12_isE_4 (by decide) (fun c6 => ?_) (fun c6 => ?_)
  · have c6 : (gT (μ 0) n 3 p).1 = true := gB_1.mp c6
    have loop : ∀ (m a : Nat) (K : List Nat) (v9 d9 : Int32) (E9 : Nat → Int32), a ≤ n → n < a + m → p ≤ a → gE (μ 0) n 3 p = gTl (gT (μ 0) n 3) (μ 0) n 124 2 m a K → gCd E c E9 K → K.length ≤ a - p → ∀ (H : Heap) (locs : List Loc), gSg G b (gLM G b π μ (gR (gR f 6 E9) 13 (gS5 (nI a) v9 d9 (nI 1) (nI (c + K.length)))) g) H → va_S (fun q => b ≤ q ∧ q < b + 30) s.heap H locs → ∀ ls, lv_has ls 1 [(0, .ref b)] → W pp_ l ee_ (gRm 19 405) s mm_ aa_ below meth cc_ H locs 0 0 Q (F0 mm_ 9 ls []) := by
      intro m
      induction m with
      | zero => intro a K v9 d9 E9 ha hm; exact absurd hm (by omega)
      | succ m ih =>
        intro a K v9 d9 E9 ha hm hpa hi hcd hKl H locs h1 hS ls hl
        refine lv_aload_n hx hb dX12_isE_9 rfl (lv_at hl 0 rfl) ?_
        refine lv_bipush (v := 124) hx hb dX12_isE_10 (by decide) ?_
        refine g_ki (g_runV (T := TX12) (ci := 12) (N := 45) (rest := []) hx hb hml hown hE hT (c_X12_is l G b π μ f g n hn hT9 E9 a 1 (c + K.length) v9 d9 (by omega) (by omega) (by omega) 124) gM_X12_is gm_X12_158 gi_X12_is gs_RX12_yX12_is_yX12_is rfl (h1 0 _ rfl) h1 rfl hl.1 ⟨rfl, rfl⟩ ⟨Nat.le_of_ble_eq_true rfl, Nat.le_of_ble_eq_true rfl⟩ ⟨Nat.zero_le _, Nat.zero_le _⟩ rfl (Nat.le_of_ble_eq_true rfl) dX12_isE_12) hS (by intro q hq; omega) (fun r10 H7 locs q8 k9 hS => ?_)
        obtain ⟨e9, h1⟩ := q8
        rw [e9]
        refine lv_if_eq (tgt := 35) hx hb dX12_isE_15 (by decide) (fun c11 => ?_) (fun c11 => ?_)
        · have c11 : ¬ (a < n ∧ μ 0 a = 124) := gB_0.mp c11
          rw [if_neg c11] at h1
          refine lv_iconst (v := 1) hx hb dX12_isE_35 (by decide) ?_
          rw [← hQ]
          exact g_zret hx hb hr hlk rfl hS dX12_isE_36 (by rw [hi, gTl, if_neg c11]; exact ⟨rfl, _, _, _, hcd, h1⟩)
        · have c11 : a < n ∧ μ 0 a = 124 := gB_1.mp c11
          rw [if_pos c11] at h1
          have ltc11 := c11.1
          refine lv_aload_n hx hb dX12_isE_18 rfl (lv_at hl 0 rfl) ?_
          have fy12 : a + 1 ≤ (gT (μ 0) n 3 (a + 1)).2.1 ∧ (gT (μ 0) n 3 (a + 1)).2.1 ≤ n ∧ (gT (μ 0) n 3 (a + 1)).2.2.length ≤ (gT (μ 0) n 3 (a + 1)).2.1 - (a + 1) := gT_fit (μ 0) n 3 (a + 1) (by omega)
          refine g_ki (g_runV (T := TX12) (ci := 12) (N := 45) (rest := []) hx hb hml hown hE hT (c_X12_isT_3 l G b π μ f g n hn hT9 E9 (a + 1) (c + K.length) v9 d9 (by omega) (by omega) hbG) gM_X12_isT gm_X12_192 gi_X12_isT gs_RX12_yX12_isT_yX12_isT rfl (h1 0 _ rfl) ⟨(gOld_S hO hS (fun q9 hq9 => Nat.le_trans hbG hq9.1)), h1⟩ rfl hl.1 ⟨rfl, rfl⟩ ⟨Nat.le_of_ble_eq_true rfl, Nat.le_of_ble_eq_true rfl⟩ ⟨Nat.zero_le _, Nat.zero_le _⟩ rfl (Nat.le_of_ble_eq_true rfl) dX12_isE_19) hS (by intro q hq; omega) (fun r16 H13 locs q14 k15 hS => ?_)
          obtain ⟨e9, vy12, dy12, Ey12, hcy12, h1⟩ := q14
          rw [e9]
          refine lv_if_eq (tgt := 33) hx hb dX12_isE_22 (by decide) (fun c17 => ?_) (fun c17 => ?_)
          · have c17 : ¬ ((gT (μ 0) n 3 (a + 1)).1 = true) := gB_0.mp c17
            refine lv_iconst (v := 0) hx hb dX12_isE_33 (by decide) ?_
            rw [← hQ]
            exact g_zret hx hb hr hlk rfl hS dX12_isE_34 (by rw [hi, gTl, if_pos c11, if_neg c17]; exact ⟨rfl, _, _, _, gCd_t hcd hcy12, by rw [List.length_append, ← Nat.add_assoc]; exact h1⟩)
          · have c17 : (gT (μ 0) n 3 (a + 1)).1 = true := gB_1.mp c17
            refine lv_aload_n hx hb dX12_isE_25 rfl (lv_at hl 0 rfl) ?_
            refine lv_iconst (v := 2) hx hb dX12_isE_26 (by decide) ?_
            refine g_ki (g_runV (T := TX12) (ci := 12) (N := 45) (rest := []) hx hb hml hown hE hT (c_X12_codes l G b π μ f g n hn hT9 Ey12 (gT (μ 0) n 3 (a + 1)).2.1 1 (c + K.length + (gT (μ 0) n 3 (a + 1)).2.2.length) vy12 dy12 (by omega) (by omega) (by omega) 2 (by omega)) gM_X12_codes gm_X12_174 gi_X12_codes gs_RX12_yX12_codes_yX12_codes rfl (h1 0 _ rfl) h1 rfl hl.1 ⟨rfl, rfl⟩ ⟨Nat.le_of_ble_eq_true rfl, Nat.le_of_ble_eq_true rfl⟩ ⟨Nat.zero_le _, Nat.zero_le _⟩ rfl (Nat.le_of_ble_eq_true rfl) dX12_isE_27) hS (by intro q hq; omega) (fun r21 H18 locs q19 k20 hS => ?_)
            obtain ⟨e9, h1⟩ := q19
            rw [e9]
            refine lv_if_ne (tgt := 9) hx hb dX12_isE_30 (by decide) (fun c22 => ?_) (fun c22 => ?_)
            · have h1 : gSg G b (gLM G b π μ (gR (gR f 6 (upd Ey12 (c + K.length + (gT (μ 0) n 3 (a + 1)).2.2.length) (nI 2))) 13 (gS5 (nI (gT (μ 0) n 3 (a + 1)).2.1) vy12 dy12 (nI 1) (nI (c + (K ++ (gT (μ 0) n 3 (a + 1)).2.2 ++ [2]).length)))) g) H18 := by rw [List.length_append, List.length_append, ← Nat.add_assoc, ← Nat.add_assoc]; exact h1
              exact ih (gT (μ 0) n 3 (a + 1)).2.1 (K ++ (gT (μ 0) n 3 (a + 1)).2.2 ++ [2]) _ _ _ (by omega) (by omega) (by omega) (by rw [hi, gTl, if_pos c11, if_pos c17]) (by have q9 := gCd_a (x := 2) (gCd_t hcd hcy12); rw [List.length_append, ← Nat.add_assoc] at q9; exact q9) (by rw [List.length_append, List.length_append]; show K.length + (gT (μ 0) n 3 (a + 1)).2.2.length + 1 ≤ _; omega) _ _ h1 hS _ (lv_sub hl [0] rfl)
            · exact absurd c22 (by decide)
    exact loop (n + 1) _ _ _ _ _ (by omega) (by omega) (by omega) (by rw [gE, gPT, if_pos c6]) hcy1 (by omega) _ _ h1 hS _ (lv_sub hl [0] rfl)
  · have c6 : ¬ ((gT (μ 0) n 3 p).1 = true) := gB_0.mp c6
    refine lv_iconst (v := 0) hx hb dX12_isE_7 (by decide) ?_
    rw [← hQ]
    exact g_zret hx hb hr hlk rfl hS dX12_isE_8 (by rw [show gE (μ 0) n 3 p = (false, (gT (μ 0) n 3 p).2.1, (gT (μ 0) n 3 p).2.2) from by rw [gE, gPT, if_neg c6]]; exact ⟨rfl, _, _, _, hcy1, h1⟩)

set_option maxHeartbeats 4000000 in
set_option maxRecDepth 100000 in
theorem c_X12_isF_4 (l : Launch) (G : gW) (b : Nat) (π μ f : gPS) (g : Nat → Int64) (n : Nat) (hn : μ 4 0 = nI n) (hT9 : gTx (μ 0) n) (E : Nat → Int32) (p c : Nat) (v d : Int32) (hp : p ≤ n) (hc : c + (n - p) ≤ 800) (hbG : G.2.2.2.size ≤ b) : gCI l yX12_isF cX12_isF 2 .boolean (gRm 20 425) G [.ref b] (fun H => gOld G H ∧ gSg G b (gLM G b π μ (gR (gR f 6 E) 13 (gS5 (nI p) v d (nI 0) (nI c))) g) H) (fun r H => r = gB ((gPF (μ 0) n 4 p).1 = true) ∧ ∃ (v d : Int32) (E9 : Nat → Int32), gCd E c E9 (gPF (μ 0) n 4 p).2.2 ∧ gSg G b (gLM G b π μ (gR (gR f 6 E9) 13 (gS5 (nI (gPF (μ 0) n 4 p).2.1) v d (nI 0) (nI (c + (gPF (μ 0) n 4 p).2.2.length)))) g) H) (fun q => b ≤ q ∧ q < b + 30) := by
  refine g_start (by decide) (Nat.le_of_ble_eq_true rfl) ?_
  intro pp_ ee_ s mm_ aa_ below meth cc_ ls Q hQ hX hE hP hl
  obtain ⟨hx, hb, hr, hml, hown, hT, hlk, hnm⟩ := hX
  have hK := hE.2.1
  obtain ⟨hO, h1⟩ := hP
  have hS : va_S (fun q => b ≤ q ∧ q < b + 30) s.heap s.heap [] := va_S.rf
  have hl : lv_has ls 2 [(0, .ref b)] := hl
  have hn9 : n ≤ 100 := hT9.1
  have hJ := hE.2.2.2.2.2.2.now hO
  refine lv_aload_n hx hb dX12_isF_0 rfl (lv_at hl 0 rfl) ?_
  refine lv_bipush (v := 33) hx hb dX12_isF_1 (by decide) ?_
  refine g_ki (g_runV (T := TX12) (ci := 12) (N := 45) (rest := []) hx hb hml hown hE hT (c_X12_isOpened l G b π μ f g n hn hT9 E p 0 c v d (by omega) (by omega) (by omega) 33) gM_X12_isOpened gm_X12_180 gi_X12_isOpened gs_RX12_yX12_isOpened_yX12_isOpened rfl (h1 0 _ rfl) h1 rfl hl.1 ⟨rfl, rfl⟩ ⟨Nat.le_of_ble_eq_true rfl, Nat.le_of_ble_eq_true rfl⟩ ⟨Nat.zero_le _, Nat.zero_le _⟩ rfl (Nat.le_of_ble_eq_true rfl) dX12_isF_3) hS (by intro q hq; omega) (fun r4 H1 locs q2 k3 hS => ?_)
  obtain ⟨e9, h1⟩ := q2
  rw [e9]
  refine lv_if_eq (tgt := 33) hx hb dX12_isF_6 (by decide) (fun c5 => ?_) (fun c5 => ?_)
  · have c5 : ¬ (¬ 0 = 4 ∧ p < n ∧ μ 0 p = 33) := gB_0.mp c5
    rw [if_neg c5, if_neg c5] at h1
    have gc5 : ¬ (p < n ∧ μ 0 p = 33) := fun z9 => c5 ⟨by decide, z9⟩
    refine lv_aload_n hx hb dX12_isF_33 rfl (lv_at hl 0 rfl) ?_
    refine lv_bipush (v := 40) hx hb dX12_isF_34 (by decide) ?_
    refine g_ki (g_runV (T := TX12) (ci := 12) (N := 45) (rest := []) hx hb hml hown hE hT (c_X12_isOpened l G b π μ f g n hn hT9 E p 0 c v d (by omega) (by omega) (by omega) 40) gM_X12_isOpened gm_X12_180 gi_X12_isOpened gs_RX12_yX12_isOpened_yX12_isOpened rfl (h1 0 _ rfl) h1 rfl hl.1 ⟨rfl, rfl⟩ ⟨Nat.le_of_ble_eq_true rfl, Nat.le_of_ble_eq_true rfl⟩ ⟨Nat.zero_le _, Nat.zero_le _⟩ rfl (Nat.le_of_ble_eq_true rfl) dX12_isF_36) hS (by intro q hq; omega) (fun r9 H6 locs q7 k8 hS => ?_)
    obtain ⟨e9, h1⟩ := q7
    rw [e9]
    refine lv_if_eq (tgt := 67) hx hb dX12_isF_39 (by decide) (fun c10 => ?_) (fun c10 => ?_)
    · have c10 : ¬ (¬ 0 = 4 ∧ p < n ∧ μ 0 p = 40) := gB_0.mp c10
      rw [if_neg c10, if_neg c10] at h1
      have gc10 : ¬ (p < n ∧ μ 0 p = 40) := fun z9 => c10 ⟨by decide, z9⟩
      refine lv_aload_n hx hb dX12_isF_67 rfl (lv_at hl 0 rfl) ?_
      have fy11 : p ≤ (gTe (μ 0) n p).2.1 ∧ (gTe (μ 0) n p).2.1 ≤ n ∧ (gTe (μ 0) n p).2.2.length ≤ (gTe (μ 0) n p).2.1 - p := gTe_fit (μ 0) n p (by omega)
      refine g_ki (g_runV (T := TX12) (ci := 12) (N := 45) (rest := []) hx hb hml hown hE hT (c_X12_isTest l G b π μ f g n hn hT9 E p 0 c v d (by omega) (by omega) (by omega) hbG) gM_X12_isTest gm_X12_189 gi_X12_isTest gs_RX12_yX12_isTest_yX12_isTest rfl (h1 0 _ rfl) ⟨(gOld_S hO hS (fun q9 hq9 => Nat.le_trans hbG hq9.1)), h1⟩ rfl hl.1 ⟨rfl, rfl⟩ ⟨Nat.le_of_ble_eq_true rfl, Nat.le_of_ble_eq_true rfl⟩ ⟨Nat.zero_le _, Nat.zero_le _⟩ rfl (Nat.le_of_ble_eq_true rfl) dX12_isF_68) hS (by intro q hq; omega) (fun r15 H12 locs q13 k14 hS => ?_)
      obtain ⟨e9, vy11, dy11, Ey11, hcy11, h1⟩ := q13
      rw [e9]
      rw [← hQ]
      exact g_zret hx hb hr hlk gB_n hS dX12_isF_71 (by rw [show gPF (μ 0) n 4 p = gTe (μ 0) n p from by rw [gPF.eq_2, if_neg gc5, if_neg gc10]]; exact ⟨rfl, _, _, _, hcy11, h1⟩)
    · have c10 : ¬ 0 = 4 ∧ p < n ∧ μ 0 p = 40 := gB_1.mp c10
      rw [if_pos c10, if_pos c10] at h1
      have ltc10 := c10.2.1
      have gc10 := c10.2
      have h1 : gSg G b (gLM G b π μ (gR (gR f 6 E) 13 (gS5 (nI (p + 1)) v d (nI 1) (nI c))) g) H6 := h1
      refine lv_aload_n hx hb dX12_isF_42 rfl (lv_at hl 0 rfl) ?_
      have fy16 : p + 1 ≤ (gE (μ 0) n 3 (p + 1)).2.1 ∧ (gE (μ 0) n 3 (p + 1)).2.1 ≤ n ∧ (gE (μ 0) n 3 (p + 1)).2.2.length ≤ (gE (μ 0) n 3 (p + 1)).2.1 - (p + 1) := gE_fit (μ 0) n 3 (p + 1) (by omega)
      refine g_ki (g_runV (T := TX12) (ci := 12) (N := 45) (rest := []) hx hb hml hown hE hT (c_X12_isE_3 l G b π μ f g n hn hT9 E (p + 1) c v d (by omega) (by omega) hbG) gM_X12_isE gm_X12_186 gi_X12_isE gs_RX12_yX12_isE_yX12_isE rfl (h1 0 _ rfl) ⟨(gOld_S hO hS (fun q9 hq9 => Nat.le_trans hbG hq9.1)), h1⟩ rfl hl.1 ⟨rfl, rfl⟩ ⟨Nat.le_of_ble_eq_true rfl, Nat.le_of_ble_eq_true rfl⟩ ⟨Nat.zero_le _, Nat.zero_le _⟩ rfl (Nat.le_of_ble_eq_true rfl) dX12_isF_43) hS (by intro q hq; omega) (fun r20 H17 locs q18 k19 hS => ?_)
      obtain ⟨e9, vy16, dy16, Ey16, hcy16, h1⟩ := q18
      rw [e9]
      refine lv_if_eq (tgt := 62) hx hb dX12_isF_46 (by decide) (fun c21 => ?_) (fun c21 => ?_)
      · have c21 : ¬ ((gE (μ 0) n 3 (p + 1)).1 = true) := gB_0.mp c21
        refine lv_iconst (v := 0) hx hb dX12_isF_62 (by decide) ?_
        refine lv_istore_n (lv' := [(1, .int 0), (0, .ref b)]) hx hb dX12_isF_63 rfl hl (by decide) rfl (fun ls hl => ?_)
        refine lv_goto (tgt := 72) hx hb dX12_isF_64 (by decide) ?_
        refine lv_aload_n hx hb dX12_isF_72 rfl (lv_at hl 1 rfl) ?_
        refine lv_dup hx hb dX12_isF_73 rfl ?_
        refine g_get (v := .int (nI 1)) (T := TX12) (ci := 12) (N := 45) hx hb hown hK (gY_X12 hT) rfl (h1 0 _ rfl) 16 (by decide) (hT _ gf_X12_177) rfl dX12_isF_74 ?_
        refine lv_iconst (v := 1) hx hb dX12_isF_77 (by decide) ?_
        refine lv_isub hx hb dX12_isF_78 ?_
        rw [show ((nI 1) - 1 : Int32) = nI (1 - 1) from (gSub rfl rfl (by omega))]
        refine g_put (T := TX12) (ci := 12) (N := 45) (ty0 := tyX12) hx hb hown hK hS (gY_X12 hT) tyX12_ok nmX12 rfl (h1 0 _ rfl) 16 (by decide) (hT _ gf_X12_177) rfl rfl rfl (Nat.le_of_ble_eq_true rfl) (by omega) dX12_isF_79 (fun H22 locs c23 oq hS => ?_)
        have h1 : gSg G b (gLM G b π μ (gR (gR f 6 Ey16) 13 (gS5 (nI (gE (μ 0) n 3 (p + 1)).2.1) vy16 dy16 (nI (1 - 1)) (nI (c + (gE (μ 0) n 3 (p + 1)).2.2.length)))) g) H22 := gSg_set h1 0 c23 oq
        refine lv_iload_n hx hb dX12_isF_82 rfl (lv_at hl 0 rfl) ?_
        rw [← hQ]
        exact g_zret hx hb hr hlk rfl hS dX12_isF_83 (by rw [show gPF (μ 0) n 4 p = (false, (gE (μ 0) n 3 (p + 1)).2.1, (gE (μ 0) n 3 (p + 1)).2.2) from by rw [gPF.eq_2, if_neg gc5, if_pos gc10, gE_e, if_neg c21]]; exact ⟨rfl, _, _, _, hcy16, h1⟩)
      · have c21 : (gE (μ 0) n 3 (p + 1)).1 = true := gB_1.mp c21
        refine lv_aload_n hx hb dX12_isF_49 rfl (lv_at hl 0 rfl) ?_
        refine lv_bipush (v := 41) hx hb dX12_isF_50 (by decide) ?_
        refine g_ki (g_runV (T := TX12) (ci := 12) (N := 45) (rest := []) hx hb hml hown hE hT (c_X12_is l G b π μ f g n hn hT9 Ey16 (gE (μ 0) n 3 (p + 1)).2.1 1 (c + (gE (μ 0) n 3 (p + 1)).2.2.length) vy16 dy16 (by omega) (by omega) (by omega) 41) gM_X12_is gm_X12_158 gi_X12_is gs_RX12_yX12_is_yX12_is rfl (h1 0 _ rfl) h1 rfl hl.1 ⟨rfl, rfl⟩ ⟨Nat.le_of_ble_eq_true rfl, Nat.le_of_ble_eq_true rfl⟩ ⟨Nat.zero_le _, Nat.zero_le _⟩ rfl (Nat.le_of_ble_eq_true rfl) dX12_isF_52) hS (by intro q hq; omega) (fun r27 H24 locs q25 k26 hS => ?_)
        obtain ⟨e9, h1⟩ := q25
        rw [e9]
        refine lv_if_eq (tgt := 62) hx hb dX12_isF_55 (by decide) (fun c28 => ?_) (fun c28 => ?_)
        · have c28 : ¬ ((gE (μ 0) n 3 (p + 1)).2.1 < n ∧ μ 0 (gE (μ 0) n 3 (p + 1)).2.1 = 41) := gB_0.mp c28
          rw [if_neg c28] at h1
          refine lv_iconst (v := 0) hx hb dX12_isF_62 (by decide) ?_
          refine lv_istore_n (lv' := [(1, .int 0), (0, .ref b)]) hx hb dX12_isF_63 rfl hl (by decide) rfl (fun ls hl => ?_)
          refine lv_goto (tgt := 72) hx hb dX12_isF_64 (by decide) ?_
          refine lv_aload_n hx hb dX12_isF_72 rfl (lv_at hl 1 rfl) ?_
          refine lv_dup hx hb dX12_isF_73 rfl ?_
          refine g_get (v := .int (nI 1)) (T := TX12) (ci := 12) (N := 45) hx hb hown hK (gY_X12 hT) rfl (h1 0 _ rfl) 16 (by decide) (hT _ gf_X12_177) rfl dX12_isF_74 ?_
          refine lv_iconst (v := 1) hx hb dX12_isF_77 (by decide) ?_
          refine lv_isub hx hb dX12_isF_78 ?_
          rw [show ((nI 1) - 1 : Int32) = nI (1 - 1) from (gSub rfl rfl (by omega))]
          refine g_put (T := TX12) (ci := 12) (N := 45) (ty0 := tyX12) hx hb hown hK hS (gY_X12 hT) tyX12_ok nmX12 rfl (h1 0 _ rfl) 16 (by decide) (hT _ gf_X12_177) rfl rfl rfl (Nat.le_of_ble_eq_true rfl) (by omega) dX12_isF_79 (fun H29 locs c30 oq hS => ?_)
          have h1 : gSg G b (gLM G b π μ (gR (gR f 6 Ey16) 13 (gS5 (nI ((gE (μ 0) n 3 (p + 1)).2.1)) vy16 dy16 (nI (1 - 1)) (nI (c + (gE (μ 0) n 3 (p + 1)).2.2.length)))) g) H29 := gSg_set h1 0 c30 oq
          refine lv_iload_n hx hb dX12_isF_82 rfl (lv_at hl 0 rfl) ?_
          rw [← hQ]
          exact g_zret hx hb hr hlk rfl hS dX12_isF_83 (by rw [show gPF (μ 0) n 4 p = (false, (gE (μ 0) n 3 (p + 1)).2.1, (gE (μ 0) n 3 (p + 1)).2.2) from by rw [gPF.eq_2, if_neg gc5, if_pos gc10, gE_e, if_pos c21, if_neg c28]]; exact ⟨rfl, _, _, _, hcy16, h1⟩)
        · have c28 : (gE (μ 0) n 3 (p + 1)).2.1 < n ∧ μ 0 (gE (μ 0) n 3 (p + 1)).2.1 = 41 := gB_1.mp c28
          rw [if_pos c28] at h1
          have ltc28 := c28.1
          refine lv_iconst (v := 1) hx hb dX12_isF_58 (by decide) ?_
          refine lv_goto (tgt := 63) hx hb dX12_isF_59 (by decide) ?_
          refine lv_istore_n (lv' := [(1, .int 1), (0, .ref b)]) hx hb dX12_isF_63 rfl hl (by decide) rfl (fun ls hl => ?_)
          refine lv_goto (tgt := 72) hx hb dX12_isF_64 (by decide) ?_
          refine lv_aload_n hx hb dX12_isF_72 rfl (lv_at hl 1 rfl) ?_
          refine lv_dup hx hb dX12_isF_73 rfl ?_
          refine g_get (v := .int (nI 1)) (T := TX12) (ci := 12) (N := 45) hx hb hown hK (gY_X12 hT) rfl (h1 0 _ rfl) 16 (by decide) (hT _ gf_X12_177) rfl dX12_isF_74 ?_
          refine lv_iconst (v := 1) hx hb dX12_isF_77 (by decide) ?_
          refine lv_isub hx hb dX12_isF_78 ?_
          rw [show ((nI 1) - 1 : Int32) = nI (1 - 1) from (gSub rfl rfl (by omega))]
          refine g_put (T := TX12) (ci := 12) (N := 45) (ty0 := tyX12) hx hb hown hK hS (gY_X12 hT) tyX12_ok nmX12 rfl (h1 0 _ rfl) 16 (by decide) (hT _ gf_X12_177) rfl rfl rfl (Nat.le_of_ble_eq_true rfl) (by omega) dX12_isF_79 (fun H31 locs c32 oq hS => ?_)
          have h1 : gSg G b (gLM G b π μ (gR (gR f 6 Ey16) 13 (gS5 (nI ((gE (μ 0) n 3 (p + 1)).2.1 + 1)) vy16 dy16 (nI (1 - 1)) (nI (c + (gE (μ 0) n 3 (p + 1)).2.2.length)))) g) H31 := gSg_set h1 0 c32 oq
          refine lv_iload_n hx hb dX12_isF_82 rfl (lv_at hl 0 rfl) ?_
          rw [← hQ]
          exact g_zret hx hb hr hlk rfl hS dX12_isF_83 (by rw [show gPF (μ 0) n 4 p = (true, (gE (μ 0) n 3 (p + 1)).2.1 + 1, (gE (μ 0) n 3 (p + 1)).2.2) from by rw [gPF.eq_2, if_neg gc5, if_pos gc10, gE_e, if_pos c21, if_pos c28]]; exact ⟨rfl, _, _, _, hcy16, h1⟩)
  · have c5 : ¬ 0 = 4 ∧ p < n ∧ μ 0 p = 33 := gB_1.mp c5
    rw [if_pos c5, if_pos c5] at h1
    have ltc5 := c5.2.1
    have gc5 := c5.2
    have h1 : gSg G b (gLM G b π μ (gR (gR f 6 E) 13 (gS5 (nI (p + 1)) v d (nI 1) (nI c))) g) H1 := h1
    refine lv_aload_n hx hb dX12_isF_9 rfl (lv_at hl 0 rfl) ?_
    have fy33 : p + 1 ≤ (gPF (μ 0) n 3 (p + 1)).2.1 ∧ (gPF (μ 0) n 3 (p + 1)).2.1 ≤ n ∧ (gPF (μ 0) n 3 (p + 1)).2.2.length ≤ (gPF (μ 0) n 3 (p + 1)).2.1 - (p + 1) := gPF_fit (μ 0) n 3 (p + 1) (by omega)
    refine g_ki (g_runV (T := TX12) (ci := 12) (N := 45) (rest := []) hx hb hml hown hE hT (c_X12_isF_3 l G b π μ f g n hn hT9 E (p + 1) c v d (by omega) (by omega) hbG) gM_X12_isF gm_X12_183 gi_X12_isF gs_RX12_yX12_isF_yX12_isF rfl (h1 0 _ rfl) ⟨(gOld_S hO hS (fun q9 hq9 => Nat.le_trans hbG hq9.1)), h1⟩ rfl hl.1 ⟨rfl, rfl⟩ ⟨Nat.le_of_ble_eq_true rfl, Nat.le_of_ble_eq_true rfl⟩ ⟨Nat.zero_le _, Nat.zero_le _⟩ rfl (Nat.le_of_ble_eq_true rfl) dX12_isF_10) hS (by intro q hq; omega) (fun r37 H34 locs q35 k36 hS => ?_)
    obtain ⟨e9, vy33, dy33, Ey33, hcy33, h1⟩ := q35
    rw [e9]
    refine lv_if_eq (tgt := 28) hx hb dX12_isF_13 (by decide) (fun c38 => ?_) (fun c38 => ?_)
    · have c38 : ¬ ((gPF (μ 0) n 3 (p + 1)).1 = true) := gB_0.mp c38
      refine lv_iconst (v := 0) hx hb dX12_isF_28 (by decide) ?_
      refine lv_istore_n (lv' := [(1, .int 0), (0, .ref b)]) hx hb dX12_isF_29 rfl hl (by decide) rfl (fun ls hl => ?_)
      refine lv_goto (tgt := 72) hx hb dX12_isF_30 (by decide) ?_
      refine lv_aload_n hx hb dX12_isF_72 rfl (lv_at hl 1 rfl) ?_
      refine lv_dup hx hb dX12_isF_73 rfl ?_
      refine g_get (v := .int (nI 1)) (T := TX12) (ci := 12) (N := 45) hx hb hown hK (gY_X12 hT) rfl (h1 0 _ rfl) 16 (by decide) (hT _ gf_X12_177) rfl dX12_isF_74 ?_
      refine lv_iconst (v := 1) hx hb dX12_isF_77 (by decide) ?_
      refine lv_isub hx hb dX12_isF_78 ?_
      rw [show ((nI 1) - 1 : Int32) = nI (1 - 1) from (gSub rfl rfl (by omega))]
      refine g_put (T := TX12) (ci := 12) (N := 45) (ty0 := tyX12) hx hb hown hK hS (gY_X12 hT) tyX12_ok nmX12 rfl (h1 0 _ rfl) 16 (by decide) (hT _ gf_X12_177) rfl rfl rfl (Nat.le_of_ble_eq_true rfl) (by omega) dX12_isF_79 (fun H39 locs c40 oq hS => ?_)
      have h1 : gSg G b (gLM G b π μ (gR (gR f 6 Ey33) 13 (gS5 (nI (gPF (μ 0) n 3 (p + 1)).2.1) vy33 dy33 (nI (1 - 1)) (nI (c + (gPF (μ 0) n 3 (p + 1)).2.2.length)))) g) H39 := gSg_set h1 0 c40 oq
      refine lv_iload_n hx hb dX12_isF_82 rfl (lv_at hl 0 rfl) ?_
      rw [← hQ]
      exact g_zret hx hb hr hlk rfl hS dX12_isF_83 (by rw [show gPF (μ 0) n 4 p = (false, (gPF (μ 0) n 3 (p + 1)).2.1, (gPF (μ 0) n 3 (p + 1)).2.2) from by rw [gPF.eq_2, if_pos gc5, if_neg c38]]; exact ⟨rfl, _, _, _, hcy33, h1⟩)
    · have c38 : (gPF (μ 0) n 3 (p + 1)).1 = true := gB_1.mp c38
      refine lv_aload_n hx hb dX12_isF_16 rfl (lv_at hl 0 rfl) ?_
      refine lv_iconst (v := 0) hx hb dX12_isF_17 (by decide) ?_
      refine g_ki (g_runV (T := TX12) (ci := 12) (N := 45) (rest := []) hx hb hml hown hE hT (c_X12_codes l G b π μ f g n hn hT9 Ey33 (gPF (μ 0) n 3 (p + 1)).2.1 1 (c + (gPF (μ 0) n 3 (p + 1)).2.2.length) vy33 dy33 (by omega) (by omega) (by omega) 0 (by omega)) gM_X12_codes gm_X12_174 gi_X12_codes gs_RX12_yX12_codes_yX12_codes rfl (h1 0 _ rfl) h1 rfl hl.1 ⟨rfl, rfl⟩ ⟨Nat.le_of_ble_eq_true rfl, Nat.le_of_ble_eq_true rfl⟩ ⟨Nat.zero_le _, Nat.zero_le _⟩ rfl (Nat.le_of_ble_eq_true rfl) dX12_isF_18) hS (by intro q hq; omega) (fun r44 H41 locs q42 k43 hS => ?_)
      obtain ⟨e9, h1⟩ := q42
      rw [e9]
      refine lv_if_eq (tgt := 28) hx hb dX12_isF_21 (by decide) (fun c45 => ?_) (fun c45 => ?_)
      · exact absurd c45 (by decide)
      · refine lv_iconst (v := 1) hx hb dX12_isF_24 (by decide) ?_
        refine lv_goto (tgt := 29) hx hb dX12_isF_25 (by decide) ?_
        refine lv_istore_n (lv' := [(1, .int 1), (0, .ref b)]) hx hb dX12_isF_29 rfl hl (by decide) rfl (fun ls hl => ?_)
        refine lv_goto (tgt := 72) hx hb dX12_isF_30 (by decide) ?_
        refine lv_aload_n hx hb dX12_isF_72 rfl (lv_at hl 1 rfl) ?_
        refine lv_dup hx hb dX12_isF_73 rfl ?_
        refine g_get (v := .int (nI 1)) (T := TX12) (ci := 12) (N := 45) hx hb hown hK (gY_X12 hT) rfl (h1 0 _ rfl) 16 (by decide) (hT _ gf_X12_177) rfl dX12_isF_74 ?_
        refine lv_iconst (v := 1) hx hb dX12_isF_77 (by decide) ?_
        refine lv_isub hx hb dX12_isF_78 ?_
        rw [show ((nI 1) - 1 : Int32) = nI (1 - 1) from (gSub rfl rfl (by omega))]
        refine g_put (T := TX12) (ci := 12) (N := 45) (ty0 := tyX12) hx hb hown hK hS (gY_X12 hT) tyX12_ok nmX12 rfl (h1 0 _ rfl) 16 (by decide) (hT _ gf_X12_177) rfl rfl rfl (Nat.le_of_ble_eq_true rfl) (by omega) dX12_isF_79 (fun H46 locs c47 oq hS => ?_)
        have h1 : gSg G b (gLM G b π μ (gR (gR f 6 (upd Ey33 (c + (gPF (μ 0) n 3 (p + 1)).2.2.length) (nI 0))) 13 (gS5 (nI (gPF (μ 0) n 3 (p + 1)).2.1) vy33 dy33 (nI (1 - 1)) (nI (c + (gPF (μ 0) n 3 (p + 1)).2.2.length + 1)))) g) H46 := gSg_set h1 0 c47 oq
        refine lv_iload_n hx hb dX12_isF_82 rfl (lv_at hl 0 rfl) ?_
        rw [← hQ]
        exact g_zret hx hb hr hlk rfl hS dX12_isF_83 (by rw [show gPF (μ 0) n 4 p = (true, (gPF (μ 0) n 3 (p + 1)).2.1, (gPF (μ 0) n 3 (p + 1)).2.2 ++ [0]) from by rw [gPF.eq_2, if_pos gc5, if_pos c38]]; exact ⟨rfl, _, _, _, gCd_a hcy33, by rw [List.length_append]; exact h1⟩)

set_option maxHeartbeats 4000000 in
set_option maxRecDepth 100000 in
theorem c_X12_isT_4 (l : Launch) (G : gW) (b : Nat) (π μ f : gPS) (g : Nat → Int64) (n : Nat) (hn : μ 4 0 = nI n) (hT9 : gTx (μ 0) n) (E : Nat → Int32) (p c : Nat) (v d : Int32) (hp : p ≤ n) (hc : c + (n - p) ≤ 800) (hbG : G.2.2.2.size ≤ b) : gCI l yX12_isT cX12_isT 1 .boolean (gRm 21 446) G [.ref b] (fun H => gOld G H ∧ gSg G b (gLM G b π μ (gR (gR f 6 E) 13 (gS5 (nI p) v d (nI 0) (nI c))) g) H) (fun r H => r = gB ((gT (μ 0) n 4 p).1 = true) ∧ ∃ (v d : Int32) (E9 : Nat → Int32), gCd E c E9 (gT (μ 0) n 4 p).2.2 ∧ gSg G b (gLM G b π μ (gR (gR f 6 E9) 13 (gS5 (nI (gT (μ 0) n 4 p).2.1) v d (nI 0) (nI (c + (gT (μ 0) n 4 p).2.2.length)))) g) H) (fun q => b ≤ q ∧ q < b + 30) := by
  refine g_start (by decide) (Nat.le_of_ble_eq_true rfl) ?_
  intro pp_ ee_ s mm_ aa_ below meth cc_ ls Q hQ hX hE hP hl
  obtain ⟨hx, hb, hr, hml, hown, hT, hlk, hnm⟩ := hX
  have hK := hE.2.1
  obtain ⟨hO, h1⟩ := hP
  have hS : va_S (fun q => b ≤ q ∧ q < b + 30) s.heap s.heap [] := va_S.rf
  have hl : lv_has ls 1 [(0, .ref b)] := hl
  have hn9 : n ≤ 100 := hT9.1
  have hJ := hE.2.2.2.2.2.2.now hO
  refine lv_aload_n hx hb dX12_isT_0 rfl (lv_at hl 0 rfl) ?_
  have fy1 : p ≤ (gPF (μ 0) n 4 p).2.1 ∧ (gPF (μ 0) n 4 p).2.1 ≤ n ∧ (gPF (μ 0) n 4 p).2.2.length ≤ (gPF (μ 0) n 4 p).2.1 - p := gPF_fit (μ 0) n 4 p (by omega)
  refine g_ki (g_runV (T := TX12) (ci := 12) (N := 45) (rest := []) hx hb hml hown hE hT (c_X12_isF_4 l G b π μ f g n hn hT9 E p c v d (by omega) (by omega) hbG) gM_X12_isF gm_X12_183 gi_X12_isF gs_RX12_yX12_isF_yX12_isF rfl (h1 0 _ rfl) ⟨(gOld_S hO hS (fun q9 hq9 => Nat.le_trans hbG hq9.1)), h1⟩ rfl hl.1 ⟨rfl, rfl⟩ ⟨Nat.le_of_ble_eq_true rfl, Nat.le_of_ble_eq_true rfl⟩ ⟨Nat.zero_le _, Nat.zero_le _⟩ rfl (Nat.le_of_ble_eq_true rfl) dX12_isT_1) hS (by intro q hq; omega) (fun r5 H2 locs q3 k4 hS => ?_)
  obtain ⟨e9, vy1, dy1, Ey1, hcy1, h1⟩ := q3
  rw [e9]
  refine lv_if_ne (tgt := 9) hx hb dX12_isT_4 (by decide) (fun c6 => ?_) (fun c6 => ?_)
  · have c6 : (gPF (μ 0) n 4 p).1 = true := gB_1.mp c6
    have loop : ∀ (m a : Nat) (K : List Nat) (v9 d9 : Int32) (E9 : Nat → Int32), a ≤ n → n < a + m → p ≤ a → gT (μ 0) n 4 p = gTl (gPF (μ 0) n 4) (μ 0) n 38 1 m a K → gCd E c E9 K → K.length ≤ a - p → ∀ (H : Heap) (locs : List Loc), gSg G b (gLM G b π μ (gR (gR f 6 E9) 13 (gS5 (nI a) v9 d9 (nI 0) (nI (c + K.length)))) g) H → va_S (fun q => b ≤ q ∧ q < b + 30) s.heap H locs → ∀ ls, lv_has ls 1 [(0, .ref b)] → W pp_ l ee_ (gRm 21 446) s mm_ aa_ below meth cc_ H locs 0 0 Q (F0 mm_ 9 ls []) := by
      intro m
      induction m with
      | zero => intro a K v9 d9 E9 ha hm; exact absurd hm (by omega)
      | succ m ih =>
        intro a K v9 d9 E9 ha hm hpa hi hcd hKl H locs h1 hS ls hl
        refine lv_aload_n hx hb dX12_isT_9 rfl (lv_at hl 0 rfl) ?_
        refine lv_bipush (v := 38) hx hb dX12_isT_10 (by decide) ?_
        refine g_ki (g_runV (T := TX12) (ci := 12) (N := 45) (rest := []) hx hb hml hown hE hT (c_X12_is l G b π μ f g n hn hT9 E9 a 0 (c + K.length) v9 d9 (by omega) (by omega) (by omega) 38) gM_X12_is gm_X12_158 gi_X12_is gs_RX12_yX12_is_yX12_is rfl (h1 0 _ rfl) h1 rfl hl.1 ⟨rfl, rfl⟩ ⟨Nat.le_of_ble_eq_true rfl, Nat.le_of_ble_eq_true rfl⟩ ⟨Nat.zero_le _, Nat.zero_le _⟩ rfl (Nat.le_of_ble_eq_true rfl) dX12_isT_12) hS (by intro q hq; omega) (fun r10 H7 locs q8 k9 hS => ?_)
        obtain ⟨e9, h1⟩ := q8
        rw [e9]
        refine lv_if_eq (tgt := 35) hx hb dX12_isT_15 (by decide) (fun c11 => ?_) (fun c11 => ?_)
        · have c11 : ¬ (a < n ∧ μ 0 a = 38) := gB_0.mp c11
          rw [if_neg c11] at h1
          refine lv_iconst (v := 1) hx hb dX12_isT_35 (by decide) ?_
          rw [← hQ]
          exact g_zret hx hb hr hlk rfl hS dX12_isT_36 (by rw [hi, gTl, if_neg c11]; exact ⟨rfl, _, _, _, hcd, h1⟩)
        · have c11 : a < n ∧ μ 0 a = 38 := gB_1.mp c11
          rw [if_pos c11] at h1
          have ltc11 := c11.1
          refine lv_aload_n hx hb dX12_isT_18 rfl (lv_at hl 0 rfl) ?_
          have fy12 : a + 1 ≤ (gPF (μ 0) n 4 (a + 1)).2.1 ∧ (gPF (μ 0) n 4 (a + 1)).2.1 ≤ n ∧ (gPF (μ 0) n 4 (a + 1)).2.2.length ≤ (gPF (μ 0) n 4 (a + 1)).2.1 - (a + 1) := gPF_fit (μ 0) n 4 (a + 1) (by omega)
          refine g_ki (g_runV (T := TX12) (ci := 12) (N := 45) (rest := []) hx hb hml hown hE hT (c_X12_isF_4 l G b π μ f g n hn hT9 E9 (a + 1) (c + K.length) v9 d9 (by omega) (by omega) hbG) gM_X12_isF gm_X12_183 gi_X12_isF gs_RX12_yX12_isF_yX12_isF rfl (h1 0 _ rfl) ⟨(gOld_S hO hS (fun q9 hq9 => Nat.le_trans hbG hq9.1)), h1⟩ rfl hl.1 ⟨rfl, rfl⟩ ⟨Nat.le_of_ble_eq_true rfl, Nat.le_of_ble_eq_true rfl⟩ ⟨Nat.zero_le _, Nat.zero_le _⟩ rfl (Nat.le_of_ble_eq_true rfl) dX12_isT_19) hS (by intro q hq; omega) (fun r16 H13 locs q14 k15 hS => ?_)
          obtain ⟨e9, vy12, dy12, Ey12, hcy12, h1⟩ := q14
          rw [e9]
          refine lv_if_eq (tgt := 33) hx hb dX12_isT_22 (by decide) (fun c17 => ?_) (fun c17 => ?_)
          · have c17 : ¬ ((gPF (μ 0) n 4 (a + 1)).1 = true) := gB_0.mp c17
            refine lv_iconst (v := 0) hx hb dX12_isT_33 (by decide) ?_
            rw [← hQ]
            exact g_zret hx hb hr hlk rfl hS dX12_isT_34 (by rw [hi, gTl, if_pos c11, if_neg c17]; exact ⟨rfl, _, _, _, gCd_t hcd hcy12, by rw [List.length_append, ← Nat.add_assoc]; exact h1⟩)
          · have c17 : (gPF (μ 0) n 4 (a + 1)).1 = true := gB_1.mp c17
            refine lv_aload_n hx hb dX12_isT_25 rfl (lv_at hl 0 rfl) ?_
            refine lv_iconst (v := 1) hx hb dX12_isT_26 (by decide) ?_
            refine g_ki (g_runV (T := TX12) (ci := 12) (N := 45) (rest := []) hx hb hml hown hE hT (c_X12_codes l G b π μ f g n hn hT9 Ey12 (gPF (μ 0) n 4 (a + 1)).2.1 0 (c + K.length + (gPF (μ 0) n 4 (a + 1)).2.2.length) vy12 dy12 (by omega) (by omega) (by omega) 1 (by omega)) gM_X12_codes gm_X12_174 gi_X12_codes gs_RX12_yX12_codes_yX12_codes rfl (h1 0 _ rfl) h1 rfl hl.1 ⟨rfl, rfl⟩ ⟨Nat.le_of_ble_eq_true rfl, Nat.le_of_ble_eq_true rfl⟩ ⟨Nat.zero_le _, Nat.zero_le _⟩ rfl (Nat.le_of_ble_eq_true rfl) dX12_isT_27) hS (by intro q hq; omega) (fun r21 H18 locs q19 k20 hS => ?_)
            obtain ⟨e9, h1⟩ := q19
            rw [e9]
            refine lv_if_ne (tgt := 9) hx hb dX12_isT_30 (by decide) (fun c22 => ?_) (fun c22 => ?_)
            · have h1 : gSg G b (gLM G b π μ (gR (gR f 6 (upd Ey12 (c + K.length + (gPF (μ 0) n 4 (a + 1)).2.2.length) (nI 1))) 13 (gS5 (nI (gPF (μ 0) n 4 (a + 1)).2.1) vy12 dy12 (nI 0) (nI (c + (K ++ (gPF (μ 0) n 4 (a + 1)).2.2 ++ [1]).length)))) g) H18 := by rw [List.length_append, List.length_append, ← Nat.add_assoc, ← Nat.add_assoc]; exact h1
              exact ih (gPF (μ 0) n 4 (a + 1)).2.1 (K ++ (gPF (μ 0) n 4 (a + 1)).2.2 ++ [1]) _ _ _ (by omega) (by omega) (by omega) (by rw [hi, gTl, if_pos c11, if_pos c17]) (by have q9 := gCd_a (x := 1) (gCd_t hcd hcy12); rw [List.length_append, ← Nat.add_assoc] at q9; exact q9) (by rw [List.length_append, List.length_append]; show K.length + (gPF (μ 0) n 4 (a + 1)).2.2.length + 1 ≤ _; omega) _ _ h1 hS _ (lv_sub hl [0] rfl)
            · exact absurd c22 (by decide)
    exact loop (n + 1) _ _ _ _ _ (by omega) (by omega) (by omega) (by rw [gT, gPT, if_pos c6]) hcy1 (by omega) _ _ h1 hS _ (lv_sub hl [0] rfl)
  · have c6 : ¬ ((gPF (μ 0) n 4 p).1 = true) := gB_0.mp c6
    refine lv_iconst (v := 0) hx hb dX12_isT_7 (by decide) ?_
    rw [← hQ]
    exact g_zret hx hb hr hlk rfl hS dX12_isT_8 (by rw [show gT (μ 0) n 4 p = (false, (gPF (μ 0) n 4 p).2.1, (gPF (μ 0) n 4 p).2.2) from by rw [gT, gPT, if_neg c6]]; exact ⟨rfl, _, _, _, hcy1, h1⟩)

set_option maxHeartbeats 4000000 in
set_option maxRecDepth 100000 in
theorem c_X12_isE_4 (l : Launch) (G : gW) (b : Nat) (π μ f : gPS) (g : Nat → Int64) (n : Nat) (hn : μ 4 0 = nI n) (hT9 : gTx (μ 0) n) (E : Nat → Int32) (p c : Nat) (v d : Int32) (hp : p ≤ n) (hc : c + (n - p) ≤ 800) (hbG : G.2.2.2.size ≤ b) : gCI l yX12_isE cX12_isE 1 .boolean (gRm 22 466) G [.ref b] (fun H => gOld G H ∧ gSg G b (gLM G b π μ (gR (gR f 6 E) 13 (gS5 (nI p) v d (nI 0) (nI c))) g) H) (fun r H => r = gB ((gE (μ 0) n 4 p).1 = true) ∧ ∃ (v d : Int32) (E9 : Nat → Int32), gCd E c E9 (gE (μ 0) n 4 p).2.2 ∧ gSg G b (gLM G b π μ (gR (gR f 6 E9) 13 (gS5 (nI (gE (μ 0) n 4 p).2.1) v d (nI 0) (nI (c + (gE (μ 0) n 4 p).2.2.length)))) g) H) (fun q => b ≤ q ∧ q < b + 30) := by
  refine g_start (by decide) (Nat.le_of_ble_eq_true rfl) ?_
  intro pp_ ee_ s mm_ aa_ below meth cc_ ls Q hQ hX hE hP hl
  obtain ⟨hx, hb, hr, hml, hown, hT, hlk, hnm⟩ := hX
  have hK := hE.2.1
  obtain ⟨hO, h1⟩ := hP
  have hS : va_S (fun q => b ≤ q ∧ q < b + 30) s.heap s.heap [] := va_S.rf
  have hl : lv_has ls 1 [(0, .ref b)] := hl
  have hn9 : n ≤ 100 := hT9.1
  have hJ := hE.2.2.2.2.2.2.now hO
  refine lv_aload_n hx hb dX12_isE_0 rfl (lv_at hl 0 rfl) ?_
  have fy1 : p ≤ (gT (μ 0) n 4 p).2.1 ∧ (gT (μ 0) n 4 p).2.1 ≤ n ∧ (gT (μ 0) n 4 p).2.2.length ≤ (gT (μ 0) n 4 p).2.1 - p := gT_fit (μ 0) n 4 p (by omega)
  refine g_ki (g_runV (T := TX12) (ci := 12) (N := 45) (rest := []) hx hb hml hown hE hT (c_X12_isT_4 l G b π μ f g n hn hT9 E p c v d (by omega) (by omega) hbG) gM_X12_isT gm_X12_192 gi_X12_isT gs_RX12_yX12_isT_yX12_isT rfl (h1 0 _ rfl) ⟨(gOld_S hO hS (fun q9 hq9 => Nat.le_trans hbG hq9.1)), h1⟩ rfl hl.1 ⟨rfl, rfl⟩ ⟨Nat.le_of_ble_eq_true rfl, Nat.le_of_ble_eq_true rfl⟩ ⟨Nat.zero_le _, Nat.zero_le _⟩ rfl (Nat.le_of_ble_eq_true rfl) dX12_isE_1) hS (by intro q hq; omega) (fun r5 H2 locs q3 k4 hS => ?_)
  obtain ⟨e9, vy1, dy1, Ey1, hcy1, h1⟩ := q3
  rw [e9]
  refine lv_if_ne (tgt := 9) hx hb dX12_isE_4 (by decide) (fun c6 => ?_) (fun c6 => ?_)
  · have c6 : (gT (μ 0) n 4 p).1 = true := gB_1.mp c6
    have loop : ∀ (m a : Nat) (K : List Nat) (v9 d9 : Int32) (E9 : Nat → Int32), a ≤ n → n < a + m → p ≤ a → gE (μ 0) n 4 p = gTl (gT (μ 0) n 4) (μ 0) n 124 2 m a K → gCd E c E9 K → K.length ≤ a - p → ∀ (H : Heap) (locs : List Loc), gSg G b (gLM G b π μ (gR (gR f 6 E9) 13 (gS5 (nI a) v9 d9 (nI 0) (nI (c + K.length)))) g) H → va_S (fun q => b ≤ q ∧ q < b + 30) s.heap H locs → ∀ ls, lv_has ls 1 [(0, .ref b)] → W pp_ l ee_ (gRm 22 466) s mm_ aa_ below meth cc_ H locs 0 0 Q (F0 mm_ 9 ls []) := by
      intro m
      induction m with
      | zero => intro a K v9 d9 E9 ha hm; exact absurd hm (by omega)
      | succ m ih =>
        intro a K v9 d9 E9 ha hm hpa hi hcd hKl H locs h1 hS ls hl
        refine lv_aload_n hx hb dX12_isE_9 rfl (lv_at hl 0 rfl) ?_
        refine lv_bipush (v := 124) hx hb dX12_isE_10 (by decide) ?_
        refine g_ki (g_runV (T := TX12) (ci := 12) (N := 45) (rest := []) hx hb hml hown hE hT (c_X12_is l G b π μ f g n hn hT9 E9 a 0 (c + K.length) v9 d9 (by omega) (by omega) (by omega) 124) gM_X12_is gm_X12_158 gi_X12_is gs_RX12_yX12_is_yX12_is rfl (h1 0 _ rfl) h1 rfl hl.1 ⟨rfl, rfl⟩ ⟨Nat.le_of_ble_eq_true rfl, Nat.le_of_ble_eq_true rfl⟩ ⟨Nat.zero_le _, Nat.zero_le _⟩ rfl (Nat.le_of_ble_eq_true rfl) dX12_isE_12) hS (by intro q hq; omega) (fun r10 H7 locs q8 k9 hS => ?_)
        obtain ⟨e9, h1⟩ := q8
        rw [e9]
        refine lv_if_eq (tgt := 35) hx hb dX12_isE_15 (by decide) (fun c11 => ?_) (fun c11 => ?_)
        · have c11 : ¬ (a < n ∧ μ 0 a = 124) := gB_0.mp c11
          rw [if_neg c11] at h1
          refine lv_iconst (v := 1) hx hb dX12_isE_35 (by decide) ?_
          rw [← hQ]
          exact g_zret hx hb hr hlk rfl hS dX12_isE_36 (by rw [hi, gTl, if_neg c11]; exact ⟨rfl, _, _, _, hcd, h1⟩)
        · have c11 : a < n ∧ μ 0 a = 124 := gB_1.mp c11
          rw [if_pos c11] at h1
          have ltc11 := c11.1
          refine lv_aload_n hx hb dX12_isE_18 rfl (lv_at hl 0 rfl) ?_
          have fy12 : a + 1 ≤ (gT (μ 0) n 4 (a + 1)).2.1 ∧ (gT (μ 0) n 4 (a + 1)).2.1 ≤ n ∧ (gT (μ 0) n 4 (a + 1)).2.2.length ≤ (gT (μ 0) n 4 (a + 1)).2.1 - (a + 1) := gT_fit (μ 0) n 4 (a + 1) (by omega)
          refine g_ki (g_runV (T := TX12) (ci := 12) (N := 45) (rest := []) hx hb hml hown hE hT (c_X12_isT_4 l G b π μ f g n hn hT9 E9 (a + 1) (c + K.length) v9 d9 (by omega) (by omega) hbG) gM_X12_isT gm_X12_192 gi_X12_isT gs_RX12_yX12_isT_yX12_isT rfl (h1 0 _ rfl) ⟨(gOld_S hO hS (fun q9 hq9 => Nat.le_trans hbG hq9.1)), h1⟩ rfl hl.1 ⟨rfl, rfl⟩ ⟨Nat.le_of_ble_eq_true rfl, Nat.le_of_ble_eq_true rfl⟩ ⟨Nat.zero_le _, Nat.zero_le _⟩ rfl (Nat.le_of_ble_eq_true rfl) dX12_isE_19) hS (by intro q hq; omega) (fun r16 H13 locs q14 k15 hS => ?_)
          obtain ⟨e9, vy12, dy12, Ey12, hcy12, h1⟩ := q14
          rw [e9]
          refine lv_if_eq (tgt := 33) hx hb dX12_isE_22 (by decide) (fun c17 => ?_) (fun c17 => ?_)
          · have c17 : ¬ ((gT (μ 0) n 4 (a + 1)).1 = true) := gB_0.mp c17
            refine lv_iconst (v := 0) hx hb dX12_isE_33 (by decide) ?_
            rw [← hQ]
            exact g_zret hx hb hr hlk rfl hS dX12_isE_34 (by rw [hi, gTl, if_pos c11, if_neg c17]; exact ⟨rfl, _, _, _, gCd_t hcd hcy12, by rw [List.length_append, ← Nat.add_assoc]; exact h1⟩)
          · have c17 : (gT (μ 0) n 4 (a + 1)).1 = true := gB_1.mp c17
            refine lv_aload_n hx hb dX12_isE_25 rfl (lv_at hl 0 rfl) ?_
            refine lv_iconst (v := 2) hx hb dX12_isE_26 (by decide) ?_
            refine g_ki (g_runV (T := TX12) (ci := 12) (N := 45) (rest := []) hx hb hml hown hE hT (c_X12_codes l G b π μ f g n hn hT9 Ey12 (gT (μ 0) n 4 (a + 1)).2.1 0 (c + K.length + (gT (μ 0) n 4 (a + 1)).2.2.length) vy12 dy12 (by omega) (by omega) (by omega) 2 (by omega)) gM_X12_codes gm_X12_174 gi_X12_codes gs_RX12_yX12_codes_yX12_codes rfl (h1 0 _ rfl) h1 rfl hl.1 ⟨rfl, rfl⟩ ⟨Nat.le_of_ble_eq_true rfl, Nat.le_of_ble_eq_true rfl⟩ ⟨Nat.zero_le _, Nat.zero_le _⟩ rfl (Nat.le_of_ble_eq_true rfl) dX12_isE_27) hS (by intro q hq; omega) (fun r21 H18 locs q19 k20 hS => ?_)
            obtain ⟨e9, h1⟩ := q19
            rw [e9]
            refine lv_if_ne (tgt := 9) hx hb dX12_isE_30 (by decide) (fun c22 => ?_) (fun c22 => ?_)
            · have h1 : gSg G b (gLM G b π μ (gR (gR f 6 (upd Ey12 (c + K.length + (gT (μ 0) n 4 (a + 1)).2.2.length) (nI 2))) 13 (gS5 (nI (gT (μ 0) n 4 (a + 1)).2.1) vy12 dy12 (nI 0) (nI (c + (K ++ (gT (μ 0) n 4 (a + 1)).2.2 ++ [2]).length)))) g) H18 := by rw [List.length_append, List.length_append, ← Nat.add_assoc, ← Nat.add_assoc]; exact h1
              exact ih (gT (μ 0) n 4 (a + 1)).2.1 (K ++ (gT (μ 0) n 4 (a + 1)).2.2 ++ [2]) _ _ _ (by omega) (by omega) (by omega) (by rw [hi, gTl, if_pos c11, if_pos c17]) (by have q9 := gCd_a (x := 2) (gCd_t hcd hcy12); rw [List.length_append, ← Nat.add_assoc] at q9; exact q9) (by rw [List.length_append, List.length_append]; show K.length + (gT (μ 0) n 4 (a + 1)).2.2.length + 1 ≤ _; omega) _ _ h1 hS _ (lv_sub hl [0] rfl)
            · exact absurd c22 (by decide)
    exact loop (n + 1) _ _ _ _ _ (by omega) (by omega) (by omega) (by rw [gE, gPT, if_pos c6]) hcy1 (by omega) _ _ h1 hS _ (lv_sub hl [0] rfl)
  · have c6 : ¬ ((gT (μ 0) n 4 p).1 = true) := gB_0.mp c6
    refine lv_iconst (v := 0) hx hb dX12_isE_7 (by decide) ?_
    rw [← hQ]
    exact g_zret hx hb hr hlk rfl hS dX12_isE_8 (by rw [show gE (μ 0) n 4 p = (false, (gT (μ 0) n 4 p).2.1, (gT (μ 0) n 4 p).2.2) from by rw [gE, gPT, if_neg c6]]; exact ⟨rfl, _, _, _, hcy1, h1⟩)
