set_option maxHeartbeats 4000000 in
set_option maxRecDepth 100000 in
theorem c_X12_ready (l : Launch) (G : gW) (b : Nat) (π μ f : gPS) (g : Nat → Int64) (n : Nat) (hz : π 15 0 = nI n) (hn : n ≤ 6) (L : gLf) (hh : gHold π f L) : gCI l yX12_ready cX12_ready 3 .int (gRm 6 142) G [.ref b] (fun H => gM7 G b π μ f g H) (fun r H => r = gRdy π L n ∧ gM7 G b π μ f g H) (fun q => b ≤ q ∧ q < b + 30) := by
  refine g_start (by decide) (Nat.le_of_ble_eq_true rfl) ?_
  intro pp_ ee_ s mm_ aa_ below meth cc_ ls Q hQ hX hE hP hl
  obtain ⟨hx, hb, hr, hml, hown, hT, hlk, hnm⟩ := hX
  have hK := hE.2.1
  obtain ⟨s7, h1⟩ := hP
  have hS : va_S (fun q => b ≤ q ∧ q < b + 30) s.heap s.heap [] := va_S.rf
  have hl : lv_has ls 3 [(0, .ref b)] := hl
  refine lv_iconst (v := 0) hx hb dX12_ready_0 (by decide) ?_
  refine lv_istore_n (lv' := [(1, .int 0), (0, .ref b)]) hx hb dX12_ready_1 rfl hl (by decide) rfl (fun ls hl => ?_)
  refine lv_iconst (v := 0) hx hb dX12_ready_2 (by decide) ?_
  refine lv_istore_n (lv' := [(2, .int 0), (1, .int 0), (0, .ref b)]) hx hb dX12_ready_3 rfl hl (by decide) rfl (fun ls hl => ?_)
  have loop : ∀ (d k : Nat), k + d = n → ∀ (s7 : Nat → Int32), ∀ (H : Heap) (locs : List Loc), gSg G b (gLM G b π μ (gR f 7 s7) g) H → va_S (fun q => b ≤ q ∧ q < b + 30) s.heap H locs → ∀ ls, lv_has ls 3 [(0, .ref b), (1, .int (gRdy π L k)), (2, .int (nI k))] → W pp_ l ee_ (gRm 6 142) s mm_ aa_ below meth cc_ H locs 0 0 Q (F0 mm_ 4 ls []) := by
    intro d
    induction d with
    | zero =>
      intro k hk s7  H locs h1 hS ls hl
      have hk : k = n := by omega
      refine lv_iload_n hx hb dX12_ready_4 rfl (lv_at hl 2 rfl) ?_
      refine lv_aload_n hx hb dX12_ready_5 rfl (lv_at hl 0 rfl) ?_
      refine g_get (v := .int (π 15 0)) (T := TX12) (ci := 12) (N := 45) hx hb hown hK (gY_X12 hT) rfl (h1 0 _ rfl) 3 (by decide) (hT _ gf_X12_105) rfl dX12_ready_6 ?_
      refine lv_icmp_ge (tgt := 32) hx hb dX12_ready_9 (by decide) (fun c1 => ?_) (fun c1 => ?_)
      · have c1 : n ≤ k := (gLe (a := n) (b := k) hz rfl (by omega) (by omega)).mp c1
        refine lv_iload_n hx hb dX12_ready_32 rfl (lv_at hl 1 rfl) ?_
        rw [← hQ]
        exact g_iret hx hb hr hlk hS dX12_ready_33 ⟨by rw [hk], s7, h1⟩
      · have c1 : ¬ n ≤ k := fun z => c1 ((gLe (a := n) (b := k) hz rfl (by omega) (by omega)).mpr z)
        exact absurd c1 (by omega)
    | succ d ih =>
      intro k hk s7  H locs h1 hS ls hl
      refine lv_iload_n hx hb dX12_ready_4 rfl (lv_at hl 2 rfl) ?_
      refine lv_aload_n hx hb dX12_ready_5 rfl (lv_at hl 0 rfl) ?_
      refine g_get (v := .int (π 15 0)) (T := TX12) (ci := 12) (N := 45) hx hb hown hK (gY_X12 hT) rfl (h1 0 _ rfl) 3 (by decide) (hT _ gf_X12_105) rfl dX12_ready_6 ?_
      refine lv_icmp_ge (tgt := 32) hx hb dX12_ready_9 (by decide) (fun c2 => ?_) (fun c2 => ?_)
      · have c2 : n ≤ k := (gLe (a := n) (b := k) hz rfl (by omega) (by omega)).mp c2
        exact absurd c2 (by omega)
      · have c2 : ¬ n ≤ k := fun z => c2 ((gLe (a := n) (b := k) hz rfl (by omega) (by omega)).mpr z)
        refine lv_aload_n hx hb dX12_ready_12 rfl (lv_at hl 0 rfl) ?_
        refine lv_iload_n hx hb dX12_ready_13 rfl (lv_at hl 2 rfl) ?_
        refine g_ki (g_runV (T := TX12) (ci := 12) (N := 45) (rest := []) hx hb hml hown hE hT (c_X12_mayFly l G b π μ f g k (by omega) L hh) gM_X12_mayFly gm_X12_116 gi_X12_mayFly gs_RX12_yX12_mayFly_yX12_mayFly rfl (h1 0 _ rfl) ⟨s7, h1⟩ rfl hl.1 ⟨rfl, rfl⟩ ⟨Nat.le_of_ble_eq_true rfl, Nat.le_of_ble_eq_true rfl⟩ ⟨Nat.zero_le _, Nat.zero_le _⟩ rfl (Nat.le_of_ble_eq_true rfl) dX12_ready_14) hS (by intro q hq; omega) (fun r6 H3 locs q4 k5 hS => ?_)
        obtain ⟨rfl, s7, h1⟩ := q4
        refine lv_if_eq (tgt := 26) hx hb dX12_ready_17 (by decide) (fun c7 => ?_) (fun c7 => ?_)
        · have c7 : ¬ (gFly π L k) := gB_0.mp c7
          refine lv_iinc (v := nI (k + 1)) (lv' := [(2, .int (nI (k + 1))), (0, .ref b), (1, .int (gRdy π L k))]) hx hb dX12_ready_26 hl (k := 2) rfl (gAdd rfl (show Int32.ofInt 1 = nI 1 from rfl)) (by decide) rfl (fun ls hl => ?_)
          refine lv_goto (tgt := 4) hx hb dX12_ready_29 (by decide) ?_
          exact ih (k + 1) (by omega) s7  _ _ h1 hS _ (by have hl := lv_sub hl [1, 2, 0] rfl; rw [show (gRdy π L k : Int32) = gRdy π L (k + 1) from by rw [gRdy, if_neg c7]] at hl; exact hl)
        · have c7 : gFly π L k := gB_1.mp c7
          refine lv_iload_n hx hb dX12_ready_20 rfl (lv_at hl 1 rfl) ?_
          refine lv_iconst (v := 1) hx hb dX12_ready_21 (by decide) ?_
          refine lv_iload_n hx hb dX12_ready_22 rfl (lv_at hl 2 rfl) ?_
          refine lv_ishl hx hb dX12_ready_23 ?_
          refine lv_ior hx hb dX12_ready_24 ?_
          refine lv_istore_n (lv' := [(1, .int ((gRdy π L k) ||| (1 <<< ((nI k) &&& 31)))), (0, .ref b), (2, .int (nI k))]) hx hb dX12_ready_25 rfl hl (by decide) rfl (fun ls hl => ?_)
          refine lv_iinc (v := nI (k + 1)) (lv' := [(2, .int (nI (k + 1))), (1, .int ((gRdy π L k) ||| (1 <<< ((nI k) &&& 31)))), (0, .ref b)]) hx hb dX12_ready_26 hl (k := 2) rfl (gAdd rfl (show Int32.ofInt 1 = nI 1 from rfl)) (by decide) rfl (fun ls hl => ?_)
          refine lv_goto (tgt := 4) hx hb dX12_ready_29 (by decide) ?_
          exact ih (k + 1) (by omega) s7  _ _ h1 hS _ (by have hl := lv_sub hl [2, 1, 0] rfl; rw [show ((gRdy π L k) ||| (1 <<< ((nI k) &&& 31)) : Int32) = gRdy π L (k + 1) from by rw [gRdy, if_pos c7]] at hl; exact hl)
  exact loop (n - 0) 0 (by first | omega | simp) s7 _ _ h1 hS _ (lv_sub hl [2, 1, 0] rfl)

set_option maxHeartbeats 4000000 in
set_option maxRecDepth 100000 in
theorem c_X12_allFlown (l : Launch) (G : gW) (b : Nat) (π μ f : gPS) (g : Nat → Int64) (n : Nat) (hz : π 15 0 = nI n) (hn : n ≤ 6) : gCI l yX12_allFlown cX12_allFlown 3 .int (gRm 0 0) G [.ref b] (fun H => gSg G b (gLM G b π μ f g) H) (fun r H => r = gFlown (π 6) n) (fun _ => False) := by
  refine g_start (by decide) (Nat.le_of_ble_eq_true rfl) ?_
  intro pp_ ee_ s mm_ aa_ below meth cc_ ls Q hQ hX hE hP hl
  obtain ⟨hx, hb, hr, hml, hown, hT, hlk, hnm⟩ := hX
  have hK := hE.2.1
  have h1 := hP
  have hS : va_S (fun _ => False) s.heap s.heap [] := va_S.rf
  have hl : lv_has ls 3 [(0, .ref b)] := hl
  refine lv_iconst (v := 0) hx hb dX12_allFlown_0 (by decide) ?_
  refine lv_istore_n (lv' := [(1, .int 0), (0, .ref b)]) hx hb dX12_allFlown_1 rfl hl (by decide) rfl (fun ls hl => ?_)
  refine lv_iconst (v := 0) hx hb dX12_allFlown_2 (by decide) ?_
  refine lv_istore_n (lv' := [(2, .int 0), (1, .int 0), (0, .ref b)]) hx hb dX12_allFlown_3 rfl hl (by decide) rfl (fun ls hl => ?_)
  have loop : ∀ (d k : Nat), k + d = n → ∀ ls, lv_has ls 3 [(0, .ref b), (1, .int (gFlown (π 6) k)), (2, .int (nI k))] → W pp_ l ee_ (gRm 0 0) s mm_ aa_ below meth cc_ s.heap [] 0 0 Q (F0 mm_ 4 ls []) := by
    intro d
    induction d with
    | zero =>
      intro k hk   ls hl
      have hk : k = n := by omega
      refine lv_iload_n hx hb dX12_allFlown_4 rfl (lv_at hl 2 rfl) ?_
      refine lv_aload_n hx hb dX12_allFlown_5 rfl (lv_at hl 0 rfl) ?_
      refine g_get (v := .int (π 15 0)) (T := TX12) (ci := 12) (N := 45) hx hb hown hK (gY_X12 hT) rfl (h1 0 _ rfl) 3 (by decide) (hT _ gf_X12_105) rfl dX12_allFlown_6 ?_
      refine lv_icmp_ge (tgt := 27) hx hb dX12_allFlown_9 (by decide) (fun c1 => ?_) (fun c1 => ?_)
      · have c1 : n ≤ k := (gLe (a := n) (b := k) hz rfl (by omega) (by omega)).mp c1
        refine lv_iload_n hx hb dX12_allFlown_27 rfl (lv_at hl 1 rfl) ?_
        rw [← hQ]
        exact g_iret hx hb hr hlk hS dX12_allFlown_28 (by rw [hk])
      · have c1 : ¬ n ≤ k := fun z => c1 ((gLe (a := n) (b := k) hz rfl (by omega) (by omega)).mpr z)
        exact absurd c1 (by omega)
    | succ d ih =>
      intro k hk   ls hl
      refine lv_iload_n hx hb dX12_allFlown_4 rfl (lv_at hl 2 rfl) ?_
      refine lv_aload_n hx hb dX12_allFlown_5 rfl (lv_at hl 0 rfl) ?_
      refine g_get (v := .int (π 15 0)) (T := TX12) (ci := 12) (N := 45) hx hb hown hK (gY_X12 hT) rfl (h1 0 _ rfl) 3 (by decide) (hT _ gf_X12_105) rfl dX12_allFlown_6 ?_
      refine lv_icmp_ge (tgt := 27) hx hb dX12_allFlown_9 (by decide) (fun c2 => ?_) (fun c2 => ?_)
      · have c2 : n ≤ k := (gLe (a := n) (b := k) hz rfl (by omega) (by omega)).mp c2
        exact absurd c2 (by omega)
      · have c2 : ¬ n ≤ k := fun z => c2 ((gLe (a := n) (b := k) hz rfl (by omega) (by omega)).mpr z)
        refine lv_iload_n hx hb dX12_allFlown_12 rfl (lv_at hl 1 rfl) ?_
        refine lv_aload_n hx hb dX12_allFlown_13 rfl (lv_at hl 0 rfl) ?_
        refine g_get (v := .ref (b + 7)) (T := TX12) (ci := 12) (N := 45) hx hb hown hK (gY_X12 hT) rfl (h1 0 _ rfl) 8 (by decide) (hT _ gf_X12_30) rfl dX12_allFlown_14 ?_
        refine lv_iload_n hx hb dX12_allFlown_17 rfl (lv_at hl 2 rfl) ?_
        refine g_ia (j := k) (v := π 6 k) hx hb hK (h1 7 _ rfl) rfl (by omega) (Nat.le_of_ble_eq_true rfl) rfl dX12_allFlown_18 ?_
        refine lv_iadd hx hb dX12_allFlown_19 ?_
        refine lv_istore_n (lv' := [(1, .int ((gFlown (π 6) k) + (π 6 k))), (0, .ref b), (2, .int (nI k))]) hx hb dX12_allFlown_20 rfl hl (by decide) rfl (fun ls hl => ?_)
        refine lv_iinc (v := nI (k + 1)) (lv' := [(2, .int (nI (k + 1))), (1, .int ((gFlown (π 6) k) + (π 6 k))), (0, .ref b)]) hx hb dX12_allFlown_21 hl (k := 2) rfl (gAdd rfl (show Int32.ofInt 1 = nI 1 from rfl)) (by decide) rfl (fun ls hl => ?_)
        refine lv_goto (tgt := 4) hx hb dX12_allFlown_24 (by decide) ?_
        exact ih (k + 1) (by omega)   _ (by have hl := lv_sub hl [2, 1, 0] rfl; rw [show ((gFlown (π 6) k) + (π 6 k) : Int32) = gFlown (π 6) (k + 1) from by rw [gFlown]] at hl; exact hl)
  exact loop (n - 0) 0 (by first | omega | simp)  _ (lv_sub hl [2, 1, 0] rfl)

set_option maxHeartbeats 4000000 in
set_option maxRecDepth 100000 in
theorem c_X12_spare (l : Launch) (G : gW) (b : Nat) (π μ f : gPS) (g : Nat → Int64) (p : Nat) (hp : p < 6) (L : gLf) (hh : gHold π f L) : gCI l yX12_spare cX12_spare 6 .int (gRm 5 121) G [.ref b, .int (nI p)] (fun H => gM7 G b π μ f g H) (fun r H => r = (gSpa π L p 12).1 ∧ gM7 G b π μ f g H) (fun q => b ≤ q ∧ q < b + 30) := by
  refine g_start (by decide) (Nat.le_of_ble_eq_true rfl) ?_
  intro pp_ ee_ s mm_ aa_ below meth cc_ ls Q hQ hX hE hP hl
  obtain ⟨hx, hb, hr, hml, hown, hT, hlk, hnm⟩ := hX
  have hK := hE.2.1
  obtain ⟨s7, h1⟩ := hP
  have hS : va_S (fun q => b ≤ q ∧ q < b + 30) s.heap s.heap [] := va_S.rf
  have hl : lv_has ls 6 [(0, .ref b), (1, .int (nI p))] := hl
  refine lv_bipush (v := (-5)) hx hb dX12_spare_0 (by decide) ?_
  refine lv_istore_n (lv' := [(2, .int (-5)), (0, .ref b), (1, .int (nI p))]) hx hb dX12_spare_2 rfl hl (by decide) rfl (fun ls hl => ?_)
  refine lv_aload_n hx hb dX12_spare_3 rfl (lv_at hl 1 rfl) ?_
  refine lv_iload_n hx hb dX12_spare_4 rfl (lv_at hl 2 rfl) ?_
  refine lv_aload_n hx hb dX12_spare_5 rfl (lv_at hl 1 rfl) ?_
  refine g_get (v := .ref (b + 5)) (T := TX12) (ci := 12) (N := 45) hx hb hown hK (gY_X12 hT) rfl (h1 0 _ rfl) 6 (by decide) (hT _ gf_X12_24) rfl dX12_spare_6 ?_
  refine lv_iload_n hx hb dX12_spare_9 rfl (lv_at hl 2 rfl) ?_
  refine g_ia (j := p) (v := π 4 p) hx hb hK (h1 5 _ rfl) rfl (by omega) (Nat.le_of_ble_eq_true rfl) rfl dX12_spare_10 ?_
  refine g_ki (g_runV (T := TX12) (ci := 12) (N := 45) (rest := []) hx hb hml hown hE hT (c_X12_joyOf l G b π μ f g p (by omega) (π 4 p) L hh) gM_X12_joyOf gm_X12_126 gi_X12_joyOf gs_RX12_yX12_joyOf_yX12_joyOf rfl (h1 0 _ rfl) ⟨s7, h1⟩ rfl hl.1 ⟨rfl, rfl⟩ ⟨Nat.le_of_ble_eq_true rfl, Nat.le_of_ble_eq_true rfl⟩ ⟨Nat.zero_le _, Nat.zero_le _⟩ rfl (Nat.le_of_ble_eq_true rfl) dX12_spare_11) hS (by intro q hq; omega) (fun r4 H1 locs q2 k3 hS => ?_)
  obtain ⟨rfl, s7, h1⟩ := q2
  refine lv_istore_n (lv' := [(3, .int (gJoy π L p (π 4 p))), (2, .int (-5)), (0, .ref b), (1, .int (nI p))]) hx hb dX12_spare_14 rfl hl (by decide) rfl (fun ls hl => ?_)
  refine lv_iconst (v := 0) hx hb dX12_spare_15 (by decide) ?_
  refine lv_istore (lv' := [(4, .int 0), (3, .int (gJoy π L p (π 4 p))), (2, .int (-5)), (0, .ref b), (1, .int (nI p))]) hx hb dX12_spare_16 hl (by decide) rfl (fun ls hl => ?_)
  have loop : ∀ (d k : Nat), k + d = 12 → ∀ (s7 : Nat → Int32), ∀ (H : Heap) (locs : List Loc), gSg G b (gLM G b π μ (gR f 7 s7) g) H → va_S (fun q => b ≤ q ∧ q < b + 30) s.heap H locs → ∀ ls, lv_has ls 6 [(0, .ref b), (1, .int (nI p)), (2, .int ((gSpa π L p k).1)), (3, .int ((gSpa π L p k).2)), (4, .int (nI k))] → W pp_ l ee_ (gRm 5 121) s mm_ aa_ below meth cc_ H locs 0 0 Q (F0 mm_ 18 ls []) := by
    intro d
    induction d with
    | zero =>
      intro k hk s7  H locs h1 hS ls hl
      have hk : k = 12 := by omega
      refine lv_iload hx hb dX12_spare_18 (lv_at hl 4 rfl) ?_
      refine lv_bipush (v := 12) hx hb dX12_spare_20 (by decide) ?_
      refine lv_icmp_ge (tgt := 83) hx hb dX12_spare_22 (by decide) (fun c5 => ?_) (fun c5 => ?_)
      · have c5 : 12 ≤ k := (gLe (a := 12) (b := k) rfl rfl (by omega) (by omega)).mp c5
        refine lv_iload_n hx hb dX12_spare_83 rfl (lv_at hl 2 rfl) ?_
        rw [← hQ]
        exact g_iret hx hb hr hlk hS dX12_spare_84 ⟨by rw [hk], s7, h1⟩
      · have c5 : ¬ 12 ≤ k := fun z => c5 ((gLe (a := 12) (b := k) rfl rfl (by omega) (by omega)).mpr z)
        exact absurd c5 (by omega)
    | succ d ih =>
      intro k hk s7  H locs h1 hS ls hl
      refine lv_iload hx hb dX12_spare_18 (lv_at hl 4 rfl) ?_
      refine lv_bipush (v := 12) hx hb dX12_spare_20 (by decide) ?_
      refine lv_icmp_ge (tgt := 83) hx hb dX12_spare_22 (by decide) (fun c6 => ?_) (fun c6 => ?_)
      · have c6 : 12 ≤ k := (gLe (a := 12) (b := k) rfl rfl (by omega) (by omega)).mp c6
        exact absurd c6 (by omega)
      · have c6 : ¬ 12 ≤ k := fun z => c6 ((gLe (a := 12) (b := k) rfl rfl (by omega) (by omega)).mpr z)
        refine lv_aload_n hx hb dX12_spare_25 rfl (lv_at hl 0 rfl) ?_
        refine g_get (v := .ref (b + 5)) (T := TX12) (ci := 12) (N := 45) hx hb hown hK (gY_X12 hT) rfl (h1 0 _ rfl) 6 (by decide) (hT _ gf_X12_24) rfl dX12_spare_26 ?_
        refine lv_iload_n hx hb dX12_spare_29 rfl (lv_at hl 1 rfl) ?_
        refine g_ia (j := p) (v := π 4 p) hx hb hK (h1 5 _ rfl) rfl (by omega) (Nat.le_of_ble_eq_true rfl) rfl dX12_spare_30 ?_
        refine lv_iload hx hb dX12_spare_31 (lv_at hl 4 rfl) ?_
        refine g_ki (g_runS (rest := []) hx hb hml hown hE hT (c_X12_has l G (π 4 p) k) gM_X12_has gm_X12_223 gt_X12_has trivial rfl hl.1 ⟨rfl, rfl⟩ ⟨Nat.le_of_ble_eq_true rfl, Nat.le_of_ble_eq_true rfl⟩ ⟨Nat.zero_le _, Nat.zero_le _⟩ rfl (Nat.le_of_ble_eq_true rfl) dX12_spare_33) hS (fun _ h => h.elim) (fun r10 H7 locs q8 k9 hS => ?_)
        subst q8
        have h1 := gSg_free h1 k9 (by intro k hk q; simp only [List.length_cons, List.length_nil] at hk; omega)
        refine lv_if_ne (tgt := 42) hx hb dX12_spare_36 (by decide) (fun c11 => ?_) (fun c11 => ?_)
        · have c11 : ¬ (π 4 p) >>> (nI k &&& 31) &&& 1 = 0 := gB_1.mp c11
          refine lv_aload_n hx hb dX12_spare_42 rfl (lv_at hl 0 rfl) ?_
          refine lv_iload_n hx hb dX12_spare_43 rfl (lv_at hl 1 rfl) ?_
          refine lv_aload_n hx hb dX12_spare_44 rfl (lv_at hl 0 rfl) ?_
          refine g_get (v := .ref (b + 5)) (T := TX12) (ci := 12) (N := 45) hx hb hown hK (gY_X12 hT) rfl (h1 0 _ rfl) 6 (by decide) (hT _ gf_X12_24) rfl dX12_spare_45 ?_
          refine lv_iload_n hx hb dX12_spare_48 rfl (lv_at hl 1 rfl) ?_
          refine g_ia (j := p) (v := π 4 p) hx hb hK (h1 5 _ rfl) rfl (by omega) (Nat.le_of_ble_eq_true rfl) rfl dX12_spare_49 ?_
          refine lv_iconst (v := 1) hx hb dX12_spare_50 (by decide) ?_
          refine lv_iload hx hb dX12_spare_51 (lv_at hl 4 rfl) ?_
          refine lv_ishl hx hb dX12_spare_53 ?_
          refine lv_iconst (v := (-1)) hx hb dX12_spare_54 (by decide) ?_
          refine lv_ixor hx hb dX12_spare_55 ?_
          refine lv_iand hx hb dX12_spare_56 ?_
          refine g_ki (g_runV (T := TX12) (ci := 12) (N := 45) (rest := []) hx hb hml hown hE hT (c_X12_joyOf l G b π μ f g p (by omega) ((π 4 p) &&& ((1 <<< ((nI k) &&& 31)) ^^^ (-1))) L hh) gM_X12_joyOf gm_X12_126 gi_X12_joyOf gs_RX12_yX12_joyOf_yX12_joyOf rfl (h1 0 _ rfl) ⟨s7, h1⟩ rfl hl.1 ⟨rfl, rfl⟩ ⟨Nat.le_of_ble_eq_true rfl, Nat.le_of_ble_eq_true rfl⟩ ⟨Nat.zero_le _, Nat.zero_le _⟩ rfl (Nat.le_of_ble_eq_true rfl) dX12_spare_57) hS (by intro q hq; omega) (fun r15 H12 locs q13 k14 hS => ?_)
          obtain ⟨rfl, s7, h1⟩ := q13
          refine lv_istore (lv' := [(5, .int (gJoy π L p ((π 4 p) &&& ((1 <<< ((nI k) &&& 31)) ^^^ (-1))))), (0, .ref b), (1, .int (nI p)), (2, .int ((gSpa π L p k).1)), (3, .int ((gSpa π L p k).2)), (4, .int (nI k))]) hx hb dX12_spare_60 hl (by decide) rfl (fun ls hl => ?_)
          refine lv_iload hx hb dX12_spare_62 (lv_at hl 0 rfl) ?_
          refine lv_iload_n hx hb dX12_spare_64 rfl (lv_at hl 4 rfl) ?_
          refine lv_icmp_gt (tgt := 71) hx hb dX12_spare_65 (by decide) (fun c16 => ?_) (fun c16 => ?_)
          · refine lv_iload hx hb dX12_spare_71 (lv_at hl 0 rfl) ?_
            refine lv_istore_n (lv' := [(3, .int (gJoy π L p ((π 4 p) &&& ((1 <<< ((nI k) &&& 31)) ^^^ (-1))))), (5, .int (gJoy π L p ((π 4 p) &&& ((1 <<< ((nI k) &&& 31)) ^^^ (-1))))), (0, .ref b), (1, .int (nI p)), (2, .int ((gSpa π L p k).1)), (4, .int (nI k))]) hx hb dX12_spare_73 rfl hl (by decide) rfl (fun ls hl => ?_)
            refine lv_iload hx hb dX12_spare_74 (lv_at hl 5 rfl) ?_
            refine lv_istore_n (lv' := [(2, .int (nI k)), (3, .int (gJoy π L p ((π 4 p) &&& ((1 <<< ((nI k) &&& 31)) ^^^ (-1))))), (5, .int (gJoy π L p ((π 4 p) &&& ((1 <<< ((nI k) &&& 31)) ^^^ (-1))))), (0, .ref b), (1, .int (nI p)), (4, .int (nI k))]) hx hb dX12_spare_76 rfl hl (by decide) rfl (fun ls hl => ?_)
            refine lv_iinc (v := nI (k + 1)) (lv' := [(4, .int (nI (k + 1))), (2, .int (nI k)), (3, .int (gJoy π L p ((π 4 p) &&& ((1 <<< ((nI k) &&& 31)) ^^^ (-1))))), (5, .int (gJoy π L p ((π 4 p) &&& ((1 <<< ((nI k) &&& 31)) ^^^ (-1))))), (0, .ref b), (1, .int (nI p))]) hx hb dX12_spare_77 hl (k := 5) rfl (gAdd rfl (show Int32.ofInt 1 = nI 1 from rfl)) (by decide) rfl (fun ls hl => ?_)
            refine lv_goto (tgt := 18) hx hb dX12_spare_80 (by decide) ?_
            exact ih (k + 1) (by omega) s7  _ _ h1 hS _ (by have hl := lv_sub hl [4, 5, 1, 2, 0] rfl; rw [show (gJoy π L p ((π 4 p) &&& ((1 <<< ((nI k) &&& 31)) ^^^ (-1))) : Int32) = (gSpa π L p (k + 1)).2 from by rw [gSpa, if_neg c11, if_neg (Int32.not_le.mpr c16)]] at hl; rw [show (nI k : Int32) = (gSpa π L p (k + 1)).1 from by rw [gSpa, if_neg c11, if_neg (Int32.not_le.mpr c16)]] at hl; exact hl)
          · refine lv_goto (tgt := 77) hx hb dX12_spare_68 (by decide) ?_
            refine lv_iinc (v := nI (k + 1)) (lv' := [(4, .int (nI (k + 1))), (5, .int (gJoy π L p ((π 4 p) &&& ((1 <<< ((nI k) &&& 31)) ^^^ (-1))))), (0, .ref b), (1, .int (nI p)), (2, .int ((gSpa π L p k).1)), (3, .int ((gSpa π L p k).2))]) hx hb dX12_spare_77 hl (k := 5) rfl (gAdd rfl (show Int32.ofInt 1 = nI 1 from rfl)) (by decide) rfl (fun ls hl => ?_)
            refine lv_goto (tgt := 18) hx hb dX12_spare_80 (by decide) ?_
            exact ih (k + 1) (by omega) s7  _ _ h1 hS _ (by have hl := lv_sub hl [2, 3, 4, 5, 0] rfl; rw [show ((gSpa π L p k).1 : Int32) = (gSpa π L p (k + 1)).1 from by rw [gSpa, if_neg c11, if_pos (Int32.not_lt.mp c16)]] at hl; rw [show ((gSpa π L p k).2 : Int32) = (gSpa π L p (k + 1)).2 from by rw [gSpa, if_neg c11, if_pos (Int32.not_lt.mp c16)]] at hl; exact hl)
        · have c11 : ¬ (¬ (π 4 p) >>> (nI k &&& 31) &&& 1 = 0) := gB_0.mp c11
          refine lv_goto (tgt := 77) hx hb dX12_spare_39 (by decide) ?_
          refine lv_iinc (v := nI (k + 1)) (lv' := [(4, .int (nI (k + 1))), (0, .ref b), (1, .int (nI p)), (2, .int ((gSpa π L p k).1)), (3, .int ((gSpa π L p k).2))]) hx hb dX12_spare_77 hl (k := 4) rfl (gAdd rfl (show Int32.ofInt 1 = nI 1 from rfl)) (by decide) rfl (fun ls hl => ?_)
          refine lv_goto (tgt := 18) hx hb dX12_spare_80 (by decide) ?_
          exact ih (k + 1) (by omega) s7  _ _ h1 hS _ (by have hl := lv_sub hl [1, 2, 3, 4, 0] rfl; rw [show ((gSpa π L p k).1 : Int32) = (gSpa π L p (k + 1)).1 from by rw [gSpa, if_pos (Decidable.not_not.mp c11)]] at hl; rw [show ((gSpa π L p k).2 : Int32) = (gSpa π L p (k + 1)).2 from by rw [gSpa, if_pos (Decidable.not_not.mp c11)]] at hl; exact hl)
  exact loop (12 - 0) 0 (by first | omega | simp) s7 _ _ h1 hS _ (lv_sub hl [3, 4, 2, 1, 0] rfl)

set_option maxHeartbeats 4000000 in
set_option maxRecDepth 100000 in
theorem c_X12_isSeen (l : Launch) (G : gW) (b : Nat) (π μ f : gPS) (g : Nat → Int64) (sn : Nat) (hz3 : π 15 3 = nI sn) (hsn : sn ≤ 5) (hsp : ∀ k, k < sn → ∃ q, q < 6 ∧ π 8 k = nI q) (L : gLf) (hh : gHold π f L) : gCI l yX12_isSeen cX12_isSeen 2 .boolean (gRm 5 121) G [.ref b] (fun H => gM7 G b π μ f g H) (fun r H => r = gB (gSn π L 0 sn = true) ∧ gM7 G b π μ f g H) (fun q => b ≤ q ∧ q < b + 30) := by
  refine g_start (by decide) (Nat.le_of_ble_eq_true rfl) ?_
  intro pp_ ee_ s mm_ aa_ below meth cc_ ls Q hQ hX hE hP hl
  obtain ⟨hx, hb, hr, hml, hown, hT, hlk, hnm⟩ := hX
  have hK := hE.2.1
  obtain ⟨s7, h1⟩ := hP
  have hS : va_S (fun q => b ≤ q ∧ q < b + 30) s.heap s.heap [] := va_S.rf
  have hl : lv_has ls 2 [(0, .ref b)] := hl
  refine lv_iconst (v := 0) hx hb dX12_isSeen_0 (by decide) ?_
  refine lv_istore_n (lv' := [(1, .int 0), (0, .ref b)]) hx hb dX12_isSeen_1 rfl hl (by decide) rfl (fun ls hl => ?_)
  have loop : ∀ (d k : Nat), k + d = sn → ∀ (s7 : Nat → Int32), gSn π L 0 sn = gSn π L k d → ∀ (H : Heap) (locs : List Loc), gSg G b (gLM G b π μ (gR f 7 s7) g) H → va_S (fun q => b ≤ q ∧ q < b + 30) s.heap H locs → ∀ ls, lv_has ls 2 [(0, .ref b), (1, .int (nI k))] → W pp_ l ee_ (gRm 5 121) s mm_ aa_ below meth cc_ H locs 0 0 Q (F0 mm_ 2 ls []) := by
    intro d
    induction d with
    | zero =>
      intro k hk s7 hi H locs h1 hS ls hl
      have hk : k = sn := by omega
      refine lv_iload_n hx hb dX12_isSeen_2 rfl (lv_at hl 1 rfl) ?_
      refine lv_aload_n hx hb dX12_isSeen_3 rfl (lv_at hl 0 rfl) ?_
      refine g_get (v := .int (π 15 3)) (T := TX12) (ci := 12) (N := 45) hx hb hown hK (gY_X12 hT) rfl (h1 0 _ rfl) 27 (by decide) (hT _ gf_X12_272) rfl dX12_isSeen_4 ?_
      refine lv_icmp_ge (tgt := 60) hx hb dX12_isSeen_7 (by decide) (fun c1 => ?_) (fun c1 => ?_)
      · have c1 : sn ≤ k := (gLe (a := sn) (b := k) hz3 rfl (by omega) (by omega)).mp c1
        refine lv_iconst (v := 1) hx hb dX12_isSeen_60 (by decide) ?_
        rw [← hQ]
        exact g_zret hx hb hr hlk rfl hS dX12_isSeen_61 ⟨(gB_t (by rw [hi, gSn])).symm, s7, h1⟩
      · have c1 : ¬ sn ≤ k := fun z => c1 ((gLe (a := sn) (b := k) hz3 rfl (by omega) (by omega)).mpr z)
        exact absurd c1 (by omega)
    | succ d ih =>
      intro k hk s7 hi H locs h1 hS ls hl
      refine lv_iload_n hx hb dX12_isSeen_2 rfl (lv_at hl 1 rfl) ?_
      refine lv_aload_n hx hb dX12_isSeen_3 rfl (lv_at hl 0 rfl) ?_
      refine g_get (v := .int (π 15 3)) (T := TX12) (ci := 12) (N := 45) hx hb hown hK (gY_X12 hT) rfl (h1 0 _ rfl) 27 (by decide) (hT _ gf_X12_272) rfl dX12_isSeen_4 ?_
      refine lv_icmp_ge (tgt := 60) hx hb dX12_isSeen_7 (by decide) (fun c2 => ?_) (fun c2 => ?_)
      · have c2 : sn ≤ k := (gLe (a := sn) (b := k) hz3 rfl (by omega) (by omega)).mp c2
        exact absurd c2 (by omega)
      · have c2 : ¬ sn ≤ k := fun z => c2 ((gLe (a := sn) (b := k) hz3 rfl (by omega) (by omega)).mpr z)
        obtain ⟨q, lq, eq⟩ := hsp k (by omega)
        have ec : (π 8 k).toNatClampNeg = q := by rw [eq, nI_clamp (by omega)]
        refine lv_aload_n hx hb dX12_isSeen_10 rfl (lv_at hl 0 rfl) ?_
        refine lv_aload_n hx hb dX12_isSeen_11 rfl (lv_at hl 0 rfl) ?_
        refine g_get (v := .ref (b + 17)) (T := TX12) (ci := 12) (N := 45) hx hb hown hK (gY_X12 hT) rfl (h1 0 _ rfl) 28 (by decide) (hT _ gf_X12_61) rfl dX12_isSeen_12 ?_
        refine lv_iload_n hx hb dX12_isSeen_15 rfl (lv_at hl 1 rfl) ?_
        refine g_ia (j := k) (v := nI q) hx hb hK (h1 17 _ rfl) rfl (by omega) (Nat.le_of_ble_eq_true rfl) eq dX12_isSeen_16 ?_
        refine lv_aload_n hx hb dX12_isSeen_17 rfl (lv_at hl 0 rfl) ?_
        refine g_get (v := .ref (b + 18)) (T := TX12) (ci := 12) (N := 45) hx hb hown hK (gY_X12 hT) rfl (h1 0 _ rfl) 29 (by decide) (hT _ gf_X12_64) rfl dX12_isSeen_18 ?_
        refine lv_iload_n hx hb dX12_isSeen_21 rfl (lv_at hl 1 rfl) ?_
        refine g_ia (j := k) (v := π 9 k) hx hb hK (h1 18 _ rfl) rfl (by omega) (Nat.le_of_ble_eq_true rfl) rfl dX12_isSeen_22 ?_
        refine g_ki (g_runV (T := TX12) (ci := 12) (N := 45) (rest := []) hx hb hml hown hE hT (c_X12_joyOf l G b π μ f g q (by omega) (π 9 k) L hh) gM_X12_joyOf gm_X12_126 gi_X12_joyOf gs_RX12_yX12_joyOf_yX12_joyOf rfl (h1 0 _ rfl) ⟨s7, h1⟩ rfl hl.1 ⟨rfl, rfl⟩ ⟨Nat.le_of_ble_eq_true rfl, Nat.le_of_ble_eq_true rfl⟩ ⟨Nat.zero_le _, Nat.zero_le _⟩ rfl (Nat.le_of_ble_eq_true rfl) dX12_isSeen_23) hS (by intro q hq; omega) (fun r6 H3 locs q4 k5 hS => ?_)
        obtain ⟨rfl, s7, h1⟩ := q4
        refine lv_if_le (tgt := 33) hx hb dX12_isSeen_26 (by decide) (fun c7 => ?_) (fun c7 => ?_)
        · refine lv_iconst (v := 0) hx hb dX12_isSeen_33 (by decide) ?_
          refine lv_aload_n hx hb dX12_isSeen_34 rfl (lv_at hl 0 rfl) ?_
          refine g_get (v := .ref (b + 19)) (T := TX12) (ci := 12) (N := 45) hx hb hown hK (gY_X12 hT) rfl (h1 0 _ rfl) 30 (by decide) (hT _ gf_X12_67) rfl dX12_isSeen_35 ?_
          refine lv_iload_n hx hb dX12_isSeen_38 rfl (lv_at hl 1 rfl) ?_
          refine g_ia (j := k) (v := π 10 k) hx hb hK (h1 19 _ rfl) rfl (by omega) (Nat.le_of_ble_eq_true rfl) rfl dX12_isSeen_39 ?_
          refine lv_iconst (v := 1) hx hb dX12_isSeen_40 (by decide) ?_
          refine lv_icmp_ne (tgt := 48) hx hb dX12_isSeen_41 (by decide) (fun c8 => ?_) (fun c8 => ?_)
          · refine lv_iconst (v := 0) hx hb dX12_isSeen_48 (by decide) ?_
            refine lv_icmp_eq (tgt := 54) hx hb dX12_isSeen_49 (by decide) (fun c9 => ?_) (fun c9 => ?_)
            · refine lv_iinc (v := nI (k + 1)) (lv' := [(1, .int (nI (k + 1))), (0, .ref b)]) hx hb dX12_isSeen_54 hl (k := 1) rfl (gAdd rfl (show Int32.ofInt 1 = nI 1 from rfl)) (by decide) rfl (fun ls hl => ?_)
              refine lv_goto (tgt := 2) hx hb dX12_isSeen_57 (by decide) ?_
              exact ih (k + 1) (by omega) s7 (by rw [hi, gSn, if_pos (show 0 < gJoy π L (π 8 k).toNatClampNeg (π 9 k) ↔ π 10 k = 1 from ⟨fun z => absurd (by rw [ec] at z; exact z) (Int32.not_lt.mpr c7), fun z => absurd z c8⟩)]) _ _ h1 hS _ (by have hl := lv_sub hl [1, 0] rfl; exact hl)
            · exact absurd (by decide) c9
          · refine lv_iconst (v := 1) hx hb dX12_isSeen_44 (by decide) ?_
            refine lv_goto (tgt := 49) hx hb dX12_isSeen_45 (by decide) ?_
            refine lv_icmp_eq (tgt := 54) hx hb dX12_isSeen_49 (by decide) (fun c10 => ?_) (fun c10 => ?_)
            · exact absurd c10 (by decide)
            · refine lv_iconst (v := 0) hx hb dX12_isSeen_52 (by decide) ?_
              rw [← hQ]
              exact g_zret hx hb hr hlk rfl hS dX12_isSeen_53 ⟨(gB_f (by rw [hi, gSn, if_neg (show ¬ (0 < gJoy π L (π 8 k).toNatClampNeg (π 9 k) ↔ π 10 k = 1) from fun z => absurd (by have := z.mpr c8; rw [ec] at this; exact this) (Int32.not_lt.mpr c7))]; decide)).symm, s7, h1⟩
        · refine lv_iconst (v := 1) hx hb dX12_isSeen_29 (by decide) ?_
          refine lv_goto (tgt := 34) hx hb dX12_isSeen_30 (by decide) ?_
          refine lv_aload_n hx hb dX12_isSeen_34 rfl (lv_at hl 0 rfl) ?_
          refine g_get (v := .ref (b + 19)) (T := TX12) (ci := 12) (N := 45) hx hb hown hK (gY_X12 hT) rfl (h1 0 _ rfl) 30 (by decide) (hT _ gf_X12_67) rfl dX12_isSeen_35 ?_
          refine lv_iload_n hx hb dX12_isSeen_38 rfl (lv_at hl 1 rfl) ?_
          refine g_ia (j := k) (v := π 10 k) hx hb hK (h1 19 _ rfl) rfl (by omega) (Nat.le_of_ble_eq_true rfl) rfl dX12_isSeen_39 ?_
          refine lv_iconst (v := 1) hx hb dX12_isSeen_40 (by decide) ?_
          refine lv_icmp_ne (tgt := 48) hx hb dX12_isSeen_41 (by decide) (fun c11 => ?_) (fun c11 => ?_)
          · refine lv_iconst (v := 0) hx hb dX12_isSeen_48 (by decide) ?_
            refine lv_icmp_eq (tgt := 54) hx hb dX12_isSeen_49 (by decide) (fun c12 => ?_) (fun c12 => ?_)
            · exact absurd c12 (by decide)
            · refine lv_iconst (v := 0) hx hb dX12_isSeen_52 (by decide) ?_
              rw [← hQ]
              exact g_zret hx hb hr hlk rfl hS dX12_isSeen_53 ⟨(gB_f (by rw [hi, gSn, if_neg (show ¬ (0 < gJoy π L (π 8 k).toNatClampNeg (π 9 k) ↔ π 10 k = 1) from fun z => c11 (z.mp (by rw [ec]; exact (Int32.not_le.mp c7))))]; decide)).symm, s7, h1⟩
          · refine lv_iconst (v := 1) hx hb dX12_isSeen_44 (by decide) ?_
            refine lv_goto (tgt := 49) hx hb dX12_isSeen_45 (by decide) ?_
            refine lv_icmp_eq (tgt := 54) hx hb dX12_isSeen_49 (by decide) (fun c13 => ?_) (fun c13 => ?_)
            · refine lv_iinc (v := nI (k + 1)) (lv' := [(1, .int (nI (k + 1))), (0, .ref b)]) hx hb dX12_isSeen_54 hl (k := 1) rfl (gAdd rfl (show Int32.ofInt 1 = nI 1 from rfl)) (by decide) rfl (fun ls hl => ?_)
              refine lv_goto (tgt := 2) hx hb dX12_isSeen_57 (by decide) ?_
              exact ih (k + 1) (by omega) s7 (by rw [hi, gSn, if_pos (show 0 < gJoy π L (π 8 k).toNatClampNeg (π 9 k) ↔ π 10 k = 1 from ⟨fun _ => c11, fun _ => by rw [ec]; exact (Int32.not_le.mp c7)⟩)]) _ _ h1 hS _ (by have hl := lv_sub hl [1, 0] rfl; exact hl)
            · exact absurd (by decide) c13
  exact loop (sn - 0) 0 (by first | omega | simp) s7 rfl _ _ h1 hS _ (lv_sub hl [1, 0] rfl)

set_option maxHeartbeats 4000000 in
set_option maxRecDepth 100000 in
theorem c_X12_goesDay (l : Launch) (G : gW) (b : Nat) (π μ f : gPS) (g : Nat → Int64) (n : Nat) (hz : π 15 0 = nI n) (hn : n ≤ 6) (L : gLf) (hh : gHold π f L) : gCV l yX12_goesDay cX12_goesDay 3 (gRm 6 142) G [.ref b] (fun H => gM7 G b π μ f g H) (fun H => gM7 G b (gDay π L n) μ f g H) (fun q => b ≤ q ∧ q < b + 30) := by
  refine g_start (by decide) (Nat.le_of_ble_eq_true rfl) ?_
  intro pp_ ee_ s mm_ aa_ below meth cc_ ls Q hQ hX hE hP hl
  obtain ⟨hx, hb, hr, hml, hown, hT, hlk, hnm⟩ := hX
  have hK := hE.2.1
  obtain ⟨s7, h1⟩ := hP
  have hS : va_S (fun q => b ≤ q ∧ q < b + 30) s.heap s.heap [] := va_S.rf
  have hl : lv_has ls 3 [(0, .ref b)] := hl
  refine lv_aload_n hx hb dX12_goesDay_0 rfl (lv_at hl 0 rfl) ?_
  refine g_ki (g_runV (T := TX12) (ci := 12) (N := 45) (rest := []) hx hb hml hown hE hT (c_X12_restBy l G b π μ f g L hh) gM_X12_restBy gm_X12_244 gi_X12_restBy gs_RX12_yX12_restBy_yX12_restBy rfl (h1 0 _ rfl) ⟨s7, h1⟩ rfl hl.1 ⟨rfl, rfl⟩ ⟨Nat.le_of_ble_eq_true rfl, Nat.le_of_ble_eq_true rfl⟩ ⟨Nat.zero_le _, Nat.zero_le _⟩ rfl (Nat.le_of_ble_eq_true rfl) dX12_goesDay_1) hS (fun _ h => h.elim) (fun r4 H1 locs q2 k3 hS => ?_)
  subst q2
  have h1 := gSg_free h1 k3 (by intro k hk q; simp only [List.length_cons, List.length_nil] at hk; omega)
  refine lv_istore_n (lv' := [(1, .int (gRs L L.1)), (0, .ref b)]) hx hb dX12_goesDay_4 rfl hl (by decide) rfl (fun ls hl => ?_)
  refine lv_iconst (v := 0) hx hb dX12_goesDay_5 (by decide) ?_
  refine lv_istore_n (lv' := [(2, .int 0), (1, .int (gRs L L.1)), (0, .ref b)]) hx hb dX12_goesDay_6 rfl hl (by decide) rfl (fun ls hl => ?_)
  have loop : ∀ (d k : Nat), k + d = n → ∀ (s7 : Nat → Int32), ∀ (H : Heap) (locs : List Loc), gSg G b (gLM G b (gDy π L (gRs L L.1) k) μ (gR f 7 s7) g) H → va_S (fun q => b ≤ q ∧ q < b + 30) s.heap H locs → ∀ ls, lv_has ls 3 [(0, .ref b), (1, .int (gRs L L.1)), (2, .int (nI k))] → W pp_ l ee_ (gRm 6 142) s mm_ aa_ below meth cc_ H locs 0 0 Q (F0 mm_ 7 ls []) := by
    intro d
    induction d with
    | zero =>
      intro k hk s7  H locs h1 hS ls hl
      have hk : k = n := by omega
      refine lv_iload_n hx hb dX12_goesDay_7 rfl (lv_at hl 2 rfl) ?_
      refine lv_aload_n hx hb dX12_goesDay_8 rfl (lv_at hl 0 rfl) ?_
      refine g_get (v := .int ((gDy π L (gRs L L.1) k) 15 0)) (T := TX12) (ci := 12) (N := 45) hx hb hown hK (gY_X12 hT) rfl (h1 0 _ rfl) 3 (by decide) (hT _ gf_X12_105) rfl dX12_goesDay_9 ?_
      refine lv_icmp_ge (tgt := 105) hx hb dX12_goesDay_12 (by decide) (fun c5 => ?_) (fun c5 => ?_)
      · have c5 : n ≤ k := (gLe (a := n) (b := k) ((gDy_15 (by decide) k).trans hz) rfl (by omega) (by omega)).mp c5
        rw [hk] at h1
        refine lv_aload_n hx hb dX12_goesDay_105 rfl (lv_at hl 0 rfl) ?_
        refine lv_dup hx hb dX12_goesDay_106 rfl ?_
        refine g_get (v := .int ((gDy π L (gRs L L.1) n) 15 2)) (T := TX12) (ci := 12) (N := 45) hx hb hown hK (gY_X12 hT) rfl (h1 0 _ rfl) 10 (by decide) (hT _ gf_X12_216) rfl dX12_goesDay_107 ?_
        refine lv_iconst (v := 1) hx hb dX12_goesDay_110 (by decide) ?_
        refine lv_iadd hx hb dX12_goesDay_111 ?_
        refine g_put (T := TX12) (ci := 12) (N := 45) (ty0 := tyX12) hx hb hown hK hS (gY_X12 hT) tyX12_ok nmX12 rfl (h1 0 _ rfl) 10 (by decide) (hT _ gf_X12_216) rfl rfl rfl (Nat.le_of_ble_eq_true rfl) (by omega) dX12_goesDay_112 (fun H6 locs c7 oq hS => ?_)
        have h1 : gSg G b (gLM G b (gU (gDy π L (gRs L L.1) n) 15 2 (((gDy π L (gRs L L.1) n) 15 2) + 1)) μ (gR f 7 s7) g) H6 := gSg_set h1 0 c7 oq
        rw [← hQ]
        exact g_vret hx hb hr hlk hS dX12_goesDay_115 ⟨s7, h1⟩
      · have c5 : ¬ n ≤ k := fun z => c5 ((gLe (a := n) (b := k) ((gDy_15 (by decide) k).trans hz) rfl (by omega) (by omega)).mpr z)
        exact absurd c5 (by omega)
    | succ d ih =>
      intro k hk s7  H locs h1 hS ls hl
      refine lv_iload_n hx hb dX12_goesDay_7 rfl (lv_at hl 2 rfl) ?_
      refine lv_aload_n hx hb dX12_goesDay_8 rfl (lv_at hl 0 rfl) ?_
      refine g_get (v := .int ((gDy π L (gRs L L.1) k) 15 0)) (T := TX12) (ci := 12) (N := 45) hx hb hown hK (gY_X12 hT) rfl (h1 0 _ rfl) 3 (by decide) (hT _ gf_X12_105) rfl dX12_goesDay_9 ?_
      refine lv_icmp_ge (tgt := 105) hx hb dX12_goesDay_12 (by decide) (fun c8 => ?_) (fun c8 => ?_)
      · have c8 : n ≤ k := (gLe (a := n) (b := k) ((gDy_15 (by decide) k).trans hz) rfl (by omega) (by omega)).mp c8
        exact absurd c8 (by omega)
      · have c8 : ¬ n ≤ k := fun z => c8 ((gLe (a := n) (b := k) ((gDy_15 (by decide) k).trans hz) rfl (by omega) (by omega)).mpr z)
        refine lv_aload_n hx hb dX12_goesDay_15 rfl (lv_at hl 0 rfl) ?_
        refine lv_iload_n hx hb dX12_goesDay_16 rfl (lv_at hl 2 rfl) ?_
        refine g_ki (g_runV (T := TX12) (ci := 12) (N := 45) (rest := []) hx hb hml hown hE hT (c_X12_mayFly l G b (gDy π L (gRs L L.1) k) μ f g k (by omega) L (gHold_eq hh (gDy_15 (by decide) k))) gM_X12_mayFly gm_X12_116 gi_X12_mayFly gs_RX12_yX12_mayFly_yX12_mayFly rfl (h1 0 _ rfl) ⟨s7, h1⟩ rfl hl.1 ⟨rfl, rfl⟩ ⟨Nat.le_of_ble_eq_true rfl, Nat.le_of_ble_eq_true rfl⟩ ⟨Nat.zero_le _, Nat.zero_le _⟩ rfl (Nat.le_of_ble_eq_true rfl) dX12_goesDay_17) hS (by intro q hq; omega) (fun r12 H9 locs q10 k11 hS => ?_)
        obtain ⟨rfl, s7, h1⟩ := q10
        refine lv_if_ne (tgt := 44) hx hb dX12_goesDay_20 (by decide) (fun c13 => ?_) (fun c13 => ?_)
        · have c13 : gFly (gDy π L (gRs L L.1) k) L k := gB_1.mp c13
          refine lv_aload_n hx hb dX12_goesDay_44 rfl (lv_at hl 0 rfl) ?_
          refine lv_dup hx hb dX12_goesDay_45 rfl ?_
          refine g_get (v := .int ((gDy π L (gRs L L.1) k) 15 1)) (T := TX12) (ci := 12) (N := 45) hx hb hown hK (gY_X12 hT) rfl (h1 0 _ rfl) 2 (by decide) (hT _ gf_X12_241) rfl dX12_goesDay_46 ?_
          refine lv_aload_n hx hb dX12_goesDay_49 rfl (lv_at hl 0 rfl) ?_
          refine lv_aload_n hx hb dX12_goesDay_50 rfl (lv_at hl 0 rfl) ?_
          refine g_get (v := .ref (b + 5)) (T := TX12) (ci := 12) (N := 45) hx hb hown hK (gY_X12 hT) rfl (h1 0 _ rfl) 6 (by decide) (hT _ gf_X12_24) rfl dX12_goesDay_51 ?_
          refine lv_iload_n hx hb dX12_goesDay_54 rfl (lv_at hl 2 rfl) ?_
          refine g_ia (j := k) (v := (gDy π L (gRs L L.1) k) 4 k) hx hb hK (h1 5 _ rfl) rfl (by omega) (Nat.le_of_ble_eq_true rfl) rfl dX12_goesDay_55 ?_
          refine g_ki (g_runV (T := TX12) (ci := 12) (N := 45) (rest := [.int ((gDy π L (gRs L L.1) k) 15 1), .ref b]) hx hb hml hown hE hT (c_X12_meant l G b (gDy π L (gRs L L.1) k) μ (gR f 7 s7) g ((gDy π L (gRs L L.1) k) 4 k)) gM_X12_meant gm_X12_250 gi_X12_meant gs_RX12_yX12_meant_yX12_meant rfl (h1 0 _ rfl) h1 rfl hl.1 ⟨rfl, rfl⟩ ⟨Nat.le_of_ble_eq_true rfl, Nat.le_of_ble_eq_true rfl⟩ ⟨Nat.zero_le _, Nat.zero_le _⟩ rfl (Nat.le_of_ble_eq_true rfl) dX12_goesDay_56) hS (fun _ h => h.elim) (fun r17 H14 locs q15 k16 hS => ?_)
          subst q15
          have h1 := gSg_free h1 k16 (by intro k hk q; simp only [List.length_cons, List.length_nil] at hk; omega)
          refine lv_ior hx hb dX12_goesDay_59 ?_
          refine g_put (T := TX12) (ci := 12) (N := 45) (ty0 := tyX12) hx hb hown hK hS (gY_X12 hT) tyX12_ok nmX12 rfl (h1 0 _ rfl) 2 (by decide) (hT _ gf_X12_241) rfl rfl rfl (Nat.le_of_ble_eq_true rfl) (by omega) dX12_goesDay_60 (fun H18 locs c19 oq hS => ?_)
          have h1 : gSg G b (gLM G b (gU (gDy π L (gRs L L.1) k) 15 1 (((gDy π L (gRs L L.1) k) 15 1) ||| (gMean ((gDy π L (gRs L L.1) k) 1) ((gDy π L (gRs L L.1) k) 4 k) 12))) μ (gR f 7 s7) g) H18 := gSg_set h1 0 c19 oq
          refine lv_aload_n hx hb dX12_goesDay_63 rfl (lv_at hl 0 rfl) ?_
          refine g_get (v := .ref (b + 5)) (T := TX12) (ci := 12) (N := 45) hx hb hown hK (gY_X12 hT) rfl (h1 0 _ rfl) 6 (by decide) (hT _ gf_X12_24) rfl dX12_goesDay_64 ?_
          refine lv_iload_n hx hb dX12_goesDay_67 rfl (lv_at hl 2 rfl) ?_
          refine lv_iconst (v := 0) hx hb dX12_goesDay_68 (by decide) ?_
          refine g_is (j := k) hx hb hK hS (h1 5 _ rfl) rfl (by omega) (Nat.le_of_ble_eq_true rfl) (by omega) dX12_goesDay_69 (fun H20 locs c21 oq hS => ?_)
          have h1 : gSg G b (gLM G b (gU (gU (gDy π L (gRs L L.1) k) 15 1 (((gDy π L (gRs L L.1) k) 15 1) ||| (gMean ((gDy π L (gRs L L.1) k) 1) ((gDy π L (gRs L L.1) k) 4 k) 12))) 4 k 0) μ (gR f 7 s7) g) H20 := gSg_set h1 5 c21 oq
          refine lv_aload_n hx hb dX12_goesDay_70 rfl (lv_at hl 0 rfl) ?_
          refine g_get (v := .ref (b + 6)) (T := TX12) (ci := 12) (N := 45) hx hb hown hK (gY_X12 hT) rfl (h1 0 _ rfl) 7 (by decide) (hT _ gf_X12_27) rfl dX12_goesDay_71 ?_
          refine lv_iload_n hx hb dX12_goesDay_74 rfl (lv_at hl 2 rfl) ?_
          refine lv_bipush (v := 9) hx hb dX12_goesDay_75 (by decide) ?_
          refine lv_aload_n hx hb dX12_goesDay_77 rfl (lv_at hl 0 rfl) ?_
          refine g_get (v := .ref (b + 6)) (T := TX12) (ci := 12) (N := 45) hx hb hown hK (gY_X12 hT) rfl (h1 0 _ rfl) 7 (by decide) (hT _ gf_X12_27) rfl dX12_goesDay_78 ?_
          refine lv_iload_n hx hb dX12_goesDay_81 rfl (lv_at hl 2 rfl) ?_
          refine g_ia (j := k) (v := (gDy π L (gRs L L.1) k) 5 k) hx hb hK (h1 6 _ rfl) rfl (by omega) (Nat.le_of_ble_eq_true rfl) rfl dX12_goesDay_82 ?_
          refine lv_iconst (v := 2) hx hb dX12_goesDay_83 (by decide) ?_
          refine lv_iadd hx hb dX12_goesDay_84 ?_
          refine va_mmin hx hb (hml.trans hl.1.symm) hown (hT _ gm_X12_230) (hT _ gt_Lib_Math_min_name) (hT _ gn_java_lang_Math) (hT _ gc_Lib_Math_min_name) (Nat.le_of_ble_eq_true rfl) (Nat.le_of_ble_eq_true rfl) (Nat.zero_le _) (Nat.zero_le _) dX12_goesDay_85 ?_
          refine g_is (j := k) hx hb hK hS (h1 6 _ rfl) rfl (by omega) (Nat.le_of_ble_eq_true rfl) (by omega) dX12_goesDay_88 (fun H22 locs c23 oq hS => ?_)
          have h1 : gSg G b (gLM G b (gU (gU (gU (gDy π L (gRs L L.1) k) 15 1 (((gDy π L (gRs L L.1) k) 15 1) ||| (gMean ((gDy π L (gRs L L.1) k) 1) ((gDy π L (gRs L L.1) k) 4 k) 12))) 4 k 0) 5 k (if ((gDy π L (gRs L L.1) k) 5 k) + 2 < 9 then ((gDy π L (gRs L L.1) k) 5 k) + 2 else 9)) μ (gR f 7 s7) g) H22 := gSg_set h1 6 c23 oq
          refine lv_aload_n hx hb dX12_goesDay_89 rfl (lv_at hl 0 rfl) ?_
          refine g_get (v := .ref (b + 7)) (T := TX12) (ci := 12) (N := 45) hx hb hown hK (gY_X12 hT) rfl (h1 0 _ rfl) 8 (by decide) (hT _ gf_X12_30) rfl dX12_goesDay_90 ?_
          refine lv_iload_n hx hb dX12_goesDay_93 rfl (lv_at hl 2 rfl) ?_
          refine lv_dup2_11 hx hb dX12_goesDay_94 rfl rfl ?_
          refine g_ia (j := k) (v := (gDy π L (gRs L L.1) k) 6 k) hx hb hK (h1 7 _ rfl) rfl (by omega) (Nat.le_of_ble_eq_true rfl) rfl dX12_goesDay_95 ?_
          refine lv_iconst (v := 1) hx hb dX12_goesDay_96 (by decide) ?_
          refine lv_iadd hx hb dX12_goesDay_97 ?_
          refine g_is (j := k) hx hb hK hS (h1 7 _ rfl) rfl (by omega) (Nat.le_of_ble_eq_true rfl) (by omega) dX12_goesDay_98 (fun H24 locs c25 oq hS => ?_)
          have h1 : gSg G b (gLM G b (gU (gU (gU (gU (gDy π L (gRs L L.1) k) 15 1 (((gDy π L (gRs L L.1) k) 15 1) ||| (gMean ((gDy π L (gRs L L.1) k) 1) ((gDy π L (gRs L L.1) k) 4 k) 12))) 4 k 0) 5 k (if ((gDy π L (gRs L L.1) k) 5 k) + 2 < 9 then ((gDy π L (gRs L L.1) k) 5 k) + 2 else 9)) 6 k (((gDy π L (gRs L L.1) k) 6 k) + 1)) μ (gR f 7 s7) g) H24 := gSg_set h1 7 c25 oq
          refine lv_iinc (v := nI (k + 1)) (lv' := [(2, .int (nI (k + 1))), (0, .ref b), (1, .int (gRs L L.1))]) hx hb dX12_goesDay_99 hl (k := 2) rfl (gAdd rfl (show Int32.ofInt 1 = nI 1 from rfl)) (by decide) rfl (fun ls hl => ?_)
          refine lv_goto (tgt := 7) hx hb dX12_goesDay_102 (by decide) ?_
          rw [show gU (gU (gU (gU (gDy π L (gRs L L.1) k) 15 1 (((gDy π L (gRs L L.1) k) 15 1) ||| (gMean ((gDy π L (gRs L L.1) k) 1) ((gDy π L (gRs L L.1) k) 4 k) 12))) 4 k 0) 5 k (if ((gDy π L (gRs L L.1) k) 5 k) + 2 < 9 then ((gDy π L (gRs L L.1) k) 5 k) + 2 else 9)) 6 k (((gDy π L (gRs L L.1) k) 6 k) + 1) = gDy π L (gRs L L.1) (k + 1) from by rw [gDy, gDp, if_pos c13]] at h1
          exact ih (k + 1) (by omega) s7  _ _ h1 hS _ (by have hl := lv_sub hl [1, 2, 0] rfl; exact hl)
        · have c13 : ¬ (gFly (gDy π L (gRs L L.1) k) L k) := gB_0.mp c13
          refine lv_aload_n hx hb dX12_goesDay_23 rfl (lv_at hl 0 rfl) ?_
          refine g_get (v := .ref (b + 6)) (T := TX12) (ci := 12) (N := 45) hx hb hown hK (gY_X12 hT) rfl (h1 0 _ rfl) 7 (by decide) (hT _ gf_X12_27) rfl dX12_goesDay_24 ?_
          refine lv_iload_n hx hb dX12_goesDay_27 rfl (lv_at hl 2 rfl) ?_
          refine lv_iconst (v := 0) hx hb dX12_goesDay_28 (by decide) ?_
          refine lv_aload_n hx hb dX12_goesDay_29 rfl (lv_at hl 0 rfl) ?_
          refine g_get (v := .ref (b + 6)) (T := TX12) (ci := 12) (N := 45) hx hb hown hK (gY_X12 hT) rfl (h1 0 _ rfl) 7 (by decide) (hT _ gf_X12_27) rfl dX12_goesDay_30 ?_
          refine lv_iload_n hx hb dX12_goesDay_33 rfl (lv_at hl 2 rfl) ?_
          refine g_ia (j := k) (v := (gDy π L (gRs L L.1) k) 5 k) hx hb hK (h1 6 _ rfl) rfl (by omega) (Nat.le_of_ble_eq_true rfl) rfl dX12_goesDay_34 ?_
          refine lv_iload_n hx hb dX12_goesDay_35 rfl (lv_at hl 1 rfl) ?_
          refine lv_isub hx hb dX12_goesDay_36 ?_
          refine va_mmax hx hb (hml.trans hl.1.symm) hown (hT _ gm_X12_247) (hT _ gt_Lib_Math_max_name) (hT _ gn_java_lang_Math) (hT _ gc_Lib_Math_max_name) (Nat.le_of_ble_eq_true rfl) (Nat.le_of_ble_eq_true rfl) (Nat.zero_le _) (Nat.zero_le _) dX12_goesDay_37 ?_
          refine g_is (j := k) hx hb hK hS (h1 6 _ rfl) rfl (by omega) (Nat.le_of_ble_eq_true rfl) (by omega) dX12_goesDay_40 (fun H26 locs c27 oq hS => ?_)
          have h1 : gSg G b (gLM G b (gU (gDy π L (gRs L L.1) k) 5 k (if 0 < ((gDy π L (gRs L L.1) k) 5 k) - (gRs L L.1) then ((gDy π L (gRs L L.1) k) 5 k) - (gRs L L.1) else 0)) μ (gR f 7 s7) g) H26 := gSg_set h1 6 c27 oq
          refine lv_goto (tgt := 99) hx hb dX12_goesDay_41 (by decide) ?_
          refine lv_iinc (v := nI (k + 1)) (lv' := [(2, .int (nI (k + 1))), (0, .ref b), (1, .int (gRs L L.1))]) hx hb dX12_goesDay_99 hl (k := 2) rfl (gAdd rfl (show Int32.ofInt 1 = nI 1 from rfl)) (by decide) rfl (fun ls hl => ?_)
          refine lv_goto (tgt := 7) hx hb dX12_goesDay_102 (by decide) ?_
          rw [show gU (gDy π L (gRs L L.1) k) 5 k (if 0 < ((gDy π L (gRs L L.1) k) 5 k) - (gRs L L.1) then ((gDy π L (gRs L L.1) k) 5 k) - (gRs L L.1) else 0) = gDy π L (gRs L L.1) (k + 1) from by rw [gDy, gDp, if_neg c13]] at h1
          exact ih (k + 1) (by omega) s7  _ _ h1 hS _ (by have hl := lv_sub hl [1, 2, 0] rfl; exact hl)
  exact loop (n - 0) 0 (by first | omega | simp) s7 _ _ h1 hS _ (lv_sub hl [2, 1, 0] rfl)
