set_option maxHeartbeats 4000000 in
set_option maxRecDepth 100000 in
theorem c_X12_part (l : Launch) (G : gW) (a e : Int64) (q : Int32) (ha : -2147483648 ≤ a.toInt) (ha2 : a.toInt ≤ 2147483648) (he1 : 0 < e.toInt) (he2 : e.toInt ≤ 100) : gCL l yX12_part cX12_part 11 (gRm 1 24) G [.long a, .long e, .int q] (fun H => True) (fun r H => r = gPt a e q) (fun _ => False) := by
  refine g_start (by decide) (Nat.le_of_ble_eq_true rfl) ?_
  intro pp_ ee_ s mm_ aa_ below meth cc_ ls Q hQ hX hE hP hl
  obtain ⟨hx, hb, hr, hml, hown, hT, hlk, hnm⟩ := hX
  have hK := hE.2.1
  have hS : va_S (fun _ => False) s.heap s.heap [] := va_S.rf
  have hl : lv_has ls 11 [(0, .long a), (2, .long e), (4, .int q)] := hl
  refine lv_lload_n hx hb dX12_part_0 rfl (lv_at hl 0 rfl) ?_
  refine va_mabs_long hx hb (hml.trans hl.1.symm) hown (hT _ gm_X12_278) (hT _ gt_Lib_MathLoose_abs_long_x) (hT _ gn_java_lang_Math) (hT _ gc_Lib_MathLoose_abs_long_x) (Nat.le_of_ble_eq_true rfl) (Nat.le_of_ble_eq_true rfl) (Nat.zero_le _) (Nat.zero_le _) dX12_part_1 ?_
  rw [gAbs ha ha2]
  refine lv_lstore (lv' := [(5, .long (lN a.toInt.natAbs)), (0, .long a), (2, .long e), (4, .int q)]) hx hb dX12_part_4 hl (by decide) rfl (fun ls hl => ?_)
  refine lv_lload_n hx hb dX12_part_6 rfl (lv_at hl 2 rfl) ?_
  refine lv_lstore (lv' := [(7, .long e), (5, .long (lN a.toInt.natAbs)), (0, .long a), (2, .long e), (4, .int q)]) hx hb dX12_part_7 hl (by decide) rfl (fun ls hl => ?_)
  have ee : e = lN e.toInt.natAbs := lN_of (by omega) (by omega)
  have hl : lv_has ls 11 [(7, .long (lN e.toInt.natAbs)), (5, .long (lN a.toInt.natAbs)), (0, .long a), (2, .long e), (4, .int q)] := by rw [← ee]; exact hl
  have loop : ∀ (m X Y : Nat), Y < m → X < 4294967296 → Y < 4294967296 → 0 < X + Y → Nat.gcd X Y = Nat.gcd a.toInt.natAbs e.toInt.natAbs → ∀ ls, lv_has ls 11 [(0, .long a), (2, .long e), (4, .int q), (5, .long (lN X)), (7, .long (lN Y))] → W pp_ l ee_ (gRm 1 24) s mm_ aa_ below meth cc_ s.heap [] 0 0 Q (F0 mm_ 9 ls []) := by
    intro m
    induction m with
    | zero => intro X Y h; exact absurd h (by omega)
    | succ m ih =>
      intro X Y hm hX hY hXY hg ls hl
      refine lv_lload hx hb dX12_part_9 (lv_at hl 4 rfl) ?_
      refine lv_lconst (v := 0) hx hb dX12_part_11 (by decide) ?_
      refine W.lcmp hx hb dX12_part_12 ?_
      refine lv_if_eq (tgt := 34) hx hb dX12_part_13 (by decide) (fun c1 => ?_) (fun c1 => ?_)
      · rw [lg_cmp_eq] at c1
        have hY0 : Y = 0 := (pk_lEQ (a := Y) (b := 0) (by omega) (by omega)).mp c1
        subst hY0
        rw [Nat.gcd_zero_right] at hg
        have hXn : ¬ lN X = 0 := lN_ne0 (by omega) (by omega)
        refine lv_iload hx hb dX12_part_34 (lv_at hl 2 rfl) ?_
        refine lv_if_ne (tgt := 43) hx hb dX12_part_36 (by decide) (fun c2 => ?_) (fun c2 => ?_)
        · refine lv_lload_n hx hb dX12_part_43 rfl (lv_at hl 1 rfl) ?_
          refine lv_lload hx hb dX12_part_44 (lv_at hl 3 rfl) ?_
          refine lv_ldiv hx hb dX12_part_46 hXn ?_
          rw [← hQ]
          exact g_lret hx hb hr hlk hS dX12_part_47 (by rw [gPt, ← hg, if_neg c2])
        · refine lv_lload_n hx hb dX12_part_39 rfl (lv_at hl 0 rfl) ?_
          refine lv_goto (tgt := 44) hx hb dX12_part_40 (by decide) ?_
          refine lv_lload hx hb dX12_part_44 (lv_at hl 3 rfl) ?_
          refine lv_ldiv hx hb dX12_part_46 hXn ?_
          rw [← hQ]
          exact g_lret hx hb hr hlk hS dX12_part_47 (by rw [gPt, ← hg, if_pos c2])
      · rw [lg_cmp_eq] at c1
        have hY0 : 0 < Y := Nat.pos_of_ne_zero (fun z => c1 (by rw [z]; rfl))
        refine lv_lload hx hb dX12_part_16 (lv_at hl 3 rfl) ?_
        refine lv_lload hx hb dX12_part_18 (lv_at hl 4 rfl) ?_
        refine lv_lrem hx hb dX12_part_20 c1 ?_
        refine lv_lstore (lv' := [(9, .long ((lN X) - (lN X) / (lN Y) * (lN Y))), (0, .long a), (2, .long e), (4, .int q), (5, .long (lN X)), (7, .long (lN Y))]) hx hb dX12_part_21 hl (by decide) rfl (fun ls hl => ?_)
        refine lv_lload hx hb dX12_part_23 (lv_at hl 5 rfl) ?_
        refine lv_lstore (lv' := [(5, .long (lN Y)), (9, .long ((lN X) - (lN X) / (lN Y) * (lN Y))), (0, .long a), (2, .long e), (4, .int q), (7, .long (lN Y))]) hx hb dX12_part_25 hl (by decide) rfl (fun ls hl => ?_)
        refine lv_lload hx hb dX12_part_27 (lv_at hl 1 rfl) ?_
        refine lv_lstore (lv' := [(7, .long ((lN X) - (lN X) / (lN Y) * (lN Y))), (5, .long (lN Y)), (9, .long ((lN X) - (lN X) / (lN Y) * (lN Y))), (0, .long a), (2, .long e), (4, .int q)]) hx hb dX12_part_29 hl (by decide) rfl (fun ls hl => ?_)
        refine lv_goto (tgt := 9) hx hb dX12_part_31 (by decide) ?_
        have er : lN X - lN X / lN Y * lN Y = lN (X % Y) := pk_lRem (by omega) hY0 (by omega)
        exact ih Y (X % Y) (by have := Nat.mod_lt X hY0; omega) hY (by have := Nat.mod_lt X hY0; omega) (by omega) (by rw [← hg, Nat.gcd_comm X Y, Nat.gcd_rec Y X, Nat.gcd_comm]) _ (by have hl := lv_sub hl [3, 4, 5, 1, 0] rfl; rw [er] at hl; exact hl)
  exact loop (e.toInt.natAbs + 1) _ _ (by omega) (by omega) (by omega) (by omega) rfl _ (lv_sub hl [2, 3, 4, 1, 0] rfl)

set_option maxHeartbeats 4000000 in
set_option maxRecDepth 100000 in
theorem c_X12_joy (l : Launch) (G : gW) (b : Nat) (π μ f : gPS) (g : Nat → Int64) (n : Nat) (hz : π 15 0 = nI n) (hn : n ≤ 6) (L : gLf) (hh : gHold π f L) (p ws : Int32) : gCI l yX12_joy cX12_joy 3 .int (gRm 5 121) G [.ref b, .int p, .int ws] (fun H => gM7 G b π μ f g H) (fun r H => r = (if 0 ≤ p ∧ p < π 15 0 then (if 0 ≤ ws ∧ ws ≤ 4095 then gJoy π L p.toNatClampNeg ws else -10002) else -10001) ∧ gM7 G b π μ f g H) (fun q => b ≤ q ∧ q < b + 30) := by
  refine g_start (by decide) (Nat.le_of_ble_eq_true rfl) ?_
  intro pp_ ee_ s mm_ aa_ below meth cc_ ls Q hQ hX hE hP hl
  obtain ⟨hx, hb, hr, hml, hown, hT, hlk, hnm⟩ := hX
  have hK := hE.2.1
  obtain ⟨s7, h1⟩ := hP
  have hS : va_S (fun q => b ≤ q ∧ q < b + 30) s.heap s.heap [] := va_S.rf
  have hl : lv_has ls 3 [(0, .ref b), (1, .int p), (2, .int ws)] := hl
  refine lv_aload_n hx hb dX12_joy_0 rfl (lv_at hl 0 rfl) ?_
  refine lv_iload_n hx hb dX12_joy_1 rfl (lv_at hl 1 rfl) ?_
  refine g_ki (g_runV (T := TX12) (ci := 12) (N := 45) (rest := []) hx hb hml hown hE hT (c_X12_isOne l G b π μ (gR f 7 s7) g n hz (by omega) p) gM_X12_isOne gm_X12_112 gi_X12_isOne gs_RX12_yX12_isOne_yX12_isOne rfl (h1 0 _ rfl) h1 rfl hl.1 ⟨rfl, rfl⟩ ⟨Nat.le_of_ble_eq_true rfl, Nat.le_of_ble_eq_true rfl⟩ ⟨Nat.zero_le _, Nat.zero_le _⟩ rfl (Nat.le_of_ble_eq_true rfl) dX12_joy_2) hS (fun _ h => h.elim) (fun r4 H1 locs q2 k3 hS => ?_)
  subst q2
  have h1 := gSg_free h1 k3 (by intro k hk q; simp only [List.length_cons, List.length_nil] at hk; omega)
  refine lv_if_ne (tgt := 12) hx hb dX12_joy_5 (by decide) (fun c5 => ?_) (fun c5 => ?_)
  · have c5 : 0 ≤ p ∧ p < π 15 0 := gB_1.mp c5
    obtain ⟨k, hk, ek⟩ := gIx hz (by omega) c5
    subst ek
    refine lv_iload_n hx hb dX12_joy_12 rfl (lv_at hl 2 rfl) ?_
    refine g_ki (g_runS (rest := []) hx hb hml hown hE hT (c_X12_areWords l G ws) gM_X12_areWords gm_X12_123 gt_X12_areWords trivial rfl hl.1 ⟨rfl, rfl⟩ ⟨Nat.le_of_ble_eq_true rfl, Nat.le_of_ble_eq_true rfl⟩ ⟨Nat.zero_le _, Nat.zero_le _⟩ rfl (Nat.le_of_ble_eq_true rfl) dX12_joy_13) hS (fun _ h => h.elim) (fun r9 H6 locs q7 k8 hS => ?_)
    subst q7
    have h1 := gSg_free h1 k8 (by intro k hk q; simp only [List.length_cons, List.length_nil] at hk; omega)
    refine lv_if_eq (tgt := 28) hx hb dX12_joy_16 (by decide) (fun c10 => ?_) (fun c10 => ?_)
    · have c10 : ¬ (0 ≤ ws ∧ ws ≤ 4095) := gB_0.mp c10
      refine lv_sipush (v := (-10002)) hx hb dX12_joy_28 (by decide) ?_
      rw [← hQ]
      exact g_iret hx hb hr hlk hS dX12_joy_31 ⟨by simp only [if_pos c5, if_neg c10, nI_clamp (show k < 2 ^ 31 by omega)], s7, h1⟩
    · have c10 : 0 ≤ ws ∧ ws ≤ 4095 := gB_1.mp c10
      refine lv_aload_n hx hb dX12_joy_19 rfl (lv_at hl 0 rfl) ?_
      refine lv_iload_n hx hb dX12_joy_20 rfl (lv_at hl 1 rfl) ?_
      refine lv_iload_n hx hb dX12_joy_21 rfl (lv_at hl 2 rfl) ?_
      refine g_ki (g_runV (T := TX12) (ci := 12) (N := 45) (rest := []) hx hb hml hown hE hT (c_X12_joyOf l G b π μ f g k (by omega) ws L hh) gM_X12_joyOf gm_X12_126 gi_X12_joyOf gs_RX12_yX12_joyOf_yX12_joyOf rfl (h1 0 _ rfl) ⟨s7, h1⟩ rfl hl.1 ⟨rfl, rfl⟩ ⟨Nat.le_of_ble_eq_true rfl, Nat.le_of_ble_eq_true rfl⟩ ⟨Nat.zero_le _, Nat.zero_le _⟩ rfl (Nat.le_of_ble_eq_true rfl) dX12_joy_22) hS (by intro q hq; omega) (fun r14 H11 locs q12 k13 hS => ?_)
      obtain ⟨rfl, s7, h1⟩ := q12
      refine lv_goto (tgt := 31) hx hb dX12_joy_25 (by decide) ?_
      rw [← hQ]
      exact g_iret hx hb hr hlk hS dX12_joy_31 ⟨by simp only [if_pos c5, if_pos c10, nI_clamp (show k < 2 ^ 31 by omega)], s7, h1⟩
  · have c5 : ¬ (0 ≤ p ∧ p < π 15 0) := gB_0.mp c5
    refine lv_sipush (v := (-10001)) hx hb dX12_joy_8 (by decide) ?_
    rw [← hQ]
    exact g_iret hx hb hr hlk hS dX12_joy_11 ⟨by simp only [if_neg c5], s7, h1⟩
