set_option maxHeartbeats 4000000 in
set_option maxRecDepth 100000 in
theorem c_X12_on (l : Launch) (G : gW) (b : Nat) (π μ f : gPS) (g : Nat → Int64) (n : Nat) (hz : π 15 0 = nI n) (hn : n ≤ 6) (L : gLf) (hh : gHold π f L) (m wh : Int32) : gCI l yX12_on cX12_on 4 .int (gRm 7 164) G [.ref b, .int m, .int wh] (fun H => gMA G b π μ f g H) (fun r H => r = gqOn π L n m wh ∧ gMA G b π μ f g H) (fun q => b ≤ q ∧ q < b + 30) := by
  refine g_start (by decide) (Nat.le_of_ble_eq_true rfl) ?_
  intro pp_ ee_ s mm_ aa_ below meth cc_ ls Q hQ hX hE hP hl
  obtain ⟨hx, hb, hr, hml, hown, hT, hlk, hnm⟩ := hX
  have hK := hE.2.1
  obtain ⟨sA, s7, h1⟩ := hP
  have hS : va_S (fun q => b ≤ q ∧ q < b + 30) s.heap s.heap [] := va_S.rf
  have hl : lv_has ls 4 [(0, .ref b), (1, .int m), (2, .int wh)] := hl
  refine lv_iload_n hx hb dX12_on_0 rfl (lv_at hl 2 rfl) ?_
  refine lv_if_eq (tgt := 28) hx hb dX12_on_1 (by decide) (fun c1 => ?_) (fun c1 => ?_)
  · refine lv_iload_n hx hb dX12_on_28 rfl (lv_at hl 1 rfl) ?_
    refine lv_iconst (v := 0) hx hb dX12_on_29 (by decide) ?_
    refine lv_bipush (v := 60) hx hb dX12_on_30 (by decide) ?_
    refine g_ki (g_runS (rest := []) hx hb hml hown hE hT (c_X12_within l G m 0 60) gM_X12_within gm_X12_108 gt_X12_within trivial rfl hl.1 ⟨rfl, rfl⟩ ⟨Nat.le_of_ble_eq_true rfl, Nat.le_of_ble_eq_true rfl⟩ ⟨Nat.zero_le _, Nat.zero_le _⟩ rfl (Nat.le_of_ble_eq_true rfl) dX12_on_32) hS (fun _ h => h.elim) (fun r5 H2 locs q3 k4 hS => ?_)
    subst q3
    have h1 := gSg_free h1 k4 (by intro k hk q; simp only [List.length_cons, List.length_nil] at hk; omega)
    refine lv_if_ne (tgt := 41) hx hb dX12_on_35 (by decide) (fun c6 => ?_) (fun c6 => ?_)
    · have c6 : 0 ≤ m ∧ m ≤ 60 := gB_1.mp c6
      obtain ⟨d, hd, ed⟩ := gIw (M := 60) (n := 60) rfl (by decide) c6
      subst ed
      refine lv_aload_n hx hb dX12_on_41 rfl (lv_at hl 0 rfl) ?_
      refine lv_aload_n hx hb dX12_on_42 rfl (lv_at hl 0 rfl) ?_
      refine g_get (v := .ref (b + 26)) (T := TX12) (ci := 12) (N := 45) hx hb hown hK (gY_X12 hT) rfl (h1 0 _ rfl) 41 (by decide) (hT _ gf_X12_88) rfl dX12_on_43 ?_
      refine g_kv (g_runV (T := TX12) (ci := 12) (N := 45) (rest := []) hx hb hml hown hE hT (c_X12_keep_10 l G b π μ (gR (gR f 10 sA) 7 s7) g) gM_X12_keep gm_X12_265 gi_X12_keep gs_RX12_yX12_keep_yX12_keep rfl (h1 0 _ rfl) h1 rfl hl.1 ⟨rfl, rfl⟩ ⟨Nat.le_of_ble_eq_true rfl, Nat.le_of_ble_eq_true rfl⟩ ⟨Nat.zero_le _, Nat.zero_le _⟩ rfl (Nat.le_of_ble_eq_true rfl) dX12_on_46) hS (by intro q hq; omega) (fun H7 locs q8 k9 hS => ?_)
      have h1 := q8
      generalize hGE : gEn π = E9 at h1
      have hEn : gAgr (fun j => j < 136) E9 (gEn π) := fun j _ => by rw [hGE]
      have h1 : gSg G b (gLM G b π μ (gR (gR f 10 E9) 7 s7) g) H7 := h1
      refine lv_iconst (v := 0) hx hb dX12_on_49 (by decide) ?_
      refine lv_istore_n (lv' := [(3, .int 0), (0, .ref b), (1, .int (nI d)), (2, .int wh)]) hx hb dX12_on_50 rfl hl (by decide) rfl (fun ls hl => ?_)
      have loop : ∀ (dd k : Nat), k + dd = d → ∀ (s7 : Nat → Int32), ∀ (H : Heap) (locs : List Loc), gSg G b (gLM G b (gDs π L n k) μ (gR (gR f 10 E9) 7 s7) g) H → va_S (fun q => b ≤ q ∧ q < b + 30) s.heap H locs → ∀ ls, lv_has ls 4 [(0, .ref b), (1, .int (nI d)), (2, .int wh), (3, .int (nI k))] → W pp_ l ee_ (gRm 7 164) s mm_ aa_ below meth cc_ H locs 0 0 Q (F0 mm_ 51 ls []) := by
        intro dd
        induction dd with
        | zero =>
          intro k hk s7  H locs h1 hS ls hl
          have hk : k = d := by omega
          refine lv_iload_n hx hb dX12_on_51 rfl (lv_at hl 3 rfl) ?_
          refine lv_iload_n hx hb dX12_on_52 rfl (lv_at hl 1 rfl) ?_
          refine lv_icmp_ge (tgt := 66) hx hb dX12_on_53 (by decide) (fun c11 => ?_) (fun c11 => ?_)
          · have c11 : d ≤ k := (gLe (a := d) (b := k) rfl rfl (by omega) (by omega)).mp c11
            rw [hk] at h1
            refine lv_iload_n hx hb dX12_on_66 rfl (lv_at hl 2 rfl) ?_
            refine lv_if_ne (tgt := 77) hx hb dX12_on_67 (by decide) (fun c12 => ?_) (fun c12 => ?_)
            · exact absurd c1 c12
            · refine lv_aload_n hx hb dX12_on_70 rfl (lv_at hl 0 rfl) ?_
              refine g_get (v := .int ((gDs π L n d) 15 1)) (T := TX12) (ci := 12) (N := 45) hx hb hown hK (gY_X12 hT) rfl (h1 0 _ rfl) 2 (by decide) (hT _ gf_X12_241) rfl dX12_on_71 ?_
              refine lv_goto (tgt := 104) hx hb dX12_on_74 (by decide) ?_
              refine lv_istore_n (lv' := [(3, .int ((gDs π L n d) 15 1)), (0, .ref b), (1, .int (nI d)), (2, .int wh)]) hx hb dX12_on_104 rfl hl (by decide) rfl (fun ls hl => ?_)
              refine lv_aload_n hx hb dX12_on_105 rfl (lv_at hl 1 rfl) ?_
              refine lv_aload_n hx hb dX12_on_106 rfl (lv_at hl 1 rfl) ?_
              refine g_get (v := .ref (b + 26)) (T := TX12) (ci := 12) (N := 45) hx hb hown hK (gY_X12 hT) rfl (h1 0 _ rfl) 41 (by decide) (hT _ gf_X12_88) rfl dX12_on_107 ?_
              refine g_kv (g_runV (T := TX12) (ci := 12) (N := 45) (rest := []) hx hb hml hown hE hT (c_X12_again_10 l G b (gDs π L n d) μ (gR (gR f 10 E9) 7 s7) g π hEn) gM_X12_again gm_X12_269 gi_X12_again gs_RX12_yX12_again_yX12_again rfl (h1 0 _ rfl) h1 rfl hl.1 ⟨rfl, rfl⟩ ⟨Nat.le_of_ble_eq_true rfl, Nat.le_of_ble_eq_true rfl⟩ ⟨Nat.zero_le _, Nat.zero_le _⟩ rfl (Nat.le_of_ble_eq_true rfl) dX12_on_110) hS (by intro q hq; omega) (fun H13 locs q14 k15 hS => ?_)
              have h1 := q14
              refine lv_iload_n hx hb dX12_on_113 rfl (lv_at hl 0 rfl) ?_
              rw [← hQ]
              exact g_iret hx hb hr hlk hS dX12_on_114 ⟨by rw [gqOn, if_neg (fun z => z.1 c1), if_pos c6, if_pos c1, nI_clamp (show d < 2 ^ 31 by omega)], E9, s7, h1⟩
          · have c11 : ¬ d ≤ k := fun z => c11 ((gLe (a := d) (b := k) rfl rfl (by omega) (by omega)).mpr z)
            exact absurd c11 (by omega)
        | succ dd ih =>
          intro k hk s7  H locs h1 hS ls hl
          refine lv_iload_n hx hb dX12_on_51 rfl (lv_at hl 3 rfl) ?_
          refine lv_iload_n hx hb dX12_on_52 rfl (lv_at hl 1 rfl) ?_
          refine lv_icmp_ge (tgt := 66) hx hb dX12_on_53 (by decide) (fun c17 => ?_) (fun c17 => ?_)
          · have c17 : d ≤ k := (gLe (a := d) (b := k) rfl rfl (by omega) (by omega)).mp c17
            exact absurd c17 (by omega)
          · have c17 : ¬ d ≤ k := fun z => c17 ((gLe (a := d) (b := k) rfl rfl (by omega) (by omega)).mpr z)
            refine lv_aload_n hx hb dX12_on_56 rfl (lv_at hl 0 rfl) ?_
            refine g_kv (g_runV (T := TX12) (ci := 12) (N := 45) (rest := []) hx hb hml hown hE hT (c_X12_goesDay l G b (gDs π L n k) μ (gR f 10 E9) g n ((gDs_15 (by decide) (by decide) k).trans hz) hn L (gHold_10 (gHold_eq hh (gDs_15 (by decide) (by decide) k)))) gM_X12_goesDay gm_X12_262 gi_X12_goesDay gs_RX12_yX12_goesDay_yX12_goesDay rfl (h1 0 _ rfl) ⟨s7, h1⟩ rfl hl.1 ⟨rfl, rfl⟩ ⟨Nat.le_of_ble_eq_true rfl, Nat.le_of_ble_eq_true rfl⟩ ⟨Nat.zero_le _, Nat.zero_le _⟩ rfl (Nat.le_of_ble_eq_true rfl) dX12_on_57) hS (by intro q hq; omega) (fun H18 locs q19 k20 hS => ?_)
            obtain ⟨s7, h1⟩ := q19
            have h1 : gSg G b (gLM G b (gDs π L n (k + 1)) μ (gR (gR f 10 E9) 7 s7) g) H18 := h1
            refine lv_iinc (v := nI (k + 1)) (lv' := [(3, .int (nI (k + 1))), (0, .ref b), (1, .int (nI d)), (2, .int wh)]) hx hb dX12_on_60 hl (k := 3) rfl (gAdd rfl (show Int32.ofInt 1 = nI 1 from rfl)) (by decide) rfl (fun ls hl => ?_)
            refine lv_goto (tgt := 51) hx hb dX12_on_63 (by decide) ?_
            exact ih (k + 1) (by omega) s7  _ _ h1 hS _ (by have hl := lv_sub hl [1, 2, 3, 0] rfl; exact hl)
      exact loop (d - 0) 0 (by first | omega | simp) s7 _ _ h1 hS _ (lv_sub hl [1, 2, 3, 0] rfl)
    · have c6 : ¬ (0 ≤ m ∧ m ≤ 60) := gB_0.mp c6
      refine lv_bipush (v := (-2)) hx hb dX12_on_38 (by decide) ?_
      rw [← hQ]
      exact g_iret hx hb hr hlk hS dX12_on_40 ⟨by rw [gqOn, if_neg (fun z => z.1 c1), if_neg c6], sA, s7, h1⟩
  · refine lv_aload_n hx hb dX12_on_4 rfl (lv_at hl 0 rfl) ?_
    refine lv_iload_n hx hb dX12_on_5 rfl (lv_at hl 2 rfl) ?_
    refine lv_bipush (v := 10) hx hb dX12_on_6 (by decide) ?_
    refine lv_isub hx hb dX12_on_8 ?_
    refine g_ki (g_runV (T := TX12) (ci := 12) (N := 45) (rest := []) hx hb hml hown hE hT (c_X12_isOne l G b π μ (gR (gR f 10 sA) 7 s7) g n hz (by omega) (wh - 10)) gM_X12_isOne gm_X12_112 gi_X12_isOne gs_RX12_yX12_isOne_yX12_isOne rfl (h1 0 _ rfl) h1 rfl hl.1 ⟨rfl, rfl⟩ ⟨Nat.le_of_ble_eq_true rfl, Nat.le_of_ble_eq_true rfl⟩ ⟨Nat.zero_le _, Nat.zero_le _⟩ rfl (Nat.le_of_ble_eq_true rfl) dX12_on_9) hS (fun _ h => h.elim) (fun r25 H22 locs q23 k24 hS => ?_)
    subst q23
    have h1 := gSg_free h1 k24 (by intro k hk q; simp only [List.length_cons, List.length_nil] at hk; omega)
    refine lv_if_ne (tgt := 28) hx hb dX12_on_12 (by decide) (fun c26 => ?_) (fun c26 => ?_)
    · have c26 : 0 ≤ wh - 10 ∧ wh - 10 < π 15 0 := gB_1.mp c26
      obtain ⟨q, hq, eq⟩ := gBk10 hz (by omega) c26
      subst eq
      refine lv_iload_n hx hb dX12_on_28 rfl (lv_at hl 1 rfl) ?_
      refine lv_iconst (v := 0) hx hb dX12_on_29 (by decide) ?_
      refine lv_bipush (v := 60) hx hb dX12_on_30 (by decide) ?_
      refine g_ki (g_runS (rest := []) hx hb hml hown hE hT (c_X12_within l G m 0 60) gM_X12_within gm_X12_108 gt_X12_within trivial rfl hl.1 ⟨rfl, rfl⟩ ⟨Nat.le_of_ble_eq_true rfl, Nat.le_of_ble_eq_true rfl⟩ ⟨Nat.zero_le _, Nat.zero_le _⟩ rfl (Nat.le_of_ble_eq_true rfl) dX12_on_32) hS (fun _ h => h.elim) (fun r30 H27 locs q28 k29 hS => ?_)
      subst q28
      have h1 := gSg_free h1 k29 (by intro k hk q; simp only [List.length_cons, List.length_nil] at hk; omega)
      refine lv_if_ne (tgt := 41) hx hb dX12_on_35 (by decide) (fun c31 => ?_) (fun c31 => ?_)
      · have c31 : 0 ≤ m ∧ m ≤ 60 := gB_1.mp c31
        obtain ⟨d, hd, ed⟩ := gIw (M := 60) (n := 60) rfl (by decide) c31
        subst ed
        refine lv_aload_n hx hb dX12_on_41 rfl (lv_at hl 0 rfl) ?_
        refine lv_aload_n hx hb dX12_on_42 rfl (lv_at hl 0 rfl) ?_
        refine g_get (v := .ref (b + 26)) (T := TX12) (ci := 12) (N := 45) hx hb hown hK (gY_X12 hT) rfl (h1 0 _ rfl) 41 (by decide) (hT _ gf_X12_88) rfl dX12_on_43 ?_
        refine g_kv (g_runV (T := TX12) (ci := 12) (N := 45) (rest := []) hx hb hml hown hE hT (c_X12_keep_10 l G b π μ (gR (gR f 10 sA) 7 s7) g) gM_X12_keep gm_X12_265 gi_X12_keep gs_RX12_yX12_keep_yX12_keep rfl (h1 0 _ rfl) h1 rfl hl.1 ⟨rfl, rfl⟩ ⟨Nat.le_of_ble_eq_true rfl, Nat.le_of_ble_eq_true rfl⟩ ⟨Nat.zero_le _, Nat.zero_le _⟩ rfl (Nat.le_of_ble_eq_true rfl) dX12_on_46) hS (by intro q hq; omega) (fun H32 locs q33 k34 hS => ?_)
        have h1 := q33
        generalize hGE : gEn π = E9 at h1
        have hEn : gAgr (fun j => j < 136) E9 (gEn π) := fun j _ => by rw [hGE]
        have h1 : gSg G b (gLM G b π μ (gR (gR f 10 E9) 7 s7) g) H32 := h1
        refine lv_iconst (v := 0) hx hb dX12_on_49 (by decide) ?_
        refine lv_istore_n (lv' := [(3, .int 0), (0, .ref b), (1, .int (nI d)), (2, .int (nI (q + 10)))]) hx hb dX12_on_50 rfl hl (by decide) rfl (fun ls hl => ?_)
        have loop : ∀ (dd k : Nat), k + dd = d → ∀ (s7 : Nat → Int32), ∀ (H : Heap) (locs : List Loc), gSg G b (gLM G b (gDs π L n k) μ (gR (gR f 10 E9) 7 s7) g) H → va_S (fun q => b ≤ q ∧ q < b + 30) s.heap H locs → ∀ ls, lv_has ls 4 [(0, .ref b), (1, .int (nI d)), (2, .int (nI (q + 10))), (3, .int (nI k))] → W pp_ l ee_ (gRm 7 164) s mm_ aa_ below meth cc_ H locs 0 0 Q (F0 mm_ 51 ls []) := by
          intro dd
          induction dd with
          | zero =>
            intro k hk s7  H locs h1 hS ls hl
            have hk : k = d := by omega
            refine lv_iload_n hx hb dX12_on_51 rfl (lv_at hl 3 rfl) ?_
            refine lv_iload_n hx hb dX12_on_52 rfl (lv_at hl 1 rfl) ?_
            refine lv_icmp_ge (tgt := 66) hx hb dX12_on_53 (by decide) (fun c36 => ?_) (fun c36 => ?_)
            · have c36 : d ≤ k := (gLe (a := d) (b := k) rfl rfl (by omega) (by omega)).mp c36
              rw [hk] at h1
              refine lv_iload_n hx hb dX12_on_66 rfl (lv_at hl 2 rfl) ?_
              refine lv_if_ne (tgt := 77) hx hb dX12_on_67 (by decide) (fun c37 => ?_) (fun c37 => ?_)
              · have c37 : ¬ (q + 10) = 0 := fun z => c37 ((gEq (a := q + 10) (b := 0) rfl rfl (by omega) (by omega)).mpr z)
                refine lv_iload_n hx hb dX12_on_77 rfl (lv_at hl 2 rfl) ?_
                refine lv_bipush (v := 20) hx hb dX12_on_78 (by decide) ?_
                refine lv_icmp_ge (tgt := 95) hx hb dX12_on_80 (by decide) (fun c38 => ?_) (fun c38 => ?_)
                · have c38 : 20 ≤ (q + 10) := (gLe (a := 20) (b := q + 10) rfl rfl (by omega) (by omega)).mp c38
                  exact absurd c38 (by omega)
                · have c38 : ¬ 20 ≤ (q + 10) := fun z => c38 ((gLe (a := 20) (b := q + 10) rfl rfl (by omega) (by omega)).mpr z)
                  refine lv_aload_n hx hb dX12_on_83 rfl (lv_at hl 0 rfl) ?_
                  refine g_get (v := .ref (b + 6)) (T := TX12) (ci := 12) (N := 45) hx hb hown hK (gY_X12 hT) rfl (h1 0 _ rfl) 7 (by decide) (hT _ gf_X12_27) rfl dX12_on_84 ?_
                  refine lv_iload_n hx hb dX12_on_87 rfl (lv_at hl 2 rfl) ?_
                  refine lv_bipush (v := 10) hx hb dX12_on_88 (by decide) ?_
                  refine lv_isub hx hb dX12_on_90 ?_
                  refine g_ia (j := (q + 10) - 10) (v := (gDs π L n d) 5 ((q + 10) - 10)) hx hb hK (h1 6 _ rfl) (gSub rfl rfl (by omega)) (by omega) (Nat.le_of_ble_eq_true rfl) rfl dX12_on_91 ?_
                  refine lv_goto (tgt := 104) hx hb dX12_on_92 (by decide) ?_
                  refine lv_istore_n (lv' := [(3, .int ((gDs π L n d) 5 ((q + 10) - 10))), (0, .ref b), (1, .int (nI d)), (2, .int (nI (q + 10)))]) hx hb dX12_on_104 rfl hl (by decide) rfl (fun ls hl => ?_)
                  refine lv_aload_n hx hb dX12_on_105 rfl (lv_at hl 1 rfl) ?_
                  refine lv_aload_n hx hb dX12_on_106 rfl (lv_at hl 1 rfl) ?_
                  refine g_get (v := .ref (b + 26)) (T := TX12) (ci := 12) (N := 45) hx hb hown hK (gY_X12 hT) rfl (h1 0 _ rfl) 41 (by decide) (hT _ gf_X12_88) rfl dX12_on_107 ?_
                  refine g_kv (g_runV (T := TX12) (ci := 12) (N := 45) (rest := []) hx hb hml hown hE hT (c_X12_again_10 l G b (gDs π L n d) μ (gR (gR f 10 E9) 7 s7) g π hEn) gM_X12_again gm_X12_269 gi_X12_again gs_RX12_yX12_again_yX12_again rfl (h1 0 _ rfl) h1 rfl hl.1 ⟨rfl, rfl⟩ ⟨Nat.le_of_ble_eq_true rfl, Nat.le_of_ble_eq_true rfl⟩ ⟨Nat.zero_le _, Nat.zero_le _⟩ rfl (Nat.le_of_ble_eq_true rfl) dX12_on_110) hS (by intro q hq; omega) (fun H39 locs q40 k41 hS => ?_)
                  have h1 := q40
                  refine lv_iload_n hx hb dX12_on_113 rfl (lv_at hl 0 rfl) ?_
                  rw [← hQ]
                  exact g_iret hx hb hr hlk hS dX12_on_114 ⟨by rw [gqOn, if_neg (fun z => z.2.1 c26), if_pos c31, if_neg c1, if_pos (show nI (q + 10) < 20 from (gLt (a := q + 10) (b := 20) rfl rfl (by omega) (by omega)).mpr (by omega)), gSub (x := nI (q + 10)) (y := 10) (a := q + 10) (b := 10) rfl rfl (by omega), nI_clamp (show q + 10 - 10 < 2 ^ 31 by omega), nI_clamp (show d < 2 ^ 31 by omega)], E9, s7, h1⟩
              · have c37 : (q + 10) = 0 := (gEq (a := q + 10) (b := 0) rfl rfl (by omega) (by omega)).mp c37
                exact absurd c37 (by omega)
            · have c36 : ¬ d ≤ k := fun z => c36 ((gLe (a := d) (b := k) rfl rfl (by omega) (by omega)).mpr z)
              exact absurd c36 (by omega)
          | succ dd ih =>
            intro k hk s7  H locs h1 hS ls hl
            refine lv_iload_n hx hb dX12_on_51 rfl (lv_at hl 3 rfl) ?_
            refine lv_iload_n hx hb dX12_on_52 rfl (lv_at hl 1 rfl) ?_
            refine lv_icmp_ge (tgt := 66) hx hb dX12_on_53 (by decide) (fun c43 => ?_) (fun c43 => ?_)
            · have c43 : d ≤ k := (gLe (a := d) (b := k) rfl rfl (by omega) (by omega)).mp c43
              exact absurd c43 (by omega)
            · have c43 : ¬ d ≤ k := fun z => c43 ((gLe (a := d) (b := k) rfl rfl (by omega) (by omega)).mpr z)
              refine lv_aload_n hx hb dX12_on_56 rfl (lv_at hl 0 rfl) ?_
              refine g_kv (g_runV (T := TX12) (ci := 12) (N := 45) (rest := []) hx hb hml hown hE hT (c_X12_goesDay l G b (gDs π L n k) μ (gR f 10 E9) g n ((gDs_15 (by decide) (by decide) k).trans hz) hn L (gHold_10 (gHold_eq hh (gDs_15 (by decide) (by decide) k)))) gM_X12_goesDay gm_X12_262 gi_X12_goesDay gs_RX12_yX12_goesDay_yX12_goesDay rfl (h1 0 _ rfl) ⟨s7, h1⟩ rfl hl.1 ⟨rfl, rfl⟩ ⟨Nat.le_of_ble_eq_true rfl, Nat.le_of_ble_eq_true rfl⟩ ⟨Nat.zero_le _, Nat.zero_le _⟩ rfl (Nat.le_of_ble_eq_true rfl) dX12_on_57) hS (by intro q hq; omega) (fun H44 locs q45 k46 hS => ?_)
              obtain ⟨s7, h1⟩ := q45
              have h1 : gSg G b (gLM G b (gDs π L n (k + 1)) μ (gR (gR f 10 E9) 7 s7) g) H44 := h1
              refine lv_iinc (v := nI (k + 1)) (lv' := [(3, .int (nI (k + 1))), (0, .ref b), (1, .int (nI d)), (2, .int (nI (q + 10)))]) hx hb dX12_on_60 hl (k := 3) rfl (gAdd rfl (show Int32.ofInt 1 = nI 1 from rfl)) (by decide) rfl (fun ls hl => ?_)
              refine lv_goto (tgt := 51) hx hb dX12_on_63 (by decide) ?_
              exact ih (k + 1) (by omega) s7  _ _ h1 hS _ (by have hl := lv_sub hl [1, 2, 3, 0] rfl; exact hl)
        exact loop (d - 0) 0 (by first | omega | simp) s7 _ _ h1 hS _ (lv_sub hl [1, 2, 3, 0] rfl)
      · have c31 : ¬ (0 ≤ m ∧ m ≤ 60) := gB_0.mp c31
        refine lv_bipush (v := (-2)) hx hb dX12_on_38 (by decide) ?_
        rw [← hQ]
        exact g_iret hx hb hr hlk hS dX12_on_40 ⟨by rw [gqOn, if_neg (fun z => z.2.1 c26), if_neg c31], sA, s7, h1⟩
    · have c26 : ¬ (0 ≤ wh - 10 ∧ wh - 10 < π 15 0) := gB_0.mp c26
      refine lv_aload_n hx hb dX12_on_15 rfl (lv_at hl 0 rfl) ?_
      refine lv_iload_n hx hb dX12_on_16 rfl (lv_at hl 2 rfl) ?_
      refine lv_bipush (v := 20) hx hb dX12_on_17 (by decide) ?_
      refine lv_isub hx hb dX12_on_19 ?_
      refine g_ki (g_runV (T := TX12) (ci := 12) (N := 45) (rest := []) hx hb hml hown hE hT (c_X12_isOne l G b π μ (gR (gR f 10 sA) 7 s7) g n hz (by omega) (wh - 20)) gM_X12_isOne gm_X12_112 gi_X12_isOne gs_RX12_yX12_isOne_yX12_isOne rfl (h1 0 _ rfl) h1 rfl hl.1 ⟨rfl, rfl⟩ ⟨Nat.le_of_ble_eq_true rfl, Nat.le_of_ble_eq_true rfl⟩ ⟨Nat.zero_le _, Nat.zero_le _⟩ rfl (Nat.le_of_ble_eq_true rfl) dX12_on_20) hS (fun _ h => h.elim) (fun r51 H48 locs q49 k50 hS => ?_)
      subst q49
      have h1 := gSg_free h1 k50 (by intro k hk q; simp only [List.length_cons, List.length_nil] at hk; omega)
      refine lv_if_ne (tgt := 28) hx hb dX12_on_23 (by decide) (fun c52 => ?_) (fun c52 => ?_)
      · have c52 : 0 ≤ wh - 20 ∧ wh - 20 < π 15 0 := gB_1.mp c52
        obtain ⟨q, hq, eq⟩ := gBk20 hz (by omega) c52
        subst eq
        refine lv_iload_n hx hb dX12_on_28 rfl (lv_at hl 1 rfl) ?_
        refine lv_iconst (v := 0) hx hb dX12_on_29 (by decide) ?_
        refine lv_bipush (v := 60) hx hb dX12_on_30 (by decide) ?_
        refine g_ki (g_runS (rest := []) hx hb hml hown hE hT (c_X12_within l G m 0 60) gM_X12_within gm_X12_108 gt_X12_within trivial rfl hl.1 ⟨rfl, rfl⟩ ⟨Nat.le_of_ble_eq_true rfl, Nat.le_of_ble_eq_true rfl⟩ ⟨Nat.zero_le _, Nat.zero_le _⟩ rfl (Nat.le_of_ble_eq_true rfl) dX12_on_32) hS (fun _ h => h.elim) (fun r56 H53 locs q54 k55 hS => ?_)
        subst q54
        have h1 := gSg_free h1 k55 (by intro k hk q; simp only [List.length_cons, List.length_nil] at hk; omega)
        refine lv_if_ne (tgt := 41) hx hb dX12_on_35 (by decide) (fun c57 => ?_) (fun c57 => ?_)
        · have c57 : 0 ≤ m ∧ m ≤ 60 := gB_1.mp c57
          obtain ⟨d, hd, ed⟩ := gIw (M := 60) (n := 60) rfl (by decide) c57
          subst ed
          refine lv_aload_n hx hb dX12_on_41 rfl (lv_at hl 0 rfl) ?_
          refine lv_aload_n hx hb dX12_on_42 rfl (lv_at hl 0 rfl) ?_
          refine g_get (v := .ref (b + 26)) (T := TX12) (ci := 12) (N := 45) hx hb hown hK (gY_X12 hT) rfl (h1 0 _ rfl) 41 (by decide) (hT _ gf_X12_88) rfl dX12_on_43 ?_
          refine g_kv (g_runV (T := TX12) (ci := 12) (N := 45) (rest := []) hx hb hml hown hE hT (c_X12_keep_10 l G b π μ (gR (gR f 10 sA) 7 s7) g) gM_X12_keep gm_X12_265 gi_X12_keep gs_RX12_yX12_keep_yX12_keep rfl (h1 0 _ rfl) h1 rfl hl.1 ⟨rfl, rfl⟩ ⟨Nat.le_of_ble_eq_true rfl, Nat.le_of_ble_eq_true rfl⟩ ⟨Nat.zero_le _, Nat.zero_le _⟩ rfl (Nat.le_of_ble_eq_true rfl) dX12_on_46) hS (by intro q hq; omega) (fun H58 locs q59 k60 hS => ?_)
          have h1 := q59
          generalize hGE : gEn π = E9 at h1
          have hEn : gAgr (fun j => j < 136) E9 (gEn π) := fun j _ => by rw [hGE]
          have h1 : gSg G b (gLM G b π μ (gR (gR f 10 E9) 7 s7) g) H58 := h1
          refine lv_iconst (v := 0) hx hb dX12_on_49 (by decide) ?_
          refine lv_istore_n (lv' := [(3, .int 0), (0, .ref b), (1, .int (nI d)), (2, .int (nI (q + 20)))]) hx hb dX12_on_50 rfl hl (by decide) rfl (fun ls hl => ?_)
          have loop : ∀ (dd k : Nat), k + dd = d → ∀ (s7 : Nat → Int32), ∀ (H : Heap) (locs : List Loc), gSg G b (gLM G b (gDs π L n k) μ (gR (gR f 10 E9) 7 s7) g) H → va_S (fun q => b ≤ q ∧ q < b + 30) s.heap H locs → ∀ ls, lv_has ls 4 [(0, .ref b), (1, .int (nI d)), (2, .int (nI (q + 20))), (3, .int (nI k))] → W pp_ l ee_ (gRm 7 164) s mm_ aa_ below meth cc_ H locs 0 0 Q (F0 mm_ 51 ls []) := by
            intro dd
            induction dd with
            | zero =>
              intro k hk s7  H locs h1 hS ls hl
              have hk : k = d := by omega
              refine lv_iload_n hx hb dX12_on_51 rfl (lv_at hl 3 rfl) ?_
              refine lv_iload_n hx hb dX12_on_52 rfl (lv_at hl 1 rfl) ?_
              refine lv_icmp_ge (tgt := 66) hx hb dX12_on_53 (by decide) (fun c62 => ?_) (fun c62 => ?_)
              · have c62 : d ≤ k := (gLe (a := d) (b := k) rfl rfl (by omega) (by omega)).mp c62
                rw [hk] at h1
                refine lv_iload_n hx hb dX12_on_66 rfl (lv_at hl 2 rfl) ?_
                refine lv_if_ne (tgt := 77) hx hb dX12_on_67 (by decide) (fun c63 => ?_) (fun c63 => ?_)
                · have c63 : ¬ (q + 20) = 0 := fun z => c63 ((gEq (a := q + 20) (b := 0) rfl rfl (by omega) (by omega)).mpr z)
                  refine lv_iload_n hx hb dX12_on_77 rfl (lv_at hl 2 rfl) ?_
                  refine lv_bipush (v := 20) hx hb dX12_on_78 (by decide) ?_
                  refine lv_icmp_ge (tgt := 95) hx hb dX12_on_80 (by decide) (fun c64 => ?_) (fun c64 => ?_)
                  · have c64 : 20 ≤ (q + 20) := (gLe (a := 20) (b := q + 20) rfl rfl (by omega) (by omega)).mp c64
                    refine lv_aload_n hx hb dX12_on_95 rfl (lv_at hl 0 rfl) ?_
                    refine g_get (v := .ref (b + 5)) (T := TX12) (ci := 12) (N := 45) hx hb hown hK (gY_X12 hT) rfl (h1 0 _ rfl) 6 (by decide) (hT _ gf_X12_24) rfl dX12_on_96 ?_
                    refine lv_iload_n hx hb dX12_on_99 rfl (lv_at hl 2 rfl) ?_
                    refine lv_bipush (v := 20) hx hb dX12_on_100 (by decide) ?_
                    refine lv_isub hx hb dX12_on_102 ?_
                    refine g_ia (j := (q + 20) - 20) (v := (gDs π L n d) 4 ((q + 20) - 20)) hx hb hK (h1 5 _ rfl) (gSub rfl rfl (by omega)) (by omega) (Nat.le_of_ble_eq_true rfl) rfl dX12_on_103 ?_
                    refine lv_istore_n (lv' := [(3, .int ((gDs π L n d) 4 ((q + 20) - 20))), (0, .ref b), (1, .int (nI d)), (2, .int (nI (q + 20)))]) hx hb dX12_on_104 rfl hl (by decide) rfl (fun ls hl => ?_)
                    refine lv_aload_n hx hb dX12_on_105 rfl (lv_at hl 1 rfl) ?_
                    refine lv_aload_n hx hb dX12_on_106 rfl (lv_at hl 1 rfl) ?_
                    refine g_get (v := .ref (b + 26)) (T := TX12) (ci := 12) (N := 45) hx hb hown hK (gY_X12 hT) rfl (h1 0 _ rfl) 41 (by decide) (hT _ gf_X12_88) rfl dX12_on_107 ?_
                    refine g_kv (g_runV (T := TX12) (ci := 12) (N := 45) (rest := []) hx hb hml hown hE hT (c_X12_again_10 l G b (gDs π L n d) μ (gR (gR f 10 E9) 7 s7) g π hEn) gM_X12_again gm_X12_269 gi_X12_again gs_RX12_yX12_again_yX12_again rfl (h1 0 _ rfl) h1 rfl hl.1 ⟨rfl, rfl⟩ ⟨Nat.le_of_ble_eq_true rfl, Nat.le_of_ble_eq_true rfl⟩ ⟨Nat.zero_le _, Nat.zero_le _⟩ rfl (Nat.le_of_ble_eq_true rfl) dX12_on_110) hS (by intro q hq; omega) (fun H65 locs q66 k67 hS => ?_)
                    have h1 := q66
                    refine lv_iload_n hx hb dX12_on_113 rfl (lv_at hl 0 rfl) ?_
                    rw [← hQ]
                    exact g_iret hx hb hr hlk hS dX12_on_114 ⟨by rw [gqOn, if_neg (fun z => z.2.2 c52), if_pos c57, if_neg c1, if_neg (show ¬ nI (q + 20) < 20 from fun z => absurd ((gLt (a := q + 20) (b := 20) rfl rfl (by omega) (by omega)).mp z) (by omega)), gSub (x := nI (q + 20)) (y := 20) (a := q + 20) (b := 20) rfl rfl (by omega), nI_clamp (show q + 20 - 20 < 2 ^ 31 by omega), nI_clamp (show d < 2 ^ 31 by omega)], E9, s7, h1⟩
                  · have c64 : ¬ 20 ≤ (q + 20) := fun z => c64 ((gLe (a := 20) (b := q + 20) rfl rfl (by omega) (by omega)).mpr z)
                    exact absurd c64 (by omega)
                · have c63 : (q + 20) = 0 := (gEq (a := q + 20) (b := 0) rfl rfl (by omega) (by omega)).mp c63
                  exact absurd c63 (by omega)
              · have c62 : ¬ d ≤ k := fun z => c62 ((gLe (a := d) (b := k) rfl rfl (by omega) (by omega)).mpr z)
                exact absurd c62 (by omega)
            | succ dd ih =>
              intro k hk s7  H locs h1 hS ls hl
              refine lv_iload_n hx hb dX12_on_51 rfl (lv_at hl 3 rfl) ?_
              refine lv_iload_n hx hb dX12_on_52 rfl (lv_at hl 1 rfl) ?_
              refine lv_icmp_ge (tgt := 66) hx hb dX12_on_53 (by decide) (fun c69 => ?_) (fun c69 => ?_)
              · have c69 : d ≤ k := (gLe (a := d) (b := k) rfl rfl (by omega) (by omega)).mp c69
                exact absurd c69 (by omega)
              · have c69 : ¬ d ≤ k := fun z => c69 ((gLe (a := d) (b := k) rfl rfl (by omega) (by omega)).mpr z)
                refine lv_aload_n hx hb dX12_on_56 rfl (lv_at hl 0 rfl) ?_
                refine g_kv (g_runV (T := TX12) (ci := 12) (N := 45) (rest := []) hx hb hml hown hE hT (c_X12_goesDay l G b (gDs π L n k) μ (gR f 10 E9) g n ((gDs_15 (by decide) (by decide) k).trans hz) hn L (gHold_10 (gHold_eq hh (gDs_15 (by decide) (by decide) k)))) gM_X12_goesDay gm_X12_262 gi_X12_goesDay gs_RX12_yX12_goesDay_yX12_goesDay rfl (h1 0 _ rfl) ⟨s7, h1⟩ rfl hl.1 ⟨rfl, rfl⟩ ⟨Nat.le_of_ble_eq_true rfl, Nat.le_of_ble_eq_true rfl⟩ ⟨Nat.zero_le _, Nat.zero_le _⟩ rfl (Nat.le_of_ble_eq_true rfl) dX12_on_57) hS (by intro q hq; omega) (fun H70 locs q71 k72 hS => ?_)
                obtain ⟨s7, h1⟩ := q71
                have h1 : gSg G b (gLM G b (gDs π L n (k + 1)) μ (gR (gR f 10 E9) 7 s7) g) H70 := h1
                refine lv_iinc (v := nI (k + 1)) (lv' := [(3, .int (nI (k + 1))), (0, .ref b), (1, .int (nI d)), (2, .int (nI (q + 20)))]) hx hb dX12_on_60 hl (k := 3) rfl (gAdd rfl (show Int32.ofInt 1 = nI 1 from rfl)) (by decide) rfl (fun ls hl => ?_)
                refine lv_goto (tgt := 51) hx hb dX12_on_63 (by decide) ?_
                exact ih (k + 1) (by omega) s7  _ _ h1 hS _ (by have hl := lv_sub hl [1, 2, 3, 0] rfl; exact hl)
          exact loop (d - 0) 0 (by first | omega | simp) s7 _ _ h1 hS _ (lv_sub hl [1, 2, 3, 0] rfl)
        · have c57 : ¬ (0 ≤ m ∧ m ≤ 60) := gB_0.mp c57
          refine lv_bipush (v := (-2)) hx hb dX12_on_38 (by decide) ?_
          rw [← hQ]
          exact g_iret hx hb hr hlk hS dX12_on_40 ⟨by rw [gqOn, if_neg (fun z => z.2.2 c52), if_neg c57], sA, s7, h1⟩
      · have c52 : ¬ (0 ≤ wh - 20 ∧ wh - 20 < π 15 0) := gB_0.mp c52
        refine lv_iconst (v := (-1)) hx hb dX12_on_26 (by decide) ?_
        rw [← hQ]
        exact g_iret hx hb hr hlk hS dX12_on_27 ⟨by rw [gqOn, if_pos ⟨c1, c26, c52⟩], sA, s7, h1⟩

set_option maxHeartbeats 4000000 in
set_option maxRecDepth 100000 in
theorem c_X12_ends (l : Launch) (G : gW) (b : Nat) (π μ f : gPS) (g : Nat → Int64) (n : Nat) (hz : π 15 0 = nI n) (hn : n ≤ 6) (pn : Nat) (hz4 : π 15 4 = nI pn) (hpn : pn ≤ 10) (hok : gPlOk π pn) (L : gLf) (hh : gHold π f L) (wh : Int32) : gCI l yX12_ends cX12_ends 4 .int (gRm 7 164) G [.ref b, .int wh] (fun H => gMA G b π μ f g H) (fun r H => r = gqEnds π L n pn wh ∧ gMA G b π μ f g H) (fun q => b ≤ q ∧ q < b + 30) := by
  refine g_start (by decide) (Nat.le_of_ble_eq_true rfl) ?_
  intro pp_ ee_ s mm_ aa_ below meth cc_ ls Q hQ hX hE hP hl
  obtain ⟨hx, hb, hr, hml, hown, hT, hlk, hnm⟩ := hX
  have hK := hE.2.1
  obtain ⟨sA, s7, h1⟩ := hP
  have hS : va_S (fun q => b ≤ q ∧ q < b + 30) s.heap s.heap [] := va_S.rf
  have hl : lv_has ls 4 [(0, .ref b), (1, .int wh)] := hl
  refine lv_iload_n hx hb dX12_ends_0 rfl (lv_at hl 1 rfl) ?_
  refine lv_iconst (v := 0) hx hb dX12_ends_1 (by decide) ?_
  refine lv_iconst (v := 1) hx hb dX12_ends_2 (by decide) ?_
  refine g_ki (g_runS (rest := []) hx hb hml hown hE hT (c_X12_within l G wh 0 1) gM_X12_within gm_X12_108 gt_X12_within trivial rfl hl.1 ⟨rfl, rfl⟩ ⟨Nat.le_of_ble_eq_true rfl, Nat.le_of_ble_eq_true rfl⟩ ⟨Nat.zero_le _, Nat.zero_le _⟩ rfl (Nat.le_of_ble_eq_true rfl) dX12_ends_3) hS (fun _ h => h.elim) (fun r4 H1 locs q2 k3 hS => ?_)
  subst q2
  have h1 := gSg_free h1 k3 (by intro k hk q; simp only [List.length_cons, List.length_nil] at hk; omega)
  refine lv_if_ne (tgt := 11) hx hb dX12_ends_6 (by decide) (fun c5 => ?_) (fun c5 => ?_)
  · have c5 : 0 ≤ wh ∧ wh ≤ 1 := gB_1.mp c5
    refine lv_aload_n hx hb dX12_ends_11 rfl (lv_at hl 0 rfl) ?_
    refine lv_aload_n hx hb dX12_ends_12 rfl (lv_at hl 0 rfl) ?_
    refine g_get (v := .ref (b + 26)) (T := TX12) (ci := 12) (N := 45) hx hb hown hK (gY_X12 hT) rfl (h1 0 _ rfl) 41 (by decide) (hT _ gf_X12_88) rfl dX12_ends_13 ?_
    refine g_kv (g_runV (T := TX12) (ci := 12) (N := 45) (rest := []) hx hb hml hown hE hT (c_X12_keep_10 l G b π μ (gR (gR f 10 sA) 7 s7) g) gM_X12_keep gm_X12_265 gi_X12_keep gs_RX12_yX12_keep_yX12_keep rfl (h1 0 _ rfl) h1 rfl hl.1 ⟨rfl, rfl⟩ ⟨Nat.le_of_ble_eq_true rfl, Nat.le_of_ble_eq_true rfl⟩ ⟨Nat.zero_le _, Nat.zero_le _⟩ rfl (Nat.le_of_ble_eq_true rfl) dX12_ends_16) hS (by intro q hq; omega) (fun H6 locs q7 k8 hS => ?_)
    have h1 := q7
    generalize hGE : gEn π = E9 at h1
    have hEn : gAgr (fun j => j < 136) E9 (gEn π) := fun j _ => by rw [hGE]
    have h1 : gSg G b (gLM G b π μ (gR (gR f 10 E9) 7 s7) g) H6 := h1
    refine lv_iconst (v := 0) hx hb dX12_ends_19 (by decide) ?_
    refine lv_istore_n (lv' := [(2, .int 0), (0, .ref b), (1, .int wh)]) hx hb dX12_ends_20 rfl hl (by decide) rfl (fun ls hl => ?_)
    have loop : ∀ (d k : Nat), k + d = pn → ∀ (s7 : Nat → Int32), ∀ (H : Heap) (locs : List Loc), gSg G b (gLM G b (gPl π L n k) μ (gR (gR f 10 E9) 7 s7) g) H → va_S (fun q => b ≤ q ∧ q < b + 30) s.heap H locs → ∀ ls, lv_has ls 4 [(0, .ref b), (1, .int wh), (2, .int (nI k))] → W pp_ l ee_ (gRm 7 164) s mm_ aa_ below meth cc_ H locs 0 0 Q (F0 mm_ 21 ls []) := by
      intro d
      induction d with
      | zero =>
        intro k hk s7  H locs h1 hS ls hl
        have hk : k = pn := by omega
        refine lv_iload_n hx hb dX12_ends_21 rfl (lv_at hl 2 rfl) ?_
        refine lv_aload_n hx hb dX12_ends_22 rfl (lv_at hl 0 rfl) ?_
        refine g_get (v := .int ((gPl π L n k) 15 4)) (T := TX12) (ci := 12) (N := 45) hx hb hown hK (gY_X12 hT) rfl (h1 0 _ rfl) 31 (by decide) (hT _ gf_X12_290) rfl dX12_ends_23 ?_
        refine lv_icmp_ge (tgt := 106) hx hb dX12_ends_26 (by decide) (fun c10 => ?_) (fun c10 => ?_)
        · have c10 : pn ≤ k := (gLe (a := pn) (b := k) ((gPl_15 (by decide) (by decide) k).trans hz4) rfl (by omega) (by omega)).mp c10
          rw [hk] at h1
          refine lv_iload_n hx hb dX12_ends_106 rfl (lv_at hl 1 rfl) ?_
          refine lv_if_ne (tgt := 117) hx hb dX12_ends_107 (by decide) (fun c11 => ?_) (fun c11 => ?_)
          · refine lv_aload_n hx hb dX12_ends_117 rfl (lv_at hl 0 rfl) ?_
            refine g_ki (g_runV (T := TX12) (ci := 12) (N := 45) (rest := []) hx hb hml hown hE hT (c_X12_allFlown l G b (gPl π L n pn) μ (gR (gR f 10 E9) 7 s7) g n ((gPl_15 (by decide) (by decide) pn).trans hz) hn) gM_X12_allFlown gm_X12_293 gi_X12_allFlown gs_RX12_yX12_allFlown_yX12_allFlown rfl (h1 0 _ rfl) h1 rfl hl.1 ⟨rfl, rfl⟩ ⟨Nat.le_of_ble_eq_true rfl, Nat.le_of_ble_eq_true rfl⟩ ⟨Nat.zero_le _, Nat.zero_le _⟩ rfl (Nat.le_of_ble_eq_true rfl) dX12_ends_118) hS (fun _ h => h.elim) (fun r15 H12 locs q13 k14 hS => ?_)
            subst q13
            have h1 := gSg_free h1 k14 (by intro k hk q; simp only [List.length_cons, List.length_nil] at hk; omega)
            refine lv_istore_n (lv' := [(2, .int (gFlown ((gPl π L n pn) 6) n)), (0, .ref b), (1, .int wh)]) hx hb dX12_ends_121 rfl hl (by decide) rfl (fun ls hl => ?_)
            refine lv_aload_n hx hb dX12_ends_122 rfl (lv_at hl 1 rfl) ?_
            refine lv_aload_n hx hb dX12_ends_123 rfl (lv_at hl 1 rfl) ?_
            refine g_get (v := .ref (b + 26)) (T := TX12) (ci := 12) (N := 45) hx hb hown hK (gY_X12 hT) rfl (h1 0 _ rfl) 41 (by decide) (hT _ gf_X12_88) rfl dX12_ends_124 ?_
            refine g_kv (g_runV (T := TX12) (ci := 12) (N := 45) (rest := []) hx hb hml hown hE hT (c_X12_again_10 l G b (gPl π L n pn) μ (gR (gR f 10 E9) 7 s7) g π hEn) gM_X12_again gm_X12_269 gi_X12_again gs_RX12_yX12_again_yX12_again rfl (h1 0 _ rfl) h1 rfl hl.1 ⟨rfl, rfl⟩ ⟨Nat.le_of_ble_eq_true rfl, Nat.le_of_ble_eq_true rfl⟩ ⟨Nat.zero_le _, Nat.zero_le _⟩ rfl (Nat.le_of_ble_eq_true rfl) dX12_ends_127) hS (by intro q hq; omega) (fun H16 locs q17 k18 hS => ?_)
            have h1 := q17
            refine lv_iload_n hx hb dX12_ends_130 rfl (lv_at hl 0 rfl) ?_
            rw [← hQ]
            exact g_iret hx hb hr hlk hS dX12_ends_131 ⟨by rw [gqEnds, if_pos c5, if_neg c11], E9, s7, h1⟩
          · refine lv_aload_n hx hb dX12_ends_110 rfl (lv_at hl 0 rfl) ?_
            refine g_get (v := .int ((gPl π L n pn) 15 1)) (T := TX12) (ci := 12) (N := 45) hx hb hown hK (gY_X12 hT) rfl (h1 0 _ rfl) 2 (by decide) (hT _ gf_X12_241) rfl dX12_ends_111 ?_
            refine lv_goto (tgt := 121) hx hb dX12_ends_114 (by decide) ?_
            refine lv_istore_n (lv' := [(2, .int ((gPl π L n pn) 15 1)), (0, .ref b), (1, .int wh)]) hx hb dX12_ends_121 rfl hl (by decide) rfl (fun ls hl => ?_)
            refine lv_aload_n hx hb dX12_ends_122 rfl (lv_at hl 1 rfl) ?_
            refine lv_aload_n hx hb dX12_ends_123 rfl (lv_at hl 1 rfl) ?_
            refine g_get (v := .ref (b + 26)) (T := TX12) (ci := 12) (N := 45) hx hb hown hK (gY_X12 hT) rfl (h1 0 _ rfl) 41 (by decide) (hT _ gf_X12_88) rfl dX12_ends_124 ?_
            refine g_kv (g_runV (T := TX12) (ci := 12) (N := 45) (rest := []) hx hb hml hown hE hT (c_X12_again_10 l G b (gPl π L n pn) μ (gR (gR f 10 E9) 7 s7) g π hEn) gM_X12_again gm_X12_269 gi_X12_again gs_RX12_yX12_again_yX12_again rfl (h1 0 _ rfl) h1 rfl hl.1 ⟨rfl, rfl⟩ ⟨Nat.le_of_ble_eq_true rfl, Nat.le_of_ble_eq_true rfl⟩ ⟨Nat.zero_le _, Nat.zero_le _⟩ rfl (Nat.le_of_ble_eq_true rfl) dX12_ends_127) hS (by intro q hq; omega) (fun H20 locs q21 k22 hS => ?_)
            have h1 := q21
            refine lv_iload_n hx hb dX12_ends_130 rfl (lv_at hl 0 rfl) ?_
            rw [← hQ]
            exact g_iret hx hb hr hlk hS dX12_ends_131 ⟨by rw [gqEnds, if_pos c5, if_pos c11], E9, s7, h1⟩
        · have c10 : ¬ pn ≤ k := fun z => c10 ((gLe (a := pn) (b := k) ((gPl_15 (by decide) (by decide) k).trans hz4) rfl (by omega) (by omega)).mpr z)
          exact absurd c10 (by omega)
      | succ d ih =>
        intro k hk s7  H locs h1 hS ls hl
        refine lv_iload_n hx hb dX12_ends_21 rfl (lv_at hl 2 rfl) ?_
        refine lv_aload_n hx hb dX12_ends_22 rfl (lv_at hl 0 rfl) ?_
        refine g_get (v := .int ((gPl π L n k) 15 4)) (T := TX12) (ci := 12) (N := 45) hx hb hown hK (gY_X12 hT) rfl (h1 0 _ rfl) 31 (by decide) (hT _ gf_X12_290) rfl dX12_ends_23 ?_
        refine lv_icmp_ge (tgt := 106) hx hb dX12_ends_26 (by decide) (fun c24 => ?_) (fun c24 => ?_)
        · have c24 : pn ≤ k := (gLe (a := pn) (b := k) ((gPl_15 (by decide) (by decide) k).trans hz4) rfl (by omega) (by omega)).mp c24
          exact absurd c24 (by omega)
        · have c24 : ¬ pn ≤ k := fun z => c24 ((gLe (a := pn) (b := k) ((gPl_15 (by decide) (by decide) k).trans hz4) rfl (by omega) (by omega)).mpr z)
          have r11 : (gPl π L n k) 11 k = π 11 k := by rw [gPl_r (by decide) (by decide) (by decide) (by decide) (by decide) k]
          have r12 : (gPl π L n k) 12 k = π 12 k := by rw [gPl_r (by decide) (by decide) (by decide) (by decide) (by decide) k]
          have hok1 := hok k (by omega)
          refine lv_aload_n hx hb dX12_ends_29 rfl (lv_at hl 0 rfl) ?_
          refine g_get (v := .ref (b + 21)) (T := TX12) (ci := 12) (N := 45) hx hb hown hK (gY_X12 hT) rfl (h1 0 _ rfl) 33 (by decide) (hT _ gf_X12_73) rfl dX12_ends_30 ?_
          refine lv_iload_n hx hb dX12_ends_33 rfl (lv_at hl 2 rfl) ?_
          refine g_ia (j := k) (v := π 12 k) hx hb hK (h1 21 _ rfl) rfl (by omega) (Nat.le_of_ble_eq_true rfl) r12 dX12_ends_34 ?_
          refine lv_istore_n (lv' := [(3, .int (π 12 k)), (0, .ref b), (1, .int wh), (2, .int (nI k))]) hx hb dX12_ends_35 rfl hl (by decide) rfl (fun ls hl => ?_)
          refine lv_aload_n hx hb dX12_ends_36 rfl (lv_at hl 1 rfl) ?_
          refine g_get (v := .ref (b + 20)) (T := TX12) (ci := 12) (N := 45) hx hb hown hK (gY_X12 hT) rfl (h1 0 _ rfl) 32 (by decide) (hT _ gf_X12_70) rfl dX12_ends_37 ?_
          refine lv_iload_n hx hb dX12_ends_40 rfl (lv_at hl 3 rfl) ?_
          refine g_ia (j := k) (v := π 11 k) hx hb hK (h1 20 _ rfl) rfl (by omega) (Nat.le_of_ble_eq_true rfl) r11 dX12_ends_41 ?_
          refine lv_if_ne (tgt := 52) hx hb dX12_ends_42 (by decide) (fun c25 => ?_) (fun c25 => ?_)
          · refine lv_aload_n hx hb dX12_ends_52 rfl (lv_at hl 1 rfl) ?_
            refine g_get (v := .ref (b + 20)) (T := TX12) (ci := 12) (N := 45) hx hb hown hK (gY_X12 hT) rfl (h1 0 _ rfl) 32 (by decide) (hT _ gf_X12_70) rfl dX12_ends_53 ?_
            refine lv_iload_n hx hb dX12_ends_56 rfl (lv_at hl 3 rfl) ?_
            refine g_ia (j := k) (v := π 11 k) hx hb hK (h1 20 _ rfl) rfl (by omega) (Nat.le_of_ble_eq_true rfl) r11 dX12_ends_57 ?_
            refine lv_iconst (v := 1) hx hb dX12_ends_58 (by decide) ?_
            refine lv_icmp_ne (tgt := 72) hx hb dX12_ends_59 (by decide) (fun c26 => ?_) (fun c26 => ?_)
            · refine lv_aload_n hx hb dX12_ends_72 rfl (lv_at hl 1 rfl) ?_
              refine g_get (v := .ref (b + 20)) (T := TX12) (ci := 12) (N := 45) hx hb hown hK (gY_X12 hT) rfl (h1 0 _ rfl) 32 (by decide) (hT _ gf_X12_70) rfl dX12_ends_73 ?_
              refine lv_iload_n hx hb dX12_ends_76 rfl (lv_at hl 3 rfl) ?_
              refine g_ia (j := k) (v := π 11 k) hx hb hK (h1 20 _ rfl) rfl (by omega) (Nat.le_of_ble_eq_true rfl) r11 dX12_ends_77 ?_
              refine lv_iconst (v := 2) hx hb dX12_ends_78 (by decide) ?_
              refine lv_icmp_ne (tgt := 92) hx hb dX12_ends_79 (by decide) (fun c27 => ?_) (fun c27 => ?_)
              · obtain ⟨q, hq, eq⟩ : ∃ q, q < 12 ∧ π 12 k = nI q := hok1.elim (fun z => absurd z c25) (fun z => z.elim (fun z => z.1.elim (fun z => absurd z c26) (fun z => absurd z c27)) (fun z => z.2))
                have ec : (π 12 k).toNatClampNeg = q := by rw [eq, nI_clamp (by omega)]
                refine lv_aload_n hx hb dX12_ends_92 rfl (lv_at hl 1 rfl) ?_
                refine g_get (v := .ref (b + 1)) (T := TX12) (ci := 12) (N := 45) hx hb hown hK (gY_X12 hT) rfl (h1 0 _ rfl) 0 (by decide) (hT _ gf_X12_9) rfl dX12_ends_93 ?_
                refine lv_iload_n hx hb dX12_ends_96 rfl (lv_at hl 0 rfl) ?_
                refine lv_bipush (v := 9) hx hb dX12_ends_97 (by decide) ?_
                refine g_is (j := q) hx hb hK hS (h1 1 _ rfl) eq (by omega) (Nat.le_of_ble_eq_true rfl) (by omega) dX12_ends_99 (fun H28 locs c29 oq hS => ?_)
                have h1 : gSg G b (gLM G b (gU (gPl π L n k) 0 q 9) μ (gR (gR f 10 E9) 7 s7) g) H28 := gSg_set h1 1 c29 oq
                refine lv_iinc (v := nI (k + 1)) (lv' := [(2, .int (nI (k + 1))), (3, .int (π 12 k)), (0, .ref b), (1, .int wh)]) hx hb dX12_ends_100 hl (k := 3) rfl (gAdd rfl (show Int32.ofInt 1 = nI 1 from rfl)) (by decide) rfl (fun ls hl => ?_)
                refine lv_goto (tgt := 21) hx hb dX12_ends_103 (by decide) ?_
                rw [show gU (gPl π L n k) 0 q 9 = gPl π L n (k + 1) from by rw [gPl, gPl1, if_neg c25, if_neg c26, if_neg c27, ec]] at h1
                exact ih (k + 1) (by omega) s7  _ _ h1 hS _ (by have hl := lv_sub hl [2, 3, 0] rfl; exact hl)
              · obtain ⟨q, hq, eq⟩ : ∃ q, q < 6 ∧ π 12 k = nI q := hok1.elim (fun z => absurd (z.symm.trans c27) (by decide)) (fun z => z.elim (fun z => z.2) (fun z => absurd (z.1.symm.trans c27) (by decide)))
                have ec : (π 12 k).toNatClampNeg = q := by rw [eq, nI_clamp (by omega)]
                refine lv_aload_n hx hb dX12_ends_82 rfl (lv_at hl 1 rfl) ?_
                refine g_get (v := .ref (b + 6)) (T := TX12) (ci := 12) (N := 45) hx hb hown hK (gY_X12 hT) rfl (h1 0 _ rfl) 7 (by decide) (hT _ gf_X12_27) rfl dX12_ends_83 ?_
                refine lv_iload_n hx hb dX12_ends_86 rfl (lv_at hl 0 rfl) ?_
                refine lv_iconst (v := 0) hx hb dX12_ends_87 (by decide) ?_
                refine g_is (j := q) hx hb hK hS (h1 6 _ rfl) eq (by omega) (Nat.le_of_ble_eq_true rfl) (by omega) dX12_ends_88 (fun H30 locs c31 oq hS => ?_)
                have h1 : gSg G b (gLM G b (gU (gPl π L n k) 5 q 0) μ (gR (gR f 10 E9) 7 s7) g) H30 := gSg_set h1 6 c31 oq
                refine lv_goto (tgt := 100) hx hb dX12_ends_89 (by decide) ?_
                refine lv_iinc (v := nI (k + 1)) (lv' := [(2, .int (nI (k + 1))), (3, .int (π 12 k)), (0, .ref b), (1, .int wh)]) hx hb dX12_ends_100 hl (k := 3) rfl (gAdd rfl (show Int32.ofInt 1 = nI 1 from rfl)) (by decide) rfl (fun ls hl => ?_)
                refine lv_goto (tgt := 21) hx hb dX12_ends_103 (by decide) ?_
                rw [show gU (gPl π L n k) 5 q 0 = gPl π L n (k + 1) from by rw [gPl, gPl1, if_neg c25, if_neg c26, if_pos c27, ec]] at h1
                exact ih (k + 1) (by omega) s7  _ _ h1 hS _ (by have hl := lv_sub hl [2, 3, 0] rfl; exact hl)
            · obtain ⟨q, hq, eq⟩ : ∃ q, q < 6 ∧ π 12 k = nI q := hok1.elim (fun z => absurd (z.symm.trans c26) (by decide)) (fun z => z.elim (fun z => z.2) (fun z => absurd (z.1.symm.trans c26) (by decide)))
              have ec : (π 12 k).toNatClampNeg = q := by rw [eq, nI_clamp (by omega)]
              refine lv_aload_n hx hb dX12_ends_62 rfl (lv_at hl 1 rfl) ?_
              refine g_get (v := .ref (b + 5)) (T := TX12) (ci := 12) (N := 45) hx hb hown hK (gY_X12 hT) rfl (h1 0 _ rfl) 6 (by decide) (hT _ gf_X12_24) rfl dX12_ends_63 ?_
              refine lv_iload_n hx hb dX12_ends_66 rfl (lv_at hl 0 rfl) ?_
              refine lv_iconst (v := 0) hx hb dX12_ends_67 (by decide) ?_
              refine g_is (j := q) hx hb hK hS (h1 5 _ rfl) eq (by omega) (Nat.le_of_ble_eq_true rfl) (by omega) dX12_ends_68 (fun H32 locs c33 oq hS => ?_)
              have h1 : gSg G b (gLM G b (gU (gPl π L n k) 4 q 0) μ (gR (gR f 10 E9) 7 s7) g) H32 := gSg_set h1 5 c33 oq
              refine lv_goto (tgt := 100) hx hb dX12_ends_69 (by decide) ?_
              refine lv_iinc (v := nI (k + 1)) (lv' := [(2, .int (nI (k + 1))), (3, .int (π 12 k)), (0, .ref b), (1, .int wh)]) hx hb dX12_ends_100 hl (k := 3) rfl (gAdd rfl (show Int32.ofInt 1 = nI 1 from rfl)) (by decide) rfl (fun ls hl => ?_)
              refine lv_goto (tgt := 21) hx hb dX12_ends_103 (by decide) ?_
              rw [show gU (gPl π L n k) 4 q 0 = gPl π L n (k + 1) from by rw [gPl, gPl1, if_neg c25, if_pos c26, ec]] at h1
              exact ih (k + 1) (by omega) s7  _ _ h1 hS _ (by have hl := lv_sub hl [2, 3, 0] rfl; exact hl)
          · refine lv_aload_n hx hb dX12_ends_45 rfl (lv_at hl 1 rfl) ?_
            refine g_kv (g_runV (T := TX12) (ci := 12) (N := 45) (rest := []) hx hb hml hown hE hT (c_X12_goesDay l G b (gPl π L n k) μ (gR f 10 E9) g n ((gPl_15 (by decide) (by decide) k).trans hz) hn L (gHold_10 (gHold_eq hh (gPl_15 (by decide) (by decide) k)))) gM_X12_goesDay gm_X12_262 gi_X12_goesDay gs_RX12_yX12_goesDay_yX12_goesDay rfl (h1 0 _ rfl) ⟨s7, h1⟩ rfl hl.1 ⟨rfl, rfl⟩ ⟨Nat.le_of_ble_eq_true rfl, Nat.le_of_ble_eq_true rfl⟩ ⟨Nat.zero_le _, Nat.zero_le _⟩ rfl (Nat.le_of_ble_eq_true rfl) dX12_ends_46) hS (by intro q hq; omega) (fun H34 locs q35 k36 hS => ?_)
            obtain ⟨s7, h1⟩ := q35
            refine lv_goto (tgt := 100) hx hb dX12_ends_49 (by decide) ?_
            refine lv_iinc (v := nI (k + 1)) (lv' := [(2, .int (nI (k + 1))), (3, .int (π 12 k)), (0, .ref b), (1, .int wh)]) hx hb dX12_ends_100 hl (k := 3) rfl (gAdd rfl (show Int32.ofInt 1 = nI 1 from rfl)) (by decide) rfl (fun ls hl => ?_)
            refine lv_goto (tgt := 21) hx hb dX12_ends_103 (by decide) ?_
            rw [show gDay (gPl π L n k) L n = gPl π L n (k + 1) from by rw [gPl, gPl1, if_pos c25]] at h1
            exact ih (k + 1) (by omega) s7  _ _ h1 hS _ (by have hl := lv_sub hl [2, 3, 0] rfl; exact hl)
    exact loop (pn - 0) 0 (by first | omega | simp) s7 _ _ h1 hS _ (lv_sub hl [1, 2, 0] rfl)
  · have c5 : ¬ (0 ≤ wh ∧ wh ≤ 1) := gB_0.mp c5
    refine lv_iconst (v := (-1)) hx hb dX12_ends_9 (by decide) ?_
    rw [← hQ]
    exact g_iret hx hb hr hlk hS dX12_ends_10 ⟨by rw [gqEnds, if_neg c5], sA, s7, h1⟩

set_option maxHeartbeats 4000000 in
set_option maxRecDepth 100000 in
theorem c_X12_shift (l : Launch) (G : gW) (b : Nat) (π μ f : gPS) (g : Nat → Int64) (hzs : ∀ k, k < 6 → ∃ z, z ≤ 60 ∧ μ 3 k = nI z) (t i o j n : Int32) : gCI l yX12_shift cX12_shift 7 .int (gRm 2 42) G [.ref b, .int t, .int i, .int o, .int j, .int n] (fun H => gSg G b (gLM G b π μ f g) H) (fun r H => r = (gqShift μ g t i o j n).1 ∧ gSg G b (gLM G b π μ f (gqShift μ g t i o j n).2) H) (fun q => b ≤ q ∧ q < b + 30) := by
  refine g_start (by decide) (Nat.le_of_ble_eq_true rfl) ?_
  intro pp_ ee_ s mm_ aa_ below meth cc_ ls Q hQ hX hE hP hl
  obtain ⟨hx, hb, hr, hml, hown, hT, hlk, hnm⟩ := hX
  have hK := hE.2.1
  have h1 := hP
  have hS : va_S (fun q => b ≤ q ∧ q < b + 30) s.heap s.heap [] := va_S.rf
  have hl : lv_has ls 7 [(0, .ref b), (1, .int t), (2, .int i), (3, .int o), (4, .int j), (5, .int n)] := hl
  refine lv_iload_n hx hb dX12_shift_0 rfl (lv_at hl 1 rfl) ?_
  refine g_ki (g_runS (rest := []) hx hb hml hown hE hT (c_X12_isTape l G t) gM_X12_isTape gm_X12_322 gt_X12_isTape trivial rfl hl.1 ⟨rfl, rfl⟩ ⟨Nat.le_of_ble_eq_true rfl, Nat.le_of_ble_eq_true rfl⟩ ⟨Nat.zero_le _, Nat.zero_le _⟩ rfl (Nat.le_of_ble_eq_true rfl) dX12_shift_1) hS (fun _ h => h.elim) (fun r4 H1 locs q2 k3 hS => ?_)
  subst q2
  have h1 := gSg_free h1 k3 (by intro k hk q; simp only [List.length_cons, List.length_nil] at hk; omega)
  refine lv_if_eq (tgt := 14) hx hb dX12_shift_4 (by decide) (fun c5 => ?_) (fun c5 => ?_)
  · have c5 : ¬ (0 ≤ t ∧ t ≤ 5) := gB_0.mp c5
    refine lv_iconst (v := (-1)) hx hb dX12_shift_14 (by decide) ?_
    rw [← hQ]
    exact g_iret hx hb hr hlk hS dX12_shift_15 (by rw [show gqShift μ g t i o j n = ((-1), g) from by simp only [gqShift, if_neg c5] <;> rfl]; exact ⟨rfl, h1⟩)
  · have c5 : 0 ≤ t ∧ t ≤ 5 := gB_1.mp c5
    obtain ⟨k, hk, ek⟩ := gIw (M := 5) (n := 5) rfl (by decide) c5
    subst ek
    obtain ⟨z, lz, ez⟩ := hzs k (by omega)
    refine lv_iload_n hx hb dX12_shift_7 rfl (lv_at hl 3 rfl) ?_
    refine g_ki (g_runS (rest := []) hx hb hml hown hE hT (c_X12_isTape l G o) gM_X12_isTape gm_X12_322 gt_X12_isTape trivial rfl hl.1 ⟨rfl, rfl⟩ ⟨Nat.le_of_ble_eq_true rfl, Nat.le_of_ble_eq_true rfl⟩ ⟨Nat.zero_le _, Nat.zero_le _⟩ rfl (Nat.le_of_ble_eq_true rfl) dX12_shift_8) hS (fun _ h => h.elim) (fun r9 H6 locs q7 k8 hS => ?_)
    subst q7
    have h1 := gSg_free h1 k8 (by intro k hk q; simp only [List.length_cons, List.length_nil] at hk; omega)
    refine lv_if_ne (tgt := 16) hx hb dX12_shift_11 (by decide) (fun c10 => ?_) (fun c10 => ?_)
    · have c10 : 0 ≤ o ∧ o ≤ 5 := gB_1.mp c10
      obtain ⟨u, hu, eu⟩ := gIw (M := 5) (n := 5) rfl (by decide) c10
      subst eu
      obtain ⟨y, ly, ey⟩ := hzs u (by omega)
      refine lv_aload_n hx hb dX12_shift_16 rfl (lv_at hl 0 rfl) ?_
      refine g_get (v := .ref (b + 27)) (T := TX12) (ci := 12) (N := 45) hx hb hown hK (gY_X12 hT) rfl (h1 0 _ rfl) 42 (by decide) (hT _ gf_X12_91) rfl dX12_shift_17 ?_
      refine lv_iload_n hx hb dX12_shift_20 rfl (lv_at hl 1 rfl) ?_
      refine g_ia (j := k) (v := μ 2 k) hx hb hK (h1 27 _ rfl) rfl (by omega) (Nat.le_of_ble_eq_true rfl) rfl dX12_shift_21 ?_
      refine lv_if_lt (tgt := 34) hx hb dX12_shift_22 (by decide) (fun c11 => ?_) (fun c11 => ?_)
      · refine lv_bipush (v := (-11)) hx hb dX12_shift_34 (by decide) ?_
        rw [← hQ]
        exact g_iret hx hb hr hlk hS dX12_shift_36 (by rw [show gqShift μ g (nI k) i (nI u) j n = ((-11), g) from by simp only [gqShift, if_pos c5, if_pos c10, if_pos c11, nI_clamp (show k < 2 ^ 31 by omega), nI_clamp (show u < 2 ^ 31 by omega)] <;> rfl]; exact ⟨rfl, h1⟩)
      · refine lv_aload_n hx hb dX12_shift_25 rfl (lv_at hl 0 rfl) ?_
        refine g_get (v := .ref (b + 27)) (T := TX12) (ci := 12) (N := 45) hx hb hown hK (gY_X12 hT) rfl (h1 0 _ rfl) 42 (by decide) (hT _ gf_X12_91) rfl dX12_shift_26 ?_
        refine lv_iload_n hx hb dX12_shift_29 rfl (lv_at hl 3 rfl) ?_
        refine g_ia (j := u) (v := μ 2 u) hx hb hK (h1 27 _ rfl) rfl (by omega) (Nat.le_of_ble_eq_true rfl) rfl dX12_shift_30 ?_
        refine lv_if_ge (tgt := 37) hx hb dX12_shift_31 (by decide) (fun c12 => ?_) (fun c12 => ?_)
        · refine lv_aload_n hx hb dX12_shift_37 rfl (lv_at hl 0 rfl) ?_
          refine g_get (v := .ref (b + 27)) (T := TX12) (ci := 12) (N := 45) hx hb hown hK (gY_X12 hT) rfl (h1 0 _ rfl) 42 (by decide) (hT _ gf_X12_91) rfl dX12_shift_38 ?_
          refine lv_iload_n hx hb dX12_shift_41 rfl (lv_at hl 1 rfl) ?_
          refine g_ia (j := k) (v := μ 2 k) hx hb hK (h1 27 _ rfl) rfl (by omega) (Nat.le_of_ble_eq_true rfl) rfl dX12_shift_42 ?_
          refine lv_aload_n hx hb dX12_shift_43 rfl (lv_at hl 0 rfl) ?_
          refine g_get (v := .ref (b + 27)) (T := TX12) (ci := 12) (N := 45) hx hb hown hK (gY_X12 hT) rfl (h1 0 _ rfl) 42 (by decide) (hT _ gf_X12_91) rfl dX12_shift_44 ?_
          refine lv_iload_n hx hb dX12_shift_47 rfl (lv_at hl 3 rfl) ?_
          refine g_ia (j := u) (v := μ 2 u) hx hb hK (h1 27 _ rfl) rfl (by omega) (Nat.le_of_ble_eq_true rfl) rfl dX12_shift_48 ?_
          refine lv_icmp_eq (tgt := 55) hx hb dX12_shift_49 (by decide) (fun c13 => ?_) (fun c13 => ?_)
          · refine lv_iload hx hb dX12_shift_55 (lv_at hl 5 rfl) ?_
            refine lv_if_lt (tgt := 104) hx hb dX12_shift_57 (by decide) (fun c14 => ?_) (fun c14 => ?_)
            · refine lv_bipush (v := (-13)) hx hb dX12_shift_104 (by decide) ?_
              rw [← hQ]
              exact g_iret hx hb hr hlk hS dX12_shift_106 (by rw [show gqShift μ g (nI k) i (nI u) j n = ((-13), g) from by simp only [gqShift, if_pos c5, if_pos c10, if_neg c11, if_pos c12, if_pos c13, if_pos c14, nI_clamp (show k < 2 ^ 31 by omega), nI_clamp (show u < 2 ^ 31 by omega)] <;> rfl]; exact ⟨rfl, h1⟩)
            · obtain ⟨d, hd, ed⟩ := nI_of c14
              subst ed
              refine lv_iload_n hx hb dX12_shift_60 rfl (lv_at hl 2 rfl) ?_
              refine lv_if_lt (tgt := 104) hx hb dX12_shift_61 (by decide) (fun c15 => ?_) (fun c15 => ?_)
              · refine lv_bipush (v := (-13)) hx hb dX12_shift_104 (by decide) ?_
                rw [← hQ]
                exact g_iret hx hb hr hlk hS dX12_shift_106 (by rw [show gqShift μ g (nI k) i (nI u) j (nI d) = ((-13), g) from by simp only [gqShift, if_pos c5, if_pos c10, if_neg c11, if_pos c12, if_pos c13, if_neg c14, if_pos c15, nI_clamp (show k < 2 ^ 31 by omega), nI_clamp (show u < 2 ^ 31 by omega), nI_clamp (show d < 2 ^ 31 by omega)] <;> rfl]; exact ⟨rfl, h1⟩)
              · obtain ⟨v, hv, ev⟩ := nI_of c15
                subst ev
                refine lv_iload hx hb dX12_shift_64 (lv_at hl 4 rfl) ?_
                refine lv_if_lt (tgt := 104) hx hb dX12_shift_66 (by decide) (fun c16 => ?_) (fun c16 => ?_)
                · refine lv_bipush (v := (-13)) hx hb dX12_shift_104 (by decide) ?_
                  rw [← hQ]
                  exact g_iret hx hb hr hlk hS dX12_shift_106 (by rw [show gqShift μ g (nI k) (nI v) (nI u) j (nI d) = ((-13), g) from by simp only [gqShift, if_pos c5, if_pos c10, if_neg c11, if_pos c12, if_pos c13, if_neg c14, if_neg c15, if_pos c16, nI_clamp (show k < 2 ^ 31 by omega), nI_clamp (show u < 2 ^ 31 by omega), nI_clamp (show d < 2 ^ 31 by omega), nI_clamp (show v < 2 ^ 31 by omega)] <;> rfl]; exact ⟨rfl, h1⟩)
                · obtain ⟨w, hw, ew⟩ := nI_of c16
                  subst ew
                  refine lv_iload_n hx hb dX12_shift_69 rfl (lv_at hl 2 rfl) ?_
                  refine lv_i2l hx hb dX12_shift_70 rfl ?_
                  refine lv_iload hx hb dX12_shift_71 (lv_at hl 5 rfl) ?_
                  refine lv_i2l hx hb dX12_shift_73 rfl ?_
                  refine lv_ladd hx hb dX12_shift_74 ?_
                  refine lv_aload_n hx hb dX12_shift_75 rfl (lv_at hl 0 rfl) ?_
                  refine g_get (v := .ref (b + 28)) (T := TX12) (ci := 12) (N := 45) hx hb hown hK (gY_X12 hT) rfl (h1 0 _ rfl) 43 (by decide) (hT _ gf_X12_94) rfl dX12_shift_76 ?_
                  refine lv_iload_n hx hb dX12_shift_79 rfl (lv_at hl 1 rfl) ?_
                  refine g_ia (j := k) (v := μ 3 k) hx hb hK (h1 28 _ rfl) rfl (by omega) (Nat.le_of_ble_eq_true rfl) rfl dX12_shift_80 ?_
                  refine lv_i2l hx hb dX12_shift_81 rfl ?_
                  refine W.lcmp hx hb dX12_shift_82 ?_
                  refine lv_if_gt (tgt := 104) hx hb dX12_shift_83 (by decide) (fun c17 => ?_) (fun c17 => ?_)
                  · rw [lg_cmp_gt, nI_l (by omega), nI_l (by omega), lN_add, ez, nI_l (by omega), lN_lt9 (by omega) (by omega)] at c17
                    refine lv_bipush (v := (-13)) hx hb dX12_shift_104 (by decide) ?_
                    rw [← hQ]
                    exact g_iret hx hb hr hlk hS dX12_shift_106 (by rw [show gqShift μ g (nI k) (nI v) (nI u) (nI w) (nI d) = ((-13), g) from by simp only [gqShift, if_pos c5, if_pos c10, if_neg c11, if_pos c12, if_pos c13, if_neg c14, if_neg c15, if_neg c16, if_pos (show (μ 3 k).toNatClampNeg < v + d from by rw [ez, nI_clamp (by omega)]; exact c17), nI_clamp (show k < 2 ^ 31 by omega), nI_clamp (show u < 2 ^ 31 by omega), nI_clamp (show d < 2 ^ 31 by omega), nI_clamp (show v < 2 ^ 31 by omega), nI_clamp (show w < 2 ^ 31 by omega)] <;> rfl]; exact ⟨rfl, h1⟩)
                  · rw [lg_cmp_gt, nI_l (by omega), nI_l (by omega), lN_add, ez, nI_l (by omega), lN_lt9 (by omega) (by omega)] at c17
                    refine lv_iload hx hb dX12_shift_86 (lv_at hl 4 rfl) ?_
                    refine lv_i2l hx hb dX12_shift_88 rfl ?_
                    refine lv_iload hx hb dX12_shift_89 (lv_at hl 5 rfl) ?_
                    refine lv_i2l hx hb dX12_shift_91 rfl ?_
                    refine lv_ladd hx hb dX12_shift_92 ?_
                    refine lv_aload_n hx hb dX12_shift_93 rfl (lv_at hl 0 rfl) ?_
                    refine g_get (v := .ref (b + 28)) (T := TX12) (ci := 12) (N := 45) hx hb hown hK (gY_X12 hT) rfl (h1 0 _ rfl) 43 (by decide) (hT _ gf_X12_94) rfl dX12_shift_94 ?_
                    refine lv_iload_n hx hb dX12_shift_97 rfl (lv_at hl 3 rfl) ?_
                    refine g_ia (j := u) (v := μ 3 u) hx hb hK (h1 28 _ rfl) rfl (by omega) (Nat.le_of_ble_eq_true rfl) rfl dX12_shift_98 ?_
                    refine lv_i2l hx hb dX12_shift_99 rfl ?_
                    refine W.lcmp hx hb dX12_shift_100 ?_
                    refine lv_if_le (tgt := 107) hx hb dX12_shift_101 (by decide) (fun c18 => ?_) (fun c18 => ?_)
                    · rw [lg_cmp_le, nI_l (by omega), nI_l (by omega), lN_add, ey, nI_l (by omega), ← Int64.not_lt, lN_lt9 (by omega) (by omega)] at c18
                      refine lv_iload_n hx hb dX12_shift_107 rfl (lv_at hl 1 rfl) ?_
                      refine lv_iload_n hx hb dX12_shift_108 rfl (lv_at hl 3 rfl) ?_
                      refine lv_icmp_ne (tgt := 167) hx hb dX12_shift_109 (by decide) (fun c19 => ?_) (fun c19 => ?_)
                      · have c19 : ¬ k = u := fun z => c19 ((gEq (a := k) (b := u) rfl rfl (by omega) (by omega)).mpr z)
                        refine lv_iconst (v := 0) hx hb dX12_shift_167 (by decide) ?_
                        refine lv_istore (lv' := [(6, .int 0), (0, .ref b), (1, .int (nI k)), (2, .int (nI v)), (3, .int (nI u)), (4, .int (nI w)), (5, .int (nI d))]) hx hb dX12_shift_168 hl (by decide) rfl (fun ls hl => ?_)
                        have hne : k = u → ¬ v < w := fun z9 z8 => by exact absurd z9 (by omega)
                        rw [← gMv_0 g (60 * k + v) (60 * u + w)] at h1
                        have loop : ∀ (dx x : Nat), x + dx = d → ∀ (H : Heap) (locs : List Loc), gSg G b (gLM G b π μ f (gMv g (60 * k + v) (60 * u + w) x)) H → va_S (fun q => b ≤ q ∧ q < b + 30) s.heap H locs → ∀ ls, lv_has ls 7 [(0, .ref b), (1, .int (nI k)), (2, .int (nI v)), (3, .int (nI u)), (4, .int (nI w)), (5, .int (nI d)), (6, .int (nI x))] → W pp_ l ee_ (gRm 2 42) s mm_ aa_ below meth cc_ H locs 0 0 Q (F0 mm_ 170 ls []) := by
                          intro dx
                          induction dx with
                          | zero =>
                            intro x hk   H locs h1 hS ls hl
                            have hk : x = d := by omega
                            refine lv_iload hx hb dX12_shift_170 (lv_at hl 6 rfl) ?_
                            refine lv_iload hx hb dX12_shift_172 (lv_at hl 5 rfl) ?_
                            refine lv_icmp_ge (tgt := 212) hx hb dX12_shift_174 (by decide) (fun c20 => ?_) (fun c20 => ?_)
                            · have c20 : d ≤ x := (gLe (a := d) (b := x) rfl rfl (by omega) (by omega)).mp c20
                              refine lv_iload hx hb dX12_shift_212 (lv_at hl 5 rfl) ?_
                              rw [hk] at h1
                              rw [← hQ]
                              exact g_iret hx hb hr hlk hS dX12_shift_214 (by rw [show gqShift μ g (nI k) (nI v) (nI u) (nI w) (nI d) = (nI d, gMv g (60 * k + v) (60 * u + w) d) from by simp only [gqShift, if_pos c5, if_pos c10, if_neg c11, if_pos c12, if_pos c13, if_neg c14, if_neg c15, if_neg c16, if_neg (show ¬ (μ 3 k).toNatClampNeg < v + d from by rw [ez, nI_clamp (by omega)]; exact c17), if_neg (show ¬ (μ 3 u).toNatClampNeg < w + d from by rw [ey, nI_clamp (by omega)]; exact c18), nI_clamp (show k < 2 ^ 31 by omega), nI_clamp (show u < 2 ^ 31 by omega), nI_clamp (show d < 2 ^ 31 by omega), nI_clamp (show v < 2 ^ 31 by omega), nI_clamp (show w < 2 ^ 31 by omega)] <;> rfl]; exact ⟨rfl, h1⟩)
                            · have c20 : ¬ d ≤ x := fun z => c20 ((gLe (a := d) (b := x) rfl rfl (by omega) (by omega)).mpr z)
                              exact absurd c20 (by omega)
                          | succ dx ih =>
                            intro x hk   H locs h1 hS ls hl
                            refine lv_iload hx hb dX12_shift_170 (lv_at hl 6 rfl) ?_
                            refine lv_iload hx hb dX12_shift_172 (lv_at hl 5 rfl) ?_
                            refine lv_icmp_ge (tgt := 212) hx hb dX12_shift_174 (by decide) (fun c21 => ?_) (fun c21 => ?_)
                            · have c21 : d ≤ x := (gLe (a := d) (b := x) rfl rfl (by omega) (by omega)).mp c21
                              exact absurd c21 (by omega)
                            · have c21 : ¬ d ≤ x := fun z => c21 ((gLe (a := d) (b := x) rfl rfl (by omega) (by omega)).mpr z)
                              refine lv_aload_n hx hb dX12_shift_177 rfl (lv_at hl 0 rfl) ?_
                              refine g_get (v := .ref (b + 29)) (T := TX12) (ci := 12) (N := 45) hx hb hown hK (gY_X12 hT) rfl (h1 0 _ rfl) 44 (by decide) (hT _ gf_X12_97) rfl dX12_shift_178 ?_
                              refine lv_bipush (v := 60) hx hb dX12_shift_181 (by decide) ?_
                              refine lv_iload_n hx hb dX12_shift_183 rfl (lv_at hl 3 rfl) ?_
                              refine lv_imul hx hb dX12_shift_184 ?_
                              refine lv_iload hx hb dX12_shift_185 (lv_at hl 4 rfl) ?_
                              refine lv_iadd hx hb dX12_shift_187 ?_
                              refine lv_iload hx hb dX12_shift_188 (lv_at hl 6 rfl) ?_
                              refine lv_iadd hx hb dX12_shift_190 ?_
                              refine lv_aload_n hx hb dX12_shift_191 rfl (lv_at hl 0 rfl) ?_
                              refine g_get (v := .ref (b + 29)) (T := TX12) (ci := 12) (N := 45) hx hb hown hK (gY_X12 hT) rfl (h1 0 _ rfl) 44 (by decide) (hT _ gf_X12_97) rfl dX12_shift_192 ?_
                              refine lv_bipush (v := 60) hx hb dX12_shift_195 (by decide) ?_
                              refine lv_iload_n hx hb dX12_shift_197 rfl (lv_at hl 1 rfl) ?_
                              refine lv_imul hx hb dX12_shift_198 ?_
                              refine lv_iload_n hx hb dX12_shift_199 rfl (lv_at hl 2 rfl) ?_
                              refine lv_iadd hx hb dX12_shift_200 ?_
                              refine lv_iload hx hb dX12_shift_201 (lv_at hl 6 rfl) ?_
                              refine lv_iadd hx hb dX12_shift_203 ?_
                              refine g_la (j := ((60 * k) + v) + x) (v := g ((60 * k + v) + x)) hx hb hK (h1 29 _ rfl) (gAdd (gAdd (gMul rfl rfl) rfl) rfl) (by omega) (Nat.le_of_ble_eq_true rfl) (gMv_r g (60 * k + v) (60 * u + w) x (by omega)) dX12_shift_204 ?_
                              refine g_ls (j := ((60 * u) + w) + x) hx hb hK hS (h1 29 _ rfl) (gAdd (gAdd (gMul rfl rfl) rfl) rfl) (by omega) (Nat.le_of_ble_eq_true rfl) (by omega) dX12_shift_205 (fun H22 locs c23 oq hS => ?_)
                              have h1 : gSg G b (gLM G b π μ f (vp_updL (gMv g (60 * k + v) (60 * u + w) x) (((60 * u) + w) + x) (g ((60 * k + v) + x)))) H22 := gSg_set h1 29 c23 oq
                              refine lv_iinc (v := nI (x + 1)) (lv' := [(6, .int (nI (x + 1))), (0, .ref b), (1, .int (nI k)), (2, .int (nI v)), (3, .int (nI u)), (4, .int (nI w)), (5, .int (nI d))]) hx hb dX12_shift_206 hl (k := 6) rfl (gAdd rfl (show Int32.ofInt 1 = nI 1 from rfl)) (by decide) rfl (fun ls hl => ?_)
                              refine lv_goto (tgt := 170) hx hb dX12_shift_209 (by decide) ?_
                              rw [gMv_s] at h1
                              exact ih (x + 1) (by omega)   _ _ h1 hS _ (by have hl := lv_sub hl [1, 2, 3, 4, 5, 6, 0] rfl; exact hl)
                        exact loop (d - 0) 0 (by first | omega | simp)  _ _ h1 hS _ (lv_sub hl [1, 2, 3, 4, 5, 6, 0] rfl)
                      · have c19 : k = u := (gEq (a := k) (b := u) rfl rfl (by omega) (by omega)).mp c19
                        refine lv_iload_n hx hb dX12_shift_112 rfl (lv_at hl 2 rfl) ?_
                        refine lv_iload hx hb dX12_shift_113 (lv_at hl 4 rfl) ?_
                        refine lv_icmp_ge (tgt := 167) hx hb dX12_shift_115 (by decide) (fun c24 => ?_) (fun c24 => ?_)
                        · have c24 : w ≤ v := (gLe (a := w) (b := v) rfl rfl (by omega) (by omega)).mp c24
                          refine lv_iconst (v := 0) hx hb dX12_shift_167 (by decide) ?_
                          refine lv_istore (lv' := [(6, .int 0), (0, .ref b), (1, .int (nI k)), (2, .int (nI v)), (3, .int (nI u)), (4, .int (nI w)), (5, .int (nI d))]) hx hb dX12_shift_168 hl (by decide) rfl (fun ls hl => ?_)
                          have hne : k = u → ¬ v < w := fun z9 z8 => by exact absurd z9 (by omega)
                          rw [← gMv_0 g (60 * k + v) (60 * u + w)] at h1
                          have loop : ∀ (dx x : Nat), x + dx = d → ∀ (H : Heap) (locs : List Loc), gSg G b (gLM G b π μ f (gMv g (60 * k + v) (60 * u + w) x)) H → va_S (fun q => b ≤ q ∧ q < b + 30) s.heap H locs → ∀ ls, lv_has ls 7 [(0, .ref b), (1, .int (nI k)), (2, .int (nI v)), (3, .int (nI u)), (4, .int (nI w)), (5, .int (nI d)), (6, .int (nI x))] → W pp_ l ee_ (gRm 2 42) s mm_ aa_ below meth cc_ H locs 0 0 Q (F0 mm_ 170 ls []) := by
                            intro dx
                            induction dx with
                            | zero =>
                              intro x hk   H locs h1 hS ls hl
                              have hk : x = d := by omega
                              refine lv_iload hx hb dX12_shift_170 (lv_at hl 6 rfl) ?_
                              refine lv_iload hx hb dX12_shift_172 (lv_at hl 5 rfl) ?_
                              refine lv_icmp_ge (tgt := 212) hx hb dX12_shift_174 (by decide) (fun c25 => ?_) (fun c25 => ?_)
                              · have c25 : d ≤ x := (gLe (a := d) (b := x) rfl rfl (by omega) (by omega)).mp c25
                                refine lv_iload hx hb dX12_shift_212 (lv_at hl 5 rfl) ?_
                                rw [hk] at h1
                                rw [← hQ]
                                exact g_iret hx hb hr hlk hS dX12_shift_214 (by rw [show gqShift μ g (nI k) (nI v) (nI u) (nI w) (nI d) = (nI d, gMv g (60 * k + v) (60 * u + w) d) from by simp only [gqShift, if_pos c5, if_pos c10, if_neg c11, if_pos c12, if_pos c13, if_neg c14, if_neg c15, if_neg c16, if_neg (show ¬ (μ 3 k).toNatClampNeg < v + d from by rw [ez, nI_clamp (by omega)]; exact c17), if_neg (show ¬ (μ 3 u).toNatClampNeg < w + d from by rw [ey, nI_clamp (by omega)]; exact c18), nI_clamp (show k < 2 ^ 31 by omega), nI_clamp (show u < 2 ^ 31 by omega), nI_clamp (show d < 2 ^ 31 by omega), nI_clamp (show v < 2 ^ 31 by omega), nI_clamp (show w < 2 ^ 31 by omega)] <;> rfl]; exact ⟨rfl, h1⟩)
                              · have c25 : ¬ d ≤ x := fun z => c25 ((gLe (a := d) (b := x) rfl rfl (by omega) (by omega)).mpr z)
                                exact absurd c25 (by omega)
                            | succ dx ih =>
                              intro x hk   H locs h1 hS ls hl
                              refine lv_iload hx hb dX12_shift_170 (lv_at hl 6 rfl) ?_
                              refine lv_iload hx hb dX12_shift_172 (lv_at hl 5 rfl) ?_
                              refine lv_icmp_ge (tgt := 212) hx hb dX12_shift_174 (by decide) (fun c26 => ?_) (fun c26 => ?_)
                              · have c26 : d ≤ x := (gLe (a := d) (b := x) rfl rfl (by omega) (by omega)).mp c26
                                exact absurd c26 (by omega)
                              · have c26 : ¬ d ≤ x := fun z => c26 ((gLe (a := d) (b := x) rfl rfl (by omega) (by omega)).mpr z)
                                refine lv_aload_n hx hb dX12_shift_177 rfl (lv_at hl 0 rfl) ?_
                                refine g_get (v := .ref (b + 29)) (T := TX12) (ci := 12) (N := 45) hx hb hown hK (gY_X12 hT) rfl (h1 0 _ rfl) 44 (by decide) (hT _ gf_X12_97) rfl dX12_shift_178 ?_
                                refine lv_bipush (v := 60) hx hb dX12_shift_181 (by decide) ?_
                                refine lv_iload_n hx hb dX12_shift_183 rfl (lv_at hl 3 rfl) ?_
                                refine lv_imul hx hb dX12_shift_184 ?_
                                refine lv_iload hx hb dX12_shift_185 (lv_at hl 4 rfl) ?_
                                refine lv_iadd hx hb dX12_shift_187 ?_
                                refine lv_iload hx hb dX12_shift_188 (lv_at hl 6 rfl) ?_
                                refine lv_iadd hx hb dX12_shift_190 ?_
                                refine lv_aload_n hx hb dX12_shift_191 rfl (lv_at hl 0 rfl) ?_
                                refine g_get (v := .ref (b + 29)) (T := TX12) (ci := 12) (N := 45) hx hb hown hK (gY_X12 hT) rfl (h1 0 _ rfl) 44 (by decide) (hT _ gf_X12_97) rfl dX12_shift_192 ?_
                                refine lv_bipush (v := 60) hx hb dX12_shift_195 (by decide) ?_
                                refine lv_iload_n hx hb dX12_shift_197 rfl (lv_at hl 1 rfl) ?_
                                refine lv_imul hx hb dX12_shift_198 ?_
                                refine lv_iload_n hx hb dX12_shift_199 rfl (lv_at hl 2 rfl) ?_
                                refine lv_iadd hx hb dX12_shift_200 ?_
                                refine lv_iload hx hb dX12_shift_201 (lv_at hl 6 rfl) ?_
                                refine lv_iadd hx hb dX12_shift_203 ?_
                                refine g_la (j := ((60 * k) + v) + x) (v := g ((60 * k + v) + x)) hx hb hK (h1 29 _ rfl) (gAdd (gAdd (gMul rfl rfl) rfl) rfl) (by omega) (Nat.le_of_ble_eq_true rfl) (gMv_r g (60 * k + v) (60 * u + w) x (by omega)) dX12_shift_204 ?_
                                refine g_ls (j := ((60 * u) + w) + x) hx hb hK hS (h1 29 _ rfl) (gAdd (gAdd (gMul rfl rfl) rfl) rfl) (by omega) (Nat.le_of_ble_eq_true rfl) (by omega) dX12_shift_205 (fun H27 locs c28 oq hS => ?_)
                                have h1 : gSg G b (gLM G b π μ f (vp_updL (gMv g (60 * k + v) (60 * u + w) x) (((60 * u) + w) + x) (g ((60 * k + v) + x)))) H27 := gSg_set h1 29 c28 oq
                                refine lv_iinc (v := nI (x + 1)) (lv' := [(6, .int (nI (x + 1))), (0, .ref b), (1, .int (nI k)), (2, .int (nI v)), (3, .int (nI u)), (4, .int (nI w)), (5, .int (nI d))]) hx hb dX12_shift_206 hl (k := 6) rfl (gAdd rfl (show Int32.ofInt 1 = nI 1 from rfl)) (by decide) rfl (fun ls hl => ?_)
                                refine lv_goto (tgt := 170) hx hb dX12_shift_209 (by decide) ?_
                                rw [gMv_s] at h1
                                exact ih (x + 1) (by omega)   _ _ h1 hS _ (by have hl := lv_sub hl [1, 2, 3, 4, 5, 6, 0] rfl; exact hl)
                          exact loop (d - 0) 0 (by first | omega | simp)  _ _ h1 hS _ (lv_sub hl [1, 2, 3, 4, 5, 6, 0] rfl)
                        · have c24 : ¬ w ≤ v := fun z => c24 ((gLe (a := w) (b := v) rfl rfl (by omega) (by omega)).mpr z)
                          refine lv_iload hx hb dX12_shift_118 (lv_at hl 5 rfl) ?_
                          refine lv_iconst (v := 1) hx hb dX12_shift_120 (by decide) ?_
                          refine lv_isub hx hb dX12_shift_121 ?_
                          refine lv_istore (lv' := [(6, .int ((nI d) - 1)), (0, .ref b), (1, .int (nI k)), (2, .int (nI v)), (3, .int (nI u)), (4, .int (nI w)), (5, .int (nI d))]) hx hb dX12_shift_122 hl (by decide) rfl (fun ls hl => ?_)
                          rw [← gMb_0 g (60 * k + v) (60 * u + w) d] at h1
                          have hl : lv_has ls 7 [(6, .int ((nI d) - 1)), (0, .ref b), (1, .int (nI k)), (2, .int (nI v)), (3, .int (nI u)), (4, .int (nI w)), (5, .int (nI d))] := hl
                          have z0 : nI d - 1 = nI d - 1 - nI 0 := (Int32.sub_zero _).symm
                          rw [z0] at hl
                          have loop : ∀ (dx x : Nat), x + dx = d → ∀ (H : Heap) (locs : List Loc), gSg G b (gLM G b π μ f (gMb g (60 * k + v) (60 * u + w) d x)) H → va_S (fun q => b ≤ q ∧ q < b + 30) s.heap H locs → ∀ ls, lv_has ls 7 [(0, .ref b), (1, .int (nI k)), (2, .int (nI v)), (3, .int (nI u)), (4, .int (nI w)), (5, .int (nI d)), (6, .int (nI d - 1 - nI x))] → W pp_ l ee_ (gRm 2 42) s mm_ aa_ below meth cc_ H locs 0 0 Q (F0 mm_ 124 ls []) := by
                            intro dx
                            induction dx with
                            | zero =>
                              intro x hk   H locs h1 hS ls hl
                              have hk : x = d := by omega
                              refine lv_iload hx hb dX12_shift_124 (lv_at hl 6 rfl) ?_
                              refine lv_if_lt (tgt := 164) hx hb dX12_shift_126 (by decide) (fun c29 => ?_) (fun c29 => ?_)
                              · refine lv_goto (tgt := 212) hx hb dX12_shift_164 (by decide) ?_
                                refine lv_iload hx hb dX12_shift_212 (lv_at hl 5 rfl) ?_
                                rw [hk, gMb_n] at h1
                                rw [← hQ]
                                exact g_iret hx hb hr hlk hS dX12_shift_214 (by rw [show gqShift μ g (nI k) (nI v) (nI u) (nI w) (nI d) = (nI d, gMv g (60 * k + v) (60 * u + w) d) from by simp only [gqShift, if_pos c5, if_pos c10, if_neg c11, if_pos c12, if_pos c13, if_neg c14, if_neg c15, if_neg c16, if_neg (show ¬ (μ 3 k).toNatClampNeg < v + d from by rw [ez, nI_clamp (by omega)]; exact c17), if_neg (show ¬ (μ 3 u).toNatClampNeg < w + d from by rw [ey, nI_clamp (by omega)]; exact c18), nI_clamp (show k < 2 ^ 31 by omega), nI_clamp (show u < 2 ^ 31 by omega), nI_clamp (show d < 2 ^ 31 by omega), nI_clamp (show v < 2 ^ 31 by omega), nI_clamp (show w < 2 ^ 31 by omega)] <;> rfl]; exact ⟨rfl, h1⟩)
                              · exact absurd (show nI d - 1 - nI x < 0 from by rw [hk, gSb_e]; decide) c29
                            | succ dx ih =>
                              intro x hk   H locs h1 hS ls hl
                              refine lv_iload hx hb dX12_shift_124 (lv_at hl 6 rfl) ?_
                              refine lv_if_lt (tgt := 164) hx hb dX12_shift_126 (by decide) (fun c30 => ?_) (fun c30 => ?_)
                              · exact absurd c30 (by rw [gSb (by omega)]; exact nI_pos (by omega))
                              · rw [gSb (by omega)] at hl
                                refine lv_aload_n hx hb dX12_shift_129 rfl (lv_at hl 0 rfl) ?_
                                refine g_get (v := .ref (b + 29)) (T := TX12) (ci := 12) (N := 45) hx hb hown hK (gY_X12 hT) rfl (h1 0 _ rfl) 44 (by decide) (hT _ gf_X12_97) rfl dX12_shift_130 ?_
                                refine lv_bipush (v := 60) hx hb dX12_shift_133 (by decide) ?_
                                refine lv_iload_n hx hb dX12_shift_135 rfl (lv_at hl 3 rfl) ?_
                                refine lv_imul hx hb dX12_shift_136 ?_
                                refine lv_iload hx hb dX12_shift_137 (lv_at hl 4 rfl) ?_
                                refine lv_iadd hx hb dX12_shift_139 ?_
                                refine lv_iload hx hb dX12_shift_140 (lv_at hl 6 rfl) ?_
                                refine lv_iadd hx hb dX12_shift_142 ?_
                                refine lv_aload_n hx hb dX12_shift_143 rfl (lv_at hl 0 rfl) ?_
                                refine g_get (v := .ref (b + 29)) (T := TX12) (ci := 12) (N := 45) hx hb hown hK (gY_X12 hT) rfl (h1 0 _ rfl) 44 (by decide) (hT _ gf_X12_97) rfl dX12_shift_144 ?_
                                refine lv_bipush (v := 60) hx hb dX12_shift_147 (by decide) ?_
                                refine lv_iload_n hx hb dX12_shift_149 rfl (lv_at hl 1 rfl) ?_
                                refine lv_imul hx hb dX12_shift_150 ?_
                                refine lv_iload_n hx hb dX12_shift_151 rfl (lv_at hl 2 rfl) ?_
                                refine lv_iadd hx hb dX12_shift_152 ?_
                                refine lv_iload hx hb dX12_shift_153 (lv_at hl 6 rfl) ?_
                                refine lv_iadd hx hb dX12_shift_155 ?_
                                refine g_la (j := ((60 * k) + v) + (d - 1 - x)) (v := g ((60 * k + v) + (d - 1 - x))) hx hb hK (h1 29 _ rfl) (gAdd (gAdd (gMul rfl rfl) rfl) rfl) (by omega) (Nat.le_of_ble_eq_true rfl) (gMb_r g (60 * k + v) (60 * u + w) d x (by omega) (by omega)) dX12_shift_156 ?_
                                refine g_ls (j := ((60 * u) + w) + (d - 1 - x)) hx hb hK hS (h1 29 _ rfl) (gAdd (gAdd (gMul rfl rfl) rfl) rfl) (by omega) (Nat.le_of_ble_eq_true rfl) (by omega) dX12_shift_157 (fun H31 locs c32 oq hS => ?_)
                                have h1 : gSg G b (gLM G b π μ f (vp_updL (gMb g (60 * k + v) (60 * u + w) d x) (((60 * u) + w) + (d - 1 - x)) (g ((60 * k + v) + (d - 1 - x))))) H31 := gSg_set h1 29 c32 oq
                                refine lv_iinc (v := (nI (d - 1 - x)) + (-1)) (lv' := [(6, .int ((nI (d - 1 - x)) + (-1))), (0, .ref b), (1, .int (nI k)), (2, .int (nI v)), (3, .int (nI u)), (4, .int (nI w)), (5, .int (nI d))]) hx hb dX12_shift_158 hl (k := 6) rfl rfl (by decide) rfl (fun ls hl => ?_)
                                refine lv_goto (tgt := 124) hx hb dX12_shift_161 (by decide) ?_
                                rw [gMb_s _ _ _ _ _ (by omega)] at h1
                                exact ih (x + 1) (by omega)   _ _ h1 hS _ (by have hl := lv_sub hl [1, 2, 3, 4, 5, 6, 0] rfl; rw [show ((nI (d - 1 - x)) + (-1) : Int32) = nI d - 1 - nI (x + 1) from gSb_s (by omega)] at hl; exact hl)
                          exact loop (d - 0) 0 (by first | omega | simp)  _ _ h1 hS _ (lv_sub hl [1, 2, 3, 4, 5, 6, 0] rfl)
                    · rw [lg_cmp_le, nI_l (by omega), nI_l (by omega), lN_add, ey, nI_l (by omega), ← Int64.not_lt, lN_lt9 (by omega) (by omega)] at c18
                      refine lv_bipush (v := (-13)) hx hb dX12_shift_104 (by decide) ?_
                      rw [← hQ]
                      exact g_iret hx hb hr hlk hS dX12_shift_106 (by rw [show gqShift μ g (nI k) (nI v) (nI u) (nI w) (nI d) = ((-13), g) from by simp only [gqShift, if_pos c5, if_pos c10, if_neg c11, if_pos c12, if_pos c13, if_neg c14, if_neg c15, if_neg c16, if_neg (show ¬ (μ 3 k).toNatClampNeg < v + d from by rw [ez, nI_clamp (by omega)]; exact c17), if_pos (show (μ 3 u).toNatClampNeg < w + d from by rw [ey, nI_clamp (by omega)]; exact Decidable.not_not.mp c18), nI_clamp (show k < 2 ^ 31 by omega), nI_clamp (show u < 2 ^ 31 by omega), nI_clamp (show d < 2 ^ 31 by omega), nI_clamp (show v < 2 ^ 31 by omega), nI_clamp (show w < 2 ^ 31 by omega)] <;> rfl]; exact ⟨rfl, h1⟩)
          · refine lv_bipush (v := (-12)) hx hb dX12_shift_52 (by decide) ?_
            rw [← hQ]
            exact g_iret hx hb hr hlk hS dX12_shift_54 (by rw [show gqShift μ g (nI k) i (nI u) j n = ((-12), g) from by simp only [gqShift, if_pos c5, if_pos c10, if_neg c11, if_pos c12, if_neg c13, nI_clamp (show k < 2 ^ 31 by omega), nI_clamp (show u < 2 ^ 31 by omega)] <;> rfl]; exact ⟨rfl, h1⟩)
        · refine lv_bipush (v := (-11)) hx hb dX12_shift_34 (by decide) ?_
          rw [← hQ]
          exact g_iret hx hb hr hlk hS dX12_shift_36 (by rw [show gqShift μ g (nI k) i (nI u) j n = ((-11), g) from by simp only [gqShift, if_pos c5, if_pos c10, if_neg c11, if_neg c12, nI_clamp (show k < 2 ^ 31 by omega), nI_clamp (show u < 2 ^ 31 by omega)] <;> rfl]; exact ⟨rfl, h1⟩)
    · have c10 : ¬ (0 ≤ o ∧ o ≤ 5) := gB_0.mp c10
      refine lv_iconst (v := (-1)) hx hb dX12_shift_14 (by decide) ?_
      rw [← hQ]
      exact g_iret hx hb hr hlk hS dX12_shift_15 (by rw [show gqShift μ g (nI k) i o j n = ((-1), g) from by simp only [gqShift, if_pos c5, if_neg c10, nI_clamp (show k < 2 ^ 31 by omega)] <;> rfl]; exact ⟨rfl, h1⟩)
