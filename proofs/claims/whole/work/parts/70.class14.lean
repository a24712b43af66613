set_option maxHeartbeats 4000000 in
set_option maxRecDepth 100000 in
theorem c_X11_isPigeon (l : Launch) (G : gW) (B lp : Nat) (π ρ μ : gPS) (n : Nat) (hz : π 15 0 = nI n) (hn : n ≤ 4096) (x : Int32) : gCI l yX11_isPigeon cX11_isPigeon 2 .boolean (gRm 0 0) G [.ref B, .int x] (fun H => gSg G B (gLO G B μ) H ∧ gSg G (B + 1) (gLS G (B + 1) π lp ρ) H) (fun r H => r = gB (0 ≤ x ∧ x < π 15 0)) (fun _ => False) := by
  refine g_start (by decide) (Nat.le_of_ble_eq_true rfl) ?_
  intro pp_ ee_ s mm_ aa_ below meth cc_ ls Q hQ hX hE hP hl
  obtain ⟨hx, hb, hr, hml, hown, hT, hlk, hnm⟩ := hX
  have hK := hE.2.1
  obtain ⟨zO, h1⟩ := hP
  have hS : va_S (fun _ => False) s.heap s.heap [] := va_S.rf
  have hl : lv_has ls 2 [(0, .ref B), (1, .int x)] := hl
  refine lv_iload_n hx hb dX11_isPigeon_0 rfl (lv_at hl 1 rfl) ?_
  refine lv_if_lt (tgt := 19) hx hb dX11_isPigeon_1 (by decide) (fun c1 => ?_) (fun c1 => ?_)
  · refine lv_iconst (v := 0) hx hb dX11_isPigeon_19 (by decide) ?_
    rw [← hQ]
    exact g_zret hx hb hr hlk rfl hS dX11_isPigeon_20 (gB_f (fun z => absurd z.1 (Int32.not_le.mpr c1))).symm
  · refine lv_iload_n hx hb dX11_isPigeon_4 rfl (lv_at hl 1 rfl) ?_
    refine lv_aload_n hx hb dX11_isPigeon_5 rfl (lv_at hl 0 rfl) ?_
    refine g_get (v := .ref (B + 1)) (T := TX11) (ci := 11) (N := 13) hx hb hown hK (gY_X11 hT) rfl (zO 0 _ rfl) 0 (by decide) (hT _ gf_X11_12) rfl dX11_isPigeon_6 ?_
    refine g_get (v := .int (π 15 0)) (T := TX9) (ci := 9) (N := 16) hx hb hown hK (gY_X9 hT) rfl (h1 0 _ rfl) 12 (by decide) (hT _ gf_X11_61) rfl dX11_isPigeon_9 ?_
    refine lv_icmp_ge (tgt := 19) hx hb dX11_isPigeon_12 (by decide) (fun c2 => ?_) (fun c2 => ?_)
    · refine lv_iconst (v := 0) hx hb dX11_isPigeon_19 (by decide) ?_
      rw [← hQ]
      exact g_zret hx hb hr hlk rfl hS dX11_isPigeon_20 (gB_f (fun z => absurd z.2 (Int32.not_lt.mpr c2))).symm
    · refine lv_iconst (v := 1) hx hb dX11_isPigeon_15 (by decide) ?_
      refine lv_goto (tgt := 20) hx hb dX11_isPigeon_16 (by decide) ?_
      rw [← hQ]
      exact g_zret hx hb hr hlk rfl hS dX11_isPigeon_20 (gB_t ⟨Int32.not_lt.mp c1, Int32.not_le.mp c2⟩).symm

set_option maxHeartbeats 4000000 in
set_option maxRecDepth 100000 in
theorem c_X11_spareOf (l : Launch) (G : gW) (B lp : Nat) (π ρ f μ : gPS) (acc : List (Nat × Nat × List Nat)) (hcl : gClo f acc) (hlp : lp = B + 23 ∨ lp = B + 58 ∨ lp = B + 93 ∨ (B + 120 ≤ lp ∧ lp + 6 ≤ B + 156)) (hki : ∀ k, k < 6 → ∃ z, z < 7 ∧ π 2 k = nI z) (p : Nat) (hp : p < 6) : gCI l yX11_spareOf cX11_spareOf 7 .int (gRm 4 98) G [.ref B, .int (nI p)] (fun H => gSg G B (gLO G B μ) H ∧ gSt G (B + 1) lp π ρ f H) (fun r H => r = (gSpa π (gLof acc) p 12).1 ∧ gSt G (B + 1) lp π ρ f H) (fun q => lp ≤ q ∧ q < lp + 6) := by
  refine g_start (by decide) (Nat.le_of_ble_eq_true rfl) ?_
  intro pp_ ee_ s mm_ aa_ below meth cc_ ls Q hQ hX hE hP hl
  obtain ⟨hx, hb, hr, hml, hown, hT, hlk, hnm⟩ := hX
  have hK := hE.2.1
  obtain ⟨zO, h1, hk7, s4, h2⟩ := hP
  have hS : va_S (fun q => lp ≤ q ∧ q < lp + 6) s.heap s.heap [] := va_S.rf
  have hl : lv_has ls 7 [(0, .ref B), (1, .int (nI p))] := hl
  have hd1 : lp + 6 ≤ B + 1 ∨ lp = B + 1 + 22 ∨ B + 1 + 35 ≤ lp := by omega
  obtain ⟨kd, hkd, ek⟩ := hki p hp
  refine lv_aload_n hx hb dX11_spareOf_0 rfl (lv_at hl 0 rfl) ?_
  refine g_get (v := .ref (B + 1)) (T := TX11) (ci := 11) (N := 13) hx hb hown hK (gY_X11 hT) rfl (zO 0 _ rfl) 0 (by decide) (hT _ gf_X11_12) rfl dX11_spareOf_1 ?_
  refine g_get (v := .ref (B + 1 + 6)) (T := TX9) (ci := 9) (N := 16) hx hb hown hK (gY_X9 hT) rfl (h1 0 _ rfl) 5 (by decide) (hT _ gf_X11_79) rfl dX11_spareOf_4 ?_
  refine lv_iload_n hx hb dX11_spareOf_7 rfl (lv_at hl 1 rfl) ?_
  refine g_ia (j := p) (v := π 4 p) hx hb hK (h1 6 _ rfl) rfl (by omega) (Nat.le_of_ble_eq_true rfl) rfl dX11_spareOf_8 ?_
  refine lv_istore_n (lv' := [(2, .int (π 4 p)), (0, .ref B), (1, .int (nI p))]) hx hb dX11_spareOf_9 rfl hl (by decide) rfl (fun ls hl => ?_)
  refine lv_bipush (v := (-5)) hx hb dX11_spareOf_10 (by decide) ?_
  refine lv_istore_n (lv' := [(3, .int (-5)), (2, .int (π 4 p)), (0, .ref B), (1, .int (nI p))]) hx hb dX11_spareOf_12 rfl hl (by decide) rfl (fun ls hl => ?_)
  refine lv_aload_n hx hb dX11_spareOf_13 rfl (lv_at hl 2 rfl) ?_
  refine g_get (v := .ref (B + 1)) (T := TX11) (ci := 11) (N := 13) hx hb hown hK (gY_X11 hT) rfl (zO 0 _ rfl) 0 (by decide) (hT _ gf_X11_12) rfl dX11_spareOf_14 ?_
  refine lv_iload_n hx hb dX11_spareOf_17 rfl (lv_at hl 3 rfl) ?_
  refine lv_iload_n hx hb dX11_spareOf_18 rfl (lv_at hl 1 rfl) ?_
  refine g_ki (g_runV (T := TX9) (ci := 9) (N := 16) (rest := []) hx hb hml hown hE hT (c_X9_gladness l G (B + 1) lp π ρ f hd1 acc hcl p (by omega) kd hkd ek (π 4 p)) gM_X9_gladness gm_X11_95 gi_X9_gladness gs_RX9_yX9_gladness_yX9_gladness rfl (h1 0 _ rfl) ⟨h1, hk7, _, h2⟩ rfl hl.1 ⟨rfl, rfl⟩ ⟨Nat.le_of_ble_eq_true rfl, Nat.le_of_ble_eq_true rfl⟩ ⟨Nat.zero_le _, Nat.zero_le _⟩ rfl (Nat.le_of_ble_eq_true rfl) dX11_spareOf_19) hS (by intro q hq; omega) (fun r4 H1 locs q2 k3 hS => ?_)
  obtain ⟨e9, h1, hk7, s4, h2⟩ := q2
  rw [e9]
  have zO := gSg_free zO k3 (by intro k hk q; simp only [List.length_cons, List.length_nil] at hk; omega)
  refine lv_istore (lv' := [(4, .int (gJoy π (gLof acc) p (π 4 p))), (3, .int (-5)), (2, .int (π 4 p)), (0, .ref B), (1, .int (nI p))]) hx hb dX11_spareOf_22 hl (by decide) rfl (fun ls hl => ?_)
  refine lv_iconst (v := 0) hx hb dX11_spareOf_24 (by decide) ?_
  refine lv_istore (lv' := [(5, .int 0), (4, .int (gJoy π (gLof acc) p (π 4 p))), (3, .int (-5)), (2, .int (π 4 p)), (0, .ref B), (1, .int (nI p))]) hx hb dX11_spareOf_25 hl (by decide) rfl (fun ls hl => ?_)
  have loop : ∀ (d k : Nat), k + d = 12 → ∀ (s4 : Nat → Int32), ∀ (H : Heap) (locs : List Loc), gSg G B (gLO G B μ) H → gSg G (B + 1) (gLS G (B + 1) π lp ρ) H → gSg G (B + 1 + 28) (gKk G (B + 1 + 28) ) H → gSg G lp (gLL G lp (gR f 4 s4)) H → va_S (fun q => lp ≤ q ∧ q < lp + 6) s.heap H locs → ∀ ls, lv_has ls 7 [(0, .ref B), (1, .int (nI p)), (2, .int (π 4 p)), (3, .int ((gSpa π (gLof acc) p k).1)), (4, .int ((gSpa π (gLof acc) p k).2)), (5, .int (nI k))] → W pp_ l ee_ (gRm 4 98) s mm_ aa_ below meth cc_ H locs 0 0 Q (F0 mm_ 27 ls []) := by
    intro d
    induction d with
    | zero =>
      intro k hk s4  H locs zO h1 hk7 h2 hS ls hl
      have hk : k = 12 := by omega
      refine lv_iload hx hb dX11_spareOf_27 (lv_at hl 5 rfl) ?_
      refine lv_bipush (v := 12) hx hb dX11_spareOf_29 (by decide) ?_
      refine lv_icmp_ge (tgt := 81) hx hb dX11_spareOf_31 (by decide) (fun c5 => ?_) (fun c5 => ?_)
      · have c5 : 12 ≤ k := (gLe (a := 12) (b := k) rfl rfl (by omega) (by omega)).mp c5
        refine lv_iload_n hx hb dX11_spareOf_81 rfl (lv_at hl 3 rfl) ?_
        rw [← hQ]
        exact g_iret hx hb hr hlk hS dX11_spareOf_82 ⟨by rw [hk], h1, hk7, _, h2⟩
      · have c5 : ¬ 12 ≤ k := fun z => c5 ((gLe (a := 12) (b := k) rfl rfl (by omega) (by omega)).mpr z)
        exact absurd c5 (by omega)
    | succ d ih =>
      intro k hk s4  H locs zO h1 hk7 h2 hS ls hl
      refine lv_iload hx hb dX11_spareOf_27 (lv_at hl 5 rfl) ?_
      refine lv_bipush (v := 12) hx hb dX11_spareOf_29 (by decide) ?_
      refine lv_icmp_ge (tgt := 81) hx hb dX11_spareOf_31 (by decide) (fun c6 => ?_) (fun c6 => ?_)
      · have c6 : 12 ≤ k := (gLe (a := 12) (b := k) rfl rfl (by omega) (by omega)).mp c6
        exact absurd c6 (by omega)
      · have c6 : ¬ 12 ≤ k := fun z => c6 ((gLe (a := 12) (b := k) rfl rfl (by omega) (by omega)).mpr z)
        refine lv_iload_n hx hb dX11_spareOf_34 rfl (lv_at hl 2 rfl) ?_
        refine lv_iload hx hb dX11_spareOf_35 (lv_at hl 5 rfl) ?_
        refine lv_ishr hx hb dX11_spareOf_37 ?_
        refine lv_iconst (v := 1) hx hb dX11_spareOf_38 (by decide) ?_
        refine lv_iand hx hb dX11_spareOf_39 ?_
        refine lv_if_eq (tgt := 75) hx hb dX11_spareOf_40 (by decide) (fun c7 => ?_) (fun c7 => ?_)
        · refine lv_iinc (v := nI (k + 1)) (lv' := [(5, .int (nI (k + 1))), (0, .ref B), (1, .int (nI p)), (2, .int (π 4 p)), (3, .int ((gSpa π (gLof acc) p k).1)), (4, .int ((gSpa π (gLof acc) p k).2))]) hx hb dX11_spareOf_75 hl (k := 5) rfl (gAdd rfl (show Int32.ofInt 1 = nI 1 from rfl)) (by decide) rfl (fun ls hl => ?_)
          refine lv_goto (tgt := 27) hx hb dX11_spareOf_78 (by decide) ?_
          exact ih (k + 1) (by omega) s4  _ _ zO h1 hk7 h2 hS _ (by have hl := lv_sub hl [1, 2, 3, 4, 5, 0] rfl; rw [show ((gSpa π (gLof acc) p k).1 : Int32) = (gSpa π (gLof acc) p (k + 1)).1 from by rw [gSpa, if_pos c7]] at hl; rw [show ((gSpa π (gLof acc) p k).2 : Int32) = (gSpa π (gLof acc) p (k + 1)).2 from by rw [gSpa, if_pos c7]] at hl; exact hl)
        · refine lv_aload_n hx hb dX11_spareOf_43 rfl (lv_at hl 0 rfl) ?_
          refine g_get (v := .ref (B + 1)) (T := TX11) (ci := 11) (N := 13) hx hb hown hK (gY_X11 hT) rfl (zO 0 _ rfl) 0 (by decide) (hT _ gf_X11_12) rfl dX11_spareOf_44 ?_
          refine lv_iload_n hx hb dX11_spareOf_47 rfl (lv_at hl 1 rfl) ?_
          refine lv_iload_n hx hb dX11_spareOf_48 rfl (lv_at hl 2 rfl) ?_
          refine lv_iconst (v := 1) hx hb dX11_spareOf_49 (by decide) ?_
          refine lv_iload hx hb dX11_spareOf_50 (lv_at hl 5 rfl) ?_
          refine lv_ishl hx hb dX11_spareOf_52 ?_
          refine lv_iconst (v := (-1)) hx hb dX11_spareOf_53 (by decide) ?_
          refine lv_ixor hx hb dX11_spareOf_54 ?_
          refine lv_iand hx hb dX11_spareOf_55 ?_
          refine g_ki (g_runV (T := TX9) (ci := 9) (N := 16) (rest := []) hx hb hml hown hE hT (c_X9_gladness l G (B + 1) lp π ρ f hd1 acc hcl p (by omega) kd hkd ek ((π 4 p) &&& ((1 <<< ((nI k) &&& 31)) ^^^ (-1)))) gM_X9_gladness gm_X11_95 gi_X9_gladness gs_RX9_yX9_gladness_yX9_gladness rfl (h1 0 _ rfl) ⟨h1, hk7, _, h2⟩ rfl hl.1 ⟨rfl, rfl⟩ ⟨Nat.le_of_ble_eq_true rfl, Nat.le_of_ble_eq_true rfl⟩ ⟨Nat.zero_le _, Nat.zero_le _⟩ rfl (Nat.le_of_ble_eq_true rfl) dX11_spareOf_56) hS (by intro q hq; omega) (fun r11 H8 locs q9 k10 hS => ?_)
          obtain ⟨e9, h1, hk7, s4, h2⟩ := q9
          rw [e9]
          have zO := gSg_free zO k10 (by intro k hk q; simp only [List.length_cons, List.length_nil] at hk; omega)
          refine lv_istore (lv' := [(6, .int (gJoy π (gLof acc) p ((π 4 p) &&& ((1 <<< ((nI k) &&& 31)) ^^^ (-1))))), (0, .ref B), (1, .int (nI p)), (2, .int (π 4 p)), (3, .int ((gSpa π (gLof acc) p k).1)), (4, .int ((gSpa π (gLof acc) p k).2)), (5, .int (nI k))]) hx hb dX11_spareOf_59 hl (by decide) rfl (fun ls hl => ?_)
          refine lv_iload hx hb dX11_spareOf_61 (lv_at hl 0 rfl) ?_
          refine lv_iload hx hb dX11_spareOf_63 (lv_at hl 5 rfl) ?_
          refine lv_icmp_le (tgt := 75) hx hb dX11_spareOf_65 (by decide) (fun c12 => ?_) (fun c12 => ?_)
          · refine lv_iinc (v := nI (k + 1)) (lv' := [(5, .int (nI (k + 1))), (6, .int (gJoy π (gLof acc) p ((π 4 p) &&& ((1 <<< ((nI k) &&& 31)) ^^^ (-1))))), (0, .ref B), (1, .int (nI p)), (2, .int (π 4 p)), (3, .int ((gSpa π (gLof acc) p k).1)), (4, .int ((gSpa π (gLof acc) p k).2))]) hx hb dX11_spareOf_75 hl (k := 6) rfl (gAdd rfl (show Int32.ofInt 1 = nI 1 from rfl)) (by decide) rfl (fun ls hl => ?_)
            refine lv_goto (tgt := 27) hx hb dX11_spareOf_78 (by decide) ?_
            exact ih (k + 1) (by omega) s4  _ _ zO h1 hk7 h2 hS _ (by have hl := lv_sub hl [2, 3, 4, 5, 6, 0] rfl; rw [show ((gSpa π (gLof acc) p k).1 : Int32) = (gSpa π (gLof acc) p (k + 1)).1 from by rw [gSpa, if_neg c7, if_pos c12]] at hl; rw [show ((gSpa π (gLof acc) p k).2 : Int32) = (gSpa π (gLof acc) p (k + 1)).2 from by rw [gSpa, if_neg c7, if_pos c12]] at hl; exact hl)
          · refine lv_iload hx hb dX11_spareOf_68 (lv_at hl 6 rfl) ?_
            refine lv_istore_n (lv' := [(3, .int (nI k)), (6, .int (gJoy π (gLof acc) p ((π 4 p) &&& ((1 <<< ((nI k) &&& 31)) ^^^ (-1))))), (0, .ref B), (1, .int (nI p)), (2, .int (π 4 p)), (4, .int ((gSpa π (gLof acc) p k).2)), (5, .int (nI k))]) hx hb dX11_spareOf_70 rfl hl (by decide) rfl (fun ls hl => ?_)
            refine lv_iload hx hb dX11_spareOf_71 (lv_at hl 1 rfl) ?_
            refine lv_istore (lv' := [(4, .int (gJoy π (gLof acc) p ((π 4 p) &&& ((1 <<< ((nI k) &&& 31)) ^^^ (-1))))), (3, .int (nI k)), (6, .int (gJoy π (gLof acc) p ((π 4 p) &&& ((1 <<< ((nI k) &&& 31)) ^^^ (-1))))), (0, .ref B), (1, .int (nI p)), (2, .int (π 4 p)), (5, .int (nI k))]) hx hb dX11_spareOf_73 hl (by decide) rfl (fun ls hl => ?_)
            refine lv_iinc (v := nI (k + 1)) (lv' := [(5, .int (nI (k + 1))), (4, .int (gJoy π (gLof acc) p ((π 4 p) &&& ((1 <<< ((nI k) &&& 31)) ^^^ (-1))))), (3, .int (nI k)), (6, .int (gJoy π (gLof acc) p ((π 4 p) &&& ((1 <<< ((nI k) &&& 31)) ^^^ (-1))))), (0, .ref B), (1, .int (nI p)), (2, .int (π 4 p))]) hx hb dX11_spareOf_75 hl (k := 6) rfl (gAdd rfl (show Int32.ofInt 1 = nI 1 from rfl)) (by decide) rfl (fun ls hl => ?_)
            refine lv_goto (tgt := 27) hx hb dX11_spareOf_78 (by decide) ?_
            exact ih (k + 1) (by omega) s4  _ _ zO h1 hk7 h2 hS _ (by have hl := lv_sub hl [4, 5, 6, 2, 1, 0] rfl; rw [show (gJoy π (gLof acc) p ((π 4 p) &&& ((1 <<< ((nI k) &&& 31)) ^^^ (-1))) : Int32) = (gSpa π (gLof acc) p (k + 1)).2 from by rw [gSpa, if_neg c7, if_neg c12]] at hl; rw [show (nI k : Int32) = (gSpa π (gLof acc) p (k + 1)).1 from by rw [gSpa, if_neg c7, if_neg c12]] at hl; exact hl)
  exact loop (12 - 0) 0 (by first | omega | simp) s4 _ _ zO h1 hk7 h2 hS _ (lv_sub hl [4, 5, 3, 2, 1, 0] rfl)

set_option maxHeartbeats 4000000 in
set_option maxRecDepth 100000 in
theorem c_X11_willing (l : Launch) (G : gW) (B lp : Nat) (π ρ f μ : gPS) (acc : List (Nat × Nat × List Nat)) (hcl : gClo f acc) (hlp : lp = B + 23 ∨ lp = B + 58 ∨ lp = B + 93 ∨ (B + 120 ≤ lp ∧ lp + 6 ≤ B + 156)) (n : Nat) (hz : π 15 0 = nI n) (hn : n ≤ 6) (hki : ∀ k, k < 6 → ∃ z, z < 7 ∧ π 2 k = nI z) : gCI l yX11_willing cX11_willing 3 .int (gRm 5 119) G [.ref B] (fun H => gSg G B (gLO G B μ) H ∧ gSt G (B + 1) lp π ρ f H) (fun r H => r = gRdy π (gLof acc) n ∧ gSt G (B + 1) lp π ρ f H) (fun q => lp ≤ q ∧ q < lp + 6) := by
  refine g_start (by decide) (Nat.le_of_ble_eq_true rfl) ?_
  intro pp_ ee_ s mm_ aa_ below meth cc_ ls Q hQ hX hE hP hl
  obtain ⟨hx, hb, hr, hml, hown, hT, hlk, hnm⟩ := hX
  have hK := hE.2.1
  obtain ⟨zO, h1, hk7, s4, h2⟩ := hP
  have hS : va_S (fun q => lp ≤ q ∧ q < lp + 6) s.heap s.heap [] := va_S.rf
  have hl : lv_has ls 3 [(0, .ref B)] := hl
  have hd1 : lp + 6 ≤ B + 1 ∨ lp = B + 1 + 22 ∨ B + 1 + 35 ≤ lp := by omega
  refine lv_iconst (v := 0) hx hb dX11_willing_0 (by decide) ?_
  refine lv_istore_n (lv' := [(1, .int 0), (0, .ref B)]) hx hb dX11_willing_1 rfl hl (by decide) rfl (fun ls hl => ?_)
  refine lv_iconst (v := 0) hx hb dX11_willing_2 (by decide) ?_
  refine lv_istore_n (lv' := [(2, .int 0), (1, .int 0), (0, .ref B)]) hx hb dX11_willing_3 rfl hl (by decide) rfl (fun ls hl => ?_)
  have loop : ∀ (d k : Nat), k + d = n → ∀ (s4 : Nat → Int32), ∀ (H : Heap) (locs : List Loc), gSg G B (gLO G B μ) H → gSg G (B + 1) (gLS G (B + 1) π lp ρ) H → gSg G (B + 1 + 28) (gKk G (B + 1 + 28) ) H → gSg G lp (gLL G lp (gR f 4 s4)) H → va_S (fun q => lp ≤ q ∧ q < lp + 6) s.heap H locs → ∀ ls, lv_has ls 3 [(0, .ref B), (1, .int (gRdy π (gLof acc) k)), (2, .int (nI k))] → W pp_ l ee_ (gRm 5 119) s mm_ aa_ below meth cc_ H locs 0 0 Q (F0 mm_ 4 ls []) := by
    intro d
    induction d with
    | zero =>
      intro k hk s4  H locs zO h1 hk7 h2 hS ls hl
      have hk : k = n := by omega
      refine lv_iload_n hx hb dX11_willing_4 rfl (lv_at hl 2 rfl) ?_
      refine lv_aload_n hx hb dX11_willing_5 rfl (lv_at hl 0 rfl) ?_
      refine g_get (v := .ref (B + 1)) (T := TX11) (ci := 11) (N := 13) hx hb hown hK (gY_X11 hT) rfl (zO 0 _ rfl) 0 (by decide) (hT _ gf_X11_12) rfl dX11_willing_6 ?_
      refine g_get (v := .int (π 15 0)) (T := TX9) (ci := 9) (N := 16) hx hb hown hK (gY_X9 hT) rfl (h1 0 _ rfl) 12 (by decide) (hT _ gf_X11_61) rfl dX11_willing_9 ?_
      refine lv_icmp_ge (tgt := 38) hx hb dX11_willing_12 (by decide) (fun c1 => ?_) (fun c1 => ?_)
      · have c1 : n ≤ k := (gLe (a := n) (b := k) hz rfl (by omega) (by omega)).mp c1
        refine lv_iload_n hx hb dX11_willing_38 rfl (lv_at hl 1 rfl) ?_
        rw [← hQ]
        exact g_iret hx hb hr hlk hS dX11_willing_39 ⟨by rw [hk], h1, hk7, _, h2⟩
      · have c1 : ¬ n ≤ k := fun z => c1 ((gLe (a := n) (b := k) hz rfl (by omega) (by omega)).mpr z)
        exact absurd c1 (by omega)
    | succ d ih =>
      intro k hk s4  H locs zO h1 hk7 h2 hS ls hl
      refine lv_iload_n hx hb dX11_willing_4 rfl (lv_at hl 2 rfl) ?_
      refine lv_aload_n hx hb dX11_willing_5 rfl (lv_at hl 0 rfl) ?_
      refine g_get (v := .ref (B + 1)) (T := TX11) (ci := 11) (N := 13) hx hb hown hK (gY_X11 hT) rfl (zO 0 _ rfl) 0 (by decide) (hT _ gf_X11_12) rfl dX11_willing_6 ?_
      refine g_get (v := .int (π 15 0)) (T := TX9) (ci := 9) (N := 16) hx hb hown hK (gY_X9 hT) rfl (h1 0 _ rfl) 12 (by decide) (hT _ gf_X11_61) rfl dX11_willing_9 ?_
      refine lv_icmp_ge (tgt := 38) hx hb dX11_willing_12 (by decide) (fun c2 => ?_) (fun c2 => ?_)
      · have c2 : n ≤ k := (gLe (a := n) (b := k) hz rfl (by omega) (by omega)).mp c2
        exact absurd c2 (by omega)
      · have c2 : ¬ n ≤ k := fun z => c2 ((gLe (a := n) (b := k) hz rfl (by omega) (by omega)).mpr z)
        refine lv_aload_n hx hb dX11_willing_15 rfl (lv_at hl 0 rfl) ?_
        refine g_get (v := .ref (B + 1)) (T := TX11) (ci := 11) (N := 13) hx hb hown hK (gY_X11 hT) rfl (zO 0 _ rfl) 0 (by decide) (hT _ gf_X11_12) rfl dX11_willing_16 ?_
        refine lv_iload_n hx hb dX11_willing_19 rfl (lv_at hl 2 rfl) ?_
        obtain ⟨kd, hkd, ek⟩ := hki k (by omega)
        refine g_ki (g_runV (T := TX9) (ci := 9) (N := 16) (rest := []) hx hb hml hown hE hT (c_X9_willFlyOff l G (B + 1) lp π ρ f hd1 acc hcl k (by omega) kd hkd ek) gM_X9_willFlyOff gm_X11_88 gi_X9_willFlyOff gs_RX9_yX9_willFlyOff_yX9_willFlyOff rfl (h1 0 _ rfl) ⟨h1, hk7, _, h2⟩ rfl hl.1 ⟨rfl, rfl⟩ ⟨Nat.le_of_ble_eq_true rfl, Nat.le_of_ble_eq_true rfl⟩ ⟨Nat.zero_le _, Nat.zero_le _⟩ rfl (Nat.le_of_ble_eq_true rfl) dX11_willing_20) hS (by intro q hq; omega) (fun r6 H3 locs q4 k5 hS => ?_)
        obtain ⟨e9, h1, hk7, s4, h2⟩ := q4
        rw [e9]
        have zO := gSg_free zO k5 (by intro k hk q; simp only [List.length_cons, List.length_nil] at hk; omega)
        refine lv_if_eq (tgt := 32) hx hb dX11_willing_23 (by decide) (fun c7 => ?_) (fun c7 => ?_)
        · have c7 : ¬ (gFly π (gLof acc) k) := gB_0.mp c7
          refine lv_iinc (v := nI (k + 1)) (lv' := [(2, .int (nI (k + 1))), (0, .ref B), (1, .int (gRdy π (gLof acc) k))]) hx hb dX11_willing_32 hl (k := 2) rfl (gAdd rfl (show Int32.ofInt 1 = nI 1 from rfl)) (by decide) rfl (fun ls hl => ?_)
          refine lv_goto (tgt := 4) hx hb dX11_willing_35 (by decide) ?_
          exact ih (k + 1) (by omega) s4  _ _ zO h1 hk7 h2 hS _ (by have hl := lv_sub hl [1, 2, 0] rfl; rw [show (gRdy π (gLof acc) k : Int32) = gRdy π (gLof acc) (k + 1) from by rw [gRdy, if_neg c7]] at hl; exact hl)
        · have c7 : gFly π (gLof acc) k := gB_1.mp c7
          refine lv_iload_n hx hb dX11_willing_26 rfl (lv_at hl 1 rfl) ?_
          refine lv_iconst (v := 1) hx hb dX11_willing_27 (by decide) ?_
          refine lv_iload_n hx hb dX11_willing_28 rfl (lv_at hl 2 rfl) ?_
          refine lv_ishl hx hb dX11_willing_29 ?_
          refine lv_ior hx hb dX11_willing_30 ?_
          refine lv_istore_n (lv' := [(1, .int ((gRdy π (gLof acc) k) ||| (1 <<< ((nI k) &&& 31)))), (0, .ref B), (2, .int (nI k))]) hx hb dX11_willing_31 rfl hl (by decide) rfl (fun ls hl => ?_)
          refine lv_iinc (v := nI (k + 1)) (lv' := [(2, .int (nI (k + 1))), (1, .int ((gRdy π (gLof acc) k) ||| (1 <<< ((nI k) &&& 31)))), (0, .ref B)]) hx hb dX11_willing_32 hl (k := 2) rfl (gAdd rfl (show Int32.ofInt 1 = nI 1 from rfl)) (by decide) rfl (fun ls hl => ?_)
          refine lv_goto (tgt := 4) hx hb dX11_willing_35 (by decide) ?_
          exact ih (k + 1) (by omega) s4  _ _ zO h1 hk7 h2 hS _ (by have hl := lv_sub hl [2, 1, 0] rfl; rw [show ((gRdy π (gLof acc) k) ||| (1 <<< ((nI k) &&& 31)) : Int32) = gRdy π (gLof acc) (k + 1) from by rw [gRdy, if_pos c7]] at hl; exact hl)
  exact loop (n - 0) 0 (by first | omega | simp) s4 _ _ zO h1 hk7 h2 hS _ (lv_sub hl [2, 1, 0] rfl)

set_option maxHeartbeats 4000000 in
set_option maxRecDepth 100000 in
theorem c_X11_broughtBy (l : Launch) (G : gW) (B lp : Nat) (π ρ μ : gPS) (n : Nat) (hz : π 15 0 = nI n) (hn : n ≤ 6) (set : Int32) : gCI l yX11_broughtBy cX11_broughtBy 4 .int (gRm 1 23) G [.ref B, .int set] (fun H => gSg G B (gLO G B μ) H ∧ gSg G (B + 1) (gLS G (B + 1) π lp ρ) H) (fun r H => r = gBri π set n) (fun _ => False) := by
  refine g_start (by decide) (Nat.le_of_ble_eq_true rfl) ?_
  intro pp_ ee_ s mm_ aa_ below meth cc_ ls Q hQ hX hE hP hl
  obtain ⟨hx, hb, hr, hml, hown, hT, hlk, hnm⟩ := hX
  have hK := hE.2.1
  obtain ⟨zO, h1⟩ := hP
  have hS : va_S (fun _ => False) s.heap s.heap [] := va_S.rf
  have hl : lv_has ls 4 [(0, .ref B), (1, .int set)] := hl
  refine lv_aload_n hx hb dX11_broughtBy_0 rfl (lv_at hl 0 rfl) ?_
  refine g_get (v := .ref (B + 1)) (T := TX11) (ci := 11) (N := 13) hx hb hown hK (gY_X11 hT) rfl (zO 0 _ rfl) 0 (by decide) (hT _ gf_X11_12) rfl dX11_broughtBy_1 ?_
  refine g_get (v := .int (π 15 1)) (T := TX9) (ci := 9) (N := 16) hx hb hown hK (gY_X9 hT) rfl (h1 0 _ rfl) 13 (by decide) (hT _ gf_X11_136) rfl dX11_broughtBy_4 ?_
  refine lv_istore_n (lv' := [(2, .int (π 15 1)), (0, .ref B), (1, .int set)]) hx hb dX11_broughtBy_7 rfl hl (by decide) rfl (fun ls hl => ?_)
  refine lv_iconst (v := 0) hx hb dX11_broughtBy_8 (by decide) ?_
  refine lv_istore_n (lv' := [(3, .int 0), (2, .int (π 15 1)), (0, .ref B), (1, .int set)]) hx hb dX11_broughtBy_9 rfl hl (by decide) rfl (fun ls hl => ?_)
  have loop : ∀ (d k : Nat), k + d = n → ∀ (H : Heap) (locs : List Loc), gSg G B (gLO G B μ) H → gSg G (B + 1) (gLS G (B + 1) π lp ρ) H → va_S (fun _ => False) s.heap H locs → ∀ ls, lv_has ls 4 [(0, .ref B), (1, .int set), (2, .int (gBri π set k)), (3, .int (nI k))] → W pp_ l ee_ (gRm 1 23) s mm_ aa_ below meth cc_ H locs 0 0 Q (F0 mm_ 10 ls []) := by
    intro d
    induction d with
    | zero =>
      intro k hk   H locs zO h1 hS ls hl
      have hk : k = n := by omega
      refine lv_iload_n hx hb dX11_broughtBy_10 rfl (lv_at hl 3 rfl) ?_
      refine lv_aload_n hx hb dX11_broughtBy_11 rfl (lv_at hl 0 rfl) ?_
      refine g_get (v := .ref (B + 1)) (T := TX11) (ci := 11) (N := 13) hx hb hown hK (gY_X11 hT) rfl (zO 0 _ rfl) 0 (by decide) (hT _ gf_X11_12) rfl dX11_broughtBy_12 ?_
      refine g_get (v := .int (π 15 0)) (T := TX9) (ci := 9) (N := 16) hx hb hown hK (gY_X9 hT) rfl (h1 0 _ rfl) 12 (by decide) (hT _ gf_X11_61) rfl dX11_broughtBy_15 ?_
      refine lv_icmp_ge (tgt := 54) hx hb dX11_broughtBy_18 (by decide) (fun c1 => ?_) (fun c1 => ?_)
      · have c1 : n ≤ k := (gLe (a := n) (b := k) hz rfl (by omega) (by omega)).mp c1
        refine lv_iload_n hx hb dX11_broughtBy_54 rfl (lv_at hl 2 rfl) ?_
        rw [← hQ]
        exact g_iret hx hb hr hlk hS dX11_broughtBy_55 (by rw [hk])
      · have c1 : ¬ n ≤ k := fun z => c1 ((gLe (a := n) (b := k) hz rfl (by omega) (by omega)).mpr z)
        exact absurd c1 (by omega)
    | succ d ih =>
      intro k hk   H locs zO h1 hS ls hl
      refine lv_iload_n hx hb dX11_broughtBy_10 rfl (lv_at hl 3 rfl) ?_
      refine lv_aload_n hx hb dX11_broughtBy_11 rfl (lv_at hl 0 rfl) ?_
      refine g_get (v := .ref (B + 1)) (T := TX11) (ci := 11) (N := 13) hx hb hown hK (gY_X11 hT) rfl (zO 0 _ rfl) 0 (by decide) (hT _ gf_X11_12) rfl dX11_broughtBy_12 ?_
      refine g_get (v := .int (π 15 0)) (T := TX9) (ci := 9) (N := 16) hx hb hown hK (gY_X9 hT) rfl (h1 0 _ rfl) 12 (by decide) (hT _ gf_X11_61) rfl dX11_broughtBy_15 ?_
      refine lv_icmp_ge (tgt := 54) hx hb dX11_broughtBy_18 (by decide) (fun c2 => ?_) (fun c2 => ?_)
      · have c2 : n ≤ k := (gLe (a := n) (b := k) hz rfl (by omega) (by omega)).mp c2
        exact absurd c2 (by omega)
      · have c2 : ¬ n ≤ k := fun z => c2 ((gLe (a := n) (b := k) hz rfl (by omega) (by omega)).mpr z)
        refine lv_iload_n hx hb dX11_broughtBy_21 rfl (lv_at hl 1 rfl) ?_
        refine lv_iload_n hx hb dX11_broughtBy_22 rfl (lv_at hl 3 rfl) ?_
        refine lv_ishr hx hb dX11_broughtBy_23 ?_
        refine lv_iconst (v := 1) hx hb dX11_broughtBy_24 (by decide) ?_
        refine lv_iand hx hb dX11_broughtBy_25 ?_
        refine lv_if_eq (tgt := 48) hx hb dX11_broughtBy_26 (by decide) (fun c3 => ?_) (fun c3 => ?_)
        · refine lv_iinc (v := nI (k + 1)) (lv' := [(3, .int (nI (k + 1))), (0, .ref B), (1, .int set), (2, .int (gBri π set k))]) hx hb dX11_broughtBy_48 hl (k := 3) rfl (gAdd rfl (show Int32.ofInt 1 = nI 1 from rfl)) (by decide) rfl (fun ls hl => ?_)
          refine lv_goto (tgt := 10) hx hb dX11_broughtBy_51 (by decide) ?_
          exact ih (k + 1) (by omega)   _ _ zO h1 hS _ (by have hl := lv_sub hl [1, 2, 3, 0] rfl; rw [show (gBri π set k : Int32) = gBri π set (k + 1) from by rw [gBri, if_pos c3]] at hl; exact hl)
        · refine lv_iload_n hx hb dX11_broughtBy_29 rfl (lv_at hl 2 rfl) ?_
          refine lv_aload_n hx hb dX11_broughtBy_30 rfl (lv_at hl 0 rfl) ?_
          refine g_get (v := .ref (B + 1)) (T := TX11) (ci := 11) (N := 13) hx hb hown hK (gY_X11 hT) rfl (zO 0 _ rfl) 0 (by decide) (hT _ gf_X11_12) rfl dX11_broughtBy_31 ?_
          refine lv_aload_n hx hb dX11_broughtBy_34 rfl (lv_at hl 0 rfl) ?_
          refine g_get (v := .ref (B + 1)) (T := TX11) (ci := 11) (N := 13) hx hb hown hK (gY_X11 hT) rfl (zO 0 _ rfl) 0 (by decide) (hT _ gf_X11_12) rfl dX11_broughtBy_35 ?_
          refine g_get (v := .ref (B + 1 + 6)) (T := TX9) (ci := 9) (N := 16) hx hb hown hK (gY_X9 hT) rfl (h1 0 _ rfl) 5 (by decide) (hT _ gf_X11_79) rfl dX11_broughtBy_38 ?_
          refine lv_iload_n hx hb dX11_broughtBy_41 rfl (lv_at hl 3 rfl) ?_
          refine g_ia (j := k) (v := π 4 k) hx hb hK (h1 6 _ rfl) rfl (by omega) (Nat.le_of_ble_eq_true rfl) rfl dX11_broughtBy_42 ?_
          refine g_ki (g_runV (T := TX9) (ci := 9) (N := 16) (rest := [.int (gBri π set k)]) hx hb hml hown hE hT (c_X9_meaningOf l G (B + 1) lp π ρ (π 4 k)) gM_X9_meaningOf gm_X11_165 gi_X9_meaningOf gs_RX9_yX9_meaningOf_yX9_meaningOf rfl (h1 0 _ rfl) h1 rfl hl.1 ⟨rfl, rfl⟩ ⟨Nat.le_of_ble_eq_true rfl, Nat.le_of_ble_eq_true rfl⟩ ⟨Nat.zero_le _, Nat.zero_le _⟩ rfl (Nat.le_of_ble_eq_true rfl) dX11_broughtBy_43) hS (fun _ h => h.elim) (fun r7 H4 locs q5 k6 hS => ?_)
          subst q5
          have zO := gSg_free zO k6 (by intro k hk q; simp only [List.length_cons, List.length_nil] at hk; omega)
          have h1 := gSg_free h1 k6 (by intro k hk q; simp only [List.length_cons, List.length_nil] at hk; omega)
          refine lv_ior hx hb dX11_broughtBy_46 ?_
          refine lv_istore_n (lv' := [(2, .int ((gBri π set k) ||| (gMean (π 1) (π 4 k) 12))), (0, .ref B), (1, .int set), (3, .int (nI k))]) hx hb dX11_broughtBy_47 rfl hl (by decide) rfl (fun ls hl => ?_)
          refine lv_iinc (v := nI (k + 1)) (lv' := [(3, .int (nI (k + 1))), (2, .int ((gBri π set k) ||| (gMean (π 1) (π 4 k) 12))), (0, .ref B), (1, .int set)]) hx hb dX11_broughtBy_48 hl (k := 3) rfl (gAdd rfl (show Int32.ofInt 1 = nI 1 from rfl)) (by decide) rfl (fun ls hl => ?_)
          refine lv_goto (tgt := 10) hx hb dX11_broughtBy_51 (by decide) ?_
          exact ih (k + 1) (by omega)   _ _ zO h1 hS _ (by have hl := lv_sub hl [2, 3, 1, 0] rfl; rw [show ((gBri π set k) ||| (gMean (π 1) (π 4 k) 12) : Int32) = gBri π set (k + 1) from by rw [gBri, if_neg c3]] at hl; exact hl)
  exact loop (n - 0) 0 (by first | omega | simp)  _ _ zO h1 hS _ (lv_sub hl [2, 3, 1, 0] rfl)

set_option maxHeartbeats 4000000 in
set_option maxRecDepth 100000 in
theorem c_X11_comesOf (l : Launch) (G : gW) (B lp : Nat) (π ρ f μ : gPS) (acc : List (Nat × Nat × List Nat)) (hcl : gClo f acc) (hlp : lp = B + 23 ∨ lp = B + 58 ∨ lp = B + 93 ∨ (B + 120 ≤ lp ∧ lp + 6 ≤ B + 156)) (n : Nat) (hz : π 15 0 = nI n) (hn : n ≤ 6) (hki : ∀ k, k < 6 → ∃ z, z < 7 ∧ π 2 k = nI z) (sn : Nat) (hz3 : π 15 3 = nI sn) (hsn : sn ≤ 5) (pn : Nat) (hz4 : π 15 4 = nI pn) (hpn : pn ≤ 10) (bn : Nat) (hz5 : π 15 5 = nI bn) (hbn : bn ≤ 8) (x : Nat) (hx8 : x < 8) : gCI l yX11_comesOf cX11_comesOf 3 .int (gRm 6 143) G [.ref B, .int (nI x)] (fun H => gSg G B (gLO G B μ) H ∧ gSt G (B + 1) lp π ρ f H ∧ (∃ (πt : gPS) (lt : Nat) (ρt : gPS), gSg G (B + 36) (gLS G (B + 36) πt lt ρt) H) ∧ gSg G (B + 36 + 28) (gKk G (B + 36 + 28)) H) (fun r H => r = gCom π (gLof acc) n x 61 ∧ gSt G (B + 1) lp π ρ f H ∧ (∃ (πt : gPS) (lt : Nat) (ρt : gPS), gSg G (B + 36) (gLS G (B + 36) πt lt ρt) H) ∧ gSg G (B + 36 + 28) (gKk G (B + 36 + 28)) H) (fun q => (B + 36 ≤ q ∧ q < B + 58) ∨ (lp ≤ q ∧ q < lp + 6)) := by
  refine g_start (by decide) (Nat.le_of_ble_eq_true rfl) ?_
  intro pp_ ee_ s mm_ aa_ below meth cc_ ls Q hQ hX hE hP hl
  obtain ⟨hx, hb, hr, hml, hown, hT, hlk, hnm⟩ := hX
  have hK := hE.2.1
  obtain ⟨zO, ⟨h1, hk7, s4, h2⟩, ⟨πt, lt, ρt, zT⟩, zKT⟩ := hP
  have hS : va_S (fun q => (B + 36 ≤ q ∧ q < B + 58) ∨ (lp ≤ q ∧ q < lp + 6)) s.heap s.heap [] := va_S.rf
  have hl : lv_has ls 3 [(0, .ref B), (1, .int (nI x))] := hl
  have hd1 : lp + 6 ≤ B + 1 ∨ lp = B + 1 + 22 ∨ B + 1 + 35 ≤ lp := by omega
  have hd36 : lp + 6 ≤ B + 36 ∨ lp = B + 36 + 22 ∨ B + 36 + 35 ≤ lp := by omega
  have hz9 : ∀ k, (gDs π (gLof acc) n k) 15 0 = nI n := fun k => (gDs_15 (by decide) (by decide) k).trans hz
  have hk9 : ∀ k j, j < 6 → ∃ z, z < 7 ∧ (gDs π (gLof acc) n k) 2 j = nI z := fun k j hj => by rw [gDs_r (by decide) (by decide) (by decide) (by decide)]; exact hki j hj
  refine lv_aload_n hx hb dX11_comesOf_0 rfl (lv_at hl 0 rfl) ?_
  refine g_get (v := .ref (B + 36)) (T := TX11) (ci := 11) (N := 13) hx hb hown hK (gY_X11 hT) rfl (zO 0 _ rfl) 1 (by decide) (hT _ gf_X11_18) rfl dX11_comesOf_1 ?_
  refine lv_aload_n hx hb dX11_comesOf_4 rfl (lv_at hl 0 rfl) ?_
  refine g_get (v := .ref (B + 1)) (T := TX11) (ci := 11) (N := 13) hx hb hown hK (gY_X11 hT) rfl (zO 0 _ rfl) 0 (by decide) (hT _ gf_X11_12) rfl dX11_comesOf_5 ?_
  refine g_kv (g_runV (T := TX9) (ci := 9) (N := 16) (rest := []) hx hb hml hown hE hT (c_X9_becomes l G (B + 36) (B + 1) lt lp πt ρt π ρ (by omega) sn pn bn hz3 hsn hz4 hpn hz5 hbn) gM_X9_becomes gm_X11_152 gi_X9_becomes gs_RX9_yX9_becomes_yX9_becomes rfl (zT 0 _ rfl) ⟨zT, h1⟩ rfl hl.1 ⟨rfl, rfl⟩ ⟨Nat.le_of_ble_eq_true rfl, Nat.le_of_ble_eq_true rfl⟩ ⟨Nat.zero_le _, Nat.zero_le _⟩ rfl (Nat.le_of_ble_eq_true rfl) dX11_comesOf_8) hS (by intro q hq; omega) (fun H1 locs q2 k3 hS => ?_)
  obtain ⟨ρ9, hrw, zT⟩ := q2
  have zO := gSg_free zO k3 (by intro k hk q; simp only [List.length_cons, List.length_nil] at hk; omega)
  have h1 := gSg_free h1 k3 (by intro k hk q; simp only [List.length_cons, List.length_nil] at hk; omega)
  have hk7 := gSg_free hk7 k3 (by intro k hk q; simp only [List.length_cons, List.length_nil] at hk; omega)
  have h2 := gSg_free h2 k3 (by intro k hk q; simp only [List.length_cons, List.length_nil] at hk; omega)
  have zKT := gSg_free zKT k3 (by intro k hk q; simp only [List.length_cons, List.length_nil] at hk; omega)
  refine lv_iconst (v := 0) hx hb dX11_comesOf_11 (by decide) ?_
  refine lv_istore_n (lv' := [(2, .int 0), (0, .ref B), (1, .int (nI x))]) hx hb dX11_comesOf_12 rfl hl (by decide) rfl (fun ls hl => ?_)
  have loop : ∀ (d k : Nat), k + d = 61 → ∀ (s4 : Nat → Int32), gCom π (gLof acc) n x k = -5 → ∀ (H : Heap) (locs : List Loc), gSg G B (gLO G B μ) H → gSg G (B + 1) (gLS G (B + 1) π lp ρ) H → gSg G (B + 1 + 28) (gKk G (B + 1 + 28) ) H → gSg G lp (gLL G lp (gR f 4 s4)) H → gSg G (B + 36) (gLS G (B + 36) (gDs π (gLof acc) n k) lp ρ9) H → gSg G (B + 36 + 28) (gKk G (B + 36 + 28) ) H → va_S (fun q => (B + 36 ≤ q ∧ q < B + 58) ∨ (lp ≤ q ∧ q < lp + 6)) s.heap H locs → ∀ ls, lv_has ls 3 [(0, .ref B), (1, .int (nI x)), (2, .int (nI k))] → W pp_ l ee_ (gRm 6 143) s mm_ aa_ below meth cc_ H locs 0 0 Q (F0 mm_ 13 ls []) := by
    intro d
    induction d with
    | zero =>
      intro k hk s4 hcm H locs zO h1 hk7 h2 zT zKT hS ls hl
      have hk : k = 61 := by omega
      refine lv_iload_n hx hb dX11_comesOf_13 rfl (lv_at hl 2 rfl) ?_
      refine lv_bipush (v := 60) hx hb dX11_comesOf_14 (by decide) ?_
      refine lv_icmp_gt (tgt := 49) hx hb dX11_comesOf_16 (by decide) (fun c5 => ?_) (fun c5 => ?_)
      · have c5 : 60 < k := (gLt (a := 60) (b := k) rfl rfl (by omega) (by omega)).mp c5
        refine lv_bipush (v := (-5)) hx hb dX11_comesOf_49 (by decide) ?_
        rw [← hQ]
        exact g_iret hx hb hr hlk hS dX11_comesOf_51 ⟨by rw [← hk]; exact hcm.symm, ⟨h1, hk7, _, h2⟩, ⟨_, _, _, zT⟩, zKT⟩
      · have c5 : ¬ 60 < k := fun z => c5 ((gLt (a := 60) (b := k) rfl rfl (by omega) (by omega)).mpr z)
        exact absurd c5 (by omega)
    | succ d ih =>
      intro k hk s4 hcm H locs zO h1 hk7 h2 zT zKT hS ls hl
      refine lv_iload_n hx hb dX11_comesOf_13 rfl (lv_at hl 2 rfl) ?_
      refine lv_bipush (v := 60) hx hb dX11_comesOf_14 (by decide) ?_
      refine lv_icmp_gt (tgt := 49) hx hb dX11_comesOf_16 (by decide) (fun c6 => ?_) (fun c6 => ?_)
      · have c6 : 60 < k := (gLt (a := 60) (b := k) rfl rfl (by omega) (by omega)).mp c6
        exact absurd c6 (by omega)
      · have c6 : ¬ 60 < k := fun z => c6 ((gLt (a := 60) (b := k) rfl rfl (by omega) (by omega)).mpr z)
        refine lv_aload_n hx hb dX11_comesOf_19 rfl (lv_at hl 0 rfl) ?_
        refine g_get (v := .ref (B + 36)) (T := TX11) (ci := 11) (N := 13) hx hb hown hK (gY_X11 hT) rfl (zO 0 _ rfl) 1 (by decide) (hT _ gf_X11_18) rfl dX11_comesOf_20 ?_
        refine g_get (v := .int ((gDs π (gLof acc) n k) 15 1)) (T := TX9) (ci := 9) (N := 16) hx hb hown hK (gY_X9 hT) rfl (zT 0 _ rfl) 13 (by decide) (hT _ gf_X11_136) rfl dX11_comesOf_23 ?_
        refine lv_iload_n hx hb dX11_comesOf_26 rfl (lv_at hl 1 rfl) ?_
        refine lv_ishr hx hb dX11_comesOf_27 ?_
        refine lv_iconst (v := 1) hx hb dX11_comesOf_28 (by decide) ?_
        refine lv_iand hx hb dX11_comesOf_29 ?_
        refine lv_if_eq (tgt := 35) hx hb dX11_comesOf_30 (by decide) (fun c7 => ?_) (fun c7 => ?_)
        · refine lv_aload_n hx hb dX11_comesOf_35 rfl (lv_at hl 0 rfl) ?_
          refine g_get (v := .ref (B + 36)) (T := TX11) (ci := 11) (N := 13) hx hb hown hK (gY_X11 hT) rfl (zO 0 _ rfl) 1 (by decide) (hT _ gf_X11_18) rfl dX11_comesOf_36 ?_
          refine lv_iconst (v := 1) hx hb dX11_comesOf_39 (by decide) ?_
          refine g_kv (g_runV (T := TX9) (ci := 9) (N := 16) (rest := []) hx hb hml hown hE hT (c_X9_daysGo l G (B + 36) lp (gDs π (gLof acc) n k) ρ9 f hd36 acc hcl n (hz9 k) hn (hk9 k) 1 (by decide)) gM_X9_daysGo gm_X11_143 gi_X9_daysGo gs_RX9_yX9_daysGo_yX9_daysGo rfl (zT 0 _ rfl) ⟨zT, zKT, _, h2⟩ rfl hl.1 ⟨rfl, rfl⟩ ⟨Nat.le_of_ble_eq_true rfl, Nat.le_of_ble_eq_true rfl⟩ ⟨Nat.zero_le _, Nat.zero_le _⟩ rfl (Nat.le_of_ble_eq_true rfl) dX11_comesOf_40) hS (by intro q hq; omega) (fun H8 locs q9 k10 hS => ?_)
          obtain ⟨zT, zKT, s4, h2⟩ := q9
          have zO := gSg_free zO k10 (by intro k hk q; simp only [List.length_cons, List.length_nil] at hk; omega)
          have h1 := gSg_free h1 k10 (by intro k hk q; simp only [List.length_cons, List.length_nil] at hk; omega)
          have hk7 := gSg_free hk7 k10 (by intro k hk q; simp only [List.length_cons, List.length_nil] at hk; omega)
          have zT : gSg G (B + 36) (gLS G (B + 36) (gDs π (gLof acc) n (k + 1)) lp ρ9) H8 := zT
          refine lv_iinc (v := nI (k + 1)) (lv' := [(2, .int (nI (k + 1))), (0, .ref B), (1, .int (nI x))]) hx hb dX11_comesOf_43 hl (k := 2) rfl (gAdd rfl (show Int32.ofInt 1 = nI 1 from rfl)) (by decide) rfl (fun ls hl => ?_)
          refine lv_goto (tgt := 13) hx hb dX11_comesOf_46 (by decide) ?_
          exact ih (k + 1) (by omega) s4 (by rw [gCom, if_pos hcm, if_pos c7]) _ _ zO h1 hk7 h2 zT zKT hS _ (by have hl := lv_sub hl [1, 2, 0] rfl; exact hl)
        · refine lv_iload_n hx hb dX11_comesOf_33 rfl (lv_at hl 2 rfl) ?_
          have hc1 : gCom π (gLof acc) n x (k + 1) = nI k := by rw [gCom, if_pos hcm, if_neg c7]
          have hc2 : ¬ gCom π (gLof acc) n x (k + 1) = -5 := by rw [hc1]; intro z; exact absurd (show (nI k) < 0 from by rw [z]; decide) (nI_pos (by omega))
          rw [← hQ]
          exact g_iret hx hb hr hlk hS dX11_comesOf_34 ⟨by have := gCom_st hc2 (61 - (k + 1)); rw [show k + 1 + (61 - (k + 1)) = 61 by omega] at this; rw [this, hc1], ⟨h1, hk7, _, h2⟩, ⟨_, _, _, zT⟩, zKT⟩
  exact loop (61 - 0) 0 (by first | omega | simp) s4 rfl _ _ zO h1 hk7 h2 zT zKT hS _ (lv_sub hl [1, 2, 0] rfl)

set_option maxHeartbeats 4000000 in
set_option maxRecDepth 100000 in
theorem c_X11_cheersOf (l : Launch) (G : gW) (B lp : Nat) (π ρ f μ : gPS) (acc : List (Nat × Nat × List Nat)) (hcl : gClo f acc) (hlp : lp = B + 23 ∨ lp = B + 58 ∨ lp = B + 93 ∨ (B + 120 ≤ lp ∧ lp + 6 ≤ B + 156)) (n : Nat) (hz : π 15 0 = nI n) (hn : n ≤ 6) (hki : ∀ k, k < 6 → ∃ z, z < 7 ∧ π 2 k = nI z) (sn : Nat) (hz3 : π 15 3 = nI sn) (hsn : sn ≤ 5) (pn : Nat) (hz4 : π 15 4 = nI pn) (hpn : pn ≤ 10) (bn : Nat) (hz5 : π 15 5 = nI bn) (hbn : bn ≤ 8) (hsp : ∀ k, k < sn → (∃ q, q < 6 ∧ π 8 k = nI q) ∧ (π 10 k = 0 ∨ π 10 k = 1)) (hrr : ∀ k, k < sn → ρ 0 k = π 8 k ∧ ρ 1 k = π 9 k ∧ ρ 2 k = π 10 k) (w : Nat) (hw : w < 12) : gCI l yX11_cheersOf cX11_cheersOf 4 .int (gRm 5 120) G [.ref B, .int (nI w)] (fun H => gSg G B (gLO G B μ) H ∧ gSt G (B + 1) lp π ρ f H ∧ (∃ (πt : gPS) (lt : Nat) (ρt : gPS), gSg G (B + 36) (gLS G (B + 36) πt lt ρt) H) ∧ gSg G (B + 36 + 28) (gKk G (B + 36 + 28)) H) (fun r H => r = gChs π (gLof acc) w sn 10 ∧ gSt G (B + 1) lp π ρ f H ∧ (∃ (πt : gPS) (lt : Nat) (ρt : gPS), gSg G (B + 36) (gLS G (B + 36) πt lt ρt) H) ∧ gSg G (B + 36 + 28) (gKk G (B + 36 + 28)) H) (fun q => (B + 36 ≤ q ∧ q < B + 58) ∨ (lp ≤ q ∧ q < lp + 6)) := by
  refine g_start (by decide) (Nat.le_of_ble_eq_true rfl) ?_
  intro pp_ ee_ s mm_ aa_ below meth cc_ ls Q hQ hX hE hP hl
  obtain ⟨hx, hb, hr, hml, hown, hT, hlk, hnm⟩ := hX
  have hK := hE.2.1
  obtain ⟨zO, ⟨h1, hk7, s4, h2⟩, ⟨πt, lt, ρt, zT⟩, zKT⟩ := hP
  have hS : va_S (fun q => (B + 36 ≤ q ∧ q < B + 58) ∨ (lp ≤ q ∧ q < lp + 6)) s.heap s.heap [] := va_S.rf
  have hl : lv_has ls 4 [(0, .ref B), (1, .int (nI w))] := hl
  have hd1 : lp + 6 ≤ B + 1 ∨ lp = B + 1 + 22 ∨ B + 1 + 35 ≤ lp := by omega
  have hd36 : lp + 6 ≤ B + 36 ∨ lp = B + 36 + 22 ∨ B + 36 + 35 ≤ lp := by omega
  refine lv_aload_n hx hb dX11_cheersOf_0 rfl (lv_at hl 0 rfl) ?_
  refine g_get (v := .ref (B + 36)) (T := TX11) (ci := 11) (N := 13) hx hb hown hK (gY_X11 hT) rfl (zO 0 _ rfl) 1 (by decide) (hT _ gf_X11_18) rfl dX11_cheersOf_1 ?_
  refine lv_aload_n hx hb dX11_cheersOf_4 rfl (lv_at hl 0 rfl) ?_
  refine g_get (v := .ref (B + 1)) (T := TX11) (ci := 11) (N := 13) hx hb hown hK (gY_X11 hT) rfl (zO 0 _ rfl) 0 (by decide) (hT _ gf_X11_12) rfl dX11_cheersOf_5 ?_
  refine g_kv (g_runV (T := TX9) (ci := 9) (N := 16) (rest := []) hx hb hml hown hE hT (c_X9_becomes l G (B + 36) (B + 1) lt lp πt ρt π ρ (by omega) sn pn bn hz3 hsn hz4 hpn hz5 hbn) gM_X9_becomes gm_X11_152 gi_X9_becomes gs_RX9_yX9_becomes_yX9_becomes rfl (zT 0 _ rfl) ⟨zT, h1⟩ rfl hl.1 ⟨rfl, rfl⟩ ⟨Nat.le_of_ble_eq_true rfl, Nat.le_of_ble_eq_true rfl⟩ ⟨Nat.zero_le _, Nat.zero_le _⟩ rfl (Nat.le_of_ble_eq_true rfl) dX11_cheersOf_8) hS (by intro q hq; omega) (fun H1 locs q2 k3 hS => ?_)
  obtain ⟨ρ9, hrw, zT⟩ := q2
  have zO := gSg_free zO k3 (by intro k hk q; simp only [List.length_cons, List.length_nil] at hk; omega)
  have h1 := gSg_free h1 k3 (by intro k hk q; simp only [List.length_cons, List.length_nil] at hk; omega)
  have hk7 := gSg_free hk7 k3 (by intro k hk q; simp only [List.length_cons, List.length_nil] at hk; omega)
  have h2 := gSg_free h2 k3 (by intro k hk q; simp only [List.length_cons, List.length_nil] at hk; omega)
  have zKT := gSg_free zKT k3 (by intro k hk q; simp only [List.length_cons, List.length_nil] at hk; omega)
  refine lv_iconst (v := 0) hx hb dX11_cheersOf_11 (by decide) ?_
  refine lv_istore_n (lv' := [(2, .int 0), (0, .ref B), (1, .int (nI w))]) hx hb dX11_cheersOf_12 rfl hl (by decide) rfl (fun ls hl => ?_)
  refine lv_iconst (v := 0) hx hb dX11_cheersOf_13 (by decide) ?_
  refine lv_istore_n (lv' := [(3, .int 0), (2, .int 0), (0, .ref B), (1, .int (nI w))]) hx hb dX11_cheersOf_14 rfl hl (by decide) rfl (fun ls hl => ?_)
  have hr9 : ∀ k, k < sn → ρ9 0 k = π 8 k ∧ ρ9 1 k = π 9 k ∧ ρ9 2 k = π 10 k := fun k hk => ⟨(hrw.1 k hk).1.trans (hrr k hk).1, (hrw.1 k hk).2.1.trans (hrr k hk).2.1, (hrw.1 k hk).2.2.trans (hrr k hk).2.2⟩
  have loop : ∀ (d k : Nat), k + d = 10 → ∀ (P9 : gPS) (s4 : Nat → Int32), (∀ y, gU P9 0 w y = gU π 0 w y) → ∀ (H : Heap) (locs : List Loc), gSg G B (gLO G B μ) H → gSg G (B + 1) (gLS G (B + 1) π lp ρ) H → gSg G (B + 1 + 28) (gKk G (B + 1 + 28) ) H → gSg G lp (gLL G lp (gR f 4 s4)) H → gSg G (B + 36) (gLS G (B + 36) P9 lp ρ9) H → gSg G (B + 36 + 28) (gKk G (B + 36 + 28) ) H → va_S (fun q => (B + 36 ≤ q ∧ q < B + 58) ∨ (lp ≤ q ∧ q < lp + 6)) s.heap H locs → ∀ ls, lv_has ls 4 [(0, .ref B), (1, .int (nI w)), (2, .int (gChs π (gLof acc) w sn k)), (3, .int (nI k))] → W pp_ l ee_ (gRm 5 120) s mm_ aa_ below meth cc_ H locs 0 0 Q (F0 mm_ 15 ls []) := by
    intro d
    induction d with
    | zero =>
      intro k hk P9 s4 hPP H locs zO h1 hk7 h2 zT zKT hS ls hl
      have hk : k = 10 := by omega
      refine lv_iload_n hx hb dX11_cheersOf_15 rfl (lv_at hl 3 rfl) ?_
      refine lv_bipush (v := 9) hx hb dX11_cheersOf_16 (by decide) ?_
      refine lv_icmp_gt (tgt := 53) hx hb dX11_cheersOf_18 (by decide) (fun c5 => ?_) (fun c5 => ?_)
      · have c5 : 9 < k := (gLt (a := 9) (b := k) rfl rfl (by omega) (by omega)).mp c5
        refine lv_iload_n hx hb dX11_cheersOf_53 rfl (lv_at hl 2 rfl) ?_
        rw [← hQ]
        exact g_iret hx hb hr hlk hS dX11_cheersOf_54 ⟨by rw [hk], ⟨h1, hk7, _, h2⟩, ⟨_, _, _, zT⟩, zKT⟩
      · have c5 : ¬ 9 < k := fun z => c5 ((gLt (a := 9) (b := k) rfl rfl (by omega) (by omega)).mpr z)
        exact absurd c5 (by omega)
    | succ d ih =>
      intro k hk P9 s4 hPP H locs zO h1 hk7 h2 zT zKT hS ls hl
      refine lv_iload_n hx hb dX11_cheersOf_15 rfl (lv_at hl 3 rfl) ?_
      refine lv_bipush (v := 9) hx hb dX11_cheersOf_16 (by decide) ?_
      refine lv_icmp_gt (tgt := 53) hx hb dX11_cheersOf_18 (by decide) (fun c6 => ?_) (fun c6 => ?_)
      · have c6 : 9 < k := (gLt (a := 9) (b := k) rfl rfl (by omega) (by omega)).mp c6
        exact absurd c6 (by omega)
      · have c6 : ¬ 9 < k := fun z => c6 ((gLt (a := 9) (b := k) rfl rfl (by omega) (by omega)).mpr z)
        refine lv_aload_n hx hb dX11_cheersOf_21 rfl (lv_at hl 0 rfl) ?_
        refine g_get (v := .ref (B + 36)) (T := TX11) (ci := 11) (N := 13) hx hb hown hK (gY_X11 hT) rfl (zO 0 _ rfl) 1 (by decide) (hT _ gf_X11_18) rfl dX11_cheersOf_22 ?_
        refine g_get (v := .ref (B + 36 + 2)) (T := TX9) (ci := 9) (N := 16) hx hb hown hK (gY_X9 hT) rfl (zT 0 _ rfl) 1 (by decide) (hT _ gf_X11_101) rfl dX11_cheersOf_25 ?_
        refine lv_iload_n hx hb dX11_cheersOf_28 rfl (lv_at hl 1 rfl) ?_
        refine lv_iload_n hx hb dX11_cheersOf_29 rfl (lv_at hl 3 rfl) ?_
        refine g_is (j := w) hx hb hK hS (zT 2 _ rfl) rfl (by omega) (Nat.le_of_ble_eq_true rfl) (by omega) dX11_cheersOf_30 (fun H7 locs c8 oq hS => ?_)
        have zT : gSg G (B + 36) (gLS G (B + 36) (gU P9 0 w (nI k)) lp ρ9) H7 := gSg_set zT 2 c8 oq
        have zO := gSg_off zO oq (by simp only [List.length_cons, List.length_nil]; omega)
        have h1 := gSg_off h1 oq (by simp only [List.length_cons, List.length_nil]; omega)
        have hk7 := gSg_off hk7 oq (by simp only [List.length_cons, List.length_nil]; omega)
        have h2 := gSg_off h2 oq (by simp only [List.length_cons, List.length_nil]; omega)
        have zKT := gSg_off zKT oq (by simp only [List.length_cons, List.length_nil]; omega)
        refine lv_aload_n hx hb dX11_cheersOf_31 rfl (lv_at hl 0 rfl) ?_
        refine g_get (v := .ref (B + 36)) (T := TX11) (ci := 11) (N := 13) hx hb hown hK (gY_X11 hT) rfl (zO 0 _ rfl) 1 (by decide) (hT _ gf_X11_18) rfl dX11_cheersOf_32 ?_
        rw [hPP] at zT
        refine g_ki (g_runV (T := TX9) (ci := 9) (N := 16) (rest := []) hx hb hml hown hE hT (c_X9_isSeenSo l G (B + 36) lp (gU π 0 w (nI k)) ρ9 f hd36 acc hcl hki sn hz3 hsn hsp hr9) gM_X9_isSeenSo gm_X11_187 gi_X9_isSeenSo gs_RX9_yX9_isSeenSo_yX9_isSeenSo rfl (zT 0 _ rfl) ⟨zT, zKT, _, h2⟩ rfl hl.1 ⟨rfl, rfl⟩ ⟨Nat.le_of_ble_eq_true rfl, Nat.le_of_ble_eq_true rfl⟩ ⟨Nat.zero_le _, Nat.zero_le _⟩ rfl (Nat.le_of_ble_eq_true rfl) dX11_cheersOf_35) hS (by intro q hq; omega) (fun r12 H9 locs q10 k11 hS => ?_)
        obtain ⟨e9, zT, zKT, s4, h2⟩ := q10
        rw [e9]
        have zO := gSg_free zO k11 (by intro k hk q; simp only [List.length_cons, List.length_nil] at hk; omega)
        have h1 := gSg_free h1 k11 (by intro k hk q; simp only [List.length_cons, List.length_nil] at hk; omega)
        have hk7 := gSg_free hk7 k11 (by intro k hk q; simp only [List.length_cons, List.length_nil] at hk; omega)
        refine lv_if_eq (tgt := 47) hx hb dX11_cheersOf_38 (by decide) (fun c13 => ?_) (fun c13 => ?_)
        · have c13 : ¬ (gSn (gU π 0 w (nI k)) (gLof acc) 0 sn = true) := gB_0.mp c13
          refine lv_iinc (v := nI (k + 1)) (lv' := [(3, .int (nI (k + 1))), (0, .ref B), (1, .int (nI w)), (2, .int (gChs π (gLof acc) w sn k))]) hx hb dX11_cheersOf_47 hl (k := 3) rfl (gAdd rfl (show Int32.ofInt 1 = nI 1 from rfl)) (by decide) rfl (fun ls hl => ?_)
          refine lv_goto (tgt := 15) hx hb dX11_cheersOf_50 (by decide) ?_
          exact ih (k + 1) (by omega) (gU π 0 w (nI k)) s4 (fun y => gU_uu) _ _ zO h1 hk7 h2 zT zKT hS _ (by have hl := lv_sub hl [1, 2, 3, 0] rfl; rw [show (gChs π (gLof acc) w sn k : Int32) = gChs π (gLof acc) w sn (k + 1) from by rw [gChs, if_neg c13]] at hl; exact hl)
        · have c13 : gSn (gU π 0 w (nI k)) (gLof acc) 0 sn = true := gB_1.mp c13
          refine lv_iload_n hx hb dX11_cheersOf_41 rfl (lv_at hl 2 rfl) ?_
          refine lv_iconst (v := 1) hx hb dX11_cheersOf_42 (by decide) ?_
          refine lv_iload_n hx hb dX11_cheersOf_43 rfl (lv_at hl 3 rfl) ?_
          refine lv_ishl hx hb dX11_cheersOf_44 ?_
          refine lv_ior hx hb dX11_cheersOf_45 ?_
          refine lv_istore_n (lv' := [(2, .int ((gChs π (gLof acc) w sn k) ||| (1 <<< ((nI k) &&& 31)))), (0, .ref B), (1, .int (nI w)), (3, .int (nI k))]) hx hb dX11_cheersOf_46 rfl hl (by decide) rfl (fun ls hl => ?_)
          refine lv_iinc (v := nI (k + 1)) (lv' := [(3, .int (nI (k + 1))), (2, .int ((gChs π (gLof acc) w sn k) ||| (1 <<< ((nI k) &&& 31)))), (0, .ref B), (1, .int (nI w))]) hx hb dX11_cheersOf_47 hl (k := 3) rfl (gAdd rfl (show Int32.ofInt 1 = nI 1 from rfl)) (by decide) rfl (fun ls hl => ?_)
          refine lv_goto (tgt := 15) hx hb dX11_cheersOf_50 (by decide) ?_
          exact ih (k + 1) (by omega) (gU π 0 w (nI k)) s4 (fun y => gU_uu) _ _ zO h1 hk7 h2 zT zKT hS _ (by have hl := lv_sub hl [2, 3, 1, 0] rfl; rw [show ((gChs π (gLof acc) w sn k) ||| (1 <<< ((nI k) &&& 31)) : Int32) = gChs π (gLof acc) w sn (k + 1) from by rw [gChs, if_pos c13]] at hl; exact hl)
  exact loop (10 - 0) 0 (by first | omega | simp) π s4 (fun _ => rfl) _ _ zO h1 hk7 h2 zT zKT hS _ (lv_sub hl [2, 3, 1, 0] rfl)

set_option maxHeartbeats 4000000 in
set_option maxRecDepth 100000 in
theorem c_X11_lowestTerm (l : Launch) (G : gW) (x : Int32) (b : Nat) (hb1 : 1 ≤ b) (hb2 : b ≤ 12) (q : Int32) : gCL l yX11_lowestTerm cX11_lowestTerm 5 (gRm 0 0) G [.int x, .int (nI b), .int q] (fun H => True) (fun r H => r = gPt x.toInt64 (nI b).toInt64 q) (fun _ => False) := by
  refine g_start (by decide) (Nat.le_of_ble_eq_true rfl) ?_
  intro pp_ ee_ s mm_ aa_ below meth cc_ ls Q hQ hX hE hP hl
  obtain ⟨hx, hb, hr, hml, hown, hT, hlk, hnm⟩ := hX
  have hK := hE.2.1
  have hS : va_S (fun _ => False) s.heap s.heap [] := va_S.rf
  have hl : lv_has ls 5 [(0, .int x), (1, .int (nI b)), (2, .int q)] := hl
  refine lv_iconst (v := 1) hx hb dX11_lowestTerm_0 (by decide) ?_
  refine lv_istore_n (lv' := [(3, .int 1), (0, .int x), (1, .int (nI b)), (2, .int q)]) hx hb dX11_lowestTerm_1 rfl hl (by decide) rfl (fun ls hl => ?_)
  refine lv_iconst (v := 2) hx hb dX11_lowestTerm_2 (by decide) ?_
  refine lv_istore (lv' := [(4, .int 2), (3, .int 1), (0, .int x), (1, .int (nI b)), (2, .int q)]) hx hb dX11_lowestTerm_3 hl (by decide) rfl (fun ls hl => ?_)
  have e1 : gBy x b 1 = 1 := by rw [gBy]; split <;> rfl
  have loop : ∀ (m k : Nat), k + m = b + 1 → 2 ≤ k → ∀ ls, lv_has ls 5 [(0, .int x), (1, .int (nI b)), (2, .int q), (3, .int (nI (gBy x b (k - 1)))), (4, .int (nI k))] → W pp_ l ee_ (gRm 0 0) s mm_ aa_ below meth cc_ s.heap [] 0 0 Q (F0 mm_ 5 ls []) := by
    intro m
    induction m with
    | zero =>
      intro k hm hk2 ls hl
      have lby : gBy x b (k - 1) ≤ k - 1 := gBy_le x b (k - 1) (by omega)
      have pby := gBy_pos x b (k - 1)
      have lm : b % k < k := Nat.mod_lt _ (by omega)
      have kne : ¬ nI k = 0 := fun z => absurd ((nI_eq (a := k) (b := 0) (by omega) (by omega)).mp z) (by omega)
      refine lv_iload hx hb dX11_lowestTerm_5 (lv_at hl 4 rfl) ?_
      refine lv_iload_n hx hb dX11_lowestTerm_7 rfl (lv_at hl 1 rfl) ?_
      refine lv_icmp_gt (tgt := 34) hx hb dX11_lowestTerm_8 (by decide) (fun c1 => ?_) (fun c1 => ?_)
      · have c1 : b < k := (gLt (a := b) (b := k) rfl rfl (by omega) (by omega)).mp c1
        refine lv_iload_n hx hb dX11_lowestTerm_34 rfl (lv_at hl 2 rfl) ?_
        refine lv_if_ne (tgt := 42) hx hb dX11_lowestTerm_35 (by decide) (fun c2 => ?_) (fun c2 => ?_)
        · refine lv_iload_n hx hb dX11_lowestTerm_42 rfl (lv_at hl 1 rfl) ?_
          refine lv_iload_n hx hb dX11_lowestTerm_43 rfl (lv_at hl 3 rfl) ?_
          refine lv_idiv hx hb dX11_lowestTerm_44 (fun z => absurd ((nI_eq (a := gBy x b (k - 1)) (b := 0) (by omega) (by omega)).mp z) (by omega)) ?_
          refine lv_i2l hx hb dX11_lowestTerm_45 rfl ?_
          have ek : k - 1 = b := by omega
          rw [← hQ]
          exact g_lret hx hb hr hlk hS dX11_lowestTerm_46 (by rw [← gLt_e hb1 (by omega), ek, if_neg c2])
        · refine lv_iload_n hx hb dX11_lowestTerm_38 rfl (lv_at hl 0 rfl) ?_
          refine lv_goto (tgt := 43) hx hb dX11_lowestTerm_39 (by decide) ?_
          refine lv_iload_n hx hb dX11_lowestTerm_43 rfl (lv_at hl 3 rfl) ?_
          refine lv_idiv hx hb dX11_lowestTerm_44 (fun z => absurd ((nI_eq (a := gBy x b (k - 1)) (b := 0) (by omega) (by omega)).mp z) (by omega)) ?_
          refine lv_i2l hx hb dX11_lowestTerm_45 rfl ?_
          have ek : k - 1 = b := by omega
          rw [← hQ]
          exact g_lret hx hb hr hlk hS dX11_lowestTerm_46 (by rw [← gLt_e hb1 (by omega), ek, if_pos c2])
      · have c1 : ¬ b < k := fun z => c1 ((gLt (a := b) (b := k) rfl rfl (by omega) (by omega)).mpr z)
        exact absurd c1 (by omega)
    | succ m ih =>
      intro k hm hk2 ls hl
      have lby : gBy x b (k - 1) ≤ k - 1 := gBy_le x b (k - 1) (by omega)
      have pby := gBy_pos x b (k - 1)
      have lm : b % k < k := Nat.mod_lt _ (by omega)
      have kne : ¬ nI k = 0 := fun z => absurd ((nI_eq (a := k) (b := 0) (by omega) (by omega)).mp z) (by omega)
      refine lv_iload hx hb dX11_lowestTerm_5 (lv_at hl 4 rfl) ?_
      refine lv_iload_n hx hb dX11_lowestTerm_7 rfl (lv_at hl 1 rfl) ?_
      refine lv_icmp_gt (tgt := 34) hx hb dX11_lowestTerm_8 (by decide) (fun c3 => ?_) (fun c3 => ?_)
      · have c3 : b < k := (gLt (a := b) (b := k) rfl rfl (by omega) (by omega)).mp c3
        exact absurd c3 (by omega)
      · have c3 : ¬ b < k := fun z => c3 ((gLt (a := b) (b := k) rfl rfl (by omega) (by omega)).mpr z)
        refine lv_iload_n hx hb dX11_lowestTerm_11 rfl (lv_at hl 0 rfl) ?_
        refine lv_iload hx hb dX11_lowestTerm_12 (lv_at hl 4 rfl) ?_
        refine lv_irem hx hb dX11_lowestTerm_14 kne ?_
        refine lv_if_ne (tgt := 28) hx hb dX11_lowestTerm_15 (by decide) (fun c4 => ?_) (fun c4 => ?_)
        · refine lv_iinc (v := nI (k + 1)) (lv' := [(4, .int (nI (k + 1))), (0, .int x), (1, .int (nI b)), (2, .int q), (3, .int (nI (gBy x b (k - 1))))]) hx hb dX11_lowestTerm_28 hl (k := 4) rfl (gAdd rfl (show Int32.ofInt 1 = nI 1 from rfl)) (by decide) rfl (fun ls hl => ?_)
          refine lv_goto (tgt := 5) hx hb dX11_lowestTerm_31 (by decide) ?_
          have eb : gBy x b k = gBy x b (k - 1) := by
            obtain ⟨z, rfl⟩ : ∃ z, k = z + 1 := ⟨k - 1, by omega⟩
            rw [gBy, if_neg (fun z => c4 z.1)]; rfl
          exact ih (k + 1) (by omega) (by omega) _ (by rw [show k + 1 - 1 = k from rfl, eb]; exact lv_sub hl [1, 2, 3, 4, 0] rfl)
        · refine lv_iload_n hx hb dX11_lowestTerm_18 rfl (lv_at hl 1 rfl) ?_
          refine lv_iload hx hb dX11_lowestTerm_19 (lv_at hl 4 rfl) ?_
          refine lv_irem hx hb dX11_lowestTerm_21 kne ?_
          refine lv_if_ne (tgt := 28) hx hb dX11_lowestTerm_22 (by decide) (fun c5 => ?_) (fun c5 => ?_)
          · have c5 : ¬ (b % k) = 0 := fun z => c5 ((gEq (a := b % k) (b := 0) (gRem rfl rfl (by omega) (by omega) (by omega)) rfl (by omega) (by omega)).mpr z)
            refine lv_iinc (v := nI (k + 1)) (lv' := [(4, .int (nI (k + 1))), (0, .int x), (1, .int (nI b)), (2, .int q), (3, .int (nI (gBy x b (k - 1))))]) hx hb dX11_lowestTerm_28 hl (k := 4) rfl (gAdd rfl (show Int32.ofInt 1 = nI 1 from rfl)) (by decide) rfl (fun ls hl => ?_)
            refine lv_goto (tgt := 5) hx hb dX11_lowestTerm_31 (by decide) ?_
            have eb : gBy x b k = gBy x b (k - 1) := by
              obtain ⟨z, rfl⟩ : ∃ z, k = z + 1 := ⟨k - 1, by omega⟩
              rw [gBy, if_neg (fun z => c5 z.2)]; rfl
            exact ih (k + 1) (by omega) (by omega) _ (by rw [show k + 1 - 1 = k from rfl, eb]; exact lv_sub hl [1, 2, 3, 4, 0] rfl)
          · have c5 : (b % k) = 0 := (gEq (a := b % k) (b := 0) (gRem rfl rfl (by omega) (by omega) (by omega)) rfl (by omega) (by omega)).mp c5
            refine lv_iload hx hb dX11_lowestTerm_25 (lv_at hl 4 rfl) ?_
            refine lv_istore_n (lv' := [(3, .int (nI k)), (0, .int x), (1, .int (nI b)), (2, .int q), (4, .int (nI k))]) hx hb dX11_lowestTerm_27 rfl hl (by decide) rfl (fun ls hl => ?_)
            refine lv_iinc (v := nI (k + 1)) (lv' := [(4, .int (nI (k + 1))), (3, .int (nI k)), (0, .int x), (1, .int (nI b)), (2, .int q)]) hx hb dX11_lowestTerm_28 hl (k := 4) rfl (gAdd rfl (show Int32.ofInt 1 = nI 1 from rfl)) (by decide) rfl (fun ls hl => ?_)
            refine lv_goto (tgt := 5) hx hb dX11_lowestTerm_31 (by decide) ?_
            have eb : gBy x b k = k := by
              obtain ⟨z, rfl⟩ : ∃ z, k = z + 1 := ⟨k - 1, by omega⟩
              rw [gBy, if_pos ⟨c4, c5⟩]
            exact ih (k + 1) (by omega) (by omega) _ (by rw [show k + 1 - 1 = k from rfl, eb]; exact lv_sub hl [2, 3, 4, 1, 0] rfl)
  exact loop (b - 1) 2 (by omega) (by omega) _ (by rw [show (2 - 1 : Nat) = 1 from rfl, e1]; exact lv_sub hl [2, 3, 4, 1, 0] rfl)

set_option maxHeartbeats 4000000 in
set_option maxRecDepth 100000 in
theorem c_X11_isPlace (l : Launch) (G : gW) (B : Nat) (μ : gPS) (t : Nat) (ht : t < 6) (i : Int32) : gCI l yX11_isPlace cX11_isPlace 3 .boolean (gRm 0 0) G [.ref B, .int (nI t), .int i] (fun H => gSg G B (gLO G B μ) H ∧ gSg G (B + 111) (gLT G (B + 111) μ) H) (fun r H => r = gB (0 ≤ i ∧ i < μ 3 t)) (fun _ => False) := by
  refine g_start (by decide) (Nat.le_of_ble_eq_true rfl) ?_
  intro pp_ ee_ s mm_ aa_ below meth cc_ ls Q hQ hX hE hP hl
  obtain ⟨hx, hb, hr, hml, hown, hT, hlk, hnm⟩ := hX
  have hK := hE.2.1
  obtain ⟨zO, zP⟩ := hP
  have hS : va_S (fun _ => False) s.heap s.heap [] := va_S.rf
  have hl : lv_has ls 3 [(0, .ref B), (1, .int (nI t)), (2, .int i)] := hl
  refine lv_iload_n hx hb dX11_isPlace_0 rfl (lv_at hl 2 rfl) ?_
  refine lv_if_lt (tgt := 18) hx hb dX11_isPlace_1 (by decide) (fun c1 => ?_) (fun c1 => ?_)
  · refine lv_iconst (v := 0) hx hb dX11_isPlace_18 (by decide) ?_
    rw [← hQ]
    exact g_zret hx hb hr hlk rfl hS dX11_isPlace_19 (gB_f (fun z => absurd z.1 (Int32.not_le.mpr c1))).symm
  · refine lv_iload_n hx hb dX11_isPlace_4 rfl (lv_at hl 2 rfl) ?_
    refine lv_aload_n hx hb dX11_isPlace_5 rfl (lv_at hl 0 rfl) ?_
    refine g_get (v := .ref (B + 111 + 1)) (T := TX11) (ci := 11) (N := 13) hx hb hown hK (gY_X11 hT) rfl (zO 0 _ rfl) 11 (by decide) (hT _ gf_X11_48) rfl dX11_isPlace_6 ?_
    refine lv_iload_n hx hb dX11_isPlace_9 rfl (lv_at hl 1 rfl) ?_
    refine g_ia (j := t) (v := μ 3 t) hx hb hK (zP 1 _ rfl) rfl (by omega) (Nat.le_of_ble_eq_true rfl) rfl dX11_isPlace_10 ?_
    refine lv_icmp_ge (tgt := 18) hx hb dX11_isPlace_11 (by decide) (fun c2 => ?_) (fun c2 => ?_)
    · refine lv_iconst (v := 0) hx hb dX11_isPlace_18 (by decide) ?_
      rw [← hQ]
      exact g_zret hx hb hr hlk rfl hS dX11_isPlace_19 (gB_f (fun z => absurd z.2 (Int32.not_lt.mpr c2))).symm
    · refine lv_iconst (v := 1) hx hb dX11_isPlace_14 (by decide) ?_
      refine lv_goto (tgt := 19) hx hb dX11_isPlace_15 (by decide) ?_
      rw [← hQ]
      exact g_zret hx hb hr hlk rfl hS dX11_isPlace_19 (gB_t ⟨Int32.not_lt.mp c1, Int32.not_le.mp c2⟩).symm
