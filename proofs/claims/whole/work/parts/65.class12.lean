set_option maxHeartbeats 4000000 in
set_option maxRecDepth 100000 in
theorem c_X9_gladnessBy (l : Launch) (G : gW) (t lp : Nat) (π ρ : gPS) (p : Nat) (hp : p < 6) (kd : Nat) (hkd : kd < 7) (ek : π 2 p = nI kd) (ws gain : Int32) : gCI l yX9_gladnessBy cX9_gladnessBy 6 .int (gRm 2 51) G [.ref t, .int (nI p), .int ws, .int gain] (fun H => gSg G t (gLS G t π lp ρ) H ∧ gSg G (t + 28) (gKk G (t + 28)) H) (fun r H => r = gJk π p ws (gSw (π 0) ws (gain - π 5 p) 12) ∧ gSg G t (gLS G t π lp ρ) H ∧ gSg G (t + 28) (gKk G (t + 28)) H) (fun _ => False) := by
  refine g_start (by decide) (Nat.le_of_ble_eq_true rfl) ?_
  intro pp_ ee_ s mm_ aa_ below meth cc_ ls Q hQ hX hE hP hl
  obtain ⟨hx, hb, hr, hml, hown, hT, hlk, hnm⟩ := hX
  have hK := hE.2.1
  obtain ⟨h1, hk7⟩ := hP
  have hS : va_S (fun _ => False) s.heap s.heap [] := va_S.rf
  have hl : lv_has ls 6 [(0, .ref t), (1, .int (nI p)), (2, .int ws), (3, .int gain)] := hl
  refine lv_iload_n hx hb dX9_gladnessBy_0 rfl (lv_at hl 3 rfl) ?_
  refine lv_aload_n hx hb dX9_gladnessBy_1 rfl (lv_at hl 0 rfl) ?_
  refine g_get (v := .ref (t + 7)) (T := TX9) (ci := 9) (N := 16) hx hb hown hK (gY_X9 hT) rfl (h1 0 _ rfl) 6 (by decide) (hT _ gf_X9_33) rfl dX9_gladnessBy_2 ?_
  refine lv_iload_n hx hb dX9_gladnessBy_5 rfl (lv_at hl 1 rfl) ?_
  refine g_ia (j := p) (v := π 5 p) hx hb hK (h1 7 _ rfl) rfl (by omega) (Nat.le_of_ble_eq_true rfl) rfl dX9_gladnessBy_6 ?_
  refine lv_isub hx hb dX9_gladnessBy_7 ?_
  refine lv_istore (lv' := [(4, .int (gain - (π 5 p))), (0, .ref t), (1, .int (nI p)), (2, .int ws), (3, .int gain)]) hx hb dX9_gladnessBy_8 hl (by decide) rfl (fun ls hl => ?_)
  refine lv_iconst (v := 0) hx hb dX9_gladnessBy_10 (by decide) ?_
  refine lv_istore (lv' := [(5, .int 0), (4, .int (gain - (π 5 p))), (0, .ref t), (1, .int (nI p)), (2, .int ws), (3, .int gain)]) hx hb dX9_gladnessBy_11 hl (by decide) rfl (fun ls hl => ?_)
  have loop : ∀ (d k : Nat), k + d = 12 → ∀ (H : Heap) (locs : List Loc), gSg G t (gLS G t π lp ρ) H → gSg G (t + 28) (gKk G (t + 28) ) H → va_S (fun _ => False) s.heap H locs → ∀ ls, lv_has ls 6 [(0, .ref t), (1, .int (nI p)), (2, .int ws), (3, .int gain), (4, .int (gSw (π 0) ws (gain - π 5 p) k)), (5, .int (nI k))] → W pp_ l ee_ (gRm 2 51) s mm_ aa_ below meth cc_ H locs 0 0 Q (F0 mm_ 13 ls []) := by
    intro d
    induction d with
    | zero =>
      intro k hk   H locs h1 hk7 hS ls hl
      have hk : k = 12 := by omega
      refine lv_iload hx hb dX9_gladnessBy_13 (lv_at hl 5 rfl) ?_
      refine lv_bipush (v := 12) hx hb dX9_gladnessBy_15 (by decide) ?_
      refine lv_icmp_ge (tgt := 49) hx hb dX9_gladnessBy_17 (by decide) (fun c1 => ?_) (fun c1 => ?_)
      · have c1 : 12 ≤ k := (gLe (a := 12) (b := k) rfl rfl (by omega) (by omega)).mp c1
        rw [show (k : Nat) = 12 from hk] at hl
        rcases gKd7 hkd with rfl | rfl | rfl | rfl | rfl | rfl | rfl
        · refine lv_aload_n hx hb dX9_gladnessBy_49 rfl (lv_at hl 0 rfl) ?_
          refine g_get (v := .ref (t + 1)) (T := TX9) (ci := 9) (N := 16) hx hb hown hK (gY_X9 hT) rfl (h1 0 _ rfl) 0 (by decide) (hT _ gf_X9_11) rfl dX9_gladnessBy_50 ?_
          refine lv_aload_n hx hb dX9_gladnessBy_53 rfl (lv_at hl 0 rfl) ?_
          refine g_get (v := .ref (t + 4)) (T := TX9) (ci := 9) (N := 16) hx hb hown hK (gY_X9 hT) rfl (h1 0 _ rfl) 3 (by decide) (hT _ gf_X9_24) rfl dX9_gladnessBy_54 ?_
          refine lv_iload_n hx hb dX9_gladnessBy_57 rfl (lv_at hl 1 rfl) ?_
          refine g_ia (j := p) (v := π 2 p) hx hb hK (h1 4 _ rfl) rfl (by omega) (Nat.le_of_ble_eq_true rfl) rfl dX9_gladnessBy_58 ?_
          refine g_aa5 (j := 0) (v := .ref (t + 28 + 0)) hx hb hK (h1 1 _ rfl) ek (by omega) (Nat.le_of_ble_eq_true rfl) rfl dX9_gladnessBy_59 ?_
          refine lv_iload hx hb dX9_gladnessBy_60 (lv_at hl 4 rfl) ?_
          refine lv_aload_n hx hb dX9_gladnessBy_62 rfl (lv_at hl 0 rfl) ?_
          refine lv_iload_n hx hb dX9_gladnessBy_63 rfl (lv_at hl 1 rfl) ?_
          refine lv_iload_n hx hb dX9_gladnessBy_64 rfl (lv_at hl 2 rfl) ?_
          refine g_ki (g_runW (x := yX7_joyFrom) (rest := []) (T := TX7) (ci := 7) (N := 0) (C := RX7) hx hb hml hown hE hT (c_X7_joyFrom l G (t + 28 + 0) t lp π ρ p hp (gSw (π 0) ws (gain - π 5 p) 12) ws) gM_X7_joyFrom gm_X9_117 gi_X7_joyFrom gs_RX7_yX7_joyFrom_yX7_joyFrom gx_231 gi_X7_joyFrom gc_X7_joyFrom ⟨by decide, by decide, by decide +kernel⟩ rfl (hk7 0 _ rfl) h1 rfl hl.1 ⟨rfl, rfl⟩ ⟨Nat.le_of_ble_eq_true rfl, Nat.le_of_ble_eq_true rfl⟩ ⟨Nat.zero_le _, Nat.zero_le _⟩ rfl (Nat.le_of_ble_eq_true rfl) dX9_gladnessBy_65) hS (fun _ h => h.elim) (fun r5 H2 locs q3 k4 hS => ?_)
          subst q3
          have h1 := gSg_free h1 k4 (by intro k hk q; simp only [List.length_cons, List.length_nil] at hk; omega)
          have hk7 := gSg_free hk7 k4 (by intro k hk q; simp only [List.length_cons, List.length_nil] at hk; omega)
          rw [← hQ]
          exact g_iret hx hb hr hlk hS dX9_gladnessBy_68 ⟨by rw [gJk, if_neg (show ¬ π 2 p = 1 from by rw [ek]; decide), if_neg (show ¬ π 2 p = 2 from by rw [ek]; decide), if_neg (show ¬ π 2 p = 3 from by rw [ek]; decide), if_neg (show ¬ π 2 p = 4 from by rw [ek]; decide), if_neg (show ¬ π 2 p = 5 from by rw [ek]; decide), if_neg (show ¬ π 2 p = 6 from by rw [ek]; decide)], h1, hk7⟩
        · refine lv_aload_n hx hb dX9_gladnessBy_49 rfl (lv_at hl 0 rfl) ?_
          refine g_get (v := .ref (t + 1)) (T := TX9) (ci := 9) (N := 16) hx hb hown hK (gY_X9 hT) rfl (h1 0 _ rfl) 0 (by decide) (hT _ gf_X9_11) rfl dX9_gladnessBy_50 ?_
          refine lv_aload_n hx hb dX9_gladnessBy_53 rfl (lv_at hl 0 rfl) ?_
          refine g_get (v := .ref (t + 4)) (T := TX9) (ci := 9) (N := 16) hx hb hown hK (gY_X9 hT) rfl (h1 0 _ rfl) 3 (by decide) (hT _ gf_X9_24) rfl dX9_gladnessBy_54 ?_
          refine lv_iload_n hx hb dX9_gladnessBy_57 rfl (lv_at hl 1 rfl) ?_
          refine g_ia (j := p) (v := π 2 p) hx hb hK (h1 4 _ rfl) rfl (by omega) (Nat.le_of_ble_eq_true rfl) rfl dX9_gladnessBy_58 ?_
          refine g_aa5 (j := 1) (v := .ref (t + 28 + 1)) hx hb hK (h1 1 _ rfl) ek (by omega) (Nat.le_of_ble_eq_true rfl) rfl dX9_gladnessBy_59 ?_
          refine lv_iload hx hb dX9_gladnessBy_60 (lv_at hl 4 rfl) ?_
          refine lv_aload_n hx hb dX9_gladnessBy_62 rfl (lv_at hl 0 rfl) ?_
          refine lv_iload_n hx hb dX9_gladnessBy_63 rfl (lv_at hl 1 rfl) ?_
          refine lv_iload_n hx hb dX9_gladnessBy_64 rfl (lv_at hl 2 rfl) ?_
          refine g_ki (g_runW (x := yX7_joyFrom) (rest := []) (T := TX2) (ci := 2) (N := 0) (C := RX2) hx hb hml hown hE hT (c_X2_joyFrom l G (t + 28 + 1) t lp π ρ p hp (gSw (π 0) ws (gain - π 5 p) 12) ws) gM_X2_joyFrom gm_X9_117 gi_X2_joyFrom gs_RX2_GoodNewsPigeons_Pigeon_joyFrom_ILGoodNewsPigeons_State_II_I_yX2_joyFrom gx_231 gi_X7_joyFrom gc_X7_joyFrom ⟨by decide, by decide, by decide +kernel⟩ rfl (hk7 1 _ rfl) h1 rfl hl.1 ⟨rfl, rfl⟩ ⟨Nat.le_of_ble_eq_true rfl, Nat.le_of_ble_eq_true rfl⟩ ⟨Nat.zero_le _, Nat.zero_le _⟩ rfl (Nat.le_of_ble_eq_true rfl) dX9_gladnessBy_65) hS (fun _ h => h.elim) (fun r9 H6 locs q7 k8 hS => ?_)
          subst q7
          have h1 := gSg_free h1 k8 (by intro k hk q; simp only [List.length_cons, List.length_nil] at hk; omega)
          have hk7 := gSg_free hk7 k8 (by intro k hk q; simp only [List.length_cons, List.length_nil] at hk; omega)
          rw [← hQ]
          exact g_iret hx hb hr hlk hS dX9_gladnessBy_68 ⟨by rw [gJk, if_pos (show π 2 p = 1 from by rw [ek]; rfl)], h1, hk7⟩
        · refine lv_aload_n hx hb dX9_gladnessBy_49 rfl (lv_at hl 0 rfl) ?_
          refine g_get (v := .ref (t + 1)) (T := TX9) (ci := 9) (N := 16) hx hb hown hK (gY_X9 hT) rfl (h1 0 _ rfl) 0 (by decide) (hT _ gf_X9_11) rfl dX9_gladnessBy_50 ?_
          refine lv_aload_n hx hb dX9_gladnessBy_53 rfl (lv_at hl 0 rfl) ?_
          refine g_get (v := .ref (t + 4)) (T := TX9) (ci := 9) (N := 16) hx hb hown hK (gY_X9 hT) rfl (h1 0 _ rfl) 3 (by decide) (hT _ gf_X9_24) rfl dX9_gladnessBy_54 ?_
          refine lv_iload_n hx hb dX9_gladnessBy_57 rfl (lv_at hl 1 rfl) ?_
          refine g_ia (j := p) (v := π 2 p) hx hb hK (h1 4 _ rfl) rfl (by omega) (Nat.le_of_ble_eq_true rfl) rfl dX9_gladnessBy_58 ?_
          refine g_aa5 (j := 2) (v := .ref (t + 28 + 2)) hx hb hK (h1 1 _ rfl) ek (by omega) (Nat.le_of_ble_eq_true rfl) rfl dX9_gladnessBy_59 ?_
          refine lv_iload hx hb dX9_gladnessBy_60 (lv_at hl 4 rfl) ?_
          refine lv_aload_n hx hb dX9_gladnessBy_62 rfl (lv_at hl 0 rfl) ?_
          refine lv_iload_n hx hb dX9_gladnessBy_63 rfl (lv_at hl 1 rfl) ?_
          refine lv_iload_n hx hb dX9_gladnessBy_64 rfl (lv_at hl 2 rfl) ?_
          refine g_ki (g_runW (x := yX7_joyFrom) (rest := []) (T := TX1) (ci := 1) (N := 0) (C := RX1) hx hb hml hown hE hT (c_X1_joyFrom l G (t + 28 + 2) t lp π ρ p hp (gSw (π 0) ws (gain - π 5 p) 12) ws) gM_X1_joyFrom gm_X9_117 gi_X1_joyFrom gs_RX1_GoodNewsPigeons_Pigeon_joyFrom_ILGoodNewsPigeons_State_II_I_yX1_joyFrom gx_231 gi_X7_joyFrom gc_X7_joyFrom ⟨by decide, by decide, by decide +kernel⟩ rfl (hk7 2 _ rfl) h1 rfl hl.1 ⟨rfl, rfl⟩ ⟨Nat.le_of_ble_eq_true rfl, Nat.le_of_ble_eq_true rfl⟩ ⟨Nat.zero_le _, Nat.zero_le _⟩ rfl (Nat.le_of_ble_eq_true rfl) dX9_gladnessBy_65) hS (fun _ h => h.elim) (fun r13 H10 locs q11 k12 hS => ?_)
          subst q11
          have h1 := gSg_free h1 k12 (by intro k hk q; simp only [List.length_cons, List.length_nil] at hk; omega)
          have hk7 := gSg_free hk7 k12 (by intro k hk q; simp only [List.length_cons, List.length_nil] at hk; omega)
          rw [← hQ]
          exact g_iret hx hb hr hlk hS dX9_gladnessBy_68 ⟨by rw [gJk, if_neg (show ¬ π 2 p = 1 from by rw [ek]; decide), if_pos (show π 2 p = 2 from by rw [ek]; rfl)], h1, hk7⟩
        · refine lv_aload_n hx hb dX9_gladnessBy_49 rfl (lv_at hl 0 rfl) ?_
          refine g_get (v := .ref (t + 1)) (T := TX9) (ci := 9) (N := 16) hx hb hown hK (gY_X9 hT) rfl (h1 0 _ rfl) 0 (by decide) (hT _ gf_X9_11) rfl dX9_gladnessBy_50 ?_
          refine lv_aload_n hx hb dX9_gladnessBy_53 rfl (lv_at hl 0 rfl) ?_
          refine g_get (v := .ref (t + 4)) (T := TX9) (ci := 9) (N := 16) hx hb hown hK (gY_X9 hT) rfl (h1 0 _ rfl) 3 (by decide) (hT _ gf_X9_24) rfl dX9_gladnessBy_54 ?_
          refine lv_iload_n hx hb dX9_gladnessBy_57 rfl (lv_at hl 1 rfl) ?_
          refine g_ia (j := p) (v := π 2 p) hx hb hK (h1 4 _ rfl) rfl (by omega) (Nat.le_of_ble_eq_true rfl) rfl dX9_gladnessBy_58 ?_
          refine g_aa5 (j := 3) (v := .ref (t + 28 + 3)) hx hb hK (h1 1 _ rfl) ek (by omega) (Nat.le_of_ble_eq_true rfl) rfl dX9_gladnessBy_59 ?_
          refine lv_iload hx hb dX9_gladnessBy_60 (lv_at hl 4 rfl) ?_
          refine lv_aload_n hx hb dX9_gladnessBy_62 rfl (lv_at hl 0 rfl) ?_
          refine lv_iload_n hx hb dX9_gladnessBy_63 rfl (lv_at hl 1 rfl) ?_
          refine lv_iload_n hx hb dX9_gladnessBy_64 rfl (lv_at hl 2 rfl) ?_
          refine g_ki (g_runW (x := yX7_joyFrom) (rest := []) (T := TX4) (ci := 4) (N := 0) (C := RX4) hx hb hml hown hE hT (c_X4_joyFrom l G (t + 28 + 3) t lp π ρ p hp (gSw (π 0) ws (gain - π 5 p) 12) ws) gM_X4_joyFrom gm_X9_117 gi_X4_joyFrom gs_RX4_GoodNewsPigeons_Pigeon_joyFrom_ILGoodNewsPigeons_State_II_I_yX4_joyFrom gx_231 gi_X7_joyFrom gc_X7_joyFrom ⟨by decide, by decide, by decide +kernel⟩ rfl (hk7 3 _ rfl) h1 rfl hl.1 ⟨rfl, rfl⟩ ⟨Nat.le_of_ble_eq_true rfl, Nat.le_of_ble_eq_true rfl⟩ ⟨Nat.zero_le _, Nat.zero_le _⟩ rfl (Nat.le_of_ble_eq_true rfl) dX9_gladnessBy_65) hS (fun _ h => h.elim) (fun r17 H14 locs q15 k16 hS => ?_)
          subst q15
          have h1 := gSg_free h1 k16 (by intro k hk q; simp only [List.length_cons, List.length_nil] at hk; omega)
          have hk7 := gSg_free hk7 k16 (by intro k hk q; simp only [List.length_cons, List.length_nil] at hk; omega)
          rw [← hQ]
          exact g_iret hx hb hr hlk hS dX9_gladnessBy_68 ⟨by rw [gJk, if_neg (show ¬ π 2 p = 1 from by rw [ek]; decide), if_neg (show ¬ π 2 p = 2 from by rw [ek]; decide), if_pos (show π 2 p = 3 from by rw [ek]; rfl)], h1, hk7⟩
        · refine lv_aload_n hx hb dX9_gladnessBy_49 rfl (lv_at hl 0 rfl) ?_
          refine g_get (v := .ref (t + 1)) (T := TX9) (ci := 9) (N := 16) hx hb hown hK (gY_X9 hT) rfl (h1 0 _ rfl) 0 (by decide) (hT _ gf_X9_11) rfl dX9_gladnessBy_50 ?_
          refine lv_aload_n hx hb dX9_gladnessBy_53 rfl (lv_at hl 0 rfl) ?_
          refine g_get (v := .ref (t + 4)) (T := TX9) (ci := 9) (N := 16) hx hb hown hK (gY_X9 hT) rfl (h1 0 _ rfl) 3 (by decide) (hT _ gf_X9_24) rfl dX9_gladnessBy_54 ?_
          refine lv_iload_n hx hb dX9_gladnessBy_57 rfl (lv_at hl 1 rfl) ?_
          refine g_ia (j := p) (v := π 2 p) hx hb hK (h1 4 _ rfl) rfl (by omega) (Nat.le_of_ble_eq_true rfl) rfl dX9_gladnessBy_58 ?_
          refine g_aa5 (j := 4) (v := .ref (t + 28 + 4)) hx hb hK (h1 1 _ rfl) ek (by omega) (Nat.le_of_ble_eq_true rfl) rfl dX9_gladnessBy_59 ?_
          refine lv_iload hx hb dX9_gladnessBy_60 (lv_at hl 4 rfl) ?_
          refine lv_aload_n hx hb dX9_gladnessBy_62 rfl (lv_at hl 0 rfl) ?_
          refine lv_iload_n hx hb dX9_gladnessBy_63 rfl (lv_at hl 1 rfl) ?_
          refine lv_iload_n hx hb dX9_gladnessBy_64 rfl (lv_at hl 2 rfl) ?_
          refine g_ki (g_runW (x := yX7_joyFrom) (rest := []) (T := TX3) (ci := 3) (N := 0) (C := RX3) hx hb hml hown hE hT (c_X3_joyFrom l G  t lp π ρ p hp (gSw (π 0) ws (gain - π 5 p) 12) ws) gM_X3_joyFrom gm_X9_117 gi_X3_joyFrom gs_RX3_GoodNewsPigeons_Pigeon_joyFrom_ILGoodNewsPigeons_State_II_I_yX3_joyFrom gx_231 gi_X7_joyFrom gc_X7_joyFrom ⟨by decide, by decide, by decide +kernel⟩ rfl (hk7 4 _ rfl) ⟨h1, hk7⟩ rfl hl.1 ⟨rfl, rfl⟩ ⟨Nat.le_of_ble_eq_true rfl, Nat.le_of_ble_eq_true rfl⟩ ⟨Nat.zero_le _, Nat.zero_le _⟩ rfl (Nat.le_of_ble_eq_true rfl) dX9_gladnessBy_65) hS (fun _ h => h.elim) (fun r21 H18 locs q19 k20 hS => ?_)
          subst q19
          have h1 := gSg_free h1 k20 (by intro k hk q; simp only [List.length_cons, List.length_nil] at hk; omega)
          have hk7 := gSg_free hk7 k20 (by intro k hk q; simp only [List.length_cons, List.length_nil] at hk; omega)
          rw [← hQ]
          exact g_iret hx hb hr hlk hS dX9_gladnessBy_68 ⟨by rw [gJk, if_neg (show ¬ π 2 p = 1 from by rw [ek]; decide), if_neg (show ¬ π 2 p = 2 from by rw [ek]; decide), if_neg (show ¬ π 2 p = 3 from by rw [ek]; decide), if_pos (show π 2 p = 4 from by rw [ek]; rfl)], h1, hk7⟩
        · refine lv_aload_n hx hb dX9_gladnessBy_49 rfl (lv_at hl 0 rfl) ?_
          refine g_get (v := .ref (t + 1)) (T := TX9) (ci := 9) (N := 16) hx hb hown hK (gY_X9 hT) rfl (h1 0 _ rfl) 0 (by decide) (hT _ gf_X9_11) rfl dX9_gladnessBy_50 ?_
          refine lv_aload_n hx hb dX9_gladnessBy_53 rfl (lv_at hl 0 rfl) ?_
          refine g_get (v := .ref (t + 4)) (T := TX9) (ci := 9) (N := 16) hx hb hown hK (gY_X9 hT) rfl (h1 0 _ rfl) 3 (by decide) (hT _ gf_X9_24) rfl dX9_gladnessBy_54 ?_
          refine lv_iload_n hx hb dX9_gladnessBy_57 rfl (lv_at hl 1 rfl) ?_
          refine g_ia (j := p) (v := π 2 p) hx hb hK (h1 4 _ rfl) rfl (by omega) (Nat.le_of_ble_eq_true rfl) rfl dX9_gladnessBy_58 ?_
          refine g_aa5 (j := 5) (v := .ref (t + 28 + 5)) hx hb hK (h1 1 _ rfl) ek (by omega) (Nat.le_of_ble_eq_true rfl) rfl dX9_gladnessBy_59 ?_
          refine lv_iload hx hb dX9_gladnessBy_60 (lv_at hl 4 rfl) ?_
          refine lv_aload_n hx hb dX9_gladnessBy_62 rfl (lv_at hl 0 rfl) ?_
          refine lv_iload_n hx hb dX9_gladnessBy_63 rfl (lv_at hl 1 rfl) ?_
          refine lv_iload_n hx hb dX9_gladnessBy_64 rfl (lv_at hl 2 rfl) ?_
          refine g_ki (g_runW (x := yX7_joyFrom) (rest := []) (T := TX6) (ci := 6) (N := 0) (C := RX6) hx hb hml hown hE hT (c_X6_joyFrom l G  t lp π ρ p hp (gSw (π 0) ws (gain - π 5 p) 12) ws) gM_X6_joyFrom gm_X9_117 gi_X6_joyFrom gs_RX6_GoodNewsPigeons_Pigeon_joyFrom_ILGoodNewsPigeons_State_II_I_yX6_joyFrom gx_231 gi_X7_joyFrom gc_X7_joyFrom ⟨by decide, by decide, by decide +kernel⟩ rfl (hk7 5 _ rfl) ⟨h1, hk7⟩ rfl hl.1 ⟨rfl, rfl⟩ ⟨Nat.le_of_ble_eq_true rfl, Nat.le_of_ble_eq_true rfl⟩ ⟨Nat.zero_le _, Nat.zero_le _⟩ rfl (Nat.le_of_ble_eq_true rfl) dX9_gladnessBy_65) hS (fun _ h => h.elim) (fun r25 H22 locs q23 k24 hS => ?_)
          subst q23
          have h1 := gSg_free h1 k24 (by intro k hk q; simp only [List.length_cons, List.length_nil] at hk; omega)
          have hk7 := gSg_free hk7 k24 (by intro k hk q; simp only [List.length_cons, List.length_nil] at hk; omega)
          rw [← hQ]
          exact g_iret hx hb hr hlk hS dX9_gladnessBy_68 ⟨by rw [gJk, if_neg (show ¬ π 2 p = 1 from by rw [ek]; decide), if_neg (show ¬ π 2 p = 2 from by rw [ek]; decide), if_neg (show ¬ π 2 p = 3 from by rw [ek]; decide), if_neg (show ¬ π 2 p = 4 from by rw [ek]; decide), if_pos (show π 2 p = 5 from by rw [ek]; rfl)], h1, hk7⟩
        · refine lv_aload_n hx hb dX9_gladnessBy_49 rfl (lv_at hl 0 rfl) ?_
          refine g_get (v := .ref (t + 1)) (T := TX9) (ci := 9) (N := 16) hx hb hown hK (gY_X9 hT) rfl (h1 0 _ rfl) 0 (by decide) (hT _ gf_X9_11) rfl dX9_gladnessBy_50 ?_
          refine lv_aload_n hx hb dX9_gladnessBy_53 rfl (lv_at hl 0 rfl) ?_
          refine g_get (v := .ref (t + 4)) (T := TX9) (ci := 9) (N := 16) hx hb hown hK (gY_X9 hT) rfl (h1 0 _ rfl) 3 (by decide) (hT _ gf_X9_24) rfl dX9_gladnessBy_54 ?_
          refine lv_iload_n hx hb dX9_gladnessBy_57 rfl (lv_at hl 1 rfl) ?_
          refine g_ia (j := p) (v := π 2 p) hx hb hK (h1 4 _ rfl) rfl (by omega) (Nat.le_of_ble_eq_true rfl) rfl dX9_gladnessBy_58 ?_
          refine g_aa5 (j := 6) (v := .ref (t + 28 + 6)) hx hb hK (h1 1 _ rfl) ek (by omega) (Nat.le_of_ble_eq_true rfl) rfl dX9_gladnessBy_59 ?_
          refine lv_iload hx hb dX9_gladnessBy_60 (lv_at hl 4 rfl) ?_
          refine lv_aload_n hx hb dX9_gladnessBy_62 rfl (lv_at hl 0 rfl) ?_
          refine lv_iload_n hx hb dX9_gladnessBy_63 rfl (lv_at hl 1 rfl) ?_
          refine lv_iload_n hx hb dX9_gladnessBy_64 rfl (lv_at hl 2 rfl) ?_
          refine g_ki (g_runW (x := yX7_joyFrom) (rest := []) (T := TX10) (ci := 10) (N := 0) (C := RX10) hx hb hml hown hE hT (c_X10_joyFrom l G  t lp π ρ p hp (gSw (π 0) ws (gain - π 5 p) 12) ws) gM_X10_joyFrom gm_X9_117 gi_X10_joyFrom gs_RX10_GoodNewsPigeons_Pigeon_joyFrom_ILGoodNewsPigeons_State_II_I_yX10_joyFrom gx_231 gi_X7_joyFrom gc_X7_joyFrom ⟨by decide, by decide, by decide +kernel⟩ rfl (hk7 6 _ rfl) ⟨h1, hk7⟩ rfl hl.1 ⟨rfl, rfl⟩ ⟨Nat.le_of_ble_eq_true rfl, Nat.le_of_ble_eq_true rfl⟩ ⟨Nat.zero_le _, Nat.zero_le _⟩ rfl (Nat.le_of_ble_eq_true rfl) dX9_gladnessBy_65) hS (fun _ h => h.elim) (fun r29 H26 locs q27 k28 hS => ?_)
          subst q27
          have h1 := gSg_free h1 k28 (by intro k hk q; simp only [List.length_cons, List.length_nil] at hk; omega)
          have hk7 := gSg_free hk7 k28 (by intro k hk q; simp only [List.length_cons, List.length_nil] at hk; omega)
          rw [← hQ]
          exact g_iret hx hb hr hlk hS dX9_gladnessBy_68 ⟨by rw [gJk, if_neg (show ¬ π 2 p = 1 from by rw [ek]; decide), if_neg (show ¬ π 2 p = 2 from by rw [ek]; decide), if_neg (show ¬ π 2 p = 3 from by rw [ek]; decide), if_neg (show ¬ π 2 p = 4 from by rw [ek]; decide), if_neg (show ¬ π 2 p = 5 from by rw [ek]; decide), if_pos (show π 2 p = 6 from by rw [ek]; rfl)], h1, hk7⟩
      · have c1 : ¬ 12 ≤ k := fun z => c1 ((gLe (a := 12) (b := k) rfl rfl (by omega) (by omega)).mpr z)
        exact absurd c1 (by omega)
    | succ d ih =>
      intro k hk   H locs h1 hk7 hS ls hl
      refine lv_iload hx hb dX9_gladnessBy_13 (lv_at hl 5 rfl) ?_
      refine lv_bipush (v := 12) hx hb dX9_gladnessBy_15 (by decide) ?_
      refine lv_icmp_ge (tgt := 49) hx hb dX9_gladnessBy_17 (by decide) (fun c30 => ?_) (fun c30 => ?_)
      · have c30 : 12 ≤ k := (gLe (a := 12) (b := k) rfl rfl (by omega) (by omega)).mp c30
        exact absurd c30 (by omega)
      · have c30 : ¬ 12 ≤ k := fun z => c30 ((gLe (a := 12) (b := k) rfl rfl (by omega) (by omega)).mpr z)
        refine lv_iload_n hx hb dX9_gladnessBy_20 rfl (lv_at hl 2 rfl) ?_
        refine lv_iload hx hb dX9_gladnessBy_21 (lv_at hl 5 rfl) ?_
        refine lv_ishr hx hb dX9_gladnessBy_23 ?_
        refine lv_iconst (v := 1) hx hb dX9_gladnessBy_24 (by decide) ?_
        refine lv_iand hx hb dX9_gladnessBy_25 ?_
        refine lv_if_eq (tgt := 43) hx hb dX9_gladnessBy_26 (by decide) (fun c31 => ?_) (fun c31 => ?_)
        · refine lv_iinc (v := nI (k + 1)) (lv' := [(5, .int (nI (k + 1))), (0, .ref t), (1, .int (nI p)), (2, .int ws), (3, .int gain), (4, .int (gSw (π 0) ws (gain - π 5 p) k))]) hx hb dX9_gladnessBy_43 hl (k := 5) rfl (gAdd rfl (show Int32.ofInt 1 = nI 1 from rfl)) (by decide) rfl (fun ls hl => ?_)
          refine lv_goto (tgt := 13) hx hb dX9_gladnessBy_46 (by decide) ?_
          exact ih (k + 1) (by omega)   _ _ h1 hk7 hS _ (by have hl := lv_sub hl [1, 2, 3, 4, 5, 0] rfl; rw [show (gSw (π 0) ws (gain - π 5 p) k : Int32) = gSw (π 0) ws (gain - π 5 p) (k + 1) from by rw [gSw, if_pos c31]] at hl; exact hl)
        · refine lv_iload hx hb dX9_gladnessBy_29 (lv_at hl 4 rfl) ?_
          refine lv_aload_n hx hb dX9_gladnessBy_31 rfl (lv_at hl 0 rfl) ?_
          refine g_get (v := .ref (t + 2)) (T := TX9) (ci := 9) (N := 16) hx hb hown hK (gY_X9 hT) rfl (h1 0 _ rfl) 1 (by decide) (hT _ gf_X9_17) rfl dX9_gladnessBy_32 ?_
          refine lv_iload hx hb dX9_gladnessBy_35 (lv_at hl 5 rfl) ?_
          refine g_ia (j := k) (v := π 0 k) hx hb hK (h1 2 _ rfl) rfl (by omega) (Nat.le_of_ble_eq_true rfl) rfl dX9_gladnessBy_37 ?_
          refine lv_iconst (v := 4) hx hb dX9_gladnessBy_38 (by decide) ?_
          refine lv_isub hx hb dX9_gladnessBy_39 ?_
          refine lv_iadd hx hb dX9_gladnessBy_40 ?_
          refine lv_istore (lv' := [(4, .int ((gSw (π 0) ws (gain - π 5 p) k) + ((π 0 k) - 4))), (0, .ref t), (1, .int (nI p)), (2, .int ws), (3, .int gain), (5, .int (nI k))]) hx hb dX9_gladnessBy_41 hl (by decide) rfl (fun ls hl => ?_)
          refine lv_iinc (v := nI (k + 1)) (lv' := [(5, .int (nI (k + 1))), (4, .int ((gSw (π 0) ws (gain - π 5 p) k) + ((π 0 k) - 4))), (0, .ref t), (1, .int (nI p)), (2, .int ws), (3, .int gain)]) hx hb dX9_gladnessBy_43 hl (k := 5) rfl (gAdd rfl (show Int32.ofInt 1 = nI 1 from rfl)) (by decide) rfl (fun ls hl => ?_)
          refine lv_goto (tgt := 13) hx hb dX9_gladnessBy_46 (by decide) ?_
          exact ih (k + 1) (by omega)   _ _ h1 hk7 hS _ (by have hl := lv_sub hl [2, 3, 4, 5, 1, 0] rfl; rw [show ((gSw (π 0) ws (gain - π 5 p) k) + ((π 0 k) - 4) : Int32) = gSw (π 0) ws (gain - π 5 p) (k + 1) from by rw [gSw, if_neg c31]] at hl; exact hl)
  exact loop (12 - 0) 0 (by first | omega | simp)  _ _ h1 hk7 hS _ (lv_sub hl [2, 3, 4, 5, 1, 0] rfl)

set_option maxHeartbeats 4000000 in
set_option maxRecDepth 100000 in
theorem c_X9_gladness (l : Launch) (G : gW) (t lp : Nat) (π ρ f : gPS) (hd : lp + 6 ≤ t ∨ lp = t + 22 ∨ t + 35 ≤ lp) (acc : List (Nat × Nat × List Nat)) (hcl : gClo f acc) (p : Nat) (hp : p < 6) (kd : Nat) (hkd : kd < 7) (ek : π 2 p = nI kd) (ws : Int32) : gCI l yX9_gladness cX9_gladness 3 .int (gRm 3 76) G [.ref t, .int (nI p), .int ws] (fun H => gSt G t lp π ρ f H) (fun r H => r = gJoy π (gLof acc) p ws ∧ gSt G t lp π ρ f H) (fun q => lp ≤ q ∧ q < lp + 6) := by
  refine g_start (by decide) (Nat.le_of_ble_eq_true rfl) ?_
  intro pp_ ee_ s mm_ aa_ below meth cc_ ls Q hQ hX hE hP hl
  obtain ⟨hx, hb, hr, hml, hown, hT, hlk, hnm⟩ := hX
  have hK := hE.2.1
  obtain ⟨h1, hk7, s4, h2⟩ := hP
  have hS : va_S (fun q => lp ≤ q ∧ q < lp + 6) s.heap s.heap [] := va_S.rf
  have hl : lv_has ls 3 [(0, .ref t), (1, .int (nI p)), (2, .int ws)] := hl
  refine lv_aload_n hx hb dX9_gladness_0 rfl (lv_at hl 0 rfl) ?_
  refine lv_iload_n hx hb dX9_gladness_1 rfl (lv_at hl 1 rfl) ?_
  refine lv_iload_n hx hb dX9_gladness_2 rfl (lv_at hl 2 rfl) ?_
  refine lv_aload_n hx hb dX9_gladness_3 rfl (lv_at hl 0 rfl) ?_
  refine g_get (v := .ref lp) (T := TX9) (ci := 9) (N := 16) hx hb hown hK (gY_X9 hT) rfl (h1 0 _ rfl) 15 (by decide) (hT _ gf_X9_60) rfl dX9_gladness_4 ?_
  refine lv_aload_n hx hb dX9_gladness_7 rfl (lv_at hl 0 rfl) ?_
  refine lv_iload_n hx hb dX9_gladness_8 rfl (lv_at hl 1 rfl) ?_
  refine lv_iload_n hx hb dX9_gladness_9 rfl (lv_at hl 2 rfl) ?_
  refine g_ki (g_runS (rest := [.int (nI p), .ref t, .ref lp, .int ws, .int (nI p), .ref t]) hx hb hml hown hE hT (c_J6_bitCount_0f7a4 l G ws) gM_J6_bitCount_0f7a4 gm_X9_103 gt_J6_bitCount_0f7a4 trivial rfl hl.1 ⟨rfl, rfl⟩ ⟨Nat.le_of_ble_eq_true rfl, Nat.le_of_ble_eq_true rfl⟩ ⟨Nat.zero_le _, Nat.zero_le _⟩ rfl (Nat.le_of_ble_eq_true rfl) dX9_gladness_10) hS (fun _ h => h.elim) (fun r4 H1 locs q2 k3 hS => ?_)
  subst q2
  have h1 := gSg_free h1 k3 (by intro k hk q; simp only [List.length_cons, List.length_nil] at hk; omega)
  have hk7 := gSg_free hk7 k3 (by intro k hk q; simp only [List.length_cons, List.length_nil] at hk; omega)
  have h2 := gSg_free h2 k3 (by intro k hk q; simp only [List.length_cons, List.length_nil] at hk; omega)
  refine g_ki (g_runV (T := TX5) (ci := 5) (N := 10) (rest := [.int ws, .int (nI p), .ref t]) hx hb hml hown hE hT (c_X5_gainBy l G t lp π ρ f hd acc hcl p hp (gBc ws)) gM_X5_gainBy gm_X9_109 gi_X5_gainBy gs_RX5_yX5_gainBy_yX5_gainBy rfl (h2 0 _ rfl) ⟨h1, _, h2⟩ rfl hl.1 ⟨rfl, rfl⟩ ⟨Nat.le_of_ble_eq_true rfl, Nat.le_of_ble_eq_true rfl⟩ ⟨Nat.zero_le _, Nat.zero_le _⟩ rfl (Nat.le_of_ble_eq_true rfl) dX9_gladness_13) hS (by intro q hq; omega) (fun r8 H5 locs q6 k7 hS => ?_)
  obtain ⟨e9, h1, s4, h2⟩ := q6
  rw [e9]
  have hk7 := gSg_free hk7 k7 (by intro k hk q; simp only [List.length_cons, List.length_nil] at hk; omega)
  refine g_ki (g_runV (T := TX9) (ci := 9) (N := 16) (rest := []) hx hb hml hown hE hT (c_X9_gladnessBy l G t lp π ρ p hp kd hkd ek ws (gGs (gLof acc) (gNu π p (gBc ws)) 0 acc.length)) gM_X9_gladnessBy gm_X9_113 gi_X9_gladnessBy gs_RX9_yX9_gladnessBy_yX9_gladnessBy rfl (h1 0 _ rfl) ⟨h1, hk7⟩ rfl hl.1 ⟨rfl, rfl⟩ ⟨Nat.le_of_ble_eq_true rfl, Nat.le_of_ble_eq_true rfl⟩ ⟨Nat.zero_le _, Nat.zero_le _⟩ rfl (Nat.le_of_ble_eq_true rfl) dX9_gladness_16) hS (fun _ h => h.elim) (fun r12 H9 locs q10 k11 hS => ?_)
  obtain ⟨e9, h1, hk7⟩ := q10
  rw [e9]
  have h2 := gSg_free h2 k11 (by intro k hk q; simp only [List.length_cons, List.length_nil] at hk; omega)
  rw [← hQ]
  exact g_iret hx hb hr hlk hS dX9_gladness_19 ⟨congrArg (gJk π p ws) (gSum_c π (gLof acc) p ws), h1, hk7, _, h2⟩

set_option maxHeartbeats 4000000 in
set_option maxRecDepth 100000 in
theorem c_X9_willFlyOff (l : Launch) (G : gW) (t lp : Nat) (π ρ f : gPS) (hd : lp + 6 ≤ t ∨ lp = t + 22 ∨ t + 35 ≤ lp) (acc : List (Nat × Nat × List Nat)) (hcl : gClo f acc) (p : Nat) (hp : p < 6) (kd : Nat) (hkd : kd < 7) (ek : π 2 p = nI kd) : gCI l yX9_willFlyOff cX9_willFlyOff 2 .boolean (gRm 4 98) G [.ref t, .int (nI p)] (fun H => gSt G t lp π ρ f H) (fun r H => r = gB (gFly π (gLof acc) p) ∧ gSt G t lp π ρ f H) (fun q => lp ≤ q ∧ q < lp + 6) := by
  refine g_start (by decide) (Nat.le_of_ble_eq_true rfl) ?_
  intro pp_ ee_ s mm_ aa_ below meth cc_ ls Q hQ hX hE hP hl
  obtain ⟨hx, hb, hr, hml, hown, hT, hlk, hnm⟩ := hX
  have hK := hE.2.1
  obtain ⟨h1, hk7, s4, h2⟩ := hP
  have hS : va_S (fun q => lp ≤ q ∧ q < lp + 6) s.heap s.heap [] := va_S.rf
  have hl : lv_has ls 2 [(0, .ref t), (1, .int (nI p))] := hl
  refine lv_aload_n hx hb dX9_willFlyOff_0 rfl (lv_at hl 0 rfl) ?_
  refine g_get (v := .ref (t + 6)) (T := TX9) (ci := 9) (N := 16) hx hb hown hK (gY_X9 hT) rfl (h1 0 _ rfl) 5 (by decide) (hT _ gf_X9_30) rfl dX9_willFlyOff_1 ?_
  refine lv_iload_n hx hb dX9_willFlyOff_4 rfl (lv_at hl 1 rfl) ?_
  refine g_ia (j := p) (v := π 4 p) hx hb hK (h1 6 _ rfl) rfl (by omega) (Nat.le_of_ble_eq_true rfl) rfl dX9_willFlyOff_5 ?_
  refine lv_if_eq (tgt := 27) hx hb dX9_willFlyOff_6 (by decide) (fun c1 => ?_) (fun c1 => ?_)
  · refine lv_iconst (v := 0) hx hb dX9_willFlyOff_27 (by decide) ?_
    rw [← hQ]
    exact g_zret hx hb hr hlk rfl hS dX9_willFlyOff_28 ⟨(gB_f (fun z => z.1 c1)).symm, h1, hk7, _, h2⟩
  · refine lv_aload_n hx hb dX9_willFlyOff_9 rfl (lv_at hl 0 rfl) ?_
    refine lv_iload_n hx hb dX9_willFlyOff_10 rfl (lv_at hl 1 rfl) ?_
    refine lv_aload_n hx hb dX9_willFlyOff_11 rfl (lv_at hl 0 rfl) ?_
    refine g_get (v := .ref (t + 6)) (T := TX9) (ci := 9) (N := 16) hx hb hown hK (gY_X9 hT) rfl (h1 0 _ rfl) 5 (by decide) (hT _ gf_X9_30) rfl dX9_willFlyOff_12 ?_
    refine lv_iload_n hx hb dX9_willFlyOff_15 rfl (lv_at hl 1 rfl) ?_
    refine g_ia (j := p) (v := π 4 p) hx hb hK (h1 6 _ rfl) rfl (by omega) (Nat.le_of_ble_eq_true rfl) rfl dX9_willFlyOff_16 ?_
    refine g_ki (g_runV (T := TX9) (ci := 9) (N := 16) (rest := []) hx hb hml hown hE hT (c_X9_gladness l G t lp π ρ f hd acc hcl p hp kd hkd ek (π 4 p)) gM_X9_gladness gm_X9_121 gi_X9_gladness gs_RX9_yX9_gladness_yX9_gladness rfl (h1 0 _ rfl) ⟨h1, hk7, _, h2⟩ rfl hl.1 ⟨rfl, rfl⟩ ⟨Nat.le_of_ble_eq_true rfl, Nat.le_of_ble_eq_true rfl⟩ ⟨Nat.zero_le _, Nat.zero_le _⟩ rfl (Nat.le_of_ble_eq_true rfl) dX9_willFlyOff_17) hS (by intro q hq; omega) (fun r5 H2 locs q3 k4 hS => ?_)
    obtain ⟨e9, h1, hk7, s4, h2⟩ := q3
    rw [e9]
    refine lv_if_le (tgt := 27) hx hb dX9_willFlyOff_20 (by decide) (fun c6 => ?_) (fun c6 => ?_)
    · refine lv_iconst (v := 0) hx hb dX9_willFlyOff_27 (by decide) ?_
      rw [← hQ]
      exact g_zret hx hb hr hlk rfl hS dX9_willFlyOff_28 ⟨(gB_f (fun z => absurd z.2 (Int32.not_lt.mpr c6))).symm, h1, hk7, _, h2⟩
    · refine lv_iconst (v := 1) hx hb dX9_willFlyOff_23 (by decide) ?_
      refine lv_goto (tgt := 28) hx hb dX9_willFlyOff_24 (by decide) ?_
      rw [← hQ]
      exact g_zret hx hb hr hlk rfl hS dX9_willFlyOff_28 ⟨(gB_t ⟨c1, Int32.not_le.mp c6⟩).symm, h1, hk7, _, h2⟩

set_option maxHeartbeats 4000000 in
set_option maxRecDepth 100000 in
theorem c_X9_daysGo (l : Launch) (G : gW) (t lp : Nat) (π ρ f : gPS) (hd : lp + 6 ≤ t ∨ lp = t + 22 ∨ t + 35 ≤ lp) (acc : List (Nat × Nat × List Nat)) (hcl : gClo f acc) (n : Nat) (hz : π 15 0 = nI n) (hn : n ≤ 6) (hki : ∀ k, k < 6 → ∃ z, z < 7 ∧ π 2 k = nI z) (m : Nat) (hm : m ≤ 60) : gCV l yX9_daysGo cX9_daysGo 5 (gRm 5 119) G [.ref t, .int (nI m)] (fun H => gSt G t lp π ρ f H) (fun H => gSt G t lp (gDs π (gLof acc) n m) ρ f H) (fun q => (t ≤ q ∧ q < t + 22) ∨ (lp ≤ q ∧ q < lp + 6)) := by
  refine g_start (by decide) (Nat.le_of_ble_eq_true rfl) ?_
  intro pp_ ee_ s mm_ aa_ below meth cc_ ls Q hQ hX hE hP hl
  obtain ⟨hx, hb, hr, hml, hown, hT, hlk, hnm⟩ := hX
  have hK := hE.2.1
  obtain ⟨h1, hk7, s4, h2⟩ := hP
  have hS : va_S (fun q => (t ≤ q ∧ q < t + 22) ∨ (lp ≤ q ∧ q < lp + 6)) s.heap s.heap [] := va_S.rf
  have hl : lv_has ls 5 [(0, .ref t), (1, .int (nI m))] := hl
  have hr5 : f 5 4 = (gRs (gLof acc) (gLof acc).1) := by obtain ⟨wn, -, -, -, h9, -⟩ := gClo_w hcl; exact h9
  have hz9 : ∀ k q, (gDy (gDs π (gLof acc) n k) (gLof acc) (gRs (gLof acc) (gLof acc).1) q) 15 0 = nI n := fun k q => (gDy_15 (by decide) q).trans ((gDs_15 (by decide) (by decide) k).trans hz)
  have hk9 : ∀ k q j, j < 6 → ∃ z, z < 7 ∧ (gDy (gDs π (gLof acc) n k) (gLof acc) (gRs (gLof acc) (gLof acc).1) q) 2 j = nI z := fun k q j hj => by rw [gDy_r (by decide) (by decide) (by decide) (by decide), gDs_r (by decide) (by decide) (by decide) (by decide)]; exact hki j hj
  refine lv_aload_n hx hb dX9_daysGo_0 rfl (lv_at hl 0 rfl) ?_
  refine g_get (v := .ref lp) (T := TX9) (ci := 9) (N := 16) hx hb hown hK (gY_X9 hT) rfl (h1 0 _ rfl) 15 (by decide) (hT _ gf_X9_60) rfl dX9_daysGo_1 ?_
  refine g_get (v := .int (f 5 4)) (T := TX5) (ci := 5) (N := 10) hx hb hown hK (gY_X5 hT) rfl (h2 0 _ rfl) 9 (by decide) (hT _ gf_X9_125) rfl dX9_daysGo_4 ?_
  rw [hr5]
  refine lv_istore_n (lv' := [(2, .int (gRs (gLof acc) (gLof acc).1)), (0, .ref t), (1, .int (nI m))]) hx hb dX9_daysGo_7 rfl hl (by decide) rfl (fun ls hl => ?_)
  refine lv_iconst (v := 0) hx hb dX9_daysGo_8 (by decide) ?_
  refine lv_istore_n (lv' := [(3, .int 0), (2, .int (gRs (gLof acc) (gLof acc).1)), (0, .ref t), (1, .int (nI m))]) hx hb dX9_daysGo_9 rfl hl (by decide) rfl (fun ls hl => ?_)
  have loop : ∀ (dd d : Nat), d + dd = m → ∀ (s4 : Nat → Int32), ∀ (H : Heap) (locs : List Loc), gSg G t (gLS G t (gDs π (gLof acc) n d) lp ρ) H → gSg G (t + 28) (gKk G (t + 28) ) H → gSg G lp (gLL G lp (gR f 4 s4)) H → va_S (fun q => (t ≤ q ∧ q < t + 22) ∨ (lp ≤ q ∧ q < lp + 6)) s.heap H locs → ∀ ls, lv_has ls 5 [(0, .ref t), (1, .int (nI m)), (2, .int (gRs (gLof acc) (gLof acc).1)), (3, .int (nI d))] → W pp_ l ee_ (gRm 5 119) s mm_ aa_ below meth cc_ H locs 0 0 Q (F0 mm_ 10 ls []) := by
    intro dd
    induction dd with
    | zero =>
      intro d hk s4  H locs h1 hk7 h2 hS ls hl
      have hk : d = m := by omega
      refine lv_iload_n hx hb dX9_daysGo_10 rfl (lv_at hl 3 rfl) ?_
      refine lv_iload_n hx hb dX9_daysGo_11 rfl (lv_at hl 1 rfl) ?_
      refine lv_icmp_ge (tgt := 141) hx hb dX9_daysGo_12 (by decide) (fun c1 => ?_) (fun c1 => ?_)
      · have c1 : m ≤ d := (gLe (a := m) (b := d) rfl rfl (by omega) (by omega)).mp c1
        rw [← hQ]
        exact g_vret hx hb hr hlk hS dX9_daysGo_141 (by rw [← hk]; exact ⟨h1, hk7, _, h2⟩)
      · have c1 : ¬ m ≤ d := fun z => c1 ((gLe (a := m) (b := d) rfl rfl (by omega) (by omega)).mpr z)
        exact absurd c1 (by omega)
    | succ dd ih =>
      intro d hk s4  H locs h1 hk7 h2 hS ls hl
      refine lv_iload_n hx hb dX9_daysGo_10 rfl (lv_at hl 3 rfl) ?_
      refine lv_iload_n hx hb dX9_daysGo_11 rfl (lv_at hl 1 rfl) ?_
      refine lv_icmp_ge (tgt := 141) hx hb dX9_daysGo_12 (by decide) (fun c2 => ?_) (fun c2 => ?_)
      · have c2 : m ≤ d := (gLe (a := m) (b := d) rfl rfl (by omega) (by omega)).mp c2
        exact absurd c2 (by omega)
      · have c2 : ¬ m ≤ d := fun z => c2 ((gLe (a := m) (b := d) rfl rfl (by omega) (by omega)).mpr z)
        refine lv_iconst (v := 0) hx hb dX9_daysGo_15 (by decide) ?_
        refine lv_istore (lv' := [(4, .int 0), (0, .ref t), (1, .int (nI m)), (2, .int (gRs (gLof acc) (gLof acc).1)), (3, .int (nI d))]) hx hb dX9_daysGo_16 hl (by decide) rfl (fun ls hl => ?_)
        have inner : ∀ (di p : Nat), p + di = n → ∀ (s4 : Nat → Int32), ∀ (H : Heap) (locs : List Loc), gSg G t (gLS G t (gDy (gDs π (gLof acc) n d) (gLof acc) (gRs (gLof acc) (gLof acc).1) p) lp ρ) H → gSg G (t + 28) (gKk G (t + 28) ) H → gSg G lp (gLL G lp (gR f 4 s4)) H → va_S (fun q => (t ≤ q ∧ q < t + 22) ∨ (lp ≤ q ∧ q < lp + 6)) s.heap H locs → ∀ ls, lv_has ls 5 [(0, .ref t), (1, .int (nI m)), (2, .int (gRs (gLof acc) (gLof acc).1)), (3, .int (nI d)), (4, .int (nI p))] → W pp_ l ee_ (gRm 5 119) s mm_ aa_ below meth cc_ H locs 0 0 Q (F0 mm_ 18 ls []) := by
          intro di
          induction di with
          | zero =>
            intro p hkp s4  H locs h1 hk7 h2 hS ls hl
            have hkp : p = n := by omega
            refine lv_iload hx hb dX9_daysGo_18 (lv_at hl 4 rfl) ?_
            refine lv_aload_n hx hb dX9_daysGo_20 rfl (lv_at hl 0 rfl) ?_
            refine g_get (v := .int ((gDy (gDs π (gLof acc) n d) (gLof acc) (gRs (gLof acc) (gLof acc).1) p) 15 0)) (T := TX9) (ci := 9) (N := 16) hx hb hown hK (gY_X9 hT) rfl (h1 0 _ rfl) 12 (by decide) (hT _ gf_X9_93) rfl dX9_daysGo_21 ?_
            refine lv_icmp_ge (tgt := 125) hx hb dX9_daysGo_24 (by decide) (fun c3 => ?_) (fun c3 => ?_)
            · have c3 : n ≤ p := (gLe (a := n) (b := p) (hz9 d p) rfl (by omega) (by omega)).mp c3
              rw [hkp] at h1
              refine lv_aload_n hx hb dX9_daysGo_125 rfl (lv_at hl 0 rfl) ?_
              refine lv_dup hx hb dX9_daysGo_126 rfl ?_
              refine g_get (v := .int ((gDy (gDs π (gLof acc) n d) (gLof acc) (gRs (gLof acc) (gLof acc).1) n) 15 2)) (T := TX9) (ci := 9) (N := 16) hx hb hown hK (gY_X9 hT) rfl (h1 0 _ rfl) 14 (by decide) (hT _ gf_X9_100) rfl dX9_daysGo_127 ?_
              refine lv_iconst (v := 1) hx hb dX9_daysGo_130 (by decide) ?_
              refine lv_iadd hx hb dX9_daysGo_131 ?_
              refine g_put (T := TX9) (ci := 9) (N := 16) (ty0 := tyX9) hx hb hown hK hS (gY_X9 hT) tyX9_ok nmX9 rfl (h1 0 _ rfl) 14 (by decide) (hT _ gf_X9_100) rfl rfl rfl (Nat.le_of_ble_eq_true rfl) (by omega) dX9_daysGo_132 (fun H4 locs c5 oq hS => ?_)
              have h1 : gSg G t (gLS G t (gU (gDy (gDs π (gLof acc) n d) (gLof acc) (gRs (gLof acc) (gLof acc).1) n) 15 2 (((gDy (gDs π (gLof acc) n d) (gLof acc) (gRs (gLof acc) (gLof acc).1) n) 15 2) + 1)) lp ρ) H4 := gSg_set h1 0 c5 oq
              have hk7 := gSg_off hk7 oq (by simp only [List.length_cons, List.length_nil]; omega)
              have h2 := gSg_off h2 oq (by simp only [List.length_cons, List.length_nil]; omega)
              refine lv_iinc (v := nI (d + 1)) (lv' := [(3, .int (nI (d + 1))), (0, .ref t), (1, .int (nI m)), (2, .int (gRs (gLof acc) (gLof acc).1)), (4, .int (nI p))]) hx hb dX9_daysGo_135 hl (k := 3) rfl (gAdd rfl (show Int32.ofInt 1 = nI 1 from rfl)) (by decide) rfl (fun ls hl => ?_)
              refine lv_goto (tgt := 10) hx hb dX9_daysGo_138 (by decide) ?_
              have h1 : gSg G t (gLS G t (gDs π (gLof acc) n (d + 1)) lp ρ) H4 := h1
              exact ih (d + 1) (by omega) s4  _ _ h1 hk7 h2 hS _ (by have hl := lv_sub hl [1, 2, 3, 0] rfl; exact hl)
            · have c3 : ¬ n ≤ p := fun z => c3 ((gLe (a := n) (b := p) (hz9 d p) rfl (by omega) (by omega)).mpr z)
              exact absurd c3 (by omega)
          | succ di ihi =>
            intro p hkp s4  H locs h1 hk7 h2 hS ls hl
            refine lv_iload hx hb dX9_daysGo_18 (lv_at hl 4 rfl) ?_
            refine lv_aload_n hx hb dX9_daysGo_20 rfl (lv_at hl 0 rfl) ?_
            refine g_get (v := .int ((gDy (gDs π (gLof acc) n d) (gLof acc) (gRs (gLof acc) (gLof acc).1) p) 15 0)) (T := TX9) (ci := 9) (N := 16) hx hb hown hK (gY_X9 hT) rfl (h1 0 _ rfl) 12 (by decide) (hT _ gf_X9_93) rfl dX9_daysGo_21 ?_
            refine lv_icmp_ge (tgt := 125) hx hb dX9_daysGo_24 (by decide) (fun c6 => ?_) (fun c6 => ?_)
            · have c6 : n ≤ p := (gLe (a := n) (b := p) (hz9 d p) rfl (by omega) (by omega)).mp c6
              exact absurd c6 (by omega)
            · have c6 : ¬ n ≤ p := fun z => c6 ((gLe (a := n) (b := p) (hz9 d p) rfl (by omega) (by omega)).mpr z)
              refine lv_aload_n hx hb dX9_daysGo_27 rfl (lv_at hl 0 rfl) ?_
              refine lv_iload hx hb dX9_daysGo_28 (lv_at hl 4 rfl) ?_
              obtain ⟨kd, hkd, ek⟩ := hk9 d p p (by omega)
              refine g_ki (g_runV (T := TX9) (ci := 9) (N := 16) (rest := []) hx hb hml hown hE hT (c_X9_willFlyOff l G t lp (gDy (gDs π (gLof acc) n d) (gLof acc) (gRs (gLof acc) (gLof acc).1) p) ρ f hd acc hcl p (by omega) kd hkd ek) gM_X9_willFlyOff gm_X9_128 gi_X9_willFlyOff gs_RX9_yX9_willFlyOff_yX9_willFlyOff rfl (h1 0 _ rfl) ⟨h1, hk7, _, h2⟩ rfl hl.1 ⟨rfl, rfl⟩ ⟨Nat.le_of_ble_eq_true rfl, Nat.le_of_ble_eq_true rfl⟩ ⟨Nat.zero_le _, Nat.zero_le _⟩ rfl (Nat.le_of_ble_eq_true rfl) dX9_daysGo_30) hS (by intro q hq; omega) (fun r10 H7 locs q8 k9 hS => ?_)
              obtain ⟨e9, h1, hk7, s4, h2⟩ := q8
              rw [e9]
              refine lv_if_eq (tgt := 99) hx hb dX9_daysGo_33 (by decide) (fun c11 => ?_) (fun c11 => ?_)
              · have c11 : ¬ (gFly (gDy (gDs π (gLof acc) n d) (gLof acc) (gRs (gLof acc) (gLof acc).1) p) (gLof acc) p) := gB_0.mp c11
                refine lv_aload_n hx hb dX9_daysGo_99 rfl (lv_at hl 0 rfl) ?_
                refine g_get (v := .ref (t + 7)) (T := TX9) (ci := 9) (N := 16) hx hb hown hK (gY_X9 hT) rfl (h1 0 _ rfl) 6 (by decide) (hT _ gf_X9_33) rfl dX9_daysGo_100 ?_
                refine lv_iload hx hb dX9_daysGo_103 (lv_at hl 4 rfl) ?_
                refine lv_iconst (v := 0) hx hb dX9_daysGo_105 (by decide) ?_
                refine lv_aload_n hx hb dX9_daysGo_106 rfl (lv_at hl 0 rfl) ?_
                refine g_get (v := .ref (t + 7)) (T := TX9) (ci := 9) (N := 16) hx hb hown hK (gY_X9 hT) rfl (h1 0 _ rfl) 6 (by decide) (hT _ gf_X9_33) rfl dX9_daysGo_107 ?_
                refine lv_iload hx hb dX9_daysGo_110 (lv_at hl 4 rfl) ?_
                refine g_ia (j := p) (v := (gDy (gDs π (gLof acc) n d) (gLof acc) (gRs (gLof acc) (gLof acc).1) p) 5 p) hx hb hK (h1 7 _ rfl) rfl (by omega) (Nat.le_of_ble_eq_true rfl) rfl dX9_daysGo_112 ?_
                refine lv_iload_n hx hb dX9_daysGo_113 rfl (lv_at hl 2 rfl) ?_
                refine lv_isub hx hb dX9_daysGo_114 ?_
                refine va_mmax hx hb (hml.trans hl.1.symm) hown (hT _ gm_X9_140) (hT _ gt_Lib_Math_max_name) (hT _ gn_java_lang_Math) (hT _ gc_Lib_Math_max_name) (Nat.le_of_ble_eq_true rfl) (Nat.le_of_ble_eq_true rfl) (Nat.zero_le _) (Nat.zero_le _) dX9_daysGo_115 ?_
                refine g_is (j := p) hx hb hK hS (h1 7 _ rfl) rfl (by omega) (Nat.le_of_ble_eq_true rfl) (by omega) dX9_daysGo_118 (fun H12 locs c13 oq hS => ?_)
                have h1 : gSg G t (gLS G t (gU (gDy (gDs π (gLof acc) n d) (gLof acc) (gRs (gLof acc) (gLof acc).1) p) 5 p (if 0 < ((gDy (gDs π (gLof acc) n d) (gLof acc) (gRs (gLof acc) (gLof acc).1) p) 5 p) - (gRs (gLof acc) (gLof acc).1) then ((gDy (gDs π (gLof acc) n d) (gLof acc) (gRs (gLof acc) (gLof acc).1) p) 5 p) - (gRs (gLof acc) (gLof acc).1) else 0)) lp ρ) H12 := gSg_set h1 7 c13 oq
                have hk7 := gSg_off hk7 oq (by simp only [List.length_cons, List.length_nil]; omega)
                have h2 := gSg_off h2 oq (by simp only [List.length_cons, List.length_nil]; omega)
                refine lv_iinc (v := nI (p + 1)) (lv' := [(4, .int (nI (p + 1))), (0, .ref t), (1, .int (nI m)), (2, .int (gRs (gLof acc) (gLof acc).1)), (3, .int (nI d))]) hx hb dX9_daysGo_119 hl (k := 4) rfl (gAdd rfl (show Int32.ofInt 1 = nI 1 from rfl)) (by decide) rfl (fun ls hl => ?_)
                refine lv_goto (tgt := 18) hx hb dX9_daysGo_122 (by decide) ?_
                rw [show gU (gDy (gDs π (gLof acc) n d) (gLof acc) (gRs (gLof acc) (gLof acc).1) p) 5 p (if 0 < ((gDy (gDs π (gLof acc) n d) (gLof acc) (gRs (gLof acc) (gLof acc).1) p) 5 p) - (gRs (gLof acc) (gLof acc).1) then ((gDy (gDs π (gLof acc) n d) (gLof acc) (gRs (gLof acc) (gLof acc).1) p) 5 p) - (gRs (gLof acc) (gLof acc).1) else 0) = gDy (gDs π (gLof acc) n d) (gLof acc) (gRs (gLof acc) (gLof acc).1) (p + 1) from by rw [gDy, gDp, if_neg c11]] at h1
                exact ihi (p + 1) (by omega) s4  _ _ h1 hk7 h2 hS _ (by have hl := lv_sub hl [1, 2, 3, 4, 0] rfl; exact hl)
              · have c11 : gFly (gDy (gDs π (gLof acc) n d) (gLof acc) (gRs (gLof acc) (gLof acc).1) p) (gLof acc) p := gB_1.mp c11
                refine lv_aload_n hx hb dX9_daysGo_36 rfl (lv_at hl 0 rfl) ?_
                refine lv_dup hx hb dX9_daysGo_37 rfl ?_
                refine g_get (v := .int ((gDy (gDs π (gLof acc) n d) (gLof acc) (gRs (gLof acc) (gLof acc).1) p) 15 1)) (T := TX9) (ci := 9) (N := 16) hx hb hown hK (gY_X9 hT) rfl (h1 0 _ rfl) 13 (by decide) (hT _ gf_X9_97) rfl dX9_daysGo_38 ?_
                refine lv_aload_n hx hb dX9_daysGo_41 rfl (lv_at hl 0 rfl) ?_
                refine lv_aload_n hx hb dX9_daysGo_42 rfl (lv_at hl 0 rfl) ?_
                refine g_get (v := .ref (t + 6)) (T := TX9) (ci := 9) (N := 16) hx hb hown hK (gY_X9 hT) rfl (h1 0 _ rfl) 5 (by decide) (hT _ gf_X9_30) rfl dX9_daysGo_43 ?_
                refine lv_iload hx hb dX9_daysGo_46 (lv_at hl 4 rfl) ?_
                refine g_ia (j := p) (v := (gDy (gDs π (gLof acc) n d) (gLof acc) (gRs (gLof acc) (gLof acc).1) p) 4 p) hx hb hK (h1 6 _ rfl) rfl (by omega) (Nat.le_of_ble_eq_true rfl) rfl dX9_daysGo_48 ?_
                refine g_ki (g_runV (T := TX9) (ci := 9) (N := 16) (rest := [.int ((gDy (gDs π (gLof acc) n d) (gLof acc) (gRs (gLof acc) (gLof acc).1) p) 15 1), .ref t]) hx hb hml hown hE hT (c_X9_meaningOf l G t lp (gDy (gDs π (gLof acc) n d) (gLof acc) (gRs (gLof acc) (gLof acc).1) p) ρ ((gDy (gDs π (gLof acc) n d) (gLof acc) (gRs (gLof acc) (gLof acc).1) p) 4 p)) gM_X9_meaningOf gm_X9_132 gi_X9_meaningOf gs_RX9_yX9_meaningOf_yX9_meaningOf rfl (h1 0 _ rfl) h1 rfl hl.1 ⟨rfl, rfl⟩ ⟨Nat.le_of_ble_eq_true rfl, Nat.le_of_ble_eq_true rfl⟩ ⟨Nat.zero_le _, Nat.zero_le _⟩ rfl (Nat.le_of_ble_eq_true rfl) dX9_daysGo_49) hS (fun _ h => h.elim) (fun r17 H14 locs q15 k16 hS => ?_)
                subst q15
                have h1 := gSg_free h1 k16 (by intro k hk q; simp only [List.length_cons, List.length_nil] at hk; omega)
                have hk7 := gSg_free hk7 k16 (by intro k hk q; simp only [List.length_cons, List.length_nil] at hk; omega)
                have h2 := gSg_free h2 k16 (by intro k hk q; simp only [List.length_cons, List.length_nil] at hk; omega)
                refine lv_ior hx hb dX9_daysGo_52 ?_
                refine g_put (T := TX9) (ci := 9) (N := 16) (ty0 := tyX9) hx hb hown hK hS (gY_X9 hT) tyX9_ok nmX9 rfl (h1 0 _ rfl) 13 (by decide) (hT _ gf_X9_97) rfl rfl rfl (Nat.le_of_ble_eq_true rfl) (by omega) dX9_daysGo_53 (fun H18 locs c19 oq hS => ?_)
                have h1 : gSg G t (gLS G t (gU (gDy (gDs π (gLof acc) n d) (gLof acc) (gRs (gLof acc) (gLof acc).1) p) 15 1 (((gDy (gDs π (gLof acc) n d) (gLof acc) (gRs (gLof acc) (gLof acc).1) p) 15 1) ||| (gMean ((gDy (gDs π (gLof acc) n d) (gLof acc) (gRs (gLof acc) (gLof acc).1) p) 1) ((gDy (gDs π (gLof acc) n d) (gLof acc) (gRs (gLof acc) (gLof acc).1) p) 4 p) 12))) lp ρ) H18 := gSg_set h1 0 c19 oq
                have hk7 := gSg_off hk7 oq (by simp only [List.length_cons, List.length_nil]; omega)
                have h2 := gSg_off h2 oq (by simp only [List.length_cons, List.length_nil]; omega)
                refine lv_aload_n hx hb dX9_daysGo_56 rfl (lv_at hl 0 rfl) ?_
                refine g_get (v := .ref (t + 6)) (T := TX9) (ci := 9) (N := 16) hx hb hown hK (gY_X9 hT) rfl (h1 0 _ rfl) 5 (by decide) (hT _ gf_X9_30) rfl dX9_daysGo_57 ?_
                refine lv_iload hx hb dX9_daysGo_60 (lv_at hl 4 rfl) ?_
                refine lv_iconst (v := 0) hx hb dX9_daysGo_62 (by decide) ?_
                refine g_is (j := p) hx hb hK hS (h1 6 _ rfl) rfl (by omega) (Nat.le_of_ble_eq_true rfl) (by omega) dX9_daysGo_63 (fun H20 locs c21 oq hS => ?_)
                have h1 : gSg G t (gLS G t (gU (gU (gDy (gDs π (gLof acc) n d) (gLof acc) (gRs (gLof acc) (gLof acc).1) p) 15 1 (((gDy (gDs π (gLof acc) n d) (gLof acc) (gRs (gLof acc) (gLof acc).1) p) 15 1) ||| (gMean ((gDy (gDs π (gLof acc) n d) (gLof acc) (gRs (gLof acc) (gLof acc).1) p) 1) ((gDy (gDs π (gLof acc) n d) (gLof acc) (gRs (gLof acc) (gLof acc).1) p) 4 p) 12))) 4 p 0) lp ρ) H20 := gSg_set h1 6 c21 oq
                have hk7 := gSg_off hk7 oq (by simp only [List.length_cons, List.length_nil]; omega)
                have h2 := gSg_off h2 oq (by simp only [List.length_cons, List.length_nil]; omega)
                refine lv_aload_n hx hb dX9_daysGo_64 rfl (lv_at hl 0 rfl) ?_
                refine g_get (v := .ref (t + 7)) (T := TX9) (ci := 9) (N := 16) hx hb hown hK (gY_X9 hT) rfl (h1 0 _ rfl) 6 (by decide) (hT _ gf_X9_33) rfl dX9_daysGo_65 ?_
                refine lv_iload hx hb dX9_daysGo_68 (lv_at hl 4 rfl) ?_
                refine lv_bipush (v := 9) hx hb dX9_daysGo_70 (by decide) ?_
                refine lv_aload_n hx hb dX9_daysGo_72 rfl (lv_at hl 0 rfl) ?_
                refine g_get (v := .ref (t + 7)) (T := TX9) (ci := 9) (N := 16) hx hb hown hK (gY_X9 hT) rfl (h1 0 _ rfl) 6 (by decide) (hT _ gf_X9_33) rfl dX9_daysGo_73 ?_
                refine lv_iload hx hb dX9_daysGo_76 (lv_at hl 4 rfl) ?_
                refine g_ia (j := p) (v := (gDy (gDs π (gLof acc) n d) (gLof acc) (gRs (gLof acc) (gLof acc).1) p) 5 p) hx hb hK (h1 7 _ rfl) rfl (by omega) (Nat.le_of_ble_eq_true rfl) rfl dX9_daysGo_78 ?_
                refine lv_iconst (v := 2) hx hb dX9_daysGo_79 (by decide) ?_
                refine lv_iadd hx hb dX9_daysGo_80 ?_
                refine va_mmin hx hb (hml.trans hl.1.symm) hown (hT _ gm_X9_135) (hT _ gt_Lib_Math_min_name) (hT _ gn_java_lang_Math) (hT _ gc_Lib_Math_min_name) (Nat.le_of_ble_eq_true rfl) (Nat.le_of_ble_eq_true rfl) (Nat.zero_le _) (Nat.zero_le _) dX9_daysGo_81 ?_
                refine g_is (j := p) hx hb hK hS (h1 7 _ rfl) rfl (by omega) (Nat.le_of_ble_eq_true rfl) (by omega) dX9_daysGo_84 (fun H22 locs c23 oq hS => ?_)
                have h1 : gSg G t (gLS G t (gU (gU (gU (gDy (gDs π (gLof acc) n d) (gLof acc) (gRs (gLof acc) (gLof acc).1) p) 15 1 (((gDy (gDs π (gLof acc) n d) (gLof acc) (gRs (gLof acc) (gLof acc).1) p) 15 1) ||| (gMean ((gDy (gDs π (gLof acc) n d) (gLof acc) (gRs (gLof acc) (gLof acc).1) p) 1) ((gDy (gDs π (gLof acc) n d) (gLof acc) (gRs (gLof acc) (gLof acc).1) p) 4 p) 12))) 4 p 0) 5 p (if ((gDy (gDs π (gLof acc) n d) (gLof acc) (gRs (gLof acc) (gLof acc).1) p) 5 p) + 2 < 9 then ((gDy (gDs π (gLof acc) n d) (gLof acc) (gRs (gLof acc) (gLof acc).1) p) 5 p) + 2 else 9)) lp ρ) H22 := gSg_set h1 7 c23 oq
                have hk7 := gSg_off hk7 oq (by simp only [List.length_cons, List.length_nil]; omega)
                have h2 := gSg_off h2 oq (by simp only [List.length_cons, List.length_nil]; omega)
                refine lv_aload_n hx hb dX9_daysGo_85 rfl (lv_at hl 0 rfl) ?_
                refine g_get (v := .ref (t + 8)) (T := TX9) (ci := 9) (N := 16) hx hb hown hK (gY_X9 hT) rfl (h1 0 _ rfl) 7 (by decide) (hT _ gf_X9_36) rfl dX9_daysGo_86 ?_
                refine lv_iload hx hb dX9_daysGo_89 (lv_at hl 4 rfl) ?_
                refine lv_dup2_11 hx hb dX9_daysGo_91 rfl rfl ?_
                refine g_ia (j := p) (v := (gDy (gDs π (gLof acc) n d) (gLof acc) (gRs (gLof acc) (gLof acc).1) p) 6 p) hx hb hK (h1 8 _ rfl) rfl (by omega) (Nat.le_of_ble_eq_true rfl) rfl dX9_daysGo_92 ?_
                refine lv_iconst (v := 1) hx hb dX9_daysGo_93 (by decide) ?_
                refine lv_iadd hx hb dX9_daysGo_94 ?_
                refine g_is (j := p) hx hb hK hS (h1 8 _ rfl) rfl (by omega) (Nat.le_of_ble_eq_true rfl) (by omega) dX9_daysGo_95 (fun H24 locs c25 oq hS => ?_)
                have h1 : gSg G t (gLS G t (gU (gU (gU (gU (gDy (gDs π (gLof acc) n d) (gLof acc) (gRs (gLof acc) (gLof acc).1) p) 15 1 (((gDy (gDs π (gLof acc) n d) (gLof acc) (gRs (gLof acc) (gLof acc).1) p) 15 1) ||| (gMean ((gDy (gDs π (gLof acc) n d) (gLof acc) (gRs (gLof acc) (gLof acc).1) p) 1) ((gDy (gDs π (gLof acc) n d) (gLof acc) (gRs (gLof acc) (gLof acc).1) p) 4 p) 12))) 4 p 0) 5 p (if ((gDy (gDs π (gLof acc) n d) (gLof acc) (gRs (gLof acc) (gLof acc).1) p) 5 p) + 2 < 9 then ((gDy (gDs π (gLof acc) n d) (gLof acc) (gRs (gLof acc) (gLof acc).1) p) 5 p) + 2 else 9)) 6 p (((gDy (gDs π (gLof acc) n d) (gLof acc) (gRs (gLof acc) (gLof acc).1) p) 6 p) + 1)) lp ρ) H24 := gSg_set h1 8 c25 oq
                have hk7 := gSg_off hk7 oq (by simp only [List.length_cons, List.length_nil]; omega)
                have h2 := gSg_off h2 oq (by simp only [List.length_cons, List.length_nil]; omega)
                refine lv_goto (tgt := 119) hx hb dX9_daysGo_96 (by decide) ?_
                refine lv_iinc (v := nI (p + 1)) (lv' := [(4, .int (nI (p + 1))), (0, .ref t), (1, .int (nI m)), (2, .int (gRs (gLof acc) (gLof acc).1)), (3, .int (nI d))]) hx hb dX9_daysGo_119 hl (k := 4) rfl (gAdd rfl (show Int32.ofInt 1 = nI 1 from rfl)) (by decide) rfl (fun ls hl => ?_)
                refine lv_goto (tgt := 18) hx hb dX9_daysGo_122 (by decide) ?_
                rw [show gU (gU (gU (gU (gDy (gDs π (gLof acc) n d) (gLof acc) (gRs (gLof acc) (gLof acc).1) p) 15 1 (((gDy (gDs π (gLof acc) n d) (gLof acc) (gRs (gLof acc) (gLof acc).1) p) 15 1) ||| (gMean ((gDy (gDs π (gLof acc) n d) (gLof acc) (gRs (gLof acc) (gLof acc).1) p) 1) ((gDy (gDs π (gLof acc) n d) (gLof acc) (gRs (gLof acc) (gLof acc).1) p) 4 p) 12))) 4 p 0) 5 p (if ((gDy (gDs π (gLof acc) n d) (gLof acc) (gRs (gLof acc) (gLof acc).1) p) 5 p) + 2 < 9 then ((gDy (gDs π (gLof acc) n d) (gLof acc) (gRs (gLof acc) (gLof acc).1) p) 5 p) + 2 else 9)) 6 p (((gDy (gDs π (gLof acc) n d) (gLof acc) (gRs (gLof acc) (gLof acc).1) p) 6 p) + 1) = gDy (gDs π (gLof acc) n d) (gLof acc) (gRs (gLof acc) (gLof acc).1) (p + 1) from by rw [gDy, gDp, if_pos c11]] at h1
                exact ihi (p + 1) (by omega) s4  _ _ h1 hk7 h2 hS _ (by have hl := lv_sub hl [1, 2, 3, 4, 0] rfl; exact hl)
        exact inner (n - 0) 0 (by first | omega | simp) s4 _ _ h1 hk7 h2 hS _ (lv_sub hl [1, 2, 3, 4, 0] rfl)
  exact loop (m - 0) 0 (by first | omega | simp) s4 _ _ h1 hk7 h2 hS _ (lv_sub hl [2, 3, 1, 0] rfl)

set_option maxHeartbeats 4000000 in
set_option maxRecDepth 100000 in
theorem c_X9_planned (l : Launch) (G : gW) (t lp : Nat) (π ρ f : gPS) (hd : lp + 6 ≤ t ∨ lp = t + 22 ∨ t + 35 ≤ lp) (acc : List (Nat × Nat × List Nat)) (hcl : gClo f acc) (n : Nat) (hz : π 15 0 = nI n) (hn : n ≤ 6) (hki : ∀ k, k < 6 → ∃ z, z < 7 ∧ π 2 k = nI z) (wh x : Int32) (q : Nat) (hw : wh = 0 ∨ ((wh = 1 ∨ wh = 2) ∧ q < 6 ∧ x = nI q) ∨ (wh = 3 ∧ q < 12 ∧ x = nI q)) : gCV l yX9_planned cX9_planned 3 (gRm 6 143) G [.ref t, .int wh, .int x] (fun H => gSt G t lp π ρ f H) (fun H => gSt G t lp (gPl1 π (gLof acc) n wh q) ρ f H) (fun q => (t ≤ q ∧ q < t + 22) ∨ (lp ≤ q ∧ q < lp + 6)) := by
  refine g_start (by decide) (Nat.le_of_ble_eq_true rfl) ?_
  intro pp_ ee_ s mm_ aa_ below meth cc_ ls Q hQ hX hE hP hl
  obtain ⟨hx, hb, hr, hml, hown, hT, hlk, hnm⟩ := hX
  have hK := hE.2.1
  obtain ⟨h1, hk7, s4, h2⟩ := hP
  have hS : va_S (fun q => (t ≤ q ∧ q < t + 22) ∨ (lp ≤ q ∧ q < lp + 6)) s.heap s.heap [] := va_S.rf
  have hl : lv_has ls 3 [(0, .ref t), (1, .int wh), (2, .int x)] := hl
  refine lv_iload_n hx hb dX9_planned_0 rfl (lv_at hl 1 rfl) ?_
  by_cases e0 : wh = 0
  · refine lv_tableIn (off := 27) (tgt := 28) hx hb dX9_planned_1 (by rw [e0]; decide) (by rw [e0]; decide) (by rw [e0]; decide) (by decide) ?_
    refine lv_aload_n hx hb dX9_planned_28 rfl (lv_at hl 0 rfl) ?_
    refine lv_iconst (v := 1) hx hb dX9_planned_29 (by decide) ?_
    refine g_kv (g_runV (T := TX9) (ci := 9) (N := 16) (rest := []) hx hb hml hown hE hT (c_X9_daysGo l G t lp π ρ f hd acc hcl n hz hn hki 1 (by decide)) gM_X9_daysGo gm_X9_143 gi_X9_daysGo gs_RX9_yX9_daysGo_yX9_daysGo rfl (h1 0 _ rfl) ⟨h1, hk7, _, h2⟩ rfl hl.1 ⟨rfl, rfl⟩ ⟨Nat.le_of_ble_eq_true rfl, Nat.le_of_ble_eq_true rfl⟩ ⟨Nat.zero_le _, Nat.zero_le _⟩ rfl (Nat.le_of_ble_eq_true rfl) dX9_planned_30) hS (by intro q hq; omega) (fun H1 locs q2 k3 hS => ?_)
    obtain ⟨h1, hk7, s4, h2⟩ := q2
    refine lv_goto (tgt := 64) hx hb dX9_planned_33 (by decide) ?_
    rw [← hQ]
    exact g_vret hx hb hr hlk hS dX9_planned_64 (by rw [show gPl1 π (gLof acc) n wh q = gDs π (gLof acc) n 1 from by rw [gPl1, if_pos e0]; rfl]; exact ⟨h1, hk7, _, h2⟩)
  · skip
    by_cases e1 : wh = 1
    · obtain ⟨lq, ex⟩ : q < 6 ∧ x = nI q := hw.elim (fun z9 => absurd (e1.symm.trans z9) (by decide)) (fun z9 => z9.elim (fun z8 => z8.2) (fun z8 => absurd (e1.symm.trans z8.1) (by decide)))
      subst ex
      refine lv_tableIn (off := 35) (tgt := 36) hx hb dX9_planned_1 (by rw [e1]; decide) (by rw [e1]; decide) (by rw [e1]; decide) (by decide) ?_
      refine lv_aload_n hx hb dX9_planned_36 rfl (lv_at hl 0 rfl) ?_
      refine g_get (v := .ref (t + 6)) (T := TX9) (ci := 9) (N := 16) hx hb hown hK (gY_X9 hT) rfl (h1 0 _ rfl) 5 (by decide) (hT _ gf_X9_30) rfl dX9_planned_37 ?_
      refine lv_iload_n hx hb dX9_planned_40 rfl (lv_at hl 2 rfl) ?_
      refine lv_iconst (v := 0) hx hb dX9_planned_41 (by decide) ?_
      refine g_is (j := q) hx hb hK hS (h1 6 _ rfl) rfl (by omega) (Nat.le_of_ble_eq_true rfl) (by omega) dX9_planned_42 (fun H5 locs c6 oq hS => ?_)
      have h1 : gSg G t (gLS G t (gU π 4 q 0) lp ρ) H5 := gSg_set h1 6 c6 oq
      have hk7 := gSg_off hk7 oq (by simp only [List.length_cons, List.length_nil]; omega)
      have h2 := gSg_off h2 oq (by simp only [List.length_cons, List.length_nil]; omega)
      refine lv_goto (tgt := 64) hx hb dX9_planned_43 (by decide) ?_
      rw [← hQ]
      exact g_vret hx hb hr hlk hS dX9_planned_64 (by rw [show gPl1 π (gLof acc) n wh q = gU π 4 q 0 from by rw [gPl1, if_neg e0, if_pos e1]]; exact ⟨h1, hk7, _, h2⟩)
    · skip
      by_cases e2 : wh = 2
      · obtain ⟨lq, ex⟩ : q < 6 ∧ x = nI q := hw.elim (fun z9 => absurd (e2.symm.trans z9) (by decide)) (fun z9 => z9.elim (fun z8 => z8.2) (fun z8 => absurd (e2.symm.trans z8.1) (by decide)))
        subst ex
        refine lv_tableIn (off := 45) (tgt := 46) hx hb dX9_planned_1 (by rw [e2]; decide) (by rw [e2]; decide) (by rw [e2]; decide) (by decide) ?_
        refine lv_aload_n hx hb dX9_planned_46 rfl (lv_at hl 0 rfl) ?_
        refine g_get (v := .ref (t + 7)) (T := TX9) (ci := 9) (N := 16) hx hb hown hK (gY_X9 hT) rfl (h1 0 _ rfl) 6 (by decide) (hT _ gf_X9_33) rfl dX9_planned_47 ?_
        refine lv_iload_n hx hb dX9_planned_50 rfl (lv_at hl 2 rfl) ?_
        refine lv_iconst (v := 0) hx hb dX9_planned_51 (by decide) ?_
        refine g_is (j := q) hx hb hK hS (h1 7 _ rfl) rfl (by omega) (Nat.le_of_ble_eq_true rfl) (by omega) dX9_planned_52 (fun H7 locs c8 oq hS => ?_)
        have h1 : gSg G t (gLS G t (gU π 5 q 0) lp ρ) H7 := gSg_set h1 7 c8 oq
        have hk7 := gSg_off hk7 oq (by simp only [List.length_cons, List.length_nil]; omega)
        have h2 := gSg_off h2 oq (by simp only [List.length_cons, List.length_nil]; omega)
        refine lv_goto (tgt := 64) hx hb dX9_planned_53 (by decide) ?_
        rw [← hQ]
        exact g_vret hx hb hr hlk hS dX9_planned_64 (by rw [show gPl1 π (gLof acc) n wh q = gU π 5 q 0 from by rw [gPl1, if_neg e0, if_neg e1, if_pos e2]]; exact ⟨h1, hk7, _, h2⟩)
      · skip
        obtain ⟨e3, lq, ex⟩ : wh = 3 ∧ q < 12 ∧ x = nI q := hw.elim (fun z9 => absurd z9 e0) (fun z9 => z9.elim (fun z8 => (z8.1.elim (fun z7 => absurd z7 e1) (fun z7 => absurd z7 e2))) (fun z8 => z8))
        subst ex
        have te0 := lv_neT (k := 0) (a := 0) e0 (by decide)
        have te1 := lv_neT (k := 1) (a := 1) e1 (by decide)
        have te2 := lv_neT (k := 2) (a := 2) e2 (by decide)
        refine lv_tableOut (tgt := 56) hx hb dX9_planned_1 (by omega) (by decide) ?_
        refine lv_aload_n hx hb dX9_planned_56 rfl (lv_at hl 0 rfl) ?_
        refine g_get (v := .ref (t + 2)) (T := TX9) (ci := 9) (N := 16) hx hb hown hK (gY_X9 hT) rfl (h1 0 _ rfl) 1 (by decide) (hT _ gf_X9_17) rfl dX9_planned_57 ?_
        refine lv_iload_n hx hb dX9_planned_60 rfl (lv_at hl 2 rfl) ?_
        refine lv_bipush (v := 9) hx hb dX9_planned_61 (by decide) ?_
        refine g_is (j := q) hx hb hK hS (h1 2 _ rfl) rfl (by omega) (Nat.le_of_ble_eq_true rfl) (by omega) dX9_planned_63 (fun H9 locs c10 oq hS => ?_)
        have h1 : gSg G t (gLS G t (gU π 0 q 9) lp ρ) H9 := gSg_set h1 2 c10 oq
        have hk7 := gSg_off hk7 oq (by simp only [List.length_cons, List.length_nil]; omega)
        have h2 := gSg_off h2 oq (by simp only [List.length_cons, List.length_nil]; omega)
        rw [← hQ]
        exact g_vret hx hb hr hlk hS dX9_planned_64 (by rw [show gPl1 π (gLof acc) n wh q = gU π 0 q 9 from by rw [gPl1, if_neg e0, if_neg e1, if_neg e2]]; exact ⟨h1, hk7, _, h2⟩)

set_option maxHeartbeats 4000000 in
set_option maxRecDepth 100000 in
theorem c_X9_isSeenSo (l : Launch) (G : gW) (t lp : Nat) (π ρ f : gPS) (hd : lp + 6 ≤ t ∨ lp = t + 22 ∨ t + 35 ≤ lp) (acc : List (Nat × Nat × List Nat)) (hcl : gClo f acc) (hki : ∀ k, k < 6 → ∃ z, z < 7 ∧ π 2 k = nI z) (sn : Nat) (hz3 : π 15 3 = nI sn) (hsn : sn ≤ 5) (hsp : ∀ k, k < sn → (∃ q, q < 6 ∧ π 8 k = nI q) ∧ (π 10 k = 0 ∨ π 10 k = 1)) (hrr : ∀ k, k < sn → ρ 0 k = π 8 k ∧ ρ 1 k = π 9 k ∧ ρ 2 k = π 10 k) : gCI l yX9_isSeenSo cX9_isSeenSo 3 .boolean (gRm 4 98) G [.ref t] (fun H => gSt G t lp π ρ f H) (fun r H => r = gB (gSn π (gLof acc) 0 sn = true) ∧ gSt G t lp π ρ f H) (fun q => lp ≤ q ∧ q < lp + 6) := by
  refine g_start (by decide) (Nat.le_of_ble_eq_true rfl) ?_
  intro pp_ ee_ s mm_ aa_ below meth cc_ ls Q hQ hX hE hP hl
  obtain ⟨hx, hb, hr, hml, hown, hT, hlk, hnm⟩ := hX
  have hK := hE.2.1
  obtain ⟨h1, hk7, s4, h2⟩ := hP
  have hS : va_S (fun q => lp ≤ q ∧ q < lp + 6) s.heap s.heap [] := va_S.rf
  have hl : lv_has ls 3 [(0, .ref t)] := hl
  refine lv_iconst (v := 0) hx hb dX9_isSeenSo_0 (by decide) ?_
  refine lv_istore_n (lv' := [(1, .int 0), (0, .ref t)]) hx hb dX9_isSeenSo_1 rfl hl (by decide) rfl (fun ls hl => ?_)
  have loop : ∀ (d k : Nat), k + d = sn → ∀ (s4 : Nat → Int32), gSn π (gLof acc) 0 sn = gSn π (gLof acc) k d → ∀ (H : Heap) (locs : List Loc), gSg G t (gLS G t π lp ρ) H → gSg G (t + 28) (gKk G (t + 28) ) H → gSg G lp (gLL G lp (gR f 4 s4)) H → va_S (fun q => lp ≤ q ∧ q < lp + 6) s.heap H locs → ∀ ls, lv_has ls 3 [(0, .ref t), (1, .int (nI k))] → W pp_ l ee_ (gRm 4 98) s mm_ aa_ below meth cc_ H locs 0 0 Q (F0 mm_ 2 ls []) := by
    intro d
    induction d with
    | zero =>
      intro k hk s4 hi H locs h1 hk7 h2 hS ls hl
      have hk : k = sn := by omega
      refine lv_iload_n hx hb dX9_isSeenSo_2 rfl (lv_at hl 1 rfl) ?_
      refine lv_aload_n hx hb dX9_isSeenSo_3 rfl (lv_at hl 0 rfl) ?_
      refine g_get (v := .ref (t + 10)) (T := TX9) (ci := 9) (N := 16) hx hb hown hK (gY_X9 hT) rfl (h1 0 _ rfl) 9 (by decide) (hT _ gf_X9_47) rfl dX9_isSeenSo_4 ?_
      refine g_get (v := .int (π 15 3)) (T := TX8) (ci := 8) (N := 4) hx hb hown hK (gY_X8 hT) rfl (h1 10 _ rfl) 3 (by decide) (hT _ gf_X9_146) rfl dX9_isSeenSo_7 ?_
      refine lv_icmp_ge (tgt := 73) hx hb dX9_isSeenSo_10 (by decide) (fun c1 => ?_) (fun c1 => ?_)
      · have c1 : sn ≤ k := (gLe (a := sn) (b := k) hz3 rfl (by omega) (by omega)).mp c1
        refine lv_iconst (v := 1) hx hb dX9_isSeenSo_73 (by decide) ?_
        rw [← hQ]
        exact g_zret hx hb hr hlk rfl hS dX9_isSeenSo_74 ⟨(gB_t (by rw [hi, gSn])).symm, h1, hk7, _, h2⟩
      · have c1 : ¬ sn ≤ k := fun z => c1 ((gLe (a := sn) (b := k) hz3 rfl (by omega) (by omega)).mpr z)
        exact absurd c1 (by omega)
    | succ d ih =>
      intro k hk s4 hi H locs h1 hk7 h2 hS ls hl
      refine lv_iload_n hx hb dX9_isSeenSo_2 rfl (lv_at hl 1 rfl) ?_
      refine lv_aload_n hx hb dX9_isSeenSo_3 rfl (lv_at hl 0 rfl) ?_
      refine g_get (v := .ref (t + 10)) (T := TX9) (ci := 9) (N := 16) hx hb hown hK (gY_X9 hT) rfl (h1 0 _ rfl) 9 (by decide) (hT _ gf_X9_47) rfl dX9_isSeenSo_4 ?_
      refine g_get (v := .int (π 15 3)) (T := TX8) (ci := 8) (N := 4) hx hb hown hK (gY_X8 hT) rfl (h1 10 _ rfl) 3 (by decide) (hT _ gf_X9_146) rfl dX9_isSeenSo_7 ?_
      refine lv_icmp_ge (tgt := 73) hx hb dX9_isSeenSo_10 (by decide) (fun c2 => ?_) (fun c2 => ?_)
      · have c2 : sn ≤ k := (gLe (a := sn) (b := k) hz3 rfl (by omega) (by omega)).mp c2
        exact absurd c2 (by omega)
      · have c2 : ¬ sn ≤ k := fun z => c2 ((gLe (a := sn) (b := k) hz3 rfl (by omega) (by omega)).mpr z)
        obtain ⟨⟨q, lq, eq⟩, h01⟩ := hsp k (by omega)
        obtain ⟨r0, r1, r2⟩ := hrr k (by omega)
        have ec : (π 8 k).toNatClampNeg = q := by rw [eq, nI_clamp (by omega)]
        refine lv_aload_n hx hb dX9_isSeenSo_13 rfl (lv_at hl 0 rfl) ?_
        refine lv_aload_n hx hb dX9_isSeenSo_14 rfl (lv_at hl 0 rfl) ?_
        refine g_get (v := .ref (t + 10)) (T := TX9) (ci := 9) (N := 16) hx hb hown hK (gY_X9 hT) rfl (h1 0 _ rfl) 9 (by decide) (hT _ gf_X9_47) rfl dX9_isSeenSo_15 ?_
        refine g_get (v := .ref (t + 11)) (T := TX8) (ci := 8) (N := 4) hx hb hown hK (gY_X8 hT) rfl (h1 10 _ rfl) 0 (by decide) (hT _ gf_X9_147) rfl dX9_isSeenSo_18 ?_
        refine lv_iload_n hx hb dX9_isSeenSo_21 rfl (lv_at hl 1 rfl) ?_
        refine g_ia (j := k) (v := nI q) hx hb hK (h1 11 _ rfl) rfl (by omega) (Nat.le_of_ble_eq_true rfl) (r0.trans eq) dX9_isSeenSo_22 ?_
        refine lv_aload_n hx hb dX9_isSeenSo_23 rfl (lv_at hl 0 rfl) ?_
        refine g_get (v := .ref (t + 10)) (T := TX9) (ci := 9) (N := 16) hx hb hown hK (gY_X9 hT) rfl (h1 0 _ rfl) 9 (by decide) (hT _ gf_X9_47) rfl dX9_isSeenSo_24 ?_
        refine g_get (v := .ref (t + 12)) (T := TX8) (ci := 8) (N := 4) hx hb hown hK (gY_X8 hT) rfl (h1 10 _ rfl) 1 (by decide) (hT _ gf_X9_150) rfl dX9_isSeenSo_27 ?_
        refine lv_iload_n hx hb dX9_isSeenSo_30 rfl (lv_at hl 1 rfl) ?_
        refine g_ia (j := k) (v := π 9 k) hx hb hK (h1 12 _ rfl) rfl (by omega) (Nat.le_of_ble_eq_true rfl) r1 dX9_isSeenSo_31 ?_
        obtain ⟨kd, hkd, ek⟩ := hki q lq
        refine g_ki (g_runV (T := TX9) (ci := 9) (N := 16) (rest := []) hx hb hml hown hE hT (c_X9_gladness l G t lp π ρ f hd acc hcl q lq kd hkd ek (π 9 k)) gM_X9_gladness gm_X9_121 gi_X9_gladness gs_RX9_yX9_gladness_yX9_gladness rfl (h1 0 _ rfl) ⟨h1, hk7, _, h2⟩ rfl hl.1 ⟨rfl, rfl⟩ ⟨Nat.le_of_ble_eq_true rfl, Nat.le_of_ble_eq_true rfl⟩ ⟨Nat.zero_le _, Nat.zero_le _⟩ rfl (Nat.le_of_ble_eq_true rfl) dX9_isSeenSo_32) hS (by intro q hq; omega) (fun r6 H3 locs q4 k5 hS => ?_)
        obtain ⟨e9, h1, hk7, s4, h2⟩ := q4
        rw [e9]
        refine lv_if_le (tgt := 42) hx hb dX9_isSeenSo_35 (by decide) (fun c7 => ?_) (fun c7 => ?_)
        · refine lv_iconst (v := 0) hx hb dX9_isSeenSo_42 (by decide) ?_
          refine lv_istore_n (lv' := [(2, .int 0), (0, .ref t), (1, .int (nI k))]) hx hb dX9_isSeenSo_43 rfl hl (by decide) rfl (fun ls hl => ?_)
          refine lv_iload_n hx hb dX9_isSeenSo_44 rfl (lv_at hl 0 rfl) ?_
          refine lv_aload_n hx hb dX9_isSeenSo_45 rfl (lv_at hl 1 rfl) ?_
          refine g_get (v := .ref (t + 10)) (T := TX9) (ci := 9) (N := 16) hx hb hown hK (gY_X9 hT) rfl (h1 0 _ rfl) 9 (by decide) (hT _ gf_X9_47) rfl dX9_isSeenSo_46 ?_
          refine g_get (v := .ref (t + 13)) (T := TX8) (ci := 8) (N := 4) hx hb hown hK (gY_X8 hT) rfl (h1 10 _ rfl) 2 (by decide) (hT _ gf_X9_153) rfl dX9_isSeenSo_49 ?_
          refine lv_iload_n hx hb dX9_isSeenSo_52 rfl (lv_at hl 2 rfl) ?_
          refine g_ia (j := k) (v := π 10 k) hx hb hK (h1 13 _ rfl) rfl (by omega) (Nat.le_of_ble_eq_true rfl) r2 dX9_isSeenSo_53 ?_
          refine lv_if_eq (tgt := 61) hx hb dX9_isSeenSo_54 (by decide) (fun c8 => ?_) (fun c8 => ?_)
          · refine lv_iconst (v := 0) hx hb dX9_isSeenSo_61 (by decide) ?_
            refine lv_icmp_eq (tgt := 67) hx hb dX9_isSeenSo_62 (by decide) (fun c9 => ?_) (fun c9 => ?_)
            · refine lv_iinc (v := nI (k + 1)) (lv' := [(1, .int (nI (k + 1))), (2, .int 0), (0, .ref t)]) hx hb dX9_isSeenSo_67 hl (k := 2) rfl (gAdd rfl (show Int32.ofInt 1 = nI 1 from rfl)) (by decide) rfl (fun ls hl => ?_)
              refine lv_goto (tgt := 2) hx hb dX9_isSeenSo_70 (by decide) ?_
              exact ih (k + 1) (by omega) s4 (by rw [hi, gSn, if_pos (show 0 < gJoy π (gLof acc) (π 8 k).toNatClampNeg (π 9 k) ↔ π 10 k = 1 from ⟨fun z => absurd z (show ¬ 0 < gJoy π (gLof acc) (π 8 k).toNatClampNeg (π 9 k) from by rw [ec]; exact Int32.not_lt.mpr c7), fun z => absurd z (show ¬ π 10 k = 1 from by rw [c8]; decide)⟩)]) _ _ h1 hk7 h2 hS _ (by have hl := lv_sub hl [2, 0] rfl; exact hl)
            · exact absurd (by decide) c9
          · refine lv_iconst (v := 1) hx hb dX9_isSeenSo_57 (by decide) ?_
            refine lv_goto (tgt := 62) hx hb dX9_isSeenSo_58 (by decide) ?_
            refine lv_icmp_eq (tgt := 67) hx hb dX9_isSeenSo_62 (by decide) (fun c10 => ?_) (fun c10 => ?_)
            · exact absurd c10 (by decide)
            · refine lv_iconst (v := 0) hx hb dX9_isSeenSo_65 (by decide) ?_
              rw [← hQ]
              exact g_zret hx hb hr hlk rfl hS dX9_isSeenSo_66 ⟨(gB_f (by rw [hi, gSn, if_neg (show ¬ (0 < gJoy π (gLof acc) (π 8 k).toNatClampNeg (π 9 k) ↔ π 10 k = 1) from fun z => absurd (z.mpr (h01.resolve_left c8)) (show ¬ 0 < gJoy π (gLof acc) (π 8 k).toNatClampNeg (π 9 k) from by rw [ec]; exact Int32.not_lt.mpr c7))]; decide)).symm, h1, hk7, _, h2⟩
        · refine lv_iconst (v := 1) hx hb dX9_isSeenSo_38 (by decide) ?_
          refine lv_goto (tgt := 43) hx hb dX9_isSeenSo_39 (by decide) ?_
          refine lv_istore_n (lv' := [(2, .int 1), (0, .ref t), (1, .int (nI k))]) hx hb dX9_isSeenSo_43 rfl hl (by decide) rfl (fun ls hl => ?_)
          refine lv_iload_n hx hb dX9_isSeenSo_44 rfl (lv_at hl 0 rfl) ?_
          refine lv_aload_n hx hb dX9_isSeenSo_45 rfl (lv_at hl 1 rfl) ?_
          refine g_get (v := .ref (t + 10)) (T := TX9) (ci := 9) (N := 16) hx hb hown hK (gY_X9 hT) rfl (h1 0 _ rfl) 9 (by decide) (hT _ gf_X9_47) rfl dX9_isSeenSo_46 ?_
          refine g_get (v := .ref (t + 13)) (T := TX8) (ci := 8) (N := 4) hx hb hown hK (gY_X8 hT) rfl (h1 10 _ rfl) 2 (by decide) (hT _ gf_X9_153) rfl dX9_isSeenSo_49 ?_
          refine lv_iload_n hx hb dX9_isSeenSo_52 rfl (lv_at hl 2 rfl) ?_
          refine g_ia (j := k) (v := π 10 k) hx hb hK (h1 13 _ rfl) rfl (by omega) (Nat.le_of_ble_eq_true rfl) r2 dX9_isSeenSo_53 ?_
          refine lv_if_eq (tgt := 61) hx hb dX9_isSeenSo_54 (by decide) (fun c11 => ?_) (fun c11 => ?_)
          · refine lv_iconst (v := 0) hx hb dX9_isSeenSo_61 (by decide) ?_
            refine lv_icmp_eq (tgt := 67) hx hb dX9_isSeenSo_62 (by decide) (fun c12 => ?_) (fun c12 => ?_)
            · exact absurd c12 (by decide)
            · refine lv_iconst (v := 0) hx hb dX9_isSeenSo_65 (by decide) ?_
              rw [← hQ]
              exact g_zret hx hb hr hlk rfl hS dX9_isSeenSo_66 ⟨(gB_f (by rw [hi, gSn, if_neg (show ¬ (0 < gJoy π (gLof acc) (π 8 k).toNatClampNeg (π 9 k) ↔ π 10 k = 1) from fun z => absurd (z.mp (show 0 < gJoy π (gLof acc) (π 8 k).toNatClampNeg (π 9 k) from by rw [ec]; exact Int32.not_le.mp c7)) (show ¬ π 10 k = 1 from by rw [c11]; decide))]; decide)).symm, h1, hk7, _, h2⟩
          · refine lv_iconst (v := 1) hx hb dX9_isSeenSo_57 (by decide) ?_
            refine lv_goto (tgt := 62) hx hb dX9_isSeenSo_58 (by decide) ?_
            refine lv_icmp_eq (tgt := 67) hx hb dX9_isSeenSo_62 (by decide) (fun c13 => ?_) (fun c13 => ?_)
            · refine lv_iinc (v := nI (k + 1)) (lv' := [(1, .int (nI (k + 1))), (2, .int 1), (0, .ref t)]) hx hb dX9_isSeenSo_67 hl (k := 2) rfl (gAdd rfl (show Int32.ofInt 1 = nI 1 from rfl)) (by decide) rfl (fun ls hl => ?_)
              refine lv_goto (tgt := 2) hx hb dX9_isSeenSo_70 (by decide) ?_
              exact ih (k + 1) (by omega) s4 (by rw [hi, gSn, if_pos (show 0 < gJoy π (gLof acc) (π 8 k).toNatClampNeg (π 9 k) ↔ π 10 k = 1 from ⟨fun _ => (h01.resolve_left c11), fun _ => (show 0 < gJoy π (gLof acc) (π 8 k).toNatClampNeg (π 9 k) from by rw [ec]; exact Int32.not_le.mp c7)⟩)]) _ _ h1 hk7 h2 hS _ (by have hl := lv_sub hl [2, 0] rfl; exact hl)
            · exact absurd (by decide) c13
  exact loop (sn - 0) 0 (by first | omega | simp) s4 rfl _ _ h1 hk7 h2 hS _ (lv_sub hl [1, 0] rfl)
