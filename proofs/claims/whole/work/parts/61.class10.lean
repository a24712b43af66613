set_option maxHeartbeats 4000000 in
set_option maxRecDepth 100000 in
theorem c_X5_gainBy (l : Launch) (G : gW) (t lp : Nat) (π ρ f : gPS) (hd : lp + 6 ≤ t ∨ lp = t + 22 ∨ t + 35 ≤ lp) (acc : List (Nat × Nat × List Nat)) (hcl : gClo f acc) (p : Nat) (hp : p < 6) (x : Int32) : gCI l yX5_gainBy cX5_gainBy 6 .int (gRm 2 48) G [.ref lp, .ref t, .int (nI p), .int x] (fun H => gSg G t (gLS G t π lp ρ) H ∧ gC4 G lp f H) (fun r H => r = gGs (gLof acc) (gNu π p x) 0 acc.length ∧ gSg G t (gLS G t π lp ρ) H ∧ gC4 G lp f H) (fun q => lp ≤ q ∧ q < lp + 6) := by
  refine g_start (by decide) (Nat.le_of_ble_eq_true rfl) ?_
  intro pp_ ee_ s mm_ aa_ below meth cc_ ls Q hQ hX hE hP hl
  obtain ⟨hx, hb, hr, hml, hown, hT, hlk, hnm⟩ := hX
  have hK := hE.2.1
  obtain ⟨h1, s4, h2⟩ := hP
  have hS : va_S (fun q => lp ≤ q ∧ q < lp + 6) s.heap s.heap [] := va_S.rf
  have hl : lv_has ls 6 [(0, .ref lp), (1, .ref t), (2, .int (nI p)), (3, .int x)] := hl
  obtain ⟨wn, hw10, hwl, hw3, -, hst, hB⟩ := gClo_w hcl
  refine lv_aload_n hx hb dX5_gainBy_0 rfl (lv_at hl 0 rfl) ?_
  refine g_get (v := .ref (lp + 5)) (T := TX5) (ci := 5) (N := 10) hx hb hown hK (gY_X5 hT) rfl (h2 0 _ rfl) 8 (by decide) (hT _ gf_X5_33) rfl dX5_gainBy_1 ?_
  refine lv_iconst (v := 0) hx hb dX5_gainBy_4 (by decide) ?_
  refine lv_iload_n hx hb dX5_gainBy_5 rfl (lv_at hl 2 rfl) ?_
  refine g_is (j := 0) hx hb hK hS (h2 5 _ rfl) rfl (by omega) (Nat.le_of_ble_eq_true rfl) (by omega) dX5_gainBy_6 (fun H1 locs c2 oq hS => ?_)
  have h2 : gSg G lp (gLL G lp (gR f 4 (upd s4 0 (nI p)))) H1 := gSg_set h2 5 c2 oq
  have h1 := gSg_off h1 oq (by simp only [List.length_cons, List.length_nil]; omega)
  refine lv_aload_n hx hb dX5_gainBy_7 rfl (lv_at hl 0 rfl) ?_
  refine g_get (v := .ref (lp + 5)) (T := TX5) (ci := 5) (N := 10) hx hb hown hK (gY_X5 hT) rfl (h2 0 _ rfl) 8 (by decide) (hT _ gf_X5_33) rfl dX5_gainBy_8 ?_
  refine lv_iconst (v := 1) hx hb dX5_gainBy_11 (by decide) ?_
  refine lv_aload_n hx hb dX5_gainBy_12 rfl (lv_at hl 1 rfl) ?_
  refine g_get (v := .ref (t + 4)) (T := TX9) (ci := 9) (N := 16) hx hb hown hK (gY_X9 hT) rfl (h1 0 _ rfl) 3 (by decide) (hT _ gf_X5_115) rfl dX5_gainBy_13 ?_
  refine lv_iload_n hx hb dX5_gainBy_16 rfl (lv_at hl 2 rfl) ?_
  refine g_ia (j := p) (v := π 2 p) hx hb hK (h1 4 _ rfl) rfl (by omega) (Nat.le_of_ble_eq_true rfl) rfl dX5_gainBy_17 ?_
  refine g_is (j := 1) hx hb hK hS (h2 5 _ rfl) rfl (by omega) (Nat.le_of_ble_eq_true rfl) (by omega) dX5_gainBy_18 (fun H3 locs c4 oq hS => ?_)
  have h2 : gSg G lp (gLL G lp (gR f 4 (upd (upd s4 0 (nI p)) 1 (π 2 p)))) H3 := gSg_set h2 5 c4 oq
  have h1 := gSg_off h1 oq (by simp only [List.length_cons, List.length_nil]; omega)
  refine lv_aload_n hx hb dX5_gainBy_19 rfl (lv_at hl 0 rfl) ?_
  refine g_get (v := .ref (lp + 5)) (T := TX5) (ci := 5) (N := 10) hx hb hown hK (gY_X5 hT) rfl (h2 0 _ rfl) 8 (by decide) (hT _ gf_X5_33) rfl dX5_gainBy_20 ?_
  refine lv_iconst (v := 2) hx hb dX5_gainBy_23 (by decide) ?_
  refine lv_aload_n hx hb dX5_gainBy_24 rfl (lv_at hl 1 rfl) ?_
  refine g_get (v := .ref (t + 5)) (T := TX9) (ci := 9) (N := 16) hx hb hown hK (gY_X9 hT) rfl (h1 0 _ rfl) 4 (by decide) (hT _ gf_X5_120) rfl dX5_gainBy_25 ?_
  refine lv_iload_n hx hb dX5_gainBy_28 rfl (lv_at hl 2 rfl) ?_
  refine g_ia (j := p) (v := π 3 p) hx hb hK (h1 5 _ rfl) rfl (by omega) (Nat.le_of_ble_eq_true rfl) rfl dX5_gainBy_29 ?_
  refine g_is (j := 2) hx hb hK hS (h2 5 _ rfl) rfl (by omega) (Nat.le_of_ble_eq_true rfl) (by omega) dX5_gainBy_30 (fun H5 locs c6 oq hS => ?_)
  have h2 : gSg G lp (gLL G lp (gR f 4 (upd (upd (upd s4 0 (nI p)) 1 (π 2 p)) 2 (π 3 p)))) H5 := gSg_set h2 5 c6 oq
  have h1 := gSg_off h1 oq (by simp only [List.length_cons, List.length_nil]; omega)
  refine lv_aload_n hx hb dX5_gainBy_31 rfl (lv_at hl 0 rfl) ?_
  refine g_get (v := .ref (lp + 5)) (T := TX5) (ci := 5) (N := 10) hx hb hown hK (gY_X5 hT) rfl (h2 0 _ rfl) 8 (by decide) (hT _ gf_X5_33) rfl dX5_gainBy_32 ?_
  refine lv_iconst (v := 3) hx hb dX5_gainBy_35 (by decide) ?_
  refine lv_aload_n hx hb dX5_gainBy_36 rfl (lv_at hl 1 rfl) ?_
  refine g_get (v := .ref (t + 7)) (T := TX9) (ci := 9) (N := 16) hx hb hown hK (gY_X9 hT) rfl (h1 0 _ rfl) 6 (by decide) (hT _ gf_X5_123) rfl dX5_gainBy_37 ?_
  refine lv_iload_n hx hb dX5_gainBy_40 rfl (lv_at hl 2 rfl) ?_
  refine g_ia (j := p) (v := π 5 p) hx hb hK (h1 7 _ rfl) rfl (by omega) (Nat.le_of_ble_eq_true rfl) rfl dX5_gainBy_41 ?_
  refine g_is (j := 3) hx hb hK hS (h2 5 _ rfl) rfl (by omega) (Nat.le_of_ble_eq_true rfl) (by omega) dX5_gainBy_42 (fun H7 locs c8 oq hS => ?_)
  have h2 : gSg G lp (gLL G lp (gR f 4 (upd (upd (upd (upd s4 0 (nI p)) 1 (π 2 p)) 2 (π 3 p)) 3 (π 5 p)))) H7 := gSg_set h2 5 c8 oq
  have h1 := gSg_off h1 oq (by simp only [List.length_cons, List.length_nil]; omega)
  refine lv_aload_n hx hb dX5_gainBy_43 rfl (lv_at hl 0 rfl) ?_
  refine g_get (v := .ref (lp + 5)) (T := TX5) (ci := 5) (N := 10) hx hb hown hK (gY_X5 hT) rfl (h2 0 _ rfl) 8 (by decide) (hT _ gf_X5_33) rfl dX5_gainBy_44 ?_
  refine lv_iconst (v := 4) hx hb dX5_gainBy_47 (by decide) ?_
  refine lv_iload_n hx hb dX5_gainBy_48 rfl (lv_at hl 3 rfl) ?_
  refine g_is (j := 4) hx hb hK hS (h2 5 _ rfl) rfl (by omega) (Nat.le_of_ble_eq_true rfl) (by omega) dX5_gainBy_49 (fun H9 locs c10 oq hS => ?_)
  have h2 : gSg G lp (gLL G lp (gR f 4 (upd (upd (upd (upd (upd s4 0 (nI p)) 1 (π 2 p)) 2 (π 3 p)) 3 (π 5 p)) 4 x))) H9 := gSg_set h2 5 c10 oq
  have h1 := gSg_off h1 oq (by simp only [List.length_cons, List.length_nil]; omega)
  refine lv_aload_n hx hb dX5_gainBy_50 rfl (lv_at hl 0 rfl) ?_
  refine g_get (v := .ref (lp + 5)) (T := TX5) (ci := 5) (N := 10) hx hb hown hK (gY_X5 hT) rfl (h2 0 _ rfl) 8 (by decide) (hT _ gf_X5_33) rfl dX5_gainBy_51 ?_
  refine lv_iconst (v := 5) hx hb dX5_gainBy_54 (by decide) ?_
  refine lv_aload_n hx hb dX5_gainBy_55 rfl (lv_at hl 1 rfl) ?_
  refine g_get (v := .int (π 15 2)) (T := TX9) (ci := 9) (N := 16) hx hb hown hK (gY_X9 hT) rfl (h1 0 _ rfl) 14 (by decide) (hT _ gf_X5_126) rfl dX5_gainBy_56 ?_
  refine lv_bipush (v := 10) hx hb dX5_gainBy_59 (by decide) ?_
  refine lv_irem hx hb dX5_gainBy_61 (by decide) ?_
  refine g_is (j := 5) hx hb hK hS (h2 5 _ rfl) rfl (by omega) (Nat.le_of_ble_eq_true rfl) (by omega) dX5_gainBy_62 (fun H11 locs c12 oq hS => ?_)
  have h2 : gSg G lp (gLL G lp (gR f 4 (upd (upd (upd (upd (upd (upd s4 0 (nI p)) 1 (π 2 p)) 2 (π 3 p)) 3 (π 5 p)) 4 x) 5 ((π 15 2) - (π 15 2) / 10 * 10)))) H11 := gSg_set h2 5 c12 oq
  have h1 := gSg_off h1 oq (by simp only [List.length_cons, List.length_nil]; omega)
  refine lv_iconst (v := 0) hx hb dX5_gainBy_63 (by decide) ?_
  refine lv_istore (lv' := [(4, .int 0), (0, .ref lp), (1, .ref t), (2, .int (nI p)), (3, .int x)]) hx hb dX5_gainBy_64 hl (by decide) rfl (fun ls hl => ?_)
  refine lv_iconst (v := 0) hx hb dX5_gainBy_66 (by decide) ?_
  refine lv_istore (lv' := [(5, .int 0), (4, .int 0), (0, .ref lp), (1, .ref t), (2, .int (nI p)), (3, .int x)]) hx hb dX5_gainBy_67 hl (by decide) rfl (fun ls hl => ?_)
  have h2 : gSg G lp (gLL G lp (gR f 4 (gNu π p x))) H11 := gSg_agr h2 5 rfl (fun j hj => by have hc : j = 0 ∨ j = 1 ∨ j = 2 ∨ j = 3 ∨ j = 4 ∨ j = 5 := (by simp only at hj; omega); rcases hc with rfl | rfl | rfl | rfl | rfl | rfl <;> rfl)
  have loop : ∀ (d k : Nat), k + d = wn → ∀ (H : Heap) (locs : List Loc), gSg G t (gLS G t π lp ρ) H → gSg G lp (gLL G lp (gR f 4 (gNu π p x))) H → va_S (fun q => lp ≤ q ∧ q < lp + 6) s.heap H locs → ∀ ls, lv_has ls 6 [(0, .ref lp), (1, .ref t), (2, .int (nI p)), (3, .int x), (4, .int (gGn (gWg acc) (gNu π p x) k)), (5, .int (nI k))] → W pp_ l ee_ (gRm 2 48) s mm_ aa_ below meth cc_ H locs 0 0 Q (F0 mm_ 69 ls []) := by
    intro d
    induction d with
    | zero =>
      intro k hk   H locs h1 h2 hS ls hl
      have hk : k = wn := by omega
      refine lv_iload hx hb dX5_gainBy_69 (lv_at hl 5 rfl) ?_
      refine lv_aload_n hx hb dX5_gainBy_71 rfl (lv_at hl 0 rfl) ?_
      refine g_get (v := .int (f 5 3)) (T := TX5) (ci := 5) (N := 10) hx hb hown hK (gY_X5 hT) rfl (h2 0 _ rfl) 7 (by decide) (hT _ gf_X5_61) rfl dX5_gainBy_72 ?_
      refine lv_icmp_ge (tgt := 119) hx hb dX5_gainBy_75 (by decide) (fun c13 => ?_) (fun c13 => ?_)
      · have c13 : wn ≤ k := (gLe (a := wn) (b := k) hw3 rfl (by omega) (by omega)).mp c13
        refine lv_iload hx hb dX5_gainBy_119 (lv_at hl 4 rfl) ?_
        rw [← hQ]
        exact g_iret hx hb hr hlk hS dX5_gainBy_121 ⟨by rw [hk, gGn_e (gNu π p x) _ acc rfl, ← hwl], h1, _, h2⟩
      · have c13 : ¬ wn ≤ k := fun z => c13 ((gLe (a := wn) (b := k) hw3 rfl (by omega) (by omega)).mpr z)
        exact absurd c13 (by omega)
    | succ d ih =>
      intro k hk   H locs h1 h2 hS ls hl
      refine lv_iload hx hb dX5_gainBy_69 (lv_at hl 5 rfl) ?_
      refine lv_aload_n hx hb dX5_gainBy_71 rfl (lv_at hl 0 rfl) ?_
      refine g_get (v := .int (f 5 3)) (T := TX5) (ci := 5) (N := 10) hx hb hown hK (gY_X5 hT) rfl (h2 0 _ rfl) 7 (by decide) (hT _ gf_X5_61) rfl dX5_gainBy_72 ?_
      refine lv_icmp_ge (tgt := 119) hx hb dX5_gainBy_75 (by decide) (fun c14 => ?_) (fun c14 => ?_)
      · have c14 : wn ≤ k := (gLe (a := wn) (b := k) hw3 rfl (by omega) (by omega)).mp c14
        exact absurd c14 (by omega)
      · have c14 : ¬ wn ≤ k := fun z => c14 ((gLe (a := wn) (b := k) hw3 rfl (by omega) (by omega)).mpr z)
        refine lv_aload_n hx hb dX5_gainBy_78 rfl (lv_at hl 0 rfl) ?_
        refine lv_aload_n hx hb dX5_gainBy_79 rfl (lv_at hl 0 rfl) ?_
        refine g_get (v := .ref (lp + 4)) (T := TX5) (ci := 5) (N := 10) hx hb hown hK (gY_X5 hT) rfl (h2 0 _ rfl) 6 (by decide) (hT _ gf_X5_22) rfl dX5_gainBy_80 ?_
        refine lv_iload hx hb dX5_gainBy_83 (lv_at hl 5 rfl) ?_
        refine g_ia (j := k) (v := nI (gOf (gWg acc) k)) hx hb hK (h2 4 _ rfl) rfl (by omega) (Nat.le_of_ble_eq_true rfl) (hst k (by omega)) dX5_gainBy_85 ?_
        refine lv_aload_n hx hb dX5_gainBy_86 rfl (lv_at hl 0 rfl) ?_
        refine g_get (v := .ref (lp + 4)) (T := TX5) (ci := 5) (N := 10) hx hb hown hK (gY_X5 hT) rfl (h2 0 _ rfl) 6 (by decide) (hT _ gf_X5_22) rfl dX5_gainBy_87 ?_
        refine lv_iload hx hb dX5_gainBy_90 (lv_at hl 5 rfl) ?_
        refine lv_iconst (v := 1) hx hb dX5_gainBy_92 (by decide) ?_
        refine lv_iadd hx hb dX5_gainBy_93 ?_
        rw [show ((nI k) + 1 : Int32) = nI (k + 1) from (gAdd rfl rfl)]
        refine g_ia (j := k + 1) (v := nI (gOf (gWg acc) k + ((gWg acc).getD k (0, 0, [])).2.2.length)) hx hb hK (h2 4 _ rfl) rfl (by omega) (Nat.le_of_ble_eq_true rfl) (hst (k + 1) (by omega)) dX5_gainBy_94 ?_
        refine g_ki (g_runV (T := TX5) (ci := 5) (N := 10) (rest := []) hx hb hml hown hE hT (c_X5_isSo l G lp (gR f 4 (gNu π p x)) (gOf (gWg acc) k) ((gWg acc).getD k (0, 0, [])).2.2 (hB k (by omega)).2.1 (hB k (by omega)).2.2.1 (hB k (by omega)).2.2.2) gM_X5_isSo gm_X5_129 gi_X5_isSo gs_RX5_yX5_isSo_yX5_isSo rfl (h2 0 _ rfl) h2 rfl hl.1 ⟨rfl, rfl⟩ ⟨Nat.le_of_ble_eq_true rfl, Nat.le_of_ble_eq_true rfl⟩ ⟨Nat.zero_le _, Nat.zero_le _⟩ rfl (Nat.le_of_ble_eq_true rfl) dX5_gainBy_95) hS (fun _ h => h.elim) (fun r18 H15 locs q16 k17 hS => ?_)
        subst q16
        have h1 := gSg_free h1 k17 (by intro k hk q; simp only [List.length_cons, List.length_nil] at hk; omega)
        have h2 := gSg_free h2 k17 (by intro k hk q; simp only [List.length_cons, List.length_nil] at hk; omega)
        refine lv_if_eq (tgt := 113) hx hb dX5_gainBy_98 (by decide) (fun c19 => ?_) (fun c19 => ?_)
        · have c19 : ¬ (gEvT (gNu π p x) ((gWg acc).getD k (0, 0, [])).2.2 = true) := gB_0.mp c19
          refine lv_iinc (v := nI (k + 1)) (lv' := [(5, .int (nI (k + 1))), (0, .ref lp), (1, .ref t), (2, .int (nI p)), (3, .int x), (4, .int (gGn (gWg acc) (gNu π p x) k))]) hx hb dX5_gainBy_113 hl (k := 5) rfl (gAdd rfl (show Int32.ofInt 1 = nI 1 from rfl)) (by decide) rfl (fun ls hl => ?_)
          refine lv_goto (tgt := 69) hx hb dX5_gainBy_116 (by decide) ?_
          exact ih (k + 1) (by omega)   _ _ h1 h2 hS _ (by have hl := lv_sub hl [1, 2, 3, 4, 5, 0] rfl; rw [show (gGn (gWg acc) (gNu π p x) k : Int32) = gGn (gWg acc) (gNu π p x) (k + 1) from by rw [gGn, if_neg c19]] at hl; exact hl)
        · have c19 : gEvT (gNu π p x) ((gWg acc).getD k (0, 0, [])).2.2 = true := gB_1.mp c19
          refine lv_iload hx hb dX5_gainBy_101 (lv_at hl 4 rfl) ?_
          refine lv_aload_n hx hb dX5_gainBy_103 rfl (lv_at hl 0 rfl) ?_
          refine g_get (v := .ref (lp + 3)) (T := TX5) (ci := 5) (N := 10) hx hb hown hK (gY_X5 hT) rfl (h2 0 _ rfl) 5 (by decide) (hT _ gf_X5_19) rfl dX5_gainBy_104 ?_
          refine lv_iload hx hb dX5_gainBy_107 (lv_at hl 5 rfl) ?_
          refine g_ia (j := k) (v := gSgn ((gWg acc).getD k (0, 0, [])).1 ((gWg acc).getD k (0, 0, [])).2.1) hx hb hK (h2 3 _ rfl) rfl (by omega) (Nat.le_of_ble_eq_true rfl) (hB k (by omega)).1 dX5_gainBy_109 ?_
          refine lv_iadd hx hb dX5_gainBy_110 ?_
          refine lv_istore (lv' := [(4, .int ((gGn (gWg acc) (gNu π p x) k) + (gSgn ((gWg acc).getD k (0, 0, [])).1 ((gWg acc).getD k (0, 0, [])).2.1))), (0, .ref lp), (1, .ref t), (2, .int (nI p)), (3, .int x), (5, .int (nI k))]) hx hb dX5_gainBy_111 hl (by decide) rfl (fun ls hl => ?_)
          refine lv_iinc (v := nI (k + 1)) (lv' := [(5, .int (nI (k + 1))), (4, .int ((gGn (gWg acc) (gNu π p x) k) + (gSgn ((gWg acc).getD k (0, 0, [])).1 ((gWg acc).getD k (0, 0, [])).2.1))), (0, .ref lp), (1, .ref t), (2, .int (nI p)), (3, .int x)]) hx hb dX5_gainBy_113 hl (k := 5) rfl (gAdd rfl (show Int32.ofInt 1 = nI 1 from rfl)) (by decide) rfl (fun ls hl => ?_)
          refine lv_goto (tgt := 69) hx hb dX5_gainBy_116 (by decide) ?_
          exact ih (k + 1) (by omega)   _ _ h1 h2 hS _ (by have hl := lv_sub hl [2, 3, 4, 5, 1, 0] rfl; rw [show ((gGn (gWg acc) (gNu π p x) k) + (gSgn ((gWg acc).getD k (0, 0, [])).1 ((gWg acc).getD k (0, 0, [])).2.1) : Int32) = gGn (gWg acc) (gNu π p x) (k + 1) from by rw [gGn, if_pos c19]] at hl; exact hl)
  exact loop (wn - 0) 0 (by first | omega | simp)  _ _ h1 h2 hS _ (lv_sub hl [2, 3, 4, 5, 1, 0] rfl)
