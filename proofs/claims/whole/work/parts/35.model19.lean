set_option maxHeartbeats 4000000 in
set_option maxRecDepth 100000 in
theorem c_X12_pigeon (l : Launch) (G : gW) (b : Nat) (π μ f : gPS) (g : Nat → Int64) (n : Nat) (hz : π 15 0 = nI n) (hn : n ≤ 6) (kd v : Int32) : gCI l yX12_pigeon cX12_pigeon 4 .int (gRm 1 22) G [.ref b, .int kd, .int v] (fun H => gSg G b (gLM G b π μ f g) H) (fun r H => r = (gqPigeon π kd v).1 ∧ gSg G b (gLM G b (gqPigeon π kd v).2 μ f g) H) (fun q => b ≤ q ∧ q < b + 30) := by
  refine g_start (by decide) (Nat.le_of_ble_eq_true rfl) ?_
  intro pp_ ee_ s mm_ aa_ below meth cc_ ls Q hQ hX hE hP hl
  obtain ⟨hx, hb, hr, hml, hown, hT, hlk, hnm⟩ := hX
  have hK := hE.2.1
  have h1 := hP
  have hS : va_S (fun q => b ≤ q ∧ q < b + 30) s.heap s.heap [] := va_S.rf
  have hl : lv_has ls 4 [(0, .ref b), (1, .int kd), (2, .int v)] := hl
  refine lv_iload_n hx hb dX12_pigeon_0 rfl (lv_at hl 1 rfl) ?_
  refine lv_iconst (v := 0) hx hb dX12_pigeon_1 (by decide) ?_
  refine lv_bipush (v := 6) hx hb dX12_pigeon_2 (by decide) ?_
  refine g_ki (g_runS (rest := []) hx hb hml hown hE hT (c_X12_within l G kd 0 6) gM_X12_within gm_X12_108 gt_X12_within trivial rfl hl.1 ⟨rfl, rfl⟩ ⟨Nat.le_of_ble_eq_true rfl, Nat.le_of_ble_eq_true rfl⟩ ⟨Nat.zero_le _, Nat.zero_le _⟩ rfl (Nat.le_of_ble_eq_true rfl) dX12_pigeon_4) hS (fun _ h => h.elim) (fun r4 H1 locs q2 k3 hS => ?_)
  subst q2
  have h1 := gSg_free h1 k3 (by intro k hk q; simp only [List.length_cons, List.length_nil] at hk; omega)
  refine lv_if_ne (tgt := 12) hx hb dX12_pigeon_7 (by decide) (fun c5 => ?_) (fun c5 => ?_)
  · have c5 : 0 ≤ kd ∧ kd ≤ 6 := gB_1.mp c5
    refine lv_iload_n hx hb dX12_pigeon_12 rfl (lv_at hl 2 rfl) ?_
    refine lv_iconst (v := 0) hx hb dX12_pigeon_13 (by decide) ?_
    refine lv_bipush (v := 9) hx hb dX12_pigeon_14 (by decide) ?_
    refine g_ki (g_runS (rest := []) hx hb hml hown hE hT (c_X12_within l G v 0 9) gM_X12_within gm_X12_108 gt_X12_within trivial rfl hl.1 ⟨rfl, rfl⟩ ⟨Nat.le_of_ble_eq_true rfl, Nat.le_of_ble_eq_true rfl⟩ ⟨Nat.zero_le _, Nat.zero_le _⟩ rfl (Nat.le_of_ble_eq_true rfl) dX12_pigeon_16) hS (fun _ h => h.elim) (fun r9 H6 locs q7 k8 hS => ?_)
    subst q7
    have h1 := gSg_free h1 k8 (by intro k hk q; simp only [List.length_cons, List.length_nil] at hk; omega)
    refine lv_if_ne (tgt := 25) hx hb dX12_pigeon_19 (by decide) (fun c10 => ?_) (fun c10 => ?_)
    · have c10 : 0 ≤ v ∧ v ≤ 9 := gB_1.mp c10
      refine lv_aload_n hx hb dX12_pigeon_25 rfl (lv_at hl 0 rfl) ?_
      refine g_get (v := .int (π 15 0)) (T := TX12) (ci := 12) (N := 45) hx hb hown hK (gY_X12 hT) rfl (h1 0 _ rfl) 3 (by decide) (hT _ gf_X12_105) rfl dX12_pigeon_26 ?_
      refine lv_bipush (v := 6) hx hb dX12_pigeon_29 (by decide) ?_
      refine lv_icmp_ne (tgt := 37) hx hb dX12_pigeon_31 (by decide) (fun c11 => ?_) (fun c11 => ?_)
      · have c11 : ¬ n = 6 := fun z => c11 ((gEq (a := n) (b := 6) hz rfl (by omega) (by omega)).mpr z)
        refine lv_aload_n hx hb dX12_pigeon_37 rfl (lv_at hl 0 rfl) ?_
        refine g_get (v := .ref (b + 3)) (T := TX12) (ci := 12) (N := 45) hx hb hown hK (gY_X12 hT) rfl (h1 0 _ rfl) 4 (by decide) (hT _ gf_X12_18) rfl dX12_pigeon_38 ?_
        refine lv_aload_n hx hb dX12_pigeon_41 rfl (lv_at hl 0 rfl) ?_
        refine g_get (v := .int (π 15 0)) (T := TX12) (ci := 12) (N := 45) hx hb hown hK (gY_X12 hT) rfl (h1 0 _ rfl) 3 (by decide) (hT _ gf_X12_105) rfl dX12_pigeon_42 ?_
        refine lv_iload_n hx hb dX12_pigeon_45 rfl (lv_at hl 1 rfl) ?_
        refine g_is (j := n) hx hb hK hS (h1 3 _ rfl) hz (by omega) (Nat.le_of_ble_eq_true rfl) (by omega) dX12_pigeon_46 (fun H12 locs c13 oq hS => ?_)
        have h1 : gSg G b (gLM G b (gU π 2 n kd) μ f g) H12 := gSg_set h1 3 c13 oq
        refine lv_aload_n hx hb dX12_pigeon_47 rfl (lv_at hl 0 rfl) ?_
        refine g_get (v := .ref (b + 4)) (T := TX12) (ci := 12) (N := 45) hx hb hown hK (gY_X12 hT) rfl (h1 0 _ rfl) 5 (by decide) (hT _ gf_X12_21) rfl dX12_pigeon_48 ?_
        refine lv_aload_n hx hb dX12_pigeon_51 rfl (lv_at hl 0 rfl) ?_
        refine g_get (v := .int (π 15 0)) (T := TX12) (ci := 12) (N := 45) hx hb hown hK (gY_X12 hT) rfl (h1 0 _ rfl) 3 (by decide) (hT _ gf_X12_105) rfl dX12_pigeon_52 ?_
        refine lv_iload_n hx hb dX12_pigeon_55 rfl (lv_at hl 2 rfl) ?_
        refine g_is (j := n) hx hb hK hS (h1 4 _ rfl) hz (by omega) (Nat.le_of_ble_eq_true rfl) (by omega) dX12_pigeon_56 (fun H14 locs c15 oq hS => ?_)
        have h1 : gSg G b (gLM G b (gU (gU π 2 n kd) 3 n v) μ f g) H14 := gSg_set h1 4 c15 oq
        refine lv_aload_n hx hb dX12_pigeon_57 rfl (lv_at hl 0 rfl) ?_
        refine g_get (v := .ref (b + 5)) (T := TX12) (ci := 12) (N := 45) hx hb hown hK (gY_X12 hT) rfl (h1 0 _ rfl) 6 (by decide) (hT _ gf_X12_24) rfl dX12_pigeon_58 ?_
        refine lv_aload_n hx hb dX12_pigeon_61 rfl (lv_at hl 0 rfl) ?_
        refine g_get (v := .int (π 15 0)) (T := TX12) (ci := 12) (N := 45) hx hb hown hK (gY_X12 hT) rfl (h1 0 _ rfl) 3 (by decide) (hT _ gf_X12_105) rfl dX12_pigeon_62 ?_
        refine lv_iconst (v := 0) hx hb dX12_pigeon_65 (by decide) ?_
        refine g_is (j := n) hx hb hK hS (h1 5 _ rfl) hz (by omega) (Nat.le_of_ble_eq_true rfl) (by omega) dX12_pigeon_66 (fun H16 locs c17 oq hS => ?_)
        have h1 : gSg G b (gLM G b (gU (gU (gU π 2 n kd) 3 n v) 4 n 0) μ f g) H16 := gSg_set h1 5 c17 oq
        refine lv_aload_n hx hb dX12_pigeon_67 rfl (lv_at hl 0 rfl) ?_
        refine g_get (v := .ref (b + 6)) (T := TX12) (ci := 12) (N := 45) hx hb hown hK (gY_X12 hT) rfl (h1 0 _ rfl) 7 (by decide) (hT _ gf_X12_27) rfl dX12_pigeon_68 ?_
        refine lv_aload_n hx hb dX12_pigeon_71 rfl (lv_at hl 0 rfl) ?_
        refine g_get (v := .int (π 15 0)) (T := TX12) (ci := 12) (N := 45) hx hb hown hK (gY_X12 hT) rfl (h1 0 _ rfl) 3 (by decide) (hT _ gf_X12_105) rfl dX12_pigeon_72 ?_
        refine lv_iconst (v := 0) hx hb dX12_pigeon_75 (by decide) ?_
        refine g_is (j := n) hx hb hK hS (h1 6 _ rfl) hz (by omega) (Nat.le_of_ble_eq_true rfl) (by omega) dX12_pigeon_76 (fun H18 locs c19 oq hS => ?_)
        have h1 : gSg G b (gLM G b (gU (gU (gU (gU π 2 n kd) 3 n v) 4 n 0) 5 n 0) μ f g) H18 := gSg_set h1 6 c19 oq
        refine lv_aload_n hx hb dX12_pigeon_77 rfl (lv_at hl 0 rfl) ?_
        refine g_get (v := .ref (b + 7)) (T := TX12) (ci := 12) (N := 45) hx hb hown hK (gY_X12 hT) rfl (h1 0 _ rfl) 8 (by decide) (hT _ gf_X12_30) rfl dX12_pigeon_78 ?_
        refine lv_aload_n hx hb dX12_pigeon_81 rfl (lv_at hl 0 rfl) ?_
        refine g_get (v := .int (π 15 0)) (T := TX12) (ci := 12) (N := 45) hx hb hown hK (gY_X12 hT) rfl (h1 0 _ rfl) 3 (by decide) (hT _ gf_X12_105) rfl dX12_pigeon_82 ?_
        refine lv_iconst (v := 0) hx hb dX12_pigeon_85 (by decide) ?_
        refine g_is (j := n) hx hb hK hS (h1 7 _ rfl) hz (by omega) (Nat.le_of_ble_eq_true rfl) (by omega) dX12_pigeon_86 (fun H20 locs c21 oq hS => ?_)
        have h1 : gSg G b (gLM G b (gU (gU (gU (gU (gU π 2 n kd) 3 n v) 4 n 0) 5 n 0) 6 n 0) μ f g) H20 := gSg_set h1 7 c21 oq
        refine lv_iconst (v := 0) hx hb dX12_pigeon_87 (by decide) ?_
        refine lv_istore_n (lv' := [(3, .int 0), (0, .ref b), (1, .int kd), (2, .int v)]) hx hb dX12_pigeon_88 rfl hl (by decide) rfl (fun ls hl => ?_)
        have loop : ∀ (d j : Nat), j + d = 4 → ∀ (H : Heap) (locs : List Loc), gSg G b (gLM G b (gZr (gU (gU (gU (gU (gU π 2 n kd) 3 n v) 4 n 0) 5 n 0) 6 n 0) n j) μ f g) H → va_S (fun q => b ≤ q ∧ q < b + 30) s.heap H locs → ∀ ls, lv_has ls 4 [(0, .ref b), (1, .int kd), (2, .int v), (3, .int (nI j))] → W pp_ l ee_ (gRm 1 22) s mm_ aa_ below meth cc_ H locs 0 0 Q (F0 mm_ 89 ls []) := by
          intro d
          induction d with
          | zero =>
            intro j hk   H locs h1 hS ls hl
            have hk : j = 4 := by omega
            refine lv_iload_n hx hb dX12_pigeon_89 rfl (lv_at hl 3 rfl) ?_
            refine lv_iconst (v := 4) hx hb dX12_pigeon_90 (by decide) ?_
            refine lv_icmp_ge (tgt := 114) hx hb dX12_pigeon_91 (by decide) (fun c22 => ?_) (fun c22 => ?_)
            · have c22 : 4 ≤ j := (gLe (a := 4) (b := j) rfl rfl (by omega) (by omega)).mp c22
              rw [hk] at h1
              refine lv_aload_n hx hb dX12_pigeon_114 rfl (lv_at hl 0 rfl) ?_
              refine lv_dup hx hb dX12_pigeon_115 rfl ?_
              refine g_get (v := .int ((gZr (gU (gU (gU (gU (gU π 2 n kd) 3 n v) 4 n 0) 5 n 0) 6 n 0) n 4) 15 0)) (T := TX12) (ci := 12) (N := 45) hx hb hown hK (gY_X12 hT) rfl (h1 0 _ rfl) 3 (by decide) (hT _ gf_X12_105) rfl dX12_pigeon_116 ?_
              refine lv_dup_x1 hx hb dX12_pigeon_119 rfl rfl ?_
              refine lv_iconst (v := 1) hx hb dX12_pigeon_120 (by decide) ?_
              refine lv_iadd hx hb dX12_pigeon_121 ?_
              refine g_put (T := TX12) (ci := 12) (N := 45) (ty0 := tyX12) hx hb hown hK hS (gY_X12 hT) tyX12_ok nmX12 rfl (h1 0 _ rfl) 3 (by decide) (hT _ gf_X12_105) rfl rfl rfl (Nat.le_of_ble_eq_true rfl) (by omega) dX12_pigeon_122 (fun H23 locs c24 oq hS => ?_)
              have h1 : gSg G b (gLM G b (gU (gZr (gU (gU (gU (gU (gU π 2 n kd) 3 n v) 4 n 0) 5 n 0) 6 n 0) n 4) 15 0 (((gZr (gU (gU (gU (gU (gU π 2 n kd) 3 n v) 4 n 0) 5 n 0) 6 n 0) n 4) 15 0) + 1)) μ f g) H23 := gSg_set h1 0 c24 oq
              rw [← hQ]
              exact g_iret hx hb hr hlk hS dX12_pigeon_125 (by rw [show gqPigeon π kd v = (π 15 0, gU (gZr (gU (gU (gU (gU (gU π 2 n kd) 3 n v) 4 n 0) 5 n 0) 6 n 0) n 4) 15 0 (π 15 0 + 1)) from by simp only [gqPigeon, if_pos c5, if_pos c10, if_neg (show ¬ π 15 0 = 6 from fun z => c11 ((gEq (b := 6) hz rfl (by omega) (by omega)).mp z)), show (π 15 0).toNatClampNeg = n from by rw [hz]; exact nI_clamp (by omega)]]; exact ⟨gZr_15 4, by have e := gZr_15 (π := (gU (gU (gU (gU (gU π 2 n kd) 3 n v) 4 n 0) 5 n 0) 6 n 0)) (n := n) (k := 0) 4; rw [e] at h1; exact h1⟩)
            · have c22 : ¬ 4 ≤ j := fun z => c22 ((gLe (a := 4) (b := j) rfl rfl (by omega) (by omega)).mpr z)
              exact absurd c22 (by omega)
          | succ d ih =>
            intro j hk   H locs h1 hS ls hl
            refine lv_iload_n hx hb dX12_pigeon_89 rfl (lv_at hl 3 rfl) ?_
            refine lv_iconst (v := 4) hx hb dX12_pigeon_90 (by decide) ?_
            refine lv_icmp_ge (tgt := 114) hx hb dX12_pigeon_91 (by decide) (fun c25 => ?_) (fun c25 => ?_)
            · have c25 : 4 ≤ j := (gLe (a := 4) (b := j) rfl rfl (by omega) (by omega)).mp c25
              exact absurd c25 (by omega)
            · have c25 : ¬ 4 ≤ j := fun z => c25 ((gLe (a := 4) (b := j) rfl rfl (by omega) (by omega)).mpr z)
              refine lv_aload_n hx hb dX12_pigeon_94 rfl (lv_at hl 0 rfl) ?_
              refine g_get (v := .ref (b + 8)) (T := TX12) (ci := 12) (N := 45) hx hb hown hK (gY_X12 hT) rfl (h1 0 _ rfl) 9 (by decide) (hT _ gf_X12_33) rfl dX12_pigeon_95 ?_
              refine lv_iconst (v := 4) hx hb dX12_pigeon_98 (by decide) ?_
              refine lv_aload_n hx hb dX12_pigeon_99 rfl (lv_at hl 0 rfl) ?_
              refine g_get (v := .int ((gZr (gU (gU (gU (gU (gU π 2 n kd) 3 n v) 4 n 0) 5 n 0) 6 n 0) n j) 15 0)) (T := TX12) (ci := 12) (N := 45) hx hb hown hK (gY_X12 hT) rfl (h1 0 _ rfl) 3 (by decide) (hT _ gf_X12_105) rfl dX12_pigeon_100 ?_
              refine lv_imul hx hb dX12_pigeon_103 ?_
              refine lv_iload_n hx hb dX12_pigeon_104 rfl (lv_at hl 3 rfl) ?_
              refine lv_iadd hx hb dX12_pigeon_105 ?_
              refine lv_iconst (v := 0) hx hb dX12_pigeon_106 (by decide) ?_
              refine g_is (j := (4 * n) + j) hx hb hK hS (h1 8 _ rfl) (gAdd (gMul rfl ((gZr_15 j).trans hz)) rfl) (by omega) (Nat.le_of_ble_eq_true rfl) (by omega) dX12_pigeon_107 (fun H26 locs c27 oq hS => ?_)
              have h1 : gSg G b (gLM G b (gU (gZr (gU (gU (gU (gU (gU π 2 n kd) 3 n v) 4 n 0) 5 n 0) 6 n 0) n j) 7 ((4 * n) + j) 0) μ f g) H26 := gSg_set h1 8 c27 oq
              refine lv_iinc (v := nI (j + 1)) (lv' := [(3, .int (nI (j + 1))), (0, .ref b), (1, .int kd), (2, .int v)]) hx hb dX12_pigeon_108 hl (k := 3) rfl (gAdd rfl (show Int32.ofInt 1 = nI 1 from rfl)) (by decide) rfl (fun ls hl => ?_)
              refine lv_goto (tgt := 89) hx hb dX12_pigeon_111 (by decide) ?_
              exact ih (j + 1) (by omega)   _ _ h1 hS _ (by have hl := lv_sub hl [1, 2, 3, 0] rfl; exact hl)
        exact loop (4 - 0) 0 (by first | omega | simp)  _ _ h1 hS _ (lv_sub hl [1, 2, 3, 0] rfl)
      · have c11 : n = 6 := (gEq (a := n) (b := 6) hz rfl (by omega) (by omega)).mp c11
        refine lv_bipush (v := (-4)) hx hb dX12_pigeon_34 (by decide) ?_
        rw [← hQ]
        exact g_iret hx hb hr hlk hS dX12_pigeon_36 (by rw [show gqPigeon π kd v = ((-4), π) from by simp only [gqPigeon, if_pos c5, if_pos c10, if_pos (show π 15 0 = 6 from (gEq (b := 6) hz rfl (by omega) (by omega)).mpr c11)]]; exact ⟨rfl, h1⟩)
    · have c10 : ¬ (0 ≤ v ∧ v ≤ 9) := gB_0.mp c10
      refine lv_bipush (v := (-2)) hx hb dX12_pigeon_22 (by decide) ?_
      rw [← hQ]
      exact g_iret hx hb hr hlk hS dX12_pigeon_24 (by rw [show gqPigeon π kd v = ((-2), π) from by simp only [gqPigeon, if_pos c5, if_neg c10]]; exact ⟨rfl, h1⟩)
  · have c5 : ¬ (0 ≤ kd ∧ kd ≤ 6) := gB_0.mp c5
    refine lv_iconst (v := (-1)) hx hb dX12_pigeon_10 (by decide) ?_
    rw [← hQ]
    exact g_iret hx hb hr hlk hS dX12_pigeon_11 (by rw [show gqPigeon π kd v = ((-1), π) from by simp only [gqPigeon, if_neg c5]]; exact ⟨rfl, h1⟩)
