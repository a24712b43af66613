set_option maxHeartbeats 4000000 in
set_option maxRecDepth 100000 in
theorem c_X12_tape (l : Launch) (G : gW) (b : Nat) (π μ f : gPS) (g : Nat → Int64) (t sort n : Int32) : gCI l yX12_tape cX12_tape 5 .int (gRm 2 42) G [.ref b, .int t, .int sort, .int n] (fun H => gSg G b (gLM G b π μ f g) H) (fun r H => r = (gqTape μ g t sort n).1 ∧ gSg G b (gLM G b π (gqTape μ g t sort n).2.1 f (gqTape μ g t sort n).2.2) H) (fun q => b ≤ q ∧ q < b + 30) := by
  refine g_start (by decide) (Nat.le_of_ble_eq_true rfl) ?_
  intro pp_ ee_ s mm_ aa_ below meth cc_ ls Q hQ hX hE hP hl
  obtain ⟨hx, hb, hr, hml, hown, hT, hlk, hnm⟩ := hX
  have hK := hE.2.1
  have h1 := hP
  have hS : va_S (fun q => b ≤ q ∧ q < b + 30) s.heap s.heap [] := va_S.rf
  have hl : lv_has ls 5 [(0, .ref b), (1, .int t), (2, .int sort), (3, .int n)] := hl
  refine lv_iload_n hx hb dX12_tape_0 rfl (lv_at hl 1 rfl) ?_
  refine g_ki (g_runS (rest := []) hx hb hml hown hE hT (c_X12_isTape l G t) gM_X12_isTape gm_X12_322 gt_X12_isTape trivial rfl hl.1 ⟨rfl, rfl⟩ ⟨Nat.le_of_ble_eq_true rfl, Nat.le_of_ble_eq_true rfl⟩ ⟨Nat.zero_le _, Nat.zero_le _⟩ rfl (Nat.le_of_ble_eq_true rfl) dX12_tape_1) hS (fun _ h => h.elim) (fun r4 H1 locs q2 k3 hS => ?_)
  subst q2
  have h1 := gSg_free h1 k3 (by intro k hk q; simp only [List.length_cons, List.length_nil] at hk; omega)
  refine lv_if_ne (tgt := 9) hx hb dX12_tape_4 (by decide) (fun c5 => ?_) (fun c5 => ?_)
  · have c5 : 0 ≤ t ∧ t ≤ 5 := gB_1.mp c5
    obtain ⟨k, hk, ek⟩ := gIw (M := 5) (n := 5) rfl (by decide) c5
    subst ek
    refine lv_iload_n hx hb dX12_tape_9 rfl (lv_at hl 2 rfl) ?_
    refine lv_iconst (v := (-1)) hx hb dX12_tape_10 (by decide) ?_
    refine lv_iconst (v := 4) hx hb dX12_tape_11 (by decide) ?_
    refine g_ki (g_runS (rest := []) hx hb hml hown hE hT (c_X12_within l G sort (-1) 4) gM_X12_within gm_X12_108 gt_X12_within trivial rfl hl.1 ⟨rfl, rfl⟩ ⟨Nat.le_of_ble_eq_true rfl, Nat.le_of_ble_eq_true rfl⟩ ⟨Nat.zero_le _, Nat.zero_le _⟩ rfl (Nat.le_of_ble_eq_true rfl) dX12_tape_12) hS (fun _ h => h.elim) (fun r9 H6 locs q7 k8 hS => ?_)
    subst q7
    have h1 := gSg_free h1 k8 (by intro k hk q; simp only [List.length_cons, List.length_nil] at hk; omega)
    refine lv_if_eq (tgt := 28) hx hb dX12_tape_15 (by decide) (fun c10 => ?_) (fun c10 => ?_)
    · have c10 : ¬ ((-1) ≤ sort ∧ sort ≤ 4) := gB_0.mp c10
      refine lv_bipush (v := (-2)) hx hb dX12_tape_28 (by decide) ?_
      rw [← hQ]
      exact g_iret hx hb hr hlk hS dX12_tape_30 (by rw [show gqTape μ g (nI k) sort n = ((-2), μ, g) from by simp only [gqTape, if_pos c5, if_neg c10, nI_clamp (show k < 2 ^ 31 by omega)] <;> rfl]; exact ⟨rfl, h1⟩)
    · have c10 : (-1) ≤ sort ∧ sort ≤ 4 := gB_1.mp c10
      refine lv_iload_n hx hb dX12_tape_18 rfl (lv_at hl 2 rfl) ?_
      refine lv_if_lt (tgt := 31) hx hb dX12_tape_19 (by decide) (fun c11 => ?_) (fun c11 => ?_)
      · refine lv_iload_n hx hb dX12_tape_31 rfl (lv_at hl 2 rfl) ?_
        refine lv_if_lt (tgt := 42) hx hb dX12_tape_32 (by decide) (fun c12 => ?_) (fun c12 => ?_)
        · refine lv_aload_n hx hb dX12_tape_42 rfl (lv_at hl 0 rfl) ?_
          refine g_get (v := .ref (b + 27)) (T := TX12) (ci := 12) (N := 45) hx hb hown hK (gY_X12 hT) rfl (h1 0 _ rfl) 42 (by decide) (hT _ gf_X12_91) rfl dX12_tape_43 ?_
          refine lv_iload_n hx hb dX12_tape_46 rfl (lv_at hl 1 rfl) ?_
          refine lv_iload_n hx hb dX12_tape_47 rfl (lv_at hl 2 rfl) ?_
          refine g_is (j := k) hx hb hK hS (h1 27 _ rfl) rfl (by omega) (Nat.le_of_ble_eq_true rfl) (by omega) dX12_tape_48 (fun H13 locs c14 oq hS => ?_)
          have h1 : gSg G b (gLM G b π (gU μ 2 k sort) f g) H13 := gSg_set h1 27 c14 oq
          refine lv_aload_n hx hb dX12_tape_49 rfl (lv_at hl 0 rfl) ?_
          refine g_get (v := .ref (b + 28)) (T := TX12) (ci := 12) (N := 45) hx hb hown hK (gY_X12 hT) rfl (h1 0 _ rfl) 43 (by decide) (hT _ gf_X12_94) rfl dX12_tape_50 ?_
          refine lv_iload_n hx hb dX12_tape_53 rfl (lv_at hl 1 rfl) ?_
          refine lv_iload_n hx hb dX12_tape_54 rfl (lv_at hl 2 rfl) ?_
          refine lv_if_ge (tgt := 62) hx hb dX12_tape_55 (by decide) (fun c15 => ?_) (fun c15 => ?_)
          · exact absurd c11 (Int32.not_lt.mpr c15)
          · refine lv_iconst (v := 0) hx hb dX12_tape_58 (by decide) ?_
            refine lv_goto (tgt := 63) hx hb dX12_tape_59 (by decide) ?_
            refine g_is (j := k) hx hb hK hS (h1 28 _ rfl) rfl (by omega) (Nat.le_of_ble_eq_true rfl) (by omega) dX12_tape_63 (fun H16 locs c17 oq hS => ?_)
            have h1 : gSg G b (gLM G b π (gU (gU μ 2 k sort) 3 k 0) f g) H16 := gSg_set h1 28 c17 oq
            refine lv_iconst (v := 0) hx hb dX12_tape_64 (by decide) ?_
            refine lv_istore (lv' := [(4, .int 0), (0, .ref b), (1, .int (nI k)), (2, .int sort), (3, .int n)]) hx hb dX12_tape_65 hl (by decide) rfl (fun ls hl => ?_)
            rw [← gZer_0 g k] at h1
            have loop : ∀ (d j : Nat), j + d = 60 → ∀ (H : Heap) (locs : List Loc), gSg G b (gLM G b π (gU (gU μ 2 k sort) 3 k 0) f (gZer g k j)) H → va_S (fun q => b ≤ q ∧ q < b + 30) s.heap H locs → ∀ ls, lv_has ls 5 [(0, .ref b), (1, .int (nI k)), (4, .int (nI j))] → W pp_ l ee_ (gRm 2 42) s mm_ aa_ below meth cc_ H locs 0 0 Q (F0 mm_ 67 ls []) := by
              intro d
              induction d with
              | zero =>
                intro j hk   H locs h1 hS ls hl
                have hk : j = 60 := by omega
                refine lv_iload hx hb dX12_tape_67 (lv_at hl 2 rfl) ?_
                refine lv_bipush (v := 60) hx hb dX12_tape_69 (by decide) ?_
                refine lv_icmp_ge (tgt := 93) hx hb dX12_tape_71 (by decide) (fun c18 => ?_) (fun c18 => ?_)
                · have c18 : 60 ≤ j := (gLe (a := 60) (b := j) rfl rfl (by omega) (by omega)).mp c18
                  refine lv_iconst (v := 1) hx hb dX12_tape_93 (by decide) ?_
                  subst hk
                  rw [← hQ]
                  exact g_iret hx hb hr hlk hS dX12_tape_94 (by rw [show gqTape μ g (nI k) sort n = (1, gU (gU μ 2 k sort) 3 k 0, gZer g k 60) from by simp only [gqTape, if_pos c5, if_pos c10, if_pos c11, nI_clamp (show k < 2 ^ 31 by omega)] <;> rfl]; exact ⟨rfl, h1⟩)
                · have c18 : ¬ 60 ≤ j := fun z => c18 ((gLe (a := 60) (b := j) rfl rfl (by omega) (by omega)).mpr z)
                  exact absurd c18 (by omega)
              | succ d ih =>
                intro j hk   H locs h1 hS ls hl
                refine lv_iload hx hb dX12_tape_67 (lv_at hl 2 rfl) ?_
                refine lv_bipush (v := 60) hx hb dX12_tape_69 (by decide) ?_
                refine lv_icmp_ge (tgt := 93) hx hb dX12_tape_71 (by decide) (fun c19 => ?_) (fun c19 => ?_)
                · have c19 : 60 ≤ j := (gLe (a := 60) (b := j) rfl rfl (by omega) (by omega)).mp c19
                  exact absurd c19 (by omega)
                · have c19 : ¬ 60 ≤ j := fun z => c19 ((gLe (a := 60) (b := j) rfl rfl (by omega) (by omega)).mpr z)
                  refine lv_aload_n hx hb dX12_tape_74 rfl (lv_at hl 0 rfl) ?_
                  refine g_get (v := .ref (b + 29)) (T := TX12) (ci := 12) (N := 45) hx hb hown hK (gY_X12 hT) rfl (h1 0 _ rfl) 44 (by decide) (hT _ gf_X12_97) rfl dX12_tape_75 ?_
                  refine lv_bipush (v := 60) hx hb dX12_tape_78 (by decide) ?_
                  refine lv_iload_n hx hb dX12_tape_80 rfl (lv_at hl 1 rfl) ?_
                  refine lv_imul hx hb dX12_tape_81 ?_
                  refine lv_iload hx hb dX12_tape_82 (lv_at hl 2 rfl) ?_
                  refine lv_iadd hx hb dX12_tape_84 ?_
                  refine lv_lconst (v := 0) hx hb dX12_tape_85 (by decide) ?_
                  refine g_ls (j := (60 * k) + j) hx hb hK hS (h1 29 _ rfl) (gAdd (gMul rfl rfl) rfl) (by omega) (Nat.le_of_ble_eq_true rfl) (by omega) dX12_tape_86 (fun H20 locs c21 oq hS => ?_)
                  have h1 : gSg G b (gLM G b π (gU (gU μ 2 k sort) 3 k 0) f (vp_updL (gZer g k j) ((60 * k) + j) 0)) H20 := gSg_set h1 29 c21 oq
                  refine lv_iinc (v := nI (j + 1)) (lv' := [(4, .int (nI (j + 1))), (0, .ref b), (1, .int (nI k))]) hx hb dX12_tape_87 hl (k := 2) rfl (gAdd rfl (show Int32.ofInt 1 = nI 1 from rfl)) (by decide) rfl (fun ls hl => ?_)
                  refine lv_goto (tgt := 67) hx hb dX12_tape_90 (by decide) ?_
                  rw [gZer_s] at h1
                  exact ih (j + 1) (by omega)   _ _ h1 hS _ (by have hl := lv_sub hl [1, 2, 0] rfl; exact hl)
            exact loop (60 - 0) 0 (by first | omega | simp)  _ _ h1 hS _ (lv_sub hl [1, 2, 0] rfl)
        · exact absurd c11 c12
      · refine lv_iload_n hx hb dX12_tape_22 rfl (lv_at hl 3 rfl) ?_
        refine lv_bipush (v := 60) hx hb dX12_tape_23 (by decide) ?_
        refine lv_icmp_le (tgt := 31) hx hb dX12_tape_25 (by decide) (fun c22 => ?_) (fun c22 => ?_)
        · refine lv_iload_n hx hb dX12_tape_31 rfl (lv_at hl 2 rfl) ?_
          refine lv_if_lt (tgt := 42) hx hb dX12_tape_32 (by decide) (fun c23 => ?_) (fun c23 => ?_)
          · exact absurd c23 c11
          · refine lv_iload_n hx hb dX12_tape_35 rfl (lv_at hl 3 rfl) ?_
            refine lv_if_ge (tgt := 42) hx hb dX12_tape_36 (by decide) (fun c24 => ?_) (fun c24 => ?_)
            · refine lv_aload_n hx hb dX12_tape_42 rfl (lv_at hl 0 rfl) ?_
              refine g_get (v := .ref (b + 27)) (T := TX12) (ci := 12) (N := 45) hx hb hown hK (gY_X12 hT) rfl (h1 0 _ rfl) 42 (by decide) (hT _ gf_X12_91) rfl dX12_tape_43 ?_
              refine lv_iload_n hx hb dX12_tape_46 rfl (lv_at hl 1 rfl) ?_
              refine lv_iload_n hx hb dX12_tape_47 rfl (lv_at hl 2 rfl) ?_
              refine g_is (j := k) hx hb hK hS (h1 27 _ rfl) rfl (by omega) (Nat.le_of_ble_eq_true rfl) (by omega) dX12_tape_48 (fun H25 locs c26 oq hS => ?_)
              have h1 : gSg G b (gLM G b π (gU μ 2 k sort) f g) H25 := gSg_set h1 27 c26 oq
              refine lv_aload_n hx hb dX12_tape_49 rfl (lv_at hl 0 rfl) ?_
              refine g_get (v := .ref (b + 28)) (T := TX12) (ci := 12) (N := 45) hx hb hown hK (gY_X12 hT) rfl (h1 0 _ rfl) 43 (by decide) (hT _ gf_X12_94) rfl dX12_tape_50 ?_
              refine lv_iload_n hx hb dX12_tape_53 rfl (lv_at hl 1 rfl) ?_
              refine lv_iload_n hx hb dX12_tape_54 rfl (lv_at hl 2 rfl) ?_
              refine lv_if_ge (tgt := 62) hx hb dX12_tape_55 (by decide) (fun c27 => ?_) (fun c27 => ?_)
              · refine lv_iload_n hx hb dX12_tape_62 rfl (lv_at hl 3 rfl) ?_
                refine g_is (j := k) hx hb hK hS (h1 28 _ rfl) rfl (by omega) (Nat.le_of_ble_eq_true rfl) (by omega) dX12_tape_63 (fun H28 locs c29 oq hS => ?_)
                have h1 : gSg G b (gLM G b π (gU (gU μ 2 k sort) 3 k n) f g) H28 := gSg_set h1 28 c29 oq
                refine lv_iconst (v := 0) hx hb dX12_tape_64 (by decide) ?_
                refine lv_istore (lv' := [(4, .int 0), (0, .ref b), (1, .int (nI k)), (2, .int sort), (3, .int n)]) hx hb dX12_tape_65 hl (by decide) rfl (fun ls hl => ?_)
                rw [← gZer_0 g k] at h1
                have loop : ∀ (d j : Nat), j + d = 60 → ∀ (H : Heap) (locs : List Loc), gSg G b (gLM G b π (gU (gU μ 2 k sort) 3 k n) f (gZer g k j)) H → va_S (fun q => b ≤ q ∧ q < b + 30) s.heap H locs → ∀ ls, lv_has ls 5 [(0, .ref b), (1, .int (nI k)), (4, .int (nI j))] → W pp_ l ee_ (gRm 2 42) s mm_ aa_ below meth cc_ H locs 0 0 Q (F0 mm_ 67 ls []) := by
                  intro d
                  induction d with
                  | zero =>
                    intro j hk   H locs h1 hS ls hl
                    have hk : j = 60 := by omega
                    refine lv_iload hx hb dX12_tape_67 (lv_at hl 2 rfl) ?_
                    refine lv_bipush (v := 60) hx hb dX12_tape_69 (by decide) ?_
                    refine lv_icmp_ge (tgt := 93) hx hb dX12_tape_71 (by decide) (fun c30 => ?_) (fun c30 => ?_)
                    · have c30 : 60 ≤ j := (gLe (a := 60) (b := j) rfl rfl (by omega) (by omega)).mp c30
                      refine lv_iconst (v := 1) hx hb dX12_tape_93 (by decide) ?_
                      subst hk
                      rw [← hQ]
                      exact g_iret hx hb hr hlk hS dX12_tape_94 (by rw [show gqTape μ g (nI k) sort n = (1, gU (gU μ 2 k sort) 3 k n, gZer g k 60) from by simp only [gqTape, if_pos c5, if_pos c10, if_neg c11, if_pos c22, if_pos c24, nI_clamp (show k < 2 ^ 31 by omega)] <;> rfl]; exact ⟨rfl, h1⟩)
                    · have c30 : ¬ 60 ≤ j := fun z => c30 ((gLe (a := 60) (b := j) rfl rfl (by omega) (by omega)).mpr z)
                      exact absurd c30 (by omega)
                  | succ d ih =>
                    intro j hk   H locs h1 hS ls hl
                    refine lv_iload hx hb dX12_tape_67 (lv_at hl 2 rfl) ?_
                    refine lv_bipush (v := 60) hx hb dX12_tape_69 (by decide) ?_
                    refine lv_icmp_ge (tgt := 93) hx hb dX12_tape_71 (by decide) (fun c31 => ?_) (fun c31 => ?_)
                    · have c31 : 60 ≤ j := (gLe (a := 60) (b := j) rfl rfl (by omega) (by omega)).mp c31
                      exact absurd c31 (by omega)
                    · have c31 : ¬ 60 ≤ j := fun z => c31 ((gLe (a := 60) (b := j) rfl rfl (by omega) (by omega)).mpr z)
                      refine lv_aload_n hx hb dX12_tape_74 rfl (lv_at hl 0 rfl) ?_
                      refine g_get (v := .ref (b + 29)) (T := TX12) (ci := 12) (N := 45) hx hb hown hK (gY_X12 hT) rfl (h1 0 _ rfl) 44 (by decide) (hT _ gf_X12_97) rfl dX12_tape_75 ?_
                      refine lv_bipush (v := 60) hx hb dX12_tape_78 (by decide) ?_
                      refine lv_iload_n hx hb dX12_tape_80 rfl (lv_at hl 1 rfl) ?_
                      refine lv_imul hx hb dX12_tape_81 ?_
                      refine lv_iload hx hb dX12_tape_82 (lv_at hl 2 rfl) ?_
                      refine lv_iadd hx hb dX12_tape_84 ?_
                      refine lv_lconst (v := 0) hx hb dX12_tape_85 (by decide) ?_
                      refine g_ls (j := (60 * k) + j) hx hb hK hS (h1 29 _ rfl) (gAdd (gMul rfl rfl) rfl) (by omega) (Nat.le_of_ble_eq_true rfl) (by omega) dX12_tape_86 (fun H32 locs c33 oq hS => ?_)
                      have h1 : gSg G b (gLM G b π (gU (gU μ 2 k sort) 3 k n) f (vp_updL (gZer g k j) ((60 * k) + j) 0)) H32 := gSg_set h1 29 c33 oq
                      refine lv_iinc (v := nI (j + 1)) (lv' := [(4, .int (nI (j + 1))), (0, .ref b), (1, .int (nI k))]) hx hb dX12_tape_87 hl (k := 2) rfl (gAdd rfl (show Int32.ofInt 1 = nI 1 from rfl)) (by decide) rfl (fun ls hl => ?_)
                      refine lv_goto (tgt := 67) hx hb dX12_tape_90 (by decide) ?_
                      rw [gZer_s] at h1
                      exact ih (j + 1) (by omega)   _ _ h1 hS _ (by have hl := lv_sub hl [1, 2, 0] rfl; exact hl)
                exact loop (60 - 0) 0 (by first | omega | simp)  _ _ h1 hS _ (lv_sub hl [1, 2, 0] rfl)
              · exact absurd (Int32.not_le.mp c27) c11
            · refine lv_bipush (v := (-14)) hx hb dX12_tape_39 (by decide) ?_
              rw [← hQ]
              exact g_iret hx hb hr hlk hS dX12_tape_41 (by rw [show gqTape μ g (nI k) sort n = ((-14), μ, g) from by simp only [gqTape, if_pos c5, if_pos c10, if_neg c11, if_pos c22, if_neg c24, nI_clamp (show k < 2 ^ 31 by omega)] <;> rfl]; exact ⟨rfl, h1⟩)
        · refine lv_bipush (v := (-2)) hx hb dX12_tape_28 (by decide) ?_
          rw [← hQ]
          exact g_iret hx hb hr hlk hS dX12_tape_30 (by rw [show gqTape μ g (nI k) sort n = ((-2), μ, g) from by simp only [gqTape, if_pos c5, if_pos c10, if_neg c11, if_neg c22, nI_clamp (show k < 2 ^ 31 by omega)] <;> rfl]; exact ⟨rfl, h1⟩)
  · have c5 : ¬ (0 ≤ t ∧ t ≤ 5) := gB_0.mp c5
    refine lv_iconst (v := (-1)) hx hb dX12_tape_7 (by decide) ?_
    rw [← hQ]
    exact g_iret hx hb hr hlk hS dX12_tape_8 (by rw [show gqTape μ g t sort n = ((-1), μ, g) from by simp only [gqTape, if_neg c5] <;> rfl]; exact ⟨rfl, h1⟩)

set_option maxHeartbeats 4000000 in
set_option maxRecDepth 100000 in
theorem c_X12_taken (l : Launch) (G : gW) (b : Nat) (π μ f : gPS) (g : Nat → Int64) (n : Nat) (hz : π 15 0 = nI n) (hn : n ≤ 6) (hki : ∀ k, k < n → ∃ z, z < 7 ∧ π 2 k = nI z) (p k : Int32) : gCI l yX12_taken cX12_taken 4 .int (gRm 2 43) G [.ref b, .int p, .int k] (fun H => gSg G b (gLM G b π μ f g) H) (fun r H => r = gqTaken π p k) (fun _ => False) := by
  refine g_start (by decide) (Nat.le_of_ble_eq_true rfl) ?_
  intro pp_ ee_ s mm_ aa_ below meth cc_ ls Q hQ hX hE hP hl
  obtain ⟨hx, hb, hr, hml, hown, hT, hlk, hnm⟩ := hX
  have hK := hE.2.1
  have h1 := hP
  have hS : va_S (fun _ => False) s.heap s.heap [] := va_S.rf
  have hl : lv_has ls 4 [(0, .ref b), (1, .int p), (2, .int k)] := hl
  refine lv_iload_n hx hb dX12_taken_0 rfl (lv_at hl 2 rfl) ?_
  refine lv_iconst (v := 0) hx hb dX12_taken_1 (by decide) ?_
  refine lv_bipush (v := 6) hx hb dX12_taken_2 (by decide) ?_
  refine g_ki (g_runS (rest := []) hx hb hml hown hE hT (c_X12_within l G k 0 6) gM_X12_within gm_X12_108 gt_X12_within trivial rfl hl.1 ⟨rfl, rfl⟩ ⟨Nat.le_of_ble_eq_true rfl, Nat.le_of_ble_eq_true rfl⟩ ⟨Nat.zero_le _, Nat.zero_le _⟩ rfl (Nat.le_of_ble_eq_true rfl) dX12_taken_4) hS (fun _ h => h.elim) (fun r4 H1 locs q2 k3 hS => ?_)
  subst q2
  have h1 := gSg_free h1 k3 (by intro k hk q; simp only [List.length_cons, List.length_nil] at hk; omega)
  refine lv_if_ne (tgt := 13) hx hb dX12_taken_7 (by decide) (fun c5 => ?_) (fun c5 => ?_)
  · have c5 : 0 ≤ k ∧ k ≤ 6 := gB_1.mp c5
    refine lv_aload_n hx hb dX12_taken_13 rfl (lv_at hl 0 rfl) ?_
    refine lv_iload_n hx hb dX12_taken_14 rfl (lv_at hl 1 rfl) ?_
    refine g_ki (g_runV (T := TX12) (ci := 12) (N := 45) (rest := []) hx hb hml hown hE hT (c_X12_isOne l G b π μ f g n hz (by omega) p) gM_X12_isOne gm_X12_112 gi_X12_isOne gs_RX12_yX12_isOne_yX12_isOne rfl (h1 0 _ rfl) h1 rfl hl.1 ⟨rfl, rfl⟩ ⟨Nat.le_of_ble_eq_true rfl, Nat.le_of_ble_eq_true rfl⟩ ⟨Nat.zero_le _, Nat.zero_le _⟩ rfl (Nat.le_of_ble_eq_true rfl) dX12_taken_15) hS (fun _ h => h.elim) (fun r9 H6 locs q7 k8 hS => ?_)
    subst q7
    have h1 := gSg_free h1 k8 (by intro k hk q; simp only [List.length_cons, List.length_nil] at hk; omega)
    refine lv_if_ne (tgt := 24) hx hb dX12_taken_18 (by decide) (fun c10 => ?_) (fun c10 => ?_)
    · have c10 : 0 ≤ p ∧ p < π 15 0 := gB_1.mp c10
      obtain ⟨j, hj, ej⟩ := gIx hz (by omega) c10
      subst ej
      obtain ⟨z, lz, ez⟩ := hki j hj
      have hz7 : z = 0 ∨ z = 1 ∨ z = 2 ∨ z = 3 ∨ z = 4 ∨ z = 5 ∨ z = 6 := by omega
      have e0 := nI_clamp (show j < 2 ^ 31 by omega)
      rcases hz7 with rfl | rfl | rfl | rfl | rfl | rfl | rfl
      · have ez : π 2 j = 0 := ez
        refine lv_aload_n hx hb dX12_taken_24 rfl (lv_at hl 0 rfl) ?_
        refine g_get (v := .ref (b + 3)) (T := TX12) (ci := 12) (N := 45) hx hb hown hK (gY_X12 hT) rfl (h1 0 _ rfl) 4 (by decide) (hT _ gf_X12_18) rfl dX12_taken_25 ?_
        refine lv_iload_n hx hb dX12_taken_28 rfl (lv_at hl 1 rfl) ?_
        refine g_ia (j := j) (v := 0) hx hb hK (h1 3 _ rfl) rfl (by omega) (Nat.le_of_ble_eq_true rfl) ez dX12_taken_29 ?_
        refine lv_istore_n (lv' := [(3, .int 0), (0, .ref b), (1, .int (nI j)), (2, .int k)]) hx hb dX12_taken_30 rfl hl (by decide) rfl (fun ls hl => ?_)
        refine lv_iload_n hx hb dX12_taken_31 rfl (lv_at hl 0 rfl) ?_
        refine lv_iload_n hx hb dX12_taken_32 rfl (lv_at hl 3 rfl) ?_
        refine lv_icmp_eq (tgt := 48) hx hb dX12_taken_33 (by decide) (fun c11 => ?_) (fun c11 => ?_)
        · refine lv_iload_n hx hb dX12_taken_48 rfl (lv_at hl 0 rfl) ?_
          refine lv_iload_n hx hb dX12_taken_49 rfl (lv_at hl 3 rfl) ?_
          refine lv_icmp_ne (tgt := 62) hx hb dX12_taken_50 (by decide) (fun c12 => ?_) (fun c12 => ?_)
          · exact absurd c11 c12
          · refine lv_aload_n hx hb dX12_taken_53 rfl (lv_at hl 1 rfl) ?_
            refine g_get (v := .ref (b + 3)) (T := TX12) (ci := 12) (N := 45) hx hb hown hK (gY_X12 hT) rfl (h1 0 _ rfl) 4 (by decide) (hT _ gf_X12_18) rfl dX12_taken_54 ?_
            refine lv_iload_n hx hb dX12_taken_57 rfl (lv_at hl 2 rfl) ?_
            refine g_ia (j := j) (v := 0) hx hb hK (h1 3 _ rfl) rfl (by omega) (Nat.le_of_ble_eq_true rfl) ez dX12_taken_58 ?_
            refine lv_goto (tgt := 64) hx hb dX12_taken_59 (by decide) ?_
            rw [← hQ]
            exact g_iret hx hb hr hlk hS dX12_taken_64 (by simp only [gqTaken, if_pos c5, if_pos c10, e0, ez]; rw [if_pos (by first | exact Or.inl c11.symm | exact Or.inr (Or.inl c11.symm) | exact Or.inr (Or.inr (Or.inl ⟨(by first | rfl | trivial), c11.symm⟩)) | exact Or.inr (Or.inr (Or.inr (Or.inl ⟨(by first | rfl | trivial), c11.symm⟩))) | exact Or.inr (Or.inr (Or.inr (Or.inr ⟨(by first | rfl | trivial), c11.symm⟩))))])
        · refine lv_iload_n hx hb dX12_taken_36 rfl (lv_at hl 0 rfl) ?_
          refine lv_if_le (tgt := 48) hx hb dX12_taken_37 (by decide) (fun c13 => ?_) (fun c13 => ?_)
          · refine lv_iload_n hx hb dX12_taken_48 rfl (lv_at hl 0 rfl) ?_
            refine lv_iload_n hx hb dX12_taken_49 rfl (lv_at hl 3 rfl) ?_
            refine lv_icmp_ne (tgt := 62) hx hb dX12_taken_50 (by decide) (fun c14 => ?_) (fun c14 => ?_)
            · refine lv_bipush (v := (-12)) hx hb dX12_taken_62 (by decide) ?_
              rw [← hQ]
              exact g_iret hx hb hr hlk hS dX12_taken_64 (by simp only [gqTaken, if_pos c5, if_pos c10, e0, ez]; rw [if_neg (fun q => by rcases q with q | q | ⟨q, q2⟩ | ⟨q, q2⟩ | ⟨q, q2⟩ <;> first | exact absurd q (by decide) | exact absurd q.symm c11 | exact absurd q2.symm c11)])
            · exact absurd c14 c11
          · exact absurd (by decide) c13
      · have ez : π 2 j = 1 := ez
        refine lv_aload_n hx hb dX12_taken_24 rfl (lv_at hl 0 rfl) ?_
        refine g_get (v := .ref (b + 3)) (T := TX12) (ci := 12) (N := 45) hx hb hown hK (gY_X12 hT) rfl (h1 0 _ rfl) 4 (by decide) (hT _ gf_X12_18) rfl dX12_taken_25 ?_
        refine lv_iload_n hx hb dX12_taken_28 rfl (lv_at hl 1 rfl) ?_
        refine g_ia (j := j) (v := 1) hx hb hK (h1 3 _ rfl) rfl (by omega) (Nat.le_of_ble_eq_true rfl) ez dX12_taken_29 ?_
        refine lv_istore_n (lv' := [(3, .int 1), (0, .ref b), (1, .int (nI j)), (2, .int k)]) hx hb dX12_taken_30 rfl hl (by decide) rfl (fun ls hl => ?_)
        refine lv_iload_n hx hb dX12_taken_31 rfl (lv_at hl 0 rfl) ?_
        refine lv_iload_n hx hb dX12_taken_32 rfl (lv_at hl 3 rfl) ?_
        refine lv_icmp_eq (tgt := 48) hx hb dX12_taken_33 (by decide) (fun c15 => ?_) (fun c15 => ?_)
        · refine lv_iload_n hx hb dX12_taken_48 rfl (lv_at hl 0 rfl) ?_
          refine lv_iload_n hx hb dX12_taken_49 rfl (lv_at hl 3 rfl) ?_
          refine lv_icmp_ne (tgt := 62) hx hb dX12_taken_50 (by decide) (fun c16 => ?_) (fun c16 => ?_)
          · exact absurd c15 c16
          · refine lv_aload_n hx hb dX12_taken_53 rfl (lv_at hl 1 rfl) ?_
            refine g_get (v := .ref (b + 3)) (T := TX12) (ci := 12) (N := 45) hx hb hown hK (gY_X12 hT) rfl (h1 0 _ rfl) 4 (by decide) (hT _ gf_X12_18) rfl dX12_taken_54 ?_
            refine lv_iload_n hx hb dX12_taken_57 rfl (lv_at hl 2 rfl) ?_
            refine g_ia (j := j) (v := 1) hx hb hK (h1 3 _ rfl) rfl (by omega) (Nat.le_of_ble_eq_true rfl) ez dX12_taken_58 ?_
            refine lv_goto (tgt := 64) hx hb dX12_taken_59 (by decide) ?_
            rw [← hQ]
            exact g_iret hx hb hr hlk hS dX12_taken_64 (by simp only [gqTaken, if_pos c5, if_pos c10, e0, ez]; rw [if_pos (by first | exact Or.inl c15.symm | exact Or.inr (Or.inl c15.symm) | exact Or.inr (Or.inr (Or.inl ⟨(by first | rfl | trivial), c15.symm⟩)) | exact Or.inr (Or.inr (Or.inr (Or.inl ⟨(by first | rfl | trivial), c15.symm⟩))) | exact Or.inr (Or.inr (Or.inr (Or.inr ⟨(by first | rfl | trivial), c15.symm⟩))))])
        · refine lv_iload_n hx hb dX12_taken_36 rfl (lv_at hl 0 rfl) ?_
          refine lv_if_le (tgt := 48) hx hb dX12_taken_37 (by decide) (fun c17 => ?_) (fun c17 => ?_)
          · exact absurd c17 (by decide)
          · refine lv_iload_n hx hb dX12_taken_40 rfl (lv_at hl 0 rfl) ?_
            refine g_ki (g_runS (rest := []) hx hb hml hown hE hT (c_X12_above l G 1) gM_X12_above gm_X12_313 gt_X12_above trivial rfl hl.1 ⟨rfl, rfl⟩ ⟨Nat.le_of_ble_eq_true rfl, Nat.le_of_ble_eq_true rfl⟩ ⟨Nat.zero_le _, Nat.zero_le _⟩ rfl (Nat.le_of_ble_eq_true rfl) dX12_taken_41) hS (fun _ h => h.elim) (fun r21 H18 locs q19 k20 hS => ?_)
            subst q19
            have h1 := gSg_free h1 k20 (by intro k hk q; simp only [List.length_cons, List.length_nil] at hk; omega)
            rw [show gAbove 1 = 0 from by decide]
            refine lv_istore_n (lv' := [(3, .int 0), (0, .ref b), (1, .int (nI j)), (2, .int k)]) hx hb dX12_taken_44 rfl hl (by decide) rfl (fun ls hl => ?_)
            refine lv_goto (tgt := 31) hx hb dX12_taken_45 (by decide) ?_
            refine lv_iload_n hx hb dX12_taken_31 rfl (lv_at hl 0 rfl) ?_
            refine lv_iload_n hx hb dX12_taken_32 rfl (lv_at hl 3 rfl) ?_
            refine lv_icmp_eq (tgt := 48) hx hb dX12_taken_33 (by decide) (fun c22 => ?_) (fun c22 => ?_)
            · refine lv_iload_n hx hb dX12_taken_48 rfl (lv_at hl 0 rfl) ?_
              refine lv_iload_n hx hb dX12_taken_49 rfl (lv_at hl 3 rfl) ?_
              refine lv_icmp_ne (tgt := 62) hx hb dX12_taken_50 (by decide) (fun c23 => ?_) (fun c23 => ?_)
              · exact absurd c22 c23
              · refine lv_aload_n hx hb dX12_taken_53 rfl (lv_at hl 1 rfl) ?_
                refine g_get (v := .ref (b + 3)) (T := TX12) (ci := 12) (N := 45) hx hb hown hK (gY_X12 hT) rfl (h1 0 _ rfl) 4 (by decide) (hT _ gf_X12_18) rfl dX12_taken_54 ?_
                refine lv_iload_n hx hb dX12_taken_57 rfl (lv_at hl 2 rfl) ?_
                refine g_ia (j := j) (v := 1) hx hb hK (h1 3 _ rfl) rfl (by omega) (Nat.le_of_ble_eq_true rfl) ez dX12_taken_58 ?_
                refine lv_goto (tgt := 64) hx hb dX12_taken_59 (by decide) ?_
                rw [← hQ]
                exact g_iret hx hb hr hlk hS dX12_taken_64 (by simp only [gqTaken, if_pos c5, if_pos c10, e0, ez]; rw [if_pos (by first | exact Or.inl c22.symm | exact Or.inr (Or.inl c22.symm) | exact Or.inr (Or.inr (Or.inl ⟨(by first | rfl | trivial), c22.symm⟩)) | exact Or.inr (Or.inr (Or.inr (Or.inl ⟨(by first | rfl | trivial), c22.symm⟩))) | exact Or.inr (Or.inr (Or.inr (Or.inr ⟨(by first | rfl | trivial), c22.symm⟩))))])
            · refine lv_iload_n hx hb dX12_taken_36 rfl (lv_at hl 0 rfl) ?_
              refine lv_if_le (tgt := 48) hx hb dX12_taken_37 (by decide) (fun c24 => ?_) (fun c24 => ?_)
              · refine lv_iload_n hx hb dX12_taken_48 rfl (lv_at hl 0 rfl) ?_
                refine lv_iload_n hx hb dX12_taken_49 rfl (lv_at hl 3 rfl) ?_
                refine lv_icmp_ne (tgt := 62) hx hb dX12_taken_50 (by decide) (fun c25 => ?_) (fun c25 => ?_)
                · refine lv_bipush (v := (-12)) hx hb dX12_taken_62 (by decide) ?_
                  rw [← hQ]
                  exact g_iret hx hb hr hlk hS dX12_taken_64 (by simp only [gqTaken, if_pos c5, if_pos c10, e0, ez]; rw [if_neg (fun q => by rcases q with q | q | ⟨q, q2⟩ | ⟨q, q2⟩ | ⟨q, q2⟩ <;> first | exact absurd q (by decide) | exact absurd q.symm c15 | exact absurd q.symm c22 | exact absurd q2.symm c15 | exact absurd q2.symm c22)])
                · exact absurd c25 c22
              · exact absurd (by decide) c24
      · have ez : π 2 j = 2 := ez
        refine lv_aload_n hx hb dX12_taken_24 rfl (lv_at hl 0 rfl) ?_
        refine g_get (v := .ref (b + 3)) (T := TX12) (ci := 12) (N := 45) hx hb hown hK (gY_X12 hT) rfl (h1 0 _ rfl) 4 (by decide) (hT _ gf_X12_18) rfl dX12_taken_25 ?_
        refine lv_iload_n hx hb dX12_taken_28 rfl (lv_at hl 1 rfl) ?_
        refine g_ia (j := j) (v := 2) hx hb hK (h1 3 _ rfl) rfl (by omega) (Nat.le_of_ble_eq_true rfl) ez dX12_taken_29 ?_
        refine lv_istore_n (lv' := [(3, .int 2), (0, .ref b), (1, .int (nI j)), (2, .int k)]) hx hb dX12_taken_30 rfl hl (by decide) rfl (fun ls hl => ?_)
        refine lv_iload_n hx hb dX12_taken_31 rfl (lv_at hl 0 rfl) ?_
        refine lv_iload_n hx hb dX12_taken_32 rfl (lv_at hl 3 rfl) ?_
        refine lv_icmp_eq (tgt := 48) hx hb dX12_taken_33 (by decide) (fun c26 => ?_) (fun c26 => ?_)
        · refine lv_iload_n hx hb dX12_taken_48 rfl (lv_at hl 0 rfl) ?_
          refine lv_iload_n hx hb dX12_taken_49 rfl (lv_at hl 3 rfl) ?_
          refine lv_icmp_ne (tgt := 62) hx hb dX12_taken_50 (by decide) (fun c27 => ?_) (fun c27 => ?_)
          · exact absurd c26 c27
          · refine lv_aload_n hx hb dX12_taken_53 rfl (lv_at hl 1 rfl) ?_
            refine g_get (v := .ref (b + 3)) (T := TX12) (ci := 12) (N := 45) hx hb hown hK (gY_X12 hT) rfl (h1 0 _ rfl) 4 (by decide) (hT _ gf_X12_18) rfl dX12_taken_54 ?_
            refine lv_iload_n hx hb dX12_taken_57 rfl (lv_at hl 2 rfl) ?_
            refine g_ia (j := j) (v := 2) hx hb hK (h1 3 _ rfl) rfl (by omega) (Nat.le_of_ble_eq_true rfl) ez dX12_taken_58 ?_
            refine lv_goto (tgt := 64) hx hb dX12_taken_59 (by decide) ?_
            rw [← hQ]
            exact g_iret hx hb hr hlk hS dX12_taken_64 (by simp only [gqTaken, if_pos c5, if_pos c10, e0, ez]; rw [if_pos (by first | exact Or.inl c26.symm | exact Or.inr (Or.inl c26.symm) | exact Or.inr (Or.inr (Or.inl ⟨(by first | rfl | trivial), c26.symm⟩)) | exact Or.inr (Or.inr (Or.inr (Or.inl ⟨(by first | rfl | trivial), c26.symm⟩))) | exact Or.inr (Or.inr (Or.inr (Or.inr ⟨(by first | rfl | trivial), c26.symm⟩))))])
        · refine lv_iload_n hx hb dX12_taken_36 rfl (lv_at hl 0 rfl) ?_
          refine lv_if_le (tgt := 48) hx hb dX12_taken_37 (by decide) (fun c28 => ?_) (fun c28 => ?_)
          · exact absurd c28 (by decide)
          · refine lv_iload_n hx hb dX12_taken_40 rfl (lv_at hl 0 rfl) ?_
            refine g_ki (g_runS (rest := []) hx hb hml hown hE hT (c_X12_above l G 2) gM_X12_above gm_X12_313 gt_X12_above trivial rfl hl.1 ⟨rfl, rfl⟩ ⟨Nat.le_of_ble_eq_true rfl, Nat.le_of_ble_eq_true rfl⟩ ⟨Nat.zero_le _, Nat.zero_le _⟩ rfl (Nat.le_of_ble_eq_true rfl) dX12_taken_41) hS (fun _ h => h.elim) (fun r32 H29 locs q30 k31 hS => ?_)
            subst q30
            have h1 := gSg_free h1 k31 (by intro k hk q; simp only [List.length_cons, List.length_nil] at hk; omega)
            rw [show gAbove 2 = 0 from by decide]
            refine lv_istore_n (lv' := [(3, .int 0), (0, .ref b), (1, .int (nI j)), (2, .int k)]) hx hb dX12_taken_44 rfl hl (by decide) rfl (fun ls hl => ?_)
            refine lv_goto (tgt := 31) hx hb dX12_taken_45 (by decide) ?_
            refine lv_iload_n hx hb dX12_taken_31 rfl (lv_at hl 0 rfl) ?_
            refine lv_iload_n hx hb dX12_taken_32 rfl (lv_at hl 3 rfl) ?_
            refine lv_icmp_eq (tgt := 48) hx hb dX12_taken_33 (by decide) (fun c33 => ?_) (fun c33 => ?_)
            · refine lv_iload_n hx hb dX12_taken_48 rfl (lv_at hl 0 rfl) ?_
              refine lv_iload_n hx hb dX12_taken_49 rfl (lv_at hl 3 rfl) ?_
              refine lv_icmp_ne (tgt := 62) hx hb dX12_taken_50 (by decide) (fun c34 => ?_) (fun c34 => ?_)
              · exact absurd c33 c34
              · refine lv_aload_n hx hb dX12_taken_53 rfl (lv_at hl 1 rfl) ?_
                refine g_get (v := .ref (b + 3)) (T := TX12) (ci := 12) (N := 45) hx hb hown hK (gY_X12 hT) rfl (h1 0 _ rfl) 4 (by decide) (hT _ gf_X12_18) rfl dX12_taken_54 ?_
                refine lv_iload_n hx hb dX12_taken_57 rfl (lv_at hl 2 rfl) ?_
                refine g_ia (j := j) (v := 2) hx hb hK (h1 3 _ rfl) rfl (by omega) (Nat.le_of_ble_eq_true rfl) ez dX12_taken_58 ?_
                refine lv_goto (tgt := 64) hx hb dX12_taken_59 (by decide) ?_
                rw [← hQ]
                exact g_iret hx hb hr hlk hS dX12_taken_64 (by simp only [gqTaken, if_pos c5, if_pos c10, e0, ez]; rw [if_pos (by first | exact Or.inl c33.symm | exact Or.inr (Or.inl c33.symm) | exact Or.inr (Or.inr (Or.inl ⟨(by first | rfl | trivial), c33.symm⟩)) | exact Or.inr (Or.inr (Or.inr (Or.inl ⟨(by first | rfl | trivial), c33.symm⟩))) | exact Or.inr (Or.inr (Or.inr (Or.inr ⟨(by first | rfl | trivial), c33.symm⟩))))])
            · refine lv_iload_n hx hb dX12_taken_36 rfl (lv_at hl 0 rfl) ?_
              refine lv_if_le (tgt := 48) hx hb dX12_taken_37 (by decide) (fun c35 => ?_) (fun c35 => ?_)
              · refine lv_iload_n hx hb dX12_taken_48 rfl (lv_at hl 0 rfl) ?_
                refine lv_iload_n hx hb dX12_taken_49 rfl (lv_at hl 3 rfl) ?_
                refine lv_icmp_ne (tgt := 62) hx hb dX12_taken_50 (by decide) (fun c36 => ?_) (fun c36 => ?_)
                · refine lv_bipush (v := (-12)) hx hb dX12_taken_62 (by decide) ?_
                  rw [← hQ]
                  exact g_iret hx hb hr hlk hS dX12_taken_64 (by simp only [gqTaken, if_pos c5, if_pos c10, e0, ez]; rw [if_neg (fun q => by rcases q with q | q | ⟨q, q2⟩ | ⟨q, q2⟩ | ⟨q, q2⟩ <;> first | exact absurd q (by decide) | exact absurd q.symm c26 | exact absurd q.symm c33 | exact absurd q2.symm c26 | exact absurd q2.symm c33)])
                · exact absurd c36 c33
              · exact absurd (by decide) c35
      · have ez : π 2 j = 3 := ez
        refine lv_aload_n hx hb dX12_taken_24 rfl (lv_at hl 0 rfl) ?_
        refine g_get (v := .ref (b + 3)) (T := TX12) (ci := 12) (N := 45) hx hb hown hK (gY_X12 hT) rfl (h1 0 _ rfl) 4 (by decide) (hT _ gf_X12_18) rfl dX12_taken_25 ?_
        refine lv_iload_n hx hb dX12_taken_28 rfl (lv_at hl 1 rfl) ?_
        refine g_ia (j := j) (v := 3) hx hb hK (h1 3 _ rfl) rfl (by omega) (Nat.le_of_ble_eq_true rfl) ez dX12_taken_29 ?_
        refine lv_istore_n (lv' := [(3, .int 3), (0, .ref b), (1, .int (nI j)), (2, .int k)]) hx hb dX12_taken_30 rfl hl (by decide) rfl (fun ls hl => ?_)
        refine lv_iload_n hx hb dX12_taken_31 rfl (lv_at hl 0 rfl) ?_
        refine lv_iload_n hx hb dX12_taken_32 rfl (lv_at hl 3 rfl) ?_
        refine lv_icmp_eq (tgt := 48) hx hb dX12_taken_33 (by decide) (fun c37 => ?_) (fun c37 => ?_)
        · refine lv_iload_n hx hb dX12_taken_48 rfl (lv_at hl 0 rfl) ?_
          refine lv_iload_n hx hb dX12_taken_49 rfl (lv_at hl 3 rfl) ?_
          refine lv_icmp_ne (tgt := 62) hx hb dX12_taken_50 (by decide) (fun c38 => ?_) (fun c38 => ?_)
          · exact absurd c37 c38
          · refine lv_aload_n hx hb dX12_taken_53 rfl (lv_at hl 1 rfl) ?_
            refine g_get (v := .ref (b + 3)) (T := TX12) (ci := 12) (N := 45) hx hb hown hK (gY_X12 hT) rfl (h1 0 _ rfl) 4 (by decide) (hT _ gf_X12_18) rfl dX12_taken_54 ?_
            refine lv_iload_n hx hb dX12_taken_57 rfl (lv_at hl 2 rfl) ?_
            refine g_ia (j := j) (v := 3) hx hb hK (h1 3 _ rfl) rfl (by omega) (Nat.le_of_ble_eq_true rfl) ez dX12_taken_58 ?_
            refine lv_goto (tgt := 64) hx hb dX12_taken_59 (by decide) ?_
            rw [← hQ]
            exact g_iret hx hb hr hlk hS dX12_taken_64 (by simp only [gqTaken, if_pos c5, if_pos c10, e0, ez]; rw [if_pos (by first | exact Or.inl c37.symm | exact Or.inr (Or.inl c37.symm) | exact Or.inr (Or.inr (Or.inl ⟨(by first | rfl | trivial), c37.symm⟩)) | exact Or.inr (Or.inr (Or.inr (Or.inl ⟨(by first | rfl | trivial), c37.symm⟩))) | exact Or.inr (Or.inr (Or.inr (Or.inr ⟨(by first | rfl | trivial), c37.symm⟩))))])
        · refine lv_iload_n hx hb dX12_taken_36 rfl (lv_at hl 0 rfl) ?_
          refine lv_if_le (tgt := 48) hx hb dX12_taken_37 (by decide) (fun c39 => ?_) (fun c39 => ?_)
          · exact absurd c39 (by decide)
          · refine lv_iload_n hx hb dX12_taken_40 rfl (lv_at hl 0 rfl) ?_
            refine g_ki (g_runS (rest := []) hx hb hml hown hE hT (c_X12_above l G 3) gM_X12_above gm_X12_313 gt_X12_above trivial rfl hl.1 ⟨rfl, rfl⟩ ⟨Nat.le_of_ble_eq_true rfl, Nat.le_of_ble_eq_true rfl⟩ ⟨Nat.zero_le _, Nat.zero_le _⟩ rfl (Nat.le_of_ble_eq_true rfl) dX12_taken_41) hS (fun _ h => h.elim) (fun r43 H40 locs q41 k42 hS => ?_)
            subst q41
            have h1 := gSg_free h1 k42 (by intro k hk q; simp only [List.length_cons, List.length_nil] at hk; omega)
            rw [show gAbove 3 = 0 from by decide]
            refine lv_istore_n (lv' := [(3, .int 0), (0, .ref b), (1, .int (nI j)), (2, .int k)]) hx hb dX12_taken_44 rfl hl (by decide) rfl (fun ls hl => ?_)
            refine lv_goto (tgt := 31) hx hb dX12_taken_45 (by decide) ?_
            refine lv_iload_n hx hb dX12_taken_31 rfl (lv_at hl 0 rfl) ?_
            refine lv_iload_n hx hb dX12_taken_32 rfl (lv_at hl 3 rfl) ?_
            refine lv_icmp_eq (tgt := 48) hx hb dX12_taken_33 (by decide) (fun c44 => ?_) (fun c44 => ?_)
            · refine lv_iload_n hx hb dX12_taken_48 rfl (lv_at hl 0 rfl) ?_
              refine lv_iload_n hx hb dX12_taken_49 rfl (lv_at hl 3 rfl) ?_
              refine lv_icmp_ne (tgt := 62) hx hb dX12_taken_50 (by decide) (fun c45 => ?_) (fun c45 => ?_)
              · exact absurd c44 c45
              · refine lv_aload_n hx hb dX12_taken_53 rfl (lv_at hl 1 rfl) ?_
                refine g_get (v := .ref (b + 3)) (T := TX12) (ci := 12) (N := 45) hx hb hown hK (gY_X12 hT) rfl (h1 0 _ rfl) 4 (by decide) (hT _ gf_X12_18) rfl dX12_taken_54 ?_
                refine lv_iload_n hx hb dX12_taken_57 rfl (lv_at hl 2 rfl) ?_
                refine g_ia (j := j) (v := 3) hx hb hK (h1 3 _ rfl) rfl (by omega) (Nat.le_of_ble_eq_true rfl) ez dX12_taken_58 ?_
                refine lv_goto (tgt := 64) hx hb dX12_taken_59 (by decide) ?_
                rw [← hQ]
                exact g_iret hx hb hr hlk hS dX12_taken_64 (by simp only [gqTaken, if_pos c5, if_pos c10, e0, ez]; rw [if_pos (by first | exact Or.inl c44.symm | exact Or.inr (Or.inl c44.symm) | exact Or.inr (Or.inr (Or.inl ⟨(by first | rfl | trivial), c44.symm⟩)) | exact Or.inr (Or.inr (Or.inr (Or.inl ⟨(by first | rfl | trivial), c44.symm⟩))) | exact Or.inr (Or.inr (Or.inr (Or.inr ⟨(by first | rfl | trivial), c44.symm⟩))))])
            · refine lv_iload_n hx hb dX12_taken_36 rfl (lv_at hl 0 rfl) ?_
              refine lv_if_le (tgt := 48) hx hb dX12_taken_37 (by decide) (fun c46 => ?_) (fun c46 => ?_)
              · refine lv_iload_n hx hb dX12_taken_48 rfl (lv_at hl 0 rfl) ?_
                refine lv_iload_n hx hb dX12_taken_49 rfl (lv_at hl 3 rfl) ?_
                refine lv_icmp_ne (tgt := 62) hx hb dX12_taken_50 (by decide) (fun c47 => ?_) (fun c47 => ?_)
                · refine lv_bipush (v := (-12)) hx hb dX12_taken_62 (by decide) ?_
                  rw [← hQ]
                  exact g_iret hx hb hr hlk hS dX12_taken_64 (by simp only [gqTaken, if_pos c5, if_pos c10, e0, ez]; rw [if_neg (fun q => by rcases q with q | q | ⟨q, q2⟩ | ⟨q, q2⟩ | ⟨q, q2⟩ <;> first | exact absurd q (by decide) | exact absurd q.symm c37 | exact absurd q.symm c44 | exact absurd q2.symm c37 | exact absurd q2.symm c44)])
                · exact absurd c47 c44
              · exact absurd (by decide) c46
      · have ez : π 2 j = 4 := ez
        refine lv_aload_n hx hb dX12_taken_24 rfl (lv_at hl 0 rfl) ?_
        refine g_get (v := .ref (b + 3)) (T := TX12) (ci := 12) (N := 45) hx hb hown hK (gY_X12 hT) rfl (h1 0 _ rfl) 4 (by decide) (hT _ gf_X12_18) rfl dX12_taken_25 ?_
        refine lv_iload_n hx hb dX12_taken_28 rfl (lv_at hl 1 rfl) ?_
        refine g_ia (j := j) (v := 4) hx hb hK (h1 3 _ rfl) rfl (by omega) (Nat.le_of_ble_eq_true rfl) ez dX12_taken_29 ?_
        refine lv_istore_n (lv' := [(3, .int 4), (0, .ref b), (1, .int (nI j)), (2, .int k)]) hx hb dX12_taken_30 rfl hl (by decide) rfl (fun ls hl => ?_)
        refine lv_iload_n hx hb dX12_taken_31 rfl (lv_at hl 0 rfl) ?_
        refine lv_iload_n hx hb dX12_taken_32 rfl (lv_at hl 3 rfl) ?_
        refine lv_icmp_eq (tgt := 48) hx hb dX12_taken_33 (by decide) (fun c48 => ?_) (fun c48 => ?_)
        · refine lv_iload_n hx hb dX12_taken_48 rfl (lv_at hl 0 rfl) ?_
          refine lv_iload_n hx hb dX12_taken_49 rfl (lv_at hl 3 rfl) ?_
          refine lv_icmp_ne (tgt := 62) hx hb dX12_taken_50 (by decide) (fun c49 => ?_) (fun c49 => ?_)
          · exact absurd c48 c49
          · refine lv_aload_n hx hb dX12_taken_53 rfl (lv_at hl 1 rfl) ?_
            refine g_get (v := .ref (b + 3)) (T := TX12) (ci := 12) (N := 45) hx hb hown hK (gY_X12 hT) rfl (h1 0 _ rfl) 4 (by decide) (hT _ gf_X12_18) rfl dX12_taken_54 ?_
            refine lv_iload_n hx hb dX12_taken_57 rfl (lv_at hl 2 rfl) ?_
            refine g_ia (j := j) (v := 4) hx hb hK (h1 3 _ rfl) rfl (by omega) (Nat.le_of_ble_eq_true rfl) ez dX12_taken_58 ?_
            refine lv_goto (tgt := 64) hx hb dX12_taken_59 (by decide) ?_
            rw [← hQ]
            exact g_iret hx hb hr hlk hS dX12_taken_64 (by simp only [gqTaken, if_pos c5, if_pos c10, e0, ez]; rw [if_pos (by first | exact Or.inl c48.symm | exact Or.inr (Or.inl c48.symm) | exact Or.inr (Or.inr (Or.inl ⟨(by first | rfl | trivial), c48.symm⟩)) | exact Or.inr (Or.inr (Or.inr (Or.inl ⟨(by first | rfl | trivial), c48.symm⟩))) | exact Or.inr (Or.inr (Or.inr (Or.inr ⟨(by first | rfl | trivial), c48.symm⟩))))])
        · refine lv_iload_n hx hb dX12_taken_36 rfl (lv_at hl 0 rfl) ?_
          refine lv_if_le (tgt := 48) hx hb dX12_taken_37 (by decide) (fun c50 => ?_) (fun c50 => ?_)
          · exact absurd c50 (by decide)
          · refine lv_iload_n hx hb dX12_taken_40 rfl (lv_at hl 0 rfl) ?_
            refine g_ki (g_runS (rest := []) hx hb hml hown hE hT (c_X12_above l G 4) gM_X12_above gm_X12_313 gt_X12_above trivial rfl hl.1 ⟨rfl, rfl⟩ ⟨Nat.le_of_ble_eq_true rfl, Nat.le_of_ble_eq_true rfl⟩ ⟨Nat.zero_le _, Nat.zero_le _⟩ rfl (Nat.le_of_ble_eq_true rfl) dX12_taken_41) hS (fun _ h => h.elim) (fun r54 H51 locs q52 k53 hS => ?_)
            subst q52
            have h1 := gSg_free h1 k53 (by intro k hk q; simp only [List.length_cons, List.length_nil] at hk; omega)
            rw [show gAbove 4 = 1 from by decide]
            refine lv_istore_n (lv' := [(3, .int 1), (0, .ref b), (1, .int (nI j)), (2, .int k)]) hx hb dX12_taken_44 rfl hl (by decide) rfl (fun ls hl => ?_)
            refine lv_goto (tgt := 31) hx hb dX12_taken_45 (by decide) ?_
            refine lv_iload_n hx hb dX12_taken_31 rfl (lv_at hl 0 rfl) ?_
            refine lv_iload_n hx hb dX12_taken_32 rfl (lv_at hl 3 rfl) ?_
            refine lv_icmp_eq (tgt := 48) hx hb dX12_taken_33 (by decide) (fun c55 => ?_) (fun c55 => ?_)
            · refine lv_iload_n hx hb dX12_taken_48 rfl (lv_at hl 0 rfl) ?_
              refine lv_iload_n hx hb dX12_taken_49 rfl (lv_at hl 3 rfl) ?_
              refine lv_icmp_ne (tgt := 62) hx hb dX12_taken_50 (by decide) (fun c56 => ?_) (fun c56 => ?_)
              · exact absurd c55 c56
              · refine lv_aload_n hx hb dX12_taken_53 rfl (lv_at hl 1 rfl) ?_
                refine g_get (v := .ref (b + 3)) (T := TX12) (ci := 12) (N := 45) hx hb hown hK (gY_X12 hT) rfl (h1 0 _ rfl) 4 (by decide) (hT _ gf_X12_18) rfl dX12_taken_54 ?_
                refine lv_iload_n hx hb dX12_taken_57 rfl (lv_at hl 2 rfl) ?_
                refine g_ia (j := j) (v := 4) hx hb hK (h1 3 _ rfl) rfl (by omega) (Nat.le_of_ble_eq_true rfl) ez dX12_taken_58 ?_
                refine lv_goto (tgt := 64) hx hb dX12_taken_59 (by decide) ?_
                rw [← hQ]
                exact g_iret hx hb hr hlk hS dX12_taken_64 (by simp only [gqTaken, if_pos c5, if_pos c10, e0, ez]; rw [if_pos (by first | exact Or.inl c55.symm | exact Or.inr (Or.inl c55.symm) | exact Or.inr (Or.inr (Or.inl ⟨(by first | rfl | trivial), c55.symm⟩)) | exact Or.inr (Or.inr (Or.inr (Or.inl ⟨(by first | rfl | trivial), c55.symm⟩))) | exact Or.inr (Or.inr (Or.inr (Or.inr ⟨(by first | rfl | trivial), c55.symm⟩))))])
            · refine lv_iload_n hx hb dX12_taken_36 rfl (lv_at hl 0 rfl) ?_
              refine lv_if_le (tgt := 48) hx hb dX12_taken_37 (by decide) (fun c57 => ?_) (fun c57 => ?_)
              · exact absurd c57 (by decide)
              · refine lv_iload_n hx hb dX12_taken_40 rfl (lv_at hl 0 rfl) ?_
                refine g_ki (g_runS (rest := []) hx hb hml hown hE hT (c_X12_above l G 1) gM_X12_above gm_X12_313 gt_X12_above trivial rfl hl.1 ⟨rfl, rfl⟩ ⟨Nat.le_of_ble_eq_true rfl, Nat.le_of_ble_eq_true rfl⟩ ⟨Nat.zero_le _, Nat.zero_le _⟩ rfl (Nat.le_of_ble_eq_true rfl) dX12_taken_41) hS (fun _ h => h.elim) (fun r61 H58 locs q59 k60 hS => ?_)
                subst q59
                have h1 := gSg_free h1 k60 (by intro k hk q; simp only [List.length_cons, List.length_nil] at hk; omega)
                rw [show gAbove 1 = 0 from by decide]
                refine lv_istore_n (lv' := [(3, .int 0), (0, .ref b), (1, .int (nI j)), (2, .int k)]) hx hb dX12_taken_44 rfl hl (by decide) rfl (fun ls hl => ?_)
                refine lv_goto (tgt := 31) hx hb dX12_taken_45 (by decide) ?_
                refine lv_iload_n hx hb dX12_taken_31 rfl (lv_at hl 0 rfl) ?_
                refine lv_iload_n hx hb dX12_taken_32 rfl (lv_at hl 3 rfl) ?_
                refine lv_icmp_eq (tgt := 48) hx hb dX12_taken_33 (by decide) (fun c62 => ?_) (fun c62 => ?_)
                · refine lv_iload_n hx hb dX12_taken_48 rfl (lv_at hl 0 rfl) ?_
                  refine lv_iload_n hx hb dX12_taken_49 rfl (lv_at hl 3 rfl) ?_
                  refine lv_icmp_ne (tgt := 62) hx hb dX12_taken_50 (by decide) (fun c63 => ?_) (fun c63 => ?_)
                  · exact absurd c62 c63
                  · refine lv_aload_n hx hb dX12_taken_53 rfl (lv_at hl 1 rfl) ?_
                    refine g_get (v := .ref (b + 3)) (T := TX12) (ci := 12) (N := 45) hx hb hown hK (gY_X12 hT) rfl (h1 0 _ rfl) 4 (by decide) (hT _ gf_X12_18) rfl dX12_taken_54 ?_
                    refine lv_iload_n hx hb dX12_taken_57 rfl (lv_at hl 2 rfl) ?_
                    refine g_ia (j := j) (v := 4) hx hb hK (h1 3 _ rfl) rfl (by omega) (Nat.le_of_ble_eq_true rfl) ez dX12_taken_58 ?_
                    refine lv_goto (tgt := 64) hx hb dX12_taken_59 (by decide) ?_
                    rw [← hQ]
                    exact g_iret hx hb hr hlk hS dX12_taken_64 (by simp only [gqTaken, if_pos c5, if_pos c10, e0, ez]; rw [if_pos (by first | exact Or.inl c62.symm | exact Or.inr (Or.inl c62.symm) | exact Or.inr (Or.inr (Or.inl ⟨(by first | rfl | trivial), c62.symm⟩)) | exact Or.inr (Or.inr (Or.inr (Or.inl ⟨(by first | rfl | trivial), c62.symm⟩))) | exact Or.inr (Or.inr (Or.inr (Or.inr ⟨(by first | rfl | trivial), c62.symm⟩))))])
                · refine lv_iload_n hx hb dX12_taken_36 rfl (lv_at hl 0 rfl) ?_
                  refine lv_if_le (tgt := 48) hx hb dX12_taken_37 (by decide) (fun c64 => ?_) (fun c64 => ?_)
                  · refine lv_iload_n hx hb dX12_taken_48 rfl (lv_at hl 0 rfl) ?_
                    refine lv_iload_n hx hb dX12_taken_49 rfl (lv_at hl 3 rfl) ?_
                    refine lv_icmp_ne (tgt := 62) hx hb dX12_taken_50 (by decide) (fun c65 => ?_) (fun c65 => ?_)
                    · refine lv_bipush (v := (-12)) hx hb dX12_taken_62 (by decide) ?_
                      rw [← hQ]
                      exact g_iret hx hb hr hlk hS dX12_taken_64 (by simp only [gqTaken, if_pos c5, if_pos c10, e0, ez]; rw [if_neg (fun q => by rcases q with q | q | ⟨q, q2⟩ | ⟨q, q2⟩ | ⟨q, q2⟩ <;> first | exact absurd q (by decide) | exact absurd q.symm c48 | exact absurd q.symm c55 | exact absurd q.symm c62 | exact absurd q2.symm c48 | exact absurd q2.symm c55 | exact absurd q2.symm c62)])
                    · exact absurd c65 c62
                  · exact absurd (by decide) c64
      · have ez : π 2 j = 5 := ez
        refine lv_aload_n hx hb dX12_taken_24 rfl (lv_at hl 0 rfl) ?_
        refine g_get (v := .ref (b + 3)) (T := TX12) (ci := 12) (N := 45) hx hb hown hK (gY_X12 hT) rfl (h1 0 _ rfl) 4 (by decide) (hT _ gf_X12_18) rfl dX12_taken_25 ?_
        refine lv_iload_n hx hb dX12_taken_28 rfl (lv_at hl 1 rfl) ?_
        refine g_ia (j := j) (v := 5) hx hb hK (h1 3 _ rfl) rfl (by omega) (Nat.le_of_ble_eq_true rfl) ez dX12_taken_29 ?_
        refine lv_istore_n (lv' := [(3, .int 5), (0, .ref b), (1, .int (nI j)), (2, .int k)]) hx hb dX12_taken_30 rfl hl (by decide) rfl (fun ls hl => ?_)
        refine lv_iload_n hx hb dX12_taken_31 rfl (lv_at hl 0 rfl) ?_
        refine lv_iload_n hx hb dX12_taken_32 rfl (lv_at hl 3 rfl) ?_
        refine lv_icmp_eq (tgt := 48) hx hb dX12_taken_33 (by decide) (fun c66 => ?_) (fun c66 => ?_)
        · refine lv_iload_n hx hb dX12_taken_48 rfl (lv_at hl 0 rfl) ?_
          refine lv_iload_n hx hb dX12_taken_49 rfl (lv_at hl 3 rfl) ?_
          refine lv_icmp_ne (tgt := 62) hx hb dX12_taken_50 (by decide) (fun c67 => ?_) (fun c67 => ?_)
          · exact absurd c66 c67
          · refine lv_aload_n hx hb dX12_taken_53 rfl (lv_at hl 1 rfl) ?_
            refine g_get (v := .ref (b + 3)) (T := TX12) (ci := 12) (N := 45) hx hb hown hK (gY_X12 hT) rfl (h1 0 _ rfl) 4 (by decide) (hT _ gf_X12_18) rfl dX12_taken_54 ?_
            refine lv_iload_n hx hb dX12_taken_57 rfl (lv_at hl 2 rfl) ?_
            refine g_ia (j := j) (v := 5) hx hb hK (h1 3 _ rfl) rfl (by omega) (Nat.le_of_ble_eq_true rfl) ez dX12_taken_58 ?_
            refine lv_goto (tgt := 64) hx hb dX12_taken_59 (by decide) ?_
            rw [← hQ]
            exact g_iret hx hb hr hlk hS dX12_taken_64 (by simp only [gqTaken, if_pos c5, if_pos c10, e0, ez]; rw [if_pos (by first | exact Or.inl c66.symm | exact Or.inr (Or.inl c66.symm) | exact Or.inr (Or.inr (Or.inl ⟨(by first | rfl | trivial), c66.symm⟩)) | exact Or.inr (Or.inr (Or.inr (Or.inl ⟨(by first | rfl | trivial), c66.symm⟩))) | exact Or.inr (Or.inr (Or.inr (Or.inr ⟨(by first | rfl | trivial), c66.symm⟩))))])
        · refine lv_iload_n hx hb dX12_taken_36 rfl (lv_at hl 0 rfl) ?_
          refine lv_if_le (tgt := 48) hx hb dX12_taken_37 (by decide) (fun c68 => ?_) (fun c68 => ?_)
          · exact absurd c68 (by decide)
          · refine lv_iload_n hx hb dX12_taken_40 rfl (lv_at hl 0 rfl) ?_
            refine g_ki (g_runS (rest := []) hx hb hml hown hE hT (c_X12_above l G 5) gM_X12_above gm_X12_313 gt_X12_above trivial rfl hl.1 ⟨rfl, rfl⟩ ⟨Nat.le_of_ble_eq_true rfl, Nat.le_of_ble_eq_true rfl⟩ ⟨Nat.zero_le _, Nat.zero_le _⟩ rfl (Nat.le_of_ble_eq_true rfl) dX12_taken_41) hS (fun _ h => h.elim) (fun r72 H69 locs q70 k71 hS => ?_)
            subst q70
            have h1 := gSg_free h1 k71 (by intro k hk q; simp only [List.length_cons, List.length_nil] at hk; omega)
            rw [show gAbove 5 = 2 from by decide]
            refine lv_istore_n (lv' := [(3, .int 2), (0, .ref b), (1, .int (nI j)), (2, .int k)]) hx hb dX12_taken_44 rfl hl (by decide) rfl (fun ls hl => ?_)
            refine lv_goto (tgt := 31) hx hb dX12_taken_45 (by decide) ?_
            refine lv_iload_n hx hb dX12_taken_31 rfl (lv_at hl 0 rfl) ?_
            refine lv_iload_n hx hb dX12_taken_32 rfl (lv_at hl 3 rfl) ?_
            refine lv_icmp_eq (tgt := 48) hx hb dX12_taken_33 (by decide) (fun c73 => ?_) (fun c73 => ?_)
            · refine lv_iload_n hx hb dX12_taken_48 rfl (lv_at hl 0 rfl) ?_
              refine lv_iload_n hx hb dX12_taken_49 rfl (lv_at hl 3 rfl) ?_
              refine lv_icmp_ne (tgt := 62) hx hb dX12_taken_50 (by decide) (fun c74 => ?_) (fun c74 => ?_)
              · exact absurd c73 c74
              · refine lv_aload_n hx hb dX12_taken_53 rfl (lv_at hl 1 rfl) ?_
                refine g_get (v := .ref (b + 3)) (T := TX12) (ci := 12) (N := 45) hx hb hown hK (gY_X12 hT) rfl (h1 0 _ rfl) 4 (by decide) (hT _ gf_X12_18) rfl dX12_taken_54 ?_
                refine lv_iload_n hx hb dX12_taken_57 rfl (lv_at hl 2 rfl) ?_
                refine g_ia (j := j) (v := 5) hx hb hK (h1 3 _ rfl) rfl (by omega) (Nat.le_of_ble_eq_true rfl) ez dX12_taken_58 ?_
                refine lv_goto (tgt := 64) hx hb dX12_taken_59 (by decide) ?_
                rw [← hQ]
                exact g_iret hx hb hr hlk hS dX12_taken_64 (by simp only [gqTaken, if_pos c5, if_pos c10, e0, ez]; rw [if_pos (by first | exact Or.inl c73.symm | exact Or.inr (Or.inl c73.symm) | exact Or.inr (Or.inr (Or.inl ⟨(by first | rfl | trivial), c73.symm⟩)) | exact Or.inr (Or.inr (Or.inr (Or.inl ⟨(by first | rfl | trivial), c73.symm⟩))) | exact Or.inr (Or.inr (Or.inr (Or.inr ⟨(by first | rfl | trivial), c73.symm⟩))))])
            · refine lv_iload_n hx hb dX12_taken_36 rfl (lv_at hl 0 rfl) ?_
              refine lv_if_le (tgt := 48) hx hb dX12_taken_37 (by decide) (fun c75 => ?_) (fun c75 => ?_)
              · exact absurd c75 (by decide)
              · refine lv_iload_n hx hb dX12_taken_40 rfl (lv_at hl 0 rfl) ?_
                refine g_ki (g_runS (rest := []) hx hb hml hown hE hT (c_X12_above l G 2) gM_X12_above gm_X12_313 gt_X12_above trivial rfl hl.1 ⟨rfl, rfl⟩ ⟨Nat.le_of_ble_eq_true rfl, Nat.le_of_ble_eq_true rfl⟩ ⟨Nat.zero_le _, Nat.zero_le _⟩ rfl (Nat.le_of_ble_eq_true rfl) dX12_taken_41) hS (fun _ h => h.elim) (fun r79 H76 locs q77 k78 hS => ?_)
                subst q77
                have h1 := gSg_free h1 k78 (by intro k hk q; simp only [List.length_cons, List.length_nil] at hk; omega)
                rw [show gAbove 2 = 0 from by decide]
                refine lv_istore_n (lv' := [(3, .int 0), (0, .ref b), (1, .int (nI j)), (2, .int k)]) hx hb dX12_taken_44 rfl hl (by decide) rfl (fun ls hl => ?_)
                refine lv_goto (tgt := 31) hx hb dX12_taken_45 (by decide) ?_
                refine lv_iload_n hx hb dX12_taken_31 rfl (lv_at hl 0 rfl) ?_
                refine lv_iload_n hx hb dX12_taken_32 rfl (lv_at hl 3 rfl) ?_
                refine lv_icmp_eq (tgt := 48) hx hb dX12_taken_33 (by decide) (fun c80 => ?_) (fun c80 => ?_)
                · refine lv_iload_n hx hb dX12_taken_48 rfl (lv_at hl 0 rfl) ?_
                  refine lv_iload_n hx hb dX12_taken_49 rfl (lv_at hl 3 rfl) ?_
                  refine lv_icmp_ne (tgt := 62) hx hb dX12_taken_50 (by decide) (fun c81 => ?_) (fun c81 => ?_)
                  · exact absurd c80 c81
                  · refine lv_aload_n hx hb dX12_taken_53 rfl (lv_at hl 1 rfl) ?_
                    refine g_get (v := .ref (b + 3)) (T := TX12) (ci := 12) (N := 45) hx hb hown hK (gY_X12 hT) rfl (h1 0 _ rfl) 4 (by decide) (hT _ gf_X12_18) rfl dX12_taken_54 ?_
                    refine lv_iload_n hx hb dX12_taken_57 rfl (lv_at hl 2 rfl) ?_
                    refine g_ia (j := j) (v := 5) hx hb hK (h1 3 _ rfl) rfl (by omega) (Nat.le_of_ble_eq_true rfl) ez dX12_taken_58 ?_
                    refine lv_goto (tgt := 64) hx hb dX12_taken_59 (by decide) ?_
                    rw [← hQ]
                    exact g_iret hx hb hr hlk hS dX12_taken_64 (by simp only [gqTaken, if_pos c5, if_pos c10, e0, ez]; rw [if_pos (by first | exact Or.inl c80.symm | exact Or.inr (Or.inl c80.symm) | exact Or.inr (Or.inr (Or.inl ⟨(by first | rfl | trivial), c80.symm⟩)) | exact Or.inr (Or.inr (Or.inr (Or.inl ⟨(by first | rfl | trivial), c80.symm⟩))) | exact Or.inr (Or.inr (Or.inr (Or.inr ⟨(by first | rfl | trivial), c80.symm⟩))))])
                · refine lv_iload_n hx hb dX12_taken_36 rfl (lv_at hl 0 rfl) ?_
                  refine lv_if_le (tgt := 48) hx hb dX12_taken_37 (by decide) (fun c82 => ?_) (fun c82 => ?_)
                  · refine lv_iload_n hx hb dX12_taken_48 rfl (lv_at hl 0 rfl) ?_
                    refine lv_iload_n hx hb dX12_taken_49 rfl (lv_at hl 3 rfl) ?_
                    refine lv_icmp_ne (tgt := 62) hx hb dX12_taken_50 (by decide) (fun c83 => ?_) (fun c83 => ?_)
                    · refine lv_bipush (v := (-12)) hx hb dX12_taken_62 (by decide) ?_
                      rw [← hQ]
                      exact g_iret hx hb hr hlk hS dX12_taken_64 (by simp only [gqTaken, if_pos c5, if_pos c10, e0, ez]; rw [if_neg (fun q => by rcases q with q | q | ⟨q, q2⟩ | ⟨q, q2⟩ | ⟨q, q2⟩ <;> first | exact absurd q (by decide) | exact absurd q.symm c66 | exact absurd q.symm c73 | exact absurd q.symm c80 | exact absurd q2.symm c66 | exact absurd q2.symm c73 | exact absurd q2.symm c80)])
                    · exact absurd c83 c80
                  · exact absurd (by decide) c82
      · have ez : π 2 j = 6 := ez
        refine lv_aload_n hx hb dX12_taken_24 rfl (lv_at hl 0 rfl) ?_
        refine g_get (v := .ref (b + 3)) (T := TX12) (ci := 12) (N := 45) hx hb hown hK (gY_X12 hT) rfl (h1 0 _ rfl) 4 (by decide) (hT _ gf_X12_18) rfl dX12_taken_25 ?_
        refine lv_iload_n hx hb dX12_taken_28 rfl (lv_at hl 1 rfl) ?_
        refine g_ia (j := j) (v := 6) hx hb hK (h1 3 _ rfl) rfl (by omega) (Nat.le_of_ble_eq_true rfl) ez dX12_taken_29 ?_
        refine lv_istore_n (lv' := [(3, .int 6), (0, .ref b), (1, .int (nI j)), (2, .int k)]) hx hb dX12_taken_30 rfl hl (by decide) rfl (fun ls hl => ?_)
        refine lv_iload_n hx hb dX12_taken_31 rfl (lv_at hl 0 rfl) ?_
        refine lv_iload_n hx hb dX12_taken_32 rfl (lv_at hl 3 rfl) ?_
        refine lv_icmp_eq (tgt := 48) hx hb dX12_taken_33 (by decide) (fun c84 => ?_) (fun c84 => ?_)
        · refine lv_iload_n hx hb dX12_taken_48 rfl (lv_at hl 0 rfl) ?_
          refine lv_iload_n hx hb dX12_taken_49 rfl (lv_at hl 3 rfl) ?_
          refine lv_icmp_ne (tgt := 62) hx hb dX12_taken_50 (by decide) (fun c85 => ?_) (fun c85 => ?_)
          · exact absurd c84 c85
          · refine lv_aload_n hx hb dX12_taken_53 rfl (lv_at hl 1 rfl) ?_
            refine g_get (v := .ref (b + 3)) (T := TX12) (ci := 12) (N := 45) hx hb hown hK (gY_X12 hT) rfl (h1 0 _ rfl) 4 (by decide) (hT _ gf_X12_18) rfl dX12_taken_54 ?_
            refine lv_iload_n hx hb dX12_taken_57 rfl (lv_at hl 2 rfl) ?_
            refine g_ia (j := j) (v := 6) hx hb hK (h1 3 _ rfl) rfl (by omega) (Nat.le_of_ble_eq_true rfl) ez dX12_taken_58 ?_
            refine lv_goto (tgt := 64) hx hb dX12_taken_59 (by decide) ?_
            rw [← hQ]
            exact g_iret hx hb hr hlk hS dX12_taken_64 (by simp only [gqTaken, if_pos c5, if_pos c10, e0, ez]; rw [if_pos (by first | exact Or.inl c84.symm | exact Or.inr (Or.inl c84.symm) | exact Or.inr (Or.inr (Or.inl ⟨(by first | rfl | trivial), c84.symm⟩)) | exact Or.inr (Or.inr (Or.inr (Or.inl ⟨(by first | rfl | trivial), c84.symm⟩))) | exact Or.inr (Or.inr (Or.inr (Or.inr ⟨(by first | rfl | trivial), c84.symm⟩))))])
        · refine lv_iload_n hx hb dX12_taken_36 rfl (lv_at hl 0 rfl) ?_
          refine lv_if_le (tgt := 48) hx hb dX12_taken_37 (by decide) (fun c86 => ?_) (fun c86 => ?_)
          · exact absurd c86 (by decide)
          · refine lv_iload_n hx hb dX12_taken_40 rfl (lv_at hl 0 rfl) ?_
            refine g_ki (g_runS (rest := []) hx hb hml hown hE hT (c_X12_above l G 6) gM_X12_above gm_X12_313 gt_X12_above trivial rfl hl.1 ⟨rfl, rfl⟩ ⟨Nat.le_of_ble_eq_true rfl, Nat.le_of_ble_eq_true rfl⟩ ⟨Nat.zero_le _, Nat.zero_le _⟩ rfl (Nat.le_of_ble_eq_true rfl) dX12_taken_41) hS (fun _ h => h.elim) (fun r90 H87 locs q88 k89 hS => ?_)
            subst q88
            have h1 := gSg_free h1 k89 (by intro k hk q; simp only [List.length_cons, List.length_nil] at hk; omega)
            rw [show gAbove 6 = 3 from by decide]
            refine lv_istore_n (lv' := [(3, .int 3), (0, .ref b), (1, .int (nI j)), (2, .int k)]) hx hb dX12_taken_44 rfl hl (by decide) rfl (fun ls hl => ?_)
            refine lv_goto (tgt := 31) hx hb dX12_taken_45 (by decide) ?_
            refine lv_iload_n hx hb dX12_taken_31 rfl (lv_at hl 0 rfl) ?_
            refine lv_iload_n hx hb dX12_taken_32 rfl (lv_at hl 3 rfl) ?_
            refine lv_icmp_eq (tgt := 48) hx hb dX12_taken_33 (by decide) (fun c91 => ?_) (fun c91 => ?_)
            · refine lv_iload_n hx hb dX12_taken_48 rfl (lv_at hl 0 rfl) ?_
              refine lv_iload_n hx hb dX12_taken_49 rfl (lv_at hl 3 rfl) ?_
              refine lv_icmp_ne (tgt := 62) hx hb dX12_taken_50 (by decide) (fun c92 => ?_) (fun c92 => ?_)
              · exact absurd c91 c92
              · refine lv_aload_n hx hb dX12_taken_53 rfl (lv_at hl 1 rfl) ?_
                refine g_get (v := .ref (b + 3)) (T := TX12) (ci := 12) (N := 45) hx hb hown hK (gY_X12 hT) rfl (h1 0 _ rfl) 4 (by decide) (hT _ gf_X12_18) rfl dX12_taken_54 ?_
                refine lv_iload_n hx hb dX12_taken_57 rfl (lv_at hl 2 rfl) ?_
                refine g_ia (j := j) (v := 6) hx hb hK (h1 3 _ rfl) rfl (by omega) (Nat.le_of_ble_eq_true rfl) ez dX12_taken_58 ?_
                refine lv_goto (tgt := 64) hx hb dX12_taken_59 (by decide) ?_
                rw [← hQ]
                exact g_iret hx hb hr hlk hS dX12_taken_64 (by simp only [gqTaken, if_pos c5, if_pos c10, e0, ez]; rw [if_pos (by first | exact Or.inl c91.symm | exact Or.inr (Or.inl c91.symm) | exact Or.inr (Or.inr (Or.inl ⟨(by first | rfl | trivial), c91.symm⟩)) | exact Or.inr (Or.inr (Or.inr (Or.inl ⟨(by first | rfl | trivial), c91.symm⟩))) | exact Or.inr (Or.inr (Or.inr (Or.inr ⟨(by first | rfl | trivial), c91.symm⟩))))])
            · refine lv_iload_n hx hb dX12_taken_36 rfl (lv_at hl 0 rfl) ?_
              refine lv_if_le (tgt := 48) hx hb dX12_taken_37 (by decide) (fun c93 => ?_) (fun c93 => ?_)
              · exact absurd c93 (by decide)
              · refine lv_iload_n hx hb dX12_taken_40 rfl (lv_at hl 0 rfl) ?_
                refine g_ki (g_runS (rest := []) hx hb hml hown hE hT (c_X12_above l G 3) gM_X12_above gm_X12_313 gt_X12_above trivial rfl hl.1 ⟨rfl, rfl⟩ ⟨Nat.le_of_ble_eq_true rfl, Nat.le_of_ble_eq_true rfl⟩ ⟨Nat.zero_le _, Nat.zero_le _⟩ rfl (Nat.le_of_ble_eq_true rfl) dX12_taken_41) hS (fun _ h => h.elim) (fun r97 H94 locs q95 k96 hS => ?_)
                subst q95
                have h1 := gSg_free h1 k96 (by intro k hk q; simp only [List.length_cons, List.length_nil] at hk; omega)
                rw [show gAbove 3 = 0 from by decide]
                refine lv_istore_n (lv' := [(3, .int 0), (0, .ref b), (1, .int (nI j)), (2, .int k)]) hx hb dX12_taken_44 rfl hl (by decide) rfl (fun ls hl => ?_)
                refine lv_goto (tgt := 31) hx hb dX12_taken_45 (by decide) ?_
                refine lv_iload_n hx hb dX12_taken_31 rfl (lv_at hl 0 rfl) ?_
                refine lv_iload_n hx hb dX12_taken_32 rfl (lv_at hl 3 rfl) ?_
                refine lv_icmp_eq (tgt := 48) hx hb dX12_taken_33 (by decide) (fun c98 => ?_) (fun c98 => ?_)
                · refine lv_iload_n hx hb dX12_taken_48 rfl (lv_at hl 0 rfl) ?_
                  refine lv_iload_n hx hb dX12_taken_49 rfl (lv_at hl 3 rfl) ?_
                  refine lv_icmp_ne (tgt := 62) hx hb dX12_taken_50 (by decide) (fun c99 => ?_) (fun c99 => ?_)
                  · exact absurd c98 c99
                  · refine lv_aload_n hx hb dX12_taken_53 rfl (lv_at hl 1 rfl) ?_
                    refine g_get (v := .ref (b + 3)) (T := TX12) (ci := 12) (N := 45) hx hb hown hK (gY_X12 hT) rfl (h1 0 _ rfl) 4 (by decide) (hT _ gf_X12_18) rfl dX12_taken_54 ?_
                    refine lv_iload_n hx hb dX12_taken_57 rfl (lv_at hl 2 rfl) ?_
                    refine g_ia (j := j) (v := 6) hx hb hK (h1 3 _ rfl) rfl (by omega) (Nat.le_of_ble_eq_true rfl) ez dX12_taken_58 ?_
                    refine lv_goto (tgt := 64) hx hb dX12_taken_59 (by decide) ?_
                    rw [← hQ]
                    exact g_iret hx hb hr hlk hS dX12_taken_64 (by simp only [gqTaken, if_pos c5, if_pos c10, e0, ez]; rw [if_pos (by first | exact Or.inl c98.symm | exact Or.inr (Or.inl c98.symm) | exact Or.inr (Or.inr (Or.inl ⟨(by first | rfl | trivial), c98.symm⟩)) | exact Or.inr (Or.inr (Or.inr (Or.inl ⟨(by first | rfl | trivial), c98.symm⟩))) | exact Or.inr (Or.inr (Or.inr (Or.inr ⟨(by first | rfl | trivial), c98.symm⟩))))])
                · refine lv_iload_n hx hb dX12_taken_36 rfl (lv_at hl 0 rfl) ?_
                  refine lv_if_le (tgt := 48) hx hb dX12_taken_37 (by decide) (fun c100 => ?_) (fun c100 => ?_)
                  · refine lv_iload_n hx hb dX12_taken_48 rfl (lv_at hl 0 rfl) ?_
                    refine lv_iload_n hx hb dX12_taken_49 rfl (lv_at hl 3 rfl) ?_
                    refine lv_icmp_ne (tgt := 62) hx hb dX12_taken_50 (by decide) (fun c101 => ?_) (fun c101 => ?_)
                    · refine lv_bipush (v := (-12)) hx hb dX12_taken_62 (by decide) ?_
                      rw [← hQ]
                      exact g_iret hx hb hr hlk hS dX12_taken_64 (by simp only [gqTaken, if_pos c5, if_pos c10, e0, ez]; rw [if_neg (fun q => by rcases q with q | q | ⟨q, q2⟩ | ⟨q, q2⟩ | ⟨q, q2⟩ <;> first | exact absurd q (by decide) | exact absurd q.symm c84 | exact absurd q.symm c91 | exact absurd q.symm c98 | exact absurd q2.symm c84 | exact absurd q2.symm c91 | exact absurd q2.symm c98)])
                    · exact absurd c101 c98
                  · exact absurd (by decide) c100
    · have c10 : ¬ (0 ≤ p ∧ p < π 15 0) := gB_0.mp c10
      refine lv_bipush (v := (-11)) hx hb dX12_taken_21 (by decide) ?_
      rw [← hQ]
      exact g_iret hx hb hr hlk hS dX12_taken_23 (by simp only [gqTaken, if_pos c5, if_neg c10])
  · have c5 : ¬ (0 ≤ k ∧ k ≤ 6) := gB_0.mp c5
    refine lv_bipush (v := (-2)) hx hb dX12_taken_10 (by decide) ?_
    rw [← hQ]
    exact g_iret hx hb hr hlk hS dX12_taken_12 (by simp only [gqTaken, if_neg c5])

set_option maxHeartbeats 4000000 in
set_option maxRecDepth 100000 in
theorem c_X12_judge (l : Launch) (G : gW) (b : Nat) (π μ f : gPS) (g : Nat → Int64) (hzs : ∀ k, k < 6 → ∃ z, z ≤ 60 ∧ μ 3 k = nI z) (t i : Int32) : gCI l yX12_judge cX12_judge 4 .int (gRm 1 22) G [.ref b, .int t, .int i] (fun H => gSg G b (gLM G b π μ f g) H) (fun r H => r = gqJudge π μ g t i) (fun _ => False) := by
  refine g_start (by decide) (Nat.le_of_ble_eq_true rfl) ?_
  intro pp_ ee_ s mm_ aa_ below meth cc_ ls Q hQ hX hE hP hl
  obtain ⟨hx, hb, hr, hml, hown, hT, hlk, hnm⟩ := hX
  have hK := hE.2.1
  have h1 := hP
  have hS : va_S (fun _ => False) s.heap s.heap [] := va_S.rf
  have hl : lv_has ls 4 [(0, .ref b), (1, .int t), (2, .int i)] := hl
  refine lv_iload_n hx hb dX12_judge_0 rfl (lv_at hl 1 rfl) ?_
  refine lv_iconst (v := 0) hx hb dX12_judge_1 (by decide) ?_
  refine lv_iconst (v := 5) hx hb dX12_judge_2 (by decide) ?_
  refine g_ki (g_runS (rest := []) hx hb hml hown hE hT (c_X12_within l G t 0 5) gM_X12_within gm_X12_108 gt_X12_within trivial rfl hl.1 ⟨rfl, rfl⟩ ⟨Nat.le_of_ble_eq_true rfl, Nat.le_of_ble_eq_true rfl⟩ ⟨Nat.zero_le _, Nat.zero_le _⟩ rfl (Nat.le_of_ble_eq_true rfl) dX12_judge_3) hS (fun _ h => h.elim) (fun r4 H1 locs q2 k3 hS => ?_)
  subst q2
  have h1 := gSg_free h1 k3 (by intro k hk q; simp only [List.length_cons, List.length_nil] at hk; omega)
  refine lv_if_ne (tgt := 11) hx hb dX12_judge_6 (by decide) (fun c5 => ?_) (fun c5 => ?_)
  · have c5 : 0 ≤ t ∧ t ≤ 5 := gB_1.mp c5
    obtain ⟨k, hk, ek⟩ := gIw (M := 5) (n := 5) rfl (by decide) c5
    subst ek
    obtain ⟨z, lz, ez⟩ := hzs k (by omega)
    refine lv_aload_n hx hb dX12_judge_11 rfl (lv_at hl 0 rfl) ?_
    refine g_get (v := .ref (b + 27)) (T := TX12) (ci := 12) (N := 45) hx hb hown hK (gY_X12 hT) rfl (h1 0 _ rfl) 42 (by decide) (hT _ gf_X12_91) rfl dX12_judge_12 ?_
    refine lv_iload_n hx hb dX12_judge_15 rfl (lv_at hl 1 rfl) ?_
    refine g_ia (j := k) (v := μ 2 k) hx hb hK (h1 27 _ rfl) rfl (by omega) (Nat.le_of_ble_eq_true rfl) rfl dX12_judge_16 ?_
    refine lv_iconst (v := (-1)) hx hb dX12_judge_17 (by decide) ?_
    refine lv_icmp_eq (tgt := 34) hx hb dX12_judge_18 (by decide) (fun c6 => ?_) (fun c6 => ?_)
    · refine lv_iconst (v := 0) hx hb dX12_judge_34 (by decide) ?_
      refine lv_istore_n (lv' := [(3, .int 0), (0, .ref b), (1, .int (nI k)), (2, .int i)]) hx hb dX12_judge_35 rfl hl (by decide) rfl (fun ls hl => ?_)
      refine lv_iload_n hx hb dX12_judge_36 rfl (lv_at hl 0 rfl) ?_
      refine lv_bipush (v := 12) hx hb dX12_judge_37 (by decide) ?_
      refine lv_icmp_ge (tgt := 109) hx hb dX12_judge_39 (by decide) (fun c7 => ?_) (fun c7 => ?_)
      · exact absurd c7 (by decide)
      · refine lv_aload_n hx hb dX12_judge_42 rfl (lv_at hl 1 rfl) ?_
        refine g_get (v := .ref (b + 27)) (T := TX12) (ci := 12) (N := 45) hx hb hown hK (gY_X12 hT) rfl (h1 0 _ rfl) 42 (by decide) (hT _ gf_X12_91) rfl dX12_judge_43 ?_
        refine lv_iload_n hx hb dX12_judge_46 rfl (lv_at hl 2 rfl) ?_
        refine g_ia (j := k) (v := μ 2 k) hx hb hK (h1 27 _ rfl) rfl (by omega) (Nat.le_of_ble_eq_true rfl) rfl dX12_judge_47 ?_
        refine lv_iconst (v := (-1)) hx hb dX12_judge_48 (by decide) ?_
        refine lv_icmp_eq (tgt := 72) hx hb dX12_judge_49 (by decide) (fun c8 => ?_) (fun c8 => ?_)
        · refine lv_bipush (v := 100) hx hb dX12_judge_72 (by decide) ?_
          refine lv_iload_n hx hb dX12_judge_74 rfl (lv_at hl 0 rfl) ?_
          refine lv_iadd hx hb dX12_judge_75 ?_
          rw [← hQ]
          exact g_iret hx hb hr hlk hS dX12_judge_76 (by simp only [gqJudge, if_pos c5, if_pos c6, nI_clamp (show k < 2 ^ 31 by omega)] <;> rfl)
        · exact absurd c6 c8
    · refine lv_aload_n hx hb dX12_judge_21 rfl (lv_at hl 0 rfl) ?_
      refine g_get (v := .ref (b + 27)) (T := TX12) (ci := 12) (N := 45) hx hb hown hK (gY_X12 hT) rfl (h1 0 _ rfl) 42 (by decide) (hT _ gf_X12_91) rfl dX12_judge_22 ?_
      refine lv_iload_n hx hb dX12_judge_25 rfl (lv_at hl 1 rfl) ?_
      refine g_ia (j := k) (v := μ 2 k) hx hb hK (h1 27 _ rfl) rfl (by omega) (Nat.le_of_ble_eq_true rfl) rfl dX12_judge_26 ?_
      refine lv_iconst (v := 2) hx hb dX12_judge_27 (by decide) ?_
      refine lv_icmp_eq (tgt := 34) hx hb dX12_judge_28 (by decide) (fun c9 => ?_) (fun c9 => ?_)
      · refine lv_iconst (v := 0) hx hb dX12_judge_34 (by decide) ?_
        refine lv_istore_n (lv' := [(3, .int 0), (0, .ref b), (1, .int (nI k)), (2, .int i)]) hx hb dX12_judge_35 rfl hl (by decide) rfl (fun ls hl => ?_)
        by_cases c10 : i < 0
        · refine lv_iload_n hx hb dX12_judge_36 rfl (lv_at hl 0 rfl) ?_
          refine lv_bipush (v := 12) hx hb dX12_judge_37 (by decide) ?_
          refine lv_icmp_ge (tgt := 109) hx hb dX12_judge_39 (by decide) (fun c11 => ?_) (fun c11 => ?_)
          · exact absurd c11 (by decide)
          · refine lv_aload_n hx hb dX12_judge_42 rfl (lv_at hl 1 rfl) ?_
            refine g_get (v := .ref (b + 27)) (T := TX12) (ci := 12) (N := 45) hx hb hown hK (gY_X12 hT) rfl (h1 0 _ rfl) 42 (by decide) (hT _ gf_X12_91) rfl dX12_judge_43 ?_
            refine lv_iload_n hx hb dX12_judge_46 rfl (lv_at hl 2 rfl) ?_
            refine g_ia (j := k) (v := μ 2 k) hx hb hK (h1 27 _ rfl) rfl (by omega) (Nat.le_of_ble_eq_true rfl) rfl dX12_judge_47 ?_
            refine lv_iconst (v := (-1)) hx hb dX12_judge_48 (by decide) ?_
            refine lv_icmp_eq (tgt := 72) hx hb dX12_judge_49 (by decide) (fun c12 => ?_) (fun c12 => ?_)
            · exact absurd c12 c6
            · refine lv_iload_n hx hb dX12_judge_52 rfl (lv_at hl 3 rfl) ?_
              refine lv_if_lt (tgt := 72) hx hb dX12_judge_53 (by decide) (fun c13 => ?_) (fun c13 => ?_)
              · refine lv_bipush (v := 100) hx hb dX12_judge_72 (by decide) ?_
                refine lv_iload_n hx hb dX12_judge_74 rfl (lv_at hl 0 rfl) ?_
                refine lv_iadd hx hb dX12_judge_75 ?_
                rw [← hQ]
                exact g_iret hx hb hr hlk hS dX12_judge_76 (by simp only [gqJudge, if_pos c5, if_neg c6, if_pos c9, if_pos c10, nI_clamp (show k < 2 ^ 31 by omega)] <;> rfl)
              · exact absurd c10 c13
        · obtain ⟨j, hj, ej⟩ := nI_of c10
          subst ej
          have loop : ∀ (d w : Nat), w + d = 12 → gJud μ g π k j 0 12 = gJud μ g π k j w d → ∀ ls, lv_has ls 4 [(0, .ref b), (1, .int (nI k)), (2, .int (nI j)), (3, .int (nI w))] → W pp_ l ee_ (gRm 1 22) s mm_ aa_ below meth cc_ H1 locs 0 0 Q (F0 mm_ 36 ls []) := by
            intro d
            induction d with
            | zero =>
              intro w hk  hi ls hl
              have hk : w = 12 := by omega
              refine lv_iload_n hx hb dX12_judge_36 rfl (lv_at hl 3 rfl) ?_
              refine lv_bipush (v := 12) hx hb dX12_judge_37 (by decide) ?_
              refine lv_icmp_ge (tgt := 109) hx hb dX12_judge_39 (by decide) (fun c14 => ?_) (fun c14 => ?_)
              · have c14 : 12 ≤ w := (gLe (a := 12) (b := w) rfl rfl (by omega) (by omega)).mp c14
                refine lv_bipush (v := (-5)) hx hb dX12_judge_109 (by decide) ?_
                rw [← hQ]
                exact g_iret hx hb hr hlk hS dX12_judge_111 (by simp only [gqJudge, if_pos c5, if_neg c6, if_pos c9, if_neg c10, nI_clamp (show k < 2 ^ 31 by omega), nI_clamp (show j < 2 ^ 31 by omega)]; rw [hi, gJud])
              · have c14 : ¬ 12 ≤ w := fun z => c14 ((gLe (a := 12) (b := w) rfl rfl (by omega) (by omega)).mpr z)
                exact absurd c14 (by omega)
            | succ d ih =>
              intro w hk  hi ls hl
              refine lv_iload_n hx hb dX12_judge_36 rfl (lv_at hl 3 rfl) ?_
              refine lv_bipush (v := 12) hx hb dX12_judge_37 (by decide) ?_
              refine lv_icmp_ge (tgt := 109) hx hb dX12_judge_39 (by decide) (fun c15 => ?_) (fun c15 => ?_)
              · have c15 : 12 ≤ w := (gLe (a := 12) (b := w) rfl rfl (by omega) (by omega)).mp c15
                exact absurd c15 (by omega)
              · have c15 : ¬ 12 ≤ w := fun z => c15 ((gLe (a := 12) (b := w) rfl rfl (by omega) (by omega)).mpr z)
                refine lv_aload_n hx hb dX12_judge_42 rfl (lv_at hl 0 rfl) ?_
                refine g_get (v := .ref (b + 27)) (T := TX12) (ci := 12) (N := 45) hx hb hown hK (gY_X12 hT) rfl (h1 0 _ rfl) 42 (by decide) (hT _ gf_X12_91) rfl dX12_judge_43 ?_
                refine lv_iload_n hx hb dX12_judge_46 rfl (lv_at hl 1 rfl) ?_
                refine g_ia (j := k) (v := μ 2 k) hx hb hK (h1 27 _ rfl) rfl (by omega) (Nat.le_of_ble_eq_true rfl) rfl dX12_judge_47 ?_
                refine lv_iconst (v := (-1)) hx hb dX12_judge_48 (by decide) ?_
                refine lv_icmp_eq (tgt := 72) hx hb dX12_judge_49 (by decide) (fun c16 => ?_) (fun c16 => ?_)
                · exact absurd c16 c6
                · refine lv_iload_n hx hb dX12_judge_52 rfl (lv_at hl 2 rfl) ?_
                  refine lv_if_lt (tgt := 72) hx hb dX12_judge_53 (by decide) (fun c17 => ?_) (fun c17 => ?_)
                  · have c17 : j < 0 := (gLt (a := j) (b := 0) rfl rfl (by omega) (by omega)).mp c17
                    exact absurd c17 (by omega)
                  · have c17 : ¬ j < 0 := fun z => c17 ((gLt (a := j) (b := 0) rfl rfl (by omega) (by omega)).mpr z)
                    refine lv_iload_n hx hb dX12_judge_56 rfl (lv_at hl 2 rfl) ?_
                    refine lv_i2l hx hb dX12_judge_57 rfl ?_
                    refine lv_iload_n hx hb dX12_judge_58 rfl (lv_at hl 3 rfl) ?_
                    refine lv_i2l hx hb dX12_judge_59 rfl ?_
                    refine lv_ladd hx hb dX12_judge_60 ?_
                    refine lv_aload_n hx hb dX12_judge_61 rfl (lv_at hl 0 rfl) ?_
                    refine g_get (v := .ref (b + 28)) (T := TX12) (ci := 12) (N := 45) hx hb hown hK (gY_X12 hT) rfl (h1 0 _ rfl) 43 (by decide) (hT _ gf_X12_94) rfl dX12_judge_62 ?_
                    refine lv_iload_n hx hb dX12_judge_65 rfl (lv_at hl 1 rfl) ?_
                    refine g_ia (j := k) (v := μ 3 k) hx hb hK (h1 28 _ rfl) rfl (by omega) (Nat.le_of_ble_eq_true rfl) rfl dX12_judge_66 ?_
                    refine lv_i2l hx hb dX12_judge_67 rfl ?_
                    refine W.lcmp hx hb dX12_judge_68 ?_
                    refine lv_if_lt (tgt := 77) hx hb dX12_judge_69 (by decide) (fun c18 => ?_) (fun c18 => ?_)
                    · rw [lg_cmp_lt, nI_l (by omega), nI_l (by omega), lN_add, ez, nI_l (by omega), lN_lt9 (by omega) (by omega)] at c18
                      refine lv_aload_n hx hb dX12_judge_77 rfl (lv_at hl 0 rfl) ?_
                      refine g_get (v := .ref (b + 29)) (T := TX12) (ci := 12) (N := 45) hx hb hown hK (gY_X12 hT) rfl (h1 0 _ rfl) 44 (by decide) (hT _ gf_X12_97) rfl dX12_judge_78 ?_
                      refine lv_bipush (v := 60) hx hb dX12_judge_81 (by decide) ?_
                      refine lv_iload_n hx hb dX12_judge_83 rfl (lv_at hl 1 rfl) ?_
                      refine lv_imul hx hb dX12_judge_84 ?_
                      refine lv_iload_n hx hb dX12_judge_85 rfl (lv_at hl 2 rfl) ?_
                      refine lv_iadd hx hb dX12_judge_86 ?_
                      refine lv_iload_n hx hb dX12_judge_87 rfl (lv_at hl 3 rfl) ?_
                      refine lv_iadd hx hb dX12_judge_88 ?_
                      refine g_la (j := ((60 * k) + j) + w) (v := g (((60 * k) + j) + w)) hx hb hK (h1 29 _ rfl) (gAdd (gAdd (gMul rfl rfl) rfl) rfl) (by omega) (Nat.le_of_ble_eq_true rfl) rfl dX12_judge_89 ?_
                      refine lv_aload_n hx hb dX12_judge_90 rfl (lv_at hl 0 rfl) ?_
                      refine g_get (v := .ref (b + 1)) (T := TX12) (ci := 12) (N := 45) hx hb hown hK (gY_X12 hT) rfl (h1 0 _ rfl) 0 (by decide) (hT _ gf_X12_9) rfl dX12_judge_91 ?_
                      refine lv_iload_n hx hb dX12_judge_94 rfl (lv_at hl 3 rfl) ?_
                      refine g_ia (j := w) (v := π 0 w) hx hb hK (h1 1 _ rfl) rfl (by omega) (Nat.le_of_ble_eq_true rfl) rfl dX12_judge_95 ?_
                      refine lv_i2l hx hb dX12_judge_96 rfl ?_
                      refine W.lcmp hx hb dX12_judge_97 ?_
                      refine lv_if_eq (tgt := 103) hx hb dX12_judge_98 (by decide) (fun c19 => ?_) (fun c19 => ?_)
                      · rw [lg_cmp_eq] at c19
                        refine lv_iinc (v := nI (w + 1)) (lv' := [(3, .int (nI (w + 1))), (0, .ref b), (1, .int (nI k)), (2, .int (nI j))]) hx hb dX12_judge_103 hl (k := 3) rfl (gAdd rfl (show Int32.ofInt 1 = nI 1 from rfl)) (by decide) rfl (fun ls hl => ?_)
                        refine lv_goto (tgt := 36) hx hb dX12_judge_106 (by decide) ?_
                        exact ih (w + 1) (by omega)  (by rw [hi, gJud, if_pos (show j + w < (μ 3 k).toNatClampNeg from by rw [ez, nI_clamp (by omega)]; exact c18), if_pos c19]) _ (by have hl := lv_sub hl [1, 2, 3, 0] rfl; exact hl)
                      · rw [lg_cmp_eq] at c19
                        refine lv_iload_n hx hb dX12_judge_101 rfl (lv_at hl 3 rfl) ?_
                        rw [← hQ]
                        exact g_iret hx hb hr hlk hS dX12_judge_102 (by simp only [gqJudge, if_pos c5, if_neg c6, if_pos c9, if_neg c10, nI_clamp (show k < 2 ^ 31 by omega), nI_clamp (show j < 2 ^ 31 by omega)]; rw [hi, gJud, show (μ 3 k).toNatClampNeg = z from by rw [ez]; exact nI_clamp (by omega), if_pos c18, if_neg c19])
                    · rw [lg_cmp_lt, nI_l (by omega), nI_l (by omega), lN_add, ez, nI_l (by omega), lN_lt9 (by omega) (by omega)] at c18
                      refine lv_bipush (v := 100) hx hb dX12_judge_72 (by decide) ?_
                      refine lv_iload_n hx hb dX12_judge_74 rfl (lv_at hl 3 rfl) ?_
                      refine lv_iadd hx hb dX12_judge_75 ?_
                      rw [← hQ]
                      exact g_iret hx hb hr hlk hS dX12_judge_76 (by simp only [gqJudge, if_pos c5, if_neg c6, if_pos c9, if_neg c10, nI_clamp (show k < 2 ^ 31 by omega), nI_clamp (show j < 2 ^ 31 by omega)]; rw [hi, gJud, show (μ 3 k).toNatClampNeg = z from by rw [ez]; exact nI_clamp (by omega), if_neg c18]; exact gAdd rfl rfl)
          exact loop (12 - 0) 0 (by first | omega | simp) rfl _ (lv_sub hl [1, 2, 3, 0] rfl)
      · refine lv_bipush (v := (-12)) hx hb dX12_judge_31 (by decide) ?_
        rw [← hQ]
        exact g_iret hx hb hr hlk hS dX12_judge_33 (by simp only [gqJudge, if_pos c5, if_neg c6, if_neg c9, nI_clamp (show k < 2 ^ 31 by omega)])
  · have c5 : ¬ (0 ≤ t ∧ t ≤ 5) := gB_0.mp c5
    refine lv_iconst (v := (-1)) hx hb dX12_judge_9 (by decide) ?_
    rw [← hQ]
    exact g_iret hx hb hr hlk hS dX12_judge_10 (by simp only [gqJudge, if_neg c5])
