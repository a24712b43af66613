set_option maxHeartbeats 4000000 in
set_option maxRecDepth 100000 in
theorem c_X12_keep_9 (l : Launch) (G : gW) (b : Nat) (π μ f : gPS) (g : Nat → Int64) : gCV l yX12_keep cX12_keep 3 (gRm 0 0) G [.ref b, .ref (b + 25)] (fun H => gSg G b (gLM G b π μ f g) H) (fun H => gSg G b (gLM G b π μ (gR f 9 (gEn π)) g) H) (fun q => q = b + 25) := by
  refine g_start (by decide) (Nat.le_of_ble_eq_true rfl) ?_
  intro pp_ ee_ s mm_ aa_ below meth cc_ ls Q hQ hX hE hP hl
  obtain ⟨hx, hb, hr, hml, hown, hT, hlk, hnm⟩ := hX
  have hK := hE.2.1
  have h1 := hP
  have hS : va_S (fun q => q = b + 25) s.heap s.heap [] := va_S.rf
  have hl : lv_has ls 3 [(0, .ref b), (1, .ref (b + 25))] := hl
  have h1 : gSg G b (gLM G b π μ (gR f 9 (f 9)) g) s.heap := h1
  have hF0 : gAgr (fun j => j < 0) (f 9) (gEn π) := fun j hj => absurd hj (by omega)
  refine lv_iconst (v := 0) hx hb dX12_keep_0 (by decide) ?_
  refine lv_istore_n (lv' := [(2, .int 0), (0, .ref b), (1, .ref (b + 25))]) hx hb dX12_keep_1 rfl hl (by decide) rfl (fun ls hl => ?_)
  have loop0 : ∀ (d k : Nat), k + d = 12 → ∀ (F : Nat → Int32), gAgr (fun j => (0 ≤ j ∧ j < 0 + k) ∨ (12 ≤ j ∧ j < 12 + k)) F (gEn π) → ∀ (H : Heap) (locs : List Loc), gSg G b (gLM G b π μ (gR f 9 F) g) H → va_S (fun q => q = b + 25) s.heap H locs → ∀ ls, lv_has ls 3 [(0, .ref b), (1, .ref (b + 25)), (2, .int (nI k))] → W pp_ l ee_ (gRm 0 0) s mm_ aa_ below meth cc_ H locs 0 0 Q (F0 mm_ 2 ls []) := by
    intro d
    induction d with
    | zero =>
      intro k hk F hF H locs h1 hS ls hl
      have hk : k = 12 := by omega
      refine lv_iload_n hx hb dX12_keep_2 rfl (lv_at hl 2 rfl) ?_
      refine lv_bipush (v := 12) hx hb dX12_keep_3 (by decide) ?_
      refine lv_icmp_ge (tgt := 35) hx hb dX12_keep_5 (by decide) (fun c1 => ?_) (fun c1 => ?_)
      · have c1 : 12 ≤ k := (gLe (a := 12) (b := k) rfl rfl (by omega) (by omega)).mp c1
        rw [hk] at hF
        refine lv_iconst (v := 0) hx hb dX12_keep_35 (by decide) ?_
        refine lv_istore_n (lv' := [(2, .int 0), (0, .ref b), (1, .ref (b + 25))]) hx hb dX12_keep_36 rfl hl (by decide) rfl (fun ls hl => ?_)
        have loop1 : ∀ (d k : Nat), k + d = 6 → ∀ (F : Nat → Int32), gAgr (fun j => j < 24 ∨ (24 ≤ j ∧ j < 24 + k) ∨ (30 ≤ j ∧ j < 30 + k) ∨ (36 ≤ j ∧ j < 36 + k) ∨ (42 ≤ j ∧ j < 42 + k) ∨ (48 ≤ j ∧ j < 48 + k)) F (gEn π) → ∀ (H : Heap) (locs : List Loc), gSg G b (gLM G b π μ (gR f 9 F) g) H → va_S (fun q => q = b + 25) s.heap H locs → ∀ ls, lv_has ls 3 [(0, .ref b), (1, .ref (b + 25)), (2, .int (nI k))] → W pp_ l ee_ (gRm 0 0) s mm_ aa_ below meth cc_ H locs 0 0 Q (F0 mm_ 37 ls []) := by
          intro d
          induction d with
          | zero =>
            intro k hk F hF H locs h1 hS ls hl
            have hk : k = 6 := by omega
            refine lv_iload_n hx hb dX12_keep_37 rfl (lv_at hl 2 rfl) ?_
            refine lv_bipush (v := 6) hx hb dX12_keep_38 (by decide) ?_
            refine lv_icmp_ge (tgt := 109) hx hb dX12_keep_40 (by decide) (fun c2 => ?_) (fun c2 => ?_)
            · have c2 : 6 ≤ k := (gLe (a := 6) (b := k) rfl rfl (by omega) (by omega)).mp c2
              rw [hk] at hF
              refine lv_iconst (v := 0) hx hb dX12_keep_109 (by decide) ?_
              refine lv_istore_n (lv' := [(2, .int 0), (0, .ref b), (1, .ref (b + 25))]) hx hb dX12_keep_110 rfl hl (by decide) rfl (fun ls hl => ?_)
              have loop2 : ∀ (d k : Nat), k + d = 24 → ∀ (F : Nat → Int32), gAgr (fun j => j < 54 ∨ (54 ≤ j ∧ j < 54 + k)) F (gEn π) → ∀ (H : Heap) (locs : List Loc), gSg G b (gLM G b π μ (gR f 9 F) g) H → va_S (fun q => q = b + 25) s.heap H locs → ∀ ls, lv_has ls 3 [(0, .ref b), (1, .ref (b + 25)), (2, .int (nI k))] → W pp_ l ee_ (gRm 0 0) s mm_ aa_ below meth cc_ H locs 0 0 Q (F0 mm_ 111 ls []) := by
                intro d
                induction d with
                | zero =>
                  intro k hk F hF H locs h1 hS ls hl
                  have hk : k = 24 := by omega
                  refine lv_iload_n hx hb dX12_keep_111 rfl (lv_at hl 2 rfl) ?_
                  refine lv_bipush (v := 24) hx hb dX12_keep_112 (by decide) ?_
                  refine lv_icmp_ge (tgt := 135) hx hb dX12_keep_114 (by decide) (fun c3 => ?_) (fun c3 => ?_)
                  · have c3 : 24 ≤ k := (gLe (a := 24) (b := k) rfl rfl (by omega) (by omega)).mp c3
                    rw [hk] at hF
                    refine lv_iconst (v := 0) hx hb dX12_keep_135 (by decide) ?_
                    refine lv_istore_n (lv' := [(2, .int 0), (0, .ref b), (1, .ref (b + 25))]) hx hb dX12_keep_136 rfl hl (by decide) rfl (fun ls hl => ?_)
                    have loop3 : ∀ (d k : Nat), k + d = 5 → ∀ (F : Nat → Int32), gAgr (fun j => j < 78 ∨ (78 ≤ j ∧ j < 78 + k) ∨ (83 ≤ j ∧ j < 83 + k) ∨ (88 ≤ j ∧ j < 88 + k)) F (gEn π) → ∀ (H : Heap) (locs : List Loc), gSg G b (gLM G b π μ (gR f 9 F) g) H → va_S (fun q => q = b + 25) s.heap H locs → ∀ ls, lv_has ls 3 [(0, .ref b), (1, .ref (b + 25)), (2, .int (nI k))] → W pp_ l ee_ (gRm 0 0) s mm_ aa_ below meth cc_ H locs 0 0 Q (F0 mm_ 137 ls []) := by
                      intro d
                      induction d with
                      | zero =>
                        intro k hk F hF H locs h1 hS ls hl
                        have hk : k = 5 := by omega
                        refine lv_iload_n hx hb dX12_keep_137 rfl (lv_at hl 2 rfl) ?_
                        refine lv_iconst (v := 5) hx hb dX12_keep_138 (by decide) ?_
                        refine lv_icmp_ge (tgt := 184) hx hb dX12_keep_139 (by decide) (fun c4 => ?_) (fun c4 => ?_)
                        · have c4 : 5 ≤ k := (gLe (a := 5) (b := k) rfl rfl (by omega) (by omega)).mp c4
                          rw [hk] at hF
                          refine lv_iconst (v := 0) hx hb dX12_keep_184 (by decide) ?_
                          refine lv_istore_n (lv' := [(2, .int 0), (0, .ref b), (1, .ref (b + 25))]) hx hb dX12_keep_185 rfl hl (by decide) rfl (fun ls hl => ?_)
                          have loop4 : ∀ (d k : Nat), k + d = 10 → ∀ (F : Nat → Int32), gAgr (fun j => j < 93 ∨ (93 ≤ j ∧ j < 93 + k) ∨ (103 ≤ j ∧ j < 103 + k)) F (gEn π) → ∀ (H : Heap) (locs : List Loc), gSg G b (gLM G b π μ (gR f 9 F) g) H → va_S (fun q => q = b + 25) s.heap H locs → ∀ ls, lv_has ls 3 [(0, .ref b), (1, .ref (b + 25)), (2, .int (nI k))] → W pp_ l ee_ (gRm 0 0) s mm_ aa_ below meth cc_ H locs 0 0 Q (F0 mm_ 186 ls []) := by
                            intro d
                            induction d with
                            | zero =>
                              intro k hk F hF H locs h1 hS ls hl
                              have hk : k = 10 := by omega
                              refine lv_iload_n hx hb dX12_keep_186 rfl (lv_at hl 2 rfl) ?_
                              refine lv_bipush (v := 10) hx hb dX12_keep_187 (by decide) ?_
                              refine lv_icmp_ge (tgt := 222) hx hb dX12_keep_189 (by decide) (fun c5 => ?_) (fun c5 => ?_)
                              · have c5 : 10 ≤ k := (gLe (a := 10) (b := k) rfl rfl (by omega) (by omega)).mp c5
                                rw [hk] at hF
                                refine lv_iconst (v := 0) hx hb dX12_keep_222 (by decide) ?_
                                refine lv_istore_n (lv' := [(2, .int 0), (0, .ref b), (1, .ref (b + 25))]) hx hb dX12_keep_223 rfl hl (by decide) rfl (fun ls hl => ?_)
                                have loop5 : ∀ (d k : Nat), k + d = 8 → ∀ (F : Nat → Int32), gAgr (fun j => j < 113 ∨ (113 ≤ j ∧ j < 113 + k) ∨ (121 ≤ j ∧ j < 121 + k)) F (gEn π) → ∀ (H : Heap) (locs : List Loc), gSg G b (gLM G b π μ (gR f 9 F) g) H → va_S (fun q => q = b + 25) s.heap H locs → ∀ ls, lv_has ls 3 [(0, .ref b), (1, .ref (b + 25)), (2, .int (nI k))] → W pp_ l ee_ (gRm 0 0) s mm_ aa_ below meth cc_ H locs 0 0 Q (F0 mm_ 224 ls []) := by
                                  intro d
                                  induction d with
                                  | zero =>
                                    intro k hk F hF H locs h1 hS ls hl
                                    have hk : k = 8 := by omega
                                    refine lv_iload_n hx hb dX12_keep_224 rfl (lv_at hl 2 rfl) ?_
                                    refine lv_bipush (v := 8) hx hb dX12_keep_225 (by decide) ?_
                                    refine lv_icmp_ge (tgt := 260) hx hb dX12_keep_227 (by decide) (fun c6 => ?_) (fun c6 => ?_)
                                    · have c6 : 8 ≤ k := (gLe (a := 8) (b := k) rfl rfl (by omega) (by omega)).mp c6
                                      rw [hk] at hF
                                      refine lv_aload_n hx hb dX12_keep_260 rfl (lv_at hl 1 rfl) ?_
                                      refine lv_sipush (v := 129) hx hb dX12_keep_261 (by decide) ?_
                                      refine lv_aload_n hx hb dX12_keep_264 rfl (lv_at hl 0 rfl) ?_
                                      refine g_get (v := .int (π 15 0)) (T := TX12) (ci := 12) (N := 45) hx hb hown hK (gY_X12 hT) rfl (h1 0 _ rfl) 3 (by decide) (hT _ gf_X12_105) rfl dX12_keep_265 ?_
                                      refine g_is (j := 129) hx hb hK hS (h1 25 _ rfl) rfl (by omega) (Nat.le_of_ble_eq_true rfl) (by omega) dX12_keep_268 (fun H7 locs c8 oq hS => ?_)
                                      have h1 : gSg G b (gLM G b π μ (gR f 9 (upd F 129 (π 15 0))) g) H7 := gSg_set h1 25 c8 oq
                                      have hF := gAgr_u hF (gEn_s0 (π := π))
                                      generalize upd F 129 (π 15 0) = F at h1 hF
                                      refine lv_aload_n hx hb dX12_keep_269 rfl (lv_at hl 1 rfl) ?_
                                      refine lv_sipush (v := 130) hx hb dX12_keep_270 (by decide) ?_
                                      refine lv_aload_n hx hb dX12_keep_273 rfl (lv_at hl 0 rfl) ?_
                                      refine g_get (v := .int (π 15 1)) (T := TX12) (ci := 12) (N := 45) hx hb hown hK (gY_X12 hT) rfl (h1 0 _ rfl) 2 (by decide) (hT _ gf_X12_241) rfl dX12_keep_274 ?_
                                      refine g_is (j := 130) hx hb hK hS (h1 25 _ rfl) rfl (by omega) (Nat.le_of_ble_eq_true rfl) (by omega) dX12_keep_277 (fun H9 locs c10 oq hS => ?_)
                                      have h1 : gSg G b (gLM G b π μ (gR f 9 (upd F 130 (π 15 1))) g) H9 := gSg_set h1 25 c10 oq
                                      have hF := gAgr_u hF (gEn_s1 (π := π))
                                      generalize upd F 130 (π 15 1) = F at h1 hF
                                      refine lv_aload_n hx hb dX12_keep_278 rfl (lv_at hl 1 rfl) ?_
                                      refine lv_sipush (v := 131) hx hb dX12_keep_279 (by decide) ?_
                                      refine lv_aload_n hx hb dX12_keep_282 rfl (lv_at hl 0 rfl) ?_
                                      refine g_get (v := .int (π 15 2)) (T := TX12) (ci := 12) (N := 45) hx hb hown hK (gY_X12 hT) rfl (h1 0 _ rfl) 10 (by decide) (hT _ gf_X12_216) rfl dX12_keep_283 ?_
                                      refine g_is (j := 131) hx hb hK hS (h1 25 _ rfl) rfl (by omega) (Nat.le_of_ble_eq_true rfl) (by omega) dX12_keep_286 (fun H11 locs c12 oq hS => ?_)
                                      have h1 : gSg G b (gLM G b π μ (gR f 9 (upd F 131 (π 15 2))) g) H11 := gSg_set h1 25 c12 oq
                                      have hF := gAgr_u hF (gEn_s2 (π := π))
                                      generalize upd F 131 (π 15 2) = F at h1 hF
                                      refine lv_aload_n hx hb dX12_keep_287 rfl (lv_at hl 1 rfl) ?_
                                      refine lv_sipush (v := 132) hx hb dX12_keep_288 (by decide) ?_
                                      refine lv_aload_n hx hb dX12_keep_291 rfl (lv_at hl 0 rfl) ?_
                                      refine g_get (v := .int (π 15 3)) (T := TX12) (ci := 12) (N := 45) hx hb hown hK (gY_X12 hT) rfl (h1 0 _ rfl) 27 (by decide) (hT _ gf_X12_272) rfl dX12_keep_292 ?_
                                      refine g_is (j := 132) hx hb hK hS (h1 25 _ rfl) rfl (by omega) (Nat.le_of_ble_eq_true rfl) (by omega) dX12_keep_295 (fun H13 locs c14 oq hS => ?_)
                                      have h1 : gSg G b (gLM G b π μ (gR f 9 (upd F 132 (π 15 3))) g) H13 := gSg_set h1 25 c14 oq
                                      have hF := gAgr_u hF (gEn_s3 (π := π))
                                      generalize upd F 132 (π 15 3) = F at h1 hF
                                      refine lv_aload_n hx hb dX12_keep_296 rfl (lv_at hl 1 rfl) ?_
                                      refine lv_sipush (v := 133) hx hb dX12_keep_297 (by decide) ?_
                                      refine lv_aload_n hx hb dX12_keep_300 rfl (lv_at hl 0 rfl) ?_
                                      refine g_get (v := .int (π 15 4)) (T := TX12) (ci := 12) (N := 45) hx hb hown hK (gY_X12 hT) rfl (h1 0 _ rfl) 31 (by decide) (hT _ gf_X12_290) rfl dX12_keep_301 ?_
                                      refine g_is (j := 133) hx hb hK hS (h1 25 _ rfl) rfl (by omega) (Nat.le_of_ble_eq_true rfl) (by omega) dX12_keep_304 (fun H15 locs c16 oq hS => ?_)
                                      have h1 : gSg G b (gLM G b π μ (gR f 9 (upd F 133 (π 15 4))) g) H15 := gSg_set h1 25 c16 oq
                                      have hF := gAgr_u hF (gEn_s4 (π := π))
                                      generalize upd F 133 (π 15 4) = F at h1 hF
                                      refine lv_aload_n hx hb dX12_keep_305 rfl (lv_at hl 1 rfl) ?_
                                      refine lv_sipush (v := 134) hx hb dX12_keep_306 (by decide) ?_
                                      refine lv_aload_n hx hb dX12_keep_309 rfl (lv_at hl 0 rfl) ?_
                                      refine g_get (v := .int (π 15 5)) (T := TX12) (ci := 12) (N := 45) hx hb hown hK (gY_X12 hT) rfl (h1 0 _ rfl) 34 (by decide) (hT _ gf_X12_296) rfl dX12_keep_310 ?_
                                      refine g_is (j := 134) hx hb hK hS (h1 25 _ rfl) rfl (by omega) (Nat.le_of_ble_eq_true rfl) (by omega) dX12_keep_313 (fun H17 locs c18 oq hS => ?_)
                                      have h1 : gSg G b (gLM G b π μ (gR f 9 (upd F 134 (π 15 5))) g) H17 := gSg_set h1 25 c18 oq
                                      have hF := gAgr_u hF (gEn_s5 (π := π))
                                      generalize upd F 134 (π 15 5) = F at h1 hF
                                      refine lv_aload_n hx hb dX12_keep_314 rfl (lv_at hl 1 rfl) ?_
                                      refine lv_sipush (v := 135) hx hb dX12_keep_315 (by decide) ?_
                                      refine lv_aload_n hx hb dX12_keep_318 rfl (lv_at hl 0 rfl) ?_
                                      refine g_get (v := .int (π 15 6)) (T := TX12) (ci := 12) (N := 45) hx hb hown hK (gY_X12 hT) rfl (h1 0 _ rfl) 18 (by decide) (hT _ gf_X12_101) rfl dX12_keep_319 ?_
                                      refine g_is (j := 135) hx hb hK hS (h1 25 _ rfl) rfl (by omega) (Nat.le_of_ble_eq_true rfl) (by omega) dX12_keep_322 (fun H19 locs c20 oq hS => ?_)
                                      have h1 : gSg G b (gLM G b π μ (gR f 9 (upd F 135 (π 15 6))) g) H19 := gSg_set h1 25 c20 oq
                                      have hF := gAgr_u hF (gEn_s6 (π := π))
                                      generalize upd F 135 (π 15 6) = F at h1 hF
                                      have hE : gAgr (fun j => j < 136) (F) (gEn π) := gAgr_w hF (fun j hj => by first | omega | (simp only; omega))
                                      have h1 : gSg G b (gLM G b π μ (gR f 9 (gEn π)) g) H19 := gSg_set h1 25 (gAt_agr hE (h1 25 _ rfl)) (fun _ _ => rfl)
                                      rw [← hQ]
                                      exact g_vret hx hb hr hlk hS dX12_keep_323 h1
                                    · have c6 : ¬ 8 ≤ k := fun z => c6 ((gLe (a := 8) (b := k) rfl rfl (by omega) (by omega)).mpr z)
                                      exact absurd c6 (by omega)
                                  | succ d ih =>
                                    intro k hk F hF H locs h1 hS ls hl
                                    refine lv_iload_n hx hb dX12_keep_224 rfl (lv_at hl 2 rfl) ?_
                                    refine lv_bipush (v := 8) hx hb dX12_keep_225 (by decide) ?_
                                    refine lv_icmp_ge (tgt := 260) hx hb dX12_keep_227 (by decide) (fun c21 => ?_) (fun c21 => ?_)
                                    · have c21 : 8 ≤ k := (gLe (a := 8) (b := k) rfl rfl (by omega) (by omega)).mp c21
                                      exact absurd c21 (by omega)
                                    · have c21 : ¬ 8 ≤ k := fun z => c21 ((gLe (a := 8) (b := k) rfl rfl (by omega) (by omega)).mpr z)
                                      refine lv_aload_n hx hb dX12_keep_230 rfl (lv_at hl 1 rfl) ?_
                                      refine lv_bipush (v := 113) hx hb dX12_keep_231 (by decide) ?_
                                      refine lv_iload_n hx hb dX12_keep_233 rfl (lv_at hl 2 rfl) ?_
                                      refine lv_iadd hx hb dX12_keep_234 ?_
                                      refine lv_aload_n hx hb dX12_keep_235 rfl (lv_at hl 0 rfl) ?_
                                      refine g_get (v := .ref (b + 22)) (T := TX12) (ci := 12) (N := 45) hx hb hown hK (gY_X12 hT) rfl (h1 0 _ rfl) 35 (by decide) (hT _ gf_X12_76) rfl dX12_keep_236 ?_
                                      refine lv_iload_n hx hb dX12_keep_239 rfl (lv_at hl 2 rfl) ?_
                                      refine g_ia (j := k) (v := π 13 k) hx hb hK (h1 22 _ rfl) rfl (by omega) (Nat.le_of_ble_eq_true rfl) rfl dX12_keep_240 ?_
                                      refine g_is (j := 113 + k) hx hb hK hS (h1 25 _ rfl) (gAdd rfl rfl) (by omega) (Nat.le_of_ble_eq_true rfl) (by omega) dX12_keep_241 (fun H22 locs c23 oq hS => ?_)
                                      have h1 : gSg G b (gLM G b π μ (gR f 9 (upd F (113 + k) (π 13 k))) g) H22 := gSg_set h1 25 c23 oq
                                      have hF := gAgr_u hF (gEn_13 (π := π) (show k < 8 by omega))
                                      generalize upd F (113 + k) (π 13 k) = F at h1 hF
                                      refine lv_aload_n hx hb dX12_keep_242 rfl (lv_at hl 1 rfl) ?_
                                      refine lv_bipush (v := 121) hx hb dX12_keep_243 (by decide) ?_
                                      refine lv_iload_n hx hb dX12_keep_245 rfl (lv_at hl 2 rfl) ?_
                                      refine lv_iadd hx hb dX12_keep_246 ?_
                                      refine lv_aload_n hx hb dX12_keep_247 rfl (lv_at hl 0 rfl) ?_
                                      refine g_get (v := .ref (b + 23)) (T := TX12) (ci := 12) (N := 45) hx hb hown hK (gY_X12 hT) rfl (h1 0 _ rfl) 36 (by decide) (hT _ gf_X12_79) rfl dX12_keep_248 ?_
                                      refine lv_iload_n hx hb dX12_keep_251 rfl (lv_at hl 2 rfl) ?_
                                      refine g_ia (j := k) (v := π 14 k) hx hb hK (h1 23 _ rfl) rfl (by omega) (Nat.le_of_ble_eq_true rfl) rfl dX12_keep_252 ?_
                                      refine g_is (j := 121 + k) hx hb hK hS (h1 25 _ rfl) (gAdd rfl rfl) (by omega) (Nat.le_of_ble_eq_true rfl) (by omega) dX12_keep_253 (fun H24 locs c25 oq hS => ?_)
                                      have h1 : gSg G b (gLM G b π μ (gR f 9 (upd F (121 + k) (π 14 k))) g) H24 := gSg_set h1 25 c25 oq
                                      have hF := gAgr_u hF (gEn_14 (π := π) (show k < 8 by omega))
                                      generalize upd F (121 + k) (π 14 k) = F at h1 hF
                                      refine lv_iinc (v := nI (k + 1)) (lv' := [(2, .int (nI (k + 1))), (0, .ref b), (1, .ref (b + 25))]) hx hb dX12_keep_254 hl (k := 2) rfl (gAdd rfl (show Int32.ofInt 1 = nI 1 from rfl)) (by decide) rfl (fun ls hl => ?_)
                                      refine lv_goto (tgt := 224) hx hb dX12_keep_257 (by decide) ?_
                                      exact ih (k + 1) (by omega) F (gAgr_w hF (fun j hj => by first | omega | (simp only; omega))) _ _ h1 hS _ (by have hl := lv_sub hl [1, 2, 0] rfl; exact hl)
                                exact loop5 (8 - 0) 0 (by first | omega | simp) _ (gAgr_w hF (fun j hj => by first | omega | (simp only at hj ⊢; omega))) _ _ h1 hS _ (lv_sub hl [1, 2, 0] rfl)
                              · have c5 : ¬ 10 ≤ k := fun z => c5 ((gLe (a := 10) (b := k) rfl rfl (by omega) (by omega)).mpr z)
                                exact absurd c5 (by omega)
                            | succ d ih =>
                              intro k hk F hF H locs h1 hS ls hl
                              refine lv_iload_n hx hb dX12_keep_186 rfl (lv_at hl 2 rfl) ?_
                              refine lv_bipush (v := 10) hx hb dX12_keep_187 (by decide) ?_
                              refine lv_icmp_ge (tgt := 222) hx hb dX12_keep_189 (by decide) (fun c26 => ?_) (fun c26 => ?_)
                              · have c26 : 10 ≤ k := (gLe (a := 10) (b := k) rfl rfl (by omega) (by omega)).mp c26
                                exact absurd c26 (by omega)
                              · have c26 : ¬ 10 ≤ k := fun z => c26 ((gLe (a := 10) (b := k) rfl rfl (by omega) (by omega)).mpr z)
                                refine lv_aload_n hx hb dX12_keep_192 rfl (lv_at hl 1 rfl) ?_
                                refine lv_bipush (v := 93) hx hb dX12_keep_193 (by decide) ?_
                                refine lv_iload_n hx hb dX12_keep_195 rfl (lv_at hl 2 rfl) ?_
                                refine lv_iadd hx hb dX12_keep_196 ?_
                                refine lv_aload_n hx hb dX12_keep_197 rfl (lv_at hl 0 rfl) ?_
                                refine g_get (v := .ref (b + 20)) (T := TX12) (ci := 12) (N := 45) hx hb hown hK (gY_X12 hT) rfl (h1 0 _ rfl) 32 (by decide) (hT _ gf_X12_70) rfl dX12_keep_198 ?_
                                refine lv_iload_n hx hb dX12_keep_201 rfl (lv_at hl 2 rfl) ?_
                                refine g_ia (j := k) (v := π 11 k) hx hb hK (h1 20 _ rfl) rfl (by omega) (Nat.le_of_ble_eq_true rfl) rfl dX12_keep_202 ?_
                                refine g_is (j := 93 + k) hx hb hK hS (h1 25 _ rfl) (gAdd rfl rfl) (by omega) (Nat.le_of_ble_eq_true rfl) (by omega) dX12_keep_203 (fun H27 locs c28 oq hS => ?_)
                                have h1 : gSg G b (gLM G b π μ (gR f 9 (upd F (93 + k) (π 11 k))) g) H27 := gSg_set h1 25 c28 oq
                                have hF := gAgr_u hF (gEn_11 (π := π) (show k < 10 by omega))
                                generalize upd F (93 + k) (π 11 k) = F at h1 hF
                                refine lv_aload_n hx hb dX12_keep_204 rfl (lv_at hl 1 rfl) ?_
                                refine lv_bipush (v := 103) hx hb dX12_keep_205 (by decide) ?_
                                refine lv_iload_n hx hb dX12_keep_207 rfl (lv_at hl 2 rfl) ?_
                                refine lv_iadd hx hb dX12_keep_208 ?_
                                refine lv_aload_n hx hb dX12_keep_209 rfl (lv_at hl 0 rfl) ?_
                                refine g_get (v := .ref (b + 21)) (T := TX12) (ci := 12) (N := 45) hx hb hown hK (gY_X12 hT) rfl (h1 0 _ rfl) 33 (by decide) (hT _ gf_X12_73) rfl dX12_keep_210 ?_
                                refine lv_iload_n hx hb dX12_keep_213 rfl (lv_at hl 2 rfl) ?_
                                refine g_ia (j := k) (v := π 12 k) hx hb hK (h1 21 _ rfl) rfl (by omega) (Nat.le_of_ble_eq_true rfl) rfl dX12_keep_214 ?_
                                refine g_is (j := 103 + k) hx hb hK hS (h1 25 _ rfl) (gAdd rfl rfl) (by omega) (Nat.le_of_ble_eq_true rfl) (by omega) dX12_keep_215 (fun H29 locs c30 oq hS => ?_)
                                have h1 : gSg G b (gLM G b π μ (gR f 9 (upd F (103 + k) (π 12 k))) g) H29 := gSg_set h1 25 c30 oq
                                have hF := gAgr_u hF (gEn_12 (π := π) (show k < 10 by omega))
                                generalize upd F (103 + k) (π 12 k) = F at h1 hF
                                refine lv_iinc (v := nI (k + 1)) (lv' := [(2, .int (nI (k + 1))), (0, .ref b), (1, .ref (b + 25))]) hx hb dX12_keep_216 hl (k := 2) rfl (gAdd rfl (show Int32.ofInt 1 = nI 1 from rfl)) (by decide) rfl (fun ls hl => ?_)
                                refine lv_goto (tgt := 186) hx hb dX12_keep_219 (by decide) ?_
                                exact ih (k + 1) (by omega) F (gAgr_w hF (fun j hj => by first | omega | (simp only; omega))) _ _ h1 hS _ (by have hl := lv_sub hl [1, 2, 0] rfl; exact hl)
                          exact loop4 (10 - 0) 0 (by first | omega | simp) _ (gAgr_w hF (fun j hj => by first | omega | (simp only at hj ⊢; omega))) _ _ h1 hS _ (lv_sub hl [1, 2, 0] rfl)
                        · have c4 : ¬ 5 ≤ k := fun z => c4 ((gLe (a := 5) (b := k) rfl rfl (by omega) (by omega)).mpr z)
                          exact absurd c4 (by omega)
                      | succ d ih =>
                        intro k hk F hF H locs h1 hS ls hl
                        refine lv_iload_n hx hb dX12_keep_137 rfl (lv_at hl 2 rfl) ?_
                        refine lv_iconst (v := 5) hx hb dX12_keep_138 (by decide) ?_
                        refine lv_icmp_ge (tgt := 184) hx hb dX12_keep_139 (by decide) (fun c31 => ?_) (fun c31 => ?_)
                        · have c31 : 5 ≤ k := (gLe (a := 5) (b := k) rfl rfl (by omega) (by omega)).mp c31
                          exact absurd c31 (by omega)
                        · have c31 : ¬ 5 ≤ k := fun z => c31 ((gLe (a := 5) (b := k) rfl rfl (by omega) (by omega)).mpr z)
                          refine lv_aload_n hx hb dX12_keep_142 rfl (lv_at hl 1 rfl) ?_
                          refine lv_bipush (v := 78) hx hb dX12_keep_143 (by decide) ?_
                          refine lv_iload_n hx hb dX12_keep_145 rfl (lv_at hl 2 rfl) ?_
                          refine lv_iadd hx hb dX12_keep_146 ?_
                          refine lv_aload_n hx hb dX12_keep_147 rfl (lv_at hl 0 rfl) ?_
                          refine g_get (v := .ref (b + 17)) (T := TX12) (ci := 12) (N := 45) hx hb hown hK (gY_X12 hT) rfl (h1 0 _ rfl) 28 (by decide) (hT _ gf_X12_61) rfl dX12_keep_148 ?_
                          refine lv_iload_n hx hb dX12_keep_151 rfl (lv_at hl 2 rfl) ?_
                          refine g_ia (j := k) (v := π 8 k) hx hb hK (h1 17 _ rfl) rfl (by omega) (Nat.le_of_ble_eq_true rfl) rfl dX12_keep_152 ?_
                          refine g_is (j := 78 + k) hx hb hK hS (h1 25 _ rfl) (gAdd rfl rfl) (by omega) (Nat.le_of_ble_eq_true rfl) (by omega) dX12_keep_153 (fun H32 locs c33 oq hS => ?_)
                          have h1 : gSg G b (gLM G b π μ (gR f 9 (upd F (78 + k) (π 8 k))) g) H32 := gSg_set h1 25 c33 oq
                          have hF := gAgr_u hF (gEn_8 (π := π) (show k < 5 by omega))
                          generalize upd F (78 + k) (π 8 k) = F at h1 hF
                          refine lv_aload_n hx hb dX12_keep_154 rfl (lv_at hl 1 rfl) ?_
                          refine lv_bipush (v := 83) hx hb dX12_keep_155 (by decide) ?_
                          refine lv_iload_n hx hb dX12_keep_157 rfl (lv_at hl 2 rfl) ?_
                          refine lv_iadd hx hb dX12_keep_158 ?_
                          refine lv_aload_n hx hb dX12_keep_159 rfl (lv_at hl 0 rfl) ?_
                          refine g_get (v := .ref (b + 18)) (T := TX12) (ci := 12) (N := 45) hx hb hown hK (gY_X12 hT) rfl (h1 0 _ rfl) 29 (by decide) (hT _ gf_X12_64) rfl dX12_keep_160 ?_
                          refine lv_iload_n hx hb dX12_keep_163 rfl (lv_at hl 2 rfl) ?_
                          refine g_ia (j := k) (v := π 9 k) hx hb hK (h1 18 _ rfl) rfl (by omega) (Nat.le_of_ble_eq_true rfl) rfl dX12_keep_164 ?_
                          refine g_is (j := 83 + k) hx hb hK hS (h1 25 _ rfl) (gAdd rfl rfl) (by omega) (Nat.le_of_ble_eq_true rfl) (by omega) dX12_keep_165 (fun H34 locs c35 oq hS => ?_)
                          have h1 : gSg G b (gLM G b π μ (gR f 9 (upd F (83 + k) (π 9 k))) g) H34 := gSg_set h1 25 c35 oq
                          have hF := gAgr_u hF (gEn_9 (π := π) (show k < 5 by omega))
                          generalize upd F (83 + k) (π 9 k) = F at h1 hF
                          refine lv_aload_n hx hb dX12_keep_166 rfl (lv_at hl 1 rfl) ?_
                          refine lv_bipush (v := 88) hx hb dX12_keep_167 (by decide) ?_
                          refine lv_iload_n hx hb dX12_keep_169 rfl (lv_at hl 2 rfl) ?_
                          refine lv_iadd hx hb dX12_keep_170 ?_
                          refine lv_aload_n hx hb dX12_keep_171 rfl (lv_at hl 0 rfl) ?_
                          refine g_get (v := .ref (b + 19)) (T := TX12) (ci := 12) (N := 45) hx hb hown hK (gY_X12 hT) rfl (h1 0 _ rfl) 30 (by decide) (hT _ gf_X12_67) rfl dX12_keep_172 ?_
                          refine lv_iload_n hx hb dX12_keep_175 rfl (lv_at hl 2 rfl) ?_
                          refine g_ia (j := k) (v := π 10 k) hx hb hK (h1 19 _ rfl) rfl (by omega) (Nat.le_of_ble_eq_true rfl) rfl dX12_keep_176 ?_
                          refine g_is (j := 88 + k) hx hb hK hS (h1 25 _ rfl) (gAdd rfl rfl) (by omega) (Nat.le_of_ble_eq_true rfl) (by omega) dX12_keep_177 (fun H36 locs c37 oq hS => ?_)
                          have h1 : gSg G b (gLM G b π μ (gR f 9 (upd F (88 + k) (π 10 k))) g) H36 := gSg_set h1 25 c37 oq
                          have hF := gAgr_u hF (gEn_10 (π := π) (show k < 5 by omega))
                          generalize upd F (88 + k) (π 10 k) = F at h1 hF
                          refine lv_iinc (v := nI (k + 1)) (lv' := [(2, .int (nI (k + 1))), (0, .ref b), (1, .ref (b + 25))]) hx hb dX12_keep_178 hl (k := 2) rfl (gAdd rfl (show Int32.ofInt 1 = nI 1 from rfl)) (by decide) rfl (fun ls hl => ?_)
                          refine lv_goto (tgt := 137) hx hb dX12_keep_181 (by decide) ?_
                          exact ih (k + 1) (by omega) F (gAgr_w hF (fun j hj => by first | omega | (simp only; omega))) _ _ h1 hS _ (by have hl := lv_sub hl [1, 2, 0] rfl; exact hl)
                    exact loop3 (5 - 0) 0 (by first | omega | simp) _ (gAgr_w hF (fun j hj => by first | omega | (simp only at hj ⊢; omega))) _ _ h1 hS _ (lv_sub hl [1, 2, 0] rfl)
                  · have c3 : ¬ 24 ≤ k := fun z => c3 ((gLe (a := 24) (b := k) rfl rfl (by omega) (by omega)).mpr z)
                    exact absurd c3 (by omega)
                | succ d ih =>
                  intro k hk F hF H locs h1 hS ls hl
                  refine lv_iload_n hx hb dX12_keep_111 rfl (lv_at hl 2 rfl) ?_
                  refine lv_bipush (v := 24) hx hb dX12_keep_112 (by decide) ?_
                  refine lv_icmp_ge (tgt := 135) hx hb dX12_keep_114 (by decide) (fun c38 => ?_) (fun c38 => ?_)
                  · have c38 : 24 ≤ k := (gLe (a := 24) (b := k) rfl rfl (by omega) (by omega)).mp c38
                    exact absurd c38 (by omega)
                  · have c38 : ¬ 24 ≤ k := fun z => c38 ((gLe (a := 24) (b := k) rfl rfl (by omega) (by omega)).mpr z)
                    refine lv_aload_n hx hb dX12_keep_117 rfl (lv_at hl 1 rfl) ?_
                    refine lv_bipush (v := 54) hx hb dX12_keep_118 (by decide) ?_
                    refine lv_iload_n hx hb dX12_keep_120 rfl (lv_at hl 2 rfl) ?_
                    refine lv_iadd hx hb dX12_keep_121 ?_
                    refine lv_aload_n hx hb dX12_keep_122 rfl (lv_at hl 0 rfl) ?_
                    refine g_get (v := .ref (b + 8)) (T := TX12) (ci := 12) (N := 45) hx hb hown hK (gY_X12 hT) rfl (h1 0 _ rfl) 9 (by decide) (hT _ gf_X12_33) rfl dX12_keep_123 ?_
                    refine lv_iload_n hx hb dX12_keep_126 rfl (lv_at hl 2 rfl) ?_
                    refine g_ia (j := k) (v := π 7 k) hx hb hK (h1 8 _ rfl) rfl (by omega) (Nat.le_of_ble_eq_true rfl) rfl dX12_keep_127 ?_
                    refine g_is (j := 54 + k) hx hb hK hS (h1 25 _ rfl) (gAdd rfl rfl) (by omega) (Nat.le_of_ble_eq_true rfl) (by omega) dX12_keep_128 (fun H39 locs c40 oq hS => ?_)
                    have h1 : gSg G b (gLM G b π μ (gR f 9 (upd F (54 + k) (π 7 k))) g) H39 := gSg_set h1 25 c40 oq
                    have hF := gAgr_u hF (gEn_7 (π := π) (show k < 24 by omega))
                    generalize upd F (54 + k) (π 7 k) = F at h1 hF
                    refine lv_iinc (v := nI (k + 1)) (lv' := [(2, .int (nI (k + 1))), (0, .ref b), (1, .ref (b + 25))]) hx hb dX12_keep_129 hl (k := 2) rfl (gAdd rfl (show Int32.ofInt 1 = nI 1 from rfl)) (by decide) rfl (fun ls hl => ?_)
                    refine lv_goto (tgt := 111) hx hb dX12_keep_132 (by decide) ?_
                    exact ih (k + 1) (by omega) F (gAgr_w hF (fun j hj => by first | omega | (simp only; omega))) _ _ h1 hS _ (by have hl := lv_sub hl [1, 2, 0] rfl; exact hl)
              exact loop2 (24 - 0) 0 (by first | omega | simp) _ (gAgr_w hF (fun j hj => by first | omega | (simp only at hj ⊢; omega))) _ _ h1 hS _ (lv_sub hl [1, 2, 0] rfl)
            · have c2 : ¬ 6 ≤ k := fun z => c2 ((gLe (a := 6) (b := k) rfl rfl (by omega) (by omega)).mpr z)
              exact absurd c2 (by omega)
          | succ d ih =>
            intro k hk F hF H locs h1 hS ls hl
            refine lv_iload_n hx hb dX12_keep_37 rfl (lv_at hl 2 rfl) ?_
            refine lv_bipush (v := 6) hx hb dX12_keep_38 (by decide) ?_
            refine lv_icmp_ge (tgt := 109) hx hb dX12_keep_40 (by decide) (fun c41 => ?_) (fun c41 => ?_)
            · have c41 : 6 ≤ k := (gLe (a := 6) (b := k) rfl rfl (by omega) (by omega)).mp c41
              exact absurd c41 (by omega)
            · have c41 : ¬ 6 ≤ k := fun z => c41 ((gLe (a := 6) (b := k) rfl rfl (by omega) (by omega)).mpr z)
              refine lv_aload_n hx hb dX12_keep_43 rfl (lv_at hl 1 rfl) ?_
              refine lv_bipush (v := 24) hx hb dX12_keep_44 (by decide) ?_
              refine lv_iload_n hx hb dX12_keep_46 rfl (lv_at hl 2 rfl) ?_
              refine lv_iadd hx hb dX12_keep_47 ?_
              refine lv_aload_n hx hb dX12_keep_48 rfl (lv_at hl 0 rfl) ?_
              refine g_get (v := .ref (b + 3)) (T := TX12) (ci := 12) (N := 45) hx hb hown hK (gY_X12 hT) rfl (h1 0 _ rfl) 4 (by decide) (hT _ gf_X12_18) rfl dX12_keep_49 ?_
              refine lv_iload_n hx hb dX12_keep_52 rfl (lv_at hl 2 rfl) ?_
              refine g_ia (j := k) (v := π 2 k) hx hb hK (h1 3 _ rfl) rfl (by omega) (Nat.le_of_ble_eq_true rfl) rfl dX12_keep_53 ?_
              refine g_is (j := 24 + k) hx hb hK hS (h1 25 _ rfl) (gAdd rfl rfl) (by omega) (Nat.le_of_ble_eq_true rfl) (by omega) dX12_keep_54 (fun H42 locs c43 oq hS => ?_)
              have h1 : gSg G b (gLM G b π μ (gR f 9 (upd F (24 + k) (π 2 k))) g) H42 := gSg_set h1 25 c43 oq
              have hF := gAgr_u hF (gEn_2 (π := π) (show k < 6 by omega))
              generalize upd F (24 + k) (π 2 k) = F at h1 hF
              refine lv_aload_n hx hb dX12_keep_55 rfl (lv_at hl 1 rfl) ?_
              refine lv_bipush (v := 30) hx hb dX12_keep_56 (by decide) ?_
              refine lv_iload_n hx hb dX12_keep_58 rfl (lv_at hl 2 rfl) ?_
              refine lv_iadd hx hb dX12_keep_59 ?_
              refine lv_aload_n hx hb dX12_keep_60 rfl (lv_at hl 0 rfl) ?_
              refine g_get (v := .ref (b + 4)) (T := TX12) (ci := 12) (N := 45) hx hb hown hK (gY_X12 hT) rfl (h1 0 _ rfl) 5 (by decide) (hT _ gf_X12_21) rfl dX12_keep_61 ?_
              refine lv_iload_n hx hb dX12_keep_64 rfl (lv_at hl 2 rfl) ?_
              refine g_ia (j := k) (v := π 3 k) hx hb hK (h1 4 _ rfl) rfl (by omega) (Nat.le_of_ble_eq_true rfl) rfl dX12_keep_65 ?_
              refine g_is (j := 30 + k) hx hb hK hS (h1 25 _ rfl) (gAdd rfl rfl) (by omega) (Nat.le_of_ble_eq_true rfl) (by omega) dX12_keep_66 (fun H44 locs c45 oq hS => ?_)
              have h1 : gSg G b (gLM G b π μ (gR f 9 (upd F (30 + k) (π 3 k))) g) H44 := gSg_set h1 25 c45 oq
              have hF := gAgr_u hF (gEn_3 (π := π) (show k < 6 by omega))
              generalize upd F (30 + k) (π 3 k) = F at h1 hF
              refine lv_aload_n hx hb dX12_keep_67 rfl (lv_at hl 1 rfl) ?_
              refine lv_bipush (v := 36) hx hb dX12_keep_68 (by decide) ?_
              refine lv_iload_n hx hb dX12_keep_70 rfl (lv_at hl 2 rfl) ?_
              refine lv_iadd hx hb dX12_keep_71 ?_
              refine lv_aload_n hx hb dX12_keep_72 rfl (lv_at hl 0 rfl) ?_
              refine g_get (v := .ref (b + 5)) (T := TX12) (ci := 12) (N := 45) hx hb hown hK (gY_X12 hT) rfl (h1 0 _ rfl) 6 (by decide) (hT _ gf_X12_24) rfl dX12_keep_73 ?_
              refine lv_iload_n hx hb dX12_keep_76 rfl (lv_at hl 2 rfl) ?_
              refine g_ia (j := k) (v := π 4 k) hx hb hK (h1 5 _ rfl) rfl (by omega) (Nat.le_of_ble_eq_true rfl) rfl dX12_keep_77 ?_
              refine g_is (j := 36 + k) hx hb hK hS (h1 25 _ rfl) (gAdd rfl rfl) (by omega) (Nat.le_of_ble_eq_true rfl) (by omega) dX12_keep_78 (fun H46 locs c47 oq hS => ?_)
              have h1 : gSg G b (gLM G b π μ (gR f 9 (upd F (36 + k) (π 4 k))) g) H46 := gSg_set h1 25 c47 oq
              have hF := gAgr_u hF (gEn_4 (π := π) (show k < 6 by omega))
              generalize upd F (36 + k) (π 4 k) = F at h1 hF
              refine lv_aload_n hx hb dX12_keep_79 rfl (lv_at hl 1 rfl) ?_
              refine lv_bipush (v := 42) hx hb dX12_keep_80 (by decide) ?_
              refine lv_iload_n hx hb dX12_keep_82 rfl (lv_at hl 2 rfl) ?_
              refine lv_iadd hx hb dX12_keep_83 ?_
              refine lv_aload_n hx hb dX12_keep_84 rfl (lv_at hl 0 rfl) ?_
              refine g_get (v := .ref (b + 6)) (T := TX12) (ci := 12) (N := 45) hx hb hown hK (gY_X12 hT) rfl (h1 0 _ rfl) 7 (by decide) (hT _ gf_X12_27) rfl dX12_keep_85 ?_
              refine lv_iload_n hx hb dX12_keep_88 rfl (lv_at hl 2 rfl) ?_
              refine g_ia (j := k) (v := π 5 k) hx hb hK (h1 6 _ rfl) rfl (by omega) (Nat.le_of_ble_eq_true rfl) rfl dX12_keep_89 ?_
              refine g_is (j := 42 + k) hx hb hK hS (h1 25 _ rfl) (gAdd rfl rfl) (by omega) (Nat.le_of_ble_eq_true rfl) (by omega) dX12_keep_90 (fun H48 locs c49 oq hS => ?_)
              have h1 : gSg G b (gLM G b π μ (gR f 9 (upd F (42 + k) (π 5 k))) g) H48 := gSg_set h1 25 c49 oq
              have hF := gAgr_u hF (gEn_5 (π := π) (show k < 6 by omega))
              generalize upd F (42 + k) (π 5 k) = F at h1 hF
              refine lv_aload_n hx hb dX12_keep_91 rfl (lv_at hl 1 rfl) ?_
              refine lv_bipush (v := 48) hx hb dX12_keep_92 (by decide) ?_
              refine lv_iload_n hx hb dX12_keep_94 rfl (lv_at hl 2 rfl) ?_
              refine lv_iadd hx hb dX12_keep_95 ?_
              refine lv_aload_n hx hb dX12_keep_96 rfl (lv_at hl 0 rfl) ?_
              refine g_get (v := .ref (b + 7)) (T := TX12) (ci := 12) (N := 45) hx hb hown hK (gY_X12 hT) rfl (h1 0 _ rfl) 8 (by decide) (hT _ gf_X12_30) rfl dX12_keep_97 ?_
              refine lv_iload_n hx hb dX12_keep_100 rfl (lv_at hl 2 rfl) ?_
              refine g_ia (j := k) (v := π 6 k) hx hb hK (h1 7 _ rfl) rfl (by omega) (Nat.le_of_ble_eq_true rfl) rfl dX12_keep_101 ?_
              refine g_is (j := 48 + k) hx hb hK hS (h1 25 _ rfl) (gAdd rfl rfl) (by omega) (Nat.le_of_ble_eq_true rfl) (by omega) dX12_keep_102 (fun H50 locs c51 oq hS => ?_)
              have h1 : gSg G b (gLM G b π μ (gR f 9 (upd F (48 + k) (π 6 k))) g) H50 := gSg_set h1 25 c51 oq
              have hF := gAgr_u hF (gEn_6 (π := π) (show k < 6 by omega))
              generalize upd F (48 + k) (π 6 k) = F at h1 hF
              refine lv_iinc (v := nI (k + 1)) (lv' := [(2, .int (nI (k + 1))), (0, .ref b), (1, .ref (b + 25))]) hx hb dX12_keep_103 hl (k := 2) rfl (gAdd rfl (show Int32.ofInt 1 = nI 1 from rfl)) (by decide) rfl (fun ls hl => ?_)
              refine lv_goto (tgt := 37) hx hb dX12_keep_106 (by decide) ?_
              exact ih (k + 1) (by omega) F (gAgr_w hF (fun j hj => by first | omega | (simp only; omega))) _ _ h1 hS _ (by have hl := lv_sub hl [1, 2, 0] rfl; exact hl)
        exact loop1 (6 - 0) 0 (by first | omega | simp) _ (gAgr_w hF (fun j hj => by first | omega | (simp only at hj ⊢; omega))) _ _ h1 hS _ (lv_sub hl [1, 2, 0] rfl)
      · have c1 : ¬ 12 ≤ k := fun z => c1 ((gLe (a := 12) (b := k) rfl rfl (by omega) (by omega)).mpr z)
        exact absurd c1 (by omega)
    | succ d ih =>
      intro k hk F hF H locs h1 hS ls hl
      refine lv_iload_n hx hb dX12_keep_2 rfl (lv_at hl 2 rfl) ?_
      refine lv_bipush (v := 12) hx hb dX12_keep_3 (by decide) ?_
      refine lv_icmp_ge (tgt := 35) hx hb dX12_keep_5 (by decide) (fun c52 => ?_) (fun c52 => ?_)
      · have c52 : 12 ≤ k := (gLe (a := 12) (b := k) rfl rfl (by omega) (by omega)).mp c52
        exact absurd c52 (by omega)
      · have c52 : ¬ 12 ≤ k := fun z => c52 ((gLe (a := 12) (b := k) rfl rfl (by omega) (by omega)).mpr z)
        refine lv_aload_n hx hb dX12_keep_8 rfl (lv_at hl 1 rfl) ?_
        refine lv_iload_n hx hb dX12_keep_9 rfl (lv_at hl 2 rfl) ?_
        refine lv_aload_n hx hb dX12_keep_10 rfl (lv_at hl 0 rfl) ?_
        refine g_get (v := .ref (b + 1)) (T := TX12) (ci := 12) (N := 45) hx hb hown hK (gY_X12 hT) rfl (h1 0 _ rfl) 0 (by decide) (hT _ gf_X12_9) rfl dX12_keep_11 ?_
        refine lv_iload_n hx hb dX12_keep_14 rfl (lv_at hl 2 rfl) ?_
        refine g_ia (j := k) (v := π 0 k) hx hb hK (h1 1 _ rfl) rfl (by omega) (Nat.le_of_ble_eq_true rfl) rfl dX12_keep_15 ?_
        refine g_is (j := k) hx hb hK hS (h1 25 _ rfl) rfl (by omega) (Nat.le_of_ble_eq_true rfl) (by omega) dX12_keep_16 (fun H53 locs c54 oq hS => ?_)
        have h1 : gSg G b (gLM G b π μ (gR f 9 (upd F k (π 0 k))) g) H53 := gSg_set h1 25 c54 oq
        have hF := gAgr_u hF (gEn_z (π := π) (show k < 12 by omega))
        generalize upd F k (π 0 k) = F at h1 hF
        refine lv_aload_n hx hb dX12_keep_17 rfl (lv_at hl 1 rfl) ?_
        refine lv_bipush (v := 12) hx hb dX12_keep_18 (by decide) ?_
        refine lv_iload_n hx hb dX12_keep_20 rfl (lv_at hl 2 rfl) ?_
        refine lv_iadd hx hb dX12_keep_21 ?_
        refine lv_aload_n hx hb dX12_keep_22 rfl (lv_at hl 0 rfl) ?_
        refine g_get (v := .ref (b + 2)) (T := TX12) (ci := 12) (N := 45) hx hb hown hK (gY_X12 hT) rfl (h1 0 _ rfl) 1 (by decide) (hT _ gf_X12_15) rfl dX12_keep_23 ?_
        refine lv_iload_n hx hb dX12_keep_26 rfl (lv_at hl 2 rfl) ?_
        refine g_ia (j := k) (v := π 1 k) hx hb hK (h1 2 _ rfl) rfl (by omega) (Nat.le_of_ble_eq_true rfl) rfl dX12_keep_27 ?_
        refine g_is (j := 12 + k) hx hb hK hS (h1 25 _ rfl) (gAdd rfl rfl) (by omega) (Nat.le_of_ble_eq_true rfl) (by omega) dX12_keep_28 (fun H55 locs c56 oq hS => ?_)
        have h1 : gSg G b (gLM G b π μ (gR f 9 (upd F (12 + k) (π 1 k))) g) H55 := gSg_set h1 25 c56 oq
        have hF := gAgr_u hF (gEn_1 (π := π) (show k < 12 by omega))
        generalize upd F (12 + k) (π 1 k) = F at h1 hF
        refine lv_iinc (v := nI (k + 1)) (lv' := [(2, .int (nI (k + 1))), (0, .ref b), (1, .ref (b + 25))]) hx hb dX12_keep_29 hl (k := 2) rfl (gAdd rfl (show Int32.ofInt 1 = nI 1 from rfl)) (by decide) rfl (fun ls hl => ?_)
        refine lv_goto (tgt := 2) hx hb dX12_keep_32 (by decide) ?_
        exact ih (k + 1) (by omega) F (gAgr_w hF (fun j hj => by first | omega | (simp only; omega))) _ _ h1 hS _ (by have hl := lv_sub hl [1, 2, 0] rfl; exact hl)
  exact loop0 (12 - 0) 0 (by first | omega | simp) _ (gAgr_w hF0 (fun j hj => by first | omega | (simp only at hj ⊢; omega))) _ _ h1 hS _ (lv_sub hl [1, 2, 0] rfl)

set_option maxHeartbeats 4000000 in
set_option maxRecDepth 100000 in
theorem c_X12_again_9 (l : Launch) (G : gW) (b : Nat) (π μ f : gPS) (g : Nat → Int64) (ρ : gPS) (hEn : gAgr (fun j => j < 136) (f 9) (gEn ρ)) : gCV l yX12_again cX12_again 3 (gRm 0 0) G [.ref b, .ref (b + 25)] (fun H => gSg G b (gLM G b π μ f g) H) (fun H => gSg G b (gLM G b ρ μ f g) H) (fun q => b ≤ q ∧ q < b + 30) := by
  refine g_start (by decide) (Nat.le_of_ble_eq_true rfl) ?_
  intro pp_ ee_ s mm_ aa_ below meth cc_ ls Q hQ hX hE hP hl
  obtain ⟨hx, hb, hr, hml, hown, hT, hlk, hnm⟩ := hX
  have hK := hE.2.1
  have h1 := hP
  have hS : va_S (fun q => b ≤ q ∧ q < b + 30) s.heap s.heap [] := va_S.rf
  have hl : lv_has ls 3 [(0, .ref b), (1, .ref (b + 25))] := hl
  have h1 : gSg G b (gLM G b (gR (gR (gR (gR (gR (gR (gR (gR (gR (gR (gR (gR (gR (gR (gR π 0 (π 0)) 1 (π 1)) 2 (π 2)) 3 (π 3)) 4 (π 4)) 5 (π 5)) 6 (π 6)) 7 (π 7)) 8 (π 8)) 9 (π 9)) 10 (π 10)) 11 (π 11)) 12 (π 12)) 13 (π 13)) 14 (π 14)) μ f g) s.heap := h1
  refine lv_iconst (v := 0) hx hb dX12_again_0 (by decide) ?_
  refine lv_istore_n (lv' := [(2, .int 0), (0, .ref b), (1, .ref (b + 25))]) hx hb dX12_again_1 rfl hl (by decide) rfl (fun ls hl => ?_)
  have loop0 : ∀ (d k : Nat), k + d = 12 → ∀ (A0 : Nat → Int32) (A1 : Nat → Int32), gAgr (fun j => j < k) A0 (ρ 0) → gAgr (fun j => j < k) A1 (ρ 1) → ∀ (H : Heap) (locs : List Loc), gSg G b (gLM G b (gR (gR (gR (gR (gR (gR (gR (gR (gR (gR (gR (gR (gR (gR (gR π 0 A0) 1 A1) 2 (π 2)) 3 (π 3)) 4 (π 4)) 5 (π 5)) 6 (π 6)) 7 (π 7)) 8 (π 8)) 9 (π 9)) 10 (π 10)) 11 (π 11)) 12 (π 12)) 13 (π 13)) 14 (π 14)) μ f g) H → va_S (fun q => b ≤ q ∧ q < b + 30) s.heap H locs → ∀ ls, lv_has ls 3 [(0, .ref b), (1, .ref (b + 25)), (2, .int (nI k))] → W pp_ l ee_ (gRm 0 0) s mm_ aa_ below meth cc_ H locs 0 0 Q (F0 mm_ 2 ls []) := by
    intro d
    induction d with
    | zero =>
      intro k hk A0 A1 i0 i1 H locs h1 hS ls hl
      have hk : k = 12 := by omega
      refine lv_iload_n hx hb dX12_again_2 rfl (lv_at hl 2 rfl) ?_
      refine lv_bipush (v := 12) hx hb dX12_again_3 (by decide) ?_
      refine lv_icmp_ge (tgt := 35) hx hb dX12_again_5 (by decide) (fun c1 => ?_) (fun c1 => ?_)
      · have c1 : 12 ≤ k := (gLe (a := 12) (b := k) rfl rfl (by omega) (by omega)).mp c1
        rw [hk] at i0
        have h1 : gSg G b (gLM G b (gR (gR (gR (gR (gR (gR (gR (gR (gR (gR (gR (gR (gR (gR (gR π 0 (ρ 0)) 1 A1) 2 (π 2)) 3 (π 3)) 4 (π 4)) 5 (π 5)) 6 (π 6)) 7 (π 7)) 8 (π 8)) 9 (π 9)) 10 (π 10)) 11 (π 11)) 12 (π 12)) 13 (π 13)) 14 (π 14)) μ f g) H := gSg_set h1 1 (gAt_agr i0 (h1 1 _ rfl)) (fun _ _ => rfl)
        rw [hk] at i1
        have h1 : gSg G b (gLM G b (gR (gR (gR (gR (gR (gR (gR (gR (gR (gR (gR (gR (gR (gR (gR π 0 (ρ 0)) 1 (ρ 1)) 2 (π 2)) 3 (π 3)) 4 (π 4)) 5 (π 5)) 6 (π 6)) 7 (π 7)) 8 (π 8)) 9 (π 9)) 10 (π 10)) 11 (π 11)) 12 (π 12)) 13 (π 13)) 14 (π 14)) μ f g) H := gSg_set h1 2 (gAt_agr i1 (h1 2 _ rfl)) (fun _ _ => rfl)
        refine lv_iconst (v := 0) hx hb dX12_again_35 (by decide) ?_
        refine lv_istore_n (lv' := [(2, .int 0), (0, .ref b), (1, .ref (b + 25))]) hx hb dX12_again_36 rfl hl (by decide) rfl (fun ls hl => ?_)
        have loop1 : ∀ (d k : Nat), k + d = 6 → ∀ (A2 : Nat → Int32) (A3 : Nat → Int32) (A4 : Nat → Int32) (A5 : Nat → Int32) (A6 : Nat → Int32), gAgr (fun j => j < k) A2 (ρ 2) → gAgr (fun j => j < k) A3 (ρ 3) → gAgr (fun j => j < k) A4 (ρ 4) → gAgr (fun j => j < k) A5 (ρ 5) → gAgr (fun j => j < k) A6 (ρ 6) → ∀ (H : Heap) (locs : List Loc), gSg G b (gLM G b (gR (gR (gR (gR (gR (gR (gR (gR (gR (gR (gR (gR (gR (gR (gR π 0 (ρ 0)) 1 (ρ 1)) 2 A2) 3 A3) 4 A4) 5 A5) 6 A6) 7 (π 7)) 8 (π 8)) 9 (π 9)) 10 (π 10)) 11 (π 11)) 12 (π 12)) 13 (π 13)) 14 (π 14)) μ f g) H → va_S (fun q => b ≤ q ∧ q < b + 30) s.heap H locs → ∀ ls, lv_has ls 3 [(0, .ref b), (1, .ref (b + 25)), (2, .int (nI k))] → W pp_ l ee_ (gRm 0 0) s mm_ aa_ below meth cc_ H locs 0 0 Q (F0 mm_ 37 ls []) := by
          intro d
          induction d with
          | zero =>
            intro k hk A2 A3 A4 A5 A6 i2 i3 i4 i5 i6 H locs h1 hS ls hl
            have hk : k = 6 := by omega
            refine lv_iload_n hx hb dX12_again_37 rfl (lv_at hl 2 rfl) ?_
            refine lv_bipush (v := 6) hx hb dX12_again_38 (by decide) ?_
            refine lv_icmp_ge (tgt := 109) hx hb dX12_again_40 (by decide) (fun c2 => ?_) (fun c2 => ?_)
            · have c2 : 6 ≤ k := (gLe (a := 6) (b := k) rfl rfl (by omega) (by omega)).mp c2
              rw [hk] at i2
              have h1 : gSg G b (gLM G b (gR (gR (gR (gR (gR (gR (gR (gR (gR (gR (gR (gR (gR (gR (gR π 0 (ρ 0)) 1 (ρ 1)) 2 (ρ 2)) 3 A3) 4 A4) 5 A5) 6 A6) 7 (π 7)) 8 (π 8)) 9 (π 9)) 10 (π 10)) 11 (π 11)) 12 (π 12)) 13 (π 13)) 14 (π 14)) μ f g) H := gSg_set h1 3 (gAt_agr i2 (h1 3 _ rfl)) (fun _ _ => rfl)
              rw [hk] at i3
              have h1 : gSg G b (gLM G b (gR (gR (gR (gR (gR (gR (gR (gR (gR (gR (gR (gR (gR (gR (gR π 0 (ρ 0)) 1 (ρ 1)) 2 (ρ 2)) 3 (ρ 3)) 4 A4) 5 A5) 6 A6) 7 (π 7)) 8 (π 8)) 9 (π 9)) 10 (π 10)) 11 (π 11)) 12 (π 12)) 13 (π 13)) 14 (π 14)) μ f g) H := gSg_set h1 4 (gAt_agr i3 (h1 4 _ rfl)) (fun _ _ => rfl)
              rw [hk] at i4
              have h1 : gSg G b (gLM G b (gR (gR (gR (gR (gR (gR (gR (gR (gR (gR (gR (gR (gR (gR (gR π 0 (ρ 0)) 1 (ρ 1)) 2 (ρ 2)) 3 (ρ 3)) 4 (ρ 4)) 5 A5) 6 A6) 7 (π 7)) 8 (π 8)) 9 (π 9)) 10 (π 10)) 11 (π 11)) 12 (π 12)) 13 (π 13)) 14 (π 14)) μ f g) H := gSg_set h1 5 (gAt_agr i4 (h1 5 _ rfl)) (fun _ _ => rfl)
              rw [hk] at i5
              have h1 : gSg G b (gLM G b (gR (gR (gR (gR (gR (gR (gR (gR (gR (gR (gR (gR (gR (gR (gR π 0 (ρ 0)) 1 (ρ 1)) 2 (ρ 2)) 3 (ρ 3)) 4 (ρ 4)) 5 (ρ 5)) 6 A6) 7 (π 7)) 8 (π 8)) 9 (π 9)) 10 (π 10)) 11 (π 11)) 12 (π 12)) 13 (π 13)) 14 (π 14)) μ f g) H := gSg_set h1 6 (gAt_agr i5 (h1 6 _ rfl)) (fun _ _ => rfl)
              rw [hk] at i6
              have h1 : gSg G b (gLM G b (gR (gR (gR (gR (gR (gR (gR (gR (gR (gR (gR (gR (gR (gR (gR π 0 (ρ 0)) 1 (ρ 1)) 2 (ρ 2)) 3 (ρ 3)) 4 (ρ 4)) 5 (ρ 5)) 6 (ρ 6)) 7 (π 7)) 8 (π 8)) 9 (π 9)) 10 (π 10)) 11 (π 11)) 12 (π 12)) 13 (π 13)) 14 (π 14)) μ f g) H := gSg_set h1 7 (gAt_agr i6 (h1 7 _ rfl)) (fun _ _ => rfl)
              refine lv_iconst (v := 0) hx hb dX12_again_109 (by decide) ?_
              refine lv_istore_n (lv' := [(2, .int 0), (0, .ref b), (1, .ref (b + 25))]) hx hb dX12_again_110 rfl hl (by decide) rfl (fun ls hl => ?_)
              have loop2 : ∀ (d k : Nat), k + d = 24 → ∀ (A7 : Nat → Int32), gAgr (fun j => j < k) A7 (ρ 7) → ∀ (H : Heap) (locs : List Loc), gSg G b (gLM G b (gR (gR (gR (gR (gR (gR (gR (gR (gR (gR (gR (gR (gR (gR (gR π 0 (ρ 0)) 1 (ρ 1)) 2 (ρ 2)) 3 (ρ 3)) 4 (ρ 4)) 5 (ρ 5)) 6 (ρ 6)) 7 A7) 8 (π 8)) 9 (π 9)) 10 (π 10)) 11 (π 11)) 12 (π 12)) 13 (π 13)) 14 (π 14)) μ f g) H → va_S (fun q => b ≤ q ∧ q < b + 30) s.heap H locs → ∀ ls, lv_has ls 3 [(0, .ref b), (1, .ref (b + 25)), (2, .int (nI k))] → W pp_ l ee_ (gRm 0 0) s mm_ aa_ below meth cc_ H locs 0 0 Q (F0 mm_ 111 ls []) := by
                intro d
                induction d with
                | zero =>
                  intro k hk A7 i7 H locs h1 hS ls hl
                  have hk : k = 24 := by omega
                  refine lv_iload_n hx hb dX12_again_111 rfl (lv_at hl 2 rfl) ?_
                  refine lv_bipush (v := 24) hx hb dX12_again_112 (by decide) ?_
                  refine lv_icmp_ge (tgt := 135) hx hb dX12_again_114 (by decide) (fun c3 => ?_) (fun c3 => ?_)
                  · have c3 : 24 ≤ k := (gLe (a := 24) (b := k) rfl rfl (by omega) (by omega)).mp c3
                    rw [hk] at i7
                    have h1 : gSg G b (gLM G b (gR (gR (gR (gR (gR (gR (gR (gR (gR (gR (gR (gR (gR (gR (gR π 0 (ρ 0)) 1 (ρ 1)) 2 (ρ 2)) 3 (ρ 3)) 4 (ρ 4)) 5 (ρ 5)) 6 (ρ 6)) 7 (ρ 7)) 8 (π 8)) 9 (π 9)) 10 (π 10)) 11 (π 11)) 12 (π 12)) 13 (π 13)) 14 (π 14)) μ f g) H := gSg_set h1 8 (gAt_agr i7 (h1 8 _ rfl)) (fun _ _ => rfl)
                    refine lv_iconst (v := 0) hx hb dX12_again_135 (by decide) ?_
                    refine lv_istore_n (lv' := [(2, .int 0), (0, .ref b), (1, .ref (b + 25))]) hx hb dX12_again_136 rfl hl (by decide) rfl (fun ls hl => ?_)
                    have loop3 : ∀ (d k : Nat), k + d = 5 → ∀ (A8 : Nat → Int32) (A9 : Nat → Int32) (A10 : Nat → Int32), gAgr (fun j => j < k) A8 (ρ 8) → gAgr (fun j => j < k) A9 (ρ 9) → gAgr (fun j => j < k) A10 (ρ 10) → ∀ (H : Heap) (locs : List Loc), gSg G b (gLM G b (gR (gR (gR (gR (gR (gR (gR (gR (gR (gR (gR (gR (gR (gR (gR π 0 (ρ 0)) 1 (ρ 1)) 2 (ρ 2)) 3 (ρ 3)) 4 (ρ 4)) 5 (ρ 5)) 6 (ρ 6)) 7 (ρ 7)) 8 A8) 9 A9) 10 A10) 11 (π 11)) 12 (π 12)) 13 (π 13)) 14 (π 14)) μ f g) H → va_S (fun q => b ≤ q ∧ q < b + 30) s.heap H locs → ∀ ls, lv_has ls 3 [(0, .ref b), (1, .ref (b + 25)), (2, .int (nI k))] → W pp_ l ee_ (gRm 0 0) s mm_ aa_ below meth cc_ H locs 0 0 Q (F0 mm_ 137 ls []) := by
                      intro d
                      induction d with
                      | zero =>
                        intro k hk A8 A9 A10 i8 i9 i10 H locs h1 hS ls hl
                        have hk : k = 5 := by omega
                        refine lv_iload_n hx hb dX12_again_137 rfl (lv_at hl 2 rfl) ?_
                        refine lv_iconst (v := 5) hx hb dX12_again_138 (by decide) ?_
                        refine lv_icmp_ge (tgt := 184) hx hb dX12_again_139 (by decide) (fun c4 => ?_) (fun c4 => ?_)
                        · have c4 : 5 ≤ k := (gLe (a := 5) (b := k) rfl rfl (by omega) (by omega)).mp c4
                          rw [hk] at i8
                          have h1 : gSg G b (gLM G b (gR (gR (gR (gR (gR (gR (gR (gR (gR (gR (gR (gR (gR (gR (gR π 0 (ρ 0)) 1 (ρ 1)) 2 (ρ 2)) 3 (ρ 3)) 4 (ρ 4)) 5 (ρ 5)) 6 (ρ 6)) 7 (ρ 7)) 8 (ρ 8)) 9 A9) 10 A10) 11 (π 11)) 12 (π 12)) 13 (π 13)) 14 (π 14)) μ f g) H := gSg_set h1 17 (gAt_agr i8 (h1 17 _ rfl)) (fun _ _ => rfl)
                          rw [hk] at i9
                          have h1 : gSg G b (gLM G b (gR (gR (gR (gR (gR (gR (gR (gR (gR (gR (gR (gR (gR (gR (gR π 0 (ρ 0)) 1 (ρ 1)) 2 (ρ 2)) 3 (ρ 3)) 4 (ρ 4)) 5 (ρ 5)) 6 (ρ 6)) 7 (ρ 7)) 8 (ρ 8)) 9 (ρ 9)) 10 A10) 11 (π 11)) 12 (π 12)) 13 (π 13)) 14 (π 14)) μ f g) H := gSg_set h1 18 (gAt_agr i9 (h1 18 _ rfl)) (fun _ _ => rfl)
                          rw [hk] at i10
                          have h1 : gSg G b (gLM G b (gR (gR (gR (gR (gR (gR (gR (gR (gR (gR (gR (gR (gR (gR (gR π 0 (ρ 0)) 1 (ρ 1)) 2 (ρ 2)) 3 (ρ 3)) 4 (ρ 4)) 5 (ρ 5)) 6 (ρ 6)) 7 (ρ 7)) 8 (ρ 8)) 9 (ρ 9)) 10 (ρ 10)) 11 (π 11)) 12 (π 12)) 13 (π 13)) 14 (π 14)) μ f g) H := gSg_set h1 19 (gAt_agr i10 (h1 19 _ rfl)) (fun _ _ => rfl)
                          refine lv_iconst (v := 0) hx hb dX12_again_184 (by decide) ?_
                          refine lv_istore_n (lv' := [(2, .int 0), (0, .ref b), (1, .ref (b + 25))]) hx hb dX12_again_185 rfl hl (by decide) rfl (fun ls hl => ?_)
                          have loop4 : ∀ (d k : Nat), k + d = 10 → ∀ (A11 : Nat → Int32) (A12 : Nat → Int32), gAgr (fun j => j < k) A11 (ρ 11) → gAgr (fun j => j < k) A12 (ρ 12) → ∀ (H : Heap) (locs : List Loc), gSg G b (gLM G b (gR (gR (gR (gR (gR (gR (gR (gR (gR (gR (gR (gR (gR (gR (gR π 0 (ρ 0)) 1 (ρ 1)) 2 (ρ 2)) 3 (ρ 3)) 4 (ρ 4)) 5 (ρ 5)) 6 (ρ 6)) 7 (ρ 7)) 8 (ρ 8)) 9 (ρ 9)) 10 (ρ 10)) 11 A11) 12 A12) 13 (π 13)) 14 (π 14)) μ f g) H → va_S (fun q => b ≤ q ∧ q < b + 30) s.heap H locs → ∀ ls, lv_has ls 3 [(0, .ref b), (1, .ref (b + 25)), (2, .int (nI k))] → W pp_ l ee_ (gRm 0 0) s mm_ aa_ below meth cc_ H locs 0 0 Q (F0 mm_ 186 ls []) := by
                            intro d
                            induction d with
                            | zero =>
                              intro k hk A11 A12 i11 i12 H locs h1 hS ls hl
                              have hk : k = 10 := by omega
                              refine lv_iload_n hx hb dX12_again_186 rfl (lv_at hl 2 rfl) ?_
                              refine lv_bipush (v := 10) hx hb dX12_again_187 (by decide) ?_
                              refine lv_icmp_ge (tgt := 222) hx hb dX12_again_189 (by decide) (fun c5 => ?_) (fun c5 => ?_)
                              · have c5 : 10 ≤ k := (gLe (a := 10) (b := k) rfl rfl (by omega) (by omega)).mp c5
                                rw [hk] at i11
                                have h1 : gSg G b (gLM G b (gR (gR (gR (gR (gR (gR (gR (gR (gR (gR (gR (gR (gR (gR (gR π 0 (ρ 0)) 1 (ρ 1)) 2 (ρ 2)) 3 (ρ 3)) 4 (ρ 4)) 5 (ρ 5)) 6 (ρ 6)) 7 (ρ 7)) 8 (ρ 8)) 9 (ρ 9)) 10 (ρ 10)) 11 (ρ 11)) 12 A12) 13 (π 13)) 14 (π 14)) μ f g) H := gSg_set h1 20 (gAt_agr i11 (h1 20 _ rfl)) (fun _ _ => rfl)
                                rw [hk] at i12
                                have h1 : gSg G b (gLM G b (gR (gR (gR (gR (gR (gR (gR (gR (gR (gR (gR (gR (gR (gR (gR π 0 (ρ 0)) 1 (ρ 1)) 2 (ρ 2)) 3 (ρ 3)) 4 (ρ 4)) 5 (ρ 5)) 6 (ρ 6)) 7 (ρ 7)) 8 (ρ 8)) 9 (ρ 9)) 10 (ρ 10)) 11 (ρ 11)) 12 (ρ 12)) 13 (π 13)) 14 (π 14)) μ f g) H := gSg_set h1 21 (gAt_agr i12 (h1 21 _ rfl)) (fun _ _ => rfl)
                                refine lv_iconst (v := 0) hx hb dX12_again_222 (by decide) ?_
                                refine lv_istore_n (lv' := [(2, .int 0), (0, .ref b), (1, .ref (b + 25))]) hx hb dX12_again_223 rfl hl (by decide) rfl (fun ls hl => ?_)
                                have loop5 : ∀ (d k : Nat), k + d = 8 → ∀ (A13 : Nat → Int32) (A14 : Nat → Int32), gAgr (fun j => j < k) A13 (ρ 13) → gAgr (fun j => j < k) A14 (ρ 14) → ∀ (H : Heap) (locs : List Loc), gSg G b (gLM G b (gR (gR (gR (gR (gR (gR (gR (gR (gR (gR (gR (gR (gR (gR (gR π 0 (ρ 0)) 1 (ρ 1)) 2 (ρ 2)) 3 (ρ 3)) 4 (ρ 4)) 5 (ρ 5)) 6 (ρ 6)) 7 (ρ 7)) 8 (ρ 8)) 9 (ρ 9)) 10 (ρ 10)) 11 (ρ 11)) 12 (ρ 12)) 13 A13) 14 A14) μ f g) H → va_S (fun q => b ≤ q ∧ q < b + 30) s.heap H locs → ∀ ls, lv_has ls 3 [(0, .ref b), (1, .ref (b + 25)), (2, .int (nI k))] → W pp_ l ee_ (gRm 0 0) s mm_ aa_ below meth cc_ H locs 0 0 Q (F0 mm_ 224 ls []) := by
                                  intro d
                                  induction d with
                                  | zero =>
                                    intro k hk A13 A14 i13 i14 H locs h1 hS ls hl
                                    have hk : k = 8 := by omega
                                    refine lv_iload_n hx hb dX12_again_224 rfl (lv_at hl 2 rfl) ?_
                                    refine lv_bipush (v := 8) hx hb dX12_again_225 (by decide) ?_
                                    refine lv_icmp_ge (tgt := 260) hx hb dX12_again_227 (by decide) (fun c6 => ?_) (fun c6 => ?_)
                                    · have c6 : 8 ≤ k := (gLe (a := 8) (b := k) rfl rfl (by omega) (by omega)).mp c6
                                      rw [hk] at i13
                                      have h1 : gSg G b (gLM G b (gR (gR (gR (gR (gR (gR (gR (gR (gR (gR (gR (gR (gR (gR (gR π 0 (ρ 0)) 1 (ρ 1)) 2 (ρ 2)) 3 (ρ 3)) 4 (ρ 4)) 5 (ρ 5)) 6 (ρ 6)) 7 (ρ 7)) 8 (ρ 8)) 9 (ρ 9)) 10 (ρ 10)) 11 (ρ 11)) 12 (ρ 12)) 13 (ρ 13)) 14 A14) μ f g) H := gSg_set h1 22 (gAt_agr i13 (h1 22 _ rfl)) (fun _ _ => rfl)
                                      rw [hk] at i14
                                      have h1 : gSg G b (gLM G b (gR (gR (gR (gR (gR (gR (gR (gR (gR (gR (gR (gR (gR (gR (gR π 0 (ρ 0)) 1 (ρ 1)) 2 (ρ 2)) 3 (ρ 3)) 4 (ρ 4)) 5 (ρ 5)) 6 (ρ 6)) 7 (ρ 7)) 8 (ρ 8)) 9 (ρ 9)) 10 (ρ 10)) 11 (ρ 11)) 12 (ρ 12)) 13 (ρ 13)) 14 (ρ 14)) μ f g) H := gSg_set h1 23 (gAt_agr i14 (h1 23 _ rfl)) (fun _ _ => rfl)
                                      refine lv_aload_n hx hb dX12_again_260 rfl (lv_at hl 0 rfl) ?_
                                      refine lv_aload_n hx hb dX12_again_261 rfl (lv_at hl 1 rfl) ?_
                                      refine lv_sipush (v := 129) hx hb dX12_again_262 (by decide) ?_
                                      refine g_ia (j := 129) (v := ρ 15 0) hx hb hK (h1 25 _ rfl) rfl (by omega) (Nat.le_of_ble_eq_true rfl) ((hEn 129 (by omega)).trans gEn_s0) dX12_again_265 ?_
                                      refine g_put (T := TX12) (ci := 12) (N := 45) (ty0 := tyX12) hx hb hown hK hS (gY_X12 hT) tyX12_ok nmX12 rfl (h1 0 _ rfl) 3 (by decide) (hT _ gf_X12_105) rfl rfl rfl (Nat.le_of_ble_eq_true rfl) (by omega) dX12_again_266 (fun H7 locs c8 oq hS => ?_)
                                      have h1 : gSg G b (gLM G b (gU (gR (gR (gR (gR (gR (gR (gR (gR (gR (gR (gR (gR (gR (gR (gR π 0 (ρ 0)) 1 (ρ 1)) 2 (ρ 2)) 3 (ρ 3)) 4 (ρ 4)) 5 (ρ 5)) 6 (ρ 6)) 7 (ρ 7)) 8 (ρ 8)) 9 (ρ 9)) 10 (ρ 10)) 11 (ρ 11)) 12 (ρ 12)) 13 (ρ 13)) 14 (ρ 14)) 15 0 (ρ 15 0)) μ f g) H7 := gSg_set h1 0 c8 oq
                                      refine lv_aload_n hx hb dX12_again_269 rfl (lv_at hl 0 rfl) ?_
                                      refine lv_aload_n hx hb dX12_again_270 rfl (lv_at hl 1 rfl) ?_
                                      refine lv_sipush (v := 130) hx hb dX12_again_271 (by decide) ?_
                                      refine g_ia (j := 130) (v := ρ 15 1) hx hb hK (h1 25 _ rfl) rfl (by omega) (Nat.le_of_ble_eq_true rfl) ((hEn 130 (by omega)).trans gEn_s1) dX12_again_274 ?_
                                      refine g_put (T := TX12) (ci := 12) (N := 45) (ty0 := tyX12) hx hb hown hK hS (gY_X12 hT) tyX12_ok nmX12 rfl (h1 0 _ rfl) 2 (by decide) (hT _ gf_X12_241) rfl rfl rfl (Nat.le_of_ble_eq_true rfl) (by omega) dX12_again_275 (fun H9 locs c10 oq hS => ?_)
                                      have h1 : gSg G b (gLM G b (gU (gU (gR (gR (gR (gR (gR (gR (gR (gR (gR (gR (gR (gR (gR (gR (gR π 0 (ρ 0)) 1 (ρ 1)) 2 (ρ 2)) 3 (ρ 3)) 4 (ρ 4)) 5 (ρ 5)) 6 (ρ 6)) 7 (ρ 7)) 8 (ρ 8)) 9 (ρ 9)) 10 (ρ 10)) 11 (ρ 11)) 12 (ρ 12)) 13 (ρ 13)) 14 (ρ 14)) 15 0 (ρ 15 0)) 15 1 (ρ 15 1)) μ f g) H9 := gSg_set h1 0 c10 oq
                                      refine lv_aload_n hx hb dX12_again_278 rfl (lv_at hl 0 rfl) ?_
                                      refine lv_aload_n hx hb dX12_again_279 rfl (lv_at hl 1 rfl) ?_
                                      refine lv_sipush (v := 131) hx hb dX12_again_280 (by decide) ?_
                                      refine g_ia (j := 131) (v := ρ 15 2) hx hb hK (h1 25 _ rfl) rfl (by omega) (Nat.le_of_ble_eq_true rfl) ((hEn 131 (by omega)).trans gEn_s2) dX12_again_283 ?_
                                      refine g_put (T := TX12) (ci := 12) (N := 45) (ty0 := tyX12) hx hb hown hK hS (gY_X12 hT) tyX12_ok nmX12 rfl (h1 0 _ rfl) 10 (by decide) (hT _ gf_X12_216) rfl rfl rfl (Nat.le_of_ble_eq_true rfl) (by omega) dX12_again_284 (fun H11 locs c12 oq hS => ?_)
                                      have h1 : gSg G b (gLM G b (gU (gU (gU (gR (gR (gR (gR (gR (gR (gR (gR (gR (gR (gR (gR (gR (gR (gR π 0 (ρ 0)) 1 (ρ 1)) 2 (ρ 2)) 3 (ρ 3)) 4 (ρ 4)) 5 (ρ 5)) 6 (ρ 6)) 7 (ρ 7)) 8 (ρ 8)) 9 (ρ 9)) 10 (ρ 10)) 11 (ρ 11)) 12 (ρ 12)) 13 (ρ 13)) 14 (ρ 14)) 15 0 (ρ 15 0)) 15 1 (ρ 15 1)) 15 2 (ρ 15 2)) μ f g) H11 := gSg_set h1 0 c12 oq
                                      refine lv_aload_n hx hb dX12_again_287 rfl (lv_at hl 0 rfl) ?_
                                      refine lv_aload_n hx hb dX12_again_288 rfl (lv_at hl 1 rfl) ?_
                                      refine lv_sipush (v := 132) hx hb dX12_again_289 (by decide) ?_
                                      refine g_ia (j := 132) (v := ρ 15 3) hx hb hK (h1 25 _ rfl) rfl (by omega) (Nat.le_of_ble_eq_true rfl) ((hEn 132 (by omega)).trans gEn_s3) dX12_again_292 ?_
                                      refine g_put (T := TX12) (ci := 12) (N := 45) (ty0 := tyX12) hx hb hown hK hS (gY_X12 hT) tyX12_ok nmX12 rfl (h1 0 _ rfl) 27 (by decide) (hT _ gf_X12_272) rfl rfl rfl (Nat.le_of_ble_eq_true rfl) (by omega) dX12_again_293 (fun H13 locs c14 oq hS => ?_)
                                      have h1 : gSg G b (gLM G b (gU (gU (gU (gU (gR (gR (gR (gR (gR (gR (gR (gR (gR (gR (gR (gR (gR (gR (gR π 0 (ρ 0)) 1 (ρ 1)) 2 (ρ 2)) 3 (ρ 3)) 4 (ρ 4)) 5 (ρ 5)) 6 (ρ 6)) 7 (ρ 7)) 8 (ρ 8)) 9 (ρ 9)) 10 (ρ 10)) 11 (ρ 11)) 12 (ρ 12)) 13 (ρ 13)) 14 (ρ 14)) 15 0 (ρ 15 0)) 15 1 (ρ 15 1)) 15 2 (ρ 15 2)) 15 3 (ρ 15 3)) μ f g) H13 := gSg_set h1 0 c14 oq
                                      refine lv_aload_n hx hb dX12_again_296 rfl (lv_at hl 0 rfl) ?_
                                      refine lv_aload_n hx hb dX12_again_297 rfl (lv_at hl 1 rfl) ?_
                                      refine lv_sipush (v := 133) hx hb dX12_again_298 (by decide) ?_
                                      refine g_ia (j := 133) (v := ρ 15 4) hx hb hK (h1 25 _ rfl) rfl (by omega) (Nat.le_of_ble_eq_true rfl) ((hEn 133 (by omega)).trans gEn_s4) dX12_again_301 ?_
                                      refine g_put (T := TX12) (ci := 12) (N := 45) (ty0 := tyX12) hx hb hown hK hS (gY_X12 hT) tyX12_ok nmX12 rfl (h1 0 _ rfl) 31 (by decide) (hT _ gf_X12_290) rfl rfl rfl (Nat.le_of_ble_eq_true rfl) (by omega) dX12_again_302 (fun H15 locs c16 oq hS => ?_)
                                      have h1 : gSg G b (gLM G b (gU (gU (gU (gU (gU (gR (gR (gR (gR (gR (gR (gR (gR (gR (gR (gR (gR (gR (gR (gR π 0 (ρ 0)) 1 (ρ 1)) 2 (ρ 2)) 3 (ρ 3)) 4 (ρ 4)) 5 (ρ 5)) 6 (ρ 6)) 7 (ρ 7)) 8 (ρ 8)) 9 (ρ 9)) 10 (ρ 10)) 11 (ρ 11)) 12 (ρ 12)) 13 (ρ 13)) 14 (ρ 14)) 15 0 (ρ 15 0)) 15 1 (ρ 15 1)) 15 2 (ρ 15 2)) 15 3 (ρ 15 3)) 15 4 (ρ 15 4)) μ f g) H15 := gSg_set h1 0 c16 oq
                                      refine lv_aload_n hx hb dX12_again_305 rfl (lv_at hl 0 rfl) ?_
                                      refine lv_aload_n hx hb dX12_again_306 rfl (lv_at hl 1 rfl) ?_
                                      refine lv_sipush (v := 134) hx hb dX12_again_307 (by decide) ?_
                                      refine g_ia (j := 134) (v := ρ 15 5) hx hb hK (h1 25 _ rfl) rfl (by omega) (Nat.le_of_ble_eq_true rfl) ((hEn 134 (by omega)).trans gEn_s5) dX12_again_310 ?_
                                      refine g_put (T := TX12) (ci := 12) (N := 45) (ty0 := tyX12) hx hb hown hK hS (gY_X12 hT) tyX12_ok nmX12 rfl (h1 0 _ rfl) 34 (by decide) (hT _ gf_X12_296) rfl rfl rfl (Nat.le_of_ble_eq_true rfl) (by omega) dX12_again_311 (fun H17 locs c18 oq hS => ?_)
                                      have h1 : gSg G b (gLM G b (gU (gU (gU (gU (gU (gU (gR (gR (gR (gR (gR (gR (gR (gR (gR (gR (gR (gR (gR (gR (gR π 0 (ρ 0)) 1 (ρ 1)) 2 (ρ 2)) 3 (ρ 3)) 4 (ρ 4)) 5 (ρ 5)) 6 (ρ 6)) 7 (ρ 7)) 8 (ρ 8)) 9 (ρ 9)) 10 (ρ 10)) 11 (ρ 11)) 12 (ρ 12)) 13 (ρ 13)) 14 (ρ 14)) 15 0 (ρ 15 0)) 15 1 (ρ 15 1)) 15 2 (ρ 15 2)) 15 3 (ρ 15 3)) 15 4 (ρ 15 4)) 15 5 (ρ 15 5)) μ f g) H17 := gSg_set h1 0 c18 oq
                                      refine lv_aload_n hx hb dX12_again_314 rfl (lv_at hl 0 rfl) ?_
                                      refine lv_aload_n hx hb dX12_again_315 rfl (lv_at hl 1 rfl) ?_
                                      refine lv_sipush (v := 135) hx hb dX12_again_316 (by decide) ?_
                                      refine g_ia (j := 135) (v := ρ 15 6) hx hb hK (h1 25 _ rfl) rfl (by omega) (Nat.le_of_ble_eq_true rfl) ((hEn 135 (by omega)).trans gEn_s6) dX12_again_319 ?_
                                      refine g_put (T := TX12) (ci := 12) (N := 45) (ty0 := tyX12) hx hb hown hK hS (gY_X12 hT) tyX12_ok nmX12 rfl (h1 0 _ rfl) 18 (by decide) (hT _ gf_X12_101) rfl rfl rfl (Nat.le_of_ble_eq_true rfl) (by omega) dX12_again_320 (fun H19 locs c20 oq hS => ?_)
                                      have h1 : gSg G b (gLM G b (gU (gU (gU (gU (gU (gU (gU (gR (gR (gR (gR (gR (gR (gR (gR (gR (gR (gR (gR (gR (gR (gR π 0 (ρ 0)) 1 (ρ 1)) 2 (ρ 2)) 3 (ρ 3)) 4 (ρ 4)) 5 (ρ 5)) 6 (ρ 6)) 7 (ρ 7)) 8 (ρ 8)) 9 (ρ 9)) 10 (ρ 10)) 11 (ρ 11)) 12 (ρ 12)) 13 (ρ 13)) 14 (ρ 14)) 15 0 (ρ 15 0)) 15 1 (ρ 15 1)) 15 2 (ρ 15 2)) 15 3 (ρ 15 3)) 15 4 (ρ 15 4)) 15 5 (ρ 15 5)) 15 6 (ρ 15 6)) μ f g) H19 := gSg_set h1 0 c20 oq
                                      rw [← hQ]
                                      exact g_vret hx hb hr hlk hS dX12_again_323 h1
                                    · have c6 : ¬ 8 ≤ k := fun z => c6 ((gLe (a := 8) (b := k) rfl rfl (by omega) (by omega)).mpr z)
                                      exact absurd c6 (by omega)
                                  | succ d ih =>
                                    intro k hk A13 A14 i13 i14 H locs h1 hS ls hl
                                    refine lv_iload_n hx hb dX12_again_224 rfl (lv_at hl 2 rfl) ?_
                                    refine lv_bipush (v := 8) hx hb dX12_again_225 (by decide) ?_
                                    refine lv_icmp_ge (tgt := 260) hx hb dX12_again_227 (by decide) (fun c21 => ?_) (fun c21 => ?_)
                                    · have c21 : 8 ≤ k := (gLe (a := 8) (b := k) rfl rfl (by omega) (by omega)).mp c21
                                      exact absurd c21 (by omega)
                                    · have c21 : ¬ 8 ≤ k := fun z => c21 ((gLe (a := 8) (b := k) rfl rfl (by omega) (by omega)).mpr z)
                                      refine lv_aload_n hx hb dX12_again_230 rfl (lv_at hl 0 rfl) ?_
                                      refine g_get (v := .ref (b + 22)) (T := TX12) (ci := 12) (N := 45) hx hb hown hK (gY_X12 hT) rfl (h1 0 _ rfl) 35 (by decide) (hT _ gf_X12_76) rfl dX12_again_231 ?_
                                      refine lv_iload_n hx hb dX12_again_234 rfl (lv_at hl 2 rfl) ?_
                                      refine lv_aload_n hx hb dX12_again_235 rfl (lv_at hl 1 rfl) ?_
                                      refine lv_bipush (v := 113) hx hb dX12_again_236 (by decide) ?_
                                      refine lv_iload_n hx hb dX12_again_238 rfl (lv_at hl 2 rfl) ?_
                                      refine lv_iadd hx hb dX12_again_239 ?_
                                      refine g_ia (j := 113 + k) (v := ρ 13 k) hx hb hK (h1 25 _ rfl) (gAdd rfl rfl) (by omega) (Nat.le_of_ble_eq_true rfl) ((hEn (113 + k) (by omega)).trans (gEn_13 (by omega))) dX12_again_240 ?_
                                      refine g_is (j := k) hx hb hK hS (h1 22 _ rfl) rfl (by omega) (Nat.le_of_ble_eq_true rfl) (by omega) dX12_again_241 (fun H22 locs c23 oq hS => ?_)
                                      have h1 : gSg G b (gLM G b (gR (gR (gR (gR (gR (gR (gR (gR (gR (gR (gR (gR (gR (gR (gR π 0 (ρ 0)) 1 (ρ 1)) 2 (ρ 2)) 3 (ρ 3)) 4 (ρ 4)) 5 (ρ 5)) 6 (ρ 6)) 7 (ρ 7)) 8 (ρ 8)) 9 (ρ 9)) 10 (ρ 10)) 11 (ρ 11)) 12 (ρ 12)) 13 (upd A13 k (ρ 13 k))) 14 A14) μ f g) H22 := gSg_set h1 22 c23 oq
                                      have i13 := gAgr_u i13 (E := ρ 13) (i := k) (x := ρ 13 k) rfl
                                      generalize upd A13 k (ρ 13 k) = A13 at h1 i13
                                      refine lv_aload_n hx hb dX12_again_242 rfl (lv_at hl 0 rfl) ?_
                                      refine g_get (v := .ref (b + 23)) (T := TX12) (ci := 12) (N := 45) hx hb hown hK (gY_X12 hT) rfl (h1 0 _ rfl) 36 (by decide) (hT _ gf_X12_79) rfl dX12_again_243 ?_
                                      refine lv_iload_n hx hb dX12_again_246 rfl (lv_at hl 2 rfl) ?_
                                      refine lv_aload_n hx hb dX12_again_247 rfl (lv_at hl 1 rfl) ?_
                                      refine lv_bipush (v := 121) hx hb dX12_again_248 (by decide) ?_
                                      refine lv_iload_n hx hb dX12_again_250 rfl (lv_at hl 2 rfl) ?_
                                      refine lv_iadd hx hb dX12_again_251 ?_
                                      refine g_ia (j := 121 + k) (v := ρ 14 k) hx hb hK (h1 25 _ rfl) (gAdd rfl rfl) (by omega) (Nat.le_of_ble_eq_true rfl) ((hEn (121 + k) (by omega)).trans (gEn_14 (by omega))) dX12_again_252 ?_
                                      refine g_is (j := k) hx hb hK hS (h1 23 _ rfl) rfl (by omega) (Nat.le_of_ble_eq_true rfl) (by omega) dX12_again_253 (fun H24 locs c25 oq hS => ?_)
                                      have h1 : gSg G b (gLM G b (gR (gR (gR (gR (gR (gR (gR (gR (gR (gR (gR (gR (gR (gR (gR π 0 (ρ 0)) 1 (ρ 1)) 2 (ρ 2)) 3 (ρ 3)) 4 (ρ 4)) 5 (ρ 5)) 6 (ρ 6)) 7 (ρ 7)) 8 (ρ 8)) 9 (ρ 9)) 10 (ρ 10)) 11 (ρ 11)) 12 (ρ 12)) 13 A13) 14 (upd A14 k (ρ 14 k))) μ f g) H24 := gSg_set h1 23 c25 oq
                                      have i14 := gAgr_u i14 (E := ρ 14) (i := k) (x := ρ 14 k) rfl
                                      generalize upd A14 k (ρ 14 k) = A14 at h1 i14
                                      refine lv_iinc (v := nI (k + 1)) (lv' := [(2, .int (nI (k + 1))), (0, .ref b), (1, .ref (b + 25))]) hx hb dX12_again_254 hl (k := 2) rfl (gAdd rfl (show Int32.ofInt 1 = nI 1 from rfl)) (by decide) rfl (fun ls hl => ?_)
                                      refine lv_goto (tgt := 224) hx hb dX12_again_257 (by decide) ?_
                                      exact ih (k + 1) (by omega) A13 A14 (gAgr_w i13 (fun j hj => by first | omega | (simp only; omega))) (gAgr_w i14 (fun j hj => by first | omega | (simp only; omega))) _ _ h1 hS _ (by have hl := lv_sub hl [1, 2, 0] rfl; exact hl)
                                exact loop5 (8 - 0) 0 (by first | omega | simp) _ _ (fun j hj => absurd hj (by omega)) (fun j hj => absurd hj (by omega)) _ _ h1 hS _ (lv_sub hl [1, 2, 0] rfl)
                              · have c5 : ¬ 10 ≤ k := fun z => c5 ((gLe (a := 10) (b := k) rfl rfl (by omega) (by omega)).mpr z)
                                exact absurd c5 (by omega)
                            | succ d ih =>
                              intro k hk A11 A12 i11 i12 H locs h1 hS ls hl
                              refine lv_iload_n hx hb dX12_again_186 rfl (lv_at hl 2 rfl) ?_
                              refine lv_bipush (v := 10) hx hb dX12_again_187 (by decide) ?_
                              refine lv_icmp_ge (tgt := 222) hx hb dX12_again_189 (by decide) (fun c26 => ?_) (fun c26 => ?_)
                              · have c26 : 10 ≤ k := (gLe (a := 10) (b := k) rfl rfl (by omega) (by omega)).mp c26
                                exact absurd c26 (by omega)
                              · have c26 : ¬ 10 ≤ k := fun z => c26 ((gLe (a := 10) (b := k) rfl rfl (by omega) (by omega)).mpr z)
                                refine lv_aload_n hx hb dX12_again_192 rfl (lv_at hl 0 rfl) ?_
                                refine g_get (v := .ref (b + 20)) (T := TX12) (ci := 12) (N := 45) hx hb hown hK (gY_X12 hT) rfl (h1 0 _ rfl) 32 (by decide) (hT _ gf_X12_70) rfl dX12_again_193 ?_
                                refine lv_iload_n hx hb dX12_again_196 rfl (lv_at hl 2 rfl) ?_
                                refine lv_aload_n hx hb dX12_again_197 rfl (lv_at hl 1 rfl) ?_
                                refine lv_bipush (v := 93) hx hb dX12_again_198 (by decide) ?_
                                refine lv_iload_n hx hb dX12_again_200 rfl (lv_at hl 2 rfl) ?_
                                refine lv_iadd hx hb dX12_again_201 ?_
                                refine g_ia (j := 93 + k) (v := ρ 11 k) hx hb hK (h1 25 _ rfl) (gAdd rfl rfl) (by omega) (Nat.le_of_ble_eq_true rfl) ((hEn (93 + k) (by omega)).trans (gEn_11 (by omega))) dX12_again_202 ?_
                                refine g_is (j := k) hx hb hK hS (h1 20 _ rfl) rfl (by omega) (Nat.le_of_ble_eq_true rfl) (by omega) dX12_again_203 (fun H27 locs c28 oq hS => ?_)
                                have h1 : gSg G b (gLM G b (gR (gR (gR (gR (gR (gR (gR (gR (gR (gR (gR (gR (gR (gR (gR π 0 (ρ 0)) 1 (ρ 1)) 2 (ρ 2)) 3 (ρ 3)) 4 (ρ 4)) 5 (ρ 5)) 6 (ρ 6)) 7 (ρ 7)) 8 (ρ 8)) 9 (ρ 9)) 10 (ρ 10)) 11 (upd A11 k (ρ 11 k))) 12 A12) 13 (π 13)) 14 (π 14)) μ f g) H27 := gSg_set h1 20 c28 oq
                                have i11 := gAgr_u i11 (E := ρ 11) (i := k) (x := ρ 11 k) rfl
                                generalize upd A11 k (ρ 11 k) = A11 at h1 i11
                                refine lv_aload_n hx hb dX12_again_204 rfl (lv_at hl 0 rfl) ?_
                                refine g_get (v := .ref (b + 21)) (T := TX12) (ci := 12) (N := 45) hx hb hown hK (gY_X12 hT) rfl (h1 0 _ rfl) 33 (by decide) (hT _ gf_X12_73) rfl dX12_again_205 ?_
                                refine lv_iload_n hx hb dX12_again_208 rfl (lv_at hl 2 rfl) ?_
                                refine lv_aload_n hx hb dX12_again_209 rfl (lv_at hl 1 rfl) ?_
                                refine lv_bipush (v := 103) hx hb dX12_again_210 (by decide) ?_
                                refine lv_iload_n hx hb dX12_again_212 rfl (lv_at hl 2 rfl) ?_
                                refine lv_iadd hx hb dX12_again_213 ?_
                                refine g_ia (j := 103 + k) (v := ρ 12 k) hx hb hK (h1 25 _ rfl) (gAdd rfl rfl) (by omega) (Nat.le_of_ble_eq_true rfl) ((hEn (103 + k) (by omega)).trans (gEn_12 (by omega))) dX12_again_214 ?_
                                refine g_is (j := k) hx hb hK hS (h1 21 _ rfl) rfl (by omega) (Nat.le_of_ble_eq_true rfl) (by omega) dX12_again_215 (fun H29 locs c30 oq hS => ?_)
                                have h1 : gSg G b (gLM G b (gR (gR (gR (gR (gR (gR (gR (gR (gR (gR (gR (gR (gR (gR (gR π 0 (ρ 0)) 1 (ρ 1)) 2 (ρ 2)) 3 (ρ 3)) 4 (ρ 4)) 5 (ρ 5)) 6 (ρ 6)) 7 (ρ 7)) 8 (ρ 8)) 9 (ρ 9)) 10 (ρ 10)) 11 A11) 12 (upd A12 k (ρ 12 k))) 13 (π 13)) 14 (π 14)) μ f g) H29 := gSg_set h1 21 c30 oq
                                have i12 := gAgr_u i12 (E := ρ 12) (i := k) (x := ρ 12 k) rfl
                                generalize upd A12 k (ρ 12 k) = A12 at h1 i12
                                refine lv_iinc (v := nI (k + 1)) (lv' := [(2, .int (nI (k + 1))), (0, .ref b), (1, .ref (b + 25))]) hx hb dX12_again_216 hl (k := 2) rfl (gAdd rfl (show Int32.ofInt 1 = nI 1 from rfl)) (by decide) rfl (fun ls hl => ?_)
                                refine lv_goto (tgt := 186) hx hb dX12_again_219 (by decide) ?_
                                exact ih (k + 1) (by omega) A11 A12 (gAgr_w i11 (fun j hj => by first | omega | (simp only; omega))) (gAgr_w i12 (fun j hj => by first | omega | (simp only; omega))) _ _ h1 hS _ (by have hl := lv_sub hl [1, 2, 0] rfl; exact hl)
                          exact loop4 (10 - 0) 0 (by first | omega | simp) _ _ (fun j hj => absurd hj (by omega)) (fun j hj => absurd hj (by omega)) _ _ h1 hS _ (lv_sub hl [1, 2, 0] rfl)
                        · have c4 : ¬ 5 ≤ k := fun z => c4 ((gLe (a := 5) (b := k) rfl rfl (by omega) (by omega)).mpr z)
                          exact absurd c4 (by omega)
                      | succ d ih =>
                        intro k hk A8 A9 A10 i8 i9 i10 H locs h1 hS ls hl
                        refine lv_iload_n hx hb dX12_again_137 rfl (lv_at hl 2 rfl) ?_
                        refine lv_iconst (v := 5) hx hb dX12_again_138 (by decide) ?_
                        refine lv_icmp_ge (tgt := 184) hx hb dX12_again_139 (by decide) (fun c31 => ?_) (fun c31 => ?_)
                        · have c31 : 5 ≤ k := (gLe (a := 5) (b := k) rfl rfl (by omega) (by omega)).mp c31
                          exact absurd c31 (by omega)
                        · have c31 : ¬ 5 ≤ k := fun z => c31 ((gLe (a := 5) (b := k) rfl rfl (by omega) (by omega)).mpr z)
                          refine lv_aload_n hx hb dX12_again_142 rfl (lv_at hl 0 rfl) ?_
                          refine g_get (v := .ref (b + 17)) (T := TX12) (ci := 12) (N := 45) hx hb hown hK (gY_X12 hT) rfl (h1 0 _ rfl) 28 (by decide) (hT _ gf_X12_61) rfl dX12_again_143 ?_
                          refine lv_iload_n hx hb dX12_again_146 rfl (lv_at hl 2 rfl) ?_
                          refine lv_aload_n hx hb dX12_again_147 rfl (lv_at hl 1 rfl) ?_
                          refine lv_bipush (v := 78) hx hb dX12_again_148 (by decide) ?_
                          refine lv_iload_n hx hb dX12_again_150 rfl (lv_at hl 2 rfl) ?_
                          refine lv_iadd hx hb dX12_again_151 ?_
                          refine g_ia (j := 78 + k) (v := ρ 8 k) hx hb hK (h1 25 _ rfl) (gAdd rfl rfl) (by omega) (Nat.le_of_ble_eq_true rfl) ((hEn (78 + k) (by omega)).trans (gEn_8 (by omega))) dX12_again_152 ?_
                          refine g_is (j := k) hx hb hK hS (h1 17 _ rfl) rfl (by omega) (Nat.le_of_ble_eq_true rfl) (by omega) dX12_again_153 (fun H32 locs c33 oq hS => ?_)
                          have h1 : gSg G b (gLM G b (gR (gR (gR (gR (gR (gR (gR (gR (gR (gR (gR (gR (gR (gR (gR π 0 (ρ 0)) 1 (ρ 1)) 2 (ρ 2)) 3 (ρ 3)) 4 (ρ 4)) 5 (ρ 5)) 6 (ρ 6)) 7 (ρ 7)) 8 (upd A8 k (ρ 8 k))) 9 A9) 10 A10) 11 (π 11)) 12 (π 12)) 13 (π 13)) 14 (π 14)) μ f g) H32 := gSg_set h1 17 c33 oq
                          have i8 := gAgr_u i8 (E := ρ 8) (i := k) (x := ρ 8 k) rfl
                          generalize upd A8 k (ρ 8 k) = A8 at h1 i8
                          refine lv_aload_n hx hb dX12_again_154 rfl (lv_at hl 0 rfl) ?_
                          refine g_get (v := .ref (b + 18)) (T := TX12) (ci := 12) (N := 45) hx hb hown hK (gY_X12 hT) rfl (h1 0 _ rfl) 29 (by decide) (hT _ gf_X12_64) rfl dX12_again_155 ?_
                          refine lv_iload_n hx hb dX12_again_158 rfl (lv_at hl 2 rfl) ?_
                          refine lv_aload_n hx hb dX12_again_159 rfl (lv_at hl 1 rfl) ?_
                          refine lv_bipush (v := 83) hx hb dX12_again_160 (by decide) ?_
                          refine lv_iload_n hx hb dX12_again_162 rfl (lv_at hl 2 rfl) ?_
                          refine lv_iadd hx hb dX12_again_163 ?_
                          refine g_ia (j := 83 + k) (v := ρ 9 k) hx hb hK (h1 25 _ rfl) (gAdd rfl rfl) (by omega) (Nat.le_of_ble_eq_true rfl) ((hEn (83 + k) (by omega)).trans (gEn_9 (by omega))) dX12_again_164 ?_
                          refine g_is (j := k) hx hb hK hS (h1 18 _ rfl) rfl (by omega) (Nat.le_of_ble_eq_true rfl) (by omega) dX12_again_165 (fun H34 locs c35 oq hS => ?_)
                          have h1 : gSg G b (gLM G b (gR (gR (gR (gR (gR (gR (gR (gR (gR (gR (gR (gR (gR (gR (gR π 0 (ρ 0)) 1 (ρ 1)) 2 (ρ 2)) 3 (ρ 3)) 4 (ρ 4)) 5 (ρ 5)) 6 (ρ 6)) 7 (ρ 7)) 8 A8) 9 (upd A9 k (ρ 9 k))) 10 A10) 11 (π 11)) 12 (π 12)) 13 (π 13)) 14 (π 14)) μ f g) H34 := gSg_set h1 18 c35 oq
                          have i9 := gAgr_u i9 (E := ρ 9) (i := k) (x := ρ 9 k) rfl
                          generalize upd A9 k (ρ 9 k) = A9 at h1 i9
                          refine lv_aload_n hx hb dX12_again_166 rfl (lv_at hl 0 rfl) ?_
                          refine g_get (v := .ref (b + 19)) (T := TX12) (ci := 12) (N := 45) hx hb hown hK (gY_X12 hT) rfl (h1 0 _ rfl) 30 (by decide) (hT _ gf_X12_67) rfl dX12_again_167 ?_
                          refine lv_iload_n hx hb dX12_again_170 rfl (lv_at hl 2 rfl) ?_
                          refine lv_aload_n hx hb dX12_again_171 rfl (lv_at hl 1 rfl) ?_
                          refine lv_bipush (v := 88) hx hb dX12_again_172 (by decide) ?_
                          refine lv_iload_n hx hb dX12_again_174 rfl (lv_at hl 2 rfl) ?_
                          refine lv_iadd hx hb dX12_again_175 ?_
                          refine g_ia (j := 88 + k) (v := ρ 10 k) hx hb hK (h1 25 _ rfl) (gAdd rfl rfl) (by omega) (Nat.le_of_ble_eq_true rfl) ((hEn (88 + k) (by omega)).trans (gEn_10 (by omega))) dX12_again_176 ?_
                          refine g_is (j := k) hx hb hK hS (h1 19 _ rfl) rfl (by omega) (Nat.le_of_ble_eq_true rfl) (by omega) dX12_again_177 (fun H36 locs c37 oq hS => ?_)
                          have h1 : gSg G b (gLM G b (gR (gR (gR (gR (gR (gR (gR (gR (gR (gR (gR (gR (gR (gR (gR π 0 (ρ 0)) 1 (ρ 1)) 2 (ρ 2)) 3 (ρ 3)) 4 (ρ 4)) 5 (ρ 5)) 6 (ρ 6)) 7 (ρ 7)) 8 A8) 9 A9) 10 (upd A10 k (ρ 10 k))) 11 (π 11)) 12 (π 12)) 13 (π 13)) 14 (π 14)) μ f g) H36 := gSg_set h1 19 c37 oq
                          have i10 := gAgr_u i10 (E := ρ 10) (i := k) (x := ρ 10 k) rfl
                          generalize upd A10 k (ρ 10 k) = A10 at h1 i10
                          refine lv_iinc (v := nI (k + 1)) (lv' := [(2, .int (nI (k + 1))), (0, .ref b), (1, .ref (b + 25))]) hx hb dX12_again_178 hl (k := 2) rfl (gAdd rfl (show Int32.ofInt 1 = nI 1 from rfl)) (by decide) rfl (fun ls hl => ?_)
                          refine lv_goto (tgt := 137) hx hb dX12_again_181 (by decide) ?_
                          exact ih (k + 1) (by omega) A8 A9 A10 (gAgr_w i8 (fun j hj => by first | omega | (simp only; omega))) (gAgr_w i9 (fun j hj => by first | omega | (simp only; omega))) (gAgr_w i10 (fun j hj => by first | omega | (simp only; omega))) _ _ h1 hS _ (by have hl := lv_sub hl [1, 2, 0] rfl; exact hl)
                    exact loop3 (5 - 0) 0 (by first | omega | simp) _ _ _ (fun j hj => absurd hj (by omega)) (fun j hj => absurd hj (by omega)) (fun j hj => absurd hj (by omega)) _ _ h1 hS _ (lv_sub hl [1, 2, 0] rfl)
                  · have c3 : ¬ 24 ≤ k := fun z => c3 ((gLe (a := 24) (b := k) rfl rfl (by omega) (by omega)).mpr z)
                    exact absurd c3 (by omega)
                | succ d ih =>
                  intro k hk A7 i7 H locs h1 hS ls hl
                  refine lv_iload_n hx hb dX12_again_111 rfl (lv_at hl 2 rfl) ?_
                  refine lv_bipush (v := 24) hx hb dX12_again_112 (by decide) ?_
                  refine lv_icmp_ge (tgt := 135) hx hb dX12_again_114 (by decide) (fun c38 => ?_) (fun c38 => ?_)
                  · have c38 : 24 ≤ k := (gLe (a := 24) (b := k) rfl rfl (by omega) (by omega)).mp c38
                    exact absurd c38 (by omega)
                  · have c38 : ¬ 24 ≤ k := fun z => c38 ((gLe (a := 24) (b := k) rfl rfl (by omega) (by omega)).mpr z)
                    refine lv_aload_n hx hb dX12_again_117 rfl (lv_at hl 0 rfl) ?_
                    refine g_get (v := .ref (b + 8)) (T := TX12) (ci := 12) (N := 45) hx hb hown hK (gY_X12 hT) rfl (h1 0 _ rfl) 9 (by decide) (hT _ gf_X12_33) rfl dX12_again_118 ?_
                    refine lv_iload_n hx hb dX12_again_121 rfl (lv_at hl 2 rfl) ?_
                    refine lv_aload_n hx hb dX12_again_122 rfl (lv_at hl 1 rfl) ?_
                    refine lv_bipush (v := 54) hx hb dX12_again_123 (by decide) ?_
                    refine lv_iload_n hx hb dX12_again_125 rfl (lv_at hl 2 rfl) ?_
                    refine lv_iadd hx hb dX12_again_126 ?_
                    refine g_ia (j := 54 + k) (v := ρ 7 k) hx hb hK (h1 25 _ rfl) (gAdd rfl rfl) (by omega) (Nat.le_of_ble_eq_true rfl) ((hEn (54 + k) (by omega)).trans (gEn_7 (by omega))) dX12_again_127 ?_
                    refine g_is (j := k) hx hb hK hS (h1 8 _ rfl) rfl (by omega) (Nat.le_of_ble_eq_true rfl) (by omega) dX12_again_128 (fun H39 locs c40 oq hS => ?_)
                    have h1 : gSg G b (gLM G b (gR (gR (gR (gR (gR (gR (gR (gR (gR (gR (gR (gR (gR (gR (gR π 0 (ρ 0)) 1 (ρ 1)) 2 (ρ 2)) 3 (ρ 3)) 4 (ρ 4)) 5 (ρ 5)) 6 (ρ 6)) 7 (upd A7 k (ρ 7 k))) 8 (π 8)) 9 (π 9)) 10 (π 10)) 11 (π 11)) 12 (π 12)) 13 (π 13)) 14 (π 14)) μ f g) H39 := gSg_set h1 8 c40 oq
                    have i7 := gAgr_u i7 (E := ρ 7) (i := k) (x := ρ 7 k) rfl
                    generalize upd A7 k (ρ 7 k) = A7 at h1 i7
                    refine lv_iinc (v := nI (k + 1)) (lv' := [(2, .int (nI (k + 1))), (0, .ref b), (1, .ref (b + 25))]) hx hb dX12_again_129 hl (k := 2) rfl (gAdd rfl (show Int32.ofInt 1 = nI 1 from rfl)) (by decide) rfl (fun ls hl => ?_)
                    refine lv_goto (tgt := 111) hx hb dX12_again_132 (by decide) ?_
                    exact ih (k + 1) (by omega) A7 (gAgr_w i7 (fun j hj => by first | omega | (simp only; omega))) _ _ h1 hS _ (by have hl := lv_sub hl [1, 2, 0] rfl; exact hl)
              exact loop2 (24 - 0) 0 (by first | omega | simp) _ (fun j hj => absurd hj (by omega)) _ _ h1 hS _ (lv_sub hl [1, 2, 0] rfl)
            · have c2 : ¬ 6 ≤ k := fun z => c2 ((gLe (a := 6) (b := k) rfl rfl (by omega) (by omega)).mpr z)
              exact absurd c2 (by omega)
          | succ d ih =>
            intro k hk A2 A3 A4 A5 A6 i2 i3 i4 i5 i6 H locs h1 hS ls hl
            refine lv_iload_n hx hb dX12_again_37 rfl (lv_at hl 2 rfl) ?_
            refine lv_bipush (v := 6) hx hb dX12_again_38 (by decide) ?_
            refine lv_icmp_ge (tgt := 109) hx hb dX12_again_40 (by decide) (fun c41 => ?_) (fun c41 => ?_)
            · have c41 : 6 ≤ k := (gLe (a := 6) (b := k) rfl rfl (by omega) (by omega)).mp c41
              exact absurd c41 (by omega)
            · have c41 : ¬ 6 ≤ k := fun z => c41 ((gLe (a := 6) (b := k) rfl rfl (by omega) (by omega)).mpr z)
              refine lv_aload_n hx hb dX12_again_43 rfl (lv_at hl 0 rfl) ?_
              refine g_get (v := .ref (b + 3)) (T := TX12) (ci := 12) (N := 45) hx hb hown hK (gY_X12 hT) rfl (h1 0 _ rfl) 4 (by decide) (hT _ gf_X12_18) rfl dX12_again_44 ?_
              refine lv_iload_n hx hb dX12_again_47 rfl (lv_at hl 2 rfl) ?_
              refine lv_aload_n hx hb dX12_again_48 rfl (lv_at hl 1 rfl) ?_
              refine lv_bipush (v := 24) hx hb dX12_again_49 (by decide) ?_
              refine lv_iload_n hx hb dX12_again_51 rfl (lv_at hl 2 rfl) ?_
              refine lv_iadd hx hb dX12_again_52 ?_
              refine g_ia (j := 24 + k) (v := ρ 2 k) hx hb hK (h1 25 _ rfl) (gAdd rfl rfl) (by omega) (Nat.le_of_ble_eq_true rfl) ((hEn (24 + k) (by omega)).trans (gEn_2 (by omega))) dX12_again_53 ?_
              refine g_is (j := k) hx hb hK hS (h1 3 _ rfl) rfl (by omega) (Nat.le_of_ble_eq_true rfl) (by omega) dX12_again_54 (fun H42 locs c43 oq hS => ?_)
              have h1 : gSg G b (gLM G b (gR (gR (gR (gR (gR (gR (gR (gR (gR (gR (gR (gR (gR (gR (gR π 0 (ρ 0)) 1 (ρ 1)) 2 (upd A2 k (ρ 2 k))) 3 A3) 4 A4) 5 A5) 6 A6) 7 (π 7)) 8 (π 8)) 9 (π 9)) 10 (π 10)) 11 (π 11)) 12 (π 12)) 13 (π 13)) 14 (π 14)) μ f g) H42 := gSg_set h1 3 c43 oq
              have i2 := gAgr_u i2 (E := ρ 2) (i := k) (x := ρ 2 k) rfl
              generalize upd A2 k (ρ 2 k) = A2 at h1 i2
              refine lv_aload_n hx hb dX12_again_55 rfl (lv_at hl 0 rfl) ?_
              refine g_get (v := .ref (b + 4)) (T := TX12) (ci := 12) (N := 45) hx hb hown hK (gY_X12 hT) rfl (h1 0 _ rfl) 5 (by decide) (hT _ gf_X12_21) rfl dX12_again_56 ?_
              refine lv_iload_n hx hb dX12_again_59 rfl (lv_at hl 2 rfl) ?_
              refine lv_aload_n hx hb dX12_again_60 rfl (lv_at hl 1 rfl) ?_
              refine lv_bipush (v := 30) hx hb dX12_again_61 (by decide) ?_
              refine lv_iload_n hx hb dX12_again_63 rfl (lv_at hl 2 rfl) ?_
              refine lv_iadd hx hb dX12_again_64 ?_
              refine g_ia (j := 30 + k) (v := ρ 3 k) hx hb hK (h1 25 _ rfl) (gAdd rfl rfl) (by omega) (Nat.le_of_ble_eq_true rfl) ((hEn (30 + k) (by omega)).trans (gEn_3 (by omega))) dX12_again_65 ?_
              refine g_is (j := k) hx hb hK hS (h1 4 _ rfl) rfl (by omega) (Nat.le_of_ble_eq_true rfl) (by omega) dX12_again_66 (fun H44 locs c45 oq hS => ?_)
              have h1 : gSg G b (gLM G b (gR (gR (gR (gR (gR (gR (gR (gR (gR (gR (gR (gR (gR (gR (gR π 0 (ρ 0)) 1 (ρ 1)) 2 A2) 3 (upd A3 k (ρ 3 k))) 4 A4) 5 A5) 6 A6) 7 (π 7)) 8 (π 8)) 9 (π 9)) 10 (π 10)) 11 (π 11)) 12 (π 12)) 13 (π 13)) 14 (π 14)) μ f g) H44 := gSg_set h1 4 c45 oq
              have i3 := gAgr_u i3 (E := ρ 3) (i := k) (x := ρ 3 k) rfl
              generalize upd A3 k (ρ 3 k) = A3 at h1 i3
              refine lv_aload_n hx hb dX12_again_67 rfl (lv_at hl 0 rfl) ?_
              refine g_get (v := .ref (b + 5)) (T := TX12) (ci := 12) (N := 45) hx hb hown hK (gY_X12 hT) rfl (h1 0 _ rfl) 6 (by decide) (hT _ gf_X12_24) rfl dX12_again_68 ?_
              refine lv_iload_n hx hb dX12_again_71 rfl (lv_at hl 2 rfl) ?_
              refine lv_aload_n hx hb dX12_again_72 rfl (lv_at hl 1 rfl) ?_
              refine lv_bipush (v := 36) hx hb dX12_again_73 (by decide) ?_
              refine lv_iload_n hx hb dX12_again_75 rfl (lv_at hl 2 rfl) ?_
              refine lv_iadd hx hb dX12_again_76 ?_
              refine g_ia (j := 36 + k) (v := ρ 4 k) hx hb hK (h1 25 _ rfl) (gAdd rfl rfl) (by omega) (Nat.le_of_ble_eq_true rfl) ((hEn (36 + k) (by omega)).trans (gEn_4 (by omega))) dX12_again_77 ?_
              refine g_is (j := k) hx hb hK hS (h1 5 _ rfl) rfl (by omega) (Nat.le_of_ble_eq_true rfl) (by omega) dX12_again_78 (fun H46 locs c47 oq hS => ?_)
              have h1 : gSg G b (gLM G b (gR (gR (gR (gR (gR (gR (gR (gR (gR (gR (gR (gR (gR (gR (gR π 0 (ρ 0)) 1 (ρ 1)) 2 A2) 3 A3) 4 (upd A4 k (ρ 4 k))) 5 A5) 6 A6) 7 (π 7)) 8 (π 8)) 9 (π 9)) 10 (π 10)) 11 (π 11)) 12 (π 12)) 13 (π 13)) 14 (π 14)) μ f g) H46 := gSg_set h1 5 c47 oq
              have i4 := gAgr_u i4 (E := ρ 4) (i := k) (x := ρ 4 k) rfl
              generalize upd A4 k (ρ 4 k) = A4 at h1 i4
              refine lv_aload_n hx hb dX12_again_79 rfl (lv_at hl 0 rfl) ?_
              refine g_get (v := .ref (b + 6)) (T := TX12) (ci := 12) (N := 45) hx hb hown hK (gY_X12 hT) rfl (h1 0 _ rfl) 7 (by decide) (hT _ gf_X12_27) rfl dX12_again_80 ?_
              refine lv_iload_n hx hb dX12_again_83 rfl (lv_at hl 2 rfl) ?_
              refine lv_aload_n hx hb dX12_again_84 rfl (lv_at hl 1 rfl) ?_
              refine lv_bipush (v := 42) hx hb dX12_again_85 (by decide) ?_
              refine lv_iload_n hx hb dX12_again_87 rfl (lv_at hl 2 rfl) ?_
              refine lv_iadd hx hb dX12_again_88 ?_
              refine g_ia (j := 42 + k) (v := ρ 5 k) hx hb hK (h1 25 _ rfl) (gAdd rfl rfl) (by omega) (Nat.le_of_ble_eq_true rfl) ((hEn (42 + k) (by omega)).trans (gEn_5 (by omega))) dX12_again_89 ?_
              refine g_is (j := k) hx hb hK hS (h1 6 _ rfl) rfl (by omega) (Nat.le_of_ble_eq_true rfl) (by omega) dX12_again_90 (fun H48 locs c49 oq hS => ?_)
              have h1 : gSg G b (gLM G b (gR (gR (gR (gR (gR (gR (gR (gR (gR (gR (gR (gR (gR (gR (gR π 0 (ρ 0)) 1 (ρ 1)) 2 A2) 3 A3) 4 A4) 5 (upd A5 k (ρ 5 k))) 6 A6) 7 (π 7)) 8 (π 8)) 9 (π 9)) 10 (π 10)) 11 (π 11)) 12 (π 12)) 13 (π 13)) 14 (π 14)) μ f g) H48 := gSg_set h1 6 c49 oq
              have i5 := gAgr_u i5 (E := ρ 5) (i := k) (x := ρ 5 k) rfl
              generalize upd A5 k (ρ 5 k) = A5 at h1 i5
              refine lv_aload_n hx hb dX12_again_91 rfl (lv_at hl 0 rfl) ?_
              refine g_get (v := .ref (b + 7)) (T := TX12) (ci := 12) (N := 45) hx hb hown hK (gY_X12 hT) rfl (h1 0 _ rfl) 8 (by decide) (hT _ gf_X12_30) rfl dX12_again_92 ?_
              refine lv_iload_n hx hb dX12_again_95 rfl (lv_at hl 2 rfl) ?_
              refine lv_aload_n hx hb dX12_again_96 rfl (lv_at hl 1 rfl) ?_
              refine lv_bipush (v := 48) hx hb dX12_again_97 (by decide) ?_
              refine lv_iload_n hx hb dX12_again_99 rfl (lv_at hl 2 rfl) ?_
              refine lv_iadd hx hb dX12_again_100 ?_
              refine g_ia (j := 48 + k) (v := ρ 6 k) hx hb hK (h1 25 _ rfl) (gAdd rfl rfl) (by omega) (Nat.le_of_ble_eq_true rfl) ((hEn (48 + k) (by omega)).trans (gEn_6 (by omega))) dX12_again_101 ?_
              refine g_is (j := k) hx hb hK hS (h1 7 _ rfl) rfl (by omega) (Nat.le_of_ble_eq_true rfl) (by omega) dX12_again_102 (fun H50 locs c51 oq hS => ?_)
              have h1 : gSg G b (gLM G b (gR (gR (gR (gR (gR (gR (gR (gR (gR (gR (gR (gR (gR (gR (gR π 0 (ρ 0)) 1 (ρ 1)) 2 A2) 3 A3) 4 A4) 5 A5) 6 (upd A6 k (ρ 6 k))) 7 (π 7)) 8 (π 8)) 9 (π 9)) 10 (π 10)) 11 (π 11)) 12 (π 12)) 13 (π 13)) 14 (π 14)) μ f g) H50 := gSg_set h1 7 c51 oq
              have i6 := gAgr_u i6 (E := ρ 6) (i := k) (x := ρ 6 k) rfl
              generalize upd A6 k (ρ 6 k) = A6 at h1 i6
              refine lv_iinc (v := nI (k + 1)) (lv' := [(2, .int (nI (k + 1))), (0, .ref b), (1, .ref (b + 25))]) hx hb dX12_again_103 hl (k := 2) rfl (gAdd rfl (show Int32.ofInt 1 = nI 1 from rfl)) (by decide) rfl (fun ls hl => ?_)
              refine lv_goto (tgt := 37) hx hb dX12_again_106 (by decide) ?_
              exact ih (k + 1) (by omega) A2 A3 A4 A5 A6 (gAgr_w i2 (fun j hj => by first | omega | (simp only; omega))) (gAgr_w i3 (fun j hj => by first | omega | (simp only; omega))) (gAgr_w i4 (fun j hj => by first | omega | (simp only; omega))) (gAgr_w i5 (fun j hj => by first | omega | (simp only; omega))) (gAgr_w i6 (fun j hj => by first | omega | (simp only; omega))) _ _ h1 hS _ (by have hl := lv_sub hl [1, 2, 0] rfl; exact hl)
        exact loop1 (6 - 0) 0 (by first | omega | simp) _ _ _ _ _ (fun j hj => absurd hj (by omega)) (fun j hj => absurd hj (by omega)) (fun j hj => absurd hj (by omega)) (fun j hj => absurd hj (by omega)) (fun j hj => absurd hj (by omega)) _ _ h1 hS _ (lv_sub hl [1, 2, 0] rfl)
      · have c1 : ¬ 12 ≤ k := fun z => c1 ((gLe (a := 12) (b := k) rfl rfl (by omega) (by omega)).mpr z)
        exact absurd c1 (by omega)
    | succ d ih =>
      intro k hk A0 A1 i0 i1 H locs h1 hS ls hl
      refine lv_iload_n hx hb dX12_again_2 rfl (lv_at hl 2 rfl) ?_
      refine lv_bipush (v := 12) hx hb dX12_again_3 (by decide) ?_
      refine lv_icmp_ge (tgt := 35) hx hb dX12_again_5 (by decide) (fun c52 => ?_) (fun c52 => ?_)
      · have c52 : 12 ≤ k := (gLe (a := 12) (b := k) rfl rfl (by omega) (by omega)).mp c52
        exact absurd c52 (by omega)
      · have c52 : ¬ 12 ≤ k := fun z => c52 ((gLe (a := 12) (b := k) rfl rfl (by omega) (by omega)).mpr z)
        refine lv_aload_n hx hb dX12_again_8 rfl (lv_at hl 0 rfl) ?_
        refine g_get (v := .ref (b + 1)) (T := TX12) (ci := 12) (N := 45) hx hb hown hK (gY_X12 hT) rfl (h1 0 _ rfl) 0 (by decide) (hT _ gf_X12_9) rfl dX12_again_9 ?_
        refine lv_iload_n hx hb dX12_again_12 rfl (lv_at hl 2 rfl) ?_
        refine lv_aload_n hx hb dX12_again_13 rfl (lv_at hl 1 rfl) ?_
        refine lv_iload_n hx hb dX12_again_14 rfl (lv_at hl 2 rfl) ?_
        refine g_ia (j := k) (v := ρ 0 k) hx hb hK (h1 25 _ rfl) rfl (by omega) (Nat.le_of_ble_eq_true rfl) ((hEn k (by omega)).trans (gEn_z (π := ρ) (show k < 12 by omega))) dX12_again_15 ?_
        refine g_is (j := k) hx hb hK hS (h1 1 _ rfl) rfl (by omega) (Nat.le_of_ble_eq_true rfl) (by omega) dX12_again_16 (fun H53 locs c54 oq hS => ?_)
        have h1 : gSg G b (gLM G b (gR (gR (gR (gR (gR (gR (gR (gR (gR (gR (gR (gR (gR (gR (gR π 0 (upd A0 k (ρ 0 k))) 1 A1) 2 (π 2)) 3 (π 3)) 4 (π 4)) 5 (π 5)) 6 (π 6)) 7 (π 7)) 8 (π 8)) 9 (π 9)) 10 (π 10)) 11 (π 11)) 12 (π 12)) 13 (π 13)) 14 (π 14)) μ f g) H53 := gSg_set h1 1 c54 oq
        have i0 := gAgr_u i0 (E := ρ 0) (i := k) (x := ρ 0 k) rfl
        generalize upd A0 k (ρ 0 k) = A0 at h1 i0
        refine lv_aload_n hx hb dX12_again_17 rfl (lv_at hl 0 rfl) ?_
        refine g_get (v := .ref (b + 2)) (T := TX12) (ci := 12) (N := 45) hx hb hown hK (gY_X12 hT) rfl (h1 0 _ rfl) 1 (by decide) (hT _ gf_X12_15) rfl dX12_again_18 ?_
        refine lv_iload_n hx hb dX12_again_21 rfl (lv_at hl 2 rfl) ?_
        refine lv_aload_n hx hb dX12_again_22 rfl (lv_at hl 1 rfl) ?_
        refine lv_bipush (v := 12) hx hb dX12_again_23 (by decide) ?_
        refine lv_iload_n hx hb dX12_again_25 rfl (lv_at hl 2 rfl) ?_
        refine lv_iadd hx hb dX12_again_26 ?_
        refine g_ia (j := 12 + k) (v := ρ 1 k) hx hb hK (h1 25 _ rfl) (gAdd rfl rfl) (by omega) (Nat.le_of_ble_eq_true rfl) ((hEn (12 + k) (by omega)).trans (gEn_1 (by omega))) dX12_again_27 ?_
        refine g_is (j := k) hx hb hK hS (h1 2 _ rfl) rfl (by omega) (Nat.le_of_ble_eq_true rfl) (by omega) dX12_again_28 (fun H55 locs c56 oq hS => ?_)
        have h1 : gSg G b (gLM G b (gR (gR (gR (gR (gR (gR (gR (gR (gR (gR (gR (gR (gR (gR (gR π 0 A0) 1 (upd A1 k (ρ 1 k))) 2 (π 2)) 3 (π 3)) 4 (π 4)) 5 (π 5)) 6 (π 6)) 7 (π 7)) 8 (π 8)) 9 (π 9)) 10 (π 10)) 11 (π 11)) 12 (π 12)) 13 (π 13)) 14 (π 14)) μ f g) H55 := gSg_set h1 2 c56 oq
        have i1 := gAgr_u i1 (E := ρ 1) (i := k) (x := ρ 1 k) rfl
        generalize upd A1 k (ρ 1 k) = A1 at h1 i1
        refine lv_iinc (v := nI (k + 1)) (lv' := [(2, .int (nI (k + 1))), (0, .ref b), (1, .ref (b + 25))]) hx hb dX12_again_29 hl (k := 2) rfl (gAdd rfl (show Int32.ofInt 1 = nI 1 from rfl)) (by decide) rfl (fun ls hl => ?_)
        refine lv_goto (tgt := 2) hx hb dX12_again_32 (by decide) ?_
        exact ih (k + 1) (by omega) A0 A1 (gAgr_w i0 (fun j hj => by first | omega | (simp only; omega))) (gAgr_w i1 (fun j hj => by first | omega | (simp only; omega))) _ _ h1 hS _ (by have hl := lv_sub hl [1, 2, 0] rfl; exact hl)
  exact loop0 (12 - 0) 0 (by first | omega | simp) _ _ (fun j hj => absurd hj (by omega)) (fun j hj => absurd hj (by omega)) _ _ h1 hS _ (lv_sub hl [1, 2, 0] rfl)

set_option maxHeartbeats 4000000 in
set_option maxRecDepth 100000 in
theorem c_X12_keep_10 (l : Launch) (G : gW) (b : Nat) (π μ f : gPS) (g : Nat → Int64) : gCV l yX12_keep cX12_keep 3 (gRm 0 0) G [.ref b, .ref (b + 26)] (fun H => gSg G b (gLM G b π μ f g) H) (fun H => gSg G b (gLM G b π μ (gR f 10 (gEn π)) g) H) (fun q => q = b + 26) := by
  refine g_start (by decide) (Nat.le_of_ble_eq_true rfl) ?_
  intro pp_ ee_ s mm_ aa_ below meth cc_ ls Q hQ hX hE hP hl
  obtain ⟨hx, hb, hr, hml, hown, hT, hlk, hnm⟩ := hX
  have hK := hE.2.1
  have h1 := hP
  have hS : va_S (fun q => q = b + 26) s.heap s.heap [] := va_S.rf
  have hl : lv_has ls 3 [(0, .ref b), (1, .ref (b + 26))] := hl
  have h1 : gSg G b (gLM G b π μ (gR f 10 (f 10)) g) s.heap := h1
  have hF0 : gAgr (fun j => j < 0) (f 10) (gEn π) := fun j hj => absurd hj (by omega)
  refine lv_iconst (v := 0) hx hb dX12_keep_0 (by decide) ?_
  refine lv_istore_n (lv' := [(2, .int 0), (0, .ref b), (1, .ref (b + 26))]) hx hb dX12_keep_1 rfl hl (by decide) rfl (fun ls hl => ?_)
  have loop0 : ∀ (d k : Nat), k + d = 12 → ∀ (F : Nat → Int32), gAgr (fun j => (0 ≤ j ∧ j < 0 + k) ∨ (12 ≤ j ∧ j < 12 + k)) F (gEn π) → ∀ (H : Heap) (locs : List Loc), gSg G b (gLM G b π μ (gR f 10 F) g) H → va_S (fun q => q = b + 26) s.heap H locs → ∀ ls, lv_has ls 3 [(0, .ref b), (1, .ref (b + 26)), (2, .int (nI k))] → W pp_ l ee_ (gRm 0 0) s mm_ aa_ below meth cc_ H locs 0 0 Q (F0 mm_ 2 ls []) := by
    intro d
    induction d with
    | zero =>
      intro k hk F hF H locs h1 hS ls hl
      have hk : k = 12 := by omega
      refine lv_iload_n hx hb dX12_keep_2 rfl (lv_at hl 2 rfl) ?_
      refine lv_bipush (v := 12) hx hb dX12_keep_3 (by decide) ?_
      refine lv_icmp_ge (tgt := 35) hx hb dX12_keep_5 (by decide) (fun c1 => ?_) (fun c1 => ?_)
      · have c1 : 12 ≤ k := (gLe (a := 12) (b := k) rfl rfl (by omega) (by omega)).mp c1
        rw [hk] at hF
        refine lv_iconst (v := 0) hx hb dX12_keep_35 (by decide) ?_
        refine lv_istore_n (lv' := [(2, .int 0), (0, .ref b), (1, .ref (b + 26))]) hx hb dX12_keep_36 rfl hl (by decide) rfl (fun ls hl => ?_)
        have loop1 : ∀ (d k : Nat), k + d = 6 → ∀ (F : Nat → Int32), gAgr (fun j => j < 24 ∨ (24 ≤ j ∧ j < 24 + k) ∨ (30 ≤ j ∧ j < 30 + k) ∨ (36 ≤ j ∧ j < 36 + k) ∨ (42 ≤ j ∧ j < 42 + k) ∨ (48 ≤ j ∧ j < 48 + k)) F (gEn π) → ∀ (H : Heap) (locs : List Loc), gSg G b (gLM G b π μ (gR f 10 F) g) H → va_S (fun q => q = b + 26) s.heap H locs → ∀ ls, lv_has ls 3 [(0, .ref b), (1, .ref (b + 26)), (2, .int (nI k))] → W pp_ l ee_ (gRm 0 0) s mm_ aa_ below meth cc_ H locs 0 0 Q (F0 mm_ 37 ls []) := by
          intro d
          induction d with
          | zero =>
            intro k hk F hF H locs h1 hS ls hl
            have hk : k = 6 := by omega
            refine lv_iload_n hx hb dX12_keep_37 rfl (lv_at hl 2 rfl) ?_
            refine lv_bipush (v := 6) hx hb dX12_keep_38 (by decide) ?_
            refine lv_icmp_ge (tgt := 109) hx hb dX12_keep_40 (by decide) (fun c2 => ?_) (fun c2 => ?_)
            · have c2 : 6 ≤ k := (gLe (a := 6) (b := k) rfl rfl (by omega) (by omega)).mp c2
              rw [hk] at hF
              refine lv_iconst (v := 0) hx hb dX12_keep_109 (by decide) ?_
              refine lv_istore_n (lv' := [(2, .int 0), (0, .ref b), (1, .ref (b + 26))]) hx hb dX12_keep_110 rfl hl (by decide) rfl (fun ls hl => ?_)
              have loop2 : ∀ (d k : Nat), k + d = 24 → ∀ (F : Nat → Int32), gAgr (fun j => j < 54 ∨ (54 ≤ j ∧ j < 54 + k)) F (gEn π) → ∀ (H : Heap) (locs : List Loc), gSg G b (gLM G b π μ (gR f 10 F) g) H → va_S (fun q => q = b + 26) s.heap H locs → ∀ ls, lv_has ls 3 [(0, .ref b), (1, .ref (b + 26)), (2, .int (nI k))] → W pp_ l ee_ (gRm 0 0) s mm_ aa_ below meth cc_ H locs 0 0 Q (F0 mm_ 111 ls []) := by
                intro d
                induction d with
                | zero =>
                  intro k hk F hF H locs h1 hS ls hl
                  have hk : k = 24 := by omega
                  refine lv_iload_n hx hb dX12_keep_111 rfl (lv_at hl 2 rfl) ?_
                  refine lv_bipush (v := 24) hx hb dX12_keep_112 (by decide) ?_
                  refine lv_icmp_ge (tgt := 135) hx hb dX12_keep_114 (by decide) (fun c3 => ?_) (fun c3 => ?_)
                  · have c3 : 24 ≤ k := (gLe (a := 24) (b := k) rfl rfl (by omega) (by omega)).mp c3
                    rw [hk] at hF
                    refine lv_iconst (v := 0) hx hb dX12_keep_135 (by decide) ?_
                    refine lv_istore_n (lv' := [(2, .int 0), (0, .ref b), (1, .ref (b + 26))]) hx hb dX12_keep_136 rfl hl (by decide) rfl (fun ls hl => ?_)
                    have loop3 : ∀ (d k : Nat), k + d = 5 → ∀ (F : Nat → Int32), gAgr (fun j => j < 78 ∨ (78 ≤ j ∧ j < 78 + k) ∨ (83 ≤ j ∧ j < 83 + k) ∨ (88 ≤ j ∧ j < 88 + k)) F (gEn π) → ∀ (H : Heap) (locs : List Loc), gSg G b (gLM G b π μ (gR f 10 F) g) H → va_S (fun q => q = b + 26) s.heap H locs → ∀ ls, lv_has ls 3 [(0, .ref b), (1, .ref (b + 26)), (2, .int (nI k))] → W pp_ l ee_ (gRm 0 0) s mm_ aa_ below meth cc_ H locs 0 0 Q (F0 mm_ 137 ls []) := by
                      intro d
                      induction d with
                      | zero =>
                        intro k hk F hF H locs h1 hS ls hl
                        have hk : k = 5 := by omega
                        refine lv_iload_n hx hb dX12_keep_137 rfl (lv_at hl 2 rfl) ?_
                        refine lv_iconst (v := 5) hx hb dX12_keep_138 (by decide) ?_
                        refine lv_icmp_ge (tgt := 184) hx hb dX12_keep_139 (by decide) (fun c4 => ?_) (fun c4 => ?_)
                        · have c4 : 5 ≤ k := (gLe (a := 5) (b := k) rfl rfl (by omega) (by omega)).mp c4
                          rw [hk] at hF
                          refine lv_iconst (v := 0) hx hb dX12_keep_184 (by decide) ?_
                          refine lv_istore_n (lv' := [(2, .int 0), (0, .ref b), (1, .ref (b + 26))]) hx hb dX12_keep_185 rfl hl (by decide) rfl (fun ls hl => ?_)
                          have loop4 : ∀ (d k : Nat), k + d = 10 → ∀ (F : Nat → Int32), gAgr (fun j => j < 93 ∨ (93 ≤ j ∧ j < 93 + k) ∨ (103 ≤ j ∧ j < 103 + k)) F (gEn π) → ∀ (H : Heap) (locs : List Loc), gSg G b (gLM G b π μ (gR f 10 F) g) H → va_S (fun q => q = b + 26) s.heap H locs → ∀ ls, lv_has ls 3 [(0, .ref b), (1, .ref (b + 26)), (2, .int (nI k))] → W pp_ l ee_ (gRm 0 0) s mm_ aa_ below meth cc_ H locs 0 0 Q (F0 mm_ 186 ls []) := by
                            intro d
                            induction d with
                            | zero =>
                              intro k hk F hF H locs h1 hS ls hl
                              have hk : k = 10 := by omega
                              refine lv_iload_n hx hb dX12_keep_186 rfl (lv_at hl 2 rfl) ?_
                              refine lv_bipush (v := 10) hx hb dX12_keep_187 (by decide) ?_
                              refine lv_icmp_ge (tgt := 222) hx hb dX12_keep_189 (by decide) (fun c5 => ?_) (fun c5 => ?_)
                              · have c5 : 10 ≤ k := (gLe (a := 10) (b := k) rfl rfl (by omega) (by omega)).mp c5
                                rw [hk] at hF
                                refine lv_iconst (v := 0) hx hb dX12_keep_222 (by decide) ?_
                                refine lv_istore_n (lv' := [(2, .int 0), (0, .ref b), (1, .ref (b + 26))]) hx hb dX12_keep_223 rfl hl (by decide) rfl (fun ls hl => ?_)
                                have loop5 : ∀ (d k : Nat), k + d = 8 → ∀ (F : Nat → Int32), gAgr (fun j => j < 113 ∨ (113 ≤ j ∧ j < 113 + k) ∨ (121 ≤ j ∧ j < 121 + k)) F (gEn π) → ∀ (H : Heap) (locs : List Loc), gSg G b (gLM G b π μ (gR f 10 F) g) H → va_S (fun q => q = b + 26) s.heap H locs → ∀ ls, lv_has ls 3 [(0, .ref b), (1, .ref (b + 26)), (2, .int (nI k))] → W pp_ l ee_ (gRm 0 0) s mm_ aa_ below meth cc_ H locs 0 0 Q (F0 mm_ 224 ls []) := by
                                  intro d
                                  induction d with
                                  | zero =>
                                    intro k hk F hF H locs h1 hS ls hl
                                    have hk : k = 8 := by omega
                                    refine lv_iload_n hx hb dX12_keep_224 rfl (lv_at hl 2 rfl) ?_
                                    refine lv_bipush (v := 8) hx hb dX12_keep_225 (by decide) ?_
                                    refine lv_icmp_ge (tgt := 260) hx hb dX12_keep_227 (by decide) (fun c6 => ?_) (fun c6 => ?_)
                                    · have c6 : 8 ≤ k := (gLe (a := 8) (b := k) rfl rfl (by omega) (by omega)).mp c6
                                      rw [hk] at hF
                                      refine lv_aload_n hx hb dX12_keep_260 rfl (lv_at hl 1 rfl) ?_
                                      refine lv_sipush (v := 129) hx hb dX12_keep_261 (by decide) ?_
                                      refine lv_aload_n hx hb dX12_keep_264 rfl (lv_at hl 0 rfl) ?_
                                      refine g_get (v := .int (π 15 0)) (T := TX12) (ci := 12) (N := 45) hx hb hown hK (gY_X12 hT) rfl (h1 0 _ rfl) 3 (by decide) (hT _ gf_X12_105) rfl dX12_keep_265 ?_
                                      refine g_is (j := 129) hx hb hK hS (h1 26 _ rfl) rfl (by omega) (Nat.le_of_ble_eq_true rfl) (by omega) dX12_keep_268 (fun H7 locs c8 oq hS => ?_)
                                      have h1 : gSg G b (gLM G b π μ (gR f 10 (upd F 129 (π 15 0))) g) H7 := gSg_set h1 26 c8 oq
                                      have hF := gAgr_u hF (gEn_s0 (π := π))
                                      generalize upd F 129 (π 15 0) = F at h1 hF
                                      refine lv_aload_n hx hb dX12_keep_269 rfl (lv_at hl 1 rfl) ?_
                                      refine lv_sipush (v := 130) hx hb dX12_keep_270 (by decide) ?_
                                      refine lv_aload_n hx hb dX12_keep_273 rfl (lv_at hl 0 rfl) ?_
                                      refine g_get (v := .int (π 15 1)) (T := TX12) (ci := 12) (N := 45) hx hb hown hK (gY_X12 hT) rfl (h1 0 _ rfl) 2 (by decide) (hT _ gf_X12_241) rfl dX12_keep_274 ?_
                                      refine g_is (j := 130) hx hb hK hS (h1 26 _ rfl) rfl (by omega) (Nat.le_of_ble_eq_true rfl) (by omega) dX12_keep_277 (fun H9 locs c10 oq hS => ?_)
                                      have h1 : gSg G b (gLM G b π μ (gR f 10 (upd F 130 (π 15 1))) g) H9 := gSg_set h1 26 c10 oq
                                      have hF := gAgr_u hF (gEn_s1 (π := π))
                                      generalize upd F 130 (π 15 1) = F at h1 hF
                                      refine lv_aload_n hx hb dX12_keep_278 rfl (lv_at hl 1 rfl) ?_
                                      refine lv_sipush (v := 131) hx hb dX12_keep_279 (by decide) ?_
                                      refine lv_aload_n hx hb dX12_keep_282 rfl (lv_at hl 0 rfl) ?_
                                      refine g_get (v := .int (π 15 2)) (T := TX12) (ci := 12) (N := 45) hx hb hown hK (gY_X12 hT) rfl (h1 0 _ rfl) 10 (by decide) (hT _ gf_X12_216) rfl dX12_keep_283 ?_
                                      refine g_is (j := 131) hx hb hK hS (h1 26 _ rfl) rfl (by omega) (Nat.le_of_ble_eq_true rfl) (by omega) dX12_keep_286 (fun H11 locs c12 oq hS => ?_)
                                      have h1 : gSg G b (gLM G b π μ (gR f 10 (upd F 131 (π 15 2))) g) H11 := gSg_set h1 26 c12 oq
                                      have hF := gAgr_u hF (gEn_s2 (π := π))
                                      generalize upd F 131 (π 15 2) = F at h1 hF
                                      refine lv_aload_n hx hb dX12_keep_287 rfl (lv_at hl 1 rfl) ?_
                                      refine lv_sipush (v := 132) hx hb dX12_keep_288 (by decide) ?_
                                      refine lv_aload_n hx hb dX12_keep_291 rfl (lv_at hl 0 rfl) ?_
                                      refine g_get (v := .int (π 15 3)) (T := TX12) (ci := 12) (N := 45) hx hb hown hK (gY_X12 hT) rfl (h1 0 _ rfl) 27 (by decide) (hT _ gf_X12_272) rfl dX12_keep_292 ?_
                                      refine g_is (j := 132) hx hb hK hS (h1 26 _ rfl) rfl (by omega) (Nat.le_of_ble_eq_true rfl) (by omega) dX12_keep_295 (fun H13 locs c14 oq hS => ?_)
                                      have h1 : gSg G b (gLM G b π μ (gR f 10 (upd F 132 (π 15 3))) g) H13 := gSg_set h1 26 c14 oq
                                      have hF := gAgr_u hF (gEn_s3 (π := π))
                                      generalize upd F 132 (π 15 3) = F at h1 hF
                                      refine lv_aload_n hx hb dX12_keep_296 rfl (lv_at hl 1 rfl) ?_
                                      refine lv_sipush (v := 133) hx hb dX12_keep_297 (by decide) ?_
                                      refine lv_aload_n hx hb dX12_keep_300 rfl (lv_at hl 0 rfl) ?_
                                      refine g_get (v := .int (π 15 4)) (T := TX12) (ci := 12) (N := 45) hx hb hown hK (gY_X12 hT) rfl (h1 0 _ rfl) 31 (by decide) (hT _ gf_X12_290) rfl dX12_keep_301 ?_
                                      refine g_is (j := 133) hx hb hK hS (h1 26 _ rfl) rfl (by omega) (Nat.le_of_ble_eq_true rfl) (by omega) dX12_keep_304 (fun H15 locs c16 oq hS => ?_)
                                      have h1 : gSg G b (gLM G b π μ (gR f 10 (upd F 133 (π 15 4))) g) H15 := gSg_set h1 26 c16 oq
                                      have hF := gAgr_u hF (gEn_s4 (π := π))
                                      generalize upd F 133 (π 15 4) = F at h1 hF
                                      refine lv_aload_n hx hb dX12_keep_305 rfl (lv_at hl 1 rfl) ?_
                                      refine lv_sipush (v := 134) hx hb dX12_keep_306 (by decide) ?_
                                      refine lv_aload_n hx hb dX12_keep_309 rfl (lv_at hl 0 rfl) ?_
                                      refine g_get (v := .int (π 15 5)) (T := TX12) (ci := 12) (N := 45) hx hb hown hK (gY_X12 hT) rfl (h1 0 _ rfl) 34 (by decide) (hT _ gf_X12_296) rfl dX12_keep_310 ?_
                                      refine g_is (j := 134) hx hb hK hS (h1 26 _ rfl) rfl (by omega) (Nat.le_of_ble_eq_true rfl) (by omega) dX12_keep_313 (fun H17 locs c18 oq hS => ?_)
                                      have h1 : gSg G b (gLM G b π μ (gR f 10 (upd F 134 (π 15 5))) g) H17 := gSg_set h1 26 c18 oq
                                      have hF := gAgr_u hF (gEn_s5 (π := π))
                                      generalize upd F 134 (π 15 5) = F at h1 hF
                                      refine lv_aload_n hx hb dX12_keep_314 rfl (lv_at hl 1 rfl) ?_
                                      refine lv_sipush (v := 135) hx hb dX12_keep_315 (by decide) ?_
                                      refine lv_aload_n hx hb dX12_keep_318 rfl (lv_at hl 0 rfl) ?_
                                      refine g_get (v := .int (π 15 6)) (T := TX12) (ci := 12) (N := 45) hx hb hown hK (gY_X12 hT) rfl (h1 0 _ rfl) 18 (by decide) (hT _ gf_X12_101) rfl dX12_keep_319 ?_
                                      refine g_is (j := 135) hx hb hK hS (h1 26 _ rfl) rfl (by omega) (Nat.le_of_ble_eq_true rfl) (by omega) dX12_keep_322 (fun H19 locs c20 oq hS => ?_)
                                      have h1 : gSg G b (gLM G b π μ (gR f 10 (upd F 135 (π 15 6))) g) H19 := gSg_set h1 26 c20 oq
                                      have hF := gAgr_u hF (gEn_s6 (π := π))
                                      generalize upd F 135 (π 15 6) = F at h1 hF
                                      have hE : gAgr (fun j => j < 136) (F) (gEn π) := gAgr_w hF (fun j hj => by first | omega | (simp only; omega))
                                      have h1 : gSg G b (gLM G b π μ (gR f 10 (gEn π)) g) H19 := gSg_set h1 26 (gAt_agr hE (h1 26 _ rfl)) (fun _ _ => rfl)
                                      rw [← hQ]
                                      exact g_vret hx hb hr hlk hS dX12_keep_323 h1
                                    · have c6 : ¬ 8 ≤ k := fun z => c6 ((gLe (a := 8) (b := k) rfl rfl (by omega) (by omega)).mpr z)
                                      exact absurd c6 (by omega)
                                  | succ d ih =>
                                    intro k hk F hF H locs h1 hS ls hl
                                    refine lv_iload_n hx hb dX12_keep_224 rfl (lv_at hl 2 rfl) ?_
                                    refine lv_bipush (v := 8) hx hb dX12_keep_225 (by decide) ?_
                                    refine lv_icmp_ge (tgt := 260) hx hb dX12_keep_227 (by decide) (fun c21 => ?_) (fun c21 => ?_)
                                    · have c21 : 8 ≤ k := (gLe (a := 8) (b := k) rfl rfl (by omega) (by omega)).mp c21
                                      exact absurd c21 (by omega)
                                    · have c21 : ¬ 8 ≤ k := fun z => c21 ((gLe (a := 8) (b := k) rfl rfl (by omega) (by omega)).mpr z)
                                      refine lv_aload_n hx hb dX12_keep_230 rfl (lv_at hl 1 rfl) ?_
                                      refine lv_bipush (v := 113) hx hb dX12_keep_231 (by decide) ?_
                                      refine lv_iload_n hx hb dX12_keep_233 rfl (lv_at hl 2 rfl) ?_
                                      refine lv_iadd hx hb dX12_keep_234 ?_
                                      refine lv_aload_n hx hb dX12_keep_235 rfl (lv_at hl 0 rfl) ?_
                                      refine g_get (v := .ref (b + 22)) (T := TX12) (ci := 12) (N := 45) hx hb hown hK (gY_X12 hT) rfl (h1 0 _ rfl) 35 (by decide) (hT _ gf_X12_76) rfl dX12_keep_236 ?_
                                      refine lv_iload_n hx hb dX12_keep_239 rfl (lv_at hl 2 rfl) ?_
                                      refine g_ia (j := k) (v := π 13 k) hx hb hK (h1 22 _ rfl) rfl (by omega) (Nat.le_of_ble_eq_true rfl) rfl dX12_keep_240 ?_
                                      refine g_is (j := 113 + k) hx hb hK hS (h1 26 _ rfl) (gAdd rfl rfl) (by omega) (Nat.le_of_ble_eq_true rfl) (by omega) dX12_keep_241 (fun H22 locs c23 oq hS => ?_)
                                      have h1 : gSg G b (gLM G b π μ (gR f 10 (upd F (113 + k) (π 13 k))) g) H22 := gSg_set h1 26 c23 oq
                                      have hF := gAgr_u hF (gEn_13 (π := π) (show k < 8 by omega))
                                      generalize upd F (113 + k) (π 13 k) = F at h1 hF
                                      refine lv_aload_n hx hb dX12_keep_242 rfl (lv_at hl 1 rfl) ?_
                                      refine lv_bipush (v := 121) hx hb dX12_keep_243 (by decide) ?_
                                      refine lv_iload_n hx hb dX12_keep_245 rfl (lv_at hl 2 rfl) ?_
                                      refine lv_iadd hx hb dX12_keep_246 ?_
                                      refine lv_aload_n hx hb dX12_keep_247 rfl (lv_at hl 0 rfl) ?_
                                      refine g_get (v := .ref (b + 23)) (T := TX12) (ci := 12) (N := 45) hx hb hown hK (gY_X12 hT) rfl (h1 0 _ rfl) 36 (by decide) (hT _ gf_X12_79) rfl dX12_keep_248 ?_
                                      refine lv_iload_n hx hb dX12_keep_251 rfl (lv_at hl 2 rfl) ?_
                                      refine g_ia (j := k) (v := π 14 k) hx hb hK (h1 23 _ rfl) rfl (by omega) (Nat.le_of_ble_eq_true rfl) rfl dX12_keep_252 ?_
                                      refine g_is (j := 121 + k) hx hb hK hS (h1 26 _ rfl) (gAdd rfl rfl) (by omega) (Nat.le_of_ble_eq_true rfl) (by omega) dX12_keep_253 (fun H24 locs c25 oq hS => ?_)
                                      have h1 : gSg G b (gLM G b π μ (gR f 10 (upd F (121 + k) (π 14 k))) g) H24 := gSg_set h1 26 c25 oq
                                      have hF := gAgr_u hF (gEn_14 (π := π) (show k < 8 by omega))
                                      generalize upd F (121 + k) (π 14 k) = F at h1 hF
                                      refine lv_iinc (v := nI (k + 1)) (lv' := [(2, .int (nI (k + 1))), (0, .ref b), (1, .ref (b + 26))]) hx hb dX12_keep_254 hl (k := 2) rfl (gAdd rfl (show Int32.ofInt 1 = nI 1 from rfl)) (by decide) rfl (fun ls hl => ?_)
                                      refine lv_goto (tgt := 224) hx hb dX12_keep_257 (by decide) ?_
                                      exact ih (k + 1) (by omega) F (gAgr_w hF (fun j hj => by first | omega | (simp only; omega))) _ _ h1 hS _ (by have hl := lv_sub hl [1, 2, 0] rfl; exact hl)
                                exact loop5 (8 - 0) 0 (by first | omega | simp) _ (gAgr_w hF (fun j hj => by first | omega | (simp only at hj ⊢; omega))) _ _ h1 hS _ (lv_sub hl [1, 2, 0] rfl)
                              · have c5 : ¬ 10 ≤ k := fun z => c5 ((gLe (a := 10) (b := k) rfl rfl (by omega) (by omega)).mpr z)
                                exact absurd c5 (by omega)
                            | succ d ih =>
                              intro k hk F hF H locs h1 hS ls hl
                              refine lv_iload_n hx hb dX12_keep_186 rfl (lv_at hl 2 rfl) ?_
                              refine lv_bipush (v := 10) hx hb dX12_keep_187 (by decide) ?_
                              refine lv_icmp_ge (tgt := 222) hx hb dX12_keep_189 (by decide) (fun c26 => ?_) (fun c26 => ?_)
                              · have c26 : 10 ≤ k := (gLe (a := 10) (b := k) rfl rfl (by omega) (by omega)).mp c26
                                exact absurd c26 (by omega)
                              · have c26 : ¬ 10 ≤ k := fun z => c26 ((gLe (a := 10) (b := k) rfl rfl (by omega) (by omega)).mpr z)
                                refine lv_aload_n hx hb dX12_keep_192 rfl (lv_at hl 1 rfl) ?_
                                refine lv_bipush (v := 93) hx hb dX12_keep_193 (by decide) ?_
                                refine lv_iload_n hx hb dX12_keep_195 rfl (lv_at hl 2 rfl) ?_
                                refine lv_iadd hx hb dX12_keep_196 ?_
                                refine lv_aload_n hx hb dX12_keep_197 rfl (lv_at hl 0 rfl) ?_
                                refine g_get (v := .ref (b + 20)) (T := TX12) (ci := 12) (N := 45) hx hb hown hK (gY_X12 hT) rfl (h1 0 _ rfl) 32 (by decide) (hT _ gf_X12_70) rfl dX12_keep_198 ?_
                                refine lv_iload_n hx hb dX12_keep_201 rfl (lv_at hl 2 rfl) ?_
                                refine g_ia (j := k) (v := π 11 k) hx hb hK (h1 20 _ rfl) rfl (by omega) (Nat.le_of_ble_eq_true rfl) rfl dX12_keep_202 ?_
                                refine g_is (j := 93 + k) hx hb hK hS (h1 26 _ rfl) (gAdd rfl rfl) (by omega) (Nat.le_of_ble_eq_true rfl) (by omega) dX12_keep_203 (fun H27 locs c28 oq hS => ?_)
                                have h1 : gSg G b (gLM G b π μ (gR f 10 (upd F (93 + k) (π 11 k))) g) H27 := gSg_set h1 26 c28 oq
                                have hF := gAgr_u hF (gEn_11 (π := π) (show k < 10 by omega))
                                generalize upd F (93 + k) (π 11 k) = F at h1 hF
                                refine lv_aload_n hx hb dX12_keep_204 rfl (lv_at hl 1 rfl) ?_
                                refine lv_bipush (v := 103) hx hb dX12_keep_205 (by decide) ?_
                                refine lv_iload_n hx hb dX12_keep_207 rfl (lv_at hl 2 rfl) ?_
                                refine lv_iadd hx hb dX12_keep_208 ?_
                                refine lv_aload_n hx hb dX12_keep_209 rfl (lv_at hl 0 rfl) ?_
                                refine g_get (v := .ref (b + 21)) (T := TX12) (ci := 12) (N := 45) hx hb hown hK (gY_X12 hT) rfl (h1 0 _ rfl) 33 (by decide) (hT _ gf_X12_73) rfl dX12_keep_210 ?_
                                refine lv_iload_n hx hb dX12_keep_213 rfl (lv_at hl 2 rfl) ?_
                                refine g_ia (j := k) (v := π 12 k) hx hb hK (h1 21 _ rfl) rfl (by omega) (Nat.le_of_ble_eq_true rfl) rfl dX12_keep_214 ?_
                                refine g_is (j := 103 + k) hx hb hK hS (h1 26 _ rfl) (gAdd rfl rfl) (by omega) (Nat.le_of_ble_eq_true rfl) (by omega) dX12_keep_215 (fun H29 locs c30 oq hS => ?_)
                                have h1 : gSg G b (gLM G b π μ (gR f 10 (upd F (103 + k) (π 12 k))) g) H29 := gSg_set h1 26 c30 oq
                                have hF := gAgr_u hF (gEn_12 (π := π) (show k < 10 by omega))
                                generalize upd F (103 + k) (π 12 k) = F at h1 hF
                                refine lv_iinc (v := nI (k + 1)) (lv' := [(2, .int (nI (k + 1))), (0, .ref b), (1, .ref (b + 26))]) hx hb dX12_keep_216 hl (k := 2) rfl (gAdd rfl (show Int32.ofInt 1 = nI 1 from rfl)) (by decide) rfl (fun ls hl => ?_)
                                refine lv_goto (tgt := 186) hx hb dX12_keep_219 (by decide) ?_
                                exact ih (k + 1) (by omega) F (gAgr_w hF (fun j hj => by first | omega | (simp only; omega))) _ _ h1 hS _ (by have hl := lv_sub hl [1, 2, 0] rfl; exact hl)
                          exact loop4 (10 - 0) 0 (by first | omega | simp) _ (gAgr_w hF (fun j hj => by first | omega | (simp only at hj ⊢; omega))) _ _ h1 hS _ (lv_sub hl [1, 2, 0] rfl)
                        · have c4 : ¬ 5 ≤ k := fun z => c4 ((gLe (a := 5) (b := k) rfl rfl (by omega) (by omega)).mpr z)
                          exact absurd c4 (by omega)
                      | succ d ih =>
                        intro k hk F hF H locs h1 hS ls hl
                        refine lv_iload_n hx hb dX12_keep_137 rfl (lv_at hl 2 rfl) ?_
                        refine lv_iconst (v := 5) hx hb dX12_keep_138 (by decide) ?_
                        refine lv_icmp_ge (tgt := 184) hx hb dX12_keep_139 (by decide) (fun c31 => ?_) (fun c31 => ?_)
                        · have c31 : 5 ≤ k := (gLe (a := 5) (b := k) rfl rfl (by omega) (by omega)).mp c31
                          exact absurd c31 (by omega)
                        · have c31 : ¬ 5 ≤ k := fun z => c31 ((gLe (a := 5) (b := k) rfl rfl (by omega) (by omega)).mpr z)
                          refine lv_aload_n hx hb dX12_keep_142 rfl (lv_at hl 1 rfl) ?_
                          refine lv_bipush (v := 78) hx hb dX12_keep_143 (by decide) ?_
                          refine lv_iload_n hx hb dX12_keep_145 rfl (lv_at hl 2 rfl) ?_
                          refine lv_iadd hx hb dX12_keep_146 ?_
                          refine lv_aload_n hx hb dX12_keep_147 rfl (lv_at hl 0 rfl) ?_
                          refine g_get (v := .ref (b + 17)) (T := TX12) (ci := 12) (N := 45) hx hb hown hK (gY_X12 hT) rfl (h1 0 _ rfl) 28 (by decide) (hT _ gf_X12_61) rfl dX12_keep_148 ?_
                          refine lv_iload_n hx hb dX12_keep_151 rfl (lv_at hl 2 rfl) ?_
                          refine g_ia (j := k) (v := π 8 k) hx hb hK (h1 17 _ rfl) rfl (by omega) (Nat.le_of_ble_eq_true rfl) rfl dX12_keep_152 ?_
                          refine g_is (j := 78 + k) hx hb hK hS (h1 26 _ rfl) (gAdd rfl rfl) (by omega) (Nat.le_of_ble_eq_true rfl) (by omega) dX12_keep_153 (fun H32 locs c33 oq hS => ?_)
                          have h1 : gSg G b (gLM G b π μ (gR f 10 (upd F (78 + k) (π 8 k))) g) H32 := gSg_set h1 26 c33 oq
                          have hF := gAgr_u hF (gEn_8 (π := π) (show k < 5 by omega))
                          generalize upd F (78 + k) (π 8 k) = F at h1 hF
                          refine lv_aload_n hx hb dX12_keep_154 rfl (lv_at hl 1 rfl) ?_
                          refine lv_bipush (v := 83) hx hb dX12_keep_155 (by decide) ?_
                          refine lv_iload_n hx hb dX12_keep_157 rfl (lv_at hl 2 rfl) ?_
                          refine lv_iadd hx hb dX12_keep_158 ?_
                          refine lv_aload_n hx hb dX12_keep_159 rfl (lv_at hl 0 rfl) ?_
                          refine g_get (v := .ref (b + 18)) (T := TX12) (ci := 12) (N := 45) hx hb hown hK (gY_X12 hT) rfl (h1 0 _ rfl) 29 (by decide) (hT _ gf_X12_64) rfl dX12_keep_160 ?_
                          refine lv_iload_n hx hb dX12_keep_163 rfl (lv_at hl 2 rfl) ?_
                          refine g_ia (j := k) (v := π 9 k) hx hb hK (h1 18 _ rfl) rfl (by omega) (Nat.le_of_ble_eq_true rfl) rfl dX12_keep_164 ?_
                          refine g_is (j := 83 + k) hx hb hK hS (h1 26 _ rfl) (gAdd rfl rfl) (by omega) (Nat.le_of_ble_eq_true rfl) (by omega) dX12_keep_165 (fun H34 locs c35 oq hS => ?_)
                          have h1 : gSg G b (gLM G b π μ (gR f 10 (upd F (83 + k) (π 9 k))) g) H34 := gSg_set h1 26 c35 oq
                          have hF := gAgr_u hF (gEn_9 (π := π) (show k < 5 by omega))
                          generalize upd F (83 + k) (π 9 k) = F at h1 hF
                          refine lv_aload_n hx hb dX12_keep_166 rfl (lv_at hl 1 rfl) ?_
                          refine lv_bipush (v := 88) hx hb dX12_keep_167 (by decide) ?_
                          refine lv_iload_n hx hb dX12_keep_169 rfl (lv_at hl 2 rfl) ?_
                          refine lv_iadd hx hb dX12_keep_170 ?_
                          refine lv_aload_n hx hb dX12_keep_171 rfl (lv_at hl 0 rfl) ?_
                          refine g_get (v := .ref (b + 19)) (T := TX12) (ci := 12) (N := 45) hx hb hown hK (gY_X12 hT) rfl (h1 0 _ rfl) 30 (by decide) (hT _ gf_X12_67) rfl dX12_keep_172 ?_
                          refine lv_iload_n hx hb dX12_keep_175 rfl (lv_at hl 2 rfl) ?_
                          refine g_ia (j := k) (v := π 10 k) hx hb hK (h1 19 _ rfl) rfl (by omega) (Nat.le_of_ble_eq_true rfl) rfl dX12_keep_176 ?_
                          refine g_is (j := 88 + k) hx hb hK hS (h1 26 _ rfl) (gAdd rfl rfl) (by omega) (Nat.le_of_ble_eq_true rfl) (by omega) dX12_keep_177 (fun H36 locs c37 oq hS => ?_)
                          have h1 : gSg G b (gLM G b π μ (gR f 10 (upd F (88 + k) (π 10 k))) g) H36 := gSg_set h1 26 c37 oq
                          have hF := gAgr_u hF (gEn_10 (π := π) (show k < 5 by omega))
                          generalize upd F (88 + k) (π 10 k) = F at h1 hF
                          refine lv_iinc (v := nI (k + 1)) (lv' := [(2, .int (nI (k + 1))), (0, .ref b), (1, .ref (b + 26))]) hx hb dX12_keep_178 hl (k := 2) rfl (gAdd rfl (show Int32.ofInt 1 = nI 1 from rfl)) (by decide) rfl (fun ls hl => ?_)
                          refine lv_goto (tgt := 137) hx hb dX12_keep_181 (by decide) ?_
                          exact ih (k + 1) (by omega) F (gAgr_w hF (fun j hj => by first | omega | (simp only; omega))) _ _ h1 hS _ (by have hl := lv_sub hl [1, 2, 0] rfl; exact hl)
                    exact loop3 (5 - 0) 0 (by first | omega | simp) _ (gAgr_w hF (fun j hj => by first | omega | (simp only at hj ⊢; omega))) _ _ h1 hS _ (lv_sub hl [1, 2, 0] rfl)
                  · have c3 : ¬ 24 ≤ k := fun z => c3 ((gLe (a := 24) (b := k) rfl rfl (by omega) (by omega)).mpr z)
                    exact absurd c3 (by omega)
                | succ d ih =>
                  intro k hk F hF H locs h1 hS ls hl
                  refine lv_iload_n hx hb dX12_keep_111 rfl (lv_at hl 2 rfl) ?_
                  refine lv_bipush (v := 24) hx hb dX12_keep_112 (by decide) ?_
                  refine lv_icmp_ge (tgt := 135) hx hb dX12_keep_114 (by decide) (fun c38 => ?_) (fun c38 => ?_)
                  · have c38 : 24 ≤ k := (gLe (a := 24) (b := k) rfl rfl (by omega) (by omega)).mp c38
                    exact absurd c38 (by omega)
                  · have c38 : ¬ 24 ≤ k := fun z => c38 ((gLe (a := 24) (b := k) rfl rfl (by omega) (by omega)).mpr z)
                    refine lv_aload_n hx hb dX12_keep_117 rfl (lv_at hl 1 rfl) ?_
                    refine lv_bipush (v := 54) hx hb dX12_keep_118 (by decide) ?_
                    refine lv_iload_n hx hb dX12_keep_120 rfl (lv_at hl 2 rfl) ?_
                    refine lv_iadd hx hb dX12_keep_121 ?_
                    refine lv_aload_n hx hb dX12_keep_122 rfl (lv_at hl 0 rfl) ?_
                    refine g_get (v := .ref (b + 8)) (T := TX12) (ci := 12) (N := 45) hx hb hown hK (gY_X12 hT) rfl (h1 0 _ rfl) 9 (by decide) (hT _ gf_X12_33) rfl dX12_keep_123 ?_
                    refine lv_iload_n hx hb dX12_keep_126 rfl (lv_at hl 2 rfl) ?_
                    refine g_ia (j := k) (v := π 7 k) hx hb hK (h1 8 _ rfl) rfl (by omega) (Nat.le_of_ble_eq_true rfl) rfl dX12_keep_127 ?_
                    refine g_is (j := 54 + k) hx hb hK hS (h1 26 _ rfl) (gAdd rfl rfl) (by omega) (Nat.le_of_ble_eq_true rfl) (by omega) dX12_keep_128 (fun H39 locs c40 oq hS => ?_)
                    have h1 : gSg G b (gLM G b π μ (gR f 10 (upd F (54 + k) (π 7 k))) g) H39 := gSg_set h1 26 c40 oq
                    have hF := gAgr_u hF (gEn_7 (π := π) (show k < 24 by omega))
                    generalize upd F (54 + k) (π 7 k) = F at h1 hF
                    refine lv_iinc (v := nI (k + 1)) (lv' := [(2, .int (nI (k + 1))), (0, .ref b), (1, .ref (b + 26))]) hx hb dX12_keep_129 hl (k := 2) rfl (gAdd rfl (show Int32.ofInt 1 = nI 1 from rfl)) (by decide) rfl (fun ls hl => ?_)
                    refine lv_goto (tgt := 111) hx hb dX12_keep_132 (by decide) ?_
                    exact ih (k + 1) (by omega) F (gAgr_w hF (fun j hj => by first | omega | (simp only; omega))) _ _ h1 hS _ (by have hl := lv_sub hl [1, 2, 0] rfl; exact hl)
              exact loop2 (24 - 0) 0 (by first | omega | simp) _ (gAgr_w hF (fun j hj => by first | omega | (simp only at hj ⊢; omega))) _ _ h1 hS _ (lv_sub hl [1, 2, 0] rfl)
            · have c2 : ¬ 6 ≤ k := fun z => c2 ((gLe (a := 6) (b := k) rfl rfl (by omega) (by omega)).mpr z)
              exact absurd c2 (by omega)
          | succ d ih =>
            intro k hk F hF H locs h1 hS ls hl
            refine lv_iload_n hx hb dX12_keep_37 rfl (lv_at hl 2 rfl) ?_
            refine lv_bipush (v := 6) hx hb dX12_keep_38 (by decide) ?_
            refine lv_icmp_ge (tgt := 109) hx hb dX12_keep_40 (by decide) (fun c41 => ?_) (fun c41 => ?_)
            · have c41 : 6 ≤ k := (gLe (a := 6) (b := k) rfl rfl (by omega) (by omega)).mp c41
              exact absurd c41 (by omega)
            · have c41 : ¬ 6 ≤ k := fun z => c41 ((gLe (a := 6) (b := k) rfl rfl (by omega) (by omega)).mpr z)
              refine lv_aload_n hx hb dX12_keep_43 rfl (lv_at hl 1 rfl) ?_
              refine lv_bipush (v := 24) hx hb dX12_keep_44 (by decide) ?_
              refine lv_iload_n hx hb dX12_keep_46 rfl (lv_at hl 2 rfl) ?_
              refine lv_iadd hx hb dX12_keep_47 ?_
              refine lv_aload_n hx hb dX12_keep_48 rfl (lv_at hl 0 rfl) ?_
              refine g_get (v := .ref (b + 3)) (T := TX12) (ci := 12) (N := 45) hx hb hown hK (gY_X12 hT) rfl (h1 0 _ rfl) 4 (by decide) (hT _ gf_X12_18) rfl dX12_keep_49 ?_
              refine lv_iload_n hx hb dX12_keep_52 rfl (lv_at hl 2 rfl) ?_
              refine g_ia (j := k) (v := π 2 k) hx hb hK (h1 3 _ rfl) rfl (by omega) (Nat.le_of_ble_eq_true rfl) rfl dX12_keep_53 ?_
              refine g_is (j := 24 + k) hx hb hK hS (h1 26 _ rfl) (gAdd rfl rfl) (by omega) (Nat.le_of_ble_eq_true rfl) (by omega) dX12_keep_54 (fun H42 locs c43 oq hS => ?_)
              have h1 : gSg G b (gLM G b π μ (gR f 10 (upd F (24 + k) (π 2 k))) g) H42 := gSg_set h1 26 c43 oq
              have hF := gAgr_u hF (gEn_2 (π := π) (show k < 6 by omega))
              generalize upd F (24 + k) (π 2 k) = F at h1 hF
              refine lv_aload_n hx hb dX12_keep_55 rfl (lv_at hl 1 rfl) ?_
              refine lv_bipush (v := 30) hx hb dX12_keep_56 (by decide) ?_
              refine lv_iload_n hx hb dX12_keep_58 rfl (lv_at hl 2 rfl) ?_
              refine lv_iadd hx hb dX12_keep_59 ?_
              refine lv_aload_n hx hb dX12_keep_60 rfl (lv_at hl 0 rfl) ?_
              refine g_get (v := .ref (b + 4)) (T := TX12) (ci := 12) (N := 45) hx hb hown hK (gY_X12 hT) rfl (h1 0 _ rfl) 5 (by decide) (hT _ gf_X12_21) rfl dX12_keep_61 ?_
              refine lv_iload_n hx hb dX12_keep_64 rfl (lv_at hl 2 rfl) ?_
              refine g_ia (j := k) (v := π 3 k) hx hb hK (h1 4 _ rfl) rfl (by omega) (Nat.le_of_ble_eq_true rfl) rfl dX12_keep_65 ?_
              refine g_is (j := 30 + k) hx hb hK hS (h1 26 _ rfl) (gAdd rfl rfl) (by omega) (Nat.le_of_ble_eq_true rfl) (by omega) dX12_keep_66 (fun H44 locs c45 oq hS => ?_)
              have h1 : gSg G b (gLM G b π μ (gR f 10 (upd F (30 + k) (π 3 k))) g) H44 := gSg_set h1 26 c45 oq
              have hF := gAgr_u hF (gEn_3 (π := π) (show k < 6 by omega))
              generalize upd F (30 + k) (π 3 k) = F at h1 hF
              refine lv_aload_n hx hb dX12_keep_67 rfl (lv_at hl 1 rfl) ?_
              refine lv_bipush (v := 36) hx hb dX12_keep_68 (by decide) ?_
              refine lv_iload_n hx hb dX12_keep_70 rfl (lv_at hl 2 rfl) ?_
              refine lv_iadd hx hb dX12_keep_71 ?_
              refine lv_aload_n hx hb dX12_keep_72 rfl (lv_at hl 0 rfl) ?_
              refine g_get (v := .ref (b + 5)) (T := TX12) (ci := 12) (N := 45) hx hb hown hK (gY_X12 hT) rfl (h1 0 _ rfl) 6 (by decide) (hT _ gf_X12_24) rfl dX12_keep_73 ?_
              refine lv_iload_n hx hb dX12_keep_76 rfl (lv_at hl 2 rfl) ?_
              refine g_ia (j := k) (v := π 4 k) hx hb hK (h1 5 _ rfl) rfl (by omega) (Nat.le_of_ble_eq_true rfl) rfl dX12_keep_77 ?_
              refine g_is (j := 36 + k) hx hb hK hS (h1 26 _ rfl) (gAdd rfl rfl) (by omega) (Nat.le_of_ble_eq_true rfl) (by omega) dX12_keep_78 (fun H46 locs c47 oq hS => ?_)
              have h1 : gSg G b (gLM G b π μ (gR f 10 (upd F (36 + k) (π 4 k))) g) H46 := gSg_set h1 26 c47 oq
              have hF := gAgr_u hF (gEn_4 (π := π) (show k < 6 by omega))
              generalize upd F (36 + k) (π 4 k) = F at h1 hF
              refine lv_aload_n hx hb dX12_keep_79 rfl (lv_at hl 1 rfl) ?_
              refine lv_bipush (v := 42) hx hb dX12_keep_80 (by decide) ?_
              refine lv_iload_n hx hb dX12_keep_82 rfl (lv_at hl 2 rfl) ?_
              refine lv_iadd hx hb dX12_keep_83 ?_
              refine lv_aload_n hx hb dX12_keep_84 rfl (lv_at hl 0 rfl) ?_
              refine g_get (v := .ref (b + 6)) (T := TX12) (ci := 12) (N := 45) hx hb hown hK (gY_X12 hT) rfl (h1 0 _ rfl) 7 (by decide) (hT _ gf_X12_27) rfl dX12_keep_85 ?_
              refine lv_iload_n hx hb dX12_keep_88 rfl (lv_at hl 2 rfl) ?_
              refine g_ia (j := k) (v := π 5 k) hx hb hK (h1 6 _ rfl) rfl (by omega) (Nat.le_of_ble_eq_true rfl) rfl dX12_keep_89 ?_
              refine g_is (j := 42 + k) hx hb hK hS (h1 26 _ rfl) (gAdd rfl rfl) (by omega) (Nat.le_of_ble_eq_true rfl) (by omega) dX12_keep_90 (fun H48 locs c49 oq hS => ?_)
              have h1 : gSg G b (gLM G b π μ (gR f 10 (upd F (42 + k) (π 5 k))) g) H48 := gSg_set h1 26 c49 oq
              have hF := gAgr_u hF (gEn_5 (π := π) (show k < 6 by omega))
              generalize upd F (42 + k) (π 5 k) = F at h1 hF
              refine lv_aload_n hx hb dX12_keep_91 rfl (lv_at hl 1 rfl) ?_
              refine lv_bipush (v := 48) hx hb dX12_keep_92 (by decide) ?_
              refine lv_iload_n hx hb dX12_keep_94 rfl (lv_at hl 2 rfl) ?_
              refine lv_iadd hx hb dX12_keep_95 ?_
              refine lv_aload_n hx hb dX12_keep_96 rfl (lv_at hl 0 rfl) ?_
              refine g_get (v := .ref (b + 7)) (T := TX12) (ci := 12) (N := 45) hx hb hown hK (gY_X12 hT) rfl (h1 0 _ rfl) 8 (by decide) (hT _ gf_X12_30) rfl dX12_keep_97 ?_
              refine lv_iload_n hx hb dX12_keep_100 rfl (lv_at hl 2 rfl) ?_
              refine g_ia (j := k) (v := π 6 k) hx hb hK (h1 7 _ rfl) rfl (by omega) (Nat.le_of_ble_eq_true rfl) rfl dX12_keep_101 ?_
              refine g_is (j := 48 + k) hx hb hK hS (h1 26 _ rfl) (gAdd rfl rfl) (by omega) (Nat.le_of_ble_eq_true rfl) (by omega) dX12_keep_102 (fun H50 locs c51 oq hS => ?_)
              have h1 : gSg G b (gLM G b π μ (gR f 10 (upd F (48 + k) (π 6 k))) g) H50 := gSg_set h1 26 c51 oq
              have hF := gAgr_u hF (gEn_6 (π := π) (show k < 6 by omega))
              generalize upd F (48 + k) (π 6 k) = F at h1 hF
              refine lv_iinc (v := nI (k + 1)) (lv' := [(2, .int (nI (k + 1))), (0, .ref b), (1, .ref (b + 26))]) hx hb dX12_keep_103 hl (k := 2) rfl (gAdd rfl (show Int32.ofInt 1 = nI 1 from rfl)) (by decide) rfl (fun ls hl => ?_)
              refine lv_goto (tgt := 37) hx hb dX12_keep_106 (by decide) ?_
              exact ih (k + 1) (by omega) F (gAgr_w hF (fun j hj => by first | omega | (simp only; omega))) _ _ h1 hS _ (by have hl := lv_sub hl [1, 2, 0] rfl; exact hl)
        exact loop1 (6 - 0) 0 (by first | omega | simp) _ (gAgr_w hF (fun j hj => by first | omega | (simp only at hj ⊢; omega))) _ _ h1 hS _ (lv_sub hl [1, 2, 0] rfl)
      · have c1 : ¬ 12 ≤ k := fun z => c1 ((gLe (a := 12) (b := k) rfl rfl (by omega) (by omega)).mpr z)
        exact absurd c1 (by omega)
    | succ d ih =>
      intro k hk F hF H locs h1 hS ls hl
      refine lv_iload_n hx hb dX12_keep_2 rfl (lv_at hl 2 rfl) ?_
      refine lv_bipush (v := 12) hx hb dX12_keep_3 (by decide) ?_
      refine lv_icmp_ge (tgt := 35) hx hb dX12_keep_5 (by decide) (fun c52 => ?_) (fun c52 => ?_)
      · have c52 : 12 ≤ k := (gLe (a := 12) (b := k) rfl rfl (by omega) (by omega)).mp c52
        exact absurd c52 (by omega)
      · have c52 : ¬ 12 ≤ k := fun z => c52 ((gLe (a := 12) (b := k) rfl rfl (by omega) (by omega)).mpr z)
        refine lv_aload_n hx hb dX12_keep_8 rfl (lv_at hl 1 rfl) ?_
        refine lv_iload_n hx hb dX12_keep_9 rfl (lv_at hl 2 rfl) ?_
        refine lv_aload_n hx hb dX12_keep_10 rfl (lv_at hl 0 rfl) ?_
        refine g_get (v := .ref (b + 1)) (T := TX12) (ci := 12) (N := 45) hx hb hown hK (gY_X12 hT) rfl (h1 0 _ rfl) 0 (by decide) (hT _ gf_X12_9) rfl dX12_keep_11 ?_
        refine lv_iload_n hx hb dX12_keep_14 rfl (lv_at hl 2 rfl) ?_
        refine g_ia (j := k) (v := π 0 k) hx hb hK (h1 1 _ rfl) rfl (by omega) (Nat.le_of_ble_eq_true rfl) rfl dX12_keep_15 ?_
        refine g_is (j := k) hx hb hK hS (h1 26 _ rfl) rfl (by omega) (Nat.le_of_ble_eq_true rfl) (by omega) dX12_keep_16 (fun H53 locs c54 oq hS => ?_)
        have h1 : gSg G b (gLM G b π μ (gR f 10 (upd F k (π 0 k))) g) H53 := gSg_set h1 26 c54 oq
        have hF := gAgr_u hF (gEn_z (π := π) (show k < 12 by omega))
        generalize upd F k (π 0 k) = F at h1 hF
        refine lv_aload_n hx hb dX12_keep_17 rfl (lv_at hl 1 rfl) ?_
        refine lv_bipush (v := 12) hx hb dX12_keep_18 (by decide) ?_
        refine lv_iload_n hx hb dX12_keep_20 rfl (lv_at hl 2 rfl) ?_
        refine lv_iadd hx hb dX12_keep_21 ?_
        refine lv_aload_n hx hb dX12_keep_22 rfl (lv_at hl 0 rfl) ?_
        refine g_get (v := .ref (b + 2)) (T := TX12) (ci := 12) (N := 45) hx hb hown hK (gY_X12 hT) rfl (h1 0 _ rfl) 1 (by decide) (hT _ gf_X12_15) rfl dX12_keep_23 ?_
        refine lv_iload_n hx hb dX12_keep_26 rfl (lv_at hl 2 rfl) ?_
        refine g_ia (j := k) (v := π 1 k) hx hb hK (h1 2 _ rfl) rfl (by omega) (Nat.le_of_ble_eq_true rfl) rfl dX12_keep_27 ?_
        refine g_is (j := 12 + k) hx hb hK hS (h1 26 _ rfl) (gAdd rfl rfl) (by omega) (Nat.le_of_ble_eq_true rfl) (by omega) dX12_keep_28 (fun H55 locs c56 oq hS => ?_)
        have h1 : gSg G b (gLM G b π μ (gR f 10 (upd F (12 + k) (π 1 k))) g) H55 := gSg_set h1 26 c56 oq
        have hF := gAgr_u hF (gEn_1 (π := π) (show k < 12 by omega))
        generalize upd F (12 + k) (π 1 k) = F at h1 hF
        refine lv_iinc (v := nI (k + 1)) (lv' := [(2, .int (nI (k + 1))), (0, .ref b), (1, .ref (b + 26))]) hx hb dX12_keep_29 hl (k := 2) rfl (gAdd rfl (show Int32.ofInt 1 = nI 1 from rfl)) (by decide) rfl (fun ls hl => ?_)
        refine lv_goto (tgt := 2) hx hb dX12_keep_32 (by decide) ?_
        exact ih (k + 1) (by omega) F (gAgr_w hF (fun j hj => by first | omega | (simp only; omega))) _ _ h1 hS _ (by have hl := lv_sub hl [1, 2, 0] rfl; exact hl)
  exact loop0 (12 - 0) 0 (by first | omega | simp) _ (gAgr_w hF0 (fun j hj => by first | omega | (simp only at hj ⊢; omega))) _ _ h1 hS _ (lv_sub hl [1, 2, 0] rfl)

set_option maxHeartbeats 4000000 in
set_option maxRecDepth 100000 in
theorem c_X12_again_10 (l : Launch) (G : gW) (b : Nat) (π μ f : gPS) (g : Nat → Int64) (ρ : gPS) (hEn : gAgr (fun j => j < 136) (f 10) (gEn ρ)) : gCV l yX12_again cX12_again 3 (gRm 0 0) G [.ref b, .ref (b + 26)] (fun H => gSg G b (gLM G b π μ f g) H) (fun H => gSg G b (gLM G b ρ μ f g) H) (fun q => b ≤ q ∧ q < b + 30) := by
  refine g_start (by decide) (Nat.le_of_ble_eq_true rfl) ?_
  intro pp_ ee_ s mm_ aa_ below meth cc_ ls Q hQ hX hE hP hl
  obtain ⟨hx, hb, hr, hml, hown, hT, hlk, hnm⟩ := hX
  have hK := hE.2.1
  have h1 := hP
  have hS : va_S (fun q => b ≤ q ∧ q < b + 30) s.heap s.heap [] := va_S.rf
  have hl : lv_has ls 3 [(0, .ref b), (1, .ref (b + 26))] := hl
  have h1 : gSg G b (gLM G b (gR (gR (gR (gR (gR (gR (gR (gR (gR (gR (gR (gR (gR (gR (gR π 0 (π 0)) 1 (π 1)) 2 (π 2)) 3 (π 3)) 4 (π 4)) 5 (π 5)) 6 (π 6)) 7 (π 7)) 8 (π 8)) 9 (π 9)) 10 (π 10)) 11 (π 11)) 12 (π 12)) 13 (π 13)) 14 (π 14)) μ f g) s.heap := h1
  refine lv_iconst (v := 0) hx hb dX12_again_0 (by decide) ?_
  refine lv_istore_n (lv' := [(2, .int 0), (0, .ref b), (1, .ref (b + 26))]) hx hb dX12_again_1 rfl hl (by decide) rfl (fun ls hl => ?_)
  have loop0 : ∀ (d k : Nat), k + d = 12 → ∀ (A0 : Nat → Int32) (A1 : Nat → Int32), gAgr (fun j => j < k) A0 (ρ 0) → gAgr (fun j => j < k) A1 (ρ 1) → ∀ (H : Heap) (locs : List Loc), gSg G b (gLM G b (gR (gR (gR (gR (gR (gR (gR (gR (gR (gR (gR (gR (gR (gR (gR π 0 A0) 1 A1) 2 (π 2)) 3 (π 3)) 4 (π 4)) 5 (π 5)) 6 (π 6)) 7 (π 7)) 8 (π 8)) 9 (π 9)) 10 (π 10)) 11 (π 11)) 12 (π 12)) 13 (π 13)) 14 (π 14)) μ f g) H → va_S (fun q => b ≤ q ∧ q < b + 30) s.heap H locs → ∀ ls, lv_has ls 3 [(0, .ref b), (1, .ref (b + 26)), (2, .int (nI k))] → W pp_ l ee_ (gRm 0 0) s mm_ aa_ below meth cc_ H locs 0 0 Q (F0 mm_ 2 ls []) := by
    intro d
    induction d with
    | zero =>
      intro k hk A0 A1 i0 i1 H locs h1 hS ls hl
      have hk : k = 12 := by omega
      refine lv_iload_n hx hb dX12_again_2 rfl (lv_at hl 2 rfl) ?_
      refine lv_bipush (v := 12) hx hb dX12_again_3 (by decide) ?_
      refine lv_icmp_ge (tgt := 35) hx hb dX12_again_5 (by decide) (fun c1 => ?_) (fun c1 => ?_)
      · have c1 : 12 ≤ k := (gLe (a := 12) (b := k) rfl rfl (by omega) (by omega)).mp c1
        rw [hk] at i0
        have h1 : gSg G b (gLM G b (gR (gR (gR (gR (gR (gR (gR (gR (gR (gR (gR (gR (gR (gR (gR π 0 (ρ 0)) 1 A1) 2 (π 2)) 3 (π 3)) 4 (π 4)) 5 (π 5)) 6 (π 6)) 7 (π 7)) 8 (π 8)) 9 (π 9)) 10 (π 10)) 11 (π 11)) 12 (π 12)) 13 (π 13)) 14 (π 14)) μ f g) H := gSg_set h1 1 (gAt_agr i0 (h1 1 _ rfl)) (fun _ _ => rfl)
        rw [hk] at i1
        have h1 : gSg G b (gLM G b (gR (gR (gR (gR (gR (gR (gR (gR (gR (gR (gR (gR (gR (gR (gR π 0 (ρ 0)) 1 (ρ 1)) 2 (π 2)) 3 (π 3)) 4 (π 4)) 5 (π 5)) 6 (π 6)) 7 (π 7)) 8 (π 8)) 9 (π 9)) 10 (π 10)) 11 (π 11)) 12 (π 12)) 13 (π 13)) 14 (π 14)) μ f g) H := gSg_set h1 2 (gAt_agr i1 (h1 2 _ rfl)) (fun _ _ => rfl)
        refine lv_iconst (v := 0) hx hb dX12_again_35 (by decide) ?_
        refine lv_istore_n (lv' := [(2, .int 0), (0, .ref b), (1, .ref (b + 26))]) hx hb dX12_again_36 rfl hl (by decide) rfl (fun ls hl => ?_)
        have loop1 : ∀ (d k : Nat), k + d = 6 → ∀ (A2 : Nat → Int32) (A3 : Nat → Int32) (A4 : Nat → Int32) (A5 : Nat → Int32) (A6 : Nat → Int32), gAgr (fun j => j < k) A2 (ρ 2) → gAgr (fun j => j < k) A3 (ρ 3) → gAgr (fun j => j < k) A4 (ρ 4) → gAgr (fun j => j < k) A5 (ρ 5) → gAgr (fun j => j < k) A6 (ρ 6) → ∀ (H : Heap) (locs : List Loc), gSg G b (gLM G b (gR (gR (gR (gR (gR (gR (gR (gR (gR (gR (gR (gR (gR (gR (gR π 0 (ρ 0)) 1 (ρ 1)) 2 A2) 3 A3) 4 A4) 5 A5) 6 A6) 7 (π 7)) 8 (π 8)) 9 (π 9)) 10 (π 10)) 11 (π 11)) 12 (π 12)) 13 (π 13)) 14 (π 14)) μ f g) H → va_S (fun q => b ≤ q ∧ q < b + 30) s.heap H locs → ∀ ls, lv_has ls 3 [(0, .ref b), (1, .ref (b + 26)), (2, .int (nI k))] → W pp_ l ee_ (gRm 0 0) s mm_ aa_ below meth cc_ H locs 0 0 Q (F0 mm_ 37 ls []) := by
          intro d
          induction d with
          | zero =>
            intro k hk A2 A3 A4 A5 A6 i2 i3 i4 i5 i6 H locs h1 hS ls hl
            have hk : k = 6 := by omega
            refine lv_iload_n hx hb dX12_again_37 rfl (lv_at hl 2 rfl) ?_
            refine lv_bipush (v := 6) hx hb dX12_again_38 (by decide) ?_
            refine lv_icmp_ge (tgt := 109) hx hb dX12_again_40 (by decide) (fun c2 => ?_) (fun c2 => ?_)
            · have c2 : 6 ≤ k := (gLe (a := 6) (b := k) rfl rfl (by omega) (by omega)).mp c2
              rw [hk] at i2
              have h1 : gSg G b (gLM G b (gR (gR (gR (gR (gR (gR (gR (gR (gR (gR (gR (gR (gR (gR (gR π 0 (ρ 0)) 1 (ρ 1)) 2 (ρ 2)) 3 A3) 4 A4) 5 A5) 6 A6) 7 (π 7)) 8 (π 8)) 9 (π 9)) 10 (π 10)) 11 (π 11)) 12 (π 12)) 13 (π 13)) 14 (π 14)) μ f g) H := gSg_set h1 3 (gAt_agr i2 (h1 3 _ rfl)) (fun _ _ => rfl)
              rw [hk] at i3
              have h1 : gSg G b (gLM G b (gR (gR (gR (gR (gR (gR (gR (gR (gR (gR (gR (gR (gR (gR (gR π 0 (ρ 0)) 1 (ρ 1)) 2 (ρ 2)) 3 (ρ 3)) 4 A4) 5 A5) 6 A6) 7 (π 7)) 8 (π 8)) 9 (π 9)) 10 (π 10)) 11 (π 11)) 12 (π 12)) 13 (π 13)) 14 (π 14)) μ f g) H := gSg_set h1 4 (gAt_agr i3 (h1 4 _ rfl)) (fun _ _ => rfl)
              rw [hk] at i4
              have h1 : gSg G b (gLM G b (gR (gR (gR (gR (gR (gR (gR (gR (gR (gR (gR (gR (gR (gR (gR π 0 (ρ 0)) 1 (ρ 1)) 2 (ρ 2)) 3 (ρ 3)) 4 (ρ 4)) 5 A5) 6 A6) 7 (π 7)) 8 (π 8)) 9 (π 9)) 10 (π 10)) 11 (π 11)) 12 (π 12)) 13 (π 13)) 14 (π 14)) μ f g) H := gSg_set h1 5 (gAt_agr i4 (h1 5 _ rfl)) (fun _ _ => rfl)
              rw [hk] at i5
              have h1 : gSg G b (gLM G b (gR (gR (gR (gR (gR (gR (gR (gR (gR (gR (gR (gR (gR (gR (gR π 0 (ρ 0)) 1 (ρ 1)) 2 (ρ 2)) 3 (ρ 3)) 4 (ρ 4)) 5 (ρ 5)) 6 A6) 7 (π 7)) 8 (π 8)) 9 (π 9)) 10 (π 10)) 11 (π 11)) 12 (π 12)) 13 (π 13)) 14 (π 14)) μ f g) H := gSg_set h1 6 (gAt_agr i5 (h1 6 _ rfl)) (fun _ _ => rfl)
              rw [hk] at i6
              have h1 : gSg G b (gLM G b (gR (gR (gR (gR (gR (gR (gR (gR (gR (gR (gR (gR (gR (gR (gR π 0 (ρ 0)) 1 (ρ 1)) 2 (ρ 2)) 3 (ρ 3)) 4 (ρ 4)) 5 (ρ 5)) 6 (ρ 6)) 7 (π 7)) 8 (π 8)) 9 (π 9)) 10 (π 10)) 11 (π 11)) 12 (π 12)) 13 (π 13)) 14 (π 14)) μ f g) H := gSg_set h1 7 (gAt_agr i6 (h1 7 _ rfl)) (fun _ _ => rfl)
              refine lv_iconst (v := 0) hx hb dX12_again_109 (by decide) ?_
              refine lv_istore_n (lv' := [(2, .int 0), (0, .ref b), (1, .ref (b + 26))]) hx hb dX12_again_110 rfl hl (by decide) rfl (fun ls hl => ?_)
              have loop2 : ∀ (d k : Nat), k + d = 24 → ∀ (A7 : Nat → Int32), gAgr (fun j => j < k) A7 (ρ 7) → ∀ (H : Heap) (locs : List Loc), gSg G b (gLM G b (gR (gR (gR (gR (gR (gR (gR (gR (gR (gR (gR (gR (gR (gR (gR π 0 (ρ 0)) 1 (ρ 1)) 2 (ρ 2)) 3 (ρ 3)) 4 (ρ 4)) 5 (ρ 5)) 6 (ρ 6)) 7 A7) 8 (π 8)) 9 (π 9)) 10 (π 10)) 11 (π 11)) 12 (π 12)) 13 (π 13)) 14 (π 14)) μ f g) H → va_S (fun q => b ≤ q ∧ q < b + 30) s.heap H locs → ∀ ls, lv_has ls 3 [(0, .ref b), (1, .ref (b + 26)), (2, .int (nI k))] → W pp_ l ee_ (gRm 0 0) s mm_ aa_ below meth cc_ H locs 0 0 Q (F0 mm_ 111 ls []) := by
                intro d
                induction d with
                | zero =>
                  intro k hk A7 i7 H locs h1 hS ls hl
                  have hk : k = 24 := by omega
                  refine lv_iload_n hx hb dX12_again_111 rfl (lv_at hl 2 rfl) ?_
                  refine lv_bipush (v := 24) hx hb dX12_again_112 (by decide) ?_
                  refine lv_icmp_ge (tgt := 135) hx hb dX12_again_114 (by decide) (fun c3 => ?_) (fun c3 => ?_)
                  · have c3 : 24 ≤ k := (gLe (a := 24) (b := k) rfl rfl (by omega) (by omega)).mp c3
                    rw [hk] at i7
                    have h1 : gSg G b (gLM G b (gR (gR (gR (gR (gR (gR (gR (gR (gR (gR (gR (gR (gR (gR (gR π 0 (ρ 0)) 1 (ρ 1)) 2 (ρ 2)) 3 (ρ 3)) 4 (ρ 4)) 5 (ρ 5)) 6 (ρ 6)) 7 (ρ 7)) 8 (π 8)) 9 (π 9)) 10 (π 10)) 11 (π 11)) 12 (π 12)) 13 (π 13)) 14 (π 14)) μ f g) H := gSg_set h1 8 (gAt_agr i7 (h1 8 _ rfl)) (fun _ _ => rfl)
                    refine lv_iconst (v := 0) hx hb dX12_again_135 (by decide) ?_
                    refine lv_istore_n (lv' := [(2, .int 0), (0, .ref b), (1, .ref (b + 26))]) hx hb dX12_again_136 rfl hl (by decide) rfl (fun ls hl => ?_)
                    have loop3 : ∀ (d k : Nat), k + d = 5 → ∀ (A8 : Nat → Int32) (A9 : Nat → Int32) (A10 : Nat → Int32), gAgr (fun j => j < k) A8 (ρ 8) → gAgr (fun j => j < k) A9 (ρ 9) → gAgr (fun j => j < k) A10 (ρ 10) → ∀ (H : Heap) (locs : List Loc), gSg G b (gLM G b (gR (gR (gR (gR (gR (gR (gR (gR (gR (gR (gR (gR (gR (gR (gR π 0 (ρ 0)) 1 (ρ 1)) 2 (ρ 2)) 3 (ρ 3)) 4 (ρ 4)) 5 (ρ 5)) 6 (ρ 6)) 7 (ρ 7)) 8 A8) 9 A9) 10 A10) 11 (π 11)) 12 (π 12)) 13 (π 13)) 14 (π 14)) μ f g) H → va_S (fun q => b ≤ q ∧ q < b + 30) s.heap H locs → ∀ ls, lv_has ls 3 [(0, .ref b), (1, .ref (b + 26)), (2, .int (nI k))] → W pp_ l ee_ (gRm 0 0) s mm_ aa_ below meth cc_ H locs 0 0 Q (F0 mm_ 137 ls []) := by
                      intro d
                      induction d with
                      | zero =>
                        intro k hk A8 A9 A10 i8 i9 i10 H locs h1 hS ls hl
                        have hk : k = 5 := by omega
                        refine lv_iload_n hx hb dX12_again_137 rfl (lv_at hl 2 rfl) ?_
                        refine lv_iconst (v := 5) hx hb dX12_again_138 (by decide) ?_
                        refine lv_icmp_ge (tgt := 184) hx hb dX12_again_139 (by decide) (fun c4 => ?_) (fun c4 => ?_)
                        · have c4 : 5 ≤ k := (gLe (a := 5) (b := k) rfl rfl (by omega) (by omega)).mp c4
                          rw [hk] at i8
                          have h1 : gSg G b (gLM G b (gR (gR (gR (gR (gR (gR (gR (gR (gR (gR (gR (gR (gR (gR (gR π 0 (ρ 0)) 1 (ρ 1)) 2 (ρ 2)) 3 (ρ 3)) 4 (ρ 4)) 5 (ρ 5)) 6 (ρ 6)) 7 (ρ 7)) 8 (ρ 8)) 9 A9) 10 A10) 11 (π 11)) 12 (π 12)) 13 (π 13)) 14 (π 14)) μ f g) H := gSg_set h1 17 (gAt_agr i8 (h1 17 _ rfl)) (fun _ _ => rfl)
                          rw [hk] at i9
                          have h1 : gSg G b (gLM G b (gR (gR (gR (gR (gR (gR (gR (gR (gR (gR (gR (gR (gR (gR (gR π 0 (ρ 0)) 1 (ρ 1)) 2 (ρ 2)) 3 (ρ 3)) 4 (ρ 4)) 5 (ρ 5)) 6 (ρ 6)) 7 (ρ 7)) 8 (ρ 8)) 9 (ρ 9)) 10 A10) 11 (π 11)) 12 (π 12)) 13 (π 13)) 14 (π 14)) μ f g) H := gSg_set h1 18 (gAt_agr i9 (h1 18 _ rfl)) (fun _ _ => rfl)
                          rw [hk] at i10
                          have h1 : gSg G b (gLM G b (gR (gR (gR (gR (gR (gR (gR (gR (gR (gR (gR (gR (gR (gR (gR π 0 (ρ 0)) 1 (ρ 1)) 2 (ρ 2)) 3 (ρ 3)) 4 (ρ 4)) 5 (ρ 5)) 6 (ρ 6)) 7 (ρ 7)) 8 (ρ 8)) 9 (ρ 9)) 10 (ρ 10)) 11 (π 11)) 12 (π 12)) 13 (π 13)) 14 (π 14)) μ f g) H := gSg_set h1 19 (gAt_agr i10 (h1 19 _ rfl)) (fun _ _ => rfl)
                          refine lv_iconst (v := 0) hx hb dX12_again_184 (by decide) ?_
                          refine lv_istore_n (lv' := [(2, .int 0), (0, .ref b), (1, .ref (b + 26))]) hx hb dX12_again_185 rfl hl (by decide) rfl (fun ls hl => ?_)
                          have loop4 : ∀ (d k : Nat), k + d = 10 → ∀ (A11 : Nat → Int32) (A12 : Nat → Int32), gAgr (fun j => j < k) A11 (ρ 11) → gAgr (fun j => j < k) A12 (ρ 12) → ∀ (H : Heap) (locs : List Loc), gSg G b (gLM G b (gR (gR (gR (gR (gR (gR (gR (gR (gR (gR (gR (gR (gR (gR (gR π 0 (ρ 0)) 1 (ρ 1)) 2 (ρ 2)) 3 (ρ 3)) 4 (ρ 4)) 5 (ρ 5)) 6 (ρ 6)) 7 (ρ 7)) 8 (ρ 8)) 9 (ρ 9)) 10 (ρ 10)) 11 A11) 12 A12) 13 (π 13)) 14 (π 14)) μ f g) H → va_S (fun q => b ≤ q ∧ q < b + 30) s.heap H locs → ∀ ls, lv_has ls 3 [(0, .ref b), (1, .ref (b + 26)), (2, .int (nI k))] → W pp_ l ee_ (gRm 0 0) s mm_ aa_ below meth cc_ H locs 0 0 Q (F0 mm_ 186 ls []) := by
                            intro d
                            induction d with
                            | zero =>
                              intro k hk A11 A12 i11 i12 H locs h1 hS ls hl
                              have hk : k = 10 := by omega
                              refine lv_iload_n hx hb dX12_again_186 rfl (lv_at hl 2 rfl) ?_
                              refine lv_bipush (v := 10) hx hb dX12_again_187 (by decide) ?_
                              refine lv_icmp_ge (tgt := 222) hx hb dX12_again_189 (by decide) (fun c5 => ?_) (fun c5 => ?_)
                              · have c5 : 10 ≤ k := (gLe (a := 10) (b := k) rfl rfl (by omega) (by omega)).mp c5
                                rw [hk] at i11
                                have h1 : gSg G b (gLM G b (gR (gR (gR (gR (gR (gR (gR (gR (gR (gR (gR (gR (gR (gR (gR π 0 (ρ 0)) 1 (ρ 1)) 2 (ρ 2)) 3 (ρ 3)) 4 (ρ 4)) 5 (ρ 5)) 6 (ρ 6)) 7 (ρ 7)) 8 (ρ 8)) 9 (ρ 9)) 10 (ρ 10)) 11 (ρ 11)) 12 A12) 13 (π 13)) 14 (π 14)) μ f g) H := gSg_set h1 20 (gAt_agr i11 (h1 20 _ rfl)) (fun _ _ => rfl)
                                rw [hk] at i12
                                have h1 : gSg G b (gLM G b (gR (gR (gR (gR (gR (gR (gR (gR (gR (gR (gR (gR (gR (gR (gR π 0 (ρ 0)) 1 (ρ 1)) 2 (ρ 2)) 3 (ρ 3)) 4 (ρ 4)) 5 (ρ 5)) 6 (ρ 6)) 7 (ρ 7)) 8 (ρ 8)) 9 (ρ 9)) 10 (ρ 10)) 11 (ρ 11)) 12 (ρ 12)) 13 (π 13)) 14 (π 14)) μ f g) H := gSg_set h1 21 (gAt_agr i12 (h1 21 _ rfl)) (fun _ _ => rfl)
                                refine lv_iconst (v := 0) hx hb dX12_again_222 (by decide) ?_
                                refine lv_istore_n (lv' := [(2, .int 0), (0, .ref b), (1, .ref (b + 26))]) hx hb dX12_again_223 rfl hl (by decide) rfl (fun ls hl => ?_)
                                have loop5 : ∀ (d k : Nat), k + d = 8 → ∀ (A13 : Nat → Int32) (A14 : Nat → Int32), gAgr (fun j => j < k) A13 (ρ 13) → gAgr (fun j => j < k) A14 (ρ 14) → ∀ (H : Heap) (locs : List Loc), gSg G b (gLM G b (gR (gR (gR (gR (gR (gR (gR (gR (gR (gR (gR (gR (gR (gR (gR π 0 (ρ 0)) 1 (ρ 1)) 2 (ρ 2)) 3 (ρ 3)) 4 (ρ 4)) 5 (ρ 5)) 6 (ρ 6)) 7 (ρ 7)) 8 (ρ 8)) 9 (ρ 9)) 10 (ρ 10)) 11 (ρ 11)) 12 (ρ 12)) 13 A13) 14 A14) μ f g) H → va_S (fun q => b ≤ q ∧ q < b + 30) s.heap H locs → ∀ ls, lv_has ls 3 [(0, .ref b), (1, .ref (b + 26)), (2, .int (nI k))] → W pp_ l ee_ (gRm 0 0) s mm_ aa_ below meth cc_ H locs 0 0 Q (F0 mm_ 224 ls []) := by
                                  intro d
                                  induction d with
                                  | zero =>
                                    intro k hk A13 A14 i13 i14 H locs h1 hS ls hl
                                    have hk : k = 8 := by omega
                                    refine lv_iload_n hx hb dX12_again_224 rfl (lv_at hl 2 rfl) ?_
                                    refine lv_bipush (v := 8) hx hb dX12_again_225 (by decide) ?_
                                    refine lv_icmp_ge (tgt := 260) hx hb dX12_again_227 (by decide) (fun c6 => ?_) (fun c6 => ?_)
                                    · have c6 : 8 ≤ k := (gLe (a := 8) (b := k) rfl rfl (by omega) (by omega)).mp c6
                                      rw [hk] at i13
                                      have h1 : gSg G b (gLM G b (gR (gR (gR (gR (gR (gR (gR (gR (gR (gR (gR (gR (gR (gR (gR π 0 (ρ 0)) 1 (ρ 1)) 2 (ρ 2)) 3 (ρ 3)) 4 (ρ 4)) 5 (ρ 5)) 6 (ρ 6)) 7 (ρ 7)) 8 (ρ 8)) 9 (ρ 9)) 10 (ρ 10)) 11 (ρ 11)) 12 (ρ 12)) 13 (ρ 13)) 14 A14) μ f g) H := gSg_set h1 22 (gAt_agr i13 (h1 22 _ rfl)) (fun _ _ => rfl)
                                      rw [hk] at i14
                                      have h1 : gSg G b (gLM G b (gR (gR (gR (gR (gR (gR (gR (gR (gR (gR (gR (gR (gR (gR (gR π 0 (ρ 0)) 1 (ρ 1)) 2 (ρ 2)) 3 (ρ 3)) 4 (ρ 4)) 5 (ρ 5)) 6 (ρ 6)) 7 (ρ 7)) 8 (ρ 8)) 9 (ρ 9)) 10 (ρ 10)) 11 (ρ 11)) 12 (ρ 12)) 13 (ρ 13)) 14 (ρ 14)) μ f g) H := gSg_set h1 23 (gAt_agr i14 (h1 23 _ rfl)) (fun _ _ => rfl)
                                      refine lv_aload_n hx hb dX12_again_260 rfl (lv_at hl 0 rfl) ?_
                                      refine lv_aload_n hx hb dX12_again_261 rfl (lv_at hl 1 rfl) ?_
                                      refine lv_sipush (v := 129) hx hb dX12_again_262 (by decide) ?_
                                      refine g_ia (j := 129) (v := ρ 15 0) hx hb hK (h1 26 _ rfl) rfl (by omega) (Nat.le_of_ble_eq_true rfl) ((hEn 129 (by omega)).trans gEn_s0) dX12_again_265 ?_
                                      refine g_put (T := TX12) (ci := 12) (N := 45) (ty0 := tyX12) hx hb hown hK hS (gY_X12 hT) tyX12_ok nmX12 rfl (h1 0 _ rfl) 3 (by decide) (hT _ gf_X12_105) rfl rfl rfl (Nat.le_of_ble_eq_true rfl) (by omega) dX12_again_266 (fun H7 locs c8 oq hS => ?_)
                                      have h1 : gSg G b (gLM G b (gU (gR (gR (gR (gR (gR (gR (gR (gR (gR (gR (gR (gR (gR (gR (gR π 0 (ρ 0)) 1 (ρ 1)) 2 (ρ 2)) 3 (ρ 3)) 4 (ρ 4)) 5 (ρ 5)) 6 (ρ 6)) 7 (ρ 7)) 8 (ρ 8)) 9 (ρ 9)) 10 (ρ 10)) 11 (ρ 11)) 12 (ρ 12)) 13 (ρ 13)) 14 (ρ 14)) 15 0 (ρ 15 0)) μ f g) H7 := gSg_set h1 0 c8 oq
                                      refine lv_aload_n hx hb dX12_again_269 rfl (lv_at hl 0 rfl) ?_
                                      refine lv_aload_n hx hb dX12_again_270 rfl (lv_at hl 1 rfl) ?_
                                      refine lv_sipush (v := 130) hx hb dX12_again_271 (by decide) ?_
                                      refine g_ia (j := 130) (v := ρ 15 1) hx hb hK (h1 26 _ rfl) rfl (by omega) (Nat.le_of_ble_eq_true rfl) ((hEn 130 (by omega)).trans gEn_s1) dX12_again_274 ?_
                                      refine g_put (T := TX12) (ci := 12) (N := 45) (ty0 := tyX12) hx hb hown hK hS (gY_X12 hT) tyX12_ok nmX12 rfl (h1 0 _ rfl) 2 (by decide) (hT _ gf_X12_241) rfl rfl rfl (Nat.le_of_ble_eq_true rfl) (by omega) dX12_again_275 (fun H9 locs c10 oq hS => ?_)
                                      have h1 : gSg G b (gLM G b (gU (gU (gR (gR (gR (gR (gR (gR (gR (gR (gR (gR (gR (gR (gR (gR (gR π 0 (ρ 0)) 1 (ρ 1)) 2 (ρ 2)) 3 (ρ 3)) 4 (ρ 4)) 5 (ρ 5)) 6 (ρ 6)) 7 (ρ 7)) 8 (ρ 8)) 9 (ρ 9)) 10 (ρ 10)) 11 (ρ 11)) 12 (ρ 12)) 13 (ρ 13)) 14 (ρ 14)) 15 0 (ρ 15 0)) 15 1 (ρ 15 1)) μ f g) H9 := gSg_set h1 0 c10 oq
                                      refine lv_aload_n hx hb dX12_again_278 rfl (lv_at hl 0 rfl) ?_
                                      refine lv_aload_n hx hb dX12_again_279 rfl (lv_at hl 1 rfl) ?_
                                      refine lv_sipush (v := 131) hx hb dX12_again_280 (by decide) ?_
                                      refine g_ia (j := 131) (v := ρ 15 2) hx hb hK (h1 26 _ rfl) rfl (by omega) (Nat.le_of_ble_eq_true rfl) ((hEn 131 (by omega)).trans gEn_s2) dX12_again_283 ?_
                                      refine g_put (T := TX12) (ci := 12) (N := 45) (ty0 := tyX12) hx hb hown hK hS (gY_X12 hT) tyX12_ok nmX12 rfl (h1 0 _ rfl) 10 (by decide) (hT _ gf_X12_216) rfl rfl rfl (Nat.le_of_ble_eq_true rfl) (by omega) dX12_again_284 (fun H11 locs c12 oq hS => ?_)
                                      have h1 : gSg G b (gLM G b (gU (gU (gU (gR (gR (gR (gR (gR (gR (gR (gR (gR (gR (gR (gR (gR (gR (gR π 0 (ρ 0)) 1 (ρ 1)) 2 (ρ 2)) 3 (ρ 3)) 4 (ρ 4)) 5 (ρ 5)) 6 (ρ 6)) 7 (ρ 7)) 8 (ρ 8)) 9 (ρ 9)) 10 (ρ 10)) 11 (ρ 11)) 12 (ρ 12)) 13 (ρ 13)) 14 (ρ 14)) 15 0 (ρ 15 0)) 15 1 (ρ 15 1)) 15 2 (ρ 15 2)) μ f g) H11 := gSg_set h1 0 c12 oq
                                      refine lv_aload_n hx hb dX12_again_287 rfl (lv_at hl 0 rfl) ?_
                                      refine lv_aload_n hx hb dX12_again_288 rfl (lv_at hl 1 rfl) ?_
                                      refine lv_sipush (v := 132) hx hb dX12_again_289 (by decide) ?_
                                      refine g_ia (j := 132) (v := ρ 15 3) hx hb hK (h1 26 _ rfl) rfl (by omega) (Nat.le_of_ble_eq_true rfl) ((hEn 132 (by omega)).trans gEn_s3) dX12_again_292 ?_
                                      refine g_put (T := TX12) (ci := 12) (N := 45) (ty0 := tyX12) hx hb hown hK hS (gY_X12 hT) tyX12_ok nmX12 rfl (h1 0 _ rfl) 27 (by decide) (hT _ gf_X12_272) rfl rfl rfl (Nat.le_of_ble_eq_true rfl) (by omega) dX12_again_293 (fun H13 locs c14 oq hS => ?_)
                                      have h1 : gSg G b (gLM G b (gU (gU (gU (gU (gR (gR (gR (gR (gR (gR (gR (gR (gR (gR (gR (gR (gR (gR (gR π 0 (ρ 0)) 1 (ρ 1)) 2 (ρ 2)) 3 (ρ 3)) 4 (ρ 4)) 5 (ρ 5)) 6 (ρ 6)) 7 (ρ 7)) 8 (ρ 8)) 9 (ρ 9)) 10 (ρ 10)) 11 (ρ 11)) 12 (ρ 12)) 13 (ρ 13)) 14 (ρ 14)) 15 0 (ρ 15 0)) 15 1 (ρ 15 1)) 15 2 (ρ 15 2)) 15 3 (ρ 15 3)) μ f g) H13 := gSg_set h1 0 c14 oq
                                      refine lv_aload_n hx hb dX12_again_296 rfl (lv_at hl 0 rfl) ?_
                                      refine lv_aload_n hx hb dX12_again_297 rfl (lv_at hl 1 rfl) ?_
                                      refine lv_sipush (v := 133) hx hb dX12_again_298 (by decide) ?_
                                      refine g_ia (j := 133) (v := ρ 15 4) hx hb hK (h1 26 _ rfl) rfl (by omega) (Nat.le_of_ble_eq_true rfl) ((hEn 133 (by omega)).trans gEn_s4) dX12_again_301 ?_
                                      refine g_put (T := TX12) (ci := 12) (N := 45) (ty0 := tyX12) hx hb hown hK hS (gY_X12 hT) tyX12_ok nmX12 rfl (h1 0 _ rfl) 31 (by decide) (hT _ gf_X12_290) rfl rfl rfl (Nat.le_of_ble_eq_true rfl) (by omega) dX12_again_302 (fun H15 locs c16 oq hS => ?_)
                                      have h1 : gSg G b (gLM G b (gU (gU (gU (gU (gU (gR (gR (gR (gR (gR (gR (gR (gR (gR (gR (gR (gR (gR (gR (gR π 0 (ρ 0)) 1 (ρ 1)) 2 (ρ 2)) 3 (ρ 3)) 4 (ρ 4)) 5 (ρ 5)) 6 (ρ 6)) 7 (ρ 7)) 8 (ρ 8)) 9 (ρ 9)) 10 (ρ 10)) 11 (ρ 11)) 12 (ρ 12)) 13 (ρ 13)) 14 (ρ 14)) 15 0 (ρ 15 0)) 15 1 (ρ 15 1)) 15 2 (ρ 15 2)) 15 3 (ρ 15 3)) 15 4 (ρ 15 4)) μ f g) H15 := gSg_set h1 0 c16 oq
                                      refine lv_aload_n hx hb dX12_again_305 rfl (lv_at hl 0 rfl) ?_
                                      refine lv_aload_n hx hb dX12_again_306 rfl (lv_at hl 1 rfl) ?_
                                      refine lv_sipush (v := 134) hx hb dX12_again_307 (by decide) ?_
                                      refine g_ia (j := 134) (v := ρ 15 5) hx hb hK (h1 26 _ rfl) rfl (by omega) (Nat.le_of_ble_eq_true rfl) ((hEn 134 (by omega)).trans gEn_s5) dX12_again_310 ?_
                                      refine g_put (T := TX12) (ci := 12) (N := 45) (ty0 := tyX12) hx hb hown hK hS (gY_X12 hT) tyX12_ok nmX12 rfl (h1 0 _ rfl) 34 (by decide) (hT _ gf_X12_296) rfl rfl rfl (Nat.le_of_ble_eq_true rfl) (by omega) dX12_again_311 (fun H17 locs c18 oq hS => ?_)
                                      have h1 : gSg G b (gLM G b (gU (gU (gU (gU (gU (gU (gR (gR (gR (gR (gR (gR (gR (gR (gR (gR (gR (gR (gR (gR (gR π 0 (ρ 0)) 1 (ρ 1)) 2 (ρ 2)) 3 (ρ 3)) 4 (ρ 4)) 5 (ρ 5)) 6 (ρ 6)) 7 (ρ 7)) 8 (ρ 8)) 9 (ρ 9)) 10 (ρ 10)) 11 (ρ 11)) 12 (ρ 12)) 13 (ρ 13)) 14 (ρ 14)) 15 0 (ρ 15 0)) 15 1 (ρ 15 1)) 15 2 (ρ 15 2)) 15 3 (ρ 15 3)) 15 4 (ρ 15 4)) 15 5 (ρ 15 5)) μ f g) H17 := gSg_set h1 0 c18 oq
                                      refine lv_aload_n hx hb dX12_again_314 rfl (lv_at hl 0 rfl) ?_
                                      refine lv_aload_n hx hb dX12_again_315 rfl (lv_at hl 1 rfl) ?_
                                      refine lv_sipush (v := 135) hx hb dX12_again_316 (by decide) ?_
                                      refine g_ia (j := 135) (v := ρ 15 6) hx hb hK (h1 26 _ rfl) rfl (by omega) (Nat.le_of_ble_eq_true rfl) ((hEn 135 (by omega)).trans gEn_s6) dX12_again_319 ?_
                                      refine g_put (T := TX12) (ci := 12) (N := 45) (ty0 := tyX12) hx hb hown hK hS (gY_X12 hT) tyX12_ok nmX12 rfl (h1 0 _ rfl) 18 (by decide) (hT _ gf_X12_101) rfl rfl rfl (Nat.le_of_ble_eq_true rfl) (by omega) dX12_again_320 (fun H19 locs c20 oq hS => ?_)
                                      have h1 : gSg G b (gLM G b (gU (gU (gU (gU (gU (gU (gU (gR (gR (gR (gR (gR (gR (gR (gR (gR (gR (gR (gR (gR (gR (gR π 0 (ρ 0)) 1 (ρ 1)) 2 (ρ 2)) 3 (ρ 3)) 4 (ρ 4)) 5 (ρ 5)) 6 (ρ 6)) 7 (ρ 7)) 8 (ρ 8)) 9 (ρ 9)) 10 (ρ 10)) 11 (ρ 11)) 12 (ρ 12)) 13 (ρ 13)) 14 (ρ 14)) 15 0 (ρ 15 0)) 15 1 (ρ 15 1)) 15 2 (ρ 15 2)) 15 3 (ρ 15 3)) 15 4 (ρ 15 4)) 15 5 (ρ 15 5)) 15 6 (ρ 15 6)) μ f g) H19 := gSg_set h1 0 c20 oq
                                      rw [← hQ]
                                      exact g_vret hx hb hr hlk hS dX12_again_323 h1
                                    · have c6 : ¬ 8 ≤ k := fun z => c6 ((gLe (a := 8) (b := k) rfl rfl (by omega) (by omega)).mpr z)
                                      exact absurd c6 (by omega)
                                  | succ d ih =>
                                    intro k hk A13 A14 i13 i14 H locs h1 hS ls hl
                                    refine lv_iload_n hx hb dX12_again_224 rfl (lv_at hl 2 rfl) ?_
                                    refine lv_bipush (v := 8) hx hb dX12_again_225 (by decide) ?_
                                    refine lv_icmp_ge (tgt := 260) hx hb dX12_again_227 (by decide) (fun c21 => ?_) (fun c21 => ?_)
                                    · have c21 : 8 ≤ k := (gLe (a := 8) (b := k) rfl rfl (by omega) (by omega)).mp c21
                                      exact absurd c21 (by omega)
                                    · have c21 : ¬ 8 ≤ k := fun z => c21 ((gLe (a := 8) (b := k) rfl rfl (by omega) (by omega)).mpr z)
                                      refine lv_aload_n hx hb dX12_again_230 rfl (lv_at hl 0 rfl) ?_
                                      refine g_get (v := .ref (b + 22)) (T := TX12) (ci := 12) (N := 45) hx hb hown hK (gY_X12 hT) rfl (h1 0 _ rfl) 35 (by decide) (hT _ gf_X12_76) rfl dX12_again_231 ?_
                                      refine lv_iload_n hx hb dX12_again_234 rfl (lv_at hl 2 rfl) ?_
                                      refine lv_aload_n hx hb dX12_again_235 rfl (lv_at hl 1 rfl) ?_
                                      refine lv_bipush (v := 113) hx hb dX12_again_236 (by decide) ?_
                                      refine lv_iload_n hx hb dX12_again_238 rfl (lv_at hl 2 rfl) ?_
                                      refine lv_iadd hx hb dX12_again_239 ?_
                                      refine g_ia (j := 113 + k) (v := ρ 13 k) hx hb hK (h1 26 _ rfl) (gAdd rfl rfl) (by omega) (Nat.le_of_ble_eq_true rfl) ((hEn (113 + k) (by omega)).trans (gEn_13 (by omega))) dX12_again_240 ?_
                                      refine g_is (j := k) hx hb hK hS (h1 22 _ rfl) rfl (by omega) (Nat.le_of_ble_eq_true rfl) (by omega) dX12_again_241 (fun H22 locs c23 oq hS => ?_)
                                      have h1 : gSg G b (gLM G b (gR (gR (gR (gR (gR (gR (gR (gR (gR (gR (gR (gR (gR (gR (gR π 0 (ρ 0)) 1 (ρ 1)) 2 (ρ 2)) 3 (ρ 3)) 4 (ρ 4)) 5 (ρ 5)) 6 (ρ 6)) 7 (ρ 7)) 8 (ρ 8)) 9 (ρ 9)) 10 (ρ 10)) 11 (ρ 11)) 12 (ρ 12)) 13 (upd A13 k (ρ 13 k))) 14 A14) μ f g) H22 := gSg_set h1 22 c23 oq
                                      have i13 := gAgr_u i13 (E := ρ 13) (i := k) (x := ρ 13 k) rfl
                                      generalize upd A13 k (ρ 13 k) = A13 at h1 i13
                                      refine lv_aload_n hx hb dX12_again_242 rfl (lv_at hl 0 rfl) ?_
                                      refine g_get (v := .ref (b + 23)) (T := TX12) (ci := 12) (N := 45) hx hb hown hK (gY_X12 hT) rfl (h1 0 _ rfl) 36 (by decide) (hT _ gf_X12_79) rfl dX12_again_243 ?_
                                      refine lv_iload_n hx hb dX12_again_246 rfl (lv_at hl 2 rfl) ?_
                                      refine lv_aload_n hx hb dX12_again_247 rfl (lv_at hl 1 rfl) ?_
                                      refine lv_bipush (v := 121) hx hb dX12_again_248 (by decide) ?_
                                      refine lv_iload_n hx hb dX12_again_250 rfl (lv_at hl 2 rfl) ?_
                                      refine lv_iadd hx hb dX12_again_251 ?_
                                      refine g_ia (j := 121 + k) (v := ρ 14 k) hx hb hK (h1 26 _ rfl) (gAdd rfl rfl) (by omega) (Nat.le_of_ble_eq_true rfl) ((hEn (121 + k) (by omega)).trans (gEn_14 (by omega))) dX12_again_252 ?_
                                      refine g_is (j := k) hx hb hK hS (h1 23 _ rfl) rfl (by omega) (Nat.le_of_ble_eq_true rfl) (by omega) dX12_again_253 (fun H24 locs c25 oq hS => ?_)
                                      have h1 : gSg G b (gLM G b (gR (gR (gR (gR (gR (gR (gR (gR (gR (gR (gR (gR (gR (gR (gR π 0 (ρ 0)) 1 (ρ 1)) 2 (ρ 2)) 3 (ρ 3)) 4 (ρ 4)) 5 (ρ 5)) 6 (ρ 6)) 7 (ρ 7)) 8 (ρ 8)) 9 (ρ 9)) 10 (ρ 10)) 11 (ρ 11)) 12 (ρ 12)) 13 A13) 14 (upd A14 k (ρ 14 k))) μ f g) H24 := gSg_set h1 23 c25 oq
                                      have i14 := gAgr_u i14 (E := ρ 14) (i := k) (x := ρ 14 k) rfl
                                      generalize upd A14 k (ρ 14 k) = A14 at h1 i14
                                      refine lv_iinc (v := nI (k + 1)) (lv' := [(2, .int (nI (k + 1))), (0, .ref b), (1, .ref (b + 26))]) hx hb dX12_again_254 hl (k := 2) rfl (gAdd rfl (show Int32.ofInt 1 = nI 1 from rfl)) (by decide) rfl (fun ls hl => ?_)
                                      refine lv_goto (tgt := 224) hx hb dX12_again_257 (by decide) ?_
                                      exact ih (k + 1) (by omega) A13 A14 (gAgr_w i13 (fun j hj => by first | omega | (simp only; omega))) (gAgr_w i14 (fun j hj => by first | omega | (simp only; omega))) _ _ h1 hS _ (by have hl := lv_sub hl [1, 2, 0] rfl; exact hl)
                                exact loop5 (8 - 0) 0 (by first | omega | simp) _ _ (fun j hj => absurd hj (by omega)) (fun j hj => absurd hj (by omega)) _ _ h1 hS _ (lv_sub hl [1, 2, 0] rfl)
                              · have c5 : ¬ 10 ≤ k := fun z => c5 ((gLe (a := 10) (b := k) rfl rfl (by omega) (by omega)).mpr z)
                                exact absurd c5 (by omega)
                            | succ d ih =>
                              intro k hk A11 A12 i11 i12 H locs h1 hS ls hl
                              refine lv_iload_n hx hb dX12_again_186 rfl (lv_at hl 2 rfl) ?_
                              refine lv_bipush (v := 10) hx hb dX12_again_187 (by decide) ?_
                              refine lv_icmp_ge (tgt := 222) hx hb dX12_again_189 (by decide) (fun c26 => ?_) (fun c26 => ?_)
                              · have c26 : 10 ≤ k := (gLe (a := 10) (b := k) rfl rfl (by omega) (by omega)).mp c26
                                exact absurd c26 (by omega)
                              · have c26 : ¬ 10 ≤ k := fun z => c26 ((gLe (a := 10) (b := k) rfl rfl (by omega) (by omega)).mpr z)
                                refine lv_aload_n hx hb dX12_again_192 rfl (lv_at hl 0 rfl) ?_
                                refine g_get (v := .ref (b + 20)) (T := TX12) (ci := 12) (N := 45) hx hb hown hK (gY_X12 hT) rfl (h1 0 _ rfl) 32 (by decide) (hT _ gf_X12_70) rfl dX12_again_193 ?_
                                refine lv_iload_n hx hb dX12_again_196 rfl (lv_at hl 2 rfl) ?_
                                refine lv_aload_n hx hb dX12_again_197 rfl (lv_at hl 1 rfl) ?_
                                refine lv_bipush (v := 93) hx hb dX12_again_198 (by decide) ?_
                                refine lv_iload_n hx hb dX12_again_200 rfl (lv_at hl 2 rfl) ?_
                                refine lv_iadd hx hb dX12_again_201 ?_
                                refine g_ia (j := 93 + k) (v := ρ 11 k) hx hb hK (h1 26 _ rfl) (gAdd rfl rfl) (by omega) (Nat.le_of_ble_eq_true rfl) ((hEn (93 + k) (by omega)).trans (gEn_11 (by omega))) dX12_again_202 ?_
                                refine g_is (j := k) hx hb hK hS (h1 20 _ rfl) rfl (by omega) (Nat.le_of_ble_eq_true rfl) (by omega) dX12_again_203 (fun H27 locs c28 oq hS => ?_)
                                have h1 : gSg G b (gLM G b (gR (gR (gR (gR (gR (gR (gR (gR (gR (gR (gR (gR (gR (gR (gR π 0 (ρ 0)) 1 (ρ 1)) 2 (ρ 2)) 3 (ρ 3)) 4 (ρ 4)) 5 (ρ 5)) 6 (ρ 6)) 7 (ρ 7)) 8 (ρ 8)) 9 (ρ 9)) 10 (ρ 10)) 11 (upd A11 k (ρ 11 k))) 12 A12) 13 (π 13)) 14 (π 14)) μ f g) H27 := gSg_set h1 20 c28 oq
                                have i11 := gAgr_u i11 (E := ρ 11) (i := k) (x := ρ 11 k) rfl
                                generalize upd A11 k (ρ 11 k) = A11 at h1 i11
                                refine lv_aload_n hx hb dX12_again_204 rfl (lv_at hl 0 rfl) ?_
                                refine g_get (v := .ref (b + 21)) (T := TX12) (ci := 12) (N := 45) hx hb hown hK (gY_X12 hT) rfl (h1 0 _ rfl) 33 (by decide) (hT _ gf_X12_73) rfl dX12_again_205 ?_
                                refine lv_iload_n hx hb dX12_again_208 rfl (lv_at hl 2 rfl) ?_
                                refine lv_aload_n hx hb dX12_again_209 rfl (lv_at hl 1 rfl) ?_
                                refine lv_bipush (v := 103) hx hb dX12_again_210 (by decide) ?_
                                refine lv_iload_n hx hb dX12_again_212 rfl (lv_at hl 2 rfl) ?_
                                refine lv_iadd hx hb dX12_again_213 ?_
                                refine g_ia (j := 103 + k) (v := ρ 12 k) hx hb hK (h1 26 _ rfl) (gAdd rfl rfl) (by omega) (Nat.le_of_ble_eq_true rfl) ((hEn (103 + k) (by omega)).trans (gEn_12 (by omega))) dX12_again_214 ?_
                                refine g_is (j := k) hx hb hK hS (h1 21 _ rfl) rfl (by omega) (Nat.le_of_ble_eq_true rfl) (by omega) dX12_again_215 (fun H29 locs c30 oq hS => ?_)
                                have h1 : gSg G b (gLM G b (gR (gR (gR (gR (gR (gR (gR (gR (gR (gR (gR (gR (gR (gR (gR π 0 (ρ 0)) 1 (ρ 1)) 2 (ρ 2)) 3 (ρ 3)) 4 (ρ 4)) 5 (ρ 5)) 6 (ρ 6)) 7 (ρ 7)) 8 (ρ 8)) 9 (ρ 9)) 10 (ρ 10)) 11 A11) 12 (upd A12 k (ρ 12 k))) 13 (π 13)) 14 (π 14)) μ f g) H29 := gSg_set h1 21 c30 oq
                                have i12 := gAgr_u i12 (E := ρ 12) (i := k) (x := ρ 12 k) rfl
                                generalize upd A12 k (ρ 12 k) = A12 at h1 i12
                                refine lv_iinc (v := nI (k + 1)) (lv' := [(2, .int (nI (k + 1))), (0, .ref b), (1, .ref (b + 26))]) hx hb dX12_again_216 hl (k := 2) rfl (gAdd rfl (show Int32.ofInt 1 = nI 1 from rfl)) (by decide) rfl (fun ls hl => ?_)
                                refine lv_goto (tgt := 186) hx hb dX12_again_219 (by decide) ?_
                                exact ih (k + 1) (by omega) A11 A12 (gAgr_w i11 (fun j hj => by first | omega | (simp only; omega))) (gAgr_w i12 (fun j hj => by first | omega | (simp only; omega))) _ _ h1 hS _ (by have hl := lv_sub hl [1, 2, 0] rfl; exact hl)
                          exact loop4 (10 - 0) 0 (by first | omega | simp) _ _ (fun j hj => absurd hj (by omega)) (fun j hj => absurd hj (by omega)) _ _ h1 hS _ (lv_sub hl [1, 2, 0] rfl)
                        · have c4 : ¬ 5 ≤ k := fun z => c4 ((gLe (a := 5) (b := k) rfl rfl (by omega) (by omega)).mpr z)
                          exact absurd c4 (by omega)
                      | succ d ih =>
                        intro k hk A8 A9 A10 i8 i9 i10 H locs h1 hS ls hl
                        refine lv_iload_n hx hb dX12_again_137 rfl (lv_at hl 2 rfl) ?_
                        refine lv_iconst (v := 5) hx hb dX12_again_138 (by decide) ?_
                        refine lv_icmp_ge (tgt := 184) hx hb dX12_again_139 (by decide) (fun c31 => ?_) (fun c31 => ?_)
                        · have c31 : 5 ≤ k := (gLe (a := 5) (b := k) rfl rfl (by omega) (by omega)).mp c31
                          exact absurd c31 (by omega)
                        · have c31 : ¬ 5 ≤ k := fun z => c31 ((gLe (a := 5) (b := k) rfl rfl (by omega) (by omega)).mpr z)
                          refine lv_aload_n hx hb dX12_again_142 rfl (lv_at hl 0 rfl) ?_
                          refine g_get (v := .ref (b + 17)) (T := TX12) (ci := 12) (N := 45) hx hb hown hK (gY_X12 hT) rfl (h1 0 _ rfl) 28 (by decide) (hT _ gf_X12_61) rfl dX12_again_143 ?_
                          refine lv_iload_n hx hb dX12_again_146 rfl (lv_at hl 2 rfl) ?_
                          refine lv_aload_n hx hb dX12_again_147 rfl (lv_at hl 1 rfl) ?_
                          refine lv_bipush (v := 78) hx hb dX12_again_148 (by decide) ?_
                          refine lv_iload_n hx hb dX12_again_150 rfl (lv_at hl 2 rfl) ?_
                          refine lv_iadd hx hb dX12_again_151 ?_
                          refine g_ia (j := 78 + k) (v := ρ 8 k) hx hb hK (h1 26 _ rfl) (gAdd rfl rfl) (by omega) (Nat.le_of_ble_eq_true rfl) ((hEn (78 + k) (by omega)).trans (gEn_8 (by omega))) dX12_again_152 ?_
                          refine g_is (j := k) hx hb hK hS (h1 17 _ rfl) rfl (by omega) (Nat.le_of_ble_eq_true rfl) (by omega) dX12_again_153 (fun H32 locs c33 oq hS => ?_)
                          have h1 : gSg G b (gLM G b (gR (gR (gR (gR (gR (gR (gR (gR (gR (gR (gR (gR (gR (gR (gR π 0 (ρ 0)) 1 (ρ 1)) 2 (ρ 2)) 3 (ρ 3)) 4 (ρ 4)) 5 (ρ 5)) 6 (ρ 6)) 7 (ρ 7)) 8 (upd A8 k (ρ 8 k))) 9 A9) 10 A10) 11 (π 11)) 12 (π 12)) 13 (π 13)) 14 (π 14)) μ f g) H32 := gSg_set h1 17 c33 oq
                          have i8 := gAgr_u i8 (E := ρ 8) (i := k) (x := ρ 8 k) rfl
                          generalize upd A8 k (ρ 8 k) = A8 at h1 i8
                          refine lv_aload_n hx hb dX12_again_154 rfl (lv_at hl 0 rfl) ?_
                          refine g_get (v := .ref (b + 18)) (T := TX12) (ci := 12) (N := 45) hx hb hown hK (gY_X12 hT) rfl (h1 0 _ rfl) 29 (by decide) (hT _ gf_X12_64) rfl dX12_again_155 ?_
                          refine lv_iload_n hx hb dX12_again_158 rfl (lv_at hl 2 rfl) ?_
                          refine lv_aload_n hx hb dX12_again_159 rfl (lv_at hl 1 rfl) ?_
                          refine lv_bipush (v := 83) hx hb dX12_again_160 (by decide) ?_
                          refine lv_iload_n hx hb dX12_again_162 rfl (lv_at hl 2 rfl) ?_
                          refine lv_iadd hx hb dX12_again_163 ?_
                          refine g_ia (j := 83 + k) (v := ρ 9 k) hx hb hK (h1 26 _ rfl) (gAdd rfl rfl) (by omega) (Nat.le_of_ble_eq_true rfl) ((hEn (83 + k) (by omega)).trans (gEn_9 (by omega))) dX12_again_164 ?_
                          refine g_is (j := k) hx hb hK hS (h1 18 _ rfl) rfl (by omega) (Nat.le_of_ble_eq_true rfl) (by omega) dX12_again_165 (fun H34 locs c35 oq hS => ?_)
                          have h1 : gSg G b (gLM G b (gR (gR (gR (gR (gR (gR (gR (gR (gR (gR (gR (gR (gR (gR (gR π 0 (ρ 0)) 1 (ρ 1)) 2 (ρ 2)) 3 (ρ 3)) 4 (ρ 4)) 5 (ρ 5)) 6 (ρ 6)) 7 (ρ 7)) 8 A8) 9 (upd A9 k (ρ 9 k))) 10 A10) 11 (π 11)) 12 (π 12)) 13 (π 13)) 14 (π 14)) μ f g) H34 := gSg_set h1 18 c35 oq
                          have i9 := gAgr_u i9 (E := ρ 9) (i := k) (x := ρ 9 k) rfl
                          generalize upd A9 k (ρ 9 k) = A9 at h1 i9
                          refine lv_aload_n hx hb dX12_again_166 rfl (lv_at hl 0 rfl) ?_
                          refine g_get (v := .ref (b + 19)) (T := TX12) (ci := 12) (N := 45) hx hb hown hK (gY_X12 hT) rfl (h1 0 _ rfl) 30 (by decide) (hT _ gf_X12_67) rfl dX12_again_167 ?_
                          refine lv_iload_n hx hb dX12_again_170 rfl (lv_at hl 2 rfl) ?_
                          refine lv_aload_n hx hb dX12_again_171 rfl (lv_at hl 1 rfl) ?_
                          refine lv_bipush (v := 88) hx hb dX12_again_172 (by decide) ?_
                          refine lv_iload_n hx hb dX12_again_174 rfl (lv_at hl 2 rfl) ?_
                          refine lv_iadd hx hb dX12_again_175 ?_
                          refine g_ia (j := 88 + k) (v := ρ 10 k) hx hb hK (h1 26 _ rfl) (gAdd rfl rfl) (by omega) (Nat.le_of_ble_eq_true rfl) ((hEn (88 + k) (by omega)).trans (gEn_10 (by omega))) dX12_again_176 ?_
                          refine g_is (j := k) hx hb hK hS (h1 19 _ rfl) rfl (by omega) (Nat.le_of_ble_eq_true rfl) (by omega) dX12_again_177 (fun H36 locs c37 oq hS => ?_)
                          have h1 : gSg G b (gLM G b (gR (gR (gR (gR (gR (gR (gR (gR (gR (gR (gR (gR (gR (gR (gR π 0 (ρ 0)) 1 (ρ 1)) 2 (ρ 2)) 3 (ρ 3)) 4 (ρ 4)) 5 (ρ 5)) 6 (ρ 6)) 7 (ρ 7)) 8 A8) 9 A9) 10 (upd A10 k (ρ 10 k))) 11 (π 11)) 12 (π 12)) 13 (π 13)) 14 (π 14)) μ f g) H36 := gSg_set h1 19 c37 oq
                          have i10 := gAgr_u i10 (E := ρ 10) (i := k) (x := ρ 10 k) rfl
                          generalize upd A10 k (ρ 10 k) = A10 at h1 i10
                          refine lv_iinc (v := nI (k + 1)) (lv' := [(2, .int (nI (k + 1))), (0, .ref b), (1, .ref (b + 26))]) hx hb dX12_again_178 hl (k := 2) rfl (gAdd rfl (show Int32.ofInt 1 = nI 1 from rfl)) (by decide) rfl (fun ls hl => ?_)
                          refine lv_goto (tgt := 137) hx hb dX12_again_181 (by decide) ?_
                          exact ih (k + 1) (by omega) A8 A9 A10 (gAgr_w i8 (fun j hj => by first | omega | (simp only; omega))) (gAgr_w i9 (fun j hj => by first | omega | (simp only; omega))) (gAgr_w i10 (fun j hj => by first | omega | (simp only; omega))) _ _ h1 hS _ (by have hl := lv_sub hl [1, 2, 0] rfl; exact hl)
                    exact loop3 (5 - 0) 0 (by first | omega | simp) _ _ _ (fun j hj => absurd hj (by omega)) (fun j hj => absurd hj (by omega)) (fun j hj => absurd hj (by omega)) _ _ h1 hS _ (lv_sub hl [1, 2, 0] rfl)
                  · have c3 : ¬ 24 ≤ k := fun z => c3 ((gLe (a := 24) (b := k) rfl rfl (by omega) (by omega)).mpr z)
                    exact absurd c3 (by omega)
                | succ d ih =>
                  intro k hk A7 i7 H locs h1 hS ls hl
                  refine lv_iload_n hx hb dX12_again_111 rfl (lv_at hl 2 rfl) ?_
                  refine lv_bipush (v := 24) hx hb dX12_again_112 (by decide) ?_
                  refine lv_icmp_ge (tgt := 135) hx hb dX12_again_114 (by decide) (fun c38 => ?_) (fun c38 => ?_)
                  · have c38 : 24 ≤ k := (gLe (a := 24) (b := k) rfl rfl (by omega) (by omega)).mp c38
                    exact absurd c38 (by omega)
                  · have c38 : ¬ 24 ≤ k := fun z => c38 ((gLe (a := 24) (b := k) rfl rfl (by omega) (by omega)).mpr z)
                    refine lv_aload_n hx hb dX12_again_117 rfl (lv_at hl 0 rfl) ?_
                    refine g_get (v := .ref (b + 8)) (T := TX12) (ci := 12) (N := 45) hx hb hown hK (gY_X12 hT) rfl (h1 0 _ rfl) 9 (by decide) (hT _ gf_X12_33) rfl dX12_again_118 ?_
                    refine lv_iload_n hx hb dX12_again_121 rfl (lv_at hl 2 rfl) ?_
                    refine lv_aload_n hx hb dX12_again_122 rfl (lv_at hl 1 rfl) ?_
                    refine lv_bipush (v := 54) hx hb dX12_again_123 (by decide) ?_
                    refine lv_iload_n hx hb dX12_again_125 rfl (lv_at hl 2 rfl) ?_
                    refine lv_iadd hx hb dX12_again_126 ?_
                    refine g_ia (j := 54 + k) (v := ρ 7 k) hx hb hK (h1 26 _ rfl) (gAdd rfl rfl) (by omega) (Nat.le_of_ble_eq_true rfl) ((hEn (54 + k) (by omega)).trans (gEn_7 (by omega))) dX12_again_127 ?_
                    refine g_is (j := k) hx hb hK hS (h1 8 _ rfl) rfl (by omega) (Nat.le_of_ble_eq_true rfl) (by omega) dX12_again_128 (fun H39 locs c40 oq hS => ?_)
                    have h1 : gSg G b (gLM G b (gR (gR (gR (gR (gR (gR (gR (gR (gR (gR (gR (gR (gR (gR (gR π 0 (ρ 0)) 1 (ρ 1)) 2 (ρ 2)) 3 (ρ 3)) 4 (ρ 4)) 5 (ρ 5)) 6 (ρ 6)) 7 (upd A7 k (ρ 7 k))) 8 (π 8)) 9 (π 9)) 10 (π 10)) 11 (π 11)) 12 (π 12)) 13 (π 13)) 14 (π 14)) μ f g) H39 := gSg_set h1 8 c40 oq
                    have i7 := gAgr_u i7 (E := ρ 7) (i := k) (x := ρ 7 k) rfl
                    generalize upd A7 k (ρ 7 k) = A7 at h1 i7
                    refine lv_iinc (v := nI (k + 1)) (lv' := [(2, .int (nI (k + 1))), (0, .ref b), (1, .ref (b + 26))]) hx hb dX12_again_129 hl (k := 2) rfl (gAdd rfl (show Int32.ofInt 1 = nI 1 from rfl)) (by decide) rfl (fun ls hl => ?_)
                    refine lv_goto (tgt := 111) hx hb dX12_again_132 (by decide) ?_
                    exact ih (k + 1) (by omega) A7 (gAgr_w i7 (fun j hj => by first | omega | (simp only; omega))) _ _ h1 hS _ (by have hl := lv_sub hl [1, 2, 0] rfl; exact hl)
              exact loop2 (24 - 0) 0 (by first | omega | simp) _ (fun j hj => absurd hj (by omega)) _ _ h1 hS _ (lv_sub hl [1, 2, 0] rfl)
            · have c2 : ¬ 6 ≤ k := fun z => c2 ((gLe (a := 6) (b := k) rfl rfl (by omega) (by omega)).mpr z)
              exact absurd c2 (by omega)
          | succ d ih =>
            intro k hk A2 A3 A4 A5 A6 i2 i3 i4 i5 i6 H locs h1 hS ls hl
            refine lv_iload_n hx hb dX12_again_37 rfl (lv_at hl 2 rfl) ?_
            refine lv_bipush (v := 6) hx hb dX12_again_38 (by decide) ?_
            refine lv_icmp_ge (tgt := 109) hx hb dX12_again_40 (by decide) (fun c41 => ?_) (fun c41 => ?_)
            · have c41 : 6 ≤ k := (gLe (a := 6) (b := k) rfl rfl (by omega) (by omega)).mp c41
              exact absurd c41 (by omega)
            · have c41 : ¬ 6 ≤ k := fun z => c41 ((gLe (a := 6) (b := k) rfl rfl (by omega) (by omega)).mpr z)
              refine lv_aload_n hx hb dX12_again_43 rfl (lv_at hl 0 rfl) ?_
              refine g_get (v := .ref (b + 3)) (T := TX12) (ci := 12) (N := 45) hx hb hown hK (gY_X12 hT) rfl (h1 0 _ rfl) 4 (by decide) (hT _ gf_X12_18) rfl dX12_again_44 ?_
              refine lv_iload_n hx hb dX12_again_47 rfl (lv_at hl 2 rfl) ?_
              refine lv_aload_n hx hb dX12_again_48 rfl (lv_at hl 1 rfl) ?_
              refine lv_bipush (v := 24) hx hb dX12_again_49 (by decide) ?_
              refine lv_iload_n hx hb dX12_again_51 rfl (lv_at hl 2 rfl) ?_
              refine lv_iadd hx hb dX12_again_52 ?_
              refine g_ia (j := 24 + k) (v := ρ 2 k) hx hb hK (h1 26 _ rfl) (gAdd rfl rfl) (by omega) (Nat.le_of_ble_eq_true rfl) ((hEn (24 + k) (by omega)).trans (gEn_2 (by omega))) dX12_again_53 ?_
              refine g_is (j := k) hx hb hK hS (h1 3 _ rfl) rfl (by omega) (Nat.le_of_ble_eq_true rfl) (by omega) dX12_again_54 (fun H42 locs c43 oq hS => ?_)
              have h1 : gSg G b (gLM G b (gR (gR (gR (gR (gR (gR (gR (gR (gR (gR (gR (gR (gR (gR (gR π 0 (ρ 0)) 1 (ρ 1)) 2 (upd A2 k (ρ 2 k))) 3 A3) 4 A4) 5 A5) 6 A6) 7 (π 7)) 8 (π 8)) 9 (π 9)) 10 (π 10)) 11 (π 11)) 12 (π 12)) 13 (π 13)) 14 (π 14)) μ f g) H42 := gSg_set h1 3 c43 oq
              have i2 := gAgr_u i2 (E := ρ 2) (i := k) (x := ρ 2 k) rfl
              generalize upd A2 k (ρ 2 k) = A2 at h1 i2
              refine lv_aload_n hx hb dX12_again_55 rfl (lv_at hl 0 rfl) ?_
              refine g_get (v := .ref (b + 4)) (T := TX12) (ci := 12) (N := 45) hx hb hown hK (gY_X12 hT) rfl (h1 0 _ rfl) 5 (by decide) (hT _ gf_X12_21) rfl dX12_again_56 ?_
              refine lv_iload_n hx hb dX12_again_59 rfl (lv_at hl 2 rfl) ?_
              refine lv_aload_n hx hb dX12_again_60 rfl (lv_at hl 1 rfl) ?_
              refine lv_bipush (v := 30) hx hb dX12_again_61 (by decide) ?_
              refine lv_iload_n hx hb dX12_again_63 rfl (lv_at hl 2 rfl) ?_
              refine lv_iadd hx hb dX12_again_64 ?_
              refine g_ia (j := 30 + k) (v := ρ 3 k) hx hb hK (h1 26 _ rfl) (gAdd rfl rfl) (by omega) (Nat.le_of_ble_eq_true rfl) ((hEn (30 + k) (by omega)).trans (gEn_3 (by omega))) dX12_again_65 ?_
              refine g_is (j := k) hx hb hK hS (h1 4 _ rfl) rfl (by omega) (Nat.le_of_ble_eq_true rfl) (by omega) dX12_again_66 (fun H44 locs c45 oq hS => ?_)
              have h1 : gSg G b (gLM G b (gR (gR (gR (gR (gR (gR (gR (gR (gR (gR (gR (gR (gR (gR (gR π 0 (ρ 0)) 1 (ρ 1)) 2 A2) 3 (upd A3 k (ρ 3 k))) 4 A4) 5 A5) 6 A6) 7 (π 7)) 8 (π 8)) 9 (π 9)) 10 (π 10)) 11 (π 11)) 12 (π 12)) 13 (π 13)) 14 (π 14)) μ f g) H44 := gSg_set h1 4 c45 oq
              have i3 := gAgr_u i3 (E := ρ 3) (i := k) (x := ρ 3 k) rfl
              generalize upd A3 k (ρ 3 k) = A3 at h1 i3
              refine lv_aload_n hx hb dX12_again_67 rfl (lv_at hl 0 rfl) ?_
              refine g_get (v := .ref (b + 5)) (T := TX12) (ci := 12) (N := 45) hx hb hown hK (gY_X12 hT) rfl (h1 0 _ rfl) 6 (by decide) (hT _ gf_X12_24) rfl dX12_again_68 ?_
              refine lv_iload_n hx hb dX12_again_71 rfl (lv_at hl 2 rfl) ?_
              refine lv_aload_n hx hb dX12_again_72 rfl (lv_at hl 1 rfl) ?_
              refine lv_bipush (v := 36) hx hb dX12_again_73 (by decide) ?_
              refine lv_iload_n hx hb dX12_again_75 rfl (lv_at hl 2 rfl) ?_
              refine lv_iadd hx hb dX12_again_76 ?_
              refine g_ia (j := 36 + k) (v := ρ 4 k) hx hb hK (h1 26 _ rfl) (gAdd rfl rfl) (by omega) (Nat.le_of_ble_eq_true rfl) ((hEn (36 + k) (by omega)).trans (gEn_4 (by omega))) dX12_again_77 ?_
              refine g_is (j := k) hx hb hK hS (h1 5 _ rfl) rfl (by omega) (Nat.le_of_ble_eq_true rfl) (by omega) dX12_again_78 (fun H46 locs c47 oq hS => ?_)
              have h1 : gSg G b (gLM G b (gR (gR (gR (gR (gR (gR (gR (gR (gR (gR (gR (gR (gR (gR (gR π 0 (ρ 0)) 1 (ρ 1)) 2 A2) 3 A3) 4 (upd A4 k (ρ 4 k))) 5 A5) 6 A6) 7 (π 7)) 8 (π 8)) 9 (π 9)) 10 (π 10)) 11 (π 11)) 12 (π 12)) 13 (π 13)) 14 (π 14)) μ f g) H46 := gSg_set h1 5 c47 oq
              have i4 := gAgr_u i4 (E := ρ 4) (i := k) (x := ρ 4 k) rfl
              generalize upd A4 k (ρ 4 k) = A4 at h1 i4
              refine lv_aload_n hx hb dX12_again_79 rfl (lv_at hl 0 rfl) ?_
              refine g_get (v := .ref (b + 6)) (T := TX12) (ci := 12) (N := 45) hx hb hown hK (gY_X12 hT) rfl (h1 0 _ rfl) 7 (by decide) (hT _ gf_X12_27) rfl dX12_again_80 ?_
              refine lv_iload_n hx hb dX12_again_83 rfl (lv_at hl 2 rfl) ?_
              refine lv_aload_n hx hb dX12_again_84 rfl (lv_at hl 1 rfl) ?_
              refine lv_bipush (v := 42) hx hb dX12_again_85 (by decide) ?_
              refine lv_iload_n hx hb dX12_again_87 rfl (lv_at hl 2 rfl) ?_
              refine lv_iadd hx hb dX12_again_88 ?_
              refine g_ia (j := 42 + k) (v := ρ 5 k) hx hb hK (h1 26 _ rfl) (gAdd rfl rfl) (by omega) (Nat.le_of_ble_eq_true rfl) ((hEn (42 + k) (by omega)).trans (gEn_5 (by omega))) dX12_again_89 ?_
              refine g_is (j := k) hx hb hK hS (h1 6 _ rfl) rfl (by omega) (Nat.le_of_ble_eq_true rfl) (by omega) dX12_again_90 (fun H48 locs c49 oq hS => ?_)
              have h1 : gSg G b (gLM G b (gR (gR (gR (gR (gR (gR (gR (gR (gR (gR (gR (gR (gR (gR (gR π 0 (ρ 0)) 1 (ρ 1)) 2 A2) 3 A3) 4 A4) 5 (upd A5 k (ρ 5 k))) 6 A6) 7 (π 7)) 8 (π 8)) 9 (π 9)) 10 (π 10)) 11 (π 11)) 12 (π 12)) 13 (π 13)) 14 (π 14)) μ f g) H48 := gSg_set h1 6 c49 oq
              have i5 := gAgr_u i5 (E := ρ 5) (i := k) (x := ρ 5 k) rfl
              generalize upd A5 k (ρ 5 k) = A5 at h1 i5
              refine lv_aload_n hx hb dX12_again_91 rfl (lv_at hl 0 rfl) ?_
              refine g_get (v := .ref (b + 7)) (T := TX12) (ci := 12) (N := 45) hx hb hown hK (gY_X12 hT) rfl (h1 0 _ rfl) 8 (by decide) (hT _ gf_X12_30) rfl dX12_again_92 ?_
              refine lv_iload_n hx hb dX12_again_95 rfl (lv_at hl 2 rfl) ?_
              refine lv_aload_n hx hb dX12_again_96 rfl (lv_at hl 1 rfl) ?_
              refine lv_bipush (v := 48) hx hb dX12_again_97 (by decide) ?_
              refine lv_iload_n hx hb dX12_again_99 rfl (lv_at hl 2 rfl) ?_
              refine lv_iadd hx hb dX12_again_100 ?_
              refine g_ia (j := 48 + k) (v := ρ 6 k) hx hb hK (h1 26 _ rfl) (gAdd rfl rfl) (by omega) (Nat.le_of_ble_eq_true rfl) ((hEn (48 + k) (by omega)).trans (gEn_6 (by omega))) dX12_again_101 ?_
              refine g_is (j := k) hx hb hK hS (h1 7 _ rfl) rfl (by omega) (Nat.le_of_ble_eq_true rfl) (by omega) dX12_again_102 (fun H50 locs c51 oq hS => ?_)
              have h1 : gSg G b (gLM G b (gR (gR (gR (gR (gR (gR (gR (gR (gR (gR (gR (gR (gR (gR (gR π 0 (ρ 0)) 1 (ρ 1)) 2 A2) 3 A3) 4 A4) 5 A5) 6 (upd A6 k (ρ 6 k))) 7 (π 7)) 8 (π 8)) 9 (π 9)) 10 (π 10)) 11 (π 11)) 12 (π 12)) 13 (π 13)) 14 (π 14)) μ f g) H50 := gSg_set h1 7 c51 oq
              have i6 := gAgr_u i6 (E := ρ 6) (i := k) (x := ρ 6 k) rfl
              generalize upd A6 k (ρ 6 k) = A6 at h1 i6
              refine lv_iinc (v := nI (k + 1)) (lv' := [(2, .int (nI (k + 1))), (0, .ref b), (1, .ref (b + 26))]) hx hb dX12_again_103 hl (k := 2) rfl (gAdd rfl (show Int32.ofInt 1 = nI 1 from rfl)) (by decide) rfl (fun ls hl => ?_)
              refine lv_goto (tgt := 37) hx hb dX12_again_106 (by decide) ?_
              exact ih (k + 1) (by omega) A2 A3 A4 A5 A6 (gAgr_w i2 (fun j hj => by first | omega | (simp only; omega))) (gAgr_w i3 (fun j hj => by first | omega | (simp only; omega))) (gAgr_w i4 (fun j hj => by first | omega | (simp only; omega))) (gAgr_w i5 (fun j hj => by first | omega | (simp only; omega))) (gAgr_w i6 (fun j hj => by first | omega | (simp only; omega))) _ _ h1 hS _ (by have hl := lv_sub hl [1, 2, 0] rfl; exact hl)
        exact loop1 (6 - 0) 0 (by first | omega | simp) _ _ _ _ _ (fun j hj => absurd hj (by omega)) (fun j hj => absurd hj (by omega)) (fun j hj => absurd hj (by omega)) (fun j hj => absurd hj (by omega)) (fun j hj => absurd hj (by omega)) _ _ h1 hS _ (lv_sub hl [1, 2, 0] rfl)
      · have c1 : ¬ 12 ≤ k := fun z => c1 ((gLe (a := 12) (b := k) rfl rfl (by omega) (by omega)).mpr z)
        exact absurd c1 (by omega)
    | succ d ih =>
      intro k hk A0 A1 i0 i1 H locs h1 hS ls hl
      refine lv_iload_n hx hb dX12_again_2 rfl (lv_at hl 2 rfl) ?_
      refine lv_bipush (v := 12) hx hb dX12_again_3 (by decide) ?_
      refine lv_icmp_ge (tgt := 35) hx hb dX12_again_5 (by decide) (fun c52 => ?_) (fun c52 => ?_)
      · have c52 : 12 ≤ k := (gLe (a := 12) (b := k) rfl rfl (by omega) (by omega)).mp c52
        exact absurd c52 (by omega)
      · have c52 : ¬ 12 ≤ k := fun z => c52 ((gLe (a := 12) (b := k) rfl rfl (by omega) (by omega)).mpr z)
        refine lv_aload_n hx hb dX12_again_8 rfl (lv_at hl 0 rfl) ?_
        refine g_get (v := .ref (b + 1)) (T := TX12) (ci := 12) (N := 45) hx hb hown hK (gY_X12 hT) rfl (h1 0 _ rfl) 0 (by decide) (hT _ gf_X12_9) rfl dX12_again_9 ?_
        refine lv_iload_n hx hb dX12_again_12 rfl (lv_at hl 2 rfl) ?_
        refine lv_aload_n hx hb dX12_again_13 rfl (lv_at hl 1 rfl) ?_
        refine lv_iload_n hx hb dX12_again_14 rfl (lv_at hl 2 rfl) ?_
        refine g_ia (j := k) (v := ρ 0 k) hx hb hK (h1 26 _ rfl) rfl (by omega) (Nat.le_of_ble_eq_true rfl) ((hEn k (by omega)).trans (gEn_z (π := ρ) (show k < 12 by omega))) dX12_again_15 ?_
        refine g_is (j := k) hx hb hK hS (h1 1 _ rfl) rfl (by omega) (Nat.le_of_ble_eq_true rfl) (by omega) dX12_again_16 (fun H53 locs c54 oq hS => ?_)
        have h1 : gSg G b (gLM G b (gR (gR (gR (gR (gR (gR (gR (gR (gR (gR (gR (gR (gR (gR (gR π 0 (upd A0 k (ρ 0 k))) 1 A1) 2 (π 2)) 3 (π 3)) 4 (π 4)) 5 (π 5)) 6 (π 6)) 7 (π 7)) 8 (π 8)) 9 (π 9)) 10 (π 10)) 11 (π 11)) 12 (π 12)) 13 (π 13)) 14 (π 14)) μ f g) H53 := gSg_set h1 1 c54 oq
        have i0 := gAgr_u i0 (E := ρ 0) (i := k) (x := ρ 0 k) rfl
        generalize upd A0 k (ρ 0 k) = A0 at h1 i0
        refine lv_aload_n hx hb dX12_again_17 rfl (lv_at hl 0 rfl) ?_
        refine g_get (v := .ref (b + 2)) (T := TX12) (ci := 12) (N := 45) hx hb hown hK (gY_X12 hT) rfl (h1 0 _ rfl) 1 (by decide) (hT _ gf_X12_15) rfl dX12_again_18 ?_
        refine lv_iload_n hx hb dX12_again_21 rfl (lv_at hl 2 rfl) ?_
        refine lv_aload_n hx hb dX12_again_22 rfl (lv_at hl 1 rfl) ?_
        refine lv_bipush (v := 12) hx hb dX12_again_23 (by decide) ?_
        refine lv_iload_n hx hb dX12_again_25 rfl (lv_at hl 2 rfl) ?_
        refine lv_iadd hx hb dX12_again_26 ?_
        refine g_ia (j := 12 + k) (v := ρ 1 k) hx hb hK (h1 26 _ rfl) (gAdd rfl rfl) (by omega) (Nat.le_of_ble_eq_true rfl) ((hEn (12 + k) (by omega)).trans (gEn_1 (by omega))) dX12_again_27 ?_
        refine g_is (j := k) hx hb hK hS (h1 2 _ rfl) rfl (by omega) (Nat.le_of_ble_eq_true rfl) (by omega) dX12_again_28 (fun H55 locs c56 oq hS => ?_)
        have h1 : gSg G b (gLM G b (gR (gR (gR (gR (gR (gR (gR (gR (gR (gR (gR (gR (gR (gR (gR π 0 A0) 1 (upd A1 k (ρ 1 k))) 2 (π 2)) 3 (π 3)) 4 (π 4)) 5 (π 5)) 6 (π 6)) 7 (π 7)) 8 (π 8)) 9 (π 9)) 10 (π 10)) 11 (π 11)) 12 (π 12)) 13 (π 13)) 14 (π 14)) μ f g) H55 := gSg_set h1 2 c56 oq
        have i1 := gAgr_u i1 (E := ρ 1) (i := k) (x := ρ 1 k) rfl
        generalize upd A1 k (ρ 1 k) = A1 at h1 i1
        refine lv_iinc (v := nI (k + 1)) (lv' := [(2, .int (nI (k + 1))), (0, .ref b), (1, .ref (b + 26))]) hx hb dX12_again_29 hl (k := 2) rfl (gAdd rfl (show Int32.ofInt 1 = nI 1 from rfl)) (by decide) rfl (fun ls hl => ?_)
        refine lv_goto (tgt := 2) hx hb dX12_again_32 (by decide) ?_
        exact ih (k + 1) (by omega) A0 A1 (gAgr_w i0 (fun j hj => by first | omega | (simp only; omega))) (gAgr_w i1 (fun j hj => by first | omega | (simp only; omega))) _ _ h1 hS _ (by have hl := lv_sub hl [1, 2, 0] rfl; exact hl)
  exact loop0 (12 - 0) 0 (by first | omega | simp) _ _ (fun j hj => absurd hj (by omega)) (fun j hj => absurd hj (by omega)) _ _ h1 hS _ (lv_sub hl [1, 2, 0] rfl)
