set_option maxHeartbeats 4000000 in
set_option maxRecDepth 100000 in
theorem c_X8_becomeAs_seen (l : Launch) (G : gW) (t u lp lq : Nat) (π ρ π' ρ' : gPS) (hd : t + 35 ≤ u ∨ u + 35 ≤ t) (zn : Nat) (hz9 : π' 15 3 = nI zn) (hzl : zn ≤ 5) : gCV l yX8_becomeAs cX8_becomeAs 3 (gRm 0 0) G [.ref (t + 10), .ref (u + 10)] (fun H => gSg G t (gLS G t π lp ρ) H ∧ gSg G u (gLS G u π' lq ρ') H) (fun H => ∃ V0 V1 V2 : Nat → Int32, gAgr (fun j => j < zn) V0 (ρ' 0) ∧ gAgr (fun j => j < zn) V1 (ρ' 1) ∧ gAgr (fun j => j < zn) V2 (ρ' 2) ∧ gSg G t (gLS G t (gU π 15 3 (π' 15 3)) lp (gR (gR (gR ρ 0 V0) 1 V1) 2 V2)) H) (fun q => t ≤ q ∧ q < t + 22) := by
  refine g_start (by decide) (Nat.le_of_ble_eq_true rfl) ?_
  intro pp_ ee_ s mm_ aa_ below meth cc_ ls Q hQ hX hE hP hl
  obtain ⟨hx, hb, hr, hml, hown, hT, hlk, hnm⟩ := hX
  have hK := hE.2.1
  obtain ⟨h1, h2⟩ := hP
  have hS : va_S (fun q => t ≤ q ∧ q < t + 22) s.heap s.heap [] := va_S.rf
  have hl : lv_has ls 3 [(0, .ref (t + 10)), (1, .ref (u + 10))] := hl
  have h1 : gSg G t (gLS G t π lp (gR (gR (gR ρ 0 (ρ 0)) 1 (ρ 1)) 2 (ρ 2))) s.heap := h1
  refine lv_aload_n hx hb dX8_becomeAs_0 rfl (lv_at hl 0 rfl) ?_
  refine lv_aload_n hx hb dX8_becomeAs_1 rfl (lv_at hl 1 rfl) ?_
  refine g_get (v := .int (π' 15 3)) (T := TX8) (ci := 8) (N := 4) hx hb hown hK (gY_X8 hT) rfl (h2 10 _ rfl) 3 (by decide) (hT _ gf_X8_21) rfl dX8_becomeAs_2 ?_
  refine g_put (T := TX8) (ci := 8) (N := 4) (ty0 := tyX8) hx hb hown hK hS (gY_X8 hT) tyX8_ok nmX8 rfl (h1 10 _ rfl) 3 (by decide) (hT _ gf_X8_21) rfl rfl rfl (Nat.le_of_ble_eq_true rfl) (by omega) dX8_becomeAs_5 (fun H1 locs c2 oq hS => ?_)
  have h1 : gSg G t (gLS G t (gU π 15 3 (π' 15 3)) lp (gR (gR (gR ρ 0 (ρ 0)) 1 (ρ 1)) 2 (ρ 2))) H1 := gSg_set h1 10 c2 oq
  have h2 := gSg_off h2 oq (by simp only [List.length_cons, List.length_nil]; omega)
  refine lv_iconst (v := 0) hx hb dX8_becomeAs_8 (by decide) ?_
  refine lv_istore_n (lv' := [(2, .int 0), (0, .ref (t + 10)), (1, .ref (u + 10))]) hx hb dX8_becomeAs_9 rfl hl (by decide) rfl (fun ls hl => ?_)
  have loop : ∀ (d k : Nat), k + d = zn → ∀ (V0 V1 V2 : Nat → Int32), gAgr (fun j => j < k) V0 (ρ' 0) → gAgr (fun j => j < k) V1 (ρ' 1) → gAgr (fun j => j < k) V2 (ρ' 2) → ∀ (H : Heap) (locs : List Loc), gSg G t (gLS G t (gU π 15 3 (π' 15 3)) lp (gR (gR (gR ρ 0 V0) 1 V1) 2 V2)) H → gSg G u (gLS G u π' lq ρ') H → va_S (fun q => t ≤ q ∧ q < t + 22) s.heap H locs → ∀ ls, lv_has ls 3 [(0, .ref (t + 10)), (1, .ref (u + 10)), (2, .int (nI k))] → W pp_ l ee_ (gRm 0 0) s mm_ aa_ below meth cc_ H locs 0 0 Q (F0 mm_ 10 ls []) := by
    intro d
    induction d with
    | zero =>
      intro k hk V0 V1 V2 i0 i1 i2 H locs h1 h2 hS ls hl
      have hk : k = zn := by omega
      refine lv_iload_n hx hb dX8_becomeAs_10 rfl (lv_at hl 2 rfl) ?_
      refine lv_aload_n hx hb dX8_becomeAs_11 rfl (lv_at hl 0 rfl) ?_
      refine g_get (v := .int (π' 15 3)) (T := TX8) (ci := 8) (N := 4) hx hb hown hK (gY_X8 hT) rfl (h1 10 _ rfl) 3 (by decide) (hT _ gf_X8_21) rfl dX8_becomeAs_12 ?_
      refine lv_icmp_ge (tgt := 60) hx hb dX8_becomeAs_15 (by decide) (fun c3 => ?_) (fun c3 => ?_)
      · have c3 : zn ≤ k := (gLe (a := zn) (b := k) hz9 rfl (by omega) (by omega)).mp c3
        rw [← hQ]
        exact g_vret hx hb hr hlk hS dX8_becomeAs_60 ⟨V0, V1, V2, by rw [← hk]; exact i0, by rw [← hk]; exact i1, by rw [← hk]; exact i2, h1⟩
      · have c3 : ¬ zn ≤ k := fun z => c3 ((gLe (a := zn) (b := k) hz9 rfl (by omega) (by omega)).mpr z)
        exact absurd c3 (by omega)
    | succ d ih =>
      intro k hk V0 V1 V2 i0 i1 i2 H locs h1 h2 hS ls hl
      refine lv_iload_n hx hb dX8_becomeAs_10 rfl (lv_at hl 2 rfl) ?_
      refine lv_aload_n hx hb dX8_becomeAs_11 rfl (lv_at hl 0 rfl) ?_
      refine g_get (v := .int (π' 15 3)) (T := TX8) (ci := 8) (N := 4) hx hb hown hK (gY_X8 hT) rfl (h1 10 _ rfl) 3 (by decide) (hT _ gf_X8_21) rfl dX8_becomeAs_12 ?_
      refine lv_icmp_ge (tgt := 60) hx hb dX8_becomeAs_15 (by decide) (fun c4 => ?_) (fun c4 => ?_)
      · have c4 : zn ≤ k := (gLe (a := zn) (b := k) hz9 rfl (by omega) (by omega)).mp c4
        exact absurd c4 (by omega)
      · have c4 : ¬ zn ≤ k := fun z => c4 ((gLe (a := zn) (b := k) hz9 rfl (by omega) (by omega)).mpr z)
        refine lv_aload_n hx hb dX8_becomeAs_18 rfl (lv_at hl 0 rfl) ?_
        refine g_get (v := .ref (t + 11)) (T := TX8) (ci := 8) (N := 4) hx hb hown hK (gY_X8 hT) rfl (h1 10 _ rfl) 0 (by decide) (hT _ gf_X8_9) rfl dX8_becomeAs_19 ?_
        refine lv_iload_n hx hb dX8_becomeAs_22 rfl (lv_at hl 2 rfl) ?_
        refine lv_aload_n hx hb dX8_becomeAs_23 rfl (lv_at hl 1 rfl) ?_
        refine g_get (v := .ref (u + 11)) (T := TX8) (ci := 8) (N := 4) hx hb hown hK (gY_X8 hT) rfl (h2 10 _ rfl) 0 (by decide) (hT _ gf_X8_9) rfl dX8_becomeAs_24 ?_
        refine lv_iload_n hx hb dX8_becomeAs_27 rfl (lv_at hl 2 rfl) ?_
        refine g_ia (j := k) (v := ρ' 0 k) hx hb hK (h2 11 _ rfl) rfl (by omega) (Nat.le_of_ble_eq_true rfl) rfl dX8_becomeAs_28 ?_
        refine g_is (j := k) hx hb hK hS (h1 11 _ rfl) rfl (by omega) (Nat.le_of_ble_eq_true rfl) (by omega) dX8_becomeAs_29 (fun H5 locs c6 oq hS => ?_)
        have h1 : gSg G t (gLS G t (gU π 15 3 (π' 15 3)) lp (gR (gR (gR ρ 0 (upd V0 k (ρ' 0 k))) 1 V1) 2 V2)) H5 := gSg_set h1 11 c6 oq
        have h2 := gSg_off h2 oq (by simp only [List.length_cons, List.length_nil]; omega)
        have i0 := gAgr_u i0 (E := ρ' 0) (i := k) (x := ρ' 0 k) rfl
        generalize upd V0 k (ρ' 0 k) = V0 at h1 i0
        refine lv_aload_n hx hb dX8_becomeAs_30 rfl (lv_at hl 0 rfl) ?_
        refine g_get (v := .ref (t + 12)) (T := TX8) (ci := 8) (N := 4) hx hb hown hK (gY_X8 hT) rfl (h1 10 _ rfl) 1 (by decide) (hT _ gf_X8_15) rfl dX8_becomeAs_31 ?_
        refine lv_iload_n hx hb dX8_becomeAs_34 rfl (lv_at hl 2 rfl) ?_
        refine lv_aload_n hx hb dX8_becomeAs_35 rfl (lv_at hl 1 rfl) ?_
        refine g_get (v := .ref (u + 12)) (T := TX8) (ci := 8) (N := 4) hx hb hown hK (gY_X8 hT) rfl (h2 10 _ rfl) 1 (by decide) (hT _ gf_X8_15) rfl dX8_becomeAs_36 ?_
        refine lv_iload_n hx hb dX8_becomeAs_39 rfl (lv_at hl 2 rfl) ?_
        refine g_ia (j := k) (v := ρ' 1 k) hx hb hK (h2 12 _ rfl) rfl (by omega) (Nat.le_of_ble_eq_true rfl) rfl dX8_becomeAs_40 ?_
        refine g_is (j := k) hx hb hK hS (h1 12 _ rfl) rfl (by omega) (Nat.le_of_ble_eq_true rfl) (by omega) dX8_becomeAs_41 (fun H7 locs c8 oq hS => ?_)
        have h1 : gSg G t (gLS G t (gU π 15 3 (π' 15 3)) lp (gR (gR (gR ρ 0 V0) 1 (upd V1 k (ρ' 1 k))) 2 V2)) H7 := gSg_set h1 12 c8 oq
        have h2 := gSg_off h2 oq (by simp only [List.length_cons, List.length_nil]; omega)
        have i1 := gAgr_u i1 (E := ρ' 1) (i := k) (x := ρ' 1 k) rfl
        generalize upd V1 k (ρ' 1 k) = V1 at h1 i1
        refine lv_aload_n hx hb dX8_becomeAs_42 rfl (lv_at hl 0 rfl) ?_
        refine g_get (v := .ref (t + 13)) (T := TX8) (ci := 8) (N := 4) hx hb hown hK (gY_X8 hT) rfl (h1 10 _ rfl) 2 (by decide) (hT _ gf_X8_18) rfl dX8_becomeAs_43 ?_
        refine lv_iload_n hx hb dX8_becomeAs_46 rfl (lv_at hl 2 rfl) ?_
        refine lv_aload_n hx hb dX8_becomeAs_47 rfl (lv_at hl 1 rfl) ?_
        refine g_get (v := .ref (u + 13)) (T := TX8) (ci := 8) (N := 4) hx hb hown hK (gY_X8 hT) rfl (h2 10 _ rfl) 2 (by decide) (hT _ gf_X8_18) rfl dX8_becomeAs_48 ?_
        refine lv_iload_n hx hb dX8_becomeAs_51 rfl (lv_at hl 2 rfl) ?_
        refine g_ia (j := k) (v := ρ' 2 k) hx hb hK (h2 13 _ rfl) rfl (by omega) (Nat.le_of_ble_eq_true rfl) rfl dX8_becomeAs_52 ?_
        refine g_is (j := k) hx hb hK hS (h1 13 _ rfl) rfl (by omega) (Nat.le_of_ble_eq_true rfl) (by omega) dX8_becomeAs_53 (fun H9 locs c10 oq hS => ?_)
        have h1 : gSg G t (gLS G t (gU π 15 3 (π' 15 3)) lp (gR (gR (gR ρ 0 V0) 1 V1) 2 (upd V2 k (ρ' 2 k)))) H9 := gSg_set h1 13 c10 oq
        have h2 := gSg_off h2 oq (by simp only [List.length_cons, List.length_nil]; omega)
        have i2 := gAgr_u i2 (E := ρ' 2) (i := k) (x := ρ' 2 k) rfl
        generalize upd V2 k (ρ' 2 k) = V2 at h1 i2
        refine lv_iinc (v := nI (k + 1)) (lv' := [(2, .int (nI (k + 1))), (0, .ref (t + 10)), (1, .ref (u + 10))]) hx hb dX8_becomeAs_54 hl (k := 2) rfl (gAdd rfl (show Int32.ofInt 1 = nI 1 from rfl)) (by decide) rfl (fun ls hl => ?_)
        refine lv_goto (tgt := 10) hx hb dX8_becomeAs_57 (by decide) ?_
        exact ih (k + 1) (by omega) V0 V1 V2 (gAgr_w i0 (fun j hj => by first | omega | (simp only; omega))) (gAgr_w i1 (fun j hj => by first | omega | (simp only; omega))) (gAgr_w i2 (fun j hj => by first | omega | (simp only; omega))) _ _ h1 h2 hS _ (by have hl := lv_sub hl [1, 2, 0] rfl; exact hl)
  exact loop (zn - 0) 0 (by first | omega | simp) _ _ _ (fun j hj => absurd hj (by omega)) (fun j hj => absurd hj (by omega)) (fun j hj => absurd hj (by omega)) _ _ h1 h2 hS _ (lv_sub hl [1, 2, 0] rfl)

set_option maxHeartbeats 4000000 in
set_option maxRecDepth 100000 in
theorem c_X8_becomeAs_plan (l : Launch) (G : gW) (t u lp lq : Nat) (π ρ π' ρ' : gPS) (hd : t + 35 ≤ u ∨ u + 35 ≤ t) (zn : Nat) (hz9 : π' 15 4 = nI zn) (hzl : zn ≤ 10) : gCV l yX8_becomeAs cX8_becomeAs 3 (gRm 0 0) G [.ref (t + 14), .ref (u + 14)] (fun H => gSg G t (gLS G t π lp ρ) H ∧ gSg G u (gLS G u π' lq ρ') H) (fun H => ∃ V0 V1 V2 : Nat → Int32, gAgr (fun j => j < zn) V0 (ρ' 3) ∧ gAgr (fun j => j < zn) V1 (ρ' 4) ∧ gAgr (fun j => j < zn) V2 (ρ' 5) ∧ gSg G t (gLS G t (gU π 15 4 (π' 15 4)) lp (gR (gR (gR ρ 3 V0) 4 V1) 5 V2)) H) (fun q => t ≤ q ∧ q < t + 22) := by
  refine g_start (by decide) (Nat.le_of_ble_eq_true rfl) ?_
  intro pp_ ee_ s mm_ aa_ below meth cc_ ls Q hQ hX hE hP hl
  obtain ⟨hx, hb, hr, hml, hown, hT, hlk, hnm⟩ := hX
  have hK := hE.2.1
  obtain ⟨h1, h2⟩ := hP
  have hS : va_S (fun q => t ≤ q ∧ q < t + 22) s.heap s.heap [] := va_S.rf
  have hl : lv_has ls 3 [(0, .ref (t + 14)), (1, .ref (u + 14))] := hl
  have h1 : gSg G t (gLS G t π lp (gR (gR (gR ρ 3 (ρ 3)) 4 (ρ 4)) 5 (ρ 5))) s.heap := h1
  refine lv_aload_n hx hb dX8_becomeAs_0 rfl (lv_at hl 0 rfl) ?_
  refine lv_aload_n hx hb dX8_becomeAs_1 rfl (lv_at hl 1 rfl) ?_
  refine g_get (v := .int (π' 15 4)) (T := TX8) (ci := 8) (N := 4) hx hb hown hK (gY_X8 hT) rfl (h2 14 _ rfl) 3 (by decide) (hT _ gf_X8_21) rfl dX8_becomeAs_2 ?_
  refine g_put (T := TX8) (ci := 8) (N := 4) (ty0 := tyX8) hx hb hown hK hS (gY_X8 hT) tyX8_ok nmX8 rfl (h1 14 _ rfl) 3 (by decide) (hT _ gf_X8_21) rfl rfl rfl (Nat.le_of_ble_eq_true rfl) (by omega) dX8_becomeAs_5 (fun H1 locs c2 oq hS => ?_)
  have h1 : gSg G t (gLS G t (gU π 15 4 (π' 15 4)) lp (gR (gR (gR ρ 3 (ρ 3)) 4 (ρ 4)) 5 (ρ 5))) H1 := gSg_set h1 14 c2 oq
  have h2 := gSg_off h2 oq (by simp only [List.length_cons, List.length_nil]; omega)
  refine lv_iconst (v := 0) hx hb dX8_becomeAs_8 (by decide) ?_
  refine lv_istore_n (lv' := [(2, .int 0), (0, .ref (t + 14)), (1, .ref (u + 14))]) hx hb dX8_becomeAs_9 rfl hl (by decide) rfl (fun ls hl => ?_)
  have loop : ∀ (d k : Nat), k + d = zn → ∀ (V0 V1 V2 : Nat → Int32), gAgr (fun j => j < k) V0 (ρ' 3) → gAgr (fun j => j < k) V1 (ρ' 4) → gAgr (fun j => j < k) V2 (ρ' 5) → ∀ (H : Heap) (locs : List Loc), gSg G t (gLS G t (gU π 15 4 (π' 15 4)) lp (gR (gR (gR ρ 3 V0) 4 V1) 5 V2)) H → gSg G u (gLS G u π' lq ρ') H → va_S (fun q => t ≤ q ∧ q < t + 22) s.heap H locs → ∀ ls, lv_has ls 3 [(0, .ref (t + 14)), (1, .ref (u + 14)), (2, .int (nI k))] → W pp_ l ee_ (gRm 0 0) s mm_ aa_ below meth cc_ H locs 0 0 Q (F0 mm_ 10 ls []) := by
    intro d
    induction d with
    | zero =>
      intro k hk V0 V1 V2 i0 i1 i2 H locs h1 h2 hS ls hl
      have hk : k = zn := by omega
      refine lv_iload_n hx hb dX8_becomeAs_10 rfl (lv_at hl 2 rfl) ?_
      refine lv_aload_n hx hb dX8_becomeAs_11 rfl (lv_at hl 0 rfl) ?_
      refine g_get (v := .int (π' 15 4)) (T := TX8) (ci := 8) (N := 4) hx hb hown hK (gY_X8 hT) rfl (h1 14 _ rfl) 3 (by decide) (hT _ gf_X8_21) rfl dX8_becomeAs_12 ?_
      refine lv_icmp_ge (tgt := 60) hx hb dX8_becomeAs_15 (by decide) (fun c3 => ?_) (fun c3 => ?_)
      · have c3 : zn ≤ k := (gLe (a := zn) (b := k) hz9 rfl (by omega) (by omega)).mp c3
        rw [← hQ]
        exact g_vret hx hb hr hlk hS dX8_becomeAs_60 ⟨V0, V1, V2, by rw [← hk]; exact i0, by rw [← hk]; exact i1, by rw [← hk]; exact i2, h1⟩
      · have c3 : ¬ zn ≤ k := fun z => c3 ((gLe (a := zn) (b := k) hz9 rfl (by omega) (by omega)).mpr z)
        exact absurd c3 (by omega)
    | succ d ih =>
      intro k hk V0 V1 V2 i0 i1 i2 H locs h1 h2 hS ls hl
      refine lv_iload_n hx hb dX8_becomeAs_10 rfl (lv_at hl 2 rfl) ?_
      refine lv_aload_n hx hb dX8_becomeAs_11 rfl (lv_at hl 0 rfl) ?_
      refine g_get (v := .int (π' 15 4)) (T := TX8) (ci := 8) (N := 4) hx hb hown hK (gY_X8 hT) rfl (h1 14 _ rfl) 3 (by decide) (hT _ gf_X8_21) rfl dX8_becomeAs_12 ?_
      refine lv_icmp_ge (tgt := 60) hx hb dX8_becomeAs_15 (by decide) (fun c4 => ?_) (fun c4 => ?_)
      · have c4 : zn ≤ k := (gLe (a := zn) (b := k) hz9 rfl (by omega) (by omega)).mp c4
        exact absurd c4 (by omega)
      · have c4 : ¬ zn ≤ k := fun z => c4 ((gLe (a := zn) (b := k) hz9 rfl (by omega) (by omega)).mpr z)
        refine lv_aload_n hx hb dX8_becomeAs_18 rfl (lv_at hl 0 rfl) ?_
        refine g_get (v := .ref (t + 15)) (T := TX8) (ci := 8) (N := 4) hx hb hown hK (gY_X8 hT) rfl (h1 14 _ rfl) 0 (by decide) (hT _ gf_X8_9) rfl dX8_becomeAs_19 ?_
        refine lv_iload_n hx hb dX8_becomeAs_22 rfl (lv_at hl 2 rfl) ?_
        refine lv_aload_n hx hb dX8_becomeAs_23 rfl (lv_at hl 1 rfl) ?_
        refine g_get (v := .ref (u + 15)) (T := TX8) (ci := 8) (N := 4) hx hb hown hK (gY_X8 hT) rfl (h2 14 _ rfl) 0 (by decide) (hT _ gf_X8_9) rfl dX8_becomeAs_24 ?_
        refine lv_iload_n hx hb dX8_becomeAs_27 rfl (lv_at hl 2 rfl) ?_
        refine g_ia (j := k) (v := ρ' 3 k) hx hb hK (h2 15 _ rfl) rfl (by omega) (Nat.le_of_ble_eq_true rfl) rfl dX8_becomeAs_28 ?_
        refine g_is (j := k) hx hb hK hS (h1 15 _ rfl) rfl (by omega) (Nat.le_of_ble_eq_true rfl) (by omega) dX8_becomeAs_29 (fun H5 locs c6 oq hS => ?_)
        have h1 : gSg G t (gLS G t (gU π 15 4 (π' 15 4)) lp (gR (gR (gR ρ 3 (upd V0 k (ρ' 3 k))) 4 V1) 5 V2)) H5 := gSg_set h1 15 c6 oq
        have h2 := gSg_off h2 oq (by simp only [List.length_cons, List.length_nil]; omega)
        have i0 := gAgr_u i0 (E := ρ' 3) (i := k) (x := ρ' 3 k) rfl
        generalize upd V0 k (ρ' 3 k) = V0 at h1 i0
        refine lv_aload_n hx hb dX8_becomeAs_30 rfl (lv_at hl 0 rfl) ?_
        refine g_get (v := .ref (t + 16)) (T := TX8) (ci := 8) (N := 4) hx hb hown hK (gY_X8 hT) rfl (h1 14 _ rfl) 1 (by decide) (hT _ gf_X8_15) rfl dX8_becomeAs_31 ?_
        refine lv_iload_n hx hb dX8_becomeAs_34 rfl (lv_at hl 2 rfl) ?_
        refine lv_aload_n hx hb dX8_becomeAs_35 rfl (lv_at hl 1 rfl) ?_
        refine g_get (v := .ref (u + 16)) (T := TX8) (ci := 8) (N := 4) hx hb hown hK (gY_X8 hT) rfl (h2 14 _ rfl) 1 (by decide) (hT _ gf_X8_15) rfl dX8_becomeAs_36 ?_
        refine lv_iload_n hx hb dX8_becomeAs_39 rfl (lv_at hl 2 rfl) ?_
        refine g_ia (j := k) (v := ρ' 4 k) hx hb hK (h2 16 _ rfl) rfl (by omega) (Nat.le_of_ble_eq_true rfl) rfl dX8_becomeAs_40 ?_
        refine g_is (j := k) hx hb hK hS (h1 16 _ rfl) rfl (by omega) (Nat.le_of_ble_eq_true rfl) (by omega) dX8_becomeAs_41 (fun H7 locs c8 oq hS => ?_)
        have h1 : gSg G t (gLS G t (gU π 15 4 (π' 15 4)) lp (gR (gR (gR ρ 3 V0) 4 (upd V1 k (ρ' 4 k))) 5 V2)) H7 := gSg_set h1 16 c8 oq
        have h2 := gSg_off h2 oq (by simp only [List.length_cons, List.length_nil]; omega)
        have i1 := gAgr_u i1 (E := ρ' 4) (i := k) (x := ρ' 4 k) rfl
        generalize upd V1 k (ρ' 4 k) = V1 at h1 i1
        refine lv_aload_n hx hb dX8_becomeAs_42 rfl (lv_at hl 0 rfl) ?_
        refine g_get (v := .ref (t + 17)) (T := TX8) (ci := 8) (N := 4) hx hb hown hK (gY_X8 hT) rfl (h1 14 _ rfl) 2 (by decide) (hT _ gf_X8_18) rfl dX8_becomeAs_43 ?_
        refine lv_iload_n hx hb dX8_becomeAs_46 rfl (lv_at hl 2 rfl) ?_
        refine lv_aload_n hx hb dX8_becomeAs_47 rfl (lv_at hl 1 rfl) ?_
        refine g_get (v := .ref (u + 17)) (T := TX8) (ci := 8) (N := 4) hx hb hown hK (gY_X8 hT) rfl (h2 14 _ rfl) 2 (by decide) (hT _ gf_X8_18) rfl dX8_becomeAs_48 ?_
        refine lv_iload_n hx hb dX8_becomeAs_51 rfl (lv_at hl 2 rfl) ?_
        refine g_ia (j := k) (v := ρ' 5 k) hx hb hK (h2 17 _ rfl) rfl (by omega) (Nat.le_of_ble_eq_true rfl) rfl dX8_becomeAs_52 ?_
        refine g_is (j := k) hx hb hK hS (h1 17 _ rfl) rfl (by omega) (Nat.le_of_ble_eq_true rfl) (by omega) dX8_becomeAs_53 (fun H9 locs c10 oq hS => ?_)
        have h1 : gSg G t (gLS G t (gU π 15 4 (π' 15 4)) lp (gR (gR (gR ρ 3 V0) 4 V1) 5 (upd V2 k (ρ' 5 k)))) H9 := gSg_set h1 17 c10 oq
        have h2 := gSg_off h2 oq (by simp only [List.length_cons, List.length_nil]; omega)
        have i2 := gAgr_u i2 (E := ρ' 5) (i := k) (x := ρ' 5 k) rfl
        generalize upd V2 k (ρ' 5 k) = V2 at h1 i2
        refine lv_iinc (v := nI (k + 1)) (lv' := [(2, .int (nI (k + 1))), (0, .ref (t + 14)), (1, .ref (u + 14))]) hx hb dX8_becomeAs_54 hl (k := 2) rfl (gAdd rfl (show Int32.ofInt 1 = nI 1 from rfl)) (by decide) rfl (fun ls hl => ?_)
        refine lv_goto (tgt := 10) hx hb dX8_becomeAs_57 (by decide) ?_
        exact ih (k + 1) (by omega) V0 V1 V2 (gAgr_w i0 (fun j hj => by first | omega | (simp only; omega))) (gAgr_w i1 (fun j hj => by first | omega | (simp only; omega))) (gAgr_w i2 (fun j hj => by first | omega | (simp only; omega))) _ _ h1 h2 hS _ (by have hl := lv_sub hl [1, 2, 0] rfl; exact hl)
  exact loop (zn - 0) 0 (by first | omega | simp) _ _ _ (fun j hj => absurd hj (by omega)) (fun j hj => absurd hj (by omega)) (fun j hj => absurd hj (by omega)) _ _ h1 h2 hS _ (lv_sub hl [1, 2, 0] rfl)

set_option maxHeartbeats 4000000 in
set_option maxRecDepth 100000 in
theorem c_X8_becomeAs_book (l : Launch) (G : gW) (t u lp lq : Nat) (π ρ π' ρ' : gPS) (hd : t + 35 ≤ u ∨ u + 35 ≤ t) (zn : Nat) (hz9 : π' 15 5 = nI zn) (hzl : zn ≤ 8) : gCV l yX8_becomeAs cX8_becomeAs 3 (gRm 0 0) G [.ref (t + 18), .ref (u + 18)] (fun H => gSg G t (gLS G t π lp ρ) H ∧ gSg G u (gLS G u π' lq ρ') H) (fun H => ∃ V0 V1 V2 : Nat → Int32, gAgr (fun j => j < zn) V0 (ρ' 6) ∧ gAgr (fun j => j < zn) V1 (ρ' 7) ∧ gAgr (fun j => j < zn) V2 (ρ' 8) ∧ gSg G t (gLS G t (gU π 15 5 (π' 15 5)) lp (gR (gR (gR ρ 6 V0) 7 V1) 8 V2)) H) (fun q => t ≤ q ∧ q < t + 22) := by
  refine g_start (by decide) (Nat.le_of_ble_eq_true rfl) ?_
  intro pp_ ee_ s mm_ aa_ below meth cc_ ls Q hQ hX hE hP hl
  obtain ⟨hx, hb, hr, hml, hown, hT, hlk, hnm⟩ := hX
  have hK := hE.2.1
  obtain ⟨h1, h2⟩ := hP
  have hS : va_S (fun q => t ≤ q ∧ q < t + 22) s.heap s.heap [] := va_S.rf
  have hl : lv_has ls 3 [(0, .ref (t + 18)), (1, .ref (u + 18))] := hl
  have h1 : gSg G t (gLS G t π lp (gR (gR (gR ρ 6 (ρ 6)) 7 (ρ 7)) 8 (ρ 8))) s.heap := h1
  refine lv_aload_n hx hb dX8_becomeAs_0 rfl (lv_at hl 0 rfl) ?_
  refine lv_aload_n hx hb dX8_becomeAs_1 rfl (lv_at hl 1 rfl) ?_
  refine g_get (v := .int (π' 15 5)) (T := TX8) (ci := 8) (N := 4) hx hb hown hK (gY_X8 hT) rfl (h2 18 _ rfl) 3 (by decide) (hT _ gf_X8_21) rfl dX8_becomeAs_2 ?_
  refine g_put (T := TX8) (ci := 8) (N := 4) (ty0 := tyX8) hx hb hown hK hS (gY_X8 hT) tyX8_ok nmX8 rfl (h1 18 _ rfl) 3 (by decide) (hT _ gf_X8_21) rfl rfl rfl (Nat.le_of_ble_eq_true rfl) (by omega) dX8_becomeAs_5 (fun H1 locs c2 oq hS => ?_)
  have h1 : gSg G t (gLS G t (gU π 15 5 (π' 15 5)) lp (gR (gR (gR ρ 6 (ρ 6)) 7 (ρ 7)) 8 (ρ 8))) H1 := gSg_set h1 18 c2 oq
  have h2 := gSg_off h2 oq (by simp only [List.length_cons, List.length_nil]; omega)
  refine lv_iconst (v := 0) hx hb dX8_becomeAs_8 (by decide) ?_
  refine lv_istore_n (lv' := [(2, .int 0), (0, .ref (t + 18)), (1, .ref (u + 18))]) hx hb dX8_becomeAs_9 rfl hl (by decide) rfl (fun ls hl => ?_)
  have loop : ∀ (d k : Nat), k + d = zn → ∀ (V0 V1 V2 : Nat → Int32), gAgr (fun j => j < k) V0 (ρ' 6) → gAgr (fun j => j < k) V1 (ρ' 7) → gAgr (fun j => j < k) V2 (ρ' 8) → ∀ (H : Heap) (locs : List Loc), gSg G t (gLS G t (gU π 15 5 (π' 15 5)) lp (gR (gR (gR ρ 6 V0) 7 V1) 8 V2)) H → gSg G u (gLS G u π' lq ρ') H → va_S (fun q => t ≤ q ∧ q < t + 22) s.heap H locs → ∀ ls, lv_has ls 3 [(0, .ref (t + 18)), (1, .ref (u + 18)), (2, .int (nI k))] → W pp_ l ee_ (gRm 0 0) s mm_ aa_ below meth cc_ H locs 0 0 Q (F0 mm_ 10 ls []) := by
    intro d
    induction d with
    | zero =>
      intro k hk V0 V1 V2 i0 i1 i2 H locs h1 h2 hS ls hl
      have hk : k = zn := by omega
      refine lv_iload_n hx hb dX8_becomeAs_10 rfl (lv_at hl 2 rfl) ?_
      refine lv_aload_n hx hb dX8_becomeAs_11 rfl (lv_at hl 0 rfl) ?_
      refine g_get (v := .int (π' 15 5)) (T := TX8) (ci := 8) (N := 4) hx hb hown hK (gY_X8 hT) rfl (h1 18 _ rfl) 3 (by decide) (hT _ gf_X8_21) rfl dX8_becomeAs_12 ?_
      refine lv_icmp_ge (tgt := 60) hx hb dX8_becomeAs_15 (by decide) (fun c3 => ?_) (fun c3 => ?_)
      · have c3 : zn ≤ k := (gLe (a := zn) (b := k) hz9 rfl (by omega) (by omega)).mp c3
        rw [← hQ]
        exact g_vret hx hb hr hlk hS dX8_becomeAs_60 ⟨V0, V1, V2, by rw [← hk]; exact i0, by rw [← hk]; exact i1, by rw [← hk]; exact i2, h1⟩
      · have c3 : ¬ zn ≤ k := fun z => c3 ((gLe (a := zn) (b := k) hz9 rfl (by omega) (by omega)).mpr z)
        exact absurd c3 (by omega)
    | succ d ih =>
      intro k hk V0 V1 V2 i0 i1 i2 H locs h1 h2 hS ls hl
      refine lv_iload_n hx hb dX8_becomeAs_10 rfl (lv_at hl 2 rfl) ?_
      refine lv_aload_n hx hb dX8_becomeAs_11 rfl (lv_at hl 0 rfl) ?_
      refine g_get (v := .int (π' 15 5)) (T := TX8) (ci := 8) (N := 4) hx hb hown hK (gY_X8 hT) rfl (h1 18 _ rfl) 3 (by decide) (hT _ gf_X8_21) rfl dX8_becomeAs_12 ?_
      refine lv_icmp_ge (tgt := 60) hx hb dX8_becomeAs_15 (by decide) (fun c4 => ?_) (fun c4 => ?_)
      · have c4 : zn ≤ k := (gLe (a := zn) (b := k) hz9 rfl (by omega) (by omega)).mp c4
        exact absurd c4 (by omega)
      · have c4 : ¬ zn ≤ k := fun z => c4 ((gLe (a := zn) (b := k) hz9 rfl (by omega) (by omega)).mpr z)
        refine lv_aload_n hx hb dX8_becomeAs_18 rfl (lv_at hl 0 rfl) ?_
        refine g_get (v := .ref (t + 19)) (T := TX8) (ci := 8) (N := 4) hx hb hown hK (gY_X8 hT) rfl (h1 18 _ rfl) 0 (by decide) (hT _ gf_X8_9) rfl dX8_becomeAs_19 ?_
        refine lv_iload_n hx hb dX8_becomeAs_22 rfl (lv_at hl 2 rfl) ?_
        refine lv_aload_n hx hb dX8_becomeAs_23 rfl (lv_at hl 1 rfl) ?_
        refine g_get (v := .ref (u + 19)) (T := TX8) (ci := 8) (N := 4) hx hb hown hK (gY_X8 hT) rfl (h2 18 _ rfl) 0 (by decide) (hT _ gf_X8_9) rfl dX8_becomeAs_24 ?_
        refine lv_iload_n hx hb dX8_becomeAs_27 rfl (lv_at hl 2 rfl) ?_
        refine g_ia (j := k) (v := ρ' 6 k) hx hb hK (h2 19 _ rfl) rfl (by omega) (Nat.le_of_ble_eq_true rfl) rfl dX8_becomeAs_28 ?_
        refine g_is (j := k) hx hb hK hS (h1 19 _ rfl) rfl (by omega) (Nat.le_of_ble_eq_true rfl) (by omega) dX8_becomeAs_29 (fun H5 locs c6 oq hS => ?_)
        have h1 : gSg G t (gLS G t (gU π 15 5 (π' 15 5)) lp (gR (gR (gR ρ 6 (upd V0 k (ρ' 6 k))) 7 V1) 8 V2)) H5 := gSg_set h1 19 c6 oq
        have h2 := gSg_off h2 oq (by simp only [List.length_cons, List.length_nil]; omega)
        have i0 := gAgr_u i0 (E := ρ' 6) (i := k) (x := ρ' 6 k) rfl
        generalize upd V0 k (ρ' 6 k) = V0 at h1 i0
        refine lv_aload_n hx hb dX8_becomeAs_30 rfl (lv_at hl 0 rfl) ?_
        refine g_get (v := .ref (t + 20)) (T := TX8) (ci := 8) (N := 4) hx hb hown hK (gY_X8 hT) rfl (h1 18 _ rfl) 1 (by decide) (hT _ gf_X8_15) rfl dX8_becomeAs_31 ?_
        refine lv_iload_n hx hb dX8_becomeAs_34 rfl (lv_at hl 2 rfl) ?_
        refine lv_aload_n hx hb dX8_becomeAs_35 rfl (lv_at hl 1 rfl) ?_
        refine g_get (v := .ref (u + 20)) (T := TX8) (ci := 8) (N := 4) hx hb hown hK (gY_X8 hT) rfl (h2 18 _ rfl) 1 (by decide) (hT _ gf_X8_15) rfl dX8_becomeAs_36 ?_
        refine lv_iload_n hx hb dX8_becomeAs_39 rfl (lv_at hl 2 rfl) ?_
        refine g_ia (j := k) (v := ρ' 7 k) hx hb hK (h2 20 _ rfl) rfl (by omega) (Nat.le_of_ble_eq_true rfl) rfl dX8_becomeAs_40 ?_
        refine g_is (j := k) hx hb hK hS (h1 20 _ rfl) rfl (by omega) (Nat.le_of_ble_eq_true rfl) (by omega) dX8_becomeAs_41 (fun H7 locs c8 oq hS => ?_)
        have h1 : gSg G t (gLS G t (gU π 15 5 (π' 15 5)) lp (gR (gR (gR ρ 6 V0) 7 (upd V1 k (ρ' 7 k))) 8 V2)) H7 := gSg_set h1 20 c8 oq
        have h2 := gSg_off h2 oq (by simp only [List.length_cons, List.length_nil]; omega)
        have i1 := gAgr_u i1 (E := ρ' 7) (i := k) (x := ρ' 7 k) rfl
        generalize upd V1 k (ρ' 7 k) = V1 at h1 i1
        refine lv_aload_n hx hb dX8_becomeAs_42 rfl (lv_at hl 0 rfl) ?_
        refine g_get (v := .ref (t + 21)) (T := TX8) (ci := 8) (N := 4) hx hb hown hK (gY_X8 hT) rfl (h1 18 _ rfl) 2 (by decide) (hT _ gf_X8_18) rfl dX8_becomeAs_43 ?_
        refine lv_iload_n hx hb dX8_becomeAs_46 rfl (lv_at hl 2 rfl) ?_
        refine lv_aload_n hx hb dX8_becomeAs_47 rfl (lv_at hl 1 rfl) ?_
        refine g_get (v := .ref (u + 21)) (T := TX8) (ci := 8) (N := 4) hx hb hown hK (gY_X8 hT) rfl (h2 18 _ rfl) 2 (by decide) (hT _ gf_X8_18) rfl dX8_becomeAs_48 ?_
        refine lv_iload_n hx hb dX8_becomeAs_51 rfl (lv_at hl 2 rfl) ?_
        refine g_ia (j := k) (v := ρ' 8 k) hx hb hK (h2 21 _ rfl) rfl (by omega) (Nat.le_of_ble_eq_true rfl) rfl dX8_becomeAs_52 ?_
        refine g_is (j := k) hx hb hK hS (h1 21 _ rfl) rfl (by omega) (Nat.le_of_ble_eq_true rfl) (by omega) dX8_becomeAs_53 (fun H9 locs c10 oq hS => ?_)
        have h1 : gSg G t (gLS G t (gU π 15 5 (π' 15 5)) lp (gR (gR (gR ρ 6 V0) 7 V1) 8 (upd V2 k (ρ' 8 k)))) H9 := gSg_set h1 21 c10 oq
        have h2 := gSg_off h2 oq (by simp only [List.length_cons, List.length_nil]; omega)
        have i2 := gAgr_u i2 (E := ρ' 8) (i := k) (x := ρ' 8 k) rfl
        generalize upd V2 k (ρ' 8 k) = V2 at h1 i2
        refine lv_iinc (v := nI (k + 1)) (lv' := [(2, .int (nI (k + 1))), (0, .ref (t + 18)), (1, .ref (u + 18))]) hx hb dX8_becomeAs_54 hl (k := 2) rfl (gAdd rfl (show Int32.ofInt 1 = nI 1 from rfl)) (by decide) rfl (fun ls hl => ?_)
        refine lv_goto (tgt := 10) hx hb dX8_becomeAs_57 (by decide) ?_
        exact ih (k + 1) (by omega) V0 V1 V2 (gAgr_w i0 (fun j hj => by first | omega | (simp only; omega))) (gAgr_w i1 (fun j hj => by first | omega | (simp only; omega))) (gAgr_w i2 (fun j hj => by first | omega | (simp only; omega))) _ _ h1 h2 hS _ (by have hl := lv_sub hl [1, 2, 0] rfl; exact hl)
  exact loop (zn - 0) 0 (by first | omega | simp) _ _ _ (fun j hj => absurd hj (by omega)) (fun j hj => absurd hj (by omega)) (fun j hj => absurd hj (by omega)) _ _ h1 h2 hS _ (lv_sub hl [1, 2, 0] rfl)
