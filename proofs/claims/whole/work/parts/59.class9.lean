set_option maxHeartbeats 4000000 in
set_option maxRecDepth 100000 in
theorem c_X5_isSo (l : Launch) (G : gW) (t : Nat) (f : gPS) (a : Nat) (K : List Nat) (hst : ∀ q, q < K.length → f 1 (a + q) = gStp (K.getD q 0)) (hak : a + K.length ≤ 100) (hrun0 : gRun K 0 = true) : gCI l yX5_isSo cX5_isSo 6 .boolean (gRm 1 23) G [.ref t, .int (nI a), .int (nI (a + K.length))] (fun H => gSg G t (gLL G t f) H) (fun r H => r = gB (gEvT (f 4) K = true)) (fun _ => False) := by
  refine g_start (by decide) (Nat.le_of_ble_eq_true rfl) ?_
  intro pp_ ee_ s mm_ aa_ below meth cc_ ls Q hQ hX hE hP hl
  obtain ⟨hx, hb, hr, hml, hown, hT, hlk, hnm⟩ := hX
  have hK := hE.2.1
  have h1 := hP
  have hS : va_S (fun _ => False) s.heap s.heap [] := va_S.rf
  have hl : lv_has ls 6 [(0, .ref t), (1, .int (nI a)), (2, .int (nI (a + K.length)))] := hl
  refine lv_iconst (v := 0) hx hb dX5_isSo_0 (by decide) ?_
  refine lv_istore_n (lv' := [(3, .int 0), (0, .ref t), (1, .int (nI a)), (2, .int (nI (a + K.length)))]) hx hb dX5_isSo_1 rfl hl (by decide) rfl (fun ls hl => ?_)
  refine lv_iload_n hx hb dX5_isSo_2 rfl (lv_at hl 2 rfl) ?_
  refine lv_istore (lv' := [(4, .int (nI a)), (3, .int 0), (0, .ref t), (1, .int (nI a)), (2, .int (nI (a + K.length)))]) hx hb dX5_isSo_3 hl (by decide) rfl (fun ls hl => ?_)
  have loop : ∀ (cs : List Nat) (q : Nat) (st : List Bool) (x : Int32), q + cs.length = K.length → (∀ r, r < cs.length → f 1 (a + (q + r)) = gStp (cs.getD r 0)) → gRun cs st.length = true → gEv (f 4) cs st = gEv (f 4) K [] → gBt x st → st.length ≤ 30 → ∀ (H : Heap) (locs : List Loc), gSg G t (gLL G t f) H → va_S (fun _ => False) s.heap H locs → ∀ ls, lv_has ls 6 [(0, .ref t), (1, .int (nI a)), (2, .int (nI (a + K.length))), (3, .int x), (4, .int (nI (a + q)))] → W pp_ l ee_ (gRm 1 23) s mm_ aa_ below meth cc_ H locs 0 0 Q (F0 mm_ 5 ls []) := by
    intro cs
    induction cs with
    | nil =>
      intro q st x hq hc hrun hev hbt hlen H locs h1 hS ls hl
      simp only [List.length_nil] at hq
      have h1n : st.length = 1 := by simpa [gRun] using hrun
      obtain ⟨a9, rfl⟩ := List.length_eq_one_iff.mp h1n
      have ha9 : gEvT (f 4) K = a9 := by rw [gEvT, ← hev]; rfl
      refine lv_iload hx hb dX5_isSo_5 (lv_at hl 4 rfl) ?_
      refine lv_iload_n hx hb dX5_isSo_7 rfl (lv_at hl 2 rfl) ?_
      refine lv_icmp_ge (tgt := 93) hx hb dX5_isSo_8 (by decide) (fun c1 => ?_) (fun c1 => ?_)
      · have c1 : (a + K.length) ≤ (a + q) := (gLe (a := a + K.length) (b := a + q) rfl rfl (by omega) (by omega)).mp c1
        refine lv_iload_n hx hb dX5_isSo_93 rfl (lv_at hl 3 rfl) ?_
        refine lv_iconst (v := 1) hx hb dX5_isSo_94 (by decide) ?_
        refine lv_iand hx hb dX5_isSo_95 ?_
        refine lv_if_eq (tgt := 103) hx hb dX5_isSo_96 (by decide) (fun c2 => ?_) (fun c2 => ?_)
        · refine lv_iconst (v := 0) hx hb dX5_isSo_103 (by decide) ?_
          rw [← hQ]
          exact g_zret hx hb hr hlk rfl hS dX5_isSo_104 (by rw [ha9]; exact (gB_f ((gBt_e hbt).mp c2)).symm)
        · refine lv_iconst (v := 1) hx hb dX5_isSo_99 (by decide) ?_
          refine lv_goto (tgt := 104) hx hb dX5_isSo_100 (by decide) ?_
          rw [← hQ]
          exact g_zret hx hb hr hlk rfl hS dX5_isSo_104 (by rw [ha9]; exact (gB_t (Classical.byContradiction fun z => c2 ((gBt_e hbt).mpr z))).symm)
      · have c1 : ¬ (a + K.length) ≤ (a + q) := fun z => c1 ((gLe (a := a + K.length) (b := a + q) rfl rfl (by omega) (by omega)).mpr z)
        exact absurd c1 (by omega)
    | cons c cs ih =>
      intro q st x hq hc hrun hev hbt hlen H locs h1 hS ls hl
      simp only [List.length_cons] at hq
      have c18 := gRun_c hrun
      have e6 : f 1 (a + q) = gStp c := by have := hc 0 (by simp); simpa using this
      by_cases h3 : 3 ≤ c
      · have e6 : f 1 (a + q) = nI (c - 3) := by rw [e6, gStp, if_pos h3]
        obtain ⟨r1, r2, r3⟩ := gRun_t h3 hrun
        refine lv_iload hx hb dX5_isSo_5 (lv_at hl 4 rfl) ?_
        refine lv_iload_n hx hb dX5_isSo_7 rfl (lv_at hl 2 rfl) ?_
        refine lv_icmp_ge (tgt := 93) hx hb dX5_isSo_8 (by decide) (fun c3 => ?_) (fun c3 => ?_)
        · have c3 : (a + K.length) ≤ (a + q) := (gLe (a := a + K.length) (b := a + q) rfl rfl (by omega) (by omega)).mp c3
          exact absurd c3 (by omega)
        · have c3 : ¬ (a + K.length) ≤ (a + q) := fun z => c3 ((gLe (a := a + K.length) (b := a + q) rfl rfl (by omega) (by omega)).mpr z)
          refine lv_aload_n hx hb dX5_isSo_11 rfl (lv_at hl 0 rfl) ?_
          refine g_get (v := .ref (t + 2)) (T := TX5) (ci := 5) (N := 10) hx hb hown hK (gY_X5 hT) rfl (h1 0 _ rfl) 3 (by decide) (hT _ gf_X5_15) rfl dX5_isSo_12 ?_
          refine lv_iload hx hb dX5_isSo_15 (lv_at hl 4 rfl) ?_
          refine g_ia (j := a + q) (v := nI (c - 3)) hx hb hK (h1 2 _ rfl) rfl (by omega) (Nat.le_of_ble_eq_true rfl) e6 dX5_isSo_17 ?_
          refine lv_istore (lv' := [(5, .int (nI (c - 3))), (0, .ref t), (1, .int (nI a)), (2, .int (nI (a + K.length))), (3, .int x), (4, .int (nI (a + q)))]) hx hb dX5_isSo_18 hl (by decide) rfl (fun ls hl => ?_)
          refine lv_iload hx hb dX5_isSo_20 (lv_at hl 0 rfl) ?_
          refine lv_if_lt (tgt := 47) hx hb dX5_isSo_22 (by decide) (fun c4 => ?_) (fun c4 => ?_)
          · have c4 : (c - 3) < 0 := (gLt (a := c - 3) (b := 0) rfl rfl (by omega) (by omega)).mp c4
            exact absurd c4 (by omega)
          · have c4 : ¬ (c - 3) < 0 := fun z => c4 ((gLt (a := c - 3) (b := 0) rfl rfl (by omega) (by omega)).mpr z)
            refine lv_iload_n hx hb dX5_isSo_25 rfl (lv_at hl 4 rfl) ?_
            refine lv_iconst (v := 1) hx hb dX5_isSo_26 (by decide) ?_
            refine lv_ishl hx hb dX5_isSo_27 ?_
            refine lv_aload_n hx hb dX5_isSo_28 rfl (lv_at hl 1 rfl) ?_
            refine lv_iload hx hb dX5_isSo_29 (lv_at hl 0 rfl) ?_
            refine g_ki (g_runV (T := TX5) (ci := 5) (N := 10) (rest := [.int (x <<< (1 &&& 31))]) hx hb hml hown hE hT (c_X5_isTrue l G t f (c - 3) (by omega)) gM_X5_isTrue gm_X5_133 gi_X5_isTrue gs_RX5_yX5_isTrue_yX5_isTrue rfl (h1 0 _ rfl) h1 rfl hl.1 ⟨rfl, rfl⟩ ⟨Nat.le_of_ble_eq_true rfl, Nat.le_of_ble_eq_true rfl⟩ ⟨Nat.zero_le _, Nat.zero_le _⟩ rfl (Nat.le_of_ble_eq_true rfl) dX5_isSo_31) hS (fun _ h => h.elim) (fun r8 H5 locs q6 k7 hS => ?_)
            subst q6
            have h1 := gSg_free h1 k7 (by intro k hk q; simp only [List.length_cons, List.length_nil] at hk; omega)
            refine lv_if_eq (tgt := 41) hx hb dX5_isSo_34 (by decide) (fun c9 => ?_) (fun c9 => ?_)
            · have c9 : ¬ (gTst (f 4) (c - 3) = true) := gB_0.mp c9
              refine lv_iconst (v := 0) hx hb dX5_isSo_41 (by decide) ?_
              refine lv_ior hx hb dX5_isSo_42 ?_
              refine lv_istore_n (lv' := [(3, .int ((x <<< (1 &&& 31)) ||| 0)), (5, .int (nI (c - 3))), (0, .ref t), (1, .int (nI a)), (2, .int (nI (a + K.length))), (4, .int (nI (a + q)))]) hx hb dX5_isSo_43 rfl hl (by decide) rfl (fun ls hl => ?_)
              refine lv_goto (tgt := 87) hx hb dX5_isSo_44 (by decide) ?_
              refine lv_iinc (v := nI (a + q + 1)) (lv' := [(4, .int (nI (a + q + 1))), (3, .int ((x <<< (1 &&& 31)) ||| 0)), (5, .int (nI (c - 3))), (0, .ref t), (1, .int (nI a)), (2, .int (nI (a + K.length)))]) hx hb dX5_isSo_87 hl (k := 5) rfl (gAdd rfl (show Int32.ofInt 1 = nI 1 from rfl)) (by decide) rfl (fun ls hl => ?_)
              refine lv_goto (tgt := 5) hx hb dX5_isSo_90 (by decide) ?_
              have he : gEs (f 4) c st = (gTst (f 4) (c - 3) :: st) := by unfold gEs; rw [if_pos h3]
              have c9 : gTst (f 4) (c - 3) = false := by simpa using c9
              exact ih (q + 1) (gTst (f 4) (c - 3) :: st) _ (by omega) (fun r hr => by have := hc (r + 1) (by simp; omega); simpa [Nat.add_assoc, Nat.add_comm 1 r] using this) r3 (by rw [← hev]; show _ = gEv (f 4) cs (gEs (f 4) c st); rw [he]) (by rw [c9]; exact gBt_0 hbt (by omega)) (by simp only [List.length_cons]; omega) _ _ h1 hS _ (lv_sub hl [3, 4, 5, 1, 0] rfl)
            · have c9 : gTst (f 4) (c - 3) = true := gB_1.mp c9
              refine lv_iconst (v := 1) hx hb dX5_isSo_37 (by decide) ?_
              refine lv_goto (tgt := 42) hx hb dX5_isSo_38 (by decide) ?_
              refine lv_ior hx hb dX5_isSo_42 ?_
              refine lv_istore_n (lv' := [(3, .int ((x <<< (1 &&& 31)) ||| 1)), (5, .int (nI (c - 3))), (0, .ref t), (1, .int (nI a)), (2, .int (nI (a + K.length))), (4, .int (nI (a + q)))]) hx hb dX5_isSo_43 rfl hl (by decide) rfl (fun ls hl => ?_)
              refine lv_goto (tgt := 87) hx hb dX5_isSo_44 (by decide) ?_
              refine lv_iinc (v := nI (a + q + 1)) (lv' := [(4, .int (nI (a + q + 1))), (3, .int ((x <<< (1 &&& 31)) ||| 1)), (5, .int (nI (c - 3))), (0, .ref t), (1, .int (nI a)), (2, .int (nI (a + K.length)))]) hx hb dX5_isSo_87 hl (k := 5) rfl (gAdd rfl (show Int32.ofInt 1 = nI 1 from rfl)) (by decide) rfl (fun ls hl => ?_)
              refine lv_goto (tgt := 5) hx hb dX5_isSo_90 (by decide) ?_
              have he : gEs (f 4) c st = (gTst (f 4) (c - 3) :: st) := by unfold gEs; rw [if_pos h3]
              exact ih (q + 1) (gTst (f 4) (c - 3) :: st) _ (by omega) (fun r hr => by have := hc (r + 1) (by simp; omega); simpa [Nat.add_assoc, Nat.add_comm 1 r] using this) r3 (by rw [← hev]; show _ = gEv (f 4) cs (gEs (f 4) c st); rw [he]) (by rw [c9]; exact gBt_1 hbt (by omega)) (by simp only [List.length_cons]; omega) _ _ h1 hS _ (lv_sub hl [3, 4, 5, 1, 0] rfl)
      · by_cases h0 : c = 0
        · have e6 : f 1 (a + q) = (-1) := by rw [e6, h0]; rfl
          obtain ⟨r1, r3⟩ := gRun_0 h0 hrun
          obtain ⟨a9, st, rfl⟩ : ∃ a st1, st = a :: st1 := by cases st with | nil => simp at r1 | cons a st => exact ⟨a, st, rfl⟩
          simp only [List.length_cons] at hlen
          refine lv_iload hx hb dX5_isSo_5 (lv_at hl 4 rfl) ?_
          refine lv_iload_n hx hb dX5_isSo_7 rfl (lv_at hl 2 rfl) ?_
          refine lv_icmp_ge (tgt := 93) hx hb dX5_isSo_8 (by decide) (fun c10 => ?_) (fun c10 => ?_)
          · have c10 : (a + K.length) ≤ (a + q) := (gLe (a := a + K.length) (b := a + q) rfl rfl (by omega) (by omega)).mp c10
            exact absurd c10 (by omega)
          · have c10 : ¬ (a + K.length) ≤ (a + q) := fun z => c10 ((gLe (a := a + K.length) (b := a + q) rfl rfl (by omega) (by omega)).mpr z)
            refine lv_aload_n hx hb dX5_isSo_11 rfl (lv_at hl 0 rfl) ?_
            refine g_get (v := .ref (t + 2)) (T := TX5) (ci := 5) (N := 10) hx hb hown hK (gY_X5 hT) rfl (h1 0 _ rfl) 3 (by decide) (hT _ gf_X5_15) rfl dX5_isSo_12 ?_
            refine lv_iload hx hb dX5_isSo_15 (lv_at hl 4 rfl) ?_
            refine g_ia (j := a + q) (v := -1) hx hb hK (h1 2 _ rfl) rfl (by omega) (Nat.le_of_ble_eq_true rfl) e6 dX5_isSo_17 ?_
            refine lv_istore (lv' := [(5, .int (-1)), (0, .ref t), (1, .int (nI a)), (2, .int (nI (a + K.length))), (3, .int x), (4, .int (nI (a + q)))]) hx hb dX5_isSo_18 hl (by decide) rfl (fun ls hl => ?_)
            refine lv_iload hx hb dX5_isSo_20 (lv_at hl 0 rfl) ?_
            refine lv_if_lt (tgt := 47) hx hb dX5_isSo_22 (by decide) (fun c11 => ?_) (fun c11 => ?_)
            · refine lv_iload hx hb dX5_isSo_47 (lv_at hl 0 rfl) ?_
              refine lv_iconst (v := (-1)) hx hb dX5_isSo_49 (by decide) ?_
              refine lv_icmp_ne (tgt := 60) hx hb dX5_isSo_50 (by decide) (fun c12 => ?_) (fun c12 => ?_)
              · exact absurd (by decide) c12
              · refine lv_iload_n hx hb dX5_isSo_53 rfl (lv_at hl 4 rfl) ?_
                refine lv_iconst (v := 1) hx hb dX5_isSo_54 (by decide) ?_
                refine lv_ixor hx hb dX5_isSo_55 ?_
                refine lv_istore_n (lv' := [(3, .int (x ^^^ 1)), (5, .int (-1)), (0, .ref t), (1, .int (nI a)), (2, .int (nI (a + K.length))), (4, .int (nI (a + q)))]) hx hb dX5_isSo_56 rfl hl (by decide) rfl (fun ls hl => ?_)
                refine lv_goto (tgt := 87) hx hb dX5_isSo_57 (by decide) ?_
                refine lv_iinc (v := nI (a + q + 1)) (lv' := [(4, .int (nI (a + q + 1))), (3, .int (x ^^^ 1)), (5, .int (-1)), (0, .ref t), (1, .int (nI a)), (2, .int (nI (a + K.length)))]) hx hb dX5_isSo_87 hl (k := 5) rfl (gAdd rfl (show Int32.ofInt 1 = nI 1 from rfl)) (by decide) rfl (fun ls hl => ?_)
                refine lv_goto (tgt := 5) hx hb dX5_isSo_90 (by decide) ?_
                have he : gEs (f 4) c (a9 :: st) = ((!a9) :: st) := by rw [gEs, if_neg (by omega), if_pos h0]
                exact ih (q + 1) ((!a9) :: st) _ (by omega) (fun r hr => by have := hc (r + 1) (by simp; omega); simpa [Nat.add_assoc, Nat.add_comm 1 r] using this) r3 (by rw [← hev]; show _ = gEv (f 4) cs (gEs (f 4) c (a9 :: st)); rw [he]) (gBt_x hbt (by omega)) (by simp only [List.length_cons]; omega) _ _ h1 hS _ (lv_sub hl [3, 4, 5, 1, 0] rfl)
            · exact absurd (by decide) c11
        · obtain ⟨r1, r3⟩ := gRun_b h3 h0 hrun
          obtain ⟨a9, d9, st, rfl⟩ : ∃ a d st1, st = a :: d :: st1 := by
            cases st with
            | nil => simp at r1
            | cons a st => cases st with
              | nil => simp at r1
              | cons d st => exact ⟨a, d, st, rfl⟩
          simp only [List.length_cons] at hlen
          by_cases hc1 : c = 1
          · have e6 : f 1 (a + q) = (-2) := by rw [e6, hc1]; rfl
            refine lv_iload hx hb dX5_isSo_5 (lv_at hl 4 rfl) ?_
            refine lv_iload_n hx hb dX5_isSo_7 rfl (lv_at hl 2 rfl) ?_
            refine lv_icmp_ge (tgt := 93) hx hb dX5_isSo_8 (by decide) (fun c13 => ?_) (fun c13 => ?_)
            · have c13 : (a + K.length) ≤ (a + q) := (gLe (a := a + K.length) (b := a + q) rfl rfl (by omega) (by omega)).mp c13
              exact absurd c13 (by omega)
            · have c13 : ¬ (a + K.length) ≤ (a + q) := fun z => c13 ((gLe (a := a + K.length) (b := a + q) rfl rfl (by omega) (by omega)).mpr z)
              refine lv_aload_n hx hb dX5_isSo_11 rfl (lv_at hl 0 rfl) ?_
              refine g_get (v := .ref (t + 2)) (T := TX5) (ci := 5) (N := 10) hx hb hown hK (gY_X5 hT) rfl (h1 0 _ rfl) 3 (by decide) (hT _ gf_X5_15) rfl dX5_isSo_12 ?_
              refine lv_iload hx hb dX5_isSo_15 (lv_at hl 4 rfl) ?_
              refine g_ia (j := a + q) (v := -2) hx hb hK (h1 2 _ rfl) rfl (by omega) (Nat.le_of_ble_eq_true rfl) e6 dX5_isSo_17 ?_
              refine lv_istore (lv' := [(5, .int (-2)), (0, .ref t), (1, .int (nI a)), (2, .int (nI (a + K.length))), (3, .int x), (4, .int (nI (a + q)))]) hx hb dX5_isSo_18 hl (by decide) rfl (fun ls hl => ?_)
              refine lv_iload hx hb dX5_isSo_20 (lv_at hl 0 rfl) ?_
              refine lv_if_lt (tgt := 47) hx hb dX5_isSo_22 (by decide) (fun c14 => ?_) (fun c14 => ?_)
              · refine lv_iload hx hb dX5_isSo_47 (lv_at hl 0 rfl) ?_
                refine lv_iconst (v := (-1)) hx hb dX5_isSo_49 (by decide) ?_
                refine lv_icmp_ne (tgt := 60) hx hb dX5_isSo_50 (by decide) (fun c15 => ?_) (fun c15 => ?_)
                · refine lv_iload hx hb dX5_isSo_60 (lv_at hl 0 rfl) ?_
                  refine lv_bipush (v := (-2)) hx hb dX5_isSo_62 (by decide) ?_
                  refine lv_icmp_ne (tgt := 79) hx hb dX5_isSo_64 (by decide) (fun c16 => ?_) (fun c16 => ?_)
                  · exact absurd (by decide) c16
                  · refine lv_iload_n hx hb dX5_isSo_67 rfl (lv_at hl 4 rfl) ?_
                    refine lv_iconst (v := 1) hx hb dX5_isSo_68 (by decide) ?_
                    refine lv_ishr hx hb dX5_isSo_69 ?_
                    refine lv_iload_n hx hb dX5_isSo_70 rfl (lv_at hl 4 rfl) ?_
                    refine lv_bipush (v := (-2)) hx hb dX5_isSo_71 (by decide) ?_
                    refine lv_ior hx hb dX5_isSo_73 ?_
                    refine lv_iand hx hb dX5_isSo_74 ?_
                    refine lv_istore_n (lv' := [(3, .int ((x >>> (1 &&& 31)) &&& (x ||| (-2)))), (5, .int (-2)), (0, .ref t), (1, .int (nI a)), (2, .int (nI (a + K.length))), (4, .int (nI (a + q)))]) hx hb dX5_isSo_75 rfl hl (by decide) rfl (fun ls hl => ?_)
                    refine lv_goto (tgt := 87) hx hb dX5_isSo_76 (by decide) ?_
                    refine lv_iinc (v := nI (a + q + 1)) (lv' := [(4, .int (nI (a + q + 1))), (3, .int ((x >>> (1 &&& 31)) &&& (x ||| (-2)))), (5, .int (-2)), (0, .ref t), (1, .int (nI a)), (2, .int (nI (a + K.length)))]) hx hb dX5_isSo_87 hl (k := 5) rfl (gAdd rfl (show Int32.ofInt 1 = nI 1 from rfl)) (by decide) rfl (fun ls hl => ?_)
                    refine lv_goto (tgt := 5) hx hb dX5_isSo_90 (by decide) ?_
                    have he : gEs (f 4) c (a9 :: d9 :: st) = ((d9 && a9) :: st) := by simp only [gEs]; rw [if_neg h3, if_neg h0]; simp only [if_pos hc1]
                    exact ih (q + 1) ((d9 && a9) :: st) _ (by omega) (fun r hr => by have := hc (r + 1) (by simp; omega); simpa [Nat.add_assoc, Nat.add_comm 1 r] using this) r3 (by rw [← hev]; show _ = gEv (f 4) cs (gEs (f 4) c (a9 :: d9 :: st)); rw [he]) (gBt_a hbt (by omega)) (by simp only [List.length_cons]; omega) _ _ h1 hS _ (lv_sub hl [3, 4, 5, 1, 0] rfl)
                · exact absurd c15 (by decide)
              · exact absurd (by decide) c14
          · have e6 : f 1 (a + q) = (-3) := by rw [e6, show c = 2 by omega]; rfl
            refine lv_iload hx hb dX5_isSo_5 (lv_at hl 4 rfl) ?_
            refine lv_iload_n hx hb dX5_isSo_7 rfl (lv_at hl 2 rfl) ?_
            refine lv_icmp_ge (tgt := 93) hx hb dX5_isSo_8 (by decide) (fun c17 => ?_) (fun c17 => ?_)
            · have c17 : (a + K.length) ≤ (a + q) := (gLe (a := a + K.length) (b := a + q) rfl rfl (by omega) (by omega)).mp c17
              exact absurd c17 (by omega)
            · have c17 : ¬ (a + K.length) ≤ (a + q) := fun z => c17 ((gLe (a := a + K.length) (b := a + q) rfl rfl (by omega) (by omega)).mpr z)
              refine lv_aload_n hx hb dX5_isSo_11 rfl (lv_at hl 0 rfl) ?_
              refine g_get (v := .ref (t + 2)) (T := TX5) (ci := 5) (N := 10) hx hb hown hK (gY_X5 hT) rfl (h1 0 _ rfl) 3 (by decide) (hT _ gf_X5_15) rfl dX5_isSo_12 ?_
              refine lv_iload hx hb dX5_isSo_15 (lv_at hl 4 rfl) ?_
              refine g_ia (j := a + q) (v := -3) hx hb hK (h1 2 _ rfl) rfl (by omega) (Nat.le_of_ble_eq_true rfl) e6 dX5_isSo_17 ?_
              refine lv_istore (lv' := [(5, .int (-3)), (0, .ref t), (1, .int (nI a)), (2, .int (nI (a + K.length))), (3, .int x), (4, .int (nI (a + q)))]) hx hb dX5_isSo_18 hl (by decide) rfl (fun ls hl => ?_)
              refine lv_iload hx hb dX5_isSo_20 (lv_at hl 0 rfl) ?_
              refine lv_if_lt (tgt := 47) hx hb dX5_isSo_22 (by decide) (fun c18 => ?_) (fun c18 => ?_)
              · refine lv_iload hx hb dX5_isSo_47 (lv_at hl 0 rfl) ?_
                refine lv_iconst (v := (-1)) hx hb dX5_isSo_49 (by decide) ?_
                refine lv_icmp_ne (tgt := 60) hx hb dX5_isSo_50 (by decide) (fun c19 => ?_) (fun c19 => ?_)
                · refine lv_iload hx hb dX5_isSo_60 (lv_at hl 0 rfl) ?_
                  refine lv_bipush (v := (-2)) hx hb dX5_isSo_62 (by decide) ?_
                  refine lv_icmp_ne (tgt := 79) hx hb dX5_isSo_64 (by decide) (fun c20 => ?_) (fun c20 => ?_)
                  · refine lv_iload_n hx hb dX5_isSo_79 rfl (lv_at hl 4 rfl) ?_
                    refine lv_iconst (v := 1) hx hb dX5_isSo_80 (by decide) ?_
                    refine lv_ishr hx hb dX5_isSo_81 ?_
                    refine lv_iload_n hx hb dX5_isSo_82 rfl (lv_at hl 4 rfl) ?_
                    refine lv_iconst (v := 1) hx hb dX5_isSo_83 (by decide) ?_
                    refine lv_iand hx hb dX5_isSo_84 ?_
                    refine lv_ior hx hb dX5_isSo_85 ?_
                    refine lv_istore_n (lv' := [(3, .int ((x >>> (1 &&& 31)) ||| (x &&& 1))), (5, .int (-3)), (0, .ref t), (1, .int (nI a)), (2, .int (nI (a + K.length))), (4, .int (nI (a + q)))]) hx hb dX5_isSo_86 rfl hl (by decide) rfl (fun ls hl => ?_)
                    refine lv_iinc (v := nI (a + q + 1)) (lv' := [(4, .int (nI (a + q + 1))), (3, .int ((x >>> (1 &&& 31)) ||| (x &&& 1))), (5, .int (-3)), (0, .ref t), (1, .int (nI a)), (2, .int (nI (a + K.length)))]) hx hb dX5_isSo_87 hl (k := 5) rfl (gAdd rfl (show Int32.ofInt 1 = nI 1 from rfl)) (by decide) rfl (fun ls hl => ?_)
                    refine lv_goto (tgt := 5) hx hb dX5_isSo_90 (by decide) ?_
                    have he : gEs (f 4) c (a9 :: d9 :: st) = ((d9 || a9) :: st) := by simp only [gEs]; rw [if_neg h3, if_neg h0]; simp only [if_neg hc1]
                    exact ih (q + 1) ((d9 || a9) :: st) _ (by omega) (fun r hr => by have := hc (r + 1) (by simp; omega); simpa [Nat.add_assoc, Nat.add_comm 1 r] using this) r3 (by rw [← hev]; show _ = gEv (f 4) cs (gEs (f 4) c (a9 :: d9 :: st)); rw [he]) (gBt_o hbt (by omega)) (by simp only [List.length_cons]; omega) _ _ h1 hS _ (lv_sub hl [3, 4, 5, 1, 0] rfl)
                  · exact absurd c20 (by decide)
                · exact absurd c19 (by decide)
              · exact absurd (by decide) c18
  exact loop K 0 [] 0 (by omega) (fun r hr => by rw [Nat.zero_add]; exact hst r hr) hrun0 rfl (gBt_n 0) (by decide) _ _ h1 hS _ (lv_sub hl [2, 3, 4, 1, 0] rfl)
