set_option maxHeartbeats 4000000 in
set_option maxRecDepth 100000 in
theorem c_X12_isTrue (l : Launch) (G : gW) (b : Nat) (π μ f : gPS) (g : Nat → Int64) (p : Nat) (hp : p < 6) (ws : Int32) (L : gLf) (i cl : Nat) (hcl : cl < 60) (hmc : gMC L i cl f) (hi2 : L.2.1 i < 2) : gCI l yX12_isTrue cX12_isTrue 10 .boolean (gRm 2 43) G [.ref b, .int (nI p), .int ws, .int (nI cl)] (fun H => gM7 G b π μ f g H) (fun r H => r = gB (gEvT (gNu π p (gBc ws)) (L.2.2.2 i) = true) ∧ gM7 G b π μ f g H) (fun q => b ≤ q ∧ q < b + 30) := by
  refine g_start (by decide) (Nat.le_of_ble_eq_true rfl) ?_
  intro pp_ ee_ s mm_ aa_ below meth cc_ ls Q hQ hX hE hP hl
  obtain ⟨hx, hb, hr, hml, hown, hT, hlk, hnm⟩ := hX
  have hK := hE.2.1
  obtain ⟨s7, h1⟩ := hP
  have hS : va_S (fun q => b ≤ q ∧ q < b + 30) s.heap s.heap [] := va_S.rf
  have hl : lv_has ls 10 [(0, .ref b), (1, .int (nI p)), (2, .int ws), (3, .int (nI cl))] := hl
  obtain ⟨-, -, -, bg, hb4, hb5, hb8, hb6, hok⟩ := hmc
  have hok := hok hi2
  generalize hco : L.2.2.2 i = code at hb5 hb8 hb6 hok ⊢
  rw [hco] at hQ
  refine lv_iconst (v := 0) hx hb dX12_isTrue_0 (by decide) ?_
  refine lv_istore (lv' := [(4, .int 0), (0, .ref b), (1, .int (nI p)), (2, .int ws), (3, .int (nI cl))]) hx hb dX12_isTrue_1 hl (by decide) rfl (fun ls hl => ?_)
  refine lv_aload_n hx hb dX12_isTrue_3 rfl (lv_at hl 1 rfl) ?_
  refine g_get (v := .ref (b + 13)) (T := TX12) (ci := 12) (N := 45) hx hb hown hK (gY_X12 hT) rfl (h1 0 _ rfl) 22 (by decide) (hT _ gf_X12_48) rfl dX12_isTrue_4 ?_
  refine lv_iload_n hx hb dX12_isTrue_7 rfl (lv_at hl 4 rfl) ?_
  refine g_ia (j := cl) (v := f 4 cl) hx hb hK (h1 13 _ rfl) rfl (by omega) (Nat.le_of_ble_eq_true rfl) rfl dX12_isTrue_8 ?_
  refine lv_istore (lv' := [(5, .int (f 4 cl)), (4, .int 0), (0, .ref b), (1, .int (nI p)), (2, .int ws), (3, .int (nI cl))]) hx hb dX12_isTrue_9 hl (by decide) rfl (fun ls hl => ?_)
  have loop : ∀ (cs : List Nat) (q : Nat) (st : List Bool) (s7 : Nat → Int32), q + cs.length = code.length → (∀ r, r < cs.length → f 6 (bg + (q + r)) = nI (cs.getD r 0)) → gRun cs st.length = true → gEv (gNu π p (gBc ws)) cs st = gEv (gNu π p (gBc ws)) code [] → gStk s7 st → st.length ≤ 30 → ∀ (H : Heap) (locs : List Loc), gSg G b (gLM G b π μ (gR f 7 s7) g) H → va_S (fun q => b ≤ q ∧ q < b + 30) s.heap H locs → ∀ ls, lv_has ls 10 [(0, .ref b), (1, .int (nI p)), (2, .int ws), (3, .int (nI cl)), (4, .int (nI st.length)), (5, .int (nI (bg + q)))] → W pp_ l ee_ (gRm 2 43) s mm_ aa_ below meth cc_ H locs 0 0 Q (F0 mm_ 11 ls []) := by
    intro cs
    induction cs with
    | nil =>
      intro q st s7 hq hc hrun hev hst hlen H locs h1 hS ls hl
      simp only [List.length_nil] at hq
      have h1n : st.length = 1 := by simpa [gRun] using hrun
      obtain ⟨a, rfl⟩ := List.length_eq_one_iff.mp h1n
      refine lv_iload hx hb dX12_isTrue_11 (lv_at hl 5 rfl) ?_
      refine lv_aload_n hx hb dX12_isTrue_13 rfl (lv_at hl 0 rfl) ?_
      refine g_get (v := .ref (b + 13)) (T := TX12) (ci := 12) (N := 45) hx hb hown hK (gY_X12 hT) rfl (h1 0 _ rfl) 22 (by decide) (hT _ gf_X12_48) rfl dX12_isTrue_14 ?_
      refine lv_iload_n hx hb dX12_isTrue_17 rfl (lv_at hl 3 rfl) ?_
      refine g_ia (j := cl) (v := f 4 cl) hx hb hK (h1 13 _ rfl) rfl (by omega) (Nat.le_of_ble_eq_true rfl) rfl dX12_isTrue_18 ?_
      refine lv_aload_n hx hb dX12_isTrue_19 rfl (lv_at hl 0 rfl) ?_
      refine g_get (v := .ref (b + 14)) (T := TX12) (ci := 12) (N := 45) hx hb hown hK (gY_X12 hT) rfl (h1 0 _ rfl) 23 (by decide) (hT _ gf_X12_51) rfl dX12_isTrue_20 ?_
      refine lv_iload_n hx hb dX12_isTrue_23 rfl (lv_at hl 3 rfl) ?_
      refine g_ia (j := cl) (v := f 5 cl) hx hb hK (h1 14 _ rfl) rfl (by omega) (Nat.le_of_ble_eq_true rfl) rfl dX12_isTrue_24 ?_
      refine lv_iadd hx hb dX12_isTrue_25 ?_
      refine lv_icmp_ge (tgt := 261) hx hb dX12_isTrue_26 (by decide) (fun c1 => ?_) (fun c1 => ?_)
      · have c1 : (bg + code.length) ≤ (bg + q) := (gLe (a := bg + code.length) (b := bg + q) (gAdd hb4 hb5) rfl (by omega) (by omega)).mp c1
        refine lv_aload_n hx hb dX12_isTrue_261 rfl (lv_at hl 0 rfl) ?_
        refine g_get (v := .ref (b + 16)) (T := TX12) (ci := 12) (N := 45) hx hb hown hK (gY_X12 hT) rfl (h1 0 _ rfl) 26 (by decide) (hT _ gf_X12_57) rfl dX12_isTrue_262 ?_
        refine lv_iconst (v := 0) hx hb dX12_isTrue_265 (by decide) ?_
        refine g_za (j := 0) (v := gB (a = true)) hx hb hK (h1 16 _ rfl) rfl (by omega) (Nat.le_of_ble_eq_true rfl) hst.1 dX12_isTrue_266 ?_
        rw [← hQ]
        exact g_zret hx hb hr hlk gB_n hS dX12_isTrue_267 ⟨by rw [gEvT, ← hev]; rfl, s7, h1⟩
      · have c1 : ¬ (bg + code.length) ≤ (bg + q) := fun z => c1 ((gLe (a := bg + code.length) (b := bg + q) (gAdd hb4 hb5) rfl (by omega) (by omega)).mpr z)
        exact absurd c1 (by omega)
    | cons c cs ih =>
      intro q st s7 hq hc hrun hev hst hlen H locs h1 hS ls hl
      simp only [List.length_cons] at hq
      have c18 := gRun_c hrun
      have e6 : f 6 (bg + q) = nI c := by have := hc 0 (by simp); simpa using this
      refine lv_iload hx hb dX12_isTrue_11 (lv_at hl 5 rfl) ?_
      refine lv_aload_n hx hb dX12_isTrue_13 rfl (lv_at hl 0 rfl) ?_
      refine g_get (v := .ref (b + 13)) (T := TX12) (ci := 12) (N := 45) hx hb hown hK (gY_X12 hT) rfl (h1 0 _ rfl) 22 (by decide) (hT _ gf_X12_48) rfl dX12_isTrue_14 ?_
      refine lv_iload_n hx hb dX12_isTrue_17 rfl (lv_at hl 3 rfl) ?_
      refine g_ia (j := cl) (v := f 4 cl) hx hb hK (h1 13 _ rfl) rfl (by omega) (Nat.le_of_ble_eq_true rfl) rfl dX12_isTrue_18 ?_
      refine lv_aload_n hx hb dX12_isTrue_19 rfl (lv_at hl 0 rfl) ?_
      refine g_get (v := .ref (b + 14)) (T := TX12) (ci := 12) (N := 45) hx hb hown hK (gY_X12 hT) rfl (h1 0 _ rfl) 23 (by decide) (hT _ gf_X12_51) rfl dX12_isTrue_20 ?_
      refine lv_iload_n hx hb dX12_isTrue_23 rfl (lv_at hl 3 rfl) ?_
      refine g_ia (j := cl) (v := f 5 cl) hx hb hK (h1 14 _ rfl) rfl (by omega) (Nat.le_of_ble_eq_true rfl) rfl dX12_isTrue_24 ?_
      refine lv_iadd hx hb dX12_isTrue_25 ?_
      refine lv_icmp_ge (tgt := 261) hx hb dX12_isTrue_26 (by decide) (fun c2 => ?_) (fun c2 => ?_)
      · have c2 : (bg + code.length) ≤ (bg + q) := (gLe (a := bg + code.length) (b := bg + q) (gAdd hb4 hb5) rfl (by omega) (by omega)).mp c2
        exact absurd c2 (by omega)
      · have c2 : ¬ (bg + code.length) ≤ (bg + q) := fun z => c2 ((gLe (a := bg + code.length) (b := bg + q) (gAdd hb4 hb5) rfl (by omega) (by omega)).mpr z)
        refine lv_aload_n hx hb dX12_isTrue_29 rfl (lv_at hl 0 rfl) ?_
        refine g_get (v := .ref (b + 15)) (T := TX12) (ci := 12) (N := 45) hx hb hown hK (gY_X12 hT) rfl (h1 0 _ rfl) 24 (by decide) (hT _ gf_X12_54) rfl dX12_isTrue_30 ?_
        refine lv_iload hx hb dX12_isTrue_33 (lv_at hl 5 rfl) ?_
        refine g_ia (j := bg + q) (v := nI c) hx hb hK (h1 15 _ rfl) rfl (by omega) (Nat.le_of_ble_eq_true rfl) e6 dX12_isTrue_35 ?_
        refine lv_istore (lv' := [(6, .int (nI c)), (0, .ref b), (1, .int (nI p)), (2, .int ws), (3, .int (nI cl)), (4, .int (nI st.length)), (5, .int (nI (bg + q)))]) hx hb dX12_isTrue_36 hl (by decide) rfl (fun ls hl => ?_)
        refine lv_iload hx hb dX12_isTrue_38 (lv_at hl 0 rfl) ?_
        refine lv_iconst (v := 3) hx hb dX12_isTrue_40 (by decide) ?_
        refine lv_icmp_lt (tgt := 146) hx hb dX12_isTrue_41 (by decide) (fun c3 => ?_) (fun c3 => ?_)
        · have c3 : c < 3 := (gLt (a := c) (b := 3) rfl rfl (by omega) (by omega)).mp c3
          refine lv_iload hx hb dX12_isTrue_146 (lv_at hl 0 rfl) ?_
          refine lv_if_ne (tgt := 180) hx hb dX12_isTrue_148 (by decide) (fun c4 => ?_) (fun c4 => ?_)
          · have c4 : ¬ c = 0 := fun z => c4 ((gEq (a := c) (b := 0) rfl rfl (by omega) (by omega)).mpr z)
            obtain ⟨r1, r3⟩ := gRun_b (by omega) c4 hrun
            obtain ⟨a, d, st, rfl⟩ : ∃ a d st1, st = a :: d :: st1 := by
              cases st with
              | nil => simp at r1
              | cons a st => cases st with
                | nil => simp at r1
                | cons d st => exact ⟨a, d, st, rfl⟩
            simp only [List.length_cons] at hlen
            have hl : lv_has ls 10 [(6, .int (nI c)), (0, .ref b), (1, .int (nI p)), (2, .int ws), (3, .int (nI cl)), (4, .int (nI (st.length + 2))), (5, .int (nI (bg + q)))] := hl
            refine lv_iinc (v := nI (st.length + 1)) (lv' := [(4, .int (nI (st.length + 1))), (6, .int (nI c)), (0, .ref b), (1, .int (nI p)), (2, .int ws), (3, .int (nI cl)), (5, .int (nI (bg + q)))]) hx hb dX12_isTrue_180 hl (k := 5) rfl (pk_m1 _) (by decide) rfl (fun ls hl => ?_)
            refine lv_aload_n hx hb dX12_isTrue_183 rfl (lv_at hl 2 rfl) ?_
            refine g_get (v := .ref (b + 16)) (T := TX12) (ci := 12) (N := 45) hx hb hown hK (gY_X12 hT) rfl (h1 0 _ rfl) 26 (by decide) (hT _ gf_X12_57) rfl dX12_isTrue_184 ?_
            refine lv_iload hx hb dX12_isTrue_187 (lv_at hl 0 rfl) ?_
            refine lv_iconst (v := 1) hx hb dX12_isTrue_189 (by decide) ?_
            refine lv_isub hx hb dX12_isTrue_190 ?_
            refine lv_iload hx hb dX12_isTrue_191 (lv_at hl 1 rfl) ?_
            refine lv_iconst (v := 1) hx hb dX12_isTrue_193 (by decide) ?_
            refine lv_icmp_ne (tgt := 227) hx hb dX12_isTrue_194 (by decide) (fun c5 => ?_) (fun c5 => ?_)
            · have c5 : ¬ c = 1 := fun z => c5 ((gEq (a := c) (b := 1) rfl rfl (by omega) (by omega)).mpr z)
              refine lv_aload_n hx hb dX12_isTrue_227 rfl (lv_at hl 2 rfl) ?_
              refine g_get (v := .ref (b + 16)) (T := TX12) (ci := 12) (N := 45) hx hb hown hK (gY_X12 hT) rfl (h1 0 _ rfl) 26 (by decide) (hT _ gf_X12_57) rfl dX12_isTrue_228 ?_
              refine lv_iload hx hb dX12_isTrue_231 (lv_at hl 0 rfl) ?_
              refine lv_iconst (v := 1) hx hb dX12_isTrue_233 (by decide) ?_
              refine lv_isub hx hb dX12_isTrue_234 ?_
              refine g_za (j := (st.length + 1) - 1) (v := gB (d = true)) hx hb hK (h1 16 _ rfl) (gSub rfl rfl (by omega)) (by omega) (Nat.le_of_ble_eq_true rfl) hst.2.1 dX12_isTrue_235 ?_
              refine lv_if_ne (tgt := 249) hx hb dX12_isTrue_236 (by decide) (fun c6 => ?_) (fun c6 => ?_)
              · have c6 : d = true := gB_1.mp c6
                refine lv_iconst (v := 1) hx hb dX12_isTrue_249 (by decide) ?_
                refine lv_goto (tgt := 254) hx hb dX12_isTrue_250 (by decide) ?_
                refine g_zs (j := (st.length + 1) - 1) hx hb hK hS (h1 16 _ rfl) (gSub rfl rfl (by omega)) (by omega) (Nat.le_of_ble_eq_true rfl) (by omega) dX12_isTrue_254 (fun H7 locs c8 oq hS => ?_)
                have h1 : gSg G b (gLM G b π μ (gR f 7 (upd s7 ((st.length + 1) - 1) (vp_nar .boolean 1))) g) H7 := gSg_set h1 16 c8 oq
                refine lv_iinc (v := nI (bg + q + 1)) (lv' := [(5, .int (nI (bg + q + 1))), (4, .int (nI (st.length + 1))), (6, .int (nI c)), (0, .ref b), (1, .int (nI p)), (2, .int ws), (3, .int (nI cl))]) hx hb dX12_isTrue_255 hl (k := 6) rfl (gAdd rfl (show Int32.ofInt 1 = nI 1 from rfl)) (by decide) rfl (fun ls hl => ?_)
                refine lv_goto (tgt := 11) hx hb dX12_isTrue_258 (by decide) ?_
                have he : gEs (gNu π p (gBc ws)) c (a :: d :: st) = ((d || a) :: st) := by simp only [gEs]; rw [if_neg (by omega), if_neg c4]; simp only [if_neg c5]
                exact ih (q + 1) ((d || a) :: st) _ (by omega) (fun r hr => by have := hc (r + 1) (by simp; omega); simpa [Nat.add_assoc, Nat.add_comm 1 r] using this) r3 (by rw [← hev]; show _ = gEv (gNu π p (gBc ws)) cs (gEs (gNu π p (gBc ws)) c (a :: d :: st)); rw [he]) ⟨by simp_all [upd, gB]; try rfl, gStk_up (Nat.le_refl _) hst.2.2⟩ (by simp only [List.length_cons]; omega) _ _ h1 hS _ (lv_sub hl [3, 4, 5, 6, 1, 0] rfl)
              · have c6 : ¬ (d = true) := gB_0.mp c6
                refine lv_aload_n hx hb dX12_isTrue_239 rfl (lv_at hl 2 rfl) ?_
                refine g_get (v := .ref (b + 16)) (T := TX12) (ci := 12) (N := 45) hx hb hown hK (gY_X12 hT) rfl (h1 0 _ rfl) 26 (by decide) (hT _ gf_X12_57) rfl dX12_isTrue_240 ?_
                refine lv_iload hx hb dX12_isTrue_243 (lv_at hl 0 rfl) ?_
                refine g_za (j := st.length + 1) (v := gB (a = true)) hx hb hK (h1 16 _ rfl) rfl (by omega) (Nat.le_of_ble_eq_true rfl) hst.1 dX12_isTrue_245 ?_
                refine lv_if_eq (tgt := 253) hx hb dX12_isTrue_246 (by decide) (fun c9 => ?_) (fun c9 => ?_)
                · have c9 : ¬ (a = true) := gB_0.mp c9
                  refine lv_iconst (v := 0) hx hb dX12_isTrue_253 (by decide) ?_
                  refine g_zs (j := (st.length + 1) - 1) hx hb hK hS (h1 16 _ rfl) (gSub rfl rfl (by omega)) (by omega) (Nat.le_of_ble_eq_true rfl) (by omega) dX12_isTrue_254 (fun H10 locs c11 oq hS => ?_)
                  have h1 : gSg G b (gLM G b π μ (gR f 7 (upd s7 ((st.length + 1) - 1) (vp_nar .boolean 0))) g) H10 := gSg_set h1 16 c11 oq
                  refine lv_iinc (v := nI (bg + q + 1)) (lv' := [(5, .int (nI (bg + q + 1))), (4, .int (nI (st.length + 1))), (6, .int (nI c)), (0, .ref b), (1, .int (nI p)), (2, .int ws), (3, .int (nI cl))]) hx hb dX12_isTrue_255 hl (k := 6) rfl (gAdd rfl (show Int32.ofInt 1 = nI 1 from rfl)) (by decide) rfl (fun ls hl => ?_)
                  refine lv_goto (tgt := 11) hx hb dX12_isTrue_258 (by decide) ?_
                  have he : gEs (gNu π p (gBc ws)) c (a :: d :: st) = ((d || a) :: st) := by simp only [gEs]; rw [if_neg (by omega), if_neg c4]; simp only [if_neg c5]
                  exact ih (q + 1) ((d || a) :: st) _ (by omega) (fun r hr => by have := hc (r + 1) (by simp; omega); simpa [Nat.add_assoc, Nat.add_comm 1 r] using this) r3 (by rw [← hev]; show _ = gEv (gNu π p (gBc ws)) cs (gEs (gNu π p (gBc ws)) c (a :: d :: st)); rw [he]) ⟨by simp_all [upd, gB]; try rfl, gStk_up (Nat.le_refl _) hst.2.2⟩ (by simp only [List.length_cons]; omega) _ _ h1 hS _ (lv_sub hl [3, 4, 5, 6, 1, 0] rfl)
                · have c9 : a = true := gB_1.mp c9
                  refine lv_iconst (v := 1) hx hb dX12_isTrue_249 (by decide) ?_
                  refine lv_goto (tgt := 254) hx hb dX12_isTrue_250 (by decide) ?_
                  refine g_zs (j := (st.length + 1) - 1) hx hb hK hS (h1 16 _ rfl) (gSub rfl rfl (by omega)) (by omega) (Nat.le_of_ble_eq_true rfl) (by omega) dX12_isTrue_254 (fun H12 locs c13 oq hS => ?_)
                  have h1 : gSg G b (gLM G b π μ (gR f 7 (upd s7 ((st.length + 1) - 1) (vp_nar .boolean 1))) g) H12 := gSg_set h1 16 c13 oq
                  refine lv_iinc (v := nI (bg + q + 1)) (lv' := [(5, .int (nI (bg + q + 1))), (4, .int (nI (st.length + 1))), (6, .int (nI c)), (0, .ref b), (1, .int (nI p)), (2, .int ws), (3, .int (nI cl))]) hx hb dX12_isTrue_255 hl (k := 6) rfl (gAdd rfl (show Int32.ofInt 1 = nI 1 from rfl)) (by decide) rfl (fun ls hl => ?_)
                  refine lv_goto (tgt := 11) hx hb dX12_isTrue_258 (by decide) ?_
                  have he : gEs (gNu π p (gBc ws)) c (a :: d :: st) = ((d || a) :: st) := by simp only [gEs]; rw [if_neg (by omega), if_neg c4]; simp only [if_neg c5]
                  exact ih (q + 1) ((d || a) :: st) _ (by omega) (fun r hr => by have := hc (r + 1) (by simp; omega); simpa [Nat.add_assoc, Nat.add_comm 1 r] using this) r3 (by rw [← hev]; show _ = gEv (gNu π p (gBc ws)) cs (gEs (gNu π p (gBc ws)) c (a :: d :: st)); rw [he]) ⟨by simp_all [upd, gB]; try rfl, gStk_up (Nat.le_refl _) hst.2.2⟩ (by simp only [List.length_cons]; omega) _ _ h1 hS _ (lv_sub hl [3, 4, 5, 6, 1, 0] rfl)
            · have c5 : c = 1 := (gEq (a := c) (b := 1) rfl rfl (by omega) (by omega)).mp c5
              refine lv_aload_n hx hb dX12_isTrue_197 rfl (lv_at hl 2 rfl) ?_
              refine g_get (v := .ref (b + 16)) (T := TX12) (ci := 12) (N := 45) hx hb hown hK (gY_X12 hT) rfl (h1 0 _ rfl) 26 (by decide) (hT _ gf_X12_57) rfl dX12_isTrue_198 ?_
              refine lv_iload hx hb dX12_isTrue_201 (lv_at hl 0 rfl) ?_
              refine lv_iconst (v := 1) hx hb dX12_isTrue_203 (by decide) ?_
              refine lv_isub hx hb dX12_isTrue_204 ?_
              refine g_za (j := (st.length + 1) - 1) (v := gB (d = true)) hx hb hK (h1 16 _ rfl) (gSub rfl rfl (by omega)) (by omega) (Nat.le_of_ble_eq_true rfl) hst.2.1 dX12_isTrue_205 ?_
              refine lv_if_eq (tgt := 223) hx hb dX12_isTrue_206 (by decide) (fun c14 => ?_) (fun c14 => ?_)
              · have c14 : ¬ (d = true) := gB_0.mp c14
                refine lv_iconst (v := 0) hx hb dX12_isTrue_223 (by decide) ?_
                refine lv_goto (tgt := 254) hx hb dX12_isTrue_224 (by decide) ?_
                refine g_zs (j := (st.length + 1) - 1) hx hb hK hS (h1 16 _ rfl) (gSub rfl rfl (by omega)) (by omega) (Nat.le_of_ble_eq_true rfl) (by omega) dX12_isTrue_254 (fun H15 locs c16 oq hS => ?_)
                have h1 : gSg G b (gLM G b π μ (gR f 7 (upd s7 ((st.length + 1) - 1) (vp_nar .boolean 0))) g) H15 := gSg_set h1 16 c16 oq
                refine lv_iinc (v := nI (bg + q + 1)) (lv' := [(5, .int (nI (bg + q + 1))), (4, .int (nI (st.length + 1))), (6, .int (nI c)), (0, .ref b), (1, .int (nI p)), (2, .int ws), (3, .int (nI cl))]) hx hb dX12_isTrue_255 hl (k := 6) rfl (gAdd rfl (show Int32.ofInt 1 = nI 1 from rfl)) (by decide) rfl (fun ls hl => ?_)
                refine lv_goto (tgt := 11) hx hb dX12_isTrue_258 (by decide) ?_
                have he : gEs (gNu π p (gBc ws)) c (a :: d :: st) = ((d && a) :: st) := by simp only [gEs]; rw [if_neg (by omega), if_neg c4]; simp only [if_pos c5]
                exact ih (q + 1) ((d && a) :: st) _ (by omega) (fun r hr => by have := hc (r + 1) (by simp; omega); simpa [Nat.add_assoc, Nat.add_comm 1 r] using this) r3 (by rw [← hev]; show _ = gEv (gNu π p (gBc ws)) cs (gEs (gNu π p (gBc ws)) c (a :: d :: st)); rw [he]) ⟨by simp_all [upd, gB]; try rfl, gStk_up (Nat.le_refl _) hst.2.2⟩ (by simp only [List.length_cons]; omega) _ _ h1 hS _ (lv_sub hl [3, 4, 5, 6, 1, 0] rfl)
              · have c14 : d = true := gB_1.mp c14
                refine lv_aload_n hx hb dX12_isTrue_209 rfl (lv_at hl 2 rfl) ?_
                refine g_get (v := .ref (b + 16)) (T := TX12) (ci := 12) (N := 45) hx hb hown hK (gY_X12 hT) rfl (h1 0 _ rfl) 26 (by decide) (hT _ gf_X12_57) rfl dX12_isTrue_210 ?_
                refine lv_iload hx hb dX12_isTrue_213 (lv_at hl 0 rfl) ?_
                refine g_za (j := st.length + 1) (v := gB (a = true)) hx hb hK (h1 16 _ rfl) rfl (by omega) (Nat.le_of_ble_eq_true rfl) hst.1 dX12_isTrue_215 ?_
                refine lv_if_eq (tgt := 223) hx hb dX12_isTrue_216 (by decide) (fun c17 => ?_) (fun c17 => ?_)
                · have c17 : ¬ (a = true) := gB_0.mp c17
                  refine lv_iconst (v := 0) hx hb dX12_isTrue_223 (by decide) ?_
                  refine lv_goto (tgt := 254) hx hb dX12_isTrue_224 (by decide) ?_
                  refine g_zs (j := (st.length + 1) - 1) hx hb hK hS (h1 16 _ rfl) (gSub rfl rfl (by omega)) (by omega) (Nat.le_of_ble_eq_true rfl) (by omega) dX12_isTrue_254 (fun H18 locs c19 oq hS => ?_)
                  have h1 : gSg G b (gLM G b π μ (gR f 7 (upd s7 ((st.length + 1) - 1) (vp_nar .boolean 0))) g) H18 := gSg_set h1 16 c19 oq
                  refine lv_iinc (v := nI (bg + q + 1)) (lv' := [(5, .int (nI (bg + q + 1))), (4, .int (nI (st.length + 1))), (6, .int (nI c)), (0, .ref b), (1, .int (nI p)), (2, .int ws), (3, .int (nI cl))]) hx hb dX12_isTrue_255 hl (k := 6) rfl (gAdd rfl (show Int32.ofInt 1 = nI 1 from rfl)) (by decide) rfl (fun ls hl => ?_)
                  refine lv_goto (tgt := 11) hx hb dX12_isTrue_258 (by decide) ?_
                  have he : gEs (gNu π p (gBc ws)) c (a :: d :: st) = ((d && a) :: st) := by simp only [gEs]; rw [if_neg (by omega), if_neg c4]; simp only [if_pos c5]
                  exact ih (q + 1) ((d && a) :: st) _ (by omega) (fun r hr => by have := hc (r + 1) (by simp; omega); simpa [Nat.add_assoc, Nat.add_comm 1 r] using this) r3 (by rw [← hev]; show _ = gEv (gNu π p (gBc ws)) cs (gEs (gNu π p (gBc ws)) c (a :: d :: st)); rw [he]) ⟨by simp_all [upd, gB]; try rfl, gStk_up (Nat.le_refl _) hst.2.2⟩ (by simp only [List.length_cons]; omega) _ _ h1 hS _ (lv_sub hl [3, 4, 5, 6, 1, 0] rfl)
                · have c17 : a = true := gB_1.mp c17
                  refine lv_iconst (v := 1) hx hb dX12_isTrue_219 (by decide) ?_
                  refine lv_goto (tgt := 254) hx hb dX12_isTrue_220 (by decide) ?_
                  refine g_zs (j := (st.length + 1) - 1) hx hb hK hS (h1 16 _ rfl) (gSub rfl rfl (by omega)) (by omega) (Nat.le_of_ble_eq_true rfl) (by omega) dX12_isTrue_254 (fun H20 locs c21 oq hS => ?_)
                  have h1 : gSg G b (gLM G b π μ (gR f 7 (upd s7 ((st.length + 1) - 1) (vp_nar .boolean 1))) g) H20 := gSg_set h1 16 c21 oq
                  refine lv_iinc (v := nI (bg + q + 1)) (lv' := [(5, .int (nI (bg + q + 1))), (4, .int (nI (st.length + 1))), (6, .int (nI c)), (0, .ref b), (1, .int (nI p)), (2, .int ws), (3, .int (nI cl))]) hx hb dX12_isTrue_255 hl (k := 6) rfl (gAdd rfl (show Int32.ofInt 1 = nI 1 from rfl)) (by decide) rfl (fun ls hl => ?_)
                  refine lv_goto (tgt := 11) hx hb dX12_isTrue_258 (by decide) ?_
                  have he : gEs (gNu π p (gBc ws)) c (a :: d :: st) = ((d && a) :: st) := by simp only [gEs]; rw [if_neg (by omega), if_neg c4]; simp only [if_pos c5]
                  exact ih (q + 1) ((d && a) :: st) _ (by omega) (fun r hr => by have := hc (r + 1) (by simp; omega); simpa [Nat.add_assoc, Nat.add_comm 1 r] using this) r3 (by rw [← hev]; show _ = gEv (gNu π p (gBc ws)) cs (gEs (gNu π p (gBc ws)) c (a :: d :: st)); rw [he]) ⟨by simp_all [upd, gB]; try rfl, gStk_up (Nat.le_refl _) hst.2.2⟩ (by simp only [List.length_cons]; omega) _ _ h1 hS _ (lv_sub hl [3, 4, 5, 6, 1, 0] rfl)
          · have c4 : c = 0 := (gEq (a := c) (b := 0) rfl rfl (by omega) (by omega)).mp c4
            obtain ⟨r1, r3⟩ := gRun_0 c4 hrun
            obtain ⟨a, st, rfl⟩ : ∃ a st1, st = a :: st1 := by cases st with | nil => simp at r1 | cons a st => exact ⟨a, st, rfl⟩
            simp only [List.length_cons] at hlen
            have hl : lv_has ls 10 [(6, .int (nI c)), (0, .ref b), (1, .int (nI p)), (2, .int ws), (3, .int (nI cl)), (4, .int (nI (st.length + 1))), (5, .int (nI (bg + q)))] := hl
            refine lv_aload_n hx hb dX12_isTrue_151 rfl (lv_at hl 1 rfl) ?_
            refine g_get (v := .ref (b + 16)) (T := TX12) (ci := 12) (N := 45) hx hb hown hK (gY_X12 hT) rfl (h1 0 _ rfl) 26 (by decide) (hT _ gf_X12_57) rfl dX12_isTrue_152 ?_
            refine lv_iload hx hb dX12_isTrue_155 (lv_at hl 5 rfl) ?_
            refine lv_iconst (v := 1) hx hb dX12_isTrue_157 (by decide) ?_
            refine lv_isub hx hb dX12_isTrue_158 ?_
            refine lv_aload_n hx hb dX12_isTrue_159 rfl (lv_at hl 1 rfl) ?_
            refine g_get (v := .ref (b + 16)) (T := TX12) (ci := 12) (N := 45) hx hb hown hK (gY_X12 hT) rfl (h1 0 _ rfl) 26 (by decide) (hT _ gf_X12_57) rfl dX12_isTrue_160 ?_
            refine lv_iload hx hb dX12_isTrue_163 (lv_at hl 5 rfl) ?_
            refine lv_iconst (v := 1) hx hb dX12_isTrue_165 (by decide) ?_
            refine lv_isub hx hb dX12_isTrue_166 ?_
            refine g_za (j := (st.length + 1) - 1) (v := gB (a = true)) hx hb hK (h1 16 _ rfl) (gSub rfl rfl (by omega)) (by omega) (Nat.le_of_ble_eq_true rfl) hst.1 dX12_isTrue_167 ?_
            refine lv_if_ne (tgt := 175) hx hb dX12_isTrue_168 (by decide) (fun c22 => ?_) (fun c22 => ?_)
            · have c22 : a = true := gB_1.mp c22
              refine lv_iconst (v := 0) hx hb dX12_isTrue_175 (by decide) ?_
              refine g_zs (j := (st.length + 1) - 1) hx hb hK hS (h1 16 _ rfl) (gSub rfl rfl (by omega)) (by omega) (Nat.le_of_ble_eq_true rfl) (by omega) dX12_isTrue_176 (fun H23 locs c24 oq hS => ?_)
              have h1 : gSg G b (gLM G b π μ (gR f 7 (upd s7 ((st.length + 1) - 1) (vp_nar .boolean 0))) g) H23 := gSg_set h1 16 c24 oq
              refine lv_goto (tgt := 255) hx hb dX12_isTrue_177 (by decide) ?_
              refine lv_iinc (v := nI (bg + q + 1)) (lv' := [(5, .int (nI (bg + q + 1))), (6, .int (nI c)), (0, .ref b), (1, .int (nI p)), (2, .int ws), (3, .int (nI cl)), (4, .int (nI (st.length + 1)))]) hx hb dX12_isTrue_255 hl (k := 6) rfl (gAdd rfl (show Int32.ofInt 1 = nI 1 from rfl)) (by decide) rfl (fun ls hl => ?_)
              refine lv_goto (tgt := 11) hx hb dX12_isTrue_258 (by decide) ?_
              have ha : a = true := by simpa using c22
              have he : gEs (gNu π p (gBc ws)) c (a :: st) = ((!a) :: st) := by rw [gEs, if_neg (by omega), if_pos c4]
              exact ih (q + 1) ((!a) :: st) _ (by omega) (fun r hr => by have := hc (r + 1) (by simp; omega); simpa [Nat.add_assoc, Nat.add_comm 1 r] using this) r3 (by rw [← hev]; show _ = gEv (gNu π p (gBc ws)) cs (gEs (gNu π p (gBc ws)) c (a :: st)); rw [he]) ⟨by rw [ha]; simp [upd, gB]; rfl, gStk_up (Nat.le_refl _) hst.2⟩ (by simp only [List.length_cons]; omega) _ _ h1 hS _ (lv_sub hl [2, 3, 4, 5, 6, 0] rfl)
            · have c22 : ¬ (a = true) := gB_0.mp c22
              refine lv_iconst (v := 1) hx hb dX12_isTrue_171 (by decide) ?_
              refine lv_goto (tgt := 176) hx hb dX12_isTrue_172 (by decide) ?_
              refine g_zs (j := (st.length + 1) - 1) hx hb hK hS (h1 16 _ rfl) (gSub rfl rfl (by omega)) (by omega) (Nat.le_of_ble_eq_true rfl) (by omega) dX12_isTrue_176 (fun H25 locs c26 oq hS => ?_)
              have h1 : gSg G b (gLM G b π μ (gR f 7 (upd s7 ((st.length + 1) - 1) (vp_nar .boolean 1))) g) H25 := gSg_set h1 16 c26 oq
              refine lv_goto (tgt := 255) hx hb dX12_isTrue_177 (by decide) ?_
              refine lv_iinc (v := nI (bg + q + 1)) (lv' := [(5, .int (nI (bg + q + 1))), (6, .int (nI c)), (0, .ref b), (1, .int (nI p)), (2, .int ws), (3, .int (nI cl)), (4, .int (nI (st.length + 1)))]) hx hb dX12_isTrue_255 hl (k := 6) rfl (gAdd rfl (show Int32.ofInt 1 = nI 1 from rfl)) (by decide) rfl (fun ls hl => ?_)
              refine lv_goto (tgt := 11) hx hb dX12_isTrue_258 (by decide) ?_
              have ha : a = false := by simpa using c22
              have he : gEs (gNu π p (gBc ws)) c (a :: st) = ((!a) :: st) := by rw [gEs, if_neg (by omega), if_pos c4]
              exact ih (q + 1) ((!a) :: st) _ (by omega) (fun r hr => by have := hc (r + 1) (by simp; omega); simpa [Nat.add_assoc, Nat.add_comm 1 r] using this) r3 (by rw [← hev]; show _ = gEv (gNu π p (gBc ws)) cs (gEs (gNu π p (gBc ws)) c (a :: st)); rw [he]) ⟨by rw [ha]; simp [upd, gB]; rfl, gStk_up (Nat.le_refl _) hst.2⟩ (by simp only [List.length_cons]; omega) _ _ h1 hS _ (lv_sub hl [2, 3, 4, 5, 6, 0] rfl)
        · have c3 : ¬ c < 3 := fun z => c3 ((gLt (a := c) (b := 3) rfl rfl (by omega) (by omega)).mpr z)
          have c3 : 3 ≤ c := by omega
          obtain ⟨r1, r2, r3⟩ := gRun_t c3 hrun
          refine lv_aload_n hx hb dX12_isTrue_44 rfl (lv_at hl 1 rfl) ?_
          refine lv_iload_n hx hb dX12_isTrue_45 rfl (lv_at hl 2 rfl) ?_
          refine lv_iload_n hx hb dX12_isTrue_46 rfl (lv_at hl 3 rfl) ?_
          refine lv_iload hx hb dX12_isTrue_47 (lv_at hl 0 rfl) ?_
          refine lv_iconst (v := 3) hx hb dX12_isTrue_49 (by decide) ?_
          refine lv_isub hx hb dX12_isTrue_50 ?_
          refine lv_sipush (v := 300) hx hb dX12_isTrue_51 (by decide) ?_
          refine lv_idiv hx hb dX12_isTrue_54 (by decide) ?_
          rw [show (((nI c) - 3) / 300 : Int32) = nI ((c - 3) / 300) from (gDiv (gSub rfl rfl (by omega)) rfl (by omega) (by omega) (by omega))]
          refine g_ki (g_runV (T := TX12) (ci := 12) (N := 45) (rest := []) hx hb hml hown hE hT (c_X12_letterOf l G b π μ (gR f 7 s7) g p ((c - 3) / 300) hp (by omega) ws) gM_X12_letterOf gm_X12_219 gi_X12_letterOf gs_RX12_yX12_letterOf_yX12_letterOf rfl (h1 0 _ rfl) h1 rfl hl.1 ⟨rfl, rfl⟩ ⟨Nat.le_of_ble_eq_true rfl, Nat.le_of_ble_eq_true rfl⟩ ⟨Nat.zero_le _, Nat.zero_le _⟩ rfl (Nat.le_of_ble_eq_true rfl) dX12_isTrue_55) hS (fun _ h => h.elim) (fun r30 H27 locs q28 k29 hS => ?_)
          subst q28
          have h1 := gSg_free h1 k29 (by intro k hk q; simp only [List.length_cons, List.length_nil] at hk; omega)
          refine lv_istore (lv' := [(7, .int (gNu π p (gBc ws) ((c - 3) / 300))), (6, .int (nI c)), (0, .ref b), (1, .int (nI p)), (2, .int ws), (3, .int (nI cl)), (4, .int (nI st.length)), (5, .int (nI (bg + q)))]) hx hb dX12_isTrue_58 hl (by decide) rfl (fun ls hl => ?_)
          refine lv_iload hx hb dX12_isTrue_60 (lv_at hl 1 rfl) ?_
          refine lv_iconst (v := 3) hx hb dX12_isTrue_62 (by decide) ?_
          refine lv_isub hx hb dX12_isTrue_63 ?_
          refine lv_bipush (v := 100) hx hb dX12_isTrue_64 (by decide) ?_
          refine lv_irem hx hb dX12_isTrue_66 (by decide) ?_
          refine lv_istore (lv' := [(8, .int (((nI c) - 3) - ((nI c) - 3) / 100 * 100)), (7, .int (gNu π p (gBc ws) ((c - 3) / 300))), (6, .int (nI c)), (0, .ref b), (1, .int (nI p)), (2, .int ws), (3, .int (nI cl)), (4, .int (nI st.length)), (5, .int (nI (bg + q)))]) hx hb dX12_isTrue_67 hl (by decide) rfl (fun ls hl => ?_)
          refine lv_iload hx hb dX12_isTrue_69 (lv_at hl 2 rfl) ?_
          refine lv_iconst (v := 3) hx hb dX12_isTrue_71 (by decide) ?_
          refine lv_isub hx hb dX12_isTrue_72 ?_
          refine lv_bipush (v := 100) hx hb dX12_isTrue_73 (by decide) ?_
          refine lv_idiv hx hb dX12_isTrue_75 (by decide) ?_
          refine lv_iconst (v := 3) hx hb dX12_isTrue_76 (by decide) ?_
          refine lv_irem hx hb dX12_isTrue_77 (by decide) ?_
          refine lv_istore (lv' := [(9, .int ((((nI c) - 3) / 100) - (((nI c) - 3) / 100) / 3 * 3)), (8, .int (((nI c) - 3) - ((nI c) - 3) / 100 * 100)), (7, .int (gNu π p (gBc ws) ((c - 3) / 300))), (6, .int (nI c)), (0, .ref b), (1, .int (nI p)), (2, .int ws), (3, .int (nI cl)), (4, .int (nI st.length)), (5, .int (nI (bg + q)))]) hx hb dX12_isTrue_78 hl (by decide) rfl (fun ls hl => ?_)
          refine lv_aload_n hx hb dX12_isTrue_80 rfl (lv_at hl 4 rfl) ?_
          refine g_get (v := .ref (b + 16)) (T := TX12) (ci := 12) (N := 45) hx hb hown hK (gY_X12 hT) rfl (h1 0 _ rfl) 26 (by decide) (hT _ gf_X12_57) rfl dX12_isTrue_81 ?_
          refine lv_iload hx hb dX12_isTrue_84 (lv_at hl 8 rfl) ?_
          refine lv_iinc (v := nI (st.length + 1)) (lv' := [(4, .int (nI (st.length + 1))), (9, .int ((((nI c) - 3) / 100) - (((nI c) - 3) / 100) / 3 * 3)), (8, .int (((nI c) - 3) - ((nI c) - 3) / 100 * 100)), (7, .int (gNu π p (gBc ws) ((c - 3) / 300))), (6, .int (nI c)), (0, .ref b), (1, .int (nI p)), (2, .int ws), (3, .int (nI cl)), (5, .int (nI (bg + q)))]) hx hb dX12_isTrue_86 hl (k := 8) rfl (gAdd rfl (show Int32.ofInt 1 = nI 1 from rfl)) (by decide) rfl (fun ls hl => ?_)
          refine lv_iload hx hb dX12_isTrue_89 (lv_at hl 1 rfl) ?_
          refine lv_if_ne (tgt := 109) hx hb dX12_isTrue_91 (by decide) (fun c31 => ?_) (fun c31 => ?_)
          · have c31 : ¬ (((c - 3) / 100) % 3) = 0 := fun z => c31 ((gEq (a := ((c - 3) / 100) % 3) (b := 0) (gRem (gDiv (gSub rfl rfl (by omega)) rfl (by omega) (by omega) (by omega)) rfl (by omega) (by omega) (by omega)) rfl (by omega) (by omega)).mpr z)
            refine lv_iload hx hb dX12_isTrue_109 (lv_at hl 1 rfl) ?_
            refine lv_iconst (v := 1) hx hb dX12_isTrue_111 (by decide) ?_
            refine lv_icmp_ne (tgt := 130) hx hb dX12_isTrue_112 (by decide) (fun c32 => ?_) (fun c32 => ?_)
            · have c32 : ¬ (((c - 3) / 100) % 3) = 1 := fun z => c32 ((gEq (a := ((c - 3) / 100) % 3) (b := 1) (gRem (gDiv (gSub rfl rfl (by omega)) rfl (by omega) (by omega) (by omega)) rfl (by omega) (by omega) (by omega)) rfl (by omega) (by omega)).mpr z)
              refine lv_iload hx hb dX12_isTrue_130 (lv_at hl 3 rfl) ?_
              refine lv_iload hx hb dX12_isTrue_132 (lv_at hl 2 rfl) ?_
              refine lv_icmp_le (tgt := 141) hx hb dX12_isTrue_134 (by decide) (fun c33 => ?_) (fun c33 => ?_)
              · refine lv_iconst (v := 0) hx hb dX12_isTrue_141 (by decide) ?_
                refine g_zs (j := st.length) hx hb hK hS (h1 16 _ rfl) rfl (by omega) (Nat.le_of_ble_eq_true rfl) (by omega) dX12_isTrue_142 (fun H34 locs c35 oq hS => ?_)
                have h1 : gSg G b (gLM G b π μ (gR f 7 (upd s7 st.length (vp_nar .boolean 0))) g) H34 := gSg_set h1 16 c35 oq
                refine lv_goto (tgt := 255) hx hb dX12_isTrue_143 (by decide) ?_
                refine lv_iinc (v := nI (bg + q + 1)) (lv' := [(5, .int (nI (bg + q + 1))), (4, .int (nI (st.length + 1))), (9, .int ((((nI c) - 3) / 100) - (((nI c) - 3) / 100) / 3 * 3)), (8, .int (((nI c) - 3) - ((nI c) - 3) / 100 * 100)), (7, .int (gNu π p (gBc ws) ((c - 3) / 300))), (6, .int (nI c)), (0, .ref b), (1, .int (nI p)), (2, .int ws), (3, .int (nI cl))]) hx hb dX12_isTrue_255 hl (k := 9) rfl (gAdd rfl (show Int32.ofInt 1 = nI 1 from rfl)) (by decide) rfl (fun ls hl => ?_)
                refine lv_goto (tgt := 11) hx hb dX12_isTrue_258 (by decide) ?_
                have er : nI c - 3 - (nI c - 3) / 100 * 100 = nI ((c - 3) % 100) := gRem (gSub rfl rfl (by omega)) rfl (by omega) (by omega) (by omega)
                rw [er] at c33
                have ht : gTst (gNu π p (gBc ws)) (c - 3) = false := by rw [gTst, if_neg c31, if_neg c32]; exact decide_eq_false (fun z => absurd z (Int32.not_lt.mpr c33))
                have he : gEs (gNu π p (gBc ws)) c st = (gTst (gNu π p (gBc ws)) (c - 3) :: st) := by unfold gEs; rw [if_pos c3]
                exact ih (q + 1) (gTst (gNu π p (gBc ws)) (c - 3) :: st) _ (by omega) (fun r hr => by have := hc (r + 1) (by simp; omega); simpa [Nat.add_assoc, Nat.add_comm 1 r] using this) r3 (by rw [← hev]; show _ = gEv (gNu π p (gBc ws)) cs (gEs (gNu π p (gBc ws)) c st); rw [he]) ⟨by rw [ht]; simp [upd, gB]; rfl, gStk_up (Nat.le_refl _) hst⟩ (by simp only [List.length_cons]; omega) _ _ h1 hS _ (lv_sub hl [6, 7, 8, 9, 1, 0] rfl)
              · refine lv_iconst (v := 1) hx hb dX12_isTrue_137 (by decide) ?_
                refine lv_goto (tgt := 142) hx hb dX12_isTrue_138 (by decide) ?_
                refine g_zs (j := st.length) hx hb hK hS (h1 16 _ rfl) rfl (by omega) (Nat.le_of_ble_eq_true rfl) (by omega) dX12_isTrue_142 (fun H36 locs c37 oq hS => ?_)
                have h1 : gSg G b (gLM G b π μ (gR f 7 (upd s7 st.length (vp_nar .boolean 1))) g) H36 := gSg_set h1 16 c37 oq
                refine lv_goto (tgt := 255) hx hb dX12_isTrue_143 (by decide) ?_
                refine lv_iinc (v := nI (bg + q + 1)) (lv' := [(5, .int (nI (bg + q + 1))), (4, .int (nI (st.length + 1))), (9, .int ((((nI c) - 3) / 100) - (((nI c) - 3) / 100) / 3 * 3)), (8, .int (((nI c) - 3) - ((nI c) - 3) / 100 * 100)), (7, .int (gNu π p (gBc ws) ((c - 3) / 300))), (6, .int (nI c)), (0, .ref b), (1, .int (nI p)), (2, .int ws), (3, .int (nI cl))]) hx hb dX12_isTrue_255 hl (k := 9) rfl (gAdd rfl (show Int32.ofInt 1 = nI 1 from rfl)) (by decide) rfl (fun ls hl => ?_)
                refine lv_goto (tgt := 11) hx hb dX12_isTrue_258 (by decide) ?_
                have er : nI c - 3 - (nI c - 3) / 100 * 100 = nI ((c - 3) % 100) := gRem (gSub rfl rfl (by omega)) rfl (by omega) (by omega) (by omega)
                rw [er] at c33
                have ht : gTst (gNu π p (gBc ws)) (c - 3) = true := by rw [gTst, if_neg c31, if_neg c32]; exact decide_eq_true (Int32.not_le.mp c33)
                have he : gEs (gNu π p (gBc ws)) c st = (gTst (gNu π p (gBc ws)) (c - 3) :: st) := by unfold gEs; rw [if_pos c3]
                exact ih (q + 1) (gTst (gNu π p (gBc ws)) (c - 3) :: st) _ (by omega) (fun r hr => by have := hc (r + 1) (by simp; omega); simpa [Nat.add_assoc, Nat.add_comm 1 r] using this) r3 (by rw [← hev]; show _ = gEv (gNu π p (gBc ws)) cs (gEs (gNu π p (gBc ws)) c st); rw [he]) ⟨by rw [ht]; simp [upd, gB]; rfl, gStk_up (Nat.le_refl _) hst⟩ (by simp only [List.length_cons]; omega) _ _ h1 hS _ (lv_sub hl [6, 7, 8, 9, 1, 0] rfl)
            · have c32 : (((c - 3) / 100) % 3) = 1 := (gEq (a := ((c - 3) / 100) % 3) (b := 1) (gRem (gDiv (gSub rfl rfl (by omega)) rfl (by omega) (by omega) (by omega)) rfl (by omega) (by omega) (by omega)) rfl (by omega) (by omega)).mp c32
              refine lv_iload hx hb dX12_isTrue_115 (lv_at hl 3 rfl) ?_
              refine lv_iload hx hb dX12_isTrue_117 (lv_at hl 2 rfl) ?_
              refine lv_icmp_ne (tgt := 126) hx hb dX12_isTrue_119 (by decide) (fun c38 => ?_) (fun c38 => ?_)
              · refine lv_iconst (v := 0) hx hb dX12_isTrue_126 (by decide) ?_
                refine lv_goto (tgt := 142) hx hb dX12_isTrue_127 (by decide) ?_
                refine g_zs (j := st.length) hx hb hK hS (h1 16 _ rfl) rfl (by omega) (Nat.le_of_ble_eq_true rfl) (by omega) dX12_isTrue_142 (fun H39 locs c40 oq hS => ?_)
                have h1 : gSg G b (gLM G b π μ (gR f 7 (upd s7 st.length (vp_nar .boolean 0))) g) H39 := gSg_set h1 16 c40 oq
                refine lv_goto (tgt := 255) hx hb dX12_isTrue_143 (by decide) ?_
                refine lv_iinc (v := nI (bg + q + 1)) (lv' := [(5, .int (nI (bg + q + 1))), (4, .int (nI (st.length + 1))), (9, .int ((((nI c) - 3) / 100) - (((nI c) - 3) / 100) / 3 * 3)), (8, .int (((nI c) - 3) - ((nI c) - 3) / 100 * 100)), (7, .int (gNu π p (gBc ws) ((c - 3) / 300))), (6, .int (nI c)), (0, .ref b), (1, .int (nI p)), (2, .int ws), (3, .int (nI cl))]) hx hb dX12_isTrue_255 hl (k := 9) rfl (gAdd rfl (show Int32.ofInt 1 = nI 1 from rfl)) (by decide) rfl (fun ls hl => ?_)
                refine lv_goto (tgt := 11) hx hb dX12_isTrue_258 (by decide) ?_
                have er : nI c - 3 - (nI c - 3) / 100 * 100 = nI ((c - 3) % 100) := gRem (gSub rfl rfl (by omega)) rfl (by omega) (by omega) (by omega)
                rw [er] at c38
                have ht : gTst (gNu π p (gBc ws)) (c - 3) = false := by rw [gTst, if_neg c31, if_pos c32]; exact decide_eq_false c38
                have he : gEs (gNu π p (gBc ws)) c st = (gTst (gNu π p (gBc ws)) (c - 3) :: st) := by unfold gEs; rw [if_pos c3]
                exact ih (q + 1) (gTst (gNu π p (gBc ws)) (c - 3) :: st) _ (by omega) (fun r hr => by have := hc (r + 1) (by simp; omega); simpa [Nat.add_assoc, Nat.add_comm 1 r] using this) r3 (by rw [← hev]; show _ = gEv (gNu π p (gBc ws)) cs (gEs (gNu π p (gBc ws)) c st); rw [he]) ⟨by rw [ht]; simp [upd, gB]; rfl, gStk_up (Nat.le_refl _) hst⟩ (by simp only [List.length_cons]; omega) _ _ h1 hS _ (lv_sub hl [6, 7, 8, 9, 1, 0] rfl)
              · refine lv_iconst (v := 1) hx hb dX12_isTrue_122 (by decide) ?_
                refine lv_goto (tgt := 142) hx hb dX12_isTrue_123 (by decide) ?_
                refine g_zs (j := st.length) hx hb hK hS (h1 16 _ rfl) rfl (by omega) (Nat.le_of_ble_eq_true rfl) (by omega) dX12_isTrue_142 (fun H41 locs c42 oq hS => ?_)
                have h1 : gSg G b (gLM G b π μ (gR f 7 (upd s7 st.length (vp_nar .boolean 1))) g) H41 := gSg_set h1 16 c42 oq
                refine lv_goto (tgt := 255) hx hb dX12_isTrue_143 (by decide) ?_
                refine lv_iinc (v := nI (bg + q + 1)) (lv' := [(5, .int (nI (bg + q + 1))), (4, .int (nI (st.length + 1))), (9, .int ((((nI c) - 3) / 100) - (((nI c) - 3) / 100) / 3 * 3)), (8, .int (((nI c) - 3) - ((nI c) - 3) / 100 * 100)), (7, .int (gNu π p (gBc ws) ((c - 3) / 300))), (6, .int (nI c)), (0, .ref b), (1, .int (nI p)), (2, .int ws), (3, .int (nI cl))]) hx hb dX12_isTrue_255 hl (k := 9) rfl (gAdd rfl (show Int32.ofInt 1 = nI 1 from rfl)) (by decide) rfl (fun ls hl => ?_)
                refine lv_goto (tgt := 11) hx hb dX12_isTrue_258 (by decide) ?_
                have er : nI c - 3 - (nI c - 3) / 100 * 100 = nI ((c - 3) % 100) := gRem (gSub rfl rfl (by omega)) rfl (by omega) (by omega) (by omega)
                rw [er] at c38
                have ht : gTst (gNu π p (gBc ws)) (c - 3) = true := by rw [gTst, if_neg c31, if_pos c32]; exact decide_eq_true c38
                have he : gEs (gNu π p (gBc ws)) c st = (gTst (gNu π p (gBc ws)) (c - 3) :: st) := by unfold gEs; rw [if_pos c3]
                exact ih (q + 1) (gTst (gNu π p (gBc ws)) (c - 3) :: st) _ (by omega) (fun r hr => by have := hc (r + 1) (by simp; omega); simpa [Nat.add_assoc, Nat.add_comm 1 r] using this) r3 (by rw [← hev]; show _ = gEv (gNu π p (gBc ws)) cs (gEs (gNu π p (gBc ws)) c st); rw [he]) ⟨by rw [ht]; simp [upd, gB]; rfl, gStk_up (Nat.le_refl _) hst⟩ (by simp only [List.length_cons]; omega) _ _ h1 hS _ (lv_sub hl [6, 7, 8, 9, 1, 0] rfl)
          · have c31 : (((c - 3) / 100) % 3) = 0 := (gEq (a := ((c - 3) / 100) % 3) (b := 0) (gRem (gDiv (gSub rfl rfl (by omega)) rfl (by omega) (by omega) (by omega)) rfl (by omega) (by omega) (by omega)) rfl (by omega) (by omega)).mp c31
            refine lv_iload hx hb dX12_isTrue_94 (lv_at hl 3 rfl) ?_
            refine lv_iload hx hb dX12_isTrue_96 (lv_at hl 2 rfl) ?_
            refine lv_icmp_ge (tgt := 105) hx hb dX12_isTrue_98 (by decide) (fun c43 => ?_) (fun c43 => ?_)
            · refine lv_iconst (v := 0) hx hb dX12_isTrue_105 (by decide) ?_
              refine lv_goto (tgt := 142) hx hb dX12_isTrue_106 (by decide) ?_
              refine g_zs (j := st.length) hx hb hK hS (h1 16 _ rfl) rfl (by omega) (Nat.le_of_ble_eq_true rfl) (by omega) dX12_isTrue_142 (fun H44 locs c45 oq hS => ?_)
              have h1 : gSg G b (gLM G b π μ (gR f 7 (upd s7 st.length (vp_nar .boolean 0))) g) H44 := gSg_set h1 16 c45 oq
              refine lv_goto (tgt := 255) hx hb dX12_isTrue_143 (by decide) ?_
              refine lv_iinc (v := nI (bg + q + 1)) (lv' := [(5, .int (nI (bg + q + 1))), (4, .int (nI (st.length + 1))), (9, .int ((((nI c) - 3) / 100) - (((nI c) - 3) / 100) / 3 * 3)), (8, .int (((nI c) - 3) - ((nI c) - 3) / 100 * 100)), (7, .int (gNu π p (gBc ws) ((c - 3) / 300))), (6, .int (nI c)), (0, .ref b), (1, .int (nI p)), (2, .int ws), (3, .int (nI cl))]) hx hb dX12_isTrue_255 hl (k := 9) rfl (gAdd rfl (show Int32.ofInt 1 = nI 1 from rfl)) (by decide) rfl (fun ls hl => ?_)
              refine lv_goto (tgt := 11) hx hb dX12_isTrue_258 (by decide) ?_
              have er : nI c - 3 - (nI c - 3) / 100 * 100 = nI ((c - 3) % 100) := gRem (gSub rfl rfl (by omega)) rfl (by omega) (by omega) (by omega)
              rw [er] at c43
              have ht : gTst (gNu π p (gBc ws)) (c - 3) = false := by rw [gTst, if_pos c31]; exact decide_eq_false (fun z => absurd z (Int32.not_lt.mpr c43))
              have he : gEs (gNu π p (gBc ws)) c st = (gTst (gNu π p (gBc ws)) (c - 3) :: st) := by unfold gEs; rw [if_pos c3]
              exact ih (q + 1) (gTst (gNu π p (gBc ws)) (c - 3) :: st) _ (by omega) (fun r hr => by have := hc (r + 1) (by simp; omega); simpa [Nat.add_assoc, Nat.add_comm 1 r] using this) r3 (by rw [← hev]; show _ = gEv (gNu π p (gBc ws)) cs (gEs (gNu π p (gBc ws)) c st); rw [he]) ⟨by rw [ht]; simp [upd, gB]; rfl, gStk_up (Nat.le_refl _) hst⟩ (by simp only [List.length_cons]; omega) _ _ h1 hS _ (lv_sub hl [6, 7, 8, 9, 1, 0] rfl)
            · refine lv_iconst (v := 1) hx hb dX12_isTrue_101 (by decide) ?_
              refine lv_goto (tgt := 142) hx hb dX12_isTrue_102 (by decide) ?_
              refine g_zs (j := st.length) hx hb hK hS (h1 16 _ rfl) rfl (by omega) (Nat.le_of_ble_eq_true rfl) (by omega) dX12_isTrue_142 (fun H46 locs c47 oq hS => ?_)
              have h1 : gSg G b (gLM G b π μ (gR f 7 (upd s7 st.length (vp_nar .boolean 1))) g) H46 := gSg_set h1 16 c47 oq
              refine lv_goto (tgt := 255) hx hb dX12_isTrue_143 (by decide) ?_
              refine lv_iinc (v := nI (bg + q + 1)) (lv' := [(5, .int (nI (bg + q + 1))), (4, .int (nI (st.length + 1))), (9, .int ((((nI c) - 3) / 100) - (((nI c) - 3) / 100) / 3 * 3)), (8, .int (((nI c) - 3) - ((nI c) - 3) / 100 * 100)), (7, .int (gNu π p (gBc ws) ((c - 3) / 300))), (6, .int (nI c)), (0, .ref b), (1, .int (nI p)), (2, .int ws), (3, .int (nI cl))]) hx hb dX12_isTrue_255 hl (k := 9) rfl (gAdd rfl (show Int32.ofInt 1 = nI 1 from rfl)) (by decide) rfl (fun ls hl => ?_)
              refine lv_goto (tgt := 11) hx hb dX12_isTrue_258 (by decide) ?_
              have er : nI c - 3 - (nI c - 3) / 100 * 100 = nI ((c - 3) % 100) := gRem (gSub rfl rfl (by omega)) rfl (by omega) (by omega) (by omega)
              rw [er] at c43
              have ht : gTst (gNu π p (gBc ws)) (c - 3) = true := by rw [gTst, if_pos c31]; exact decide_eq_true (Int32.not_le.mp c43)
              have he : gEs (gNu π p (gBc ws)) c st = (gTst (gNu π p (gBc ws)) (c - 3) :: st) := by unfold gEs; rw [if_pos c3]
              exact ih (q + 1) (gTst (gNu π p (gBc ws)) (c - 3) :: st) _ (by omega) (fun r hr => by have := hc (r + 1) (by simp; omega); simpa [Nat.add_assoc, Nat.add_comm 1 r] using this) r3 (by rw [← hev]; show _ = gEv (gNu π p (gBc ws)) cs (gEs (gNu π p (gBc ws)) c st); rw [he]) ⟨by rw [ht]; simp [upd, gB]; rfl, gStk_up (Nat.le_refl _) hst⟩ (by simp only [List.length_cons]; omega) _ _ h1 hS _ (lv_sub hl [6, 7, 8, 9, 1, 0] rfl)
  exact loop code 0 [] s7 (by omega) (fun r hr => by simpa using hb6 r hr) hok rfl trivial (Nat.zero_le _) _ _ h1 hS _ (by have hl := lv_sub hl [2, 3, 4, 5, 1, 0] rfl; rw [show f 4 cl = nI (bg + 0) from hb4] at hl; exact hl)
