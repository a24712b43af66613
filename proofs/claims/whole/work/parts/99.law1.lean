/-! THE LAW, case by case -/
set_option maxHeartbeats 4000000 in
set_option maxRecDepth 100000 in
theorem law_pigeon {p : Program} {l : Launch} {e : Env} {s : State} {m : MethodId} {below : List Frame} {meth : Method} {c : Code} {G : gW} {b0 L : Nat} {xs : Nat → Int32} (hL : L ≤ 3072) (C0 : gLC G p s m meth c b0 L xs) {k B : Nat} (hk6 : 6 * k + 6 ≤ L) (hB : s.heap.size ≤ B) {H : Heap} {locs : List Loc} (hw : gWo G B (B + 156) H) (hS : va_S (fun q => s.heap.size ≤ q) s.heap H locs) {ls : Array Slot} (hl : lv_has ls 4 [(3, .int (nI (6 * k))), (2, .ref (B + 156)), (1, .ref B), (0, .ref b0)]) {Q : State → Prop} (kk : ∀ (H1 : Heap) (locs1 : List Loc) (ls1 : Array Slot), gWo G B (B + 156) H1 → va_S (fun q => s.heap.size ≤ q) s.heap H1 locs1 → lv_has ls1 4 [(3, .int (nI (6 * k))), (2, .ref (B + 156)), (1, .ref B), (0, .ref b0)] → W p l e room_1 s m #[Value.ref b0] below meth c H1 locs1 186 5311 Q (F0 m 1248 ls1 [])) : W p l e room_1 s m #[Value.ref b0] below meth c H locs 186 5311 Q (F0 m 180 ls []) := by
  obtain ⟨hx, hb, hml, hown, hT, hX, hbl, hE2, hG9⟩ := C0
  have hE := hE2.1
  have hK := hE.2.1
  obtain ⟨π, πk, μ, α, f, g, lc, lp, lk, A, acc, acck, ⟨hI, hIk, hTA, ⟨rn, hrn, hr9⟩, hTs, ⟨tn, htn, hTn⟩, hlc, h6, hk1, hk2, hRL, him⟩, ⟨hCN, hLf⟩, zM⟩ := hw
  obtain ⟨⟨f2, h4, hcl⟩, hlp⟩ := gLfs_open h6 hLf hk1
  have hh := gHold_of h6 hk1 hRL
  obtain ⟨⟨n, hn, hz, -⟩, hki, ⟨sn, hsn, hs9, hsp⟩, ⟨pn, hpn, hp9, hpok⟩, ⟨bn, hbn, hb9, hbk⟩, -⟩ := id hI
  refine lv_aload_n hx hb dL_law_180 rfl (lv_at hl 2 rfl) ?_
  refine lv_aload_n hx hb dL_law_181 rfl (lv_at hl 3 rfl) ?_
  refine lv_iload_n hx hb dL_law_182 rfl (lv_at hl 0 rfl) ?_
  refine lv_iconst (v := 1) hx hb dL_law_183 (by decide) ?_
  refine lv_iadd hx hb dL_law_184 ?_
  refine g_sld (j := (6 * k) + 1) hx hb hX hbl hS (gAdd rfl rfl) (by omega) hL dL_law_185 ?_
  refine lv_aload_n hx hb dL_law_186 rfl (lv_at hl 3 rfl) ?_
  refine lv_iload_n hx hb dL_law_187 rfl (lv_at hl 0 rfl) ?_
  refine lv_iconst (v := 2) hx hb dL_law_188 (by decide) ?_
  refine lv_iadd hx hb dL_law_189 ?_
  refine g_sld (j := (6 * k) + 2) hx hb hX hbl hS (gAdd rfl rfl) (by omega) hL dL_law_190 ?_
  refine g_ki (g_runV (T := TX11) (ci := 11) (N := 13) (rest := []) hx hb hml hown hE hT (c_X11_pigeon l G B lp π πk f2 μ α lk g acc hcl hI hlp  (xs ((6 * k) + 1)) (xs ((6 * k) + 2))) gM_X11_pigeon gm_L_13 gi_X11_pigeon gs_RX11_yX11_pigeon_yX11_pigeon rfl (gCN_at hCN) (gCW_v.mpr ⟨h4, hCN⟩) rfl hl.1 ⟨rfl, rfl⟩ ⟨Nat.le_of_ble_eq_true rfl, Nat.le_of_ble_eq_true rfl⟩ ⟨Nat.le_of_ble_eq_true rfl, Nat.le_of_ble_eq_true rfl⟩ rfl (Nat.le_of_ble_eq_true rfl) dL_law_191) hS (fun q hq => gAr_up hB hlp hq) (fun r1 H1 locs q1 k1 hS => ?_)
  obtain ⟨e1, hW⟩ := q1
  have hCN := (gCW_v.mp hW).2
  have h4 := (gCW_v.mp hW).1
  have hLf := gLfs_step h6 hLf hk1 h4 hcl k1
  have zM := gMA_free zM k1 (fun q a _ => gAr_no hlp a)
  refine lv_aload_n hx hb dL_law_194 rfl (lv_at hl 1 rfl) ?_
  refine lv_aload_n hx hb dL_law_195 rfl (lv_at hl 3 rfl) ?_
  refine lv_iload_n hx hb dL_law_196 rfl (lv_at hl 0 rfl) ?_
  refine lv_iconst (v := 1) hx hb dL_law_197 (by decide) ?_
  refine lv_iadd hx hb dL_law_198 ?_
  refine g_sld (j := (6 * k) + 1) hx hb hX hbl hS (gAdd rfl rfl) (by omega) hL dL_law_199 ?_
  refine lv_aload_n hx hb dL_law_200 rfl (lv_at hl 3 rfl) ?_
  refine lv_iload_n hx hb dL_law_201 rfl (lv_at hl 0 rfl) ?_
  refine lv_iconst (v := 2) hx hb dL_law_202 (by decide) ?_
  refine lv_iadd hx hb dL_law_203 ?_
  refine g_sld (j := (6 * k) + 2) hx hb hX hbl hS (gAdd rfl rfl) (by omega) hL dL_law_204 ?_
  obtain ⟨fs9, hat⟩ := gMA_at zM
  obtain ⟨sA, s7, zM⟩ := zM
  refine g_ki (g_runV (T := TX12) (ci := 12) (N := 45) (rest := [.int r1]) hx hb hml hown hE hT (c_X12_pigeon l G (B + 156) π μ (gR (gR f 10 sA) 7 s7) g n hz hn (xs ((6 * k) + 1)) (xs ((6 * k) + 2))) gM_X12_pigeon gm_L_17 gi_X12_pigeon gs_RX12_yX12_pigeon_yX12_pigeon rfl hat zM rfl hl.1 ⟨rfl, rfl⟩ ⟨Nat.le_of_ble_eq_true rfl, Nat.le_of_ble_eq_true rfl⟩ ⟨Nat.le_of_ble_eq_true rfl, Nat.le_of_ble_eq_true rfl⟩ rfl (Nat.le_of_ble_eq_true rfl) dL_law_205) hS (fun q h => Nat.le_trans hB (Nat.le_trans (Nat.le_add_right _ _) h.1)) (fun r2 H2 locs q2 k2 hS => ?_)
  obtain ⟨e2, zM⟩ := q2
  have zM : gMA G (B + 156) (gqPigeon π (xs (6 * k + 1)) (xs (6 * k + 2))).2 μ f g H2 := ⟨sA, s7, zM⟩
  obtain ⟨hCN, hLf⟩ := gWC_free h6 ⟨hCN, hLf⟩ k2 (fun q _ a h => absurd a (Nat.not_lt.mpr h.1))
  refine lv_icmp_eq (tgt := 1248) hx hb dL_law_208 (by decide) (fun _ => ?_) (fun c9 => absurd (e1.trans e2.symm) c9)
  exact kk _ _ _ ⟨(gqPigeon π (xs (6 * k + 1)) (xs (6 * k + 2))).2, πk, μ, α, f, g, lc, lp, lk, A, acc, acck, ⟨(gInv_pigeon hI), hIk, hTA, ⟨rn, hrn, hr9⟩, hTs, ⟨tn, htn, hTn⟩, hlc, h6, (gLk_same hk1 gH_pigeon), hk2, hRL, him⟩, ⟨hCN, hLf⟩, zM⟩ hS hl

set_option maxHeartbeats 4000000 in
set_option maxRecDepth 100000 in
theorem law_of {p : Program} {l : Launch} {e : Env} {s : State} {m : MethodId} {below : List Frame} {meth : Method} {c : Code} {G : gW} {b0 L : Nat} {xs : Nat → Int32} (hL : L ≤ 3072) (C0 : gLC G p s m meth c b0 L xs) {k B : Nat} (hk6 : 6 * k + 6 ≤ L) (hB : s.heap.size ≤ B) {H : Heap} {locs : List Loc} (hw : gWo G B (B + 156) H) (hS : va_S (fun q => s.heap.size ≤ q) s.heap H locs) {ls : Array Slot} (hl : lv_has ls 4 [(3, .int (nI (6 * k))), (2, .ref (B + 156)), (1, .ref B), (0, .ref b0)]) {Q : State → Prop} (kk : ∀ (H1 : Heap) (locs1 : List Loc) (ls1 : Array Slot), gWo G B (B + 156) H1 → va_S (fun q => s.heap.size ≤ q) s.heap H1 locs1 → lv_has ls1 4 [(3, .int (nI (6 * k))), (2, .ref (B + 156)), (1, .ref B), (0, .ref b0)] → W p l e room_1 s m #[Value.ref b0] below meth c H1 locs1 186 5311 Q (F0 m 1248 ls1 [])) : W p l e room_1 s m #[Value.ref b0] below meth c H locs 186 5311 Q (F0 m 213 ls []) := by
  obtain ⟨hx, hb, hml, hown, hT, hX, hbl, hE2, hG9⟩ := C0
  have hE := hE2.1
  have hK := hE.2.1
  obtain ⟨π, πk, μ, α, f, g, lc, lp, lk, A, acc, acck, ⟨hI, hIk, hTA, ⟨rn, hrn, hr9⟩, hTs, ⟨tn, htn, hTn⟩, hlc, h6, hk1, hk2, hRL, him⟩, ⟨hCN, hLf⟩, zM⟩ := hw
  obtain ⟨⟨f2, h4, hcl⟩, hlp⟩ := gLfs_open h6 hLf hk1
  have hh := gHold_of h6 hk1 hRL
  obtain ⟨⟨n, hn, hz, -⟩, hki, ⟨sn, hsn, hs9, hsp⟩, ⟨pn, hpn, hp9, hpok⟩, ⟨bn, hbn, hb9, hbk⟩, -⟩ := id hI
  refine lv_aload_n hx hb dL_law_213 rfl (lv_at hl 2 rfl) ?_
  refine lv_aload_n hx hb dL_law_214 rfl (lv_at hl 3 rfl) ?_
  refine lv_iload_n hx hb dL_law_215 rfl (lv_at hl 0 rfl) ?_
  refine lv_iconst (v := 1) hx hb dL_law_216 (by decide) ?_
  refine lv_iadd hx hb dL_law_217 ?_
  refine g_sld (j := (6 * k) + 1) hx hb hX hbl hS (gAdd rfl rfl) (by omega) hL dL_law_218 ?_
  refine lv_aload_n hx hb dL_law_219 rfl (lv_at hl 3 rfl) ?_
  refine lv_iload_n hx hb dL_law_220 rfl (lv_at hl 0 rfl) ?_
  refine lv_iconst (v := 2) hx hb dL_law_221 (by decide) ?_
  refine lv_iadd hx hb dL_law_222 ?_
  refine g_sld (j := (6 * k) + 2) hx hb hX hbl hS (gAdd rfl rfl) (by omega) hL dL_law_223 ?_
  refine g_ki (g_runV (T := TX11) (ci := 11) (N := 13) (rest := []) hx hb hml hown hE hT (c_X11_of l G B lp π πk f2 μ α lk g acc hcl hI hlp  (xs ((6 * k) + 1)) (xs ((6 * k) + 2))) gM_X11_of gm_L_18 gi_X11_of gs_RX11_yX11_of_yX11_of rfl (gCN_at hCN) (gCW_v.mpr ⟨h4, hCN⟩) rfl hl.1 ⟨rfl, rfl⟩ ⟨Nat.le_of_ble_eq_true rfl, Nat.le_of_ble_eq_true rfl⟩ ⟨Nat.le_of_ble_eq_true rfl, Nat.le_of_ble_eq_true rfl⟩ rfl (Nat.le_of_ble_eq_true rfl) dL_law_224) hS (fun q hq => gAr_up hB hlp hq) (fun r1 H1 locs q1 k1 hS => ?_)
  obtain ⟨e1, hW⟩ := q1
  have hCN := (gCW_v.mp hW).2
  have h4 := (gCW_v.mp hW).1
  have hLf := gLfs_step h6 hLf hk1 h4 hcl k1
  have zM := gMA_free zM k1 (fun q a _ => gAr_no hlp a)
  refine lv_aload_n hx hb dL_law_227 rfl (lv_at hl 1 rfl) ?_
  refine lv_aload_n hx hb dL_law_228 rfl (lv_at hl 3 rfl) ?_
  refine lv_iload_n hx hb dL_law_229 rfl (lv_at hl 0 rfl) ?_
  refine lv_iconst (v := 1) hx hb dL_law_230 (by decide) ?_
  refine lv_iadd hx hb dL_law_231 ?_
  refine g_sld (j := (6 * k) + 1) hx hb hX hbl hS (gAdd rfl rfl) (by omega) hL dL_law_232 ?_
  refine lv_aload_n hx hb dL_law_233 rfl (lv_at hl 3 rfl) ?_
  refine lv_iload_n hx hb dL_law_234 rfl (lv_at hl 0 rfl) ?_
  refine lv_iconst (v := 2) hx hb dL_law_235 (by decide) ?_
  refine lv_iadd hx hb dL_law_236 ?_
  refine g_sld (j := (6 * k) + 2) hx hb hX hbl hS (gAdd rfl rfl) (by omega) hL dL_law_237 ?_
  obtain ⟨fs9, hat⟩ := gMA_at zM
  obtain ⟨sA, zM⟩ := zM
  refine g_ki (g_runV (T := TX12) (ci := 12) (N := 45) (rest := [.int r1]) hx hb hml hown hE hT (c_X12_of l G (B + 156) π μ (gR f 10 sA) g n hz hn (gLof acc) (gHold_10 hh) (xs ((6 * k) + 1)) (xs ((6 * k) + 2))) gM_X12_of gm_L_21 gi_X12_of gs_RX12_yX12_of_yX12_of rfl hat zM rfl hl.1 ⟨rfl, rfl⟩ ⟨Nat.le_of_ble_eq_true rfl, Nat.le_of_ble_eq_true rfl⟩ ⟨Nat.le_of_ble_eq_true rfl, Nat.le_of_ble_eq_true rfl⟩ rfl (Nat.le_of_ble_eq_true rfl) dL_law_238) hS (fun q h => Nat.le_trans hB (Nat.le_trans (Nat.le_add_right _ _) h.1)) (fun r2 H2 locs q2 k2 hS => ?_)
  obtain ⟨e2, zM⟩ := q2
  have zM : gMA G (B + 156) π μ f g H2 := ⟨sA, zM⟩
  obtain ⟨hCN, hLf⟩ := gWC_free h6 ⟨hCN, hLf⟩ k2 (fun q _ a h => absurd a (Nat.not_lt.mpr h.1))
  refine lv_icmp_eq (tgt := 1248) hx hb dL_law_241 (by decide) (fun _ => ?_) (fun c9 => absurd (e1.trans e2.symm) c9)
  exact kk _ _ _ ⟨π, πk, μ, α, f, g, lc, lp, lk, A, acc, acck, ⟨hI, hIk, hTA, ⟨rn, hrn, hr9⟩, hTs, ⟨tn, htn, hTn⟩, hlc, h6, hk1, hk2, hRL, him⟩, ⟨hCN, hLf⟩, zM⟩ hS hl

set_option maxHeartbeats 4000000 in
set_option maxRecDepth 100000 in
theorem law_joy {p : Program} {l : Launch} {e : Env} {s : State} {m : MethodId} {below : List Frame} {meth : Method} {c : Code} {G : gW} {b0 L : Nat} {xs : Nat → Int32} (hL : L ≤ 3072) (C0 : gLC G p s m meth c b0 L xs) {k B : Nat} (hk6 : 6 * k + 6 ≤ L) (hB : s.heap.size ≤ B) {H : Heap} {locs : List Loc} (hw : gWo G B (B + 156) H) (hS : va_S (fun q => s.heap.size ≤ q) s.heap H locs) {ls : Array Slot} (hl : lv_has ls 4 [(3, .int (nI (6 * k))), (2, .ref (B + 156)), (1, .ref B), (0, .ref b0)]) {Q : State → Prop} (kk : ∀ (H1 : Heap) (locs1 : List Loc) (ls1 : Array Slot), gWo G B (B + 156) H1 → va_S (fun q => s.heap.size ≤ q) s.heap H1 locs1 → lv_has ls1 4 [(3, .int (nI (6 * k))), (2, .ref (B + 156)), (1, .ref B), (0, .ref b0)] → W p l e room_1 s m #[Value.ref b0] below meth c H1 locs1 186 5311 Q (F0 m 1248 ls1 [])) : W p l e room_1 s m #[Value.ref b0] below meth c H locs 186 5311 Q (F0 m 246 ls []) := by
  obtain ⟨hx, hb, hml, hown, hT, hX, hbl, hE2, hG9⟩ := C0
  have hE := hE2.1
  have hK := hE.2.1
  obtain ⟨π, πk, μ, α, f, g, lc, lp, lk, A, acc, acck, ⟨hI, hIk, hTA, ⟨rn, hrn, hr9⟩, hTs, ⟨tn, htn, hTn⟩, hlc, h6, hk1, hk2, hRL, him⟩, ⟨hCN, hLf⟩, zM⟩ := hw
  obtain ⟨⟨f2, h4, hcl⟩, hlp⟩ := gLfs_open h6 hLf hk1
  have hh := gHold_of h6 hk1 hRL
  obtain ⟨⟨n, hn, hz, -⟩, hki, ⟨sn, hsn, hs9, hsp⟩, ⟨pn, hpn, hp9, hpok⟩, ⟨bn, hbn, hb9, hbk⟩, -⟩ := id hI
  refine lv_aload_n hx hb dL_law_246 rfl (lv_at hl 2 rfl) ?_
  refine lv_aload_n hx hb dL_law_247 rfl (lv_at hl 3 rfl) ?_
  refine lv_iload_n hx hb dL_law_248 rfl (lv_at hl 0 rfl) ?_
  refine lv_iconst (v := 1) hx hb dL_law_249 (by decide) ?_
  refine lv_iadd hx hb dL_law_250 ?_
  refine g_sld (j := (6 * k) + 1) hx hb hX hbl hS (gAdd rfl rfl) (by omega) hL dL_law_251 ?_
  refine lv_aload_n hx hb dL_law_252 rfl (lv_at hl 3 rfl) ?_
  refine lv_iload_n hx hb dL_law_253 rfl (lv_at hl 0 rfl) ?_
  refine lv_iconst (v := 2) hx hb dL_law_254 (by decide) ?_
  refine lv_iadd hx hb dL_law_255 ?_
  refine g_sld (j := (6 * k) + 2) hx hb hX hbl hS (gAdd rfl rfl) (by omega) hL dL_law_256 ?_
  refine g_ki (g_runV (T := TX11) (ci := 11) (N := 13) (rest := []) hx hb hml hown hE hT (c_X11_joy l G B lp π πk f2 μ α lk g acc hcl hI hlp  (xs ((6 * k) + 1)) (xs ((6 * k) + 2))) gM_X11_joy gm_L_22 gi_X11_joy gs_RX11_yX11_joy_yX11_joy rfl (gCN_at hCN) (gCW_v.mpr ⟨h4, hCN⟩) rfl hl.1 ⟨rfl, rfl⟩ ⟨Nat.le_of_ble_eq_true rfl, Nat.le_of_ble_eq_true rfl⟩ ⟨Nat.le_of_ble_eq_true rfl, Nat.le_of_ble_eq_true rfl⟩ rfl (Nat.le_of_ble_eq_true rfl) dL_law_257) hS (fun q hq => gAr_up hB hlp hq) (fun r1 H1 locs q1 k1 hS => ?_)
  obtain ⟨e1, hW⟩ := q1
  have hCN := (gCW_v.mp hW).2
  have h4 := (gCW_v.mp hW).1
  have hLf := gLfs_step h6 hLf hk1 h4 hcl k1
  have zM := gMA_free zM k1 (fun q a _ => gAr_no hlp a)
  refine lv_aload_n hx hb dL_law_260 rfl (lv_at hl 1 rfl) ?_
  refine lv_aload_n hx hb dL_law_261 rfl (lv_at hl 3 rfl) ?_
  refine lv_iload_n hx hb dL_law_262 rfl (lv_at hl 0 rfl) ?_
  refine lv_iconst (v := 1) hx hb dL_law_263 (by decide) ?_
  refine lv_iadd hx hb dL_law_264 ?_
  refine g_sld (j := (6 * k) + 1) hx hb hX hbl hS (gAdd rfl rfl) (by omega) hL dL_law_265 ?_
  refine lv_aload_n hx hb dL_law_266 rfl (lv_at hl 3 rfl) ?_
  refine lv_iload_n hx hb dL_law_267 rfl (lv_at hl 0 rfl) ?_
  refine lv_iconst (v := 2) hx hb dL_law_268 (by decide) ?_
  refine lv_iadd hx hb dL_law_269 ?_
  refine g_sld (j := (6 * k) + 2) hx hb hX hbl hS (gAdd rfl rfl) (by omega) hL dL_law_270 ?_
  obtain ⟨fs9, hat⟩ := gMA_at zM
  obtain ⟨sA, zM⟩ := zM
  refine g_ki (g_runV (T := TX12) (ci := 12) (N := 45) (rest := [.int r1]) hx hb hml hown hE hT (c_X12_joy l G (B + 156) π μ (gR f 10 sA) g n hz hn (gLof acc) (gHold_10 hh) (xs ((6 * k) + 1)) (xs ((6 * k) + 2))) gM_X12_joy gm_L_25 gi_X12_joy gs_RX12_yX12_joy_yX12_joy rfl hat zM rfl hl.1 ⟨rfl, rfl⟩ ⟨Nat.le_of_ble_eq_true rfl, Nat.le_of_ble_eq_true rfl⟩ ⟨Nat.le_of_ble_eq_true rfl, Nat.le_of_ble_eq_true rfl⟩ rfl (Nat.le_of_ble_eq_true rfl) dL_law_271) hS (fun q h => Nat.le_trans hB (Nat.le_trans (Nat.le_add_right _ _) h.1)) (fun r2 H2 locs q2 k2 hS => ?_)
  obtain ⟨e2, zM⟩ := q2
  have zM : gMA G (B + 156) π μ f g H2 := ⟨sA, zM⟩
  obtain ⟨hCN, hLf⟩ := gWC_free h6 ⟨hCN, hLf⟩ k2 (fun q _ a h => absurd a (Nat.not_lt.mpr h.1))
  refine lv_icmp_eq (tgt := 1248) hx hb dL_law_274 (by decide) (fun _ => ?_) (fun c9 => absurd (e1.trans e2.symm) c9)
  exact kk _ _ _ ⟨π, πk, μ, α, f, g, lc, lp, lk, A, acc, acck, ⟨hI, hIk, hTA, ⟨rn, hrn, hr9⟩, hTs, ⟨tn, htn, hTn⟩, hlc, h6, hk1, hk2, hRL, him⟩, ⟨hCN, hLf⟩, zM⟩ hS hl

set_option maxHeartbeats 4000000 in
set_option maxRecDepth 100000 in
theorem law_letter {p : Program} {l : Launch} {e : Env} {s : State} {m : MethodId} {below : List Frame} {meth : Method} {c : Code} {G : gW} {b0 L : Nat} {xs : Nat → Int32} (hL : L ≤ 3072) (C0 : gLC G p s m meth c b0 L xs) {k B : Nat} (hk6 : 6 * k + 6 ≤ L) (hB : s.heap.size ≤ B) {H : Heap} {locs : List Loc} (hw : gWo G B (B + 156) H) (hS : va_S (fun q => s.heap.size ≤ q) s.heap H locs) {ls : Array Slot} (hl : lv_has ls 4 [(3, .int (nI (6 * k))), (2, .ref (B + 156)), (1, .ref B), (0, .ref b0)]) {Q : State → Prop} (kk : ∀ (H1 : Heap) (locs1 : List Loc) (ls1 : Array Slot), gWo G B (B + 156) H1 → va_S (fun q => s.heap.size ≤ q) s.heap H1 locs1 → lv_has ls1 4 [(3, .int (nI (6 * k))), (2, .ref (B + 156)), (1, .ref B), (0, .ref b0)] → W p l e room_1 s m #[Value.ref b0] below meth c H1 locs1 186 5311 Q (F0 m 1248 ls1 [])) : W p l e room_1 s m #[Value.ref b0] below meth c H locs 186 5311 Q (F0 m 279 ls []) := by
  obtain ⟨hx, hb, hml, hown, hT, hX, hbl, hE2, hG9⟩ := C0
  have hE := hE2.1
  have hK := hE.2.1
  obtain ⟨π, πk, μ, α, f, g, lc, lp, lk, A, acc, acck, ⟨hI, hIk, hTA, ⟨rn, hrn, hr9⟩, hTs, ⟨tn, htn, hTn⟩, hlc, h6, hk1, hk2, hRL, him⟩, ⟨hCN, hLf⟩, zM⟩ := hw
  obtain ⟨⟨f2, h4, hcl⟩, hlp⟩ := gLfs_open h6 hLf hk1
  have hh := gHold_of h6 hk1 hRL
  obtain ⟨⟨n, hn, hz, -⟩, hki, ⟨sn, hsn, hs9, hsp⟩, ⟨pn, hpn, hp9, hpok⟩, ⟨bn, hbn, hb9, hbk⟩, -⟩ := id hI
  refine lv_aload_n hx hb dL_law_279 rfl (lv_at hl 2 rfl) ?_
  refine lv_aload_n hx hb dL_law_280 rfl (lv_at hl 3 rfl) ?_
  refine lv_iload_n hx hb dL_law_281 rfl (lv_at hl 0 rfl) ?_
  refine lv_iconst (v := 1) hx hb dL_law_282 (by decide) ?_
  refine lv_iadd hx hb dL_law_283 ?_
  refine g_sld (j := (6 * k) + 1) hx hb hX hbl hS (gAdd rfl rfl) (by omega) hL dL_law_284 ?_
  refine lv_aload_n hx hb dL_law_285 rfl (lv_at hl 3 rfl) ?_
  refine lv_iload_n hx hb dL_law_286 rfl (lv_at hl 0 rfl) ?_
  refine lv_iconst (v := 2) hx hb dL_law_287 (by decide) ?_
  refine lv_iadd hx hb dL_law_288 ?_
  refine g_sld (j := (6 * k) + 2) hx hb hX hbl hS (gAdd rfl rfl) (by omega) hL dL_law_289 ?_
  refine g_ki (g_runV (T := TX11) (ci := 11) (N := 13) (rest := []) hx hb hml hown hE hT (c_X11_letter l G B lp π πk f2 μ α lk g acc hcl hI hlp  (xs ((6 * k) + 1)) (xs ((6 * k) + 2))) gM_X11_letter gm_L_26 gi_X11_letter gs_RX11_yX11_letter_yX11_letter rfl (gCN_at hCN) (gCW_v.mpr ⟨h4, hCN⟩) rfl hl.1 ⟨rfl, rfl⟩ ⟨Nat.le_of_ble_eq_true rfl, Nat.le_of_ble_eq_true rfl⟩ ⟨Nat.le_of_ble_eq_true rfl, Nat.le_of_ble_eq_true rfl⟩ rfl (Nat.le_of_ble_eq_true rfl) dL_law_290) hS (fun q hq => gAr_up hB hlp hq) (fun r1 H1 locs q1 k1 hS => ?_)
  obtain ⟨e1, hW⟩ := q1
  have hCN := (gCW_v.mp hW).2
  have h4 := (gCW_v.mp hW).1
  have hLf := gLfs_step h6 hLf hk1 h4 hcl k1
  have zM := gMA_free zM k1 (fun q a _ => gAr_no hlp a)
  refine lv_aload_n hx hb dL_law_293 rfl (lv_at hl 1 rfl) ?_
  refine lv_aload_n hx hb dL_law_294 rfl (lv_at hl 3 rfl) ?_
  refine lv_iload_n hx hb dL_law_295 rfl (lv_at hl 0 rfl) ?_
  refine lv_iconst (v := 1) hx hb dL_law_296 (by decide) ?_
  refine lv_iadd hx hb dL_law_297 ?_
  refine g_sld (j := (6 * k) + 1) hx hb hX hbl hS (gAdd rfl rfl) (by omega) hL dL_law_298 ?_
  refine lv_aload_n hx hb dL_law_299 rfl (lv_at hl 3 rfl) ?_
  refine lv_iload_n hx hb dL_law_300 rfl (lv_at hl 0 rfl) ?_
  refine lv_iconst (v := 2) hx hb dL_law_301 (by decide) ?_
  refine lv_iadd hx hb dL_law_302 ?_
  refine g_sld (j := (6 * k) + 2) hx hb hX hbl hS (gAdd rfl rfl) (by omega) hL dL_law_303 ?_
  obtain ⟨fs9, hat⟩ := gMA_at zM
  obtain ⟨sA, s7, zM⟩ := zM
  refine g_ki (g_runV (T := TX12) (ci := 12) (N := 45) (rest := [.int r1]) hx hb hml hown hE hT (c_X12_letter l G (B + 156) π μ (gR (gR f 10 sA) 7 s7) g n hz hn (xs ((6 * k) + 1)) (xs ((6 * k) + 2))) gM_X12_letter gm_L_29 gi_X12_letter gs_RX12_yX12_letter_yX12_letter rfl hat zM rfl hl.1 ⟨rfl, rfl⟩ ⟨Nat.le_of_ble_eq_true rfl, Nat.le_of_ble_eq_true rfl⟩ ⟨Nat.le_of_ble_eq_true rfl, Nat.le_of_ble_eq_true rfl⟩ rfl (Nat.le_of_ble_eq_true rfl) dL_law_304) hS (fun q h => Nat.le_trans hB (Nat.le_trans (Nat.le_add_right _ _) h.1)) (fun r2 H2 locs q2 k2 hS => ?_)
  obtain ⟨e2, zM⟩ := q2
  have zM : gMA G (B + 156) (gqLetter π (xs (6 * k + 1)) (xs (6 * k + 2))).2 μ f g H2 := ⟨sA, s7, zM⟩
  obtain ⟨hCN, hLf⟩ := gWC_free h6 ⟨hCN, hLf⟩ k2 (fun q _ a h => absurd a (Nat.not_lt.mpr h.1))
  refine lv_icmp_eq (tgt := 1248) hx hb dL_law_307 (by decide) (fun _ => ?_) (fun c9 => absurd (e1.trans e2.symm) c9)
  exact kk _ _ _ ⟨(gqLetter π (xs (6 * k + 1)) (xs (6 * k + 2))).2, πk, μ, α, f, g, lc, lp, lk, A, acc, acck, ⟨(gInv_letter hI), hIk, hTA, ⟨rn, hrn, hr9⟩, hTs, ⟨tn, htn, hTn⟩, hlc, h6, (gLk_same hk1 gH_letter), hk2, hRL, him⟩, ⟨hCN, hLf⟩, zM⟩ hS hl

set_option maxHeartbeats 4000000 in
set_option maxRecDepth 100000 in
theorem law_tire {p : Program} {l : Launch} {e : Env} {s : State} {m : MethodId} {below : List Frame} {meth : Method} {c : Code} {G : gW} {b0 L : Nat} {xs : Nat → Int32} (hL : L ≤ 3072) (C0 : gLC G p s m meth c b0 L xs) {k B : Nat} (hk6 : 6 * k + 6 ≤ L) (hB : s.heap.size ≤ B) {H : Heap} {locs : List Loc} (hw : gWo G B (B + 156) H) (hS : va_S (fun q => s.heap.size ≤ q) s.heap H locs) {ls : Array Slot} (hl : lv_has ls 4 [(3, .int (nI (6 * k))), (2, .ref (B + 156)), (1, .ref B), (0, .ref b0)]) {Q : State → Prop} (kk : ∀ (H1 : Heap) (locs1 : List Loc) (ls1 : Array Slot), gWo G B (B + 156) H1 → va_S (fun q => s.heap.size ≤ q) s.heap H1 locs1 → lv_has ls1 4 [(3, .int (nI (6 * k))), (2, .ref (B + 156)), (1, .ref B), (0, .ref b0)] → W p l e room_1 s m #[Value.ref b0] below meth c H1 locs1 186 5311 Q (F0 m 1248 ls1 [])) : W p l e room_1 s m #[Value.ref b0] below meth c H locs 186 5311 Q (F0 m 312 ls []) := by
  obtain ⟨hx, hb, hml, hown, hT, hX, hbl, hE2, hG9⟩ := C0
  have hE := hE2.1
  have hK := hE.2.1
  obtain ⟨π, πk, μ, α, f, g, lc, lp, lk, A, acc, acck, ⟨hI, hIk, hTA, ⟨rn, hrn, hr9⟩, hTs, ⟨tn, htn, hTn⟩, hlc, h6, hk1, hk2, hRL, him⟩, ⟨hCN, hLf⟩, zM⟩ := hw
  obtain ⟨⟨f2, h4, hcl⟩, hlp⟩ := gLfs_open h6 hLf hk1
  have hh := gHold_of h6 hk1 hRL
  obtain ⟨⟨n, hn, hz, -⟩, hki, ⟨sn, hsn, hs9, hsp⟩, ⟨pn, hpn, hp9, hpok⟩, ⟨bn, hbn, hb9, hbk⟩, -⟩ := id hI
  refine lv_aload_n hx hb dL_law_312 rfl (lv_at hl 2 rfl) ?_
  refine lv_aload_n hx hb dL_law_313 rfl (lv_at hl 3 rfl) ?_
  refine lv_iload_n hx hb dL_law_314 rfl (lv_at hl 0 rfl) ?_
  refine lv_iconst (v := 1) hx hb dL_law_315 (by decide) ?_
  refine lv_iadd hx hb dL_law_316 ?_
  refine g_sld (j := (6 * k) + 1) hx hb hX hbl hS (gAdd rfl rfl) (by omega) hL dL_law_317 ?_
  refine lv_aload_n hx hb dL_law_318 rfl (lv_at hl 3 rfl) ?_
  refine lv_iload_n hx hb dL_law_319 rfl (lv_at hl 0 rfl) ?_
  refine lv_iconst (v := 2) hx hb dL_law_320 (by decide) ?_
  refine lv_iadd hx hb dL_law_321 ?_
  refine g_sld (j := (6 * k) + 2) hx hb hX hbl hS (gAdd rfl rfl) (by omega) hL dL_law_322 ?_
  refine g_ki (g_runV (T := TX11) (ci := 11) (N := 13) (rest := []) hx hb hml hown hE hT (c_X11_tire l G B lp π πk f2 μ α lk g acc hcl hI hlp  (xs ((6 * k) + 1)) (xs ((6 * k) + 2))) gM_X11_tire gm_L_30 gi_X11_tire gs_RX11_yX11_tire_yX11_tire rfl (gCN_at hCN) (gCW_v.mpr ⟨h4, hCN⟩) rfl hl.1 ⟨rfl, rfl⟩ ⟨Nat.le_of_ble_eq_true rfl, Nat.le_of_ble_eq_true rfl⟩ ⟨Nat.le_of_ble_eq_true rfl, Nat.le_of_ble_eq_true rfl⟩ rfl (Nat.le_of_ble_eq_true rfl) dL_law_323) hS (fun q hq => gAr_up hB hlp hq) (fun r1 H1 locs q1 k1 hS => ?_)
  obtain ⟨e1, hW⟩ := q1
  have hCN := (gCW_v.mp hW).2
  have h4 := (gCW_v.mp hW).1
  have hLf := gLfs_step h6 hLf hk1 h4 hcl k1
  have zM := gMA_free zM k1 (fun q a _ => gAr_no hlp a)
  refine lv_aload_n hx hb dL_law_326 rfl (lv_at hl 1 rfl) ?_
  refine lv_aload_n hx hb dL_law_327 rfl (lv_at hl 3 rfl) ?_
  refine lv_iload_n hx hb dL_law_328 rfl (lv_at hl 0 rfl) ?_
  refine lv_iconst (v := 1) hx hb dL_law_329 (by decide) ?_
  refine lv_iadd hx hb dL_law_330 ?_
  refine g_sld (j := (6 * k) + 1) hx hb hX hbl hS (gAdd rfl rfl) (by omega) hL dL_law_331 ?_
  refine lv_aload_n hx hb dL_law_332 rfl (lv_at hl 3 rfl) ?_
  refine lv_iload_n hx hb dL_law_333 rfl (lv_at hl 0 rfl) ?_
  refine lv_iconst (v := 2) hx hb dL_law_334 (by decide) ?_
  refine lv_iadd hx hb dL_law_335 ?_
  refine g_sld (j := (6 * k) + 2) hx hb hX hbl hS (gAdd rfl rfl) (by omega) hL dL_law_336 ?_
  obtain ⟨fs9, hat⟩ := gMA_at zM
  obtain ⟨sA, s7, zM⟩ := zM
  refine g_ki (g_runV (T := TX12) (ci := 12) (N := 45) (rest := [.int r1]) hx hb hml hown hE hT (c_X12_tire l G (B + 156) π μ (gR (gR f 10 sA) 7 s7) g n hz hn (xs ((6 * k) + 1)) (xs ((6 * k) + 2))) gM_X12_tire gm_L_33 gi_X12_tire gs_RX12_yX12_tire_yX12_tire rfl hat zM rfl hl.1 ⟨rfl, rfl⟩ ⟨Nat.le_of_ble_eq_true rfl, Nat.le_of_ble_eq_true rfl⟩ ⟨Nat.le_of_ble_eq_true rfl, Nat.le_of_ble_eq_true rfl⟩ rfl (Nat.le_of_ble_eq_true rfl) dL_law_337) hS (fun q h => Nat.le_trans hB (Nat.le_trans (Nat.le_add_right _ _) h.1)) (fun r2 H2 locs q2 k2 hS => ?_)
  obtain ⟨e2, zM⟩ := q2
  have zM : gMA G (B + 156) (gqTire π (xs (6 * k + 1)) (xs (6 * k + 2))).2 μ f g H2 := ⟨sA, s7, zM⟩
  obtain ⟨hCN, hLf⟩ := gWC_free h6 ⟨hCN, hLf⟩ k2 (fun q _ a h => absurd a (Nat.not_lt.mpr h.1))
  refine lv_icmp_eq (tgt := 1248) hx hb dL_law_340 (by decide) (fun _ => ?_) (fun c9 => absurd (e1.trans e2.symm) c9)
  exact kk _ _ _ ⟨(gqTire π (xs (6 * k + 1)) (xs (6 * k + 2))).2, πk, μ, α, f, g, lc, lp, lk, A, acc, acck, ⟨(gInv_tire hI), hIk, hTA, ⟨rn, hrn, hr9⟩, hTs, ⟨tn, htn, hTn⟩, hlc, h6, (gLk_same hk1 gH_tire), hk2, hRL, him⟩, ⟨hCN, hLf⟩, zM⟩ hS hl

set_option maxHeartbeats 4000000 in
set_option maxRecDepth 100000 in
theorem law_phrase {p : Program} {l : Launch} {e : Env} {s : State} {m : MethodId} {below : List Frame} {meth : Method} {c : Code} {G : gW} {b0 L : Nat} {xs : Nat → Int32} (hL : L ≤ 3072) (C0 : gLC G p s m meth c b0 L xs) {k B : Nat} (hk6 : 6 * k + 6 ≤ L) (hB : s.heap.size ≤ B) {H : Heap} {locs : List Loc} (hw : gWo G B (B + 156) H) (hS : va_S (fun q => s.heap.size ≤ q) s.heap H locs) {ls : Array Slot} (hl : lv_has ls 4 [(3, .int (nI (6 * k))), (2, .ref (B + 156)), (1, .ref B), (0, .ref b0)]) {Q : State → Prop} (kk : ∀ (H1 : Heap) (locs1 : List Loc) (ls1 : Array Slot), gWo G B (B + 156) H1 → va_S (fun q => s.heap.size ≤ q) s.heap H1 locs1 → lv_has ls1 4 [(3, .int (nI (6 * k))), (2, .ref (B + 156)), (1, .ref B), (0, .ref b0)] → W p l e room_1 s m #[Value.ref b0] below meth c H1 locs1 186 5311 Q (F0 m 1248 ls1 [])) : W p l e room_1 s m #[Value.ref b0] below meth c H locs 186 5311 Q (F0 m 345 ls []) := by
  obtain ⟨hx, hb, hml, hown, hT, hX, hbl, hE2, hG9⟩ := C0
  have hE := hE2.1
  have hK := hE.2.1
  obtain ⟨π, πk, μ, α, f, g, lc, lp, lk, A, acc, acck, ⟨hI, hIk, hTA, ⟨rn, hrn, hr9⟩, hTs, ⟨tn, htn, hTn⟩, hlc, h6, hk1, hk2, hRL, him⟩, ⟨hCN, hLf⟩, zM⟩ := hw
  obtain ⟨⟨f2, h4, hcl⟩, hlp⟩ := gLfs_open h6 hLf hk1
  have hh := gHold_of h6 hk1 hRL
  obtain ⟨⟨n, hn, hz, -⟩, hki, ⟨sn, hsn, hs9, hsp⟩, ⟨pn, hpn, hp9, hpok⟩, ⟨bn, hbn, hb9, hbk⟩, -⟩ := id hI
  refine lv_aload_n hx hb dL_law_345 rfl (lv_at hl 2 rfl) ?_
  refine lv_aload_n hx hb dL_law_346 rfl (lv_at hl 3 rfl) ?_
  refine lv_iload_n hx hb dL_law_347 rfl (lv_at hl 0 rfl) ?_
  refine lv_iconst (v := 1) hx hb dL_law_348 (by decide) ?_
  refine lv_iadd hx hb dL_law_349 ?_
  refine g_sld (j := (6 * k) + 1) hx hb hX hbl hS (gAdd rfl rfl) (by omega) hL dL_law_350 ?_
  refine lv_aload_n hx hb dL_law_351 rfl (lv_at hl 3 rfl) ?_
  refine lv_iload_n hx hb dL_law_352 rfl (lv_at hl 0 rfl) ?_
  refine lv_iconst (v := 2) hx hb dL_law_353 (by decide) ?_
  refine lv_iadd hx hb dL_law_354 ?_
  refine g_sld (j := (6 * k) + 2) hx hb hX hbl hS (gAdd rfl rfl) (by omega) hL dL_law_355 ?_
  refine lv_aload_n hx hb dL_law_356 rfl (lv_at hl 3 rfl) ?_
  refine lv_iload_n hx hb dL_law_357 rfl (lv_at hl 0 rfl) ?_
  refine lv_iconst (v := 3) hx hb dL_law_358 (by decide) ?_
  refine lv_iadd hx hb dL_law_359 ?_
  refine g_sld (j := (6 * k) + 3) hx hb hX hbl hS (gAdd rfl rfl) (by omega) hL dL_law_360 ?_
  refine g_ki (g_runV (T := TX11) (ci := 11) (N := 13) (rest := []) hx hb hml hown hE hT (c_X11_phrase l G B lp π πk f2 μ α lk g acc hcl hI hlp  (xs ((6 * k) + 1)) (xs ((6 * k) + 2)) (xs ((6 * k) + 3))) gM_X11_phrase gm_L_34 gi_X11_phrase gs_RX11_yX11_phrase_yX11_phrase rfl (gCN_at hCN) (gCW_v.mpr ⟨h4, hCN⟩) rfl hl.1 ⟨rfl, rfl⟩ ⟨Nat.le_of_ble_eq_true rfl, Nat.le_of_ble_eq_true rfl⟩ ⟨Nat.le_of_ble_eq_true rfl, Nat.le_of_ble_eq_true rfl⟩ rfl (Nat.le_of_ble_eq_true rfl) dL_law_361) hS (fun q hq => gAr_up hB hlp hq) (fun r1 H1 locs q1 k1 hS => ?_)
  obtain ⟨e1, hW⟩ := q1
  have hCN := (gCW_v.mp hW).2
  have h4 := (gCW_v.mp hW).1
  have hLf := gLfs_step h6 hLf hk1 h4 hcl k1
  have zM := gMA_free zM k1 (fun q a _ => gAr_no hlp a)
  refine lv_aload_n hx hb dL_law_364 rfl (lv_at hl 1 rfl) ?_
  refine lv_aload_n hx hb dL_law_365 rfl (lv_at hl 3 rfl) ?_
  refine lv_iload_n hx hb dL_law_366 rfl (lv_at hl 0 rfl) ?_
  refine lv_iconst (v := 1) hx hb dL_law_367 (by decide) ?_
  refine lv_iadd hx hb dL_law_368 ?_
  refine g_sld (j := (6 * k) + 1) hx hb hX hbl hS (gAdd rfl rfl) (by omega) hL dL_law_369 ?_
  refine lv_aload_n hx hb dL_law_370 rfl (lv_at hl 3 rfl) ?_
  refine lv_iload_n hx hb dL_law_371 rfl (lv_at hl 0 rfl) ?_
  refine lv_iconst (v := 2) hx hb dL_law_372 (by decide) ?_
  refine lv_iadd hx hb dL_law_373 ?_
  refine g_sld (j := (6 * k) + 2) hx hb hX hbl hS (gAdd rfl rfl) (by omega) hL dL_law_374 ?_
  refine lv_aload_n hx hb dL_law_375 rfl (lv_at hl 3 rfl) ?_
  refine lv_iload_n hx hb dL_law_376 rfl (lv_at hl 0 rfl) ?_
  refine lv_iconst (v := 3) hx hb dL_law_377 (by decide) ?_
  refine lv_iadd hx hb dL_law_378 ?_
  refine g_sld (j := (6 * k) + 3) hx hb hX hbl hS (gAdd rfl rfl) (by omega) hL dL_law_379 ?_
  obtain ⟨fs9, hat⟩ := gMA_at zM
  obtain ⟨sA, s7, zM⟩ := zM
  refine g_ki (g_runV (T := TX12) (ci := 12) (N := 45) (rest := [.int r1]) hx hb hml hown hE hT (c_X12_phrase l G (B + 156) π μ (gR (gR f 10 sA) 7 s7) g  (xs ((6 * k) + 1)) (xs ((6 * k) + 2)) (xs ((6 * k) + 3))) gM_X12_phrase gm_L_38 gi_X12_phrase gs_RX12_yX12_phrase_yX12_phrase rfl hat zM rfl hl.1 ⟨rfl, rfl⟩ ⟨Nat.le_of_ble_eq_true rfl, Nat.le_of_ble_eq_true rfl⟩ ⟨Nat.le_of_ble_eq_true rfl, Nat.le_of_ble_eq_true rfl⟩ rfl (Nat.le_of_ble_eq_true rfl) dL_law_380) hS (fun q h => Nat.le_trans hB (Nat.le_trans (Nat.le_add_right _ _) h.1)) (fun r2 H2 locs q2 k2 hS => ?_)
  obtain ⟨e2, zM⟩ := q2
  have zM : gMA G (B + 156) (gqPhrase π (xs (6 * k + 1)) (xs (6 * k + 2)) (xs (6 * k + 3))).2 μ f g H2 := ⟨sA, s7, zM⟩
  obtain ⟨hCN, hLf⟩ := gWC_free h6 ⟨hCN, hLf⟩ k2 (fun q _ a h => absurd a (Nat.not_lt.mpr h.1))
  refine lv_icmp_eq (tgt := 1248) hx hb dL_law_383 (by decide) (fun _ => ?_) (fun c9 => absurd (e1.trans e2.symm) c9)
  exact kk _ _ _ ⟨(gqPhrase π (xs (6 * k + 1)) (xs (6 * k + 2)) (xs (6 * k + 3))).2, πk, μ, α, f, g, lc, lp, lk, A, acc, acck, ⟨(gInv_phrase hI), hIk, hTA, ⟨rn, hrn, hr9⟩, hTs, ⟨tn, htn, hTn⟩, hlc, h6, (gLk_same hk1 gH_phrase), hk2, hRL, him⟩, ⟨hCN, hLf⟩, zM⟩ hS hl

set_option maxHeartbeats 4000000 in
set_option maxRecDepth 100000 in
theorem law_row {p : Program} {l : Launch} {e : Env} {s : State} {m : MethodId} {below : List Frame} {meth : Method} {c : Code} {G : gW} {b0 L : Nat} {xs : Nat → Int32} (hL : L ≤ 3072) (C0 : gLC G p s m meth c b0 L xs) {k B : Nat} (hk6 : 6 * k + 6 ≤ L) (hB : s.heap.size ≤ B) {H : Heap} {locs : List Loc} (hw : gWo G B (B + 156) H) (hS : va_S (fun q => s.heap.size ≤ q) s.heap H locs) {ls : Array Slot} (hl : lv_has ls 4 [(3, .int (nI (6 * k))), (2, .ref (B + 156)), (1, .ref B), (0, .ref b0)]) {Q : State → Prop} (kk : ∀ (H1 : Heap) (locs1 : List Loc) (ls1 : Array Slot), gWo G B (B + 156) H1 → va_S (fun q => s.heap.size ≤ q) s.heap H1 locs1 → lv_has ls1 4 [(3, .int (nI (6 * k))), (2, .ref (B + 156)), (1, .ref B), (0, .ref b0)] → W p l e room_1 s m #[Value.ref b0] below meth c H1 locs1 186 5311 Q (F0 m 1248 ls1 [])) : W p l e room_1 s m #[Value.ref b0] below meth c H locs 186 5311 Q (F0 m 388 ls []) := by
  obtain ⟨hx, hb, hml, hown, hT, hX, hbl, hE2, hG9⟩ := C0
  have hE := hE2.1
  have hK := hE.2.1
  obtain ⟨π, πk, μ, α, f, g, lc, lp, lk, A, acc, acck, ⟨hI, hIk, hTA, ⟨rn, hrn, hr9⟩, hTs, ⟨tn, htn, hTn⟩, hlc, h6, hk1, hk2, hRL, him⟩, ⟨hCN, hLf⟩, zM⟩ := hw
  obtain ⟨⟨f2, h4, hcl⟩, hlp⟩ := gLfs_open h6 hLf hk1
  have hh := gHold_of h6 hk1 hRL
  obtain ⟨⟨n, hn, hz, -⟩, hki, ⟨sn, hsn, hs9, hsp⟩, ⟨pn, hpn, hp9, hpok⟩, ⟨bn, hbn, hb9, hbk⟩, -⟩ := id hI
  refine lv_aload_n hx hb dL_law_388 rfl (lv_at hl 2 rfl) ?_
  refine lv_aload_n hx hb dL_law_389 rfl (lv_at hl 3 rfl) ?_
  refine lv_iload_n hx hb dL_law_390 rfl (lv_at hl 0 rfl) ?_
  refine lv_iconst (v := 1) hx hb dL_law_391 (by decide) ?_
  refine lv_iadd hx hb dL_law_392 ?_
  refine g_sld (j := (6 * k) + 1) hx hb hX hbl hS (gAdd rfl rfl) (by omega) hL dL_law_393 ?_
  refine lv_aload_n hx hb dL_law_394 rfl (lv_at hl 3 rfl) ?_
  refine lv_iload_n hx hb dL_law_395 rfl (lv_at hl 0 rfl) ?_
  refine lv_iconst (v := 2) hx hb dL_law_396 (by decide) ?_
  refine lv_iadd hx hb dL_law_397 ?_
  refine g_sld (j := (6 * k) + 2) hx hb hX hbl hS (gAdd rfl rfl) (by omega) hL dL_law_398 ?_
  refine lv_aload_n hx hb dL_law_399 rfl (lv_at hl 3 rfl) ?_
  refine lv_iload_n hx hb dL_law_400 rfl (lv_at hl 0 rfl) ?_
  refine lv_iconst (v := 3) hx hb dL_law_401 (by decide) ?_
  refine lv_iadd hx hb dL_law_402 ?_
  refine g_sld (j := (6 * k) + 3) hx hb hX hbl hS (gAdd rfl rfl) (by omega) hL dL_law_403 ?_
  refine g_ki (g_runV (T := TX11) (ci := 11) (N := 13) (rest := []) hx hb hml hown hE hT (c_X11_row l G B lp π πk f2 μ α lk g acc hcl hI hlp  (xs ((6 * k) + 1)) (xs ((6 * k) + 2)) (xs ((6 * k) + 3))) gM_X11_row gm_L_39 gi_X11_row gs_RX11_yX11_row_yX11_row rfl (gCN_at hCN) (gCW_v.mpr ⟨h4, hCN⟩) rfl hl.1 ⟨rfl, rfl⟩ ⟨Nat.le_of_ble_eq_true rfl, Nat.le_of_ble_eq_true rfl⟩ ⟨Nat.le_of_ble_eq_true rfl, Nat.le_of_ble_eq_true rfl⟩ rfl (Nat.le_of_ble_eq_true rfl) dL_law_404) hS (fun q hq => gAr_up hB hlp hq) (fun r1 H1 locs q1 k1 hS => ?_)
  obtain ⟨e1, hW⟩ := q1
  have hCN := (gCW_v.mp hW).2
  have h4 := (gCW_v.mp hW).1
  have hLf := gLfs_step h6 hLf hk1 h4 hcl k1
  have zM := gMA_free zM k1 (fun q a _ => gAr_no hlp a)
  refine lv_aload_n hx hb dL_law_407 rfl (lv_at hl 1 rfl) ?_
  refine lv_aload_n hx hb dL_law_408 rfl (lv_at hl 3 rfl) ?_
  refine lv_iload_n hx hb dL_law_409 rfl (lv_at hl 0 rfl) ?_
  refine lv_iconst (v := 1) hx hb dL_law_410 (by decide) ?_
  refine lv_iadd hx hb dL_law_411 ?_
  refine g_sld (j := (6 * k) + 1) hx hb hX hbl hS (gAdd rfl rfl) (by omega) hL dL_law_412 ?_
  refine lv_aload_n hx hb dL_law_413 rfl (lv_at hl 3 rfl) ?_
  refine lv_iload_n hx hb dL_law_414 rfl (lv_at hl 0 rfl) ?_
  refine lv_iconst (v := 2) hx hb dL_law_415 (by decide) ?_
  refine lv_iadd hx hb dL_law_416 ?_
  refine g_sld (j := (6 * k) + 2) hx hb hX hbl hS (gAdd rfl rfl) (by omega) hL dL_law_417 ?_
  refine lv_aload_n hx hb dL_law_418 rfl (lv_at hl 3 rfl) ?_
  refine lv_iload_n hx hb dL_law_419 rfl (lv_at hl 0 rfl) ?_
  refine lv_iconst (v := 3) hx hb dL_law_420 (by decide) ?_
  refine lv_iadd hx hb dL_law_421 ?_
  refine g_sld (j := (6 * k) + 3) hx hb hX hbl hS (gAdd rfl rfl) (by omega) hL dL_law_422 ?_
  obtain ⟨fs9, hat⟩ := gMA_at zM
  obtain ⟨sA, s7, zM⟩ := zM
  refine g_ki (g_runV (T := TX12) (ci := 12) (N := 45) (rest := [.int r1]) hx hb hml hown hE hT (c_X12_row l G (B + 156) π μ (gR (gR f 10 sA) 7 s7) g n hz hn (xs ((6 * k) + 1)) (xs ((6 * k) + 2)) (xs ((6 * k) + 3))) gM_X12_row gm_L_42 gi_X12_row gs_RX12_yX12_row_yX12_row rfl hat zM rfl hl.1 ⟨rfl, rfl⟩ ⟨Nat.le_of_ble_eq_true rfl, Nat.le_of_ble_eq_true rfl⟩ ⟨Nat.le_of_ble_eq_true rfl, Nat.le_of_ble_eq_true rfl⟩ rfl (Nat.le_of_ble_eq_true rfl) dL_law_423) hS (fun q h => Nat.le_trans hB (Nat.le_trans (Nat.le_add_right _ _) h.1)) (fun r2 H2 locs q2 k2 hS => ?_)
  obtain ⟨e2, zM⟩ := q2
  have zM : gMA G (B + 156) (gqRow π (xs (6 * k + 1)) (xs (6 * k + 2)) (xs (6 * k + 3))).2 μ f g H2 := ⟨sA, s7, zM⟩
  obtain ⟨hCN, hLf⟩ := gWC_free h6 ⟨hCN, hLf⟩ k2 (fun q _ a h => absurd a (Nat.not_lt.mpr h.1))
  refine lv_icmp_eq (tgt := 1248) hx hb dL_law_426 (by decide) (fun _ => ?_) (fun c9 => absurd (e1.trans e2.symm) c9)
  exact kk _ _ _ ⟨(gqRow π (xs (6 * k + 1)) (xs (6 * k + 2)) (xs (6 * k + 3))).2, πk, μ, α, f, g, lc, lp, lk, A, acc, acck, ⟨(gInv_row hI), hIk, hTA, ⟨rn, hrn, hr9⟩, hTs, ⟨tn, htn, hTn⟩, hlc, h6, (gLk_same hk1 gH_row), hk2, hRL, him⟩, ⟨hCN, hLf⟩, zM⟩ hS hl

set_option maxHeartbeats 4000000 in
set_option maxRecDepth 100000 in
theorem law_feed {p : Program} {l : Launch} {e : Env} {s : State} {m : MethodId} {below : List Frame} {meth : Method} {c : Code} {G : gW} {b0 L : Nat} {xs : Nat → Int32} (hL : L ≤ 3072) (C0 : gLC G p s m meth c b0 L xs) {k B : Nat} (hk6 : 6 * k + 6 ≤ L) (hB : s.heap.size ≤ B) {H : Heap} {locs : List Loc} (hw : gWo G B (B + 156) H) (hS : va_S (fun q => s.heap.size ≤ q) s.heap H locs) {ls : Array Slot} (hl : lv_has ls 4 [(3, .int (nI (6 * k))), (2, .ref (B + 156)), (1, .ref B), (0, .ref b0)]) {Q : State → Prop} (kk : ∀ (H1 : Heap) (locs1 : List Loc) (ls1 : Array Slot), gWo G B (B + 156) H1 → va_S (fun q => s.heap.size ≤ q) s.heap H1 locs1 → lv_has ls1 4 [(3, .int (nI (6 * k))), (2, .ref (B + 156)), (1, .ref B), (0, .ref b0)] → W p l e room_1 s m #[Value.ref b0] below meth c H1 locs1 186 5311 Q (F0 m 1248 ls1 [])) : W p l e room_1 s m #[Value.ref b0] below meth c H locs 186 5311 Q (F0 m 431 ls []) := by
  obtain ⟨hx, hb, hml, hown, hT, hX, hbl, hE2, hG9⟩ := C0
  have hE := hE2.1
  have hK := hE.2.1
  obtain ⟨π, πk, μ, α, f, g, lc, lp, lk, A, acc, acck, ⟨hI, hIk, hTA, ⟨rn, hrn, hr9⟩, hTs, ⟨tn, htn, hTn⟩, hlc, h6, hk1, hk2, hRL, him⟩, ⟨hCN, hLf⟩, zM⟩ := hw
  obtain ⟨⟨f2, h4, hcl⟩, hlp⟩ := gLfs_open h6 hLf hk1
  have hh := gHold_of h6 hk1 hRL
  obtain ⟨⟨n, hn, hz, -⟩, hki, ⟨sn, hsn, hs9, hsp⟩, ⟨pn, hpn, hp9, hpok⟩, ⟨bn, hbn, hb9, hbk⟩, -⟩ := id hI
  refine lv_aload_n hx hb dL_law_431 rfl (lv_at hl 2 rfl) ?_
  refine lv_aload_n hx hb dL_law_432 rfl (lv_at hl 3 rfl) ?_
  refine lv_iload_n hx hb dL_law_433 rfl (lv_at hl 0 rfl) ?_
  refine lv_iconst (v := 1) hx hb dL_law_434 (by decide) ?_
  refine lv_iadd hx hb dL_law_435 ?_
  refine g_sld (j := (6 * k) + 1) hx hb hX hbl hS (gAdd rfl rfl) (by omega) hL dL_law_436 ?_
  refine g_ki (g_runV (T := TX11) (ci := 11) (N := 13) (rest := []) hx hb hml hown hE hT (c_X11_feed l G B lp π πk f2 μ α lk g acc hcl hI hlp tn htn hTn.1 (xs ((6 * k) + 1))) gM_X11_feed gm_L_43 gi_X11_feed gs_RX11_yX11_feed_yX11_feed rfl (gCN_at hCN) (gCW_v.mpr ⟨h4, hCN⟩) rfl hl.1 ⟨rfl, rfl⟩ ⟨Nat.le_of_ble_eq_true rfl, Nat.le_of_ble_eq_true rfl⟩ ⟨Nat.le_of_ble_eq_true rfl, Nat.le_of_ble_eq_true rfl⟩ rfl (Nat.le_of_ble_eq_true rfl) dL_law_437) hS (fun q hq => gAr_up hB hlp hq) (fun r1 H1 locs q1 k1 hS => ?_)
  obtain ⟨e1, hW⟩ := q1
  have hCN := (gCW_v.mp hW).2
  have h4 := (gCW_v.mp hW).1
  have hLf := gLfs_step h6 hLf hk1 h4 hcl k1
  have zM := gMA_free zM k1 (fun q a _ => gAr_no hlp a)
  refine lv_aload_n hx hb dL_law_440 rfl (lv_at hl 1 rfl) ?_
  refine lv_aload_n hx hb dL_law_441 rfl (lv_at hl 3 rfl) ?_
  refine lv_iload_n hx hb dL_law_442 rfl (lv_at hl 0 rfl) ?_
  refine lv_iconst (v := 1) hx hb dL_law_443 (by decide) ?_
  refine lv_iadd hx hb dL_law_444 ?_
  refine g_sld (j := (6 * k) + 1) hx hb hX hbl hS (gAdd rfl rfl) (by omega) hL dL_law_445 ?_
  obtain ⟨fs9, hat⟩ := gMA_at zM
  obtain ⟨sA, s7, zM⟩ := zM
  refine g_ki (g_runV (T := TX12) (ci := 12) (N := 45) (rest := [.int r1]) hx hb hml hown hE hT (c_X12_feed l G (B + 156) π μ (gR (gR f 10 sA) 7 s7) g tn htn hTn.1 (xs ((6 * k) + 1))) gM_X12_feed gm_L_47 gi_X12_feed gs_RX12_yX12_feed_yX12_feed rfl hat zM rfl hl.1 ⟨rfl, rfl⟩ ⟨Nat.le_of_ble_eq_true rfl, Nat.le_of_ble_eq_true rfl⟩ ⟨Nat.le_of_ble_eq_true rfl, Nat.le_of_ble_eq_true rfl⟩ rfl (Nat.le_of_ble_eq_true rfl) dL_law_446) hS (fun q h => Nat.le_trans hB (Nat.le_trans (Nat.le_add_right _ _) h.1)) (fun r2 H2 locs q2 k2 hS => ?_)
  obtain ⟨e2, zM⟩ := q2
  have zM : gMA G (B + 156) π (gqFeed μ (xs (6 * k + 1))).2 f g H2 := ⟨sA, s7, zM⟩
  obtain ⟨hCN, hLf⟩ := gWC_free h6 ⟨hCN, hLf⟩ k2 (fun q _ a h => absurd a (Nat.not_lt.mpr h.1))
  refine lv_icmp_eq (tgt := 1248) hx hb dL_law_449 (by decide) (fun _ => ?_) (fun c9 => absurd (e1.trans e2.symm) c9)
  exact kk _ _ _ ⟨π, πk, (gqFeed μ (xs (6 * k + 1))).2, α, f, g, lc, lp, lk, A, acc, acck, ⟨hI, hIk, ⟨hTA.1.trans (gFeed_r (by decide) (by decide)).symm, hTA.2.trans (gFeed_4 (by decide)).symm⟩, ⟨rn, hrn, (gFeed_4 (by decide)).trans hr9⟩, (gTpe_same (gFeed_r (by decide) (by decide)) (gFeed_r (by decide) (by decide)) hTs), (gTxt_feed ⟨tn, htn, hTn⟩), ((gFeed_4 (by decide)).trans hlc), h6, hk1, hk2, hRL, (fun h9 => him (fun z9 => h9 ((gFeed_4 (by decide)).trans z9)))⟩, ⟨hCN, hLf⟩, zM⟩ hS hl

set_option maxHeartbeats 4000000 in
set_option maxRecDepth 100000 in
theorem law_told {p : Program} {l : Launch} {e : Env} {s : State} {m : MethodId} {below : List Frame} {meth : Method} {c : Code} {G : gW} {b0 L : Nat} {xs : Nat → Int32} (hL : L ≤ 3072) (C0 : gLC G p s m meth c b0 L xs) {k B : Nat} (hk6 : 6 * k + 6 ≤ L) (hB : s.heap.size ≤ B) {H : Heap} {locs : List Loc} (hw : gWo G B (B + 156) H) (hS : va_S (fun q => s.heap.size ≤ q) s.heap H locs) {ls : Array Slot} (hl : lv_has ls 4 [(3, .int (nI (6 * k))), (2, .ref (B + 156)), (1, .ref B), (0, .ref b0)]) {Q : State → Prop} (kk : ∀ (H1 : Heap) (locs1 : List Loc) (ls1 : Array Slot), gWo G B (B + 156) H1 → va_S (fun q => s.heap.size ≤ q) s.heap H1 locs1 → lv_has ls1 4 [(3, .int (nI (6 * k))), (2, .ref (B + 156)), (1, .ref B), (0, .ref b0)] → W p l e room_1 s m #[Value.ref b0] below meth c H1 locs1 186 5311 Q (F0 m 1248 ls1 [])) : W p l e room_1 s m #[Value.ref b0] below meth c H locs 186 5311 Q (F0 m 467 ls []) := by
  obtain ⟨hx, hb, hml, hown, hT, hX, hbl, hE2, hG9⟩ := C0
  have hE := hE2.1
  have hK := hE.2.1
  obtain ⟨π, πk, μ, α, f, g, lc, lp, lk, A, acc, acck, ⟨hI, hIk, hTA, ⟨rn, hrn, hr9⟩, hTs, ⟨tn, htn, hTn⟩, hlc, h6, hk1, hk2, hRL, him⟩, ⟨hCN, hLf⟩, zM⟩ := hw
  obtain ⟨⟨f2, h4, hcl⟩, hlp⟩ := gLfs_open h6 hLf hk1
  have hh := gHold_of h6 hk1 hRL
  obtain ⟨⟨n, hn, hz, -⟩, hki, ⟨sn, hsn, hs9, hsp⟩, ⟨pn, hpn, hp9, hpok⟩, ⟨bn, hbn, hb9, hbk⟩, -⟩ := id hI
  refine lv_aload_n hx hb dL_law_467 rfl (lv_at hl 2 rfl) ?_
  refine lv_aload_n hx hb dL_law_468 rfl (lv_at hl 3 rfl) ?_
  refine lv_iload_n hx hb dL_law_469 rfl (lv_at hl 0 rfl) ?_
  refine lv_iconst (v := 1) hx hb dL_law_470 (by decide) ?_
  refine lv_iadd hx hb dL_law_471 ?_
  refine g_sld (j := (6 * k) + 1) hx hb hX hbl hS (gAdd rfl rfl) (by omega) hL dL_law_472 ?_
  refine g_ki (g_runV (T := TX11) (ci := 11) (N := 13) (rest := []) hx hb hml hown hE hT (c_X11_told l G B lp π πk f2 μ α lk g acc hcl hI hlp n hz hn sn hs9 hsn (xs ((6 * k) + 1))) gM_X11_told gm_L_53 gi_X11_told gs_RX11_yX11_told_yX11_told rfl (gCN_at hCN) (gCW_v.mpr ⟨h4, hCN⟩) rfl hl.1 ⟨rfl, rfl⟩ ⟨Nat.le_of_ble_eq_true rfl, Nat.le_of_ble_eq_true rfl⟩ ⟨Nat.le_of_ble_eq_true rfl, Nat.le_of_ble_eq_true rfl⟩ rfl (Nat.le_of_ble_eq_true rfl) dL_law_473) hS (fun q hq => gAr_up hB hlp hq) (fun r1 H1 locs q1 k1 hS => ?_)
  obtain ⟨e1, hW⟩ := q1
  have hCN := (gCW_v.mp hW).2
  have h4 := (gCW_v.mp hW).1
  have hLf := gLfs_step h6 hLf hk1 h4 hcl k1
  have zM := gMA_free zM k1 (fun q a _ => gAr_no hlp a)
  refine lv_aload_n hx hb dL_law_476 rfl (lv_at hl 1 rfl) ?_
  refine lv_aload_n hx hb dL_law_477 rfl (lv_at hl 3 rfl) ?_
  refine lv_iload_n hx hb dL_law_478 rfl (lv_at hl 0 rfl) ?_
  refine lv_iconst (v := 1) hx hb dL_law_479 (by decide) ?_
  refine lv_iadd hx hb dL_law_480 ?_
  refine g_sld (j := (6 * k) + 1) hx hb hX hbl hS (gAdd rfl rfl) (by omega) hL dL_law_481 ?_
  obtain ⟨fs9, hat⟩ := gMA_at zM
  refine g_ki (g_runV (T := TX12) (ci := 12) (N := 45) (rest := [.int r1]) hx hb hml hown hE hT (c_X12_told l G (B + 156) π μ f g n hz hn sn hs9 hsn (fun k hk => (hsp k hk).1) (gLof acc) hh (xs ((6 * k) + 1))) gM_X12_told gm_L_56 gi_X12_told gs_RX12_yX12_told_yX12_told rfl hat zM rfl hl.1 ⟨rfl, rfl⟩ ⟨Nat.le_of_ble_eq_true rfl, Nat.le_of_ble_eq_true rfl⟩ ⟨Nat.le_of_ble_eq_true rfl, Nat.le_of_ble_eq_true rfl⟩ rfl (Nat.le_of_ble_eq_true rfl) dL_law_482) hS (fun q h => Nat.le_trans hB (Nat.le_trans (Nat.le_add_right _ _) h.1)) (fun r2 H2 locs q2 k2 hS => ?_)
  obtain ⟨e2, zM⟩ := q2
  have zM : gMA G (B + 156) π μ f g H2 := zM
  obtain ⟨hCN, hLf⟩ := gWC_free h6 ⟨hCN, hLf⟩ k2 (fun q _ a h => absurd a (Nat.not_lt.mpr h.1))
  refine lv_icmp_eq (tgt := 1248) hx hb dL_law_485 (by decide) (fun _ => ?_) (fun c9 => absurd (e1.trans e2.symm) c9)
  exact kk _ _ _ ⟨π, πk, μ, α, f, g, lc, lp, lk, A, acc, acck, ⟨hI, hIk, hTA, ⟨rn, hrn, hr9⟩, hTs, ⟨tn, htn, hTn⟩, hlc, h6, hk1, hk2, hRL, him⟩, ⟨hCN, hLf⟩, zM⟩ hS hl

set_option maxHeartbeats 4000000 in
set_option maxRecDepth 100000 in
theorem law_pass {p : Program} {l : Launch} {e : Env} {s : State} {m : MethodId} {below : List Frame} {meth : Method} {c : Code} {G : gW} {b0 L : Nat} {xs : Nat → Int32} (hL : L ≤ 3072) (C0 : gLC G p s m meth c b0 L xs) {k B : Nat} (hk6 : 6 * k + 6 ≤ L) (hB : s.heap.size ≤ B) {H : Heap} {locs : List Loc} (hw : gWo G B (B + 156) H) (hS : va_S (fun q => s.heap.size ≤ q) s.heap H locs) {ls : Array Slot} (hl : lv_has ls 4 [(3, .int (nI (6 * k))), (2, .ref (B + 156)), (1, .ref B), (0, .ref b0)]) {Q : State → Prop} (kk : ∀ (H1 : Heap) (locs1 : List Loc) (ls1 : Array Slot), gWo G B (B + 156) H1 → va_S (fun q => s.heap.size ≤ q) s.heap H1 locs1 → lv_has ls1 4 [(3, .int (nI (6 * k))), (2, .ref (B + 156)), (1, .ref B), (0, .ref b0)] → W p l e room_1 s m #[Value.ref b0] below meth c H1 locs1 186 5311 Q (F0 m 1248 ls1 [])) : W p l e room_1 s m #[Value.ref b0] below meth c H locs 186 5311 Q (F0 m 490 ls []) := by
  obtain ⟨hx, hb, hml, hown, hT, hX, hbl, hE2, hG9⟩ := C0
  have hE := hE2.1
  have hK := hE.2.1
  obtain ⟨π, πk, μ, α, f, g, lc, lp, lk, A, acc, acck, ⟨hI, hIk, hTA, ⟨rn, hrn, hr9⟩, hTs, ⟨tn, htn, hTn⟩, hlc, h6, hk1, hk2, hRL, him⟩, ⟨hCN, hLf⟩, zM⟩ := hw
  obtain ⟨⟨f2, h4, hcl⟩, hlp⟩ := gLfs_open h6 hLf hk1
  have hh := gHold_of h6 hk1 hRL
  obtain ⟨⟨n, hn, hz, -⟩, hki, ⟨sn, hsn, hs9, hsp⟩, ⟨pn, hpn, hp9, hpok⟩, ⟨bn, hbn, hb9, hbk⟩, -⟩ := id hI
  refine lv_aload_n hx hb dL_law_490 rfl (lv_at hl 2 rfl) ?_
  refine lv_aload_n hx hb dL_law_491 rfl (lv_at hl 3 rfl) ?_
  refine lv_iload_n hx hb dL_law_492 rfl (lv_at hl 0 rfl) ?_
  refine lv_iconst (v := 1) hx hb dL_law_493 (by decide) ?_
  refine lv_iadd hx hb dL_law_494 ?_
  refine g_sld (j := (6 * k) + 1) hx hb hX hbl hS (gAdd rfl rfl) (by omega) hL dL_law_495 ?_
  refine g_ki (g_runV (T := TX11) (ci := 11) (N := 13) (rest := []) hx hb hml hown hE hT (c_X11_pass l G B lp π πk f2 μ α lk g acc hcl hI hlp n hz hn (xs ((6 * k) + 1))) gM_X11_pass gm_L_57 gi_X11_pass gs_RX11_yX11_pass_yX11_pass rfl (gCN_at hCN) (gCW_v.mpr ⟨h4, hCN⟩) rfl hl.1 ⟨rfl, rfl⟩ ⟨Nat.le_of_ble_eq_true rfl, Nat.le_of_ble_eq_true rfl⟩ ⟨Nat.le_of_ble_eq_true rfl, Nat.le_of_ble_eq_true rfl⟩ rfl (Nat.le_of_ble_eq_true rfl) dL_law_496) hS (fun q hq => gAr_up hB hlp hq) (fun r1 H1 locs q1 k1 hS => ?_)
  obtain ⟨e1, hW⟩ := q1
  have hCN := (gCW_v.mp hW).2
  have h4 := (gCW_v.mp hW).1
  have hLf := gLfs_step h6 hLf hk1 h4 hcl k1
  have zM := gMA_free zM k1 (fun q a _ => gAr_no hlp a)
  refine lv_aload_n hx hb dL_law_499 rfl (lv_at hl 1 rfl) ?_
  refine lv_aload_n hx hb dL_law_500 rfl (lv_at hl 3 rfl) ?_
  refine lv_iload_n hx hb dL_law_501 rfl (lv_at hl 0 rfl) ?_
  refine lv_iconst (v := 1) hx hb dL_law_502 (by decide) ?_
  refine lv_iadd hx hb dL_law_503 ?_
  refine g_sld (j := (6 * k) + 1) hx hb hX hbl hS (gAdd rfl rfl) (by omega) hL dL_law_504 ?_
  obtain ⟨fs9, hat⟩ := gMA_at zM
  obtain ⟨sA, zM⟩ := zM
  refine g_ki (g_runV (T := TX12) (ci := 12) (N := 45) (rest := [.int r1]) hx hb hml hown hE hT (c_X12_pass l G (B + 156) π μ (gR f 10 sA) g n hz hn (gLof acc) (gHold_10 hh) (xs ((6 * k) + 1))) gM_X12_pass gm_L_60 gi_X12_pass gs_RX12_yX12_pass_yX12_pass rfl hat zM rfl hl.1 ⟨rfl, rfl⟩ ⟨Nat.le_of_ble_eq_true rfl, Nat.le_of_ble_eq_true rfl⟩ ⟨Nat.le_of_ble_eq_true rfl, Nat.le_of_ble_eq_true rfl⟩ rfl (Nat.le_of_ble_eq_true rfl) dL_law_505) hS (fun q h => Nat.le_trans hB (Nat.le_trans (Nat.le_add_right _ _) h.1)) (fun r2 H2 locs q2 k2 hS => ?_)
  obtain ⟨e2, zM⟩ := q2
  have zM : gMA G (B + 156) (gqPass π (gLof acc) n (xs (6 * k + 1))).2 μ f g H2 := ⟨sA, zM⟩
  obtain ⟨hCN, hLf⟩ := gWC_free h6 ⟨hCN, hLf⟩ k2 (fun q _ a h => absurd a (Nat.not_lt.mpr h.1))
  refine lv_icmp_eq (tgt := 1248) hx hb dL_law_508 (by decide) (fun _ => ?_) (fun c9 => absurd (e1.trans e2.symm) c9)
  exact kk _ _ _ ⟨(gqPass π (gLof acc) n (xs (6 * k + 1))).2, πk, μ, α, f, g, lc, lp, lk, A, acc, acck, ⟨(gInv_pass hn hz hI), hIk, hTA, ⟨rn, hrn, hr9⟩, hTs, ⟨tn, htn, hTn⟩, hlc, h6, (gLk_same hk1 gH_pass), hk2, hRL, him⟩, ⟨hCN, hLf⟩, zM⟩ hS hl

set_option maxHeartbeats 4000000 in
set_option maxRecDepth 100000 in
theorem law_on {p : Program} {l : Launch} {e : Env} {s : State} {m : MethodId} {below : List Frame} {meth : Method} {c : Code} {G : gW} {b0 L : Nat} {xs : Nat → Int32} (hL : L ≤ 3072) (C0 : gLC G p s m meth c b0 L xs) {k B : Nat} (hk6 : 6 * k + 6 ≤ L) (hB : s.heap.size ≤ B) {H : Heap} {locs : List Loc} (hw : gWo G B (B + 156) H) (hS : va_S (fun q => s.heap.size ≤ q) s.heap H locs) {ls : Array Slot} (hl : lv_has ls 4 [(3, .int (nI (6 * k))), (2, .ref (B + 156)), (1, .ref B), (0, .ref b0)]) {Q : State → Prop} (kk : ∀ (H1 : Heap) (locs1 : List Loc) (ls1 : Array Slot), gWo G B (B + 156) H1 → va_S (fun q => s.heap.size ≤ q) s.heap H1 locs1 → lv_has ls1 4 [(3, .int (nI (6 * k))), (2, .ref (B + 156)), (1, .ref B), (0, .ref b0)] → W p l e room_1 s m #[Value.ref b0] below meth c H1 locs1 186 5311 Q (F0 m 1248 ls1 [])) : W p l e room_1 s m #[Value.ref b0] below meth c H locs 186 5311 Q (F0 m 513 ls []) := by
  obtain ⟨hx, hb, hml, hown, hT, hX, hbl, hE2, hG9⟩ := C0
  have hE := hE2.1
  have hK := hE.2.1
  obtain ⟨π, πk, μ, α, f, g, lc, lp, lk, A, acc, acck, ⟨hI, hIk, hTA, ⟨rn, hrn, hr9⟩, hTs, ⟨tn, htn, hTn⟩, hlc, h6, hk1, hk2, hRL, him⟩, ⟨hCN, hLf⟩, zM⟩ := hw
  obtain ⟨⟨f2, h4, hcl⟩, hlp⟩ := gLfs_open h6 hLf hk1
  have hh := gHold_of h6 hk1 hRL
  obtain ⟨⟨n, hn, hz, -⟩, hki, ⟨sn, hsn, hs9, hsp⟩, ⟨pn, hpn, hp9, hpok⟩, ⟨bn, hbn, hb9, hbk⟩, -⟩ := id hI
  refine lv_aload_n hx hb dL_law_513 rfl (lv_at hl 2 rfl) ?_
  refine lv_aload_n hx hb dL_law_514 rfl (lv_at hl 3 rfl) ?_
  refine lv_iload_n hx hb dL_law_515 rfl (lv_at hl 0 rfl) ?_
  refine lv_iconst (v := 1) hx hb dL_law_516 (by decide) ?_
  refine lv_iadd hx hb dL_law_517 ?_
  refine g_sld (j := (6 * k) + 1) hx hb hX hbl hS (gAdd rfl rfl) (by omega) hL dL_law_518 ?_
  refine lv_aload_n hx hb dL_law_519 rfl (lv_at hl 3 rfl) ?_
  refine lv_iload_n hx hb dL_law_520 rfl (lv_at hl 0 rfl) ?_
  refine lv_iconst (v := 2) hx hb dL_law_521 (by decide) ?_
  refine lv_iadd hx hb dL_law_522 ?_
  refine g_sld (j := (6 * k) + 2) hx hb hX hbl hS (gAdd rfl rfl) (by omega) hL dL_law_523 ?_
  refine g_ki (g_runV (T := TX11) (ci := 11) (N := 13) (rest := []) hx hb hml hown hE hT (c_X11_on l G B lp π πk f2 μ α lk g acc hcl hI hlp n hz hn (xs ((6 * k) + 1)) (xs ((6 * k) + 2))) gM_X11_on gm_L_61 gi_X11_on gs_RX11_yX11_on_yX11_on rfl (gCN_at hCN) (gCW_v.mpr ⟨h4, hCN⟩) rfl hl.1 ⟨rfl, rfl⟩ ⟨Nat.le_of_ble_eq_true rfl, Nat.le_of_ble_eq_true rfl⟩ ⟨Nat.le_of_ble_eq_true rfl, Nat.le_of_ble_eq_true rfl⟩ rfl (Nat.le_of_ble_eq_true rfl) dL_law_524) hS (fun q hq => gAr_up hB hlp hq) (fun r1 H1 locs q1 k1 hS => ?_)
  obtain ⟨e1, hW⟩ := q1
  have hCN := (gCW_v.mp hW).2
  have h4 := (gCW_v.mp hW).1
  have hLf := gLfs_step h6 hLf hk1 h4 hcl k1
  have zM := gMA_free zM k1 (fun q a _ => gAr_no hlp a)
  refine lv_aload_n hx hb dL_law_527 rfl (lv_at hl 1 rfl) ?_
  refine lv_aload_n hx hb dL_law_528 rfl (lv_at hl 3 rfl) ?_
  refine lv_iload_n hx hb dL_law_529 rfl (lv_at hl 0 rfl) ?_
  refine lv_iconst (v := 1) hx hb dL_law_530 (by decide) ?_
  refine lv_iadd hx hb dL_law_531 ?_
  refine g_sld (j := (6 * k) + 1) hx hb hX hbl hS (gAdd rfl rfl) (by omega) hL dL_law_532 ?_
  refine lv_aload_n hx hb dL_law_533 rfl (lv_at hl 3 rfl) ?_
  refine lv_iload_n hx hb dL_law_534 rfl (lv_at hl 0 rfl) ?_
  refine lv_iconst (v := 2) hx hb dL_law_535 (by decide) ?_
  refine lv_iadd hx hb dL_law_536 ?_
  refine g_sld (j := (6 * k) + 2) hx hb hX hbl hS (gAdd rfl rfl) (by omega) hL dL_law_537 ?_
  obtain ⟨fs9, hat⟩ := gMA_at zM
  refine g_ki (g_runV (T := TX12) (ci := 12) (N := 45) (rest := [.int r1]) hx hb hml hown hE hT (c_X12_on l G (B + 156) π μ f g n hz hn (gLof acc) hh (xs ((6 * k) + 1)) (xs ((6 * k) + 2))) gM_X12_on gm_L_64 gi_X12_on gs_RX12_yX12_on_yX12_on rfl hat zM rfl hl.1 ⟨rfl, rfl⟩ ⟨Nat.le_of_ble_eq_true rfl, Nat.le_of_ble_eq_true rfl⟩ ⟨Nat.le_of_ble_eq_true rfl, Nat.le_of_ble_eq_true rfl⟩ rfl (Nat.le_of_ble_eq_true rfl) dL_law_538) hS (fun q h => Nat.le_trans hB (Nat.le_trans (Nat.le_add_right _ _) h.1)) (fun r2 H2 locs q2 k2 hS => ?_)
  obtain ⟨e2, zM⟩ := q2
  have zM : gMA G (B + 156) π μ f g H2 := zM
  obtain ⟨hCN, hLf⟩ := gWC_free h6 ⟨hCN, hLf⟩ k2 (fun q _ a h => absurd a (Nat.not_lt.mpr h.1))
  refine lv_icmp_eq (tgt := 1248) hx hb dL_law_541 (by decide) (fun _ => ?_) (fun c9 => absurd (e1.trans e2.symm) c9)
  exact kk _ _ _ ⟨π, πk, μ, α, f, g, lc, lp, lk, A, acc, acck, ⟨hI, hIk, hTA, ⟨rn, hrn, hr9⟩, hTs, ⟨tn, htn, hTn⟩, hlc, h6, hk1, hk2, hRL, him⟩, ⟨hCN, hLf⟩, zM⟩ hS hl

set_option maxHeartbeats 4000000 in
set_option maxRecDepth 100000 in
theorem law_wording {p : Program} {l : Launch} {e : Env} {s : State} {m : MethodId} {below : List Frame} {meth : Method} {c : Code} {G : gW} {b0 L : Nat} {xs : Nat → Int32} (hL : L ≤ 3072) (C0 : gLC G p s m meth c b0 L xs) {k B : Nat} (hk6 : 6 * k + 6 ≤ L) (hB : s.heap.size ≤ B) {H : Heap} {locs : List Loc} (hw : gWo G B (B + 156) H) (hS : va_S (fun q => s.heap.size ≤ q) s.heap H locs) {ls : Array Slot} (hl : lv_has ls 4 [(3, .int (nI (6 * k))), (2, .ref (B + 156)), (1, .ref B), (0, .ref b0)]) {Q : State → Prop} (kk : ∀ (H1 : Heap) (locs1 : List Loc) (ls1 : Array Slot), gWo G B (B + 156) H1 → va_S (fun q => s.heap.size ≤ q) s.heap H1 locs1 → lv_has ls1 4 [(3, .int (nI (6 * k))), (2, .ref (B + 156)), (1, .ref B), (0, .ref b0)] → W p l e room_1 s m #[Value.ref b0] below meth c H1 locs1 186 5311 Q (F0 m 1248 ls1 [])) : W p l e room_1 s m #[Value.ref b0] below meth c H locs 186 5311 Q (F0 m 546 ls []) := by
  obtain ⟨hx, hb, hml, hown, hT, hX, hbl, hE2, hG9⟩ := C0
  have hE := hE2.1
  have hK := hE.2.1
  obtain ⟨π, πk, μ, α, f, g, lc, lp, lk, A, acc, acck, ⟨hI, hIk, hTA, ⟨rn, hrn, hr9⟩, hTs, ⟨tn, htn, hTn⟩, hlc, h6, hk1, hk2, hRL, him⟩, ⟨hCN, hLf⟩, zM⟩ := hw
  obtain ⟨⟨f2, h4, hcl⟩, hlp⟩ := gLfs_open h6 hLf hk1
  have hh := gHold_of h6 hk1 hRL
  obtain ⟨⟨n, hn, hz, -⟩, hki, ⟨sn, hsn, hs9, hsp⟩, ⟨pn, hpn, hp9, hpok⟩, ⟨bn, hbn, hb9, hbk⟩, -⟩ := id hI
  refine lv_aload_n hx hb dL_law_546 rfl (lv_at hl 2 rfl) ?_
  refine lv_aload_n hx hb dL_law_547 rfl (lv_at hl 3 rfl) ?_
  refine lv_iload_n hx hb dL_law_548 rfl (lv_at hl 0 rfl) ?_
  refine lv_iconst (v := 1) hx hb dL_law_549 (by decide) ?_
  refine lv_iadd hx hb dL_law_550 ?_
  refine g_sld (j := (6 * k) + 1) hx hb hX hbl hS (gAdd rfl rfl) (by omega) hL dL_law_551 ?_
  refine lv_aload_n hx hb dL_law_552 rfl (lv_at hl 3 rfl) ?_
  refine lv_iload_n hx hb dL_law_553 rfl (lv_at hl 0 rfl) ?_
  refine lv_iconst (v := 2) hx hb dL_law_554 (by decide) ?_
  refine lv_iadd hx hb dL_law_555 ?_
  refine g_sld (j := (6 * k) + 2) hx hb hX hbl hS (gAdd rfl rfl) (by omega) hL dL_law_556 ?_
  refine g_ki (g_runV (T := TX11) (ci := 11) (N := 13) (rest := []) hx hb hml hown hE hT (c_X11_wording l G B lp π πk f2 μ α lk g acc hcl hI hlp  (xs ((6 * k) + 1)) (xs ((6 * k) + 2))) gM_X11_wording gm_L_65 gi_X11_wording gs_RX11_yX11_wording_yX11_wording rfl (gCN_at hCN) (gCW_v.mpr ⟨h4, hCN⟩) rfl hl.1 ⟨rfl, rfl⟩ ⟨Nat.le_of_ble_eq_true rfl, Nat.le_of_ble_eq_true rfl⟩ ⟨Nat.le_of_ble_eq_true rfl, Nat.le_of_ble_eq_true rfl⟩ rfl (Nat.le_of_ble_eq_true rfl) dL_law_557) hS (fun q hq => gAr_up hB hlp hq) (fun r1 H1 locs q1 k1 hS => ?_)
  obtain ⟨e1, hW⟩ := q1
  have hCN := (gCW_v.mp hW).2
  have h4 := (gCW_v.mp hW).1
  have hLf := gLfs_step h6 hLf hk1 h4 hcl k1
  have zM := gMA_free zM k1 (fun q a _ => gAr_no hlp a)
  refine lv_aload_n hx hb dL_law_560 rfl (lv_at hl 1 rfl) ?_
  refine lv_aload_n hx hb dL_law_561 rfl (lv_at hl 3 rfl) ?_
  refine lv_iload_n hx hb dL_law_562 rfl (lv_at hl 0 rfl) ?_
  refine lv_iconst (v := 1) hx hb dL_law_563 (by decide) ?_
  refine lv_iadd hx hb dL_law_564 ?_
  refine g_sld (j := (6 * k) + 1) hx hb hX hbl hS (gAdd rfl rfl) (by omega) hL dL_law_565 ?_
  refine lv_aload_n hx hb dL_law_566 rfl (lv_at hl 3 rfl) ?_
  refine lv_iload_n hx hb dL_law_567 rfl (lv_at hl 0 rfl) ?_
  refine lv_iconst (v := 2) hx hb dL_law_568 (by decide) ?_
  refine lv_iadd hx hb dL_law_569 ?_
  refine g_sld (j := (6 * k) + 2) hx hb hX hbl hS (gAdd rfl rfl) (by omega) hL dL_law_570 ?_
  obtain ⟨fs9, hat⟩ := gMA_at zM
  obtain ⟨sA, zM⟩ := zM
  refine g_ki (g_runV (T := TX12) (ci := 12) (N := 45) (rest := [.int r1]) hx hb hml hown hE hT (c_X12_wording l G (B + 156) π μ (gR f 10 sA) g n hz hn (gLof acc) (gHold_10 hh) (xs ((6 * k) + 1)) (xs ((6 * k) + 2))) gM_X12_wording gm_L_68 gi_X12_wording gs_RX12_yX12_wording_yX12_wording rfl hat zM rfl hl.1 ⟨rfl, rfl⟩ ⟨Nat.le_of_ble_eq_true rfl, Nat.le_of_ble_eq_true rfl⟩ ⟨Nat.le_of_ble_eq_true rfl, Nat.le_of_ble_eq_true rfl⟩ rfl (Nat.le_of_ble_eq_true rfl) dL_law_571) hS (fun q h => Nat.le_trans hB (Nat.le_trans (Nat.le_add_right _ _) h.1)) (fun r2 H2 locs q2 k2 hS => ?_)
  obtain ⟨e2, zM⟩ := q2
  have zM : gMA G (B + 156) π μ f g H2 := ⟨sA, zM⟩
  obtain ⟨hCN, hLf⟩ := gWC_free h6 ⟨hCN, hLf⟩ k2 (fun q _ a h => absurd a (Nat.not_lt.mpr h.1))
  refine lv_icmp_eq (tgt := 1248) hx hb dL_law_574 (by decide) (fun _ => ?_) (fun c9 => absurd (e1.trans e2.symm) c9)
  exact kk _ _ _ ⟨π, πk, μ, α, f, g, lc, lp, lk, A, acc, acck, ⟨hI, hIk, hTA, ⟨rn, hrn, hr9⟩, hTs, ⟨tn, htn, hTn⟩, hlc, h6, hk1, hk2, hRL, him⟩, ⟨hCN, hLf⟩, zM⟩ hS hl

set_option maxHeartbeats 4000000 in
set_option maxRecDepth 100000 in
theorem law_birds {p : Program} {l : Launch} {e : Env} {s : State} {m : MethodId} {below : List Frame} {meth : Method} {c : Code} {G : gW} {b0 L : Nat} {xs : Nat → Int32} (hL : L ≤ 3072) (C0 : gLC G p s m meth c b0 L xs) {k B : Nat} (hk6 : 6 * k + 6 ≤ L) (hB : s.heap.size ≤ B) {H : Heap} {locs : List Loc} (hw : gWo G B (B + 156) H) (hS : va_S (fun q => s.heap.size ≤ q) s.heap H locs) {ls : Array Slot} (hl : lv_has ls 4 [(3, .int (nI (6 * k))), (2, .ref (B + 156)), (1, .ref B), (0, .ref b0)]) {Q : State → Prop} (kk : ∀ (H1 : Heap) (locs1 : List Loc) (ls1 : Array Slot), gWo G B (B + 156) H1 → va_S (fun q => s.heap.size ≤ q) s.heap H1 locs1 → lv_has ls1 4 [(3, .int (nI (6 * k))), (2, .ref (B + 156)), (1, .ref B), (0, .ref b0)] → W p l e room_1 s m #[Value.ref b0] below meth c H1 locs1 186 5311 Q (F0 m 1248 ls1 [])) : W p l e room_1 s m #[Value.ref b0] below meth c H locs 186 5311 Q (F0 m 579 ls []) := by
  obtain ⟨hx, hb, hml, hown, hT, hX, hbl, hE2, hG9⟩ := C0
  have hE := hE2.1
  have hK := hE.2.1
  obtain ⟨π, πk, μ, α, f, g, lc, lp, lk, A, acc, acck, ⟨hI, hIk, hTA, ⟨rn, hrn, hr9⟩, hTs, ⟨tn, htn, hTn⟩, hlc, h6, hk1, hk2, hRL, him⟩, ⟨hCN, hLf⟩, zM⟩ := hw
  obtain ⟨⟨f2, h4, hcl⟩, hlp⟩ := gLfs_open h6 hLf hk1
  have hh := gHold_of h6 hk1 hRL
  obtain ⟨⟨n, hn, hz, -⟩, hki, ⟨sn, hsn, hs9, hsp⟩, ⟨pn, hpn, hp9, hpok⟩, ⟨bn, hbn, hb9, hbk⟩, -⟩ := id hI
  refine lv_aload_n hx hb dL_law_579 rfl (lv_at hl 2 rfl) ?_
  refine lv_aload_n hx hb dL_law_580 rfl (lv_at hl 3 rfl) ?_
  refine lv_iload_n hx hb dL_law_581 rfl (lv_at hl 0 rfl) ?_
  refine lv_iconst (v := 1) hx hb dL_law_582 (by decide) ?_
  refine lv_iadd hx hb dL_law_583 ?_
  refine g_sld (j := (6 * k) + 1) hx hb hX hbl hS (gAdd rfl rfl) (by omega) hL dL_law_584 ?_
  refine g_ki (g_runV (T := TX11) (ci := 11) (N := 13) (rest := []) hx hb hml hown hE hT (c_X11_birds l G B lp π πk f2 μ α lk g acc hcl hI hlp n hz hn (xs ((6 * k) + 1))) gM_X11_birds gm_L_69 gi_X11_birds gs_RX11_yX11_birds_yX11_birds rfl (gCN_at hCN) (gCW_v.mpr ⟨h4, hCN⟩) rfl hl.1 ⟨rfl, rfl⟩ ⟨Nat.le_of_ble_eq_true rfl, Nat.le_of_ble_eq_true rfl⟩ ⟨Nat.le_of_ble_eq_true rfl, Nat.le_of_ble_eq_true rfl⟩ rfl (Nat.le_of_ble_eq_true rfl) dL_law_585) hS (fun q hq => gAr_up hB hlp hq) (fun r1 H1 locs q1 k1 hS => ?_)
  obtain ⟨e1, hW⟩ := q1
  have hCN := (gCW_v.mp hW).2
  have h4 := (gCW_v.mp hW).1
  have hLf := gLfs_step h6 hLf hk1 h4 hcl k1
  have zM := gMA_free zM k1 (fun q a _ => gAr_no hlp a)
  refine lv_aload_n hx hb dL_law_588 rfl (lv_at hl 1 rfl) ?_
  refine lv_aload_n hx hb dL_law_589 rfl (lv_at hl 3 rfl) ?_
  refine lv_iload_n hx hb dL_law_590 rfl (lv_at hl 0 rfl) ?_
  refine lv_iconst (v := 1) hx hb dL_law_591 (by decide) ?_
  refine lv_iadd hx hb dL_law_592 ?_
  refine g_sld (j := (6 * k) + 1) hx hb hX hbl hS (gAdd rfl rfl) (by omega) hL dL_law_593 ?_
  obtain ⟨fs9, hat⟩ := gMA_at zM
  obtain ⟨sA, zM⟩ := zM
  refine g_ki (g_runV (T := TX12) (ci := 12) (N := 45) (rest := [.int r1]) hx hb hml hown hE hT (c_X12_birds l G (B + 156) π μ (gR f 10 sA) g n hz hn (gLof acc) (gHold_10 hh) (xs ((6 * k) + 1))) gM_X12_birds gm_L_72 gi_X12_birds gs_RX12_yX12_birds_yX12_birds rfl hat zM rfl hl.1 ⟨rfl, rfl⟩ ⟨Nat.le_of_ble_eq_true rfl, Nat.le_of_ble_eq_true rfl⟩ ⟨Nat.le_of_ble_eq_true rfl, Nat.le_of_ble_eq_true rfl⟩ rfl (Nat.le_of_ble_eq_true rfl) dL_law_594) hS (fun q h => Nat.le_trans hB (Nat.le_trans (Nat.le_add_right _ _) h.1)) (fun r2 H2 locs q2 k2 hS => ?_)
  obtain ⟨e2, zM⟩ := q2
  have zM : gMA G (B + 156) π μ f g H2 := ⟨sA, zM⟩
  obtain ⟨hCN, hLf⟩ := gWC_free h6 ⟨hCN, hLf⟩ k2 (fun q _ a h => absurd a (Nat.not_lt.mpr h.1))
  refine lv_icmp_eq (tgt := 1248) hx hb dL_law_597 (by decide) (fun _ => ?_) (fun c9 => absurd (e1.trans e2.symm) c9)
  exact kk _ _ _ ⟨π, πk, μ, α, f, g, lc, lp, lk, A, acc, acck, ⟨hI, hIk, hTA, ⟨rn, hrn, hr9⟩, hTs, ⟨tn, htn, hTn⟩, hlc, h6, hk1, hk2, hRL, him⟩, ⟨hCN, hLf⟩, zM⟩ hS hl

set_option maxHeartbeats 4000000 in
set_option maxRecDepth 100000 in
theorem law_can {p : Program} {l : Launch} {e : Env} {s : State} {m : MethodId} {below : List Frame} {meth : Method} {c : Code} {G : gW} {b0 L : Nat} {xs : Nat → Int32} (hL : L ≤ 3072) (C0 : gLC G p s m meth c b0 L xs) {k B : Nat} (hk6 : 6 * k + 6 ≤ L) (hB : s.heap.size ≤ B) {H : Heap} {locs : List Loc} (hw : gWo G B (B + 156) H) (hS : va_S (fun q => s.heap.size ≤ q) s.heap H locs) {ls : Array Slot} (hl : lv_has ls 4 [(3, .int (nI (6 * k))), (2, .ref (B + 156)), (1, .ref B), (0, .ref b0)]) {Q : State → Prop} (kk : ∀ (H1 : Heap) (locs1 : List Loc) (ls1 : Array Slot), gWo G B (B + 156) H1 → va_S (fun q => s.heap.size ≤ q) s.heap H1 locs1 → lv_has ls1 4 [(3, .int (nI (6 * k))), (2, .ref (B + 156)), (1, .ref B), (0, .ref b0)] → W p l e room_1 s m #[Value.ref b0] below meth c H1 locs1 186 5311 Q (F0 m 1248 ls1 [])) : W p l e room_1 s m #[Value.ref b0] below meth c H locs 186 5311 Q (F0 m 661 ls []) := by
  obtain ⟨hx, hb, hml, hown, hT, hX, hbl, hE2, hG9⟩ := C0
  have hE := hE2.1
  have hK := hE.2.1
  obtain ⟨π, πk, μ, α, f, g, lc, lp, lk, A, acc, acck, ⟨hI, hIk, hTA, ⟨rn, hrn, hr9⟩, hTs, ⟨tn, htn, hTn⟩, hlc, h6, hk1, hk2, hRL, him⟩, ⟨hCN, hLf⟩, zM⟩ := hw
  obtain ⟨⟨f2, h4, hcl⟩, hlp⟩ := gLfs_open h6 hLf hk1
  have hh := gHold_of h6 hk1 hRL
  obtain ⟨⟨n, hn, hz, -⟩, hki, ⟨sn, hsn, hs9, hsp⟩, ⟨pn, hpn, hp9, hpok⟩, ⟨bn, hbn, hb9, hbk⟩, -⟩ := id hI
  refine lv_aload_n hx hb dL_law_661 rfl (lv_at hl 2 rfl) ?_
  refine lv_aload_n hx hb dL_law_662 rfl (lv_at hl 3 rfl) ?_
  refine lv_iload_n hx hb dL_law_663 rfl (lv_at hl 0 rfl) ?_
  refine lv_iconst (v := 1) hx hb dL_law_664 (by decide) ?_
  refine lv_iadd hx hb dL_law_665 ?_
  refine g_sld (j := (6 * k) + 1) hx hb hX hbl hS (gAdd rfl rfl) (by omega) hL dL_law_666 ?_
  refine lv_aload_n hx hb dL_law_667 rfl (lv_at hl 3 rfl) ?_
  refine lv_iload_n hx hb dL_law_668 rfl (lv_at hl 0 rfl) ?_
  refine lv_iconst (v := 2) hx hb dL_law_669 (by decide) ?_
  refine lv_iadd hx hb dL_law_670 ?_
  refine g_sld (j := (6 * k) + 2) hx hb hX hbl hS (gAdd rfl rfl) (by omega) hL dL_law_671 ?_
  refine g_ki (g_runV (T := TX11) (ci := 11) (N := 13) (rest := []) hx hb hml hown hE hT (c_X11_can l G B lp π πk f2 μ α lk g acc hcl hI hlp sn hs9 hsn (xs ((6 * k) + 1)) (xs ((6 * k) + 2))) gM_X11_can gm_L_78 gi_X11_can gs_RX11_yX11_can_yX11_can rfl (gCN_at hCN) (gCW_v.mpr ⟨h4, hCN⟩) rfl hl.1 ⟨rfl, rfl⟩ ⟨Nat.le_of_ble_eq_true rfl, Nat.le_of_ble_eq_true rfl⟩ ⟨Nat.le_of_ble_eq_true rfl, Nat.le_of_ble_eq_true rfl⟩ rfl (Nat.le_of_ble_eq_true rfl) dL_law_672) hS (fun q hq => gAr_up hB hlp hq) (fun r1 H1 locs q1 k1 hS => ?_)
  obtain ⟨e1, hW⟩ := q1
  have hCN := (gCW_v.mp hW).2
  have h4 := (gCW_v.mp hW).1
  have hLf := gLfs_step h6 hLf hk1 h4 hcl k1
  have zM := gMA_free zM k1 (fun q a _ => gAr_no hlp a)
  refine lv_aload_n hx hb dL_law_675 rfl (lv_at hl 1 rfl) ?_
  refine lv_aload_n hx hb dL_law_676 rfl (lv_at hl 3 rfl) ?_
  refine lv_iload_n hx hb dL_law_677 rfl (lv_at hl 0 rfl) ?_
  refine lv_iconst (v := 1) hx hb dL_law_678 (by decide) ?_
  refine lv_iadd hx hb dL_law_679 ?_
  refine g_sld (j := (6 * k) + 1) hx hb hX hbl hS (gAdd rfl rfl) (by omega) hL dL_law_680 ?_
  refine lv_aload_n hx hb dL_law_681 rfl (lv_at hl 3 rfl) ?_
  refine lv_iload_n hx hb dL_law_682 rfl (lv_at hl 0 rfl) ?_
  refine lv_iconst (v := 2) hx hb dL_law_683 (by decide) ?_
  refine lv_iadd hx hb dL_law_684 ?_
  refine g_sld (j := (6 * k) + 2) hx hb hX hbl hS (gAdd rfl rfl) (by omega) hL dL_law_685 ?_
  obtain ⟨fs9, hat⟩ := gMA_at zM
  obtain ⟨sA, zM⟩ := zM
  refine g_ki (g_runV (T := TX12) (ci := 12) (N := 45) (rest := [.int r1]) hx hb hml hown hE hT (c_X12_can l G (B + 156) π μ (gR f 10 sA) g n hz hn sn hs9 hsn (fun k hk => (hsp k hk).1) (gLof acc) (gHold_10 hh) (xs ((6 * k) + 1)) (xs ((6 * k) + 2))) gM_X12_can gm_L_81 gi_X12_can gs_RX12_yX12_can_yX12_can rfl hat zM rfl hl.1 ⟨rfl, rfl⟩ ⟨Nat.le_of_ble_eq_true rfl, Nat.le_of_ble_eq_true rfl⟩ ⟨Nat.le_of_ble_eq_true rfl, Nat.le_of_ble_eq_true rfl⟩ rfl (Nat.le_of_ble_eq_true rfl) dL_law_686) hS (fun q h => Nat.le_trans hB (Nat.le_trans (Nat.le_add_right _ _) h.1)) (fun r2 H2 locs q2 k2 hS => ?_)
  obtain ⟨e2, zM⟩ := q2
  have zM : gMA G (B + 156) π μ f g H2 := ⟨sA, zM⟩
  obtain ⟨hCN, hLf⟩ := gWC_free h6 ⟨hCN, hLf⟩ k2 (fun q _ a h => absurd a (Nat.not_lt.mpr h.1))
  refine lv_icmp_eq (tgt := 1248) hx hb dL_law_689 (by decide) (fun _ => ?_) (fun c9 => absurd (e1.trans e2.symm) c9)
  exact kk _ _ _ ⟨π, πk, μ, α, f, g, lc, lp, lk, A, acc, acck, ⟨hI, hIk, hTA, ⟨rn, hrn, hr9⟩, hTs, ⟨tn, htn, hTn⟩, hlc, h6, hk1, hk2, hRL, him⟩, ⟨hCN, hLf⟩, zM⟩ hS hl

set_option maxHeartbeats 4000000 in
set_option maxRecDepth 100000 in
theorem law_odds {p : Program} {l : Launch} {e : Env} {s : State} {m : MethodId} {below : List Frame} {meth : Method} {c : Code} {G : gW} {b0 L : Nat} {xs : Nat → Int32} (hL : L ≤ 3072) (C0 : gLC G p s m meth c b0 L xs) {k B : Nat} (hk6 : 6 * k + 6 ≤ L) (hB : s.heap.size ≤ B) {H : Heap} {locs : List Loc} (hw : gWo G B (B + 156) H) (hS : va_S (fun q => s.heap.size ≤ q) s.heap H locs) {ls : Array Slot} (hl : lv_has ls 4 [(3, .int (nI (6 * k))), (2, .ref (B + 156)), (1, .ref B), (0, .ref b0)]) {Q : State → Prop} (kk : ∀ (H1 : Heap) (locs1 : List Loc) (ls1 : Array Slot), gWo G B (B + 156) H1 → va_S (fun q => s.heap.size ≤ q) s.heap H1 locs1 → lv_has ls1 4 [(3, .int (nI (6 * k))), (2, .ref (B + 156)), (1, .ref B), (0, .ref b0)] → W p l e room_1 s m #[Value.ref b0] below meth c H1 locs1 186 5311 Q (F0 m 1248 ls1 [])) : W p l e room_1 s m #[Value.ref b0] below meth c H locs 186 5311 Q (F0 m 694 ls []) := by
  obtain ⟨hx, hb, hml, hown, hT, hX, hbl, hE2, hG9⟩ := C0
  have hE := hE2.1
  have hK := hE.2.1
  obtain ⟨π, πk, μ, α, f, g, lc, lp, lk, A, acc, acck, ⟨hI, hIk, hTA, ⟨rn, hrn, hr9⟩, hTs, ⟨tn, htn, hTn⟩, hlc, h6, hk1, hk2, hRL, him⟩, ⟨hCN, hLf⟩, zM⟩ := hw
  obtain ⟨⟨f2, h4, hcl⟩, hlp⟩ := gLfs_open h6 hLf hk1
  have hh := gHold_of h6 hk1 hRL
  obtain ⟨⟨n, hn, hz, -⟩, hki, ⟨sn, hsn, hs9, hsp⟩, ⟨pn, hpn, hp9, hpok⟩, ⟨bn, hbn, hb9, hbk⟩, -⟩ := id hI
  refine lv_aload_n hx hb dL_law_694 rfl (lv_at hl 2 rfl) ?_
  refine lv_aload_n hx hb dL_law_695 rfl (lv_at hl 3 rfl) ?_
  refine lv_iload_n hx hb dL_law_696 rfl (lv_at hl 0 rfl) ?_
  refine lv_iconst (v := 1) hx hb dL_law_697 (by decide) ?_
  refine lv_iadd hx hb dL_law_698 ?_
  refine g_sld (j := (6 * k) + 1) hx hb hX hbl hS (gAdd rfl rfl) (by omega) hL dL_law_699 ?_
  refine lv_aload_n hx hb dL_law_700 rfl (lv_at hl 3 rfl) ?_
  refine lv_iload_n hx hb dL_law_701 rfl (lv_at hl 0 rfl) ?_
  refine lv_iconst (v := 2) hx hb dL_law_702 (by decide) ?_
  refine lv_iadd hx hb dL_law_703 ?_
  refine g_sld (j := (6 * k) + 2) hx hb hX hbl hS (gAdd rfl rfl) (by omega) hL dL_law_704 ?_
  refine g_kl (g_runV (T := TX11) (ci := 11) (N := 13) (rest := []) hx hb hml hown hE hT (c_X11_odds l G B lp π πk f2 μ α lk g acc hcl hI hlp  (xs ((6 * k) + 1)) (xs ((6 * k) + 2))) gM_X11_odds gm_L_82 gi_X11_odds gs_RX11_yX11_odds_yX11_odds rfl (gCN_at hCN) (gCW_v.mpr ⟨h4, hCN⟩) rfl hl.1 ⟨rfl, rfl⟩ ⟨Nat.le_of_ble_eq_true rfl, Nat.le_of_ble_eq_true rfl⟩ ⟨Nat.le_of_ble_eq_true rfl, Nat.le_of_ble_eq_true rfl⟩ rfl (Nat.le_of_ble_eq_true rfl) dL_law_705) hS (fun q hq => gAr_up hB hlp hq) (fun r1 H1 locs q1 k1 hS => ?_)
  obtain ⟨e1, hW⟩ := q1
  have hCN := (gCW_v.mp hW).2
  have h4 := (gCW_v.mp hW).1
  have hLf := gLfs_step h6 hLf hk1 h4 hcl k1
  have zM := gMA_free zM k1 (fun q a _ => gAr_no hlp a)
  refine lv_aload_n hx hb dL_law_708 rfl (lv_at hl 1 rfl) ?_
  refine lv_aload_n hx hb dL_law_709 rfl (lv_at hl 3 rfl) ?_
  refine lv_iload_n hx hb dL_law_710 rfl (lv_at hl 0 rfl) ?_
  refine lv_iconst (v := 1) hx hb dL_law_711 (by decide) ?_
  refine lv_iadd hx hb dL_law_712 ?_
  refine g_sld (j := (6 * k) + 1) hx hb hX hbl hS (gAdd rfl rfl) (by omega) hL dL_law_713 ?_
  refine lv_aload_n hx hb dL_law_714 rfl (lv_at hl 3 rfl) ?_
  refine lv_iload_n hx hb dL_law_715 rfl (lv_at hl 0 rfl) ?_
  refine lv_iconst (v := 2) hx hb dL_law_716 (by decide) ?_
  refine lv_iadd hx hb dL_law_717 ?_
  refine g_sld (j := (6 * k) + 2) hx hb hX hbl hS (gAdd rfl rfl) (by omega) hL dL_law_718 ?_
  obtain ⟨fs9, hat⟩ := gMA_at zM
  obtain ⟨sA, zM⟩ := zM
  refine g_kl (g_runV (T := TX12) (ci := 12) (N := 45) (rest := [.long r1]) hx hb hml hown hE hT (c_X12_odds l G (B + 156) π μ (gR f 10 sA) g n hz hn (gLof acc) (gHold_10 hh) (xs ((6 * k) + 1)) (xs ((6 * k) + 2))) gM_X12_odds gm_L_86 gi_X12_odds gs_RX12_yX12_odds_yX12_odds rfl hat zM rfl hl.1 ⟨rfl, rfl⟩ ⟨Nat.le_of_ble_eq_true rfl, Nat.le_of_ble_eq_true rfl⟩ ⟨Nat.le_of_ble_eq_true rfl, Nat.le_of_ble_eq_true rfl⟩ rfl (Nat.le_of_ble_eq_true rfl) dL_law_719) hS (fun q h => Nat.le_trans hB (Nat.le_trans (Nat.le_add_right _ _) h.1)) (fun r2 H2 locs q2 k2 hS => ?_)
  obtain ⟨e2, zM⟩ := q2
  have zM : gMA G (B + 156) π μ f g H2 := ⟨sA, zM⟩
  obtain ⟨hCN, hLf⟩ := gWC_free h6 ⟨hCN, hLf⟩ k2 (fun q _ a h => absurd a (Nat.not_lt.mpr h.1))
  refine W.lcmp hx hb dL_law_722 ?_
  refine lv_if_eq (tgt := 1248) hx hb dL_law_723 (by decide) (fun _ => ?_) (fun c9 => absurd (gCmp9 (e1.trans e2.symm)) c9)
  exact kk _ _ _ ⟨π, πk, μ, α, f, g, lc, lp, lk, A, acc, acck, ⟨hI, hIk, hTA, ⟨rn, hrn, hr9⟩, hTs, ⟨tn, htn, hTn⟩, hlc, h6, hk1, hk2, hRL, him⟩, ⟨hCN, hLf⟩, zM⟩ hS hl

set_option maxHeartbeats 4000000 in
set_option maxRecDepth 100000 in
theorem law_mean {p : Program} {l : Launch} {e : Env} {s : State} {m : MethodId} {below : List Frame} {meth : Method} {c : Code} {G : gW} {b0 L : Nat} {xs : Nat → Int32} (hL : L ≤ 3072) (C0 : gLC G p s m meth c b0 L xs) {k B : Nat} (hk6 : 6 * k + 6 ≤ L) (hB : s.heap.size ≤ B) {H : Heap} {locs : List Loc} (hw : gWo G B (B + 156) H) (hS : va_S (fun q => s.heap.size ≤ q) s.heap H locs) {ls : Array Slot} (hl : lv_has ls 4 [(3, .int (nI (6 * k))), (2, .ref (B + 156)), (1, .ref B), (0, .ref b0)]) {Q : State → Prop} (kk : ∀ (H1 : Heap) (locs1 : List Loc) (ls1 : Array Slot), gWo G B (B + 156) H1 → va_S (fun q => s.heap.size ≤ q) s.heap H1 locs1 → lv_has ls1 4 [(3, .int (nI (6 * k))), (2, .ref (B + 156)), (1, .ref B), (0, .ref b0)] → W p l e room_1 s m #[Value.ref b0] below meth c H1 locs1 186 5311 Q (F0 m 1248 ls1 [])) : W p l e room_1 s m #[Value.ref b0] below meth c H locs 186 5311 Q (F0 m 728 ls []) := by
  obtain ⟨hx, hb, hml, hown, hT, hX, hbl, hE2, hG9⟩ := C0
  have hE := hE2.1
  have hK := hE.2.1
  obtain ⟨π, πk, μ, α, f, g, lc, lp, lk, A, acc, acck, ⟨hI, hIk, hTA, ⟨rn, hrn, hr9⟩, hTs, ⟨tn, htn, hTn⟩, hlc, h6, hk1, hk2, hRL, him⟩, ⟨hCN, hLf⟩, zM⟩ := hw
  obtain ⟨⟨f2, h4, hcl⟩, hlp⟩ := gLfs_open h6 hLf hk1
  have hh := gHold_of h6 hk1 hRL
  obtain ⟨⟨n, hn, hz, -⟩, hki, ⟨sn, hsn, hs9, hsp⟩, ⟨pn, hpn, hp9, hpok⟩, ⟨bn, hbn, hb9, hbk⟩, -⟩ := id hI
  refine lv_aload_n hx hb dL_law_728 rfl (lv_at hl 2 rfl) ?_
  refine lv_aload_n hx hb dL_law_729 rfl (lv_at hl 3 rfl) ?_
  refine lv_iload_n hx hb dL_law_730 rfl (lv_at hl 0 rfl) ?_
  refine lv_iconst (v := 1) hx hb dL_law_731 (by decide) ?_
  refine lv_iadd hx hb dL_law_732 ?_
  refine g_sld (j := (6 * k) + 1) hx hb hX hbl hS (gAdd rfl rfl) (by omega) hL dL_law_733 ?_
  refine g_kl (g_runV (T := TX11) (ci := 11) (N := 13) (rest := []) hx hb hml hown hE hT (c_X11_mean l G B lp π πk f2 μ α lk g acc hcl hI hlp n hz hn (xs ((6 * k) + 1))) gM_X11_mean gm_L_87 gi_X11_mean gs_RX11_yX11_mean_yX11_mean rfl (gCN_at hCN) (gCW_v.mpr ⟨h4, hCN⟩) rfl hl.1 ⟨rfl, rfl⟩ ⟨Nat.le_of_ble_eq_true rfl, Nat.le_of_ble_eq_true rfl⟩ ⟨Nat.le_of_ble_eq_true rfl, Nat.le_of_ble_eq_true rfl⟩ rfl (Nat.le_of_ble_eq_true rfl) dL_law_734) hS (fun q hq => gAr_up hB hlp hq) (fun r1 H1 locs q1 k1 hS => ?_)
  obtain ⟨e1, hW⟩ := q1
  have hCN := (gCW_v.mp hW).2
  have h4 := (gCW_v.mp hW).1
  have hLf := gLfs_step h6 hLf hk1 h4 hcl k1
  have zM := gMA_free zM k1 (fun q a _ => gAr_no hlp a)
  refine lv_aload_n hx hb dL_law_737 rfl (lv_at hl 1 rfl) ?_
  refine lv_aload_n hx hb dL_law_738 rfl (lv_at hl 3 rfl) ?_
  refine lv_iload_n hx hb dL_law_739 rfl (lv_at hl 0 rfl) ?_
  refine lv_iconst (v := 1) hx hb dL_law_740 (by decide) ?_
  refine lv_iadd hx hb dL_law_741 ?_
  refine g_sld (j := (6 * k) + 1) hx hb hX hbl hS (gAdd rfl rfl) (by omega) hL dL_law_742 ?_
  obtain ⟨fs9, hat⟩ := gMA_at zM
  obtain ⟨sA, zM⟩ := zM
  refine g_kl (g_runV (T := TX12) (ci := 12) (N := 45) (rest := [.long r1]) hx hb hml hown hE hT (c_X12_mean l G (B + 156) π μ (gR f 10 sA) g n hz hn (gLof acc) (gHold_10 hh) (xs ((6 * k) + 1))) gM_X12_mean gm_L_91 gi_X12_mean gs_RX12_yX12_mean_yX12_mean rfl hat zM rfl hl.1 ⟨rfl, rfl⟩ ⟨Nat.le_of_ble_eq_true rfl, Nat.le_of_ble_eq_true rfl⟩ ⟨Nat.le_of_ble_eq_true rfl, Nat.le_of_ble_eq_true rfl⟩ rfl (Nat.le_of_ble_eq_true rfl) dL_law_743) hS (fun q h => Nat.le_trans hB (Nat.le_trans (Nat.le_add_right _ _) h.1)) (fun r2 H2 locs q2 k2 hS => ?_)
  obtain ⟨e2, zM⟩ := q2
  have zM : gMA G (B + 156) π μ f g H2 := ⟨sA, zM⟩
  obtain ⟨hCN, hLf⟩ := gWC_free h6 ⟨hCN, hLf⟩ k2 (fun q _ a h => absurd a (Nat.not_lt.mpr h.1))
  refine W.lcmp hx hb dL_law_746 ?_
  refine lv_if_eq (tgt := 1248) hx hb dL_law_747 (by decide) (fun _ => ?_) (fun c9 => absurd (gCmp9 (e1.trans e2.symm)) c9)
  exact kk _ _ _ ⟨π, πk, μ, α, f, g, lc, lp, lk, A, acc, acck, ⟨hI, hIk, hTA, ⟨rn, hrn, hr9⟩, hTs, ⟨tn, htn, hTn⟩, hlc, h6, hk1, hk2, hRL, him⟩, ⟨hCN, hLf⟩, zM⟩ hS hl

set_option maxHeartbeats 4000000 in
set_option maxRecDepth 100000 in
theorem law_plan {p : Program} {l : Launch} {e : Env} {s : State} {m : MethodId} {below : List Frame} {meth : Method} {c : Code} {G : gW} {b0 L : Nat} {xs : Nat → Int32} (hL : L ≤ 3072) (C0 : gLC G p s m meth c b0 L xs) {k B : Nat} (hk6 : 6 * k + 6 ≤ L) (hB : s.heap.size ≤ B) {H : Heap} {locs : List Loc} (hw : gWo G B (B + 156) H) (hS : va_S (fun q => s.heap.size ≤ q) s.heap H locs) {ls : Array Slot} (hl : lv_has ls 4 [(3, .int (nI (6 * k))), (2, .ref (B + 156)), (1, .ref B), (0, .ref b0)]) {Q : State → Prop} (kk : ∀ (H1 : Heap) (locs1 : List Loc) (ls1 : Array Slot), gWo G B (B + 156) H1 → va_S (fun q => s.heap.size ≤ q) s.heap H1 locs1 → lv_has ls1 4 [(3, .int (nI (6 * k))), (2, .ref (B + 156)), (1, .ref B), (0, .ref b0)] → W p l e room_1 s m #[Value.ref b0] below meth c H1 locs1 186 5311 Q (F0 m 1248 ls1 [])) : W p l e room_1 s m #[Value.ref b0] below meth c H locs 186 5311 Q (F0 m 752 ls []) := by
  obtain ⟨hx, hb, hml, hown, hT, hX, hbl, hE2, hG9⟩ := C0
  have hE := hE2.1
  have hK := hE.2.1
  obtain ⟨π, πk, μ, α, f, g, lc, lp, lk, A, acc, acck, ⟨hI, hIk, hTA, ⟨rn, hrn, hr9⟩, hTs, ⟨tn, htn, hTn⟩, hlc, h6, hk1, hk2, hRL, him⟩, ⟨hCN, hLf⟩, zM⟩ := hw
  obtain ⟨⟨f2, h4, hcl⟩, hlp⟩ := gLfs_open h6 hLf hk1
  have hh := gHold_of h6 hk1 hRL
  obtain ⟨⟨n, hn, hz, -⟩, hki, ⟨sn, hsn, hs9, hsp⟩, ⟨pn, hpn, hp9, hpok⟩, ⟨bn, hbn, hb9, hbk⟩, -⟩ := id hI
  refine lv_aload_n hx hb dL_law_752 rfl (lv_at hl 2 rfl) ?_
  refine lv_aload_n hx hb dL_law_753 rfl (lv_at hl 3 rfl) ?_
  refine lv_iload_n hx hb dL_law_754 rfl (lv_at hl 0 rfl) ?_
  refine lv_iconst (v := 1) hx hb dL_law_755 (by decide) ?_
  refine lv_iadd hx hb dL_law_756 ?_
  refine g_sld (j := (6 * k) + 1) hx hb hX hbl hS (gAdd rfl rfl) (by omega) hL dL_law_757 ?_
  refine lv_aload_n hx hb dL_law_758 rfl (lv_at hl 3 rfl) ?_
  refine lv_iload_n hx hb dL_law_759 rfl (lv_at hl 0 rfl) ?_
  refine lv_iconst (v := 2) hx hb dL_law_760 (by decide) ?_
  refine lv_iadd hx hb dL_law_761 ?_
  refine g_sld (j := (6 * k) + 2) hx hb hX hbl hS (gAdd rfl rfl) (by omega) hL dL_law_762 ?_
  refine g_ki (g_runV (T := TX11) (ci := 11) (N := 13) (rest := []) hx hb hml hown hE hT (c_X11_plan l G B lp π πk f2 μ α lk g acc hcl hI hlp  (xs ((6 * k) + 1)) (xs ((6 * k) + 2))) gM_X11_plan gm_L_92 gi_X11_plan gs_RX11_yX11_plan_yX11_plan rfl (gCN_at hCN) (gCW_v.mpr ⟨h4, hCN⟩) rfl hl.1 ⟨rfl, rfl⟩ ⟨Nat.le_of_ble_eq_true rfl, Nat.le_of_ble_eq_true rfl⟩ ⟨Nat.le_of_ble_eq_true rfl, Nat.le_of_ble_eq_true rfl⟩ rfl (Nat.le_of_ble_eq_true rfl) dL_law_763) hS (fun q hq => gAr_up hB hlp hq) (fun r1 H1 locs q1 k1 hS => ?_)
  obtain ⟨e1, hW⟩ := q1
  have hCN := (gCW_v.mp hW).2
  have h4 := (gCW_v.mp hW).1
  have hLf := gLfs_step h6 hLf hk1 h4 hcl k1
  have zM := gMA_free zM k1 (fun q a _ => gAr_no hlp a)
  refine lv_aload_n hx hb dL_law_766 rfl (lv_at hl 1 rfl) ?_
  refine lv_aload_n hx hb dL_law_767 rfl (lv_at hl 3 rfl) ?_
  refine lv_iload_n hx hb dL_law_768 rfl (lv_at hl 0 rfl) ?_
  refine lv_iconst (v := 1) hx hb dL_law_769 (by decide) ?_
  refine lv_iadd hx hb dL_law_770 ?_
  refine g_sld (j := (6 * k) + 1) hx hb hX hbl hS (gAdd rfl rfl) (by omega) hL dL_law_771 ?_
  refine lv_aload_n hx hb dL_law_772 rfl (lv_at hl 3 rfl) ?_
  refine lv_iload_n hx hb dL_law_773 rfl (lv_at hl 0 rfl) ?_
  refine lv_iconst (v := 2) hx hb dL_law_774 (by decide) ?_
  refine lv_iadd hx hb dL_law_775 ?_
  refine g_sld (j := (6 * k) + 2) hx hb hX hbl hS (gAdd rfl rfl) (by omega) hL dL_law_776 ?_
  obtain ⟨fs9, hat⟩ := gMA_at zM
  obtain ⟨sA, s7, zM⟩ := zM
  refine g_ki (g_runV (T := TX12) (ci := 12) (N := 45) (rest := [.int r1]) hx hb hml hown hE hT (c_X12_plan l G (B + 156) π μ (gR (gR f 10 sA) 7 s7) g n hz hn pn hp9 hpn (xs ((6 * k) + 1)) (xs ((6 * k) + 2))) gM_X12_plan gm_L_95 gi_X12_plan gs_RX12_yX12_plan_yX12_plan rfl hat zM rfl hl.1 ⟨rfl, rfl⟩ ⟨Nat.le_of_ble_eq_true rfl, Nat.le_of_ble_eq_true rfl⟩ ⟨Nat.le_of_ble_eq_true rfl, Nat.le_of_ble_eq_true rfl⟩ rfl (Nat.le_of_ble_eq_true rfl) dL_law_777) hS (fun q h => Nat.le_trans hB (Nat.le_trans (Nat.le_add_right _ _) h.1)) (fun r2 H2 locs q2 k2 hS => ?_)
  obtain ⟨e2, zM⟩ := q2
  have zM : gMA G (B + 156) (gqPlan π (xs (6 * k + 1)) (xs (6 * k + 2))).2 μ f g H2 := ⟨sA, s7, zM⟩
  obtain ⟨hCN, hLf⟩ := gWC_free h6 ⟨hCN, hLf⟩ k2 (fun q _ a h => absurd a (Nat.not_lt.mpr h.1))
  refine lv_icmp_eq (tgt := 1248) hx hb dL_law_780 (by decide) (fun _ => ?_) (fun c9 => absurd (e1.trans e2.symm) c9)
  exact kk _ _ _ ⟨(gqPlan π (xs (6 * k + 1)) (xs (6 * k + 2))).2, πk, μ, α, f, g, lc, lp, lk, A, acc, acck, ⟨(gInv_plan hI), hIk, hTA, ⟨rn, hrn, hr9⟩, hTs, ⟨tn, htn, hTn⟩, hlc, h6, (gLk_same hk1 gH_plan), hk2, hRL, him⟩, ⟨hCN, hLf⟩, zM⟩ hS hl

set_option maxHeartbeats 4000000 in
set_option maxRecDepth 100000 in
theorem law_ends {p : Program} {l : Launch} {e : Env} {s : State} {m : MethodId} {below : List Frame} {meth : Method} {c : Code} {G : gW} {b0 L : Nat} {xs : Nat → Int32} (hL : L ≤ 3072) (C0 : gLC G p s m meth c b0 L xs) {k B : Nat} (hk6 : 6 * k + 6 ≤ L) (hB : s.heap.size ≤ B) {H : Heap} {locs : List Loc} (hw : gWo G B (B + 156) H) (hS : va_S (fun q => s.heap.size ≤ q) s.heap H locs) {ls : Array Slot} (hl : lv_has ls 4 [(3, .int (nI (6 * k))), (2, .ref (B + 156)), (1, .ref B), (0, .ref b0)]) {Q : State → Prop} (kk : ∀ (H1 : Heap) (locs1 : List Loc) (ls1 : Array Slot), gWo G B (B + 156) H1 → va_S (fun q => s.heap.size ≤ q) s.heap H1 locs1 → lv_has ls1 4 [(3, .int (nI (6 * k))), (2, .ref (B + 156)), (1, .ref B), (0, .ref b0)] → W p l e room_1 s m #[Value.ref b0] below meth c H1 locs1 186 5311 Q (F0 m 1248 ls1 [])) : W p l e room_1 s m #[Value.ref b0] below meth c H locs 186 5311 Q (F0 m 785 ls []) := by
  obtain ⟨hx, hb, hml, hown, hT, hX, hbl, hE2, hG9⟩ := C0
  have hE := hE2.1
  have hK := hE.2.1
  obtain ⟨π, πk, μ, α, f, g, lc, lp, lk, A, acc, acck, ⟨hI, hIk, hTA, ⟨rn, hrn, hr9⟩, hTs, ⟨tn, htn, hTn⟩, hlc, h6, hk1, hk2, hRL, him⟩, ⟨hCN, hLf⟩, zM⟩ := hw
  obtain ⟨⟨f2, h4, hcl⟩, hlp⟩ := gLfs_open h6 hLf hk1
  have hh := gHold_of h6 hk1 hRL
  obtain ⟨⟨n, hn, hz, -⟩, hki, ⟨sn, hsn, hs9, hsp⟩, ⟨pn, hpn, hp9, hpok⟩, ⟨bn, hbn, hb9, hbk⟩, -⟩ := id hI
  refine lv_aload_n hx hb dL_law_785 rfl (lv_at hl 2 rfl) ?_
  refine lv_aload_n hx hb dL_law_786 rfl (lv_at hl 3 rfl) ?_
  refine lv_iload_n hx hb dL_law_787 rfl (lv_at hl 0 rfl) ?_
  refine lv_iconst (v := 1) hx hb dL_law_788 (by decide) ?_
  refine lv_iadd hx hb dL_law_789 ?_
  refine g_sld (j := (6 * k) + 1) hx hb hX hbl hS (gAdd rfl rfl) (by omega) hL dL_law_790 ?_
  refine g_ki (g_runV (T := TX11) (ci := 11) (N := 13) (rest := []) hx hb hml hown hE hT (c_X11_ends l G B lp π πk f2 μ α lk g acc hcl hI hlp n hz hn pn hp9 hpn (xs ((6 * k) + 1))) gM_X11_ends gm_L_96 gi_X11_ends gs_RX11_yX11_ends_yX11_ends rfl (gCN_at hCN) (gCW_v.mpr ⟨h4, hCN⟩) rfl hl.1 ⟨rfl, rfl⟩ ⟨Nat.le_of_ble_eq_true rfl, Nat.le_of_ble_eq_true rfl⟩ ⟨Nat.le_of_ble_eq_true rfl, Nat.le_of_ble_eq_true rfl⟩ rfl (Nat.le_of_ble_eq_true rfl) dL_law_791) hS (fun q hq => gAr_up hB hlp hq) (fun r1 H1 locs q1 k1 hS => ?_)
  obtain ⟨e1, hW⟩ := q1
  have hCN := (gCW_v.mp hW).2
  have h4 := (gCW_v.mp hW).1
  have hLf := gLfs_step h6 hLf hk1 h4 hcl k1
  have zM := gMA_free zM k1 (fun q a _ => gAr_no hlp a)
  refine lv_aload_n hx hb dL_law_794 rfl (lv_at hl 1 rfl) ?_
  refine lv_aload_n hx hb dL_law_795 rfl (lv_at hl 3 rfl) ?_
  refine lv_iload_n hx hb dL_law_796 rfl (lv_at hl 0 rfl) ?_
  refine lv_iconst (v := 1) hx hb dL_law_797 (by decide) ?_
  refine lv_iadd hx hb dL_law_798 ?_
  refine g_sld (j := (6 * k) + 1) hx hb hX hbl hS (gAdd rfl rfl) (by omega) hL dL_law_799 ?_
  obtain ⟨fs9, hat⟩ := gMA_at zM
  refine g_ki (g_runV (T := TX12) (ci := 12) (N := 45) (rest := [.int r1]) hx hb hml hown hE hT (c_X12_ends l G (B + 156) π μ f g n hz hn pn hp9 hpn hpok (gLof acc) hh (xs ((6 * k) + 1))) gM_X12_ends gm_L_99 gi_X12_ends gs_RX12_yX12_ends_yX12_ends rfl hat zM rfl hl.1 ⟨rfl, rfl⟩ ⟨Nat.le_of_ble_eq_true rfl, Nat.le_of_ble_eq_true rfl⟩ ⟨Nat.le_of_ble_eq_true rfl, Nat.le_of_ble_eq_true rfl⟩ rfl (Nat.le_of_ble_eq_true rfl) dL_law_800) hS (fun q h => Nat.le_trans hB (Nat.le_trans (Nat.le_add_right _ _) h.1)) (fun r2 H2 locs q2 k2 hS => ?_)
  obtain ⟨e2, zM⟩ := q2
  have zM : gMA G (B + 156) π μ f g H2 := zM
  obtain ⟨hCN, hLf⟩ := gWC_free h6 ⟨hCN, hLf⟩ k2 (fun q _ a h => absurd a (Nat.not_lt.mpr h.1))
  refine lv_icmp_eq (tgt := 1248) hx hb dL_law_803 (by decide) (fun _ => ?_) (fun c9 => absurd (e1.trans e2.symm) c9)
  exact kk _ _ _ ⟨π, πk, μ, α, f, g, lc, lp, lk, A, acc, acck, ⟨hI, hIk, hTA, ⟨rn, hrn, hr9⟩, hTs, ⟨tn, htn, hTn⟩, hlc, h6, hk1, hk2, hRL, him⟩, ⟨hCN, hLf⟩, zM⟩ hS hl

set_option maxHeartbeats 4000000 in
set_option maxRecDepth 100000 in
theorem law_book {p : Program} {l : Launch} {e : Env} {s : State} {m : MethodId} {below : List Frame} {meth : Method} {c : Code} {G : gW} {b0 L : Nat} {xs : Nat → Int32} (hL : L ≤ 3072) (C0 : gLC G p s m meth c b0 L xs) {k B : Nat} (hk6 : 6 * k + 6 ≤ L) (hB : s.heap.size ≤ B) {H : Heap} {locs : List Loc} (hw : gWo G B (B + 156) H) (hS : va_S (fun q => s.heap.size ≤ q) s.heap H locs) {ls : Array Slot} (hl : lv_has ls 4 [(3, .int (nI (6 * k))), (2, .ref (B + 156)), (1, .ref B), (0, .ref b0)]) {Q : State → Prop} (kk : ∀ (H1 : Heap) (locs1 : List Loc) (ls1 : Array Slot), gWo G B (B + 156) H1 → va_S (fun q => s.heap.size ≤ q) s.heap H1 locs1 → lv_has ls1 4 [(3, .int (nI (6 * k))), (2, .ref (B + 156)), (1, .ref B), (0, .ref b0)] → W p l e room_1 s m #[Value.ref b0] below meth c H1 locs1 186 5311 Q (F0 m 1248 ls1 [])) : W p l e room_1 s m #[Value.ref b0] below meth c H locs 186 5311 Q (F0 m 808 ls []) := by
  obtain ⟨hx, hb, hml, hown, hT, hX, hbl, hE2, hG9⟩ := C0
  have hE := hE2.1
  have hK := hE.2.1
  obtain ⟨π, πk, μ, α, f, g, lc, lp, lk, A, acc, acck, ⟨hI, hIk, hTA, ⟨rn, hrn, hr9⟩, hTs, ⟨tn, htn, hTn⟩, hlc, h6, hk1, hk2, hRL, him⟩, ⟨hCN, hLf⟩, zM⟩ := hw
  obtain ⟨⟨f2, h4, hcl⟩, hlp⟩ := gLfs_open h6 hLf hk1
  have hh := gHold_of h6 hk1 hRL
  obtain ⟨⟨n, hn, hz, -⟩, hki, ⟨sn, hsn, hs9, hsp⟩, ⟨pn, hpn, hp9, hpok⟩, ⟨bn, hbn, hb9, hbk⟩, -⟩ := id hI
  refine lv_aload_n hx hb dL_law_808 rfl (lv_at hl 2 rfl) ?_
  refine lv_aload_n hx hb dL_law_809 rfl (lv_at hl 3 rfl) ?_
  refine lv_iload_n hx hb dL_law_810 rfl (lv_at hl 0 rfl) ?_
  refine lv_iconst (v := 1) hx hb dL_law_811 (by decide) ?_
  refine lv_iadd hx hb dL_law_812 ?_
  refine g_sld (j := (6 * k) + 1) hx hb hX hbl hS (gAdd rfl rfl) (by omega) hL dL_law_813 ?_
  refine lv_aload_n hx hb dL_law_814 rfl (lv_at hl 3 rfl) ?_
  refine lv_iload_n hx hb dL_law_815 rfl (lv_at hl 0 rfl) ?_
  refine lv_iconst (v := 2) hx hb dL_law_816 (by decide) ?_
  refine lv_iadd hx hb dL_law_817 ?_
  refine g_sld (j := (6 * k) + 2) hx hb hX hbl hS (gAdd rfl rfl) (by omega) hL dL_law_818 ?_
  refine g_ki (g_runV (T := TX11) (ci := 11) (N := 13) (rest := []) hx hb hml hown hE hT (c_X11_book l G B lp π πk f2 μ α lk g acc hcl hI hlp  (xs ((6 * k) + 1)) (xs ((6 * k) + 2))) gM_X11_book gm_L_100 gi_X11_book gs_RX11_yX11_book_yX11_book rfl (gCN_at hCN) (gCW_v.mpr ⟨h4, hCN⟩) rfl hl.1 ⟨rfl, rfl⟩ ⟨Nat.le_of_ble_eq_true rfl, Nat.le_of_ble_eq_true rfl⟩ ⟨Nat.le_of_ble_eq_true rfl, Nat.le_of_ble_eq_true rfl⟩ rfl (Nat.le_of_ble_eq_true rfl) dL_law_819) hS (fun q hq => gAr_up hB hlp hq) (fun r1 H1 locs q1 k1 hS => ?_)
  obtain ⟨e1, hW⟩ := q1
  have hCN := (gCW_v.mp hW).2
  have h4 := (gCW_v.mp hW).1
  have hLf := gLfs_step h6 hLf hk1 h4 hcl k1
  have zM := gMA_free zM k1 (fun q a _ => gAr_no hlp a)
  refine lv_aload_n hx hb dL_law_822 rfl (lv_at hl 1 rfl) ?_
  refine lv_aload_n hx hb dL_law_823 rfl (lv_at hl 3 rfl) ?_
  refine lv_iload_n hx hb dL_law_824 rfl (lv_at hl 0 rfl) ?_
  refine lv_iconst (v := 1) hx hb dL_law_825 (by decide) ?_
  refine lv_iadd hx hb dL_law_826 ?_
  refine g_sld (j := (6 * k) + 1) hx hb hX hbl hS (gAdd rfl rfl) (by omega) hL dL_law_827 ?_
  refine lv_aload_n hx hb dL_law_828 rfl (lv_at hl 3 rfl) ?_
  refine lv_iload_n hx hb dL_law_829 rfl (lv_at hl 0 rfl) ?_
  refine lv_iconst (v := 2) hx hb dL_law_830 (by decide) ?_
  refine lv_iadd hx hb dL_law_831 ?_
  refine g_sld (j := (6 * k) + 2) hx hb hX hbl hS (gAdd rfl rfl) (by omega) hL dL_law_832 ?_
  obtain ⟨fs9, hat⟩ := gMA_at zM
  obtain ⟨sA, s7, zM⟩ := zM
  refine g_ki (g_runV (T := TX12) (ci := 12) (N := 45) (rest := [.int r1]) hx hb hml hown hE hT (c_X12_book l G (B + 156) π μ (gR (gR f 10 sA) 7 s7) g bn hb9 hbn (xs ((6 * k) + 1)) (xs ((6 * k) + 2))) gM_X12_book gm_L_103 gi_X12_book gs_RX12_yX12_book_yX12_book rfl hat zM rfl hl.1 ⟨rfl, rfl⟩ ⟨Nat.le_of_ble_eq_true rfl, Nat.le_of_ble_eq_true rfl⟩ ⟨Nat.le_of_ble_eq_true rfl, Nat.le_of_ble_eq_true rfl⟩ rfl (Nat.le_of_ble_eq_true rfl) dL_law_833) hS (fun q h => Nat.le_trans hB (Nat.le_trans (Nat.le_add_right _ _) h.1)) (fun r2 H2 locs q2 k2 hS => ?_)
  obtain ⟨e2, zM⟩ := q2
  have zM : gMA G (B + 156) (gqBook π (xs (6 * k + 1)) (xs (6 * k + 2))).2 μ f g H2 := ⟨sA, s7, zM⟩
  obtain ⟨hCN, hLf⟩ := gWC_free h6 ⟨hCN, hLf⟩ k2 (fun q _ a h => absurd a (Nat.not_lt.mpr h.1))
  refine lv_icmp_eq (tgt := 1248) hx hb dL_law_836 (by decide) (fun _ => ?_) (fun c9 => absurd (e1.trans e2.symm) c9)
  exact kk _ _ _ ⟨(gqBook π (xs (6 * k + 1)) (xs (6 * k + 2))).2, πk, μ, α, f, g, lc, lp, lk, A, acc, acck, ⟨(gInv_book hI), hIk, hTA, ⟨rn, hrn, hr9⟩, hTs, ⟨tn, htn, hTn⟩, hlc, h6, (gLk_same hk1 gH_book), hk2, hRL, him⟩, ⟨hCN, hLf⟩, zM⟩ hS hl

set_option maxHeartbeats 4000000 in
set_option maxRecDepth 100000 in
theorem law_looked {p : Program} {l : Launch} {e : Env} {s : State} {m : MethodId} {below : List Frame} {meth : Method} {c : Code} {G : gW} {b0 L : Nat} {xs : Nat → Int32} (hL : L ≤ 3072) (C0 : gLC G p s m meth c b0 L xs) {k B : Nat} (hk6 : 6 * k + 6 ≤ L) (hB : s.heap.size ≤ B) {H : Heap} {locs : List Loc} (hw : gWo G B (B + 156) H) (hS : va_S (fun q => s.heap.size ≤ q) s.heap H locs) {ls : Array Slot} (hl : lv_has ls 4 [(3, .int (nI (6 * k))), (2, .ref (B + 156)), (1, .ref B), (0, .ref b0)]) {Q : State → Prop} (kk : ∀ (H1 : Heap) (locs1 : List Loc) (ls1 : Array Slot), gWo G B (B + 156) H1 → va_S (fun q => s.heap.size ≤ q) s.heap H1 locs1 → lv_has ls1 4 [(3, .int (nI (6 * k))), (2, .ref (B + 156)), (1, .ref B), (0, .ref b0)] → W p l e room_1 s m #[Value.ref b0] below meth c H1 locs1 186 5311 Q (F0 m 1248 ls1 [])) : W p l e room_1 s m #[Value.ref b0] below meth c H locs 186 5311 Q (F0 m 841 ls []) := by
  obtain ⟨hx, hb, hml, hown, hT, hX, hbl, hE2, hG9⟩ := C0
  have hE := hE2.1
  have hK := hE.2.1
  obtain ⟨π, πk, μ, α, f, g, lc, lp, lk, A, acc, acck, ⟨hI, hIk, hTA, ⟨rn, hrn, hr9⟩, hTs, ⟨tn, htn, hTn⟩, hlc, h6, hk1, hk2, hRL, him⟩, ⟨hCN, hLf⟩, zM⟩ := hw
  obtain ⟨⟨f2, h4, hcl⟩, hlp⟩ := gLfs_open h6 hLf hk1
  have hh := gHold_of h6 hk1 hRL
  obtain ⟨⟨n, hn, hz, -⟩, hki, ⟨sn, hsn, hs9, hsp⟩, ⟨pn, hpn, hp9, hpok⟩, ⟨bn, hbn, hb9, hbk⟩, -⟩ := id hI
  refine lv_aload_n hx hb dL_law_841 rfl (lv_at hl 2 rfl) ?_
  refine g_ki (g_runV (T := TX11) (ci := 11) (N := 13) (rest := []) hx hb hml hown hE hT (c_X11_looked l G B lp π πk f2 μ α lk g acc hcl hI hlp bn hb9 hbn ) gM_X11_looked gm_L_104 gi_X11_looked gs_RX11_yX11_looked_yX11_looked rfl (gCN_at hCN) (gCW_v.mpr ⟨h4, hCN⟩) rfl hl.1 ⟨rfl, rfl⟩ ⟨Nat.le_of_ble_eq_true rfl, Nat.le_of_ble_eq_true rfl⟩ ⟨Nat.le_of_ble_eq_true rfl, Nat.le_of_ble_eq_true rfl⟩ rfl (Nat.le_of_ble_eq_true rfl) dL_law_842) hS (fun q hq => gAr_up hB hlp hq) (fun r1 H1 locs q1 k1 hS => ?_)
  obtain ⟨e1, hW⟩ := q1
  have hCN := (gCW_v.mp hW).2
  have h4 := (gCW_v.mp hW).1
  have hLf := gLfs_step h6 hLf hk1 h4 hcl k1
  have zM := gMA_free zM k1 (fun q a _ => gAr_no hlp a)
  refine lv_aload_n hx hb dL_law_845 rfl (lv_at hl 1 rfl) ?_
  obtain ⟨fs9, hat⟩ := gMA_at zM
  obtain ⟨sA, s7, zM⟩ := zM
  refine g_ki (g_runV (T := TX12) (ci := 12) (N := 45) (rest := [.int r1]) hx hb hml hown hE hT (c_X12_looked l G (B + 156) π μ (gR (gR f 10 sA) 7 s7) g bn hb9 hbn (gBk hbk) ) gM_X12_looked gm_L_107 gi_X12_looked gs_RX12_yX12_looked_yX12_looked rfl hat zM rfl hl.1 ⟨rfl, rfl⟩ ⟨Nat.le_of_ble_eq_true rfl, Nat.le_of_ble_eq_true rfl⟩ ⟨Nat.le_of_ble_eq_true rfl, Nat.le_of_ble_eq_true rfl⟩ rfl (Nat.le_of_ble_eq_true rfl) dL_law_846) hS (fun q h => h.elim) (fun r2 H2 locs q2 k2 hS => ?_)
  have e2 := q2
  have zM : gMA G (B + 156) π μ f g H2 := gMA_free ⟨sA, s7, zM⟩ k2 (fun _ _ _ h => h)
  obtain ⟨hCN, hLf⟩ := gWC_free h6 ⟨hCN, hLf⟩ k2 (fun _ _ _ h => h)
  refine lv_icmp_eq (tgt := 1248) hx hb dL_law_849 (by decide) (fun _ => ?_) (fun c9 => absurd (e1.trans e2.symm) c9)
  exact kk _ _ _ ⟨π, πk, μ, α, f, g, lc, lp, lk, A, acc, acck, ⟨hI, hIk, hTA, ⟨rn, hrn, hr9⟩, hTs, ⟨tn, htn, hTn⟩, hlc, h6, hk1, hk2, hRL, him⟩, ⟨hCN, hLf⟩, zM⟩ hS hl

set_option maxHeartbeats 4000000 in
set_option maxRecDepth 100000 in
theorem law_judge {p : Program} {l : Launch} {e : Env} {s : State} {m : MethodId} {below : List Frame} {meth : Method} {c : Code} {G : gW} {b0 L : Nat} {xs : Nat → Int32} (hL : L ≤ 3072) (C0 : gLC G p s m meth c b0 L xs) {k B : Nat} (hk6 : 6 * k + 6 ≤ L) (hB : s.heap.size ≤ B) {H : Heap} {locs : List Loc} (hw : gWo G B (B + 156) H) (hS : va_S (fun q => s.heap.size ≤ q) s.heap H locs) {ls : Array Slot} (hl : lv_has ls 4 [(3, .int (nI (6 * k))), (2, .ref (B + 156)), (1, .ref B), (0, .ref b0)]) {Q : State → Prop} (kk : ∀ (H1 : Heap) (locs1 : List Loc) (ls1 : Array Slot), gWo G B (B + 156) H1 → va_S (fun q => s.heap.size ≤ q) s.heap H1 locs1 → lv_has ls1 4 [(3, .int (nI (6 * k))), (2, .ref (B + 156)), (1, .ref B), (0, .ref b0)] → W p l e room_1 s m #[Value.ref b0] below meth c H1 locs1 186 5311 Q (F0 m 1248 ls1 [])) : W p l e room_1 s m #[Value.ref b0] below meth c H locs 186 5311 Q (F0 m 854 ls []) := by
  obtain ⟨hx, hb, hml, hown, hT, hX, hbl, hE2, hG9⟩ := C0
  have hE := hE2.1
  have hK := hE.2.1
  obtain ⟨π, πk, μ, α, f, g, lc, lp, lk, A, acc, acck, ⟨hI, hIk, hTA, ⟨rn, hrn, hr9⟩, hTs, ⟨tn, htn, hTn⟩, hlc, h6, hk1, hk2, hRL, him⟩, ⟨hCN, hLf⟩, zM⟩ := hw
  obtain ⟨⟨f2, h4, hcl⟩, hlp⟩ := gLfs_open h6 hLf hk1
  have hh := gHold_of h6 hk1 hRL
  obtain ⟨⟨n, hn, hz, -⟩, hki, ⟨sn, hsn, hs9, hsp⟩, ⟨pn, hpn, hp9, hpok⟩, ⟨bn, hbn, hb9, hbk⟩, -⟩ := id hI
  refine lv_aload_n hx hb dL_law_854 rfl (lv_at hl 2 rfl) ?_
  refine lv_aload_n hx hb dL_law_855 rfl (lv_at hl 3 rfl) ?_
  refine lv_iload_n hx hb dL_law_856 rfl (lv_at hl 0 rfl) ?_
  refine lv_iconst (v := 1) hx hb dL_law_857 (by decide) ?_
  refine lv_iadd hx hb dL_law_858 ?_
  refine g_sld (j := (6 * k) + 1) hx hb hX hbl hS (gAdd rfl rfl) (by omega) hL dL_law_859 ?_
  refine lv_aload_n hx hb dL_law_860 rfl (lv_at hl 3 rfl) ?_
  refine lv_iload_n hx hb dL_law_861 rfl (lv_at hl 0 rfl) ?_
  refine lv_iconst (v := 2) hx hb dL_law_862 (by decide) ?_
  refine lv_iadd hx hb dL_law_863 ?_
  refine g_sld (j := (6 * k) + 2) hx hb hX hbl hS (gAdd rfl rfl) (by omega) hL dL_law_864 ?_
  refine g_ki (g_runV (T := TX11) (ci := 11) (N := 13) (rest := []) hx hb hml hown hE hT (c_X11_judge l G B lp π πk f2 μ α lk g acc hcl hI hlp hTs (xs ((6 * k) + 1)) (xs ((6 * k) + 2))) gM_X11_judge gm_L_108 gi_X11_judge gs_RX11_yX11_judge_yX11_judge rfl (gCN_at hCN) (gCW_v.mpr ⟨h4, hCN⟩) rfl hl.1 ⟨rfl, rfl⟩ ⟨Nat.le_of_ble_eq_true rfl, Nat.le_of_ble_eq_true rfl⟩ ⟨Nat.le_of_ble_eq_true rfl, Nat.le_of_ble_eq_true rfl⟩ rfl (Nat.le_of_ble_eq_true rfl) dL_law_865) hS (fun q hq => gAr_up hB hlp hq) (fun r1 H1 locs q1 k1 hS => ?_)
  obtain ⟨e1, hW⟩ := q1
  have hCN := (gCW_v.mp hW).2
  have h4 := (gCW_v.mp hW).1
  have hLf := gLfs_step h6 hLf hk1 h4 hcl k1
  have zM := gMA_free zM k1 (fun q a _ => gAr_no hlp a)
  refine lv_aload_n hx hb dL_law_868 rfl (lv_at hl 1 rfl) ?_
  refine lv_aload_n hx hb dL_law_869 rfl (lv_at hl 3 rfl) ?_
  refine lv_iload_n hx hb dL_law_870 rfl (lv_at hl 0 rfl) ?_
  refine lv_iconst (v := 1) hx hb dL_law_871 (by decide) ?_
  refine lv_iadd hx hb dL_law_872 ?_
  refine g_sld (j := (6 * k) + 1) hx hb hX hbl hS (gAdd rfl rfl) (by omega) hL dL_law_873 ?_
  refine lv_aload_n hx hb dL_law_874 rfl (lv_at hl 3 rfl) ?_
  refine lv_iload_n hx hb dL_law_875 rfl (lv_at hl 0 rfl) ?_
  refine lv_iconst (v := 2) hx hb dL_law_876 (by decide) ?_
  refine lv_iadd hx hb dL_law_877 ?_
  refine g_sld (j := (6 * k) + 2) hx hb hX hbl hS (gAdd rfl rfl) (by omega) hL dL_law_878 ?_
  obtain ⟨fs9, hat⟩ := gMA_at zM
  obtain ⟨sA, s7, zM⟩ := zM
  refine g_ki (g_runV (T := TX12) (ci := 12) (N := 45) (rest := [.int r1]) hx hb hml hown hE hT (c_X12_judge l G (B + 156) π μ (gR (gR f 10 sA) 7 s7) g (gTpe_z hTs) (xs ((6 * k) + 1)) (xs ((6 * k) + 2))) gM_X12_judge gm_L_111 gi_X12_judge gs_RX12_yX12_judge_yX12_judge rfl hat zM rfl hl.1 ⟨rfl, rfl⟩ ⟨Nat.le_of_ble_eq_true rfl, Nat.le_of_ble_eq_true rfl⟩ ⟨Nat.le_of_ble_eq_true rfl, Nat.le_of_ble_eq_true rfl⟩ rfl (Nat.le_of_ble_eq_true rfl) dL_law_879) hS (fun q h => h.elim) (fun r2 H2 locs q2 k2 hS => ?_)
  have e2 := q2
  have zM : gMA G (B + 156) π μ f g H2 := gMA_free ⟨sA, s7, zM⟩ k2 (fun _ _ _ h => h)
  obtain ⟨hCN, hLf⟩ := gWC_free h6 ⟨hCN, hLf⟩ k2 (fun _ _ _ h => h)
  refine lv_icmp_eq (tgt := 1248) hx hb dL_law_882 (by decide) (fun _ => ?_) (fun c9 => absurd (e1.trans e2.symm) c9)
  exact kk _ _ _ ⟨π, πk, μ, α, f, g, lc, lp, lk, A, acc, acck, ⟨hI, hIk, hTA, ⟨rn, hrn, hr9⟩, hTs, ⟨tn, htn, hTn⟩, hlc, h6, hk1, hk2, hRL, him⟩, ⟨hCN, hLf⟩, zM⟩ hS hl

set_option maxHeartbeats 4000000 in
set_option maxRecDepth 100000 in
theorem law_trace {p : Program} {l : Launch} {e : Env} {s : State} {m : MethodId} {below : List Frame} {meth : Method} {c : Code} {G : gW} {b0 L : Nat} {xs : Nat → Int32} (hL : L ≤ 3072) (C0 : gLC G p s m meth c b0 L xs) {k B : Nat} (hk6 : 6 * k + 6 ≤ L) (hB : s.heap.size ≤ B) {H : Heap} {locs : List Loc} (hw : gWo G B (B + 156) H) (hS : va_S (fun q => s.heap.size ≤ q) s.heap H locs) {ls : Array Slot} (hl : lv_has ls 4 [(3, .int (nI (6 * k))), (2, .ref (B + 156)), (1, .ref B), (0, .ref b0)]) {Q : State → Prop} (kk : ∀ (H1 : Heap) (locs1 : List Loc) (ls1 : Array Slot), gWo G B (B + 156) H1 → va_S (fun q => s.heap.size ≤ q) s.heap H1 locs1 → lv_has ls1 4 [(3, .int (nI (6 * k))), (2, .ref (B + 156)), (1, .ref B), (0, .ref b0)] → W p l e room_1 s m #[Value.ref b0] below meth c H1 locs1 186 5311 Q (F0 m 1248 ls1 [])) : W p l e room_1 s m #[Value.ref b0] below meth c H locs 186 5311 Q (F0 m 956 ls []) := by
  obtain ⟨hx, hb, hml, hown, hT, hX, hbl, hE2, hG9⟩ := C0
  have hE := hE2.1
  have hK := hE.2.1
  obtain ⟨π, πk, μ, α, f, g, lc, lp, lk, A, acc, acck, ⟨hI, hIk, hTA, ⟨rn, hrn, hr9⟩, hTs, ⟨tn, htn, hTn⟩, hlc, h6, hk1, hk2, hRL, him⟩, ⟨hCN, hLf⟩, zM⟩ := hw
  obtain ⟨⟨f2, h4, hcl⟩, hlp⟩ := gLfs_open h6 hLf hk1
  have hh := gHold_of h6 hk1 hRL
  obtain ⟨⟨n, hn, hz, -⟩, hki, ⟨sn, hsn, hs9, hsp⟩, ⟨pn, hpn, hp9, hpok⟩, ⟨bn, hbn, hb9, hbk⟩, -⟩ := id hI
  refine lv_aload_n hx hb dL_law_956 rfl (lv_at hl 2 rfl) ?_
  refine lv_aload_n hx hb dL_law_957 rfl (lv_at hl 3 rfl) ?_
  refine lv_iload_n hx hb dL_law_958 rfl (lv_at hl 0 rfl) ?_
  refine lv_iconst (v := 1) hx hb dL_law_959 (by decide) ?_
  refine lv_iadd hx hb dL_law_960 ?_
  refine g_sld (j := (6 * k) + 1) hx hb hX hbl hS (gAdd rfl rfl) (by omega) hL dL_law_961 ?_
  refine g_ki (g_runV (T := TX11) (ci := 11) (N := 13) (rest := []) hx hb hml hown hE hT (c_X11_trace l G B lp π πk f2 μ α lk g acc hcl hI hlp hTA.2 hTA.1 (xs ((6 * k) + 1))) gM_X11_trace gm_L_124 gi_X11_trace gs_RX11_yX11_trace_yX11_trace rfl (gCN_at hCN) (gCW_v.mpr ⟨h4, hCN⟩) rfl hl.1 ⟨rfl, rfl⟩ ⟨Nat.le_of_ble_eq_true rfl, Nat.le_of_ble_eq_true rfl⟩ ⟨Nat.le_of_ble_eq_true rfl, Nat.le_of_ble_eq_true rfl⟩ rfl (Nat.le_of_ble_eq_true rfl) dL_law_962) hS (fun q hq => gAr_up hB hlp hq) (fun r1 H1 locs q1 k1 hS => ?_)
  obtain ⟨e1, hW⟩ := q1
  have hCN := (gCW_v.mp hW).2
  have h4 := (gCW_v.mp hW).1
  have hLf := gLfs_step h6 hLf hk1 h4 hcl k1
  have zM := gMA_free zM k1 (fun q a _ => gAr_no hlp a)
  refine lv_aload_n hx hb dL_law_965 rfl (lv_at hl 1 rfl) ?_
  refine lv_aload_n hx hb dL_law_966 rfl (lv_at hl 3 rfl) ?_
  refine lv_iload_n hx hb dL_law_967 rfl (lv_at hl 0 rfl) ?_
  refine lv_iconst (v := 1) hx hb dL_law_968 (by decide) ?_
  refine lv_iadd hx hb dL_law_969 ?_
  refine g_sld (j := (6 * k) + 1) hx hb hX hbl hS (gAdd rfl rfl) (by omega) hL dL_law_970 ?_
  obtain ⟨fs9, hat⟩ := gMA_at zM
  obtain ⟨sA, s7, zM⟩ := zM
  refine g_ki (g_runV (T := TX12) (ci := 12) (N := 45) (rest := [.int r1]) hx hb hml hown hE hT (c_X12_trace l G (B + 156) π μ (gR (gR f 10 sA) 7 s7) g rn hr9 hrn (xs ((6 * k) + 1))) gM_X12_trace gm_L_127 gi_X12_trace gs_RX12_yX12_trace_yX12_trace rfl hat zM rfl hl.1 ⟨rfl, rfl⟩ ⟨Nat.le_of_ble_eq_true rfl, Nat.le_of_ble_eq_true rfl⟩ ⟨Nat.le_of_ble_eq_true rfl, Nat.le_of_ble_eq_true rfl⟩ rfl (Nat.le_of_ble_eq_true rfl) dL_law_971) hS (fun q h => h.elim) (fun r2 H2 locs q2 k2 hS => ?_)
  have e2 := q2
  have zM : gMA G (B + 156) π μ f g H2 := gMA_free ⟨sA, s7, zM⟩ k2 (fun _ _ _ h => h)
  obtain ⟨hCN, hLf⟩ := gWC_free h6 ⟨hCN, hLf⟩ k2 (fun _ _ _ h => h)
  refine lv_icmp_eq (tgt := 1248) hx hb dL_law_974 (by decide) (fun _ => ?_) (fun c9 => absurd (e1.trans e2.symm) c9)
  exact kk _ _ _ ⟨π, πk, μ, α, f, g, lc, lp, lk, A, acc, acck, ⟨hI, hIk, hTA, ⟨rn, hrn, hr9⟩, hTs, ⟨tn, htn, hTn⟩, hlc, h6, hk1, hk2, hRL, him⟩, ⟨hCN, hLf⟩, zM⟩ hS hl

set_option maxHeartbeats 4000000 in
set_option maxRecDepth 100000 in
theorem law_taken {p : Program} {l : Launch} {e : Env} {s : State} {m : MethodId} {below : List Frame} {meth : Method} {c : Code} {G : gW} {b0 L : Nat} {xs : Nat → Int32} (hL : L ≤ 3072) (C0 : gLC G p s m meth c b0 L xs) {k B : Nat} (hk6 : 6 * k + 6 ≤ L) (hB : s.heap.size ≤ B) {H : Heap} {locs : List Loc} (hw : gWo G B (B + 156) H) (hS : va_S (fun q => s.heap.size ≤ q) s.heap H locs) {ls : Array Slot} (hl : lv_has ls 4 [(3, .int (nI (6 * k))), (2, .ref (B + 156)), (1, .ref B), (0, .ref b0)]) {Q : State → Prop} (kk : ∀ (H1 : Heap) (locs1 : List Loc) (ls1 : Array Slot), gWo G B (B + 156) H1 → va_S (fun q => s.heap.size ≤ q) s.heap H1 locs1 → lv_has ls1 4 [(3, .int (nI (6 * k))), (2, .ref (B + 156)), (1, .ref B), (0, .ref b0)] → W p l e room_1 s m #[Value.ref b0] below meth c H1 locs1 186 5311 Q (F0 m 1248 ls1 [])) : W p l e room_1 s m #[Value.ref b0] below meth c H locs 186 5311 Q (F0 m 979 ls []) := by
  obtain ⟨hx, hb, hml, hown, hT, hX, hbl, hE2, hG9⟩ := C0
  have hE := hE2.1
  have hK := hE.2.1
  obtain ⟨π, πk, μ, α, f, g, lc, lp, lk, A, acc, acck, ⟨hI, hIk, hTA, ⟨rn, hrn, hr9⟩, hTs, ⟨tn, htn, hTn⟩, hlc, h6, hk1, hk2, hRL, him⟩, ⟨hCN, hLf⟩, zM⟩ := hw
  obtain ⟨⟨f2, h4, hcl⟩, hlp⟩ := gLfs_open h6 hLf hk1
  have hh := gHold_of h6 hk1 hRL
  obtain ⟨⟨n, hn, hz, -⟩, hki, ⟨sn, hsn, hs9, hsp⟩, ⟨pn, hpn, hp9, hpok⟩, ⟨bn, hbn, hb9, hbk⟩, -⟩ := id hI
  refine lv_aload_n hx hb dL_law_979 rfl (lv_at hl 2 rfl) ?_
  refine lv_aload_n hx hb dL_law_980 rfl (lv_at hl 3 rfl) ?_
  refine lv_iload_n hx hb dL_law_981 rfl (lv_at hl 0 rfl) ?_
  refine lv_iconst (v := 1) hx hb dL_law_982 (by decide) ?_
  refine lv_iadd hx hb dL_law_983 ?_
  refine g_sld (j := (6 * k) + 1) hx hb hX hbl hS (gAdd rfl rfl) (by omega) hL dL_law_984 ?_
  refine lv_aload_n hx hb dL_law_985 rfl (lv_at hl 3 rfl) ?_
  refine lv_iload_n hx hb dL_law_986 rfl (lv_at hl 0 rfl) ?_
  refine lv_iconst (v := 2) hx hb dL_law_987 (by decide) ?_
  refine lv_iadd hx hb dL_law_988 ?_
  refine g_sld (j := (6 * k) + 2) hx hb hX hbl hS (gAdd rfl rfl) (by omega) hL dL_law_989 ?_
  refine g_ki (g_runV (T := TX11) (ci := 11) (N := 13) (rest := []) hx hb hml hown hE hT (c_X11_taken l G B lp π πk f2 μ α lk g acc hcl hI hlp  (xs ((6 * k) + 1)) (xs ((6 * k) + 2))) gM_X11_taken gm_L_128 gi_X11_taken gs_RX11_yX11_taken_yX11_taken rfl (gCN_at hCN) (gCW_v.mpr ⟨h4, hCN⟩) rfl hl.1 ⟨rfl, rfl⟩ ⟨Nat.le_of_ble_eq_true rfl, Nat.le_of_ble_eq_true rfl⟩ ⟨Nat.le_of_ble_eq_true rfl, Nat.le_of_ble_eq_true rfl⟩ rfl (Nat.le_of_ble_eq_true rfl) dL_law_990) hS (fun q hq => gAr_up hB hlp hq) (fun r1 H1 locs q1 k1 hS => ?_)
  obtain ⟨e1, hW⟩ := q1
  have hCN := (gCW_v.mp hW).2
  have h4 := (gCW_v.mp hW).1
  have hLf := gLfs_step h6 hLf hk1 h4 hcl k1
  have zM := gMA_free zM k1 (fun q a _ => gAr_no hlp a)
  refine lv_aload_n hx hb dL_law_993 rfl (lv_at hl 1 rfl) ?_
  refine lv_aload_n hx hb dL_law_994 rfl (lv_at hl 3 rfl) ?_
  refine lv_iload_n hx hb dL_law_995 rfl (lv_at hl 0 rfl) ?_
  refine lv_iconst (v := 1) hx hb dL_law_996 (by decide) ?_
  refine lv_iadd hx hb dL_law_997 ?_
  refine g_sld (j := (6 * k) + 1) hx hb hX hbl hS (gAdd rfl rfl) (by omega) hL dL_law_998 ?_
  refine lv_aload_n hx hb dL_law_999 rfl (lv_at hl 3 rfl) ?_
  refine lv_iload_n hx hb dL_law_1000 rfl (lv_at hl 0 rfl) ?_
  refine lv_iconst (v := 2) hx hb dL_law_1001 (by decide) ?_
  refine lv_iadd hx hb dL_law_1002 ?_
  refine g_sld (j := (6 * k) + 2) hx hb hX hbl hS (gAdd rfl rfl) (by omega) hL dL_law_1003 ?_
  obtain ⟨fs9, hat⟩ := gMA_at zM
  obtain ⟨sA, s7, zM⟩ := zM
  refine g_ki (g_runV (T := TX12) (ci := 12) (N := 45) (rest := [.int r1]) hx hb hml hown hE hT (c_X12_taken l G (B + 156) π μ (gR (gR f 10 sA) 7 s7) g n hz hn (fun k hk => hki k (by omega)) (xs ((6 * k) + 1)) (xs ((6 * k) + 2))) gM_X12_taken gm_L_131 gi_X12_taken gs_RX12_yX12_taken_yX12_taken rfl hat zM rfl hl.1 ⟨rfl, rfl⟩ ⟨Nat.le_of_ble_eq_true rfl, Nat.le_of_ble_eq_true rfl⟩ ⟨Nat.le_of_ble_eq_true rfl, Nat.le_of_ble_eq_true rfl⟩ rfl (Nat.le_of_ble_eq_true rfl) dL_law_1004) hS (fun q h => h.elim) (fun r2 H2 locs q2 k2 hS => ?_)
  have e2 := q2
  have zM : gMA G (B + 156) π μ f g H2 := gMA_free ⟨sA, s7, zM⟩ k2 (fun _ _ _ h => h)
  obtain ⟨hCN, hLf⟩ := gWC_free h6 ⟨hCN, hLf⟩ k2 (fun _ _ _ h => h)
  refine lv_icmp_eq (tgt := 1248) hx hb dL_law_1007 (by decide) (fun _ => ?_) (fun c9 => absurd (e1.trans e2.symm) c9)
  exact kk _ _ _ ⟨π, πk, μ, α, f, g, lc, lp, lk, A, acc, acck, ⟨hI, hIk, hTA, ⟨rn, hrn, hr9⟩, hTs, ⟨tn, htn, hTn⟩, hlc, h6, hk1, hk2, hRL, him⟩, ⟨hCN, hLf⟩, zM⟩ hS hl

set_option maxHeartbeats 4000000 in
set_option maxRecDepth 100000 in
theorem law_count {p : Program} {l : Launch} {e : Env} {s : State} {m : MethodId} {below : List Frame} {meth : Method} {c : Code} {G : gW} {b0 L : Nat} {xs : Nat → Int32} (hL : L ≤ 3072) (C0 : gLC G p s m meth c b0 L xs) {k B : Nat} (hk6 : 6 * k + 6 ≤ L) (hB : s.heap.size ≤ B) {H : Heap} {locs : List Loc} (hw : gWo G B (B + 156) H) (hS : va_S (fun q => s.heap.size ≤ q) s.heap H locs) {ls : Array Slot} (hl : lv_has ls 4 [(3, .int (nI (6 * k))), (2, .ref (B + 156)), (1, .ref B), (0, .ref b0)]) {Q : State → Prop} (kk : ∀ (H1 : Heap) (locs1 : List Loc) (ls1 : Array Slot), gWo G B (B + 156) H1 → va_S (fun q => s.heap.size ≤ q) s.heap H1 locs1 → lv_has ls1 4 [(3, .int (nI (6 * k))), (2, .ref (B + 156)), (1, .ref B), (0, .ref b0)] → W p l e room_1 s m #[Value.ref b0] below meth c H1 locs1 186 5311 Q (F0 m 1248 ls1 [])) : W p l e room_1 s m #[Value.ref b0] below meth c H locs 186 5311 Q (F0 m 1012 ls []) := by
  obtain ⟨hx, hb, hml, hown, hT, hX, hbl, hE2, hG9⟩ := C0
  have hE := hE2.1
  have hK := hE.2.1
  obtain ⟨π, πk, μ, α, f, g, lc, lp, lk, A, acc, acck, ⟨hI, hIk, hTA, ⟨rn, hrn, hr9⟩, hTs, ⟨tn, htn, hTn⟩, hlc, h6, hk1, hk2, hRL, him⟩, ⟨hCN, hLf⟩, zM⟩ := hw
  obtain ⟨⟨f2, h4, hcl⟩, hlp⟩ := gLfs_open h6 hLf hk1
  have hh := gHold_of h6 hk1 hRL
  obtain ⟨⟨n, hn, hz, -⟩, hki, ⟨sn, hsn, hs9, hsp⟩, ⟨pn, hpn, hp9, hpok⟩, ⟨bn, hbn, hb9, hbk⟩, -⟩ := id hI
  refine lv_aload_n hx hb dL_law_1012 rfl (lv_at hl 2 rfl) ?_
  refine lv_aload_n hx hb dL_law_1013 rfl (lv_at hl 3 rfl) ?_
  refine lv_iload_n hx hb dL_law_1014 rfl (lv_at hl 0 rfl) ?_
  refine lv_iconst (v := 1) hx hb dL_law_1015 (by decide) ?_
  refine lv_iadd hx hb dL_law_1016 ?_
  refine g_sld (j := (6 * k) + 1) hx hb hX hbl hS (gAdd rfl rfl) (by omega) hL dL_law_1017 ?_
  refine g_ki (g_runV (T := TX11) (ci := 11) (N := 13) (rest := []) hx hb hml hown hE hT (c_X11_count l G B lp π πk f2 μ α lk g acc hcl hI hlp hTA.2 (xs ((6 * k) + 1))) gM_X11_count gm_L_132 gi_X11_count gs_RX11_yX11_count_yX11_count rfl (gCN_at hCN) (gCW_v.mpr ⟨h4, hCN⟩) rfl hl.1 ⟨rfl, rfl⟩ ⟨Nat.le_of_ble_eq_true rfl, Nat.le_of_ble_eq_true rfl⟩ ⟨Nat.le_of_ble_eq_true rfl, Nat.le_of_ble_eq_true rfl⟩ rfl (Nat.le_of_ble_eq_true rfl) dL_law_1018) hS (fun q hq => gAr_up hB hlp hq) (fun r1 H1 locs q1 k1 hS => ?_)
  obtain ⟨e1, hW⟩ := q1
  have hCN := (gCW_v.mp hW).2
  have h4 := (gCW_v.mp hW).1
  have hLf := gLfs_step h6 hLf hk1 h4 hcl k1
  have zM := gMA_free zM k1 (fun q a _ => gAr_no hlp a)
  refine lv_aload_n hx hb dL_law_1021 rfl (lv_at hl 1 rfl) ?_
  refine lv_aload_n hx hb dL_law_1022 rfl (lv_at hl 3 rfl) ?_
  refine lv_iload_n hx hb dL_law_1023 rfl (lv_at hl 0 rfl) ?_
  refine lv_iconst (v := 1) hx hb dL_law_1024 (by decide) ?_
  refine lv_iadd hx hb dL_law_1025 ?_
  refine g_sld (j := (6 * k) + 1) hx hb hX hbl hS (gAdd rfl rfl) (by omega) hL dL_law_1026 ?_
  obtain ⟨fs9, hat⟩ := gMA_at zM
  obtain ⟨sA, s7, zM⟩ := zM
  refine g_ki (g_runV (T := TX12) (ci := 12) (N := 45) (rest := [.int r1]) hx hb hml hown hE hT (c_X12_count l G (B + 156) π μ (gR (gR f 10 sA) 7 s7) g  (xs ((6 * k) + 1))) gM_X12_count gm_L_135 gi_X12_count gs_RX12_yX12_count_yX12_count rfl hat zM rfl hl.1 ⟨rfl, rfl⟩ ⟨Nat.le_of_ble_eq_true rfl, Nat.le_of_ble_eq_true rfl⟩ ⟨Nat.le_of_ble_eq_true rfl, Nat.le_of_ble_eq_true rfl⟩ rfl (Nat.le_of_ble_eq_true rfl) dL_law_1027) hS (fun q h => h.elim) (fun r2 H2 locs q2 k2 hS => ?_)
  have e2 := q2
  have zM : gMA G (B + 156) π μ f g H2 := gMA_free ⟨sA, s7, zM⟩ k2 (fun _ _ _ h => h)
  obtain ⟨hCN, hLf⟩ := gWC_free h6 ⟨hCN, hLf⟩ k2 (fun _ _ _ h => h)
  refine lv_icmp_eq (tgt := 1248) hx hb dL_law_1030 (by decide) (fun _ => ?_) (fun c9 => absurd (e1.trans e2.symm) c9)
  exact kk _ _ _ ⟨π, πk, μ, α, f, g, lc, lp, lk, A, acc, acck, ⟨hI, hIk, hTA, ⟨rn, hrn, hr9⟩, hTs, ⟨tn, htn, hTn⟩, hlc, h6, hk1, hk2, hRL, him⟩, ⟨hCN, hLf⟩, zM⟩ hS hl

set_option maxHeartbeats 4000000 in
set_option maxRecDepth 100000 in
theorem law_tape {p : Program} {l : Launch} {e : Env} {s : State} {m : MethodId} {below : List Frame} {meth : Method} {c : Code} {G : gW} {b0 L : Nat} {xs : Nat → Int32} (hL : L ≤ 3072) (C0 : gLC G p s m meth c b0 L xs) {k B : Nat} (hk6 : 6 * k + 6 ≤ L) (hB : s.heap.size ≤ B) {H : Heap} {locs : List Loc} (hw : gWo G B (B + 156) H) (hS : va_S (fun q => s.heap.size ≤ q) s.heap H locs) {ls : Array Slot} (hl : lv_has ls 4 [(3, .int (nI (6 * k))), (2, .ref (B + 156)), (1, .ref B), (0, .ref b0)]) {Q : State → Prop} (kk : ∀ (H1 : Heap) (locs1 : List Loc) (ls1 : Array Slot), gWo G B (B + 156) H1 → va_S (fun q => s.heap.size ≤ q) s.heap H1 locs1 → lv_has ls1 4 [(3, .int (nI (6 * k))), (2, .ref (B + 156)), (1, .ref B), (0, .ref b0)] → W p l e room_1 s m #[Value.ref b0] below meth c H1 locs1 186 5311 Q (F0 m 1248 ls1 [])) : W p l e room_1 s m #[Value.ref b0] below meth c H locs 186 5311 Q (F0 m 1035 ls []) := by
  obtain ⟨hx, hb, hml, hown, hT, hX, hbl, hE2, hG9⟩ := C0
  have hE := hE2.1
  have hK := hE.2.1
  obtain ⟨π, πk, μ, α, f, g, lc, lp, lk, A, acc, acck, ⟨hI, hIk, hTA, ⟨rn, hrn, hr9⟩, hTs, ⟨tn, htn, hTn⟩, hlc, h6, hk1, hk2, hRL, him⟩, ⟨hCN, hLf⟩, zM⟩ := hw
  obtain ⟨⟨f2, h4, hcl⟩, hlp⟩ := gLfs_open h6 hLf hk1
  have hh := gHold_of h6 hk1 hRL
  obtain ⟨⟨n, hn, hz, -⟩, hki, ⟨sn, hsn, hs9, hsp⟩, ⟨pn, hpn, hp9, hpok⟩, ⟨bn, hbn, hb9, hbk⟩, -⟩ := id hI
  refine lv_aload_n hx hb dL_law_1035 rfl (lv_at hl 2 rfl) ?_
  refine lv_aload_n hx hb dL_law_1036 rfl (lv_at hl 3 rfl) ?_
  refine lv_iload_n hx hb dL_law_1037 rfl (lv_at hl 0 rfl) ?_
  refine lv_iconst (v := 1) hx hb dL_law_1038 (by decide) ?_
  refine lv_iadd hx hb dL_law_1039 ?_
  refine g_sld (j := (6 * k) + 1) hx hb hX hbl hS (gAdd rfl rfl) (by omega) hL dL_law_1040 ?_
  refine lv_aload_n hx hb dL_law_1041 rfl (lv_at hl 3 rfl) ?_
  refine lv_iload_n hx hb dL_law_1042 rfl (lv_at hl 0 rfl) ?_
  refine lv_iconst (v := 2) hx hb dL_law_1043 (by decide) ?_
  refine lv_iadd hx hb dL_law_1044 ?_
  refine g_sld (j := (6 * k) + 2) hx hb hX hbl hS (gAdd rfl rfl) (by omega) hL dL_law_1045 ?_
  refine lv_aload_n hx hb dL_law_1046 rfl (lv_at hl 3 rfl) ?_
  refine lv_iload_n hx hb dL_law_1047 rfl (lv_at hl 0 rfl) ?_
  refine lv_iconst (v := 3) hx hb dL_law_1048 (by decide) ?_
  refine lv_iadd hx hb dL_law_1049 ?_
  refine g_sld (j := (6 * k) + 3) hx hb hX hbl hS (gAdd rfl rfl) (by omega) hL dL_law_1050 ?_
  refine g_ki (g_runV (T := TX11) (ci := 11) (N := 13) (rest := []) hx hb hml hown hE hT (c_X11_tape l G B lp π πk f2 μ α lk g acc hcl hI hlp hTs (xs ((6 * k) + 1)) (xs ((6 * k) + 2)) (xs ((6 * k) + 3))) gM_X11_tape gm_L_136 gi_X11_tape gs_RX11_yX11_tape_yX11_tape rfl (gCN_at hCN) (gCW_v.mpr ⟨h4, hCN⟩) rfl hl.1 ⟨rfl, rfl⟩ ⟨Nat.le_of_ble_eq_true rfl, Nat.le_of_ble_eq_true rfl⟩ ⟨Nat.le_of_ble_eq_true rfl, Nat.le_of_ble_eq_true rfl⟩ rfl (Nat.le_of_ble_eq_true rfl) dL_law_1051) hS (fun q hq => gAr_up hB hlp hq) (fun r1 H1 locs q1 k1 hS => ?_)
  obtain ⟨e1, hW⟩ := q1
  have hCN := (gCW_v.mp hW).2
  have h4 := (gCW_v.mp hW).1
  have hLf := gLfs_step h6 hLf hk1 h4 hcl k1
  have zM := gMA_free zM k1 (fun q a _ => gAr_no hlp a)
  refine lv_aload_n hx hb dL_law_1054 rfl (lv_at hl 1 rfl) ?_
  refine lv_aload_n hx hb dL_law_1055 rfl (lv_at hl 3 rfl) ?_
  refine lv_iload_n hx hb dL_law_1056 rfl (lv_at hl 0 rfl) ?_
  refine lv_iconst (v := 1) hx hb dL_law_1057 (by decide) ?_
  refine lv_iadd hx hb dL_law_1058 ?_
  refine g_sld (j := (6 * k) + 1) hx hb hX hbl hS (gAdd rfl rfl) (by omega) hL dL_law_1059 ?_
  refine lv_aload_n hx hb dL_law_1060 rfl (lv_at hl 3 rfl) ?_
  refine lv_iload_n hx hb dL_law_1061 rfl (lv_at hl 0 rfl) ?_
  refine lv_iconst (v := 2) hx hb dL_law_1062 (by decide) ?_
  refine lv_iadd hx hb dL_law_1063 ?_
  refine g_sld (j := (6 * k) + 2) hx hb hX hbl hS (gAdd rfl rfl) (by omega) hL dL_law_1064 ?_
  refine lv_aload_n hx hb dL_law_1065 rfl (lv_at hl 3 rfl) ?_
  refine lv_iload_n hx hb dL_law_1066 rfl (lv_at hl 0 rfl) ?_
  refine lv_iconst (v := 3) hx hb dL_law_1067 (by decide) ?_
  refine lv_iadd hx hb dL_law_1068 ?_
  refine g_sld (j := (6 * k) + 3) hx hb hX hbl hS (gAdd rfl rfl) (by omega) hL dL_law_1069 ?_
  obtain ⟨fs9, hat⟩ := gMA_at zM
  obtain ⟨sA, s7, zM⟩ := zM
  refine g_ki (g_runV (T := TX12) (ci := 12) (N := 45) (rest := [.int r1]) hx hb hml hown hE hT (c_X12_tape l G (B + 156) π μ (gR (gR f 10 sA) 7 s7) g  (xs ((6 * k) + 1)) (xs ((6 * k) + 2)) (xs ((6 * k) + 3))) gM_X12_tape gm_L_139 gi_X12_tape gs_RX12_yX12_tape_yX12_tape rfl hat zM rfl hl.1 ⟨rfl, rfl⟩ ⟨Nat.le_of_ble_eq_true rfl, Nat.le_of_ble_eq_true rfl⟩ ⟨Nat.le_of_ble_eq_true rfl, Nat.le_of_ble_eq_true rfl⟩ rfl (Nat.le_of_ble_eq_true rfl) dL_law_1070) hS (fun q h => Nat.le_trans hB (Nat.le_trans (Nat.le_add_right _ _) h.1)) (fun r2 H2 locs q2 k2 hS => ?_)
  obtain ⟨e2, zM⟩ := q2
  have zM : gMA G (B + 156) π (gqTape μ g (xs (6 * k + 1)) (xs (6 * k + 2)) (xs (6 * k + 3))).2.1 f (gqTape μ g (xs (6 * k + 1)) (xs (6 * k + 2)) (xs (6 * k + 3))).2.2 H2 := ⟨sA, s7, zM⟩
  obtain ⟨hCN, hLf⟩ := gWC_free h6 ⟨hCN, hLf⟩ k2 (fun q _ a h => absurd a (Nat.not_lt.mpr h.1))
  refine lv_icmp_eq (tgt := 1248) hx hb dL_law_1073 (by decide) (fun _ => ?_) (fun c9 => absurd (e1.trans e2.symm) c9)
  exact kk _ _ _ ⟨π, πk, (gqTape μ g (xs (6 * k + 1)) (xs (6 * k + 2)) (xs (6 * k + 3))).2.1, α, f, (gqTape μ g (xs (6 * k + 1)) (xs (6 * k + 2)) (xs (6 * k + 3))).2.2, lc, lp, lk, A, acc, acck, ⟨hI, hIk, ⟨hTA.1.trans (gqTape_r (by decide) (by decide)).symm, hTA.2.trans (congrFun (gqTape_r (by decide) (by decide)).symm 1)⟩, ⟨rn, hrn, (congrFun (gqTape_r (by decide) (by decide)) 1).trans hr9⟩, (gTpe_tape hTs), ⟨tn, (congrFun (gqTape_r (by decide) (by decide)) 0).trans htn, by rw [gqTape_r (by decide) (by decide)]; exact hTn⟩, ((congrFun (gqTape_r (by decide) (by decide)) 3).trans hlc), h6, hk1, hk2, hRL, (fun h9 => him (fun z9 => h9 ((congrFun (gqTape_r (by decide) (by decide)) 2).trans z9)))⟩, ⟨hCN, hLf⟩, zM⟩ hS hl

set_option maxHeartbeats 4000000 in
set_option maxRecDepth 100000 in
theorem law_read {p : Program} {l : Launch} {e : Env} {s : State} {m : MethodId} {below : List Frame} {meth : Method} {c : Code} {G : gW} {b0 L : Nat} {xs : Nat → Int32} (hL : L ≤ 3072) (C0 : gLC G p s m meth c b0 L xs) {k B : Nat} (hk6 : 6 * k + 6 ≤ L) (hB : s.heap.size ≤ B) {H : Heap} {locs : List Loc} (hw : gWo G B (B + 156) H) (hS : va_S (fun q => s.heap.size ≤ q) s.heap H locs) {ls : Array Slot} (hl : lv_has ls 4 [(3, .int (nI (6 * k))), (2, .ref (B + 156)), (1, .ref B), (0, .ref b0)]) {Q : State → Prop} (kk : ∀ (H1 : Heap) (locs1 : List Loc) (ls1 : Array Slot), gWo G B (B + 156) H1 → va_S (fun q => s.heap.size ≤ q) s.heap H1 locs1 → lv_has ls1 4 [(3, .int (nI (6 * k))), (2, .ref (B + 156)), (1, .ref B), (0, .ref b0)] → W p l e room_1 s m #[Value.ref b0] below meth c H1 locs1 186 5311 Q (F0 m 1248 ls1 [])) : W p l e room_1 s m #[Value.ref b0] below meth c H locs 186 5311 Q (F0 m 1151 ls []) := by
  obtain ⟨hx, hb, hml, hown, hT, hX, hbl, hE2, hG9⟩ := C0
  have hE := hE2.1
  have hK := hE.2.1
  obtain ⟨π, πk, μ, α, f, g, lc, lp, lk, A, acc, acck, ⟨hI, hIk, hTA, ⟨rn, hrn, hr9⟩, hTs, ⟨tn, htn, hTn⟩, hlc, h6, hk1, hk2, hRL, him⟩, ⟨hCN, hLf⟩, zM⟩ := hw
  obtain ⟨⟨f2, h4, hcl⟩, hlp⟩ := gLfs_open h6 hLf hk1
  have hh := gHold_of h6 hk1 hRL
  obtain ⟨⟨n, hn, hz, -⟩, hki, ⟨sn, hsn, hs9, hsp⟩, ⟨pn, hpn, hp9, hpok⟩, ⟨bn, hbn, hb9, hbk⟩, -⟩ := id hI
  refine lv_aload_n hx hb dL_law_1151 rfl (lv_at hl 2 rfl) ?_
  refine lv_aload_n hx hb dL_law_1152 rfl (lv_at hl 3 rfl) ?_
  refine lv_iload_n hx hb dL_law_1153 rfl (lv_at hl 0 rfl) ?_
  refine lv_iconst (v := 1) hx hb dL_law_1154 (by decide) ?_
  refine lv_iadd hx hb dL_law_1155 ?_
  refine g_sld (j := (6 * k) + 1) hx hb hX hbl hS (gAdd rfl rfl) (by omega) hL dL_law_1156 ?_
  refine lv_aload_n hx hb dL_law_1157 rfl (lv_at hl 3 rfl) ?_
  refine lv_iload_n hx hb dL_law_1158 rfl (lv_at hl 0 rfl) ?_
  refine lv_iconst (v := 2) hx hb dL_law_1159 (by decide) ?_
  refine lv_iadd hx hb dL_law_1160 ?_
  refine g_sld (j := (6 * k) + 2) hx hb hX hbl hS (gAdd rfl rfl) (by omega) hL dL_law_1161 ?_
  refine g_kl (g_runV (T := TX11) (ci := 11) (N := 13) (rest := []) hx hb hml hown hE hT (c_X11_read l G B lp π πk f2 μ α lk g acc hcl hI hlp hTs (xs ((6 * k) + 1)) (xs ((6 * k) + 2))) gM_X11_read gm_L_147 gi_X11_read gs_RX11_yX11_read_yX11_read rfl (gCN_at hCN) (gCW_v.mpr ⟨h4, hCN⟩) rfl hl.1 ⟨rfl, rfl⟩ ⟨Nat.le_of_ble_eq_true rfl, Nat.le_of_ble_eq_true rfl⟩ ⟨Nat.le_of_ble_eq_true rfl, Nat.le_of_ble_eq_true rfl⟩ rfl (Nat.le_of_ble_eq_true rfl) dL_law_1162) hS (fun q hq => gAr_up hB hlp hq) (fun r1 H1 locs q1 k1 hS => ?_)
  obtain ⟨e1, hW⟩ := q1
  have hCN := (gCW_v.mp hW).2
  have h4 := (gCW_v.mp hW).1
  have hLf := gLfs_step h6 hLf hk1 h4 hcl k1
  have zM := gMA_free zM k1 (fun q a _ => gAr_no hlp a)
  refine lv_aload_n hx hb dL_law_1165 rfl (lv_at hl 1 rfl) ?_
  refine lv_aload_n hx hb dL_law_1166 rfl (lv_at hl 3 rfl) ?_
  refine lv_iload_n hx hb dL_law_1167 rfl (lv_at hl 0 rfl) ?_
  refine lv_iconst (v := 1) hx hb dL_law_1168 (by decide) ?_
  refine lv_iadd hx hb dL_law_1169 ?_
  refine g_sld (j := (6 * k) + 1) hx hb hX hbl hS (gAdd rfl rfl) (by omega) hL dL_law_1170 ?_
  refine lv_aload_n hx hb dL_law_1171 rfl (lv_at hl 3 rfl) ?_
  refine lv_iload_n hx hb dL_law_1172 rfl (lv_at hl 0 rfl) ?_
  refine lv_iconst (v := 2) hx hb dL_law_1173 (by decide) ?_
  refine lv_iadd hx hb dL_law_1174 ?_
  refine g_sld (j := (6 * k) + 2) hx hb hX hbl hS (gAdd rfl rfl) (by omega) hL dL_law_1175 ?_
  obtain ⟨fs9, hat⟩ := gMA_at zM
  obtain ⟨sA, s7, zM⟩ := zM
  refine g_kl (g_runV (T := TX12) (ci := 12) (N := 45) (rest := [.long r1]) hx hb hml hown hE hT (c_X12_read l G (B + 156) π μ (gR (gR f 10 sA) 7 s7) g (gTpe_z hTs) (xs ((6 * k) + 1)) (xs ((6 * k) + 2))) gM_X12_read gm_L_150 gi_X12_read gs_RX12_yX12_read_yX12_read rfl hat zM rfl hl.1 ⟨rfl, rfl⟩ ⟨Nat.le_of_ble_eq_true rfl, Nat.le_of_ble_eq_true rfl⟩ ⟨Nat.le_of_ble_eq_true rfl, Nat.le_of_ble_eq_true rfl⟩ rfl (Nat.le_of_ble_eq_true rfl) dL_law_1176) hS (fun q h => h.elim) (fun r2 H2 locs q2 k2 hS => ?_)
  have e2 := q2
  have zM : gMA G (B + 156) π μ f g H2 := gMA_free ⟨sA, s7, zM⟩ k2 (fun _ _ _ h => h)
  obtain ⟨hCN, hLf⟩ := gWC_free h6 ⟨hCN, hLf⟩ k2 (fun _ _ _ h => h)
  refine W.lcmp hx hb dL_law_1179 ?_
  refine lv_if_eq (tgt := 1248) hx hb dL_law_1180 (by decide) (fun _ => ?_) (fun c9 => absurd (gCmp9 (e1.trans e2.symm)) c9)
  exact kk _ _ _ ⟨π, πk, μ, α, f, g, lc, lp, lk, A, acc, acck, ⟨hI, hIk, hTA, ⟨rn, hrn, hr9⟩, hTs, ⟨tn, htn, hTn⟩, hlc, h6, hk1, hk2, hRL, him⟩, ⟨hCN, hLf⟩, zM⟩ hS hl

set_option maxHeartbeats 4000000 in
set_option maxRecDepth 100000 in
theorem law_shift {p : Program} {l : Launch} {e : Env} {s : State} {m : MethodId} {below : List Frame} {meth : Method} {c : Code} {G : gW} {b0 L : Nat} {xs : Nat → Int32} (hL : L ≤ 3072) (C0 : gLC G p s m meth c b0 L xs) {k B : Nat} (hk6 : 6 * k + 6 ≤ L) (hB : s.heap.size ≤ B) {H : Heap} {locs : List Loc} (hw : gWo G B (B + 156) H) (hS : va_S (fun q => s.heap.size ≤ q) s.heap H locs) {ls : Array Slot} (hl : lv_has ls 4 [(3, .int (nI (6 * k))), (2, .ref (B + 156)), (1, .ref B), (0, .ref b0)]) {Q : State → Prop} (kk : ∀ (H1 : Heap) (locs1 : List Loc) (ls1 : Array Slot), gWo G B (B + 156) H1 → va_S (fun q => s.heap.size ≤ q) s.heap H1 locs1 → lv_has ls1 4 [(3, .int (nI (6 * k))), (2, .ref (B + 156)), (1, .ref B), (0, .ref b0)] → W p l e room_1 s m #[Value.ref b0] below meth c H1 locs1 186 5311 Q (F0 m 1248 ls1 [])) : W p l e room_1 s m #[Value.ref b0] below meth c H locs 186 5311 Q (F0 m 1185 ls []) := by
  obtain ⟨hx, hb, hml, hown, hT, hX, hbl, hE2, hG9⟩ := C0
  have hE := hE2.1
  have hK := hE.2.1
  obtain ⟨π, πk, μ, α, f, g, lc, lp, lk, A, acc, acck, ⟨hI, hIk, hTA, ⟨rn, hrn, hr9⟩, hTs, ⟨tn, htn, hTn⟩, hlc, h6, hk1, hk2, hRL, him⟩, ⟨hCN, hLf⟩, zM⟩ := hw
  obtain ⟨⟨f2, h4, hcl⟩, hlp⟩ := gLfs_open h6 hLf hk1
  have hh := gHold_of h6 hk1 hRL
  obtain ⟨⟨n, hn, hz, -⟩, hki, ⟨sn, hsn, hs9, hsp⟩, ⟨pn, hpn, hp9, hpok⟩, ⟨bn, hbn, hb9, hbk⟩, -⟩ := id hI
  refine lv_aload_n hx hb dL_law_1185 rfl (lv_at hl 2 rfl) ?_
  refine lv_aload_n hx hb dL_law_1186 rfl (lv_at hl 3 rfl) ?_
  refine lv_iload_n hx hb dL_law_1187 rfl (lv_at hl 0 rfl) ?_
  refine lv_iconst (v := 1) hx hb dL_law_1188 (by decide) ?_
  refine lv_iadd hx hb dL_law_1189 ?_
  refine g_sld (j := (6 * k) + 1) hx hb hX hbl hS (gAdd rfl rfl) (by omega) hL dL_law_1190 ?_
  refine lv_aload_n hx hb dL_law_1191 rfl (lv_at hl 3 rfl) ?_
  refine lv_iload_n hx hb dL_law_1192 rfl (lv_at hl 0 rfl) ?_
  refine lv_iconst (v := 2) hx hb dL_law_1193 (by decide) ?_
  refine lv_iadd hx hb dL_law_1194 ?_
  refine g_sld (j := (6 * k) + 2) hx hb hX hbl hS (gAdd rfl rfl) (by omega) hL dL_law_1195 ?_
  refine lv_aload_n hx hb dL_law_1196 rfl (lv_at hl 3 rfl) ?_
  refine lv_iload_n hx hb dL_law_1197 rfl (lv_at hl 0 rfl) ?_
  refine lv_iconst (v := 3) hx hb dL_law_1198 (by decide) ?_
  refine lv_iadd hx hb dL_law_1199 ?_
  refine g_sld (j := (6 * k) + 3) hx hb hX hbl hS (gAdd rfl rfl) (by omega) hL dL_law_1200 ?_
  refine lv_aload_n hx hb dL_law_1201 rfl (lv_at hl 3 rfl) ?_
  refine lv_iload_n hx hb dL_law_1202 rfl (lv_at hl 0 rfl) ?_
  refine lv_iconst (v := 4) hx hb dL_law_1203 (by decide) ?_
  refine lv_iadd hx hb dL_law_1204 ?_
  refine g_sld (j := (6 * k) + 4) hx hb hX hbl hS (gAdd rfl rfl) (by omega) hL dL_law_1205 ?_
  refine lv_aload_n hx hb dL_law_1206 rfl (lv_at hl 3 rfl) ?_
  refine lv_iload_n hx hb dL_law_1207 rfl (lv_at hl 0 rfl) ?_
  refine lv_iconst (v := 5) hx hb dL_law_1208 (by decide) ?_
  refine lv_iadd hx hb dL_law_1209 ?_
  refine g_sld (j := (6 * k) + 5) hx hb hX hbl hS (gAdd rfl rfl) (by omega) hL dL_law_1210 ?_
  refine g_ki (g_runV (T := TX11) (ci := 11) (N := 13) (rest := []) hx hb hml hown hE hT (c_X11_shift l G B lp π πk f2 μ α lk g acc hcl hI hlp hTs (xs ((6 * k) + 1)) (xs ((6 * k) + 2)) (xs ((6 * k) + 3)) (xs ((6 * k) + 4)) (xs ((6 * k) + 5))) gM_X11_shift gm_L_151 gi_X11_shift gs_RX11_yX11_shift_yX11_shift rfl (gCN_at hCN) (gCW_v.mpr ⟨h4, hCN⟩) rfl hl.1 ⟨rfl, rfl⟩ ⟨Nat.le_of_ble_eq_true rfl, Nat.le_of_ble_eq_true rfl⟩ ⟨Nat.le_of_ble_eq_true rfl, Nat.le_of_ble_eq_true rfl⟩ rfl (Nat.le_of_ble_eq_true rfl) dL_law_1211) hS (fun q hq => gAr_up hB hlp hq) (fun r1 H1 locs q1 k1 hS => ?_)
  obtain ⟨e1, hW⟩ := q1
  have hCN := (gCW_v.mp hW).2
  have h4 := (gCW_v.mp hW).1
  have hLf := gLfs_step h6 hLf hk1 h4 hcl k1
  have zM := gMA_free zM k1 (fun q a _ => gAr_no hlp a)
  refine lv_aload_n hx hb dL_law_1214 rfl (lv_at hl 1 rfl) ?_
  refine lv_aload_n hx hb dL_law_1215 rfl (lv_at hl 3 rfl) ?_
  refine lv_iload_n hx hb dL_law_1216 rfl (lv_at hl 0 rfl) ?_
  refine lv_iconst (v := 1) hx hb dL_law_1217 (by decide) ?_
  refine lv_iadd hx hb dL_law_1218 ?_
  refine g_sld (j := (6 * k) + 1) hx hb hX hbl hS (gAdd rfl rfl) (by omega) hL dL_law_1219 ?_
  refine lv_aload_n hx hb dL_law_1220 rfl (lv_at hl 3 rfl) ?_
  refine lv_iload_n hx hb dL_law_1221 rfl (lv_at hl 0 rfl) ?_
  refine lv_iconst (v := 2) hx hb dL_law_1222 (by decide) ?_
  refine lv_iadd hx hb dL_law_1223 ?_
  refine g_sld (j := (6 * k) + 2) hx hb hX hbl hS (gAdd rfl rfl) (by omega) hL dL_law_1224 ?_
  refine lv_aload_n hx hb dL_law_1225 rfl (lv_at hl 3 rfl) ?_
  refine lv_iload_n hx hb dL_law_1226 rfl (lv_at hl 0 rfl) ?_
  refine lv_iconst (v := 3) hx hb dL_law_1227 (by decide) ?_
  refine lv_iadd hx hb dL_law_1228 ?_
  refine g_sld (j := (6 * k) + 3) hx hb hX hbl hS (gAdd rfl rfl) (by omega) hL dL_law_1229 ?_
  refine lv_aload_n hx hb dL_law_1230 rfl (lv_at hl 3 rfl) ?_
  refine lv_iload_n hx hb dL_law_1231 rfl (lv_at hl 0 rfl) ?_
  refine lv_iconst (v := 4) hx hb dL_law_1232 (by decide) ?_
  refine lv_iadd hx hb dL_law_1233 ?_
  refine g_sld (j := (6 * k) + 4) hx hb hX hbl hS (gAdd rfl rfl) (by omega) hL dL_law_1234 ?_
  refine lv_aload_n hx hb dL_law_1235 rfl (lv_at hl 3 rfl) ?_
  refine lv_iload_n hx hb dL_law_1236 rfl (lv_at hl 0 rfl) ?_
  refine lv_iconst (v := 5) hx hb dL_law_1237 (by decide) ?_
  refine lv_iadd hx hb dL_law_1238 ?_
  refine g_sld (j := (6 * k) + 5) hx hb hX hbl hS (gAdd rfl rfl) (by omega) hL dL_law_1239 ?_
  obtain ⟨fs9, hat⟩ := gMA_at zM
  obtain ⟨sA, s7, zM⟩ := zM
  refine g_ki (g_runV (T := TX12) (ci := 12) (N := 45) (rest := [.int r1]) hx hb hml hown hE hT (c_X12_shift l G (B + 156) π μ (gR (gR f 10 sA) 7 s7) g (gTpe_z hTs) (xs ((6 * k) + 1)) (xs ((6 * k) + 2)) (xs ((6 * k) + 3)) (xs ((6 * k) + 4)) (xs ((6 * k) + 5))) gM_X12_shift gm_L_155 gi_X12_shift gs_RX12_yX12_shift_yX12_shift rfl hat zM rfl hl.1 ⟨rfl, rfl⟩ ⟨Nat.le_of_ble_eq_true rfl, Nat.le_of_ble_eq_true rfl⟩ ⟨Nat.le_of_ble_eq_true rfl, Nat.le_of_ble_eq_true rfl⟩ rfl (Nat.le_of_ble_eq_true rfl) dL_law_1240) hS (fun q h => Nat.le_trans hB (Nat.le_trans (Nat.le_add_right _ _) h.1)) (fun r2 H2 locs q2 k2 hS => ?_)
  obtain ⟨e2, zM⟩ := q2
  have zM : gMA G (B + 156) π μ f (gqShift μ g (xs (6 * k + 1)) (xs (6 * k + 2)) (xs (6 * k + 3)) (xs (6 * k + 4)) (xs (6 * k + 5))).2 H2 := ⟨sA, s7, zM⟩
  obtain ⟨hCN, hLf⟩ := gWC_free h6 ⟨hCN, hLf⟩ k2 (fun q _ a h => absurd a (Nat.not_lt.mpr h.1))
  refine lv_icmp_eq (tgt := 1248) hx hb dL_law_1243 (by decide) (fun _ => ?_) (fun c9 => absurd (e1.trans e2.symm) c9)
  exact kk _ _ _ ⟨π, πk, μ, α, f, (gqShift μ g (xs (6 * k + 1)) (xs (6 * k + 2)) (xs (6 * k + 3)) (xs (6 * k + 4)) (xs (6 * k + 5))).2, lc, lp, lk, A, acc, acck, ⟨hI, hIk, hTA, ⟨rn, hrn, hr9⟩, hTs, ⟨tn, htn, hTn⟩, hlc, h6, hk1, hk2, hRL, him⟩, ⟨hCN, hLf⟩, zM⟩ hS hl

set_option maxHeartbeats 4000000 in
set_option maxRecDepth 100000 in
theorem law_act {p : Program} {l : Launch} {e : Env} {s : State} {m : MethodId} {below : List Frame} {meth : Method} {c : Code} {G : gW} {b0 L : Nat} {xs : Nat → Int32} (hL : L ≤ 3072) (C0 : gLC G p s m meth c b0 L xs) {k B : Nat} (hk6 : 6 * k + 6 ≤ L) (hB : s.heap.size ≤ B) {H : Heap} {locs : List Loc} (hw : gWo G B (B + 156) H) (hS : va_S (fun q => s.heap.size ≤ q) s.heap H locs) {ls : Array Slot} (hl : lv_has ls 4 [(3, .int (nI (6 * k))), (2, .ref (B + 156)), (1, .ref B), (0, .ref b0)]) {Q : State → Prop} (kk : ∀ (H1 : Heap) (locs1 : List Loc) (ls1 : Array Slot), gWo G B (B + 156) H1 → va_S (fun q => s.heap.size ≤ q) s.heap H1 locs1 → lv_has ls1 4 [(3, .int (nI (6 * k))), (2, .ref (B + 156)), (1, .ref B), (0, .ref b0)] → W p l e room_1 s m #[Value.ref b0] below meth c H1 locs1 186 5311 Q (F0 m 1248 ls1 [])) : W p l e room_1 s m #[Value.ref b0] below meth c H locs 186 5311 Q (F0 m 913 ls []) := by
  obtain ⟨hx, hb, hml, hown, hT, hX, hbl, hE2, hG9⟩ := C0
  have hE := hE2.1
  have hK := hE.2.1
  obtain ⟨π, πk, μ, α, f, g, lc, lp, lk, A, acc, acck, ⟨hI, hIk, hTA, ⟨rn, hrn, hr9⟩, hTs, ⟨tn, htn, hTn⟩, hlc, h6, hk1, hk2, hRL, him⟩, ⟨hCN, hLf⟩, zM⟩ := hw
  obtain ⟨⟨f2, h4, hcl⟩, hlp⟩ := gLfs_open h6 hLf hk1
  have hh := gHold_of h6 hk1 hRL
  obtain ⟨⟨n, hn, hz, -⟩, hki, ⟨sn, hsn, hs9, hsp⟩, ⟨pn, hpn, hp9, hpok⟩, ⟨bn, hbn, hb9, hbk⟩, -⟩ := id hI
  refine lv_aload_n hx hb dL_law_913 rfl (lv_at hl 2 rfl) ?_
  refine lv_aload_n hx hb dL_law_914 rfl (lv_at hl 3 rfl) ?_
  refine lv_iload_n hx hb dL_law_915 rfl (lv_at hl 0 rfl) ?_
  refine lv_iconst (v := 1) hx hb dL_law_916 (by decide) ?_
  refine lv_iadd hx hb dL_law_917 ?_
  refine g_sld (j := (6 * k) + 1) hx hb hX hbl hS (gAdd rfl rfl) (by omega) hL dL_law_918 ?_
  refine lv_aload_n hx hb dL_law_919 rfl (lv_at hl 3 rfl) ?_
  refine lv_iload_n hx hb dL_law_920 rfl (lv_at hl 0 rfl) ?_
  refine lv_iconst (v := 2) hx hb dL_law_921 (by decide) ?_
  refine lv_iadd hx hb dL_law_922 ?_
  refine g_sld (j := (6 * k) + 2) hx hb hX hbl hS (gAdd rfl rfl) (by omega) hL dL_law_923 ?_
  refine lv_aload_n hx hb dL_law_924 rfl (lv_at hl 3 rfl) ?_
  refine lv_iload_n hx hb dL_law_925 rfl (lv_at hl 0 rfl) ?_
  refine lv_iconst (v := 3) hx hb dL_law_926 (by decide) ?_
  refine lv_iadd hx hb dL_law_927 ?_
  refine g_sld (j := (6 * k) + 3) hx hb hX hbl hS (gAdd rfl rfl) (by omega) hL dL_law_928 ?_
  refine g_ki (g_runV (T := TX11) (ci := 11) (N := 13) (rest := []) hx hb hml hown hE hT (c_X11_act l G B lp π πk f2 μ α lk g acc hcl hI hlp  (xs ((6 * k) + 1)) (xs ((6 * k) + 2)) (xs ((6 * k) + 3))) gM_X11_act gm_L_120 gi_X11_act gs_RX11_yX11_act_yX11_act rfl (gCN_at hCN) (gCW_v.mpr ⟨h4, hCN⟩) rfl hl.1 ⟨rfl, rfl⟩ ⟨Nat.le_of_ble_eq_true rfl, Nat.le_of_ble_eq_true rfl⟩ ⟨Nat.le_of_ble_eq_true rfl, Nat.le_of_ble_eq_true rfl⟩ rfl (Nat.le_of_ble_eq_true rfl) dL_law_929) hS (fun q hq => gAr_up hB hlp hq) (fun r1 H1 locs q1 k1 hS => ?_)
  obtain ⟨e1, hW⟩ := q1
  have hCN := (gCW_v.mp hW).2
  have h4 := (gCW_v.mp hW).1
  have hLf := gLfs_step h6 hLf hk1 h4 hcl k1
  have zM := gMA_free zM k1 (fun q a _ => gAr_no hlp a)
  refine lv_aload_n hx hb dL_law_932 rfl (lv_at hl 1 rfl) ?_
  refine lv_aload_n hx hb dL_law_933 rfl (lv_at hl 3 rfl) ?_
  refine lv_iload_n hx hb dL_law_934 rfl (lv_at hl 0 rfl) ?_
  refine lv_iconst (v := 1) hx hb dL_law_935 (by decide) ?_
  refine lv_iadd hx hb dL_law_936 ?_
  refine g_sld (j := (6 * k) + 1) hx hb hX hbl hS (gAdd rfl rfl) (by omega) hL dL_law_937 ?_
  refine lv_aload_n hx hb dL_law_938 rfl (lv_at hl 3 rfl) ?_
  refine lv_iload_n hx hb dL_law_939 rfl (lv_at hl 0 rfl) ?_
  refine lv_iconst (v := 2) hx hb dL_law_940 (by decide) ?_
  refine lv_iadd hx hb dL_law_941 ?_
  refine g_sld (j := (6 * k) + 2) hx hb hX hbl hS (gAdd rfl rfl) (by omega) hL dL_law_942 ?_
  refine lv_aload_n hx hb dL_law_943 rfl (lv_at hl 3 rfl) ?_
  refine lv_iload_n hx hb dL_law_944 rfl (lv_at hl 0 rfl) ?_
  refine lv_iconst (v := 3) hx hb dL_law_945 (by decide) ?_
  refine lv_iadd hx hb dL_law_946 ?_
  refine g_sld (j := (6 * k) + 3) hx hb hX hbl hS (gAdd rfl rfl) (by omega) hL dL_law_947 ?_
  obtain ⟨fs9, hat⟩ := gMA_at zM
  obtain ⟨sA, s7, zM⟩ := zM
  refine g_ki (g_runV (T := TX12) (ci := 12) (N := 45) (rest := [.int r1]) hx hb hml hown hE hT (c_X12_act l G (B + 156) π μ (gR (gR f 10 sA) 7 s7) g n hz hn (fun k hk => hki k (by omega)) (xs ((6 * k) + 1)) (xs ((6 * k) + 2)) (xs ((6 * k) + 3))) gM_X12_act gm_L_123 gi_X12_act gs_RX12_yX12_act_yX12_act rfl hat zM rfl hl.1 ⟨rfl, rfl⟩ ⟨Nat.le_of_ble_eq_true rfl, Nat.le_of_ble_eq_true rfl⟩ ⟨Nat.le_of_ble_eq_true rfl, Nat.le_of_ble_eq_true rfl⟩ rfl (Nat.le_of_ble_eq_true rfl) dL_law_948) hS (fun q h => Nat.le_trans hB (Nat.le_trans (Nat.le_add_right _ _) h.1)) (fun r2 H2 locs q2 k2 hS => ?_)
  obtain ⟨e2, zM⟩ := q2
  have zM : gMA G (B + 156) π (gqAct π μ (xs (6 * k + 1)) (xs (6 * k + 2)) (xs (6 * k + 3))).2 f g H2 := ⟨sA, s7, zM⟩
  obtain ⟨hCN, hLf⟩ := gWC_free h6 ⟨hCN, hLf⟩ k2 (fun q _ a h => absurd a (Nat.not_lt.mpr h.1))
  refine lv_icmp_eq (tgt := 1248) hx hb dL_law_951 (by decide) (fun _ => ?_) (fun c9 => absurd (e1.trans e2.symm) c9)
  exact kk _ _ _ ⟨π, πk, (gqAct π μ (xs (6 * k + 1)) (xs (6 * k + 2)) (xs (6 * k + 3))).2, (gqActA π α (xs (6 * k + 1)) (xs (6 * k + 2)) (xs (6 * k + 3))), f, g, lc, lp, lk, A, acc, acck, ⟨hI, hIk, (gTA_act hTA), gAct_n, (gTpe_same (gAct_r (by decide) (by decide)) (gAct_r (by decide) (by decide)) hTs), ⟨tn, (gAct_4 (by decide)).trans htn, by rw [gAct_r (by decide) (by decide)]; exact hTn⟩, ((gAct_4 (by decide)).trans hlc), h6, hk1, hk2, hRL, (fun h9 => him (fun z9 => h9 ((gAct_4 (by decide)).trans z9)))⟩, ⟨(gCN_mu (gAct_r (by decide) (by decide)) (gAct_r (by decide) (by decide)) (gAct_r (by decide) (by decide)) (gAct_4 (by decide)) (gAct_4 (by decide)) (gAct_4 (by decide)) hCN), hLf⟩, zM⟩ hS hl

set_option maxHeartbeats 4000000 in
set_option maxRecDepth 100000 in
theorem law_see {p : Program} {l : Launch} {e : Env} {s : State} {m : MethodId} {below : List Frame} {meth : Method} {c : Code} {G : gW} {b0 L : Nat} {xs : Nat → Int32} (hL : L ≤ 3072) (C0 : gLC G p s m meth c b0 L xs) {k B : Nat} (hk6 : 6 * k + 6 ≤ L) (hB : s.heap.size ≤ B) {H : Heap} {locs : List Loc} (hw : gWo G B (B + 156) H) (hS : va_S (fun q => s.heap.size ≤ q) s.heap H locs) {ls : Array Slot} (hl : lv_has ls 4 [(3, .int (nI (6 * k))), (2, .ref (B + 156)), (1, .ref B), (0, .ref b0)]) {Q : State → Prop} (kk : ∀ (H1 : Heap) (locs1 : List Loc) (ls1 : Array Slot), gWo G B (B + 156) H1 → va_S (fun q => s.heap.size ≤ q) s.heap H1 locs1 → lv_has ls1 4 [(3, .int (nI (6 * k))), (2, .ref (B + 156)), (1, .ref B), (0, .ref b0)] → W p l e room_1 s m #[Value.ref b0] below meth c H1 locs1 186 5311 Q (F0 m 1248 ls1 [])) : W p l e room_1 s m #[Value.ref b0] below meth c H locs 186 5311 Q (F0 m 602 ls []) := by
  obtain ⟨hx, hb, hml, hown, hT, hX, hbl, hE2, hG9⟩ := C0
  have hE := hE2.1
  have hK := hE.2.1
  obtain ⟨π, πk, μ, α, f, g, lc, lp, lk, A, acc, acck, ⟨hI, hIk, hTA, ⟨rn, hrn, hr9⟩, hTs, ⟨tn, htn, hTn⟩, hlc, h6, hk1, hk2, hRL, him⟩, ⟨hCN, hLf⟩, zM⟩ := hw
  obtain ⟨⟨f2, h4, hcl⟩, hlp⟩ := gLfs_open h6 hLf hk1
  have hh := gHold_of h6 hk1 hRL
  obtain ⟨⟨n, hn, hz, -⟩, hki, ⟨sn, hsn, hs9, hsp⟩, ⟨pn, hpn, hp9, hpok⟩, ⟨bn, hbn, hb9, hbk⟩, -⟩ := id hI
  refine lv_aload_n hx hb dL_law_602 rfl (lv_at hl 2 rfl) ?_
  refine lv_aload_n hx hb dL_law_603 rfl (lv_at hl 3 rfl) ?_
  refine lv_iload_n hx hb dL_law_604 rfl (lv_at hl 0 rfl) ?_
  refine lv_iconst (v := 1) hx hb dL_law_605 (by decide) ?_
  refine lv_iadd hx hb dL_law_606 ?_
  refine g_sld (j := (6 * k) + 1) hx hb hX hbl hS (gAdd rfl rfl) (by omega) hL dL_law_607 ?_
  refine lv_aload_n hx hb dL_law_608 rfl (lv_at hl 3 rfl) ?_
  refine lv_iload_n hx hb dL_law_609 rfl (lv_at hl 0 rfl) ?_
  refine lv_iconst (v := 2) hx hb dL_law_610 (by decide) ?_
  refine lv_iadd hx hb dL_law_611 ?_
  refine g_sld (j := (6 * k) + 2) hx hb hX hbl hS (gAdd rfl rfl) (by omega) hL dL_law_612 ?_
  refine lv_aload_n hx hb dL_law_613 rfl (lv_at hl 3 rfl) ?_
  refine lv_iload_n hx hb dL_law_614 rfl (lv_at hl 0 rfl) ?_
  refine lv_iconst (v := 3) hx hb dL_law_615 (by decide) ?_
  refine lv_iadd hx hb dL_law_616 ?_
  refine g_sld (j := (6 * k) + 3) hx hb hX hbl hS (gAdd rfl rfl) (by omega) hL dL_law_617 ?_
  refine lv_if_eq (tgt := 625) hx hb dL_law_618 (by decide) (fun c1 => ?_) (fun c1 => ?_)
  · refine lv_iconst (v := 0) hx hb dL_law_625 (by decide) ?_
    refine g_ki (g_runV (T := TX11) (ci := 11) (N := 13) (rest := []) hx hb hml hown hE hT (c_X11_see l G B lp π πk f2 μ α lk g acc hcl hI hlp  (xs ((6 * k) + 1)) (xs ((6 * k) + 2)) 0) gM_X11_see gm_L_73 gi_X11_see gs_RX11_yX11_see_yX11_see rfl (gCN_at hCN) (gCW_v.mpr ⟨h4, hCN⟩) rfl hl.1 ⟨rfl, rfl⟩ ⟨Nat.le_of_ble_eq_true rfl, Nat.le_of_ble_eq_true rfl⟩ ⟨Nat.le_of_ble_eq_true rfl, Nat.le_of_ble_eq_true rfl⟩ rfl (Nat.le_of_ble_eq_true rfl) dL_law_626) hS (fun q hq => gAr_up hB hlp hq) (fun r1 H1 locs q1 k1 hS => ?_)
    obtain ⟨e1, hW⟩ := q1
    have hCN := (gCW_v.mp hW).2
    have h4 := (gCW_v.mp hW).1
    have hLf := gLfs_step h6 hLf hk1 h4 hcl k1
    have zM := gMA_free zM k1 (fun q a _ => gAr_no hlp a)
    refine lv_aload_n hx hb dL_law_629 rfl (lv_at hl 1 rfl) ?_
    refine lv_aload_n hx hb dL_law_630 rfl (lv_at hl 3 rfl) ?_
    refine lv_iload_n hx hb dL_law_631 rfl (lv_at hl 0 rfl) ?_
    refine lv_iconst (v := 1) hx hb dL_law_632 (by decide) ?_
    refine lv_iadd hx hb dL_law_633 ?_
    refine g_sld (j := (6 * k) + 1) hx hb hX hbl hS (gAdd rfl rfl) (by omega) hL dL_law_634 ?_
    refine lv_aload_n hx hb dL_law_635 rfl (lv_at hl 3 rfl) ?_
    refine lv_iload_n hx hb dL_law_636 rfl (lv_at hl 0 rfl) ?_
    refine lv_iconst (v := 2) hx hb dL_law_637 (by decide) ?_
    refine lv_iadd hx hb dL_law_638 ?_
    refine g_sld (j := (6 * k) + 2) hx hb hX hbl hS (gAdd rfl rfl) (by omega) hL dL_law_639 ?_
    refine lv_aload_n hx hb dL_law_640 rfl (lv_at hl 3 rfl) ?_
    refine lv_iload_n hx hb dL_law_641 rfl (lv_at hl 0 rfl) ?_
    refine lv_iconst (v := 3) hx hb dL_law_642 (by decide) ?_
    refine lv_iadd hx hb dL_law_643 ?_
    refine g_sld (j := (6 * k) + 3) hx hb hX hbl hS (gAdd rfl rfl) (by omega) hL dL_law_644 ?_
    refine lv_if_eq (tgt := 652) hx hb dL_law_645 (by decide) (fun c2 => ?_) (fun c2 => ?_)
    · refine lv_iconst (v := 0) hx hb dL_law_652 (by decide) ?_
      obtain ⟨fs9, hat⟩ := gMA_at zM
      obtain ⟨sA, s7, zM⟩ := zM
      refine g_ki (g_runV (T := TX12) (ci := 12) (N := 45) (rest := [.int r1]) hx hb hml hown hE hT (c_X12_see l G (B + 156) π μ (gR (gR f 10 sA) 7 s7) g n hz hn sn hs9 hsn (xs ((6 * k) + 1)) (xs ((6 * k) + 2)) 0) gM_X12_see gm_L_77 gi_X12_see gs_RX12_yX12_see_yX12_see rfl hat zM rfl hl.1 ⟨rfl, rfl⟩ ⟨Nat.le_of_ble_eq_true rfl, Nat.le_of_ble_eq_true rfl⟩ ⟨Nat.le_of_ble_eq_true rfl, Nat.le_of_ble_eq_true rfl⟩ rfl (Nat.le_of_ble_eq_true rfl) dL_law_653) hS (fun q h => Nat.le_trans hB (Nat.le_trans (Nat.le_add_right _ _) h.1)) (fun r2 H2 locs q2 k2 hS => ?_)
      obtain ⟨e2, zM⟩ := q2
      have zM : gMA G (B + 156) (gqSee π (xs ((6 * k) + 1)) (xs ((6 * k) + 2)) 0).2 μ f g H2 := ⟨sA, s7, zM⟩
      obtain ⟨hCN, hLf⟩ := gWC_free h6 ⟨hCN, hLf⟩ k2 (fun q _ a h => absurd a (Nat.not_lt.mpr h.1))
      refine lv_icmp_eq (tgt := 1248) hx hb dL_law_656 (by decide) (fun _ => ?_) (fun c9 => absurd (e1.trans e2.symm) c9)
      exact kk _ _ _ ⟨(gqSee π (xs ((6 * k) + 1)) (xs ((6 * k) + 2)) 0).2, πk, μ, α, f, g, lc, lp, lk, A, acc, acck, ⟨(gInv_see hI), hIk, hTA, ⟨rn, hrn, hr9⟩, hTs, ⟨tn, htn, hTn⟩, hlc, h6, (gLk_same hk1 gH_see), hk2, hRL, him⟩, ⟨hCN, hLf⟩, zM⟩ hS hl
    · exact absurd c1 c2
  · refine lv_iconst (v := 1) hx hb dL_law_621 (by decide) ?_
    refine lv_goto (tgt := 626) hx hb dL_law_622 (by decide) ?_
    refine g_ki (g_runV (T := TX11) (ci := 11) (N := 13) (rest := []) hx hb hml hown hE hT (c_X11_see l G B lp π πk f2 μ α lk g acc hcl hI hlp  (xs ((6 * k) + 1)) (xs ((6 * k) + 2)) 1) gM_X11_see gm_L_73 gi_X11_see gs_RX11_yX11_see_yX11_see rfl (gCN_at hCN) (gCW_v.mpr ⟨h4, hCN⟩) rfl hl.1 ⟨rfl, rfl⟩ ⟨Nat.le_of_ble_eq_true rfl, Nat.le_of_ble_eq_true rfl⟩ ⟨Nat.le_of_ble_eq_true rfl, Nat.le_of_ble_eq_true rfl⟩ rfl (Nat.le_of_ble_eq_true rfl) dL_law_626) hS (fun q hq => gAr_up hB hlp hq) (fun r1 H1 locs q1 k1 hS => ?_)
    obtain ⟨e1, hW⟩ := q1
    have hCN := (gCW_v.mp hW).2
    have h4 := (gCW_v.mp hW).1
    have hLf := gLfs_step h6 hLf hk1 h4 hcl k1
    have zM := gMA_free zM k1 (fun q a _ => gAr_no hlp a)
    refine lv_aload_n hx hb dL_law_629 rfl (lv_at hl 1 rfl) ?_
    refine lv_aload_n hx hb dL_law_630 rfl (lv_at hl 3 rfl) ?_
    refine lv_iload_n hx hb dL_law_631 rfl (lv_at hl 0 rfl) ?_
    refine lv_iconst (v := 1) hx hb dL_law_632 (by decide) ?_
    refine lv_iadd hx hb dL_law_633 ?_
    refine g_sld (j := (6 * k) + 1) hx hb hX hbl hS (gAdd rfl rfl) (by omega) hL dL_law_634 ?_
    refine lv_aload_n hx hb dL_law_635 rfl (lv_at hl 3 rfl) ?_
    refine lv_iload_n hx hb dL_law_636 rfl (lv_at hl 0 rfl) ?_
    refine lv_iconst (v := 2) hx hb dL_law_637 (by decide) ?_
    refine lv_iadd hx hb dL_law_638 ?_
    refine g_sld (j := (6 * k) + 2) hx hb hX hbl hS (gAdd rfl rfl) (by omega) hL dL_law_639 ?_
    refine lv_aload_n hx hb dL_law_640 rfl (lv_at hl 3 rfl) ?_
    refine lv_iload_n hx hb dL_law_641 rfl (lv_at hl 0 rfl) ?_
    refine lv_iconst (v := 3) hx hb dL_law_642 (by decide) ?_
    refine lv_iadd hx hb dL_law_643 ?_
    refine g_sld (j := (6 * k) + 3) hx hb hX hbl hS (gAdd rfl rfl) (by omega) hL dL_law_644 ?_
    refine lv_if_eq (tgt := 652) hx hb dL_law_645 (by decide) (fun c3 => ?_) (fun c3 => ?_)
    · exact absurd c3 c1
    · refine lv_iconst (v := 1) hx hb dL_law_648 (by decide) ?_
      refine lv_goto (tgt := 653) hx hb dL_law_649 (by decide) ?_
      obtain ⟨fs9, hat⟩ := gMA_at zM
      obtain ⟨sA, s7, zM⟩ := zM
      refine g_ki (g_runV (T := TX12) (ci := 12) (N := 45) (rest := [.int r1]) hx hb hml hown hE hT (c_X12_see l G (B + 156) π μ (gR (gR f 10 sA) 7 s7) g n hz hn sn hs9 hsn (xs ((6 * k) + 1)) (xs ((6 * k) + 2)) 1) gM_X12_see gm_L_77 gi_X12_see gs_RX12_yX12_see_yX12_see rfl hat zM rfl hl.1 ⟨rfl, rfl⟩ ⟨Nat.le_of_ble_eq_true rfl, Nat.le_of_ble_eq_true rfl⟩ ⟨Nat.le_of_ble_eq_true rfl, Nat.le_of_ble_eq_true rfl⟩ rfl (Nat.le_of_ble_eq_true rfl) dL_law_653) hS (fun q h => Nat.le_trans hB (Nat.le_trans (Nat.le_add_right _ _) h.1)) (fun r2 H2 locs q2 k2 hS => ?_)
      obtain ⟨e2, zM⟩ := q2
      have zM : gMA G (B + 156) (gqSee π (xs ((6 * k) + 1)) (xs ((6 * k) + 2)) 1).2 μ f g H2 := ⟨sA, s7, zM⟩
      obtain ⟨hCN, hLf⟩ := gWC_free h6 ⟨hCN, hLf⟩ k2 (fun q _ a h => absurd a (Nat.not_lt.mpr h.1))
      refine lv_icmp_eq (tgt := 1248) hx hb dL_law_656 (by decide) (fun _ => ?_) (fun c9 => absurd (e1.trans e2.symm) c9)
      exact kk _ _ _ ⟨(gqSee π (xs ((6 * k) + 1)) (xs ((6 * k) + 2)) 1).2, πk, μ, α, f, g, lc, lp, lk, A, acc, acck, ⟨(gInv_see hI), hIk, hTA, ⟨rn, hrn, hr9⟩, hTs, ⟨tn, htn, hTn⟩, hlc, h6, (gLk_same hk1 gH_see), hk2, hRL, him⟩, ⟨hCN, hLf⟩, zM⟩ hS hl

set_option maxHeartbeats 4000000 in
set_option maxRecDepth 100000 in
theorem law_item {p : Program} {l : Launch} {e : Env} {s : State} {m : MethodId} {below : List Frame} {meth : Method} {c : Code} {G : gW} {b0 L : Nat} {xs : Nat → Int32} (hL : L ≤ 3072) (C0 : gLC G p s m meth c b0 L xs) {k B : Nat} (hk6 : 6 * k + 6 ≤ L) (hB : s.heap.size ≤ B) {H : Heap} {locs : List Loc} (hw : gWo G B (B + 156) H) (hS : va_S (fun q => s.heap.size ≤ q) s.heap H locs) {ls : Array Slot} (hl : lv_has ls 4 [(3, .int (nI (6 * k))), (2, .ref (B + 156)), (1, .ref B), (0, .ref b0)]) {Q : State → Prop} (kk : ∀ (H1 : Heap) (locs1 : List Loc) (ls1 : Array Slot), gWo G B (B + 156) H1 → va_S (fun q => s.heap.size ≤ q) s.heap H1 locs1 → lv_has ls1 4 [(3, .int (nI (6 * k))), (2, .ref (B + 156)), (1, .ref B), (0, .ref b0)] → W p l e room_1 s m #[Value.ref b0] below meth c H1 locs1 186 5311 Q (F0 m 1248 ls1 [])) : W p l e room_1 s m #[Value.ref b0] below meth c H locs 186 5311 Q (F0 m 1078 ls []) := by
  obtain ⟨hx, hb, hml, hown, hT, hX, hbl, hE2, hG9⟩ := C0
  have hE := hE2.1
  have hK := hE.2.1
  obtain ⟨π, πk, μ, α, f, g, lc, lp, lk, A, acc, acck, ⟨hI, hIk, hTA, ⟨rn, hrn, hr9⟩, hTs, ⟨tn, htn, hTn⟩, hlc, h6, hk1, hk2, hRL, him⟩, ⟨hCN, hLf⟩, zM⟩ := hw
  obtain ⟨⟨f2, h4, hcl⟩, hlp⟩ := gLfs_open h6 hLf hk1
  have hh := gHold_of h6 hk1 hRL
  obtain ⟨⟨n, hn, hz, -⟩, hki, ⟨sn, hsn, hs9, hsp⟩, ⟨pn, hpn, hp9, hpok⟩, ⟨bn, hbn, hb9, hbk⟩, -⟩ := id hI
  refine lv_aload_n hx hb dL_law_1078 rfl (lv_at hl 2 rfl) ?_
  refine lv_aload_n hx hb dL_law_1079 rfl (lv_at hl 3 rfl) ?_
  refine lv_iload_n hx hb dL_law_1080 rfl (lv_at hl 0 rfl) ?_
  refine lv_iconst (v := 1) hx hb dL_law_1081 (by decide) ?_
  refine lv_iadd hx hb dL_law_1082 ?_
  refine g_sld (j := (6 * k) + 1) hx hb hX hbl hS (gAdd rfl rfl) (by omega) hL dL_law_1083 ?_
  refine lv_aload_n hx hb dL_law_1084 rfl (lv_at hl 3 rfl) ?_
  refine lv_iload_n hx hb dL_law_1085 rfl (lv_at hl 0 rfl) ?_
  refine lv_iconst (v := 2) hx hb dL_law_1086 (by decide) ?_
  refine lv_iadd hx hb dL_law_1087 ?_
  refine g_sld (j := (6 * k) + 2) hx hb hX hbl hS (gAdd rfl rfl) (by omega) hL dL_law_1088 ?_
  refine lv_aload_n hx hb dL_law_1089 rfl (lv_at hl 3 rfl) ?_
  refine lv_iload_n hx hb dL_law_1090 rfl (lv_at hl 0 rfl) ?_
  refine lv_iconst (v := 3) hx hb dL_law_1091 (by decide) ?_
  refine lv_iadd hx hb dL_law_1092 ?_
  refine g_sld (j := (6 * k) + 3) hx hb hX hbl hS (gAdd rfl rfl) (by omega) hL dL_law_1093 ?_
  refine lv_i2l hx hb dL_law_1094 rfl ?_
  refine lv_bipush (v := 32) hx hb dL_law_1095 (by decide) ?_
  refine lv_lshl hx hb dL_law_1097 rfl ?_
  refine lv_aload_n hx hb dL_law_1098 rfl (lv_at hl 3 rfl) ?_
  refine lv_iload_n hx hb dL_law_1099 rfl (lv_at hl 0 rfl) ?_
  refine lv_iconst (v := 4) hx hb dL_law_1100 (by decide) ?_
  refine lv_iadd hx hb dL_law_1101 ?_
  refine g_sld (j := (6 * k) + 4) hx hb hX hbl hS (gAdd rfl rfl) (by omega) hL dL_law_1102 ?_
  refine lv_i2l hx hb dL_law_1103 rfl ?_
  refine lv_ldc2 (v := 4294967295) hx hb hown (hT _ gl_L_140) dL_law_1104 ?_
  refine lv_land hx hb dL_law_1107 ?_
  refine lv_lor hx hb dL_law_1108 ?_
  refine g_ki (g_runV (T := TX11) (ci := 11) (N := 13) (rest := []) hx hb hml hown hE hT (c_X11_item l G B lp π πk f2 μ α lk g acc hcl hI hlp hTs (xs ((6 * k) + 1)) (xs ((6 * k) + 2)) ((((xs ((6 * k) + 3)).toInt64) <<< ((32 : Int32).toInt64 &&& 63)) ||| (((xs ((6 * k) + 4)).toInt64) &&& 4294967295))) gM_X11_item gm_L_142 gi_X11_item gs_RX11_yX11_item_yX11_item rfl (gCN_at hCN) (gCW_v.mpr ⟨h4, hCN⟩) rfl hl.1 ⟨rfl, rfl⟩ ⟨Nat.le_of_ble_eq_true rfl, Nat.le_of_ble_eq_true rfl⟩ ⟨Nat.le_of_ble_eq_true rfl, Nat.le_of_ble_eq_true rfl⟩ rfl (Nat.le_of_ble_eq_true rfl) dL_law_1109) hS (fun q hq => gAr_up hB hlp hq) (fun r1 H1 locs q1 k1 hS => ?_)
  obtain ⟨e1, hW⟩ := q1
  have hCN := (gCW_v.mp hW).2
  have h4 := (gCW_v.mp hW).1
  have hLf := gLfs_step h6 hLf hk1 h4 hcl k1
  have zM := gMA_free zM k1 (fun q a _ => gAr_no hlp a)
  refine lv_aload_n hx hb dL_law_1112 rfl (lv_at hl 1 rfl) ?_
  refine lv_aload_n hx hb dL_law_1113 rfl (lv_at hl 3 rfl) ?_
  refine lv_iload_n hx hb dL_law_1114 rfl (lv_at hl 0 rfl) ?_
  refine lv_iconst (v := 1) hx hb dL_law_1115 (by decide) ?_
  refine lv_iadd hx hb dL_law_1116 ?_
  refine g_sld (j := (6 * k) + 1) hx hb hX hbl hS (gAdd rfl rfl) (by omega) hL dL_law_1117 ?_
  refine lv_aload_n hx hb dL_law_1118 rfl (lv_at hl 3 rfl) ?_
  refine lv_iload_n hx hb dL_law_1119 rfl (lv_at hl 0 rfl) ?_
  refine lv_iconst (v := 2) hx hb dL_law_1120 (by decide) ?_
  refine lv_iadd hx hb dL_law_1121 ?_
  refine g_sld (j := (6 * k) + 2) hx hb hX hbl hS (gAdd rfl rfl) (by omega) hL dL_law_1122 ?_
  refine lv_aload_n hx hb dL_law_1123 rfl (lv_at hl 3 rfl) ?_
  refine lv_iload_n hx hb dL_law_1124 rfl (lv_at hl 0 rfl) ?_
  refine lv_iconst (v := 3) hx hb dL_law_1125 (by decide) ?_
  refine lv_iadd hx hb dL_law_1126 ?_
  refine g_sld (j := (6 * k) + 3) hx hb hX hbl hS (gAdd rfl rfl) (by omega) hL dL_law_1127 ?_
  refine lv_i2l hx hb dL_law_1128 rfl ?_
  refine lv_bipush (v := 32) hx hb dL_law_1129 (by decide) ?_
  refine lv_lshl hx hb dL_law_1131 rfl ?_
  refine lv_aload_n hx hb dL_law_1132 rfl (lv_at hl 3 rfl) ?_
  refine lv_iload_n hx hb dL_law_1133 rfl (lv_at hl 0 rfl) ?_
  refine lv_iconst (v := 4) hx hb dL_law_1134 (by decide) ?_
  refine lv_iadd hx hb dL_law_1135 ?_
  refine g_sld (j := (6 * k) + 4) hx hb hX hbl hS (gAdd rfl rfl) (by omega) hL dL_law_1136 ?_
  refine lv_i2l hx hb dL_law_1137 rfl ?_
  refine lv_ldc2 (v := 4294967295) hx hb hown (hT _ gl_L_140) dL_law_1138 ?_
  refine lv_land hx hb dL_law_1141 ?_
  refine lv_lor hx hb dL_law_1142 ?_
  obtain ⟨fs9, hat⟩ := gMA_at zM
  obtain ⟨sA, s7, zM⟩ := zM
  refine g_ki (g_runV (T := TX12) (ci := 12) (N := 45) (rest := [.int r1]) hx hb hml hown hE hT (c_X12_item l G (B + 156) π μ (gR (gR f 10 sA) 7 s7) g (gTpe_z hTs) (xs ((6 * k) + 1)) (xs ((6 * k) + 2)) ((((xs ((6 * k) + 3)).toInt64) <<< ((32 : Int32).toInt64 &&& 63)) ||| (((xs ((6 * k) + 4)).toInt64) &&& 4294967295))) gM_X12_item gm_L_146 gi_X12_item gs_RX12_yX12_item_yX12_item rfl hat zM rfl hl.1 ⟨rfl, rfl⟩ ⟨Nat.le_of_ble_eq_true rfl, Nat.le_of_ble_eq_true rfl⟩ ⟨Nat.le_of_ble_eq_true rfl, Nat.le_of_ble_eq_true rfl⟩ rfl (Nat.le_of_ble_eq_true rfl) dL_law_1143) hS (fun q h => Nat.le_trans hB (Nat.le_trans (Nat.le_add_right _ _) h.1)) (fun r2 H2 locs q2 k2 hS => ?_)
  obtain ⟨e2, zM⟩ := q2
  have zM : gMA G (B + 156) π μ f (gqItem μ g (xs ((6 * k) + 1)) (xs ((6 * k) + 2)) ((((xs ((6 * k) + 3)).toInt64) <<< ((32 : Int32).toInt64 &&& 63)) ||| (((xs ((6 * k) + 4)).toInt64) &&& 4294967295))).2 H2 := ⟨sA, s7, zM⟩
  obtain ⟨hCN, hLf⟩ := gWC_free h6 ⟨hCN, hLf⟩ k2 (fun q _ a h => absurd a (Nat.not_lt.mpr h.1))
  refine lv_icmp_eq (tgt := 1248) hx hb dL_law_1146 (by decide) (fun _ => ?_) (fun c9 => absurd (e1.trans e2.symm) c9)
  exact kk _ _ _ ⟨π, πk, μ, α, f, (gqItem μ g (xs ((6 * k) + 1)) (xs ((6 * k) + 2)) ((((xs ((6 * k) + 3)).toInt64) <<< ((32 : Int32).toInt64 &&& 63)) ||| (((xs ((6 * k) + 4)).toInt64) &&& 4294967295))).2, lc, lp, lk, A, acc, acck, ⟨hI, hIk, hTA, ⟨rn, hrn, hr9⟩, hTs, ⟨tn, htn, hTn⟩, hlc, h6, hk1, hk2, hRL, him⟩, ⟨hCN, hLf⟩, zM⟩ hS hl

set_option maxHeartbeats 4000000 in
set_option maxRecDepth 100000 in
theorem law_image {p : Program} {l : Launch} {e : Env} {s : State} {m : MethodId} {below : List Frame} {meth : Method} {c : Code} {G : gW} {b0 L : Nat} {xs : Nat → Int32} (hL : L ≤ 3072) (C0 : gLC G p s m meth c b0 L xs) {k B : Nat} (hk6 : 6 * k + 6 ≤ L) (hB : s.heap.size ≤ B) {H : Heap} {locs : List Loc} (hw : gWo G B (B + 156) H) (hS : va_S (fun q => s.heap.size ≤ q) s.heap H locs) {ls : Array Slot} (hl : lv_has ls 4 [(3, .int (nI (6 * k))), (2, .ref (B + 156)), (1, .ref B), (0, .ref b0)]) {Q : State → Prop} (kk : ∀ (H1 : Heap) (locs1 : List Loc) (ls1 : Array Slot), gWo G B (B + 156) H1 → va_S (fun q => s.heap.size ≤ q) s.heap H1 locs1 → lv_has ls1 4 [(3, .int (nI (6 * k))), (2, .ref (B + 156)), (1, .ref B), (0, .ref b0)] → W p l e room_1 s m #[Value.ref b0] below meth c H1 locs1 186 5311 Q (F0 m 1248 ls1 [])) : W p l e room_1 s m #[Value.ref b0] below meth c H locs 186 5311 Q (F0 m 887 ls []) := by
  obtain ⟨hx, hb, hml, hown, hT, hX, hbl, hE2, hG9⟩ := C0
  have hE := hE2.1
  have hK := hE.2.1
  obtain ⟨π, πk, μ, α, f, g, lc, lp, lk, A, acc, acck, ⟨hI, hIk, hTA, ⟨rn, hrn, hr9⟩, hTs, ⟨tn, htn, hTn⟩, hlc, h6, hk1, hk2, hRL, him⟩, ⟨hCN, hLf⟩, zM⟩ := hw
  obtain ⟨⟨f2, h4, hcl⟩, hlp⟩ := gLfs_open h6 hLf hk1
  have hh := gHold_of h6 hk1 hRL
  obtain ⟨⟨n, hn, hz, -⟩, hki, ⟨sn, hsn, hs9, hsp⟩, ⟨pn, hpn, hp9, hpok⟩, ⟨bn, hbn, hb9, hbk⟩, -⟩ := id hI
  refine lv_aload_n hx hb dL_law_887 rfl (lv_at hl 2 rfl) ?_
  refine g_ki (g_runV (T := TX11) (ci := 11) (N := 13) (rest := []) hx hb hml hown hE hT (c_X11_image l G B lp π πk f2 μ α lk g acc hcl hI hlp  ) gM_X11_image gm_L_112 gi_X11_image gs_RX11_yX11_image_yX11_image rfl (gCN_at hCN) (gCW_v.mpr ⟨h4, hCN⟩) rfl hl.1 ⟨rfl, rfl⟩ ⟨Nat.le_of_ble_eq_true rfl, Nat.le_of_ble_eq_true rfl⟩ ⟨Nat.le_of_ble_eq_true rfl, Nat.le_of_ble_eq_true rfl⟩ rfl (Nat.le_of_ble_eq_true rfl) dL_law_888) hS (fun q hq => gAr_up hB hlp hq) (fun r1 H1 locs q1 k1 hS => ?_)
  obtain ⟨e1, hW⟩ := q1
  have hCN := (gCW_v.mp hW).2
  have h4 := (gCW_v.mp hW).1
  have hLf := gLfs_step h6 hLf hk1 h4 hcl k1
  have zM := gMA_free zM k1 (fun q a _ => gAr_no hlp a)
  refine lv_aload_n hx hb dL_law_891 rfl (lv_at hl 1 rfl) ?_
  obtain ⟨fs9, hat⟩ := gMA_at zM
  obtain ⟨sA, s7, zM⟩ := zM
  refine g_ki (g_runV (T := TX12) (ci := 12) (N := 45) (rest := [.int r1]) hx hb hml hown hE hT (c_X12_image l G (B + 156) π μ (gR (gR f 10 sA) 7 s7) g  ) gM_X12_image gm_L_115 gi_X12_image gs_RX12_yX12_image_yX12_image rfl hat zM rfl hl.1 ⟨rfl, rfl⟩ ⟨Nat.le_of_ble_eq_true rfl, Nat.le_of_ble_eq_true rfl⟩ ⟨Nat.le_of_ble_eq_true rfl, Nat.le_of_ble_eq_true rfl⟩ rfl (Nat.le_of_ble_eq_true rfl) dL_law_892) hS (fun q h => Nat.le_trans hB (Nat.le_trans (Nat.le_add_right _ _) h.1)) (fun r2 H2 locs q2 k2 hS => ?_)
  obtain ⟨e2, zM⟩ := q2
  have zM : gMA G (B + 156) π (gU μ 4 2 1) (gR f 9 (gEn π)) g H2 := ⟨sA, s7, zM⟩
  obtain ⟨hCN, hLf⟩ := gWC_free h6 ⟨hCN, hLf⟩ k2 (fun q _ a h => absurd a (Nat.not_lt.mpr h.1))
  refine lv_icmp_eq (tgt := 1248) hx hb dL_law_895 (by decide) (fun _ => ?_) (fun c9 => absurd (e1.trans e2.symm) c9)
  exact kk _ _ _ ⟨π, π, (gU μ 4 2 1), α, (gR f 9 (gEn π)), g, lc, lp, lp, A, acc, acc, ⟨hI, hI, ⟨hTA.1.trans (gU_ne (by decide)).symm, hTA.2.trans (gU_o (by decide)).symm⟩, ⟨rn, hrn, (gU_o (by decide)).trans hr9⟩, (gTpe_same (gU_ne (by decide)) (gU_ne (by decide)) hTs), ⟨tn, (gU_o (by decide)).trans htn, by rw [gU_ne (by decide)]; exact hTn⟩, ((gU_o (by decide)).trans hlc), h6, hk1, hk1, hRL, (fun _ => rfl)⟩, ⟨hCN, hLf⟩, zM⟩ hS hl

set_option maxHeartbeats 4000000 in
set_option maxRecDepth 100000 in
theorem law_undo {p : Program} {l : Launch} {e : Env} {s : State} {m : MethodId} {below : List Frame} {meth : Method} {c : Code} {G : gW} {b0 L : Nat} {xs : Nat → Int32} (hL : L ≤ 3072) (C0 : gLC G p s m meth c b0 L xs) {k B : Nat} (hk6 : 6 * k + 6 ≤ L) (hB : s.heap.size ≤ B) {H : Heap} {locs : List Loc} (hw : gWo G B (B + 156) H) (hS : va_S (fun q => s.heap.size ≤ q) s.heap H locs) {ls : Array Slot} (hl : lv_has ls 4 [(3, .int (nI (6 * k))), (2, .ref (B + 156)), (1, .ref B), (0, .ref b0)]) {Q : State → Prop} (kk : ∀ (H1 : Heap) (locs1 : List Loc) (ls1 : Array Slot), gWo G B (B + 156) H1 → va_S (fun q => s.heap.size ≤ q) s.heap H1 locs1 → lv_has ls1 4 [(3, .int (nI (6 * k))), (2, .ref (B + 156)), (1, .ref B), (0, .ref b0)] → W p l e room_1 s m #[Value.ref b0] below meth c H1 locs1 186 5311 Q (F0 m 1248 ls1 [])) : W p l e room_1 s m #[Value.ref b0] below meth c H locs 186 5311 Q (F0 m 900 ls []) := by
  obtain ⟨hx, hb, hml, hown, hT, hX, hbl, hE2, hG9⟩ := C0
  have hE := hE2.1
  have hK := hE.2.1
  obtain ⟨π, πk, μ, α, f, g, lc, lp, lk, A, acc, acck, ⟨hI, hIk, hTA, ⟨rn, hrn, hr9⟩, hTs, ⟨tn, htn, hTn⟩, hlc, h6, hk1, hk2, hRL, him⟩, ⟨hCN, hLf⟩, zM⟩ := hw
  obtain ⟨⟨f2, h4, hcl⟩, hlp⟩ := gLfs_open h6 hLf hk1
  have hh := gHold_of h6 hk1 hRL
  obtain ⟨⟨n, hn, hz, -⟩, hki, ⟨sn, hsn, hs9, hsp⟩, ⟨pn, hpn, hp9, hpok⟩, ⟨bn, hbn, hb9, hbk⟩, -⟩ := id hI
  refine lv_aload_n hx hb dL_law_900 rfl (lv_at hl 2 rfl) ?_
  refine g_ki (g_runV (T := TX11) (ci := 11) (N := 13) (rest := []) hx hb hml hown hE hT (c_X11_undo l G B lp lk π πk μ α g hIk) gM_X11_undo gm_L_116 gi_X11_undo gs_RX11_yX11_undo_yX11_undo rfl (gCN_at hCN) hCN rfl hl.1 ⟨rfl, rfl⟩ ⟨Nat.le_of_ble_eq_true rfl, Nat.le_of_ble_eq_true rfl⟩ ⟨Nat.le_of_ble_eq_true rfl, Nat.le_of_ble_eq_true rfl⟩ rfl (Nat.le_of_ble_eq_true rfl) dL_law_901) hS (fun q hq => Nat.le_trans hB (Nat.le_trans (Nat.le_add_right _ _) hq.1)) (fun r1 H1 locs q1 k1 hS => ?_)
  obtain ⟨e1, hCN⟩ := q1
  have hLf := gLfs_free hLf k1 (fun q a _ _ _ _ h => absurd h.2 (Nat.not_lt.mpr a)) h6
  have zM := gMA_free zM k1 (fun q a _ h => absurd h.2 (Nat.not_lt.mpr (Nat.le_trans (Nat.add_le_add_left (by decide) B) a)))
  refine lv_aload_n hx hb dL_law_904 rfl (lv_at hl 1 rfl) ?_
  obtain ⟨fs9, hat⟩ := gMA_at zM
  obtain ⟨sA, s7, zM⟩ := zM
  refine g_ki (g_runV (T := TX12) (ci := 12) (N := 45) (rest := [.int r1]) hx hb hml hown hE hT (c_X12_undo l G (B + 156) π μ (gR (gR f 10 sA) 7 s7) g πk (fun h9 j _ => congrFun (him h9) j) ) gM_X12_undo gm_L_119 gi_X12_undo gs_RX12_yX12_undo_yX12_undo rfl hat zM rfl hl.1 ⟨rfl, rfl⟩ ⟨Nat.le_of_ble_eq_true rfl, Nat.le_of_ble_eq_true rfl⟩ ⟨Nat.le_of_ble_eq_true rfl, Nat.le_of_ble_eq_true rfl⟩ rfl (Nat.le_of_ble_eq_true rfl) dL_law_905) hS (fun q h => Nat.le_trans hB (Nat.le_trans (Nat.le_add_right _ _) h.1)) (fun r2 H2 locs q2 k2 hS => ?_)
  obtain ⟨e2, zM⟩ := q2
  have zM : gMA G (B + 156) (if μ 4 2 = 0 then π else πk) μ f g H2 := ⟨sA, s7, zM⟩
  obtain ⟨hCN, hLf⟩ := gWC_free h6 ⟨hCN, hLf⟩ k2 (fun q _ a h => absurd a (Nat.not_lt.mpr h.1))
  refine lv_icmp_eq (tgt := 1248) hx hb dL_law_908 (by decide) (fun _ => ?_) (fun c9 => absurd (e1.trans e2.symm) c9)
  exact kk _ _ _ ⟨(if μ 4 2 = 0 then π else πk), πk, μ, α, f, g, lc, (if μ 4 2 = 0 then lp else lk), lk, A, (if μ 4 2 = 0 then acc else acck), acck, ⟨(by split; exact hI; exact hIk), hIk, hTA, ⟨rn, hrn, hr9⟩, hTs, ⟨tn, htn, hTn⟩, hlc, h6, (by by_cases hm : μ 4 2 = 0; rw [if_pos hm, if_pos hm, if_pos hm]; exact hk1; rw [if_neg hm, if_neg hm, if_neg hm]; exact hk2), hk2, hRL, him⟩, ⟨hCN, hLf⟩, zM⟩ hS hl

set_option maxHeartbeats 4000000 in
set_option maxRecDepth 100000 in
theorem law_loft {p : Program} {l : Launch} {e : Env} {s : State} {m : MethodId} {below : List Frame} {meth : Method} {c : Code} {G : gW} {b0 L : Nat} {xs : Nat → Int32} (hL : L ≤ 3072) (C0 : gLC G p s m meth c b0 L xs) {k B : Nat} (hk6 : 6 * k + 6 ≤ L) (hB : s.heap.size ≤ B) {H : Heap} {locs : List Loc} (hw : gWo G B (B + 156) H) (hS : va_S (fun q => s.heap.size ≤ q) s.heap H locs) {ls : Array Slot} (hl : lv_has ls 4 [(3, .int (nI (6 * k))), (2, .ref (B + 156)), (1, .ref B), (0, .ref b0)]) {Q : State → Prop} (kk : ∀ (H1 : Heap) (locs1 : List Loc) (ls1 : Array Slot), gWo G B (B + 156) H1 → va_S (fun q => s.heap.size ≤ q) s.heap H1 locs1 → lv_has ls1 4 [(3, .int (nI (6 * k))), (2, .ref (B + 156)), (1, .ref B), (0, .ref b0)] → W p l e room_1 s m #[Value.ref b0] below meth c H1 locs1 186 5311 Q (F0 m 1248 ls1 [])) : W p l e room_1 s m #[Value.ref b0] below meth c H locs 186 5311 Q (F0 m 454 ls []) := by
  obtain ⟨hx, hb, hml, hown, hT, hX, hbl, hE2, hG9⟩ := C0
  have hE := hE2.1
  have hK := hE.2.1
  obtain ⟨π, πk, μ, α, f, g, lc, lp, lk, A, acc, acck, ⟨hI, hIk, hTA, ⟨rn, hrn, hr9⟩, hTs, ⟨tn, htn, hTn⟩, hlc, h6, hk1, hk2, hRL, him⟩, ⟨hCN, hLf⟩, zM⟩ := hw
  obtain ⟨⟨f2, h4, hcl⟩, hlp⟩ := gLfs_open h6 hLf hk1
  have hh := gHold_of h6 hk1 hRL
  obtain ⟨⟨n, hn, hz, -⟩, hki, ⟨sn, hsn, hs9, hsp⟩, ⟨pn, hpn, hp9, hpok⟩, ⟨bn, hbn, hb9, hbk⟩, -⟩ := id hI
  have hO := gOld_law hG9 hS
  have htG : G.2.2.2.size ≤ B := by rw [hG9]; exact hB
  obtain ⟨o9, c0, ho9, hc0, f134, f136, hA⟩ := id hRL
  have hc8 : c0 + tn ≤ 800 := by have := hTn.1; omega
  have htG2 : G.2.2.2.size ≤ B + 156 := Nat.le_trans htG (Nat.le_add_right _ _)
  by_cases h6k : lc < 6
  · obtain ⟨fn, zn, h30⟩ := hLf.2.1 lc (Nat.le_refl _) h6k
    refine lv_aload_n hx hb dL_law_454 rfl (lv_at hl 2 rfl) ?_
    refine g_ki (g_runV (T := TX11) (ci := 11) (N := 13) (rest := []) hx hb hml hown hE hT (c_X11_loft l G B lp lk π πk μ α g tn htn hTn lc hlc fn h30 htG h6k) gM_X11_loft gm_L_48 gi_X11_loft gs_RX11_yX11_loft_yX11_loft rfl (gCN_at hCN) ⟨hO, hCN, zn⟩ rfl hl.1 ⟨rfl, rfl⟩ ⟨Nat.le_of_ble_eq_true rfl, Nat.le_of_ble_eq_true rfl⟩ ⟨Nat.le_of_ble_eq_true rfl, Nat.le_of_ble_eq_true rfl⟩ rfl (Nat.le_of_ble_eq_true rfl) dL_law_455) hS (fun q hq => gAl_up hB hq) (fun r1 H1 locs q1 k1 hS => ?_)
    obtain ⟨f9, y1, y30, hcs⟩ := q1
    have zM := gMA_free zM k1 (fun q a _ => gAl_no h6k a)
    have hO := gOld_law hG9 hS
    refine lv_aload_n hx hb dL_law_458 rfl (lv_at hl 1 rfl) ?_
    obtain ⟨fs9, hat⟩ := gMA_at zM
    obtain ⟨sA, s7, zM⟩ := zM
    have zM : gSg G (B + 156) (gLM G (B + 156) π μ (gR (gR (gR (gR f 10 sA) 7 s7) 6 (f 6)) 13 (gS5 (f 13 1) (f 13 2) (f 13 3) (nI o9) (nI c0))) g) H1 := by rw [← f134, ← f136]; exact zM
    refine g_ki (g_runV (T := TX12) (ci := 12) (N := 45) (rest := [.int r1]) hx hb hml hown hE hT (c_X12_loft l G (B + 156) π μ (gR (gR f 10 sA) 7 s7) g tn htn hTn (f 6) o9 c0 (f 13 1) (f 13 2) (f 13 3) hc8 ho9 htG2 lc hlc h6k) gM_X12_loft gm_L_52 gi_X12_loft gs_RX12_yX12_loft_yX12_loft rfl hat ⟨hO, zM⟩ rfl hl.1 ⟨rfl, rfl⟩ ⟨Nat.le_of_ble_eq_true rfl, Nat.le_of_ble_eq_true rfl⟩ ⟨Nat.le_of_ble_eq_true rfl, Nat.le_of_ble_eq_true rfl⟩ rfl (Nat.le_of_ble_eq_true rfl) dL_law_459) hS (fun q h => Nat.le_trans hB (Nat.le_trans (Nat.le_add_right _ _) h.1)) (fun r2 H2 locs q2 k2 hS => ?_)
    obtain ⟨f8, v8, d8, o8, cc8, E8, ho8, hq8, hE8, hrs⟩ := q2
    rcases hcs with ⟨hg, e1, hcl2, hCN⟩ | ⟨hg, e1, hCN⟩
    · rcases hrs with ⟨hg2, e2, hl8, h18, hac, l1, l2, zM⟩ | ⟨hg2, e2, zM⟩
      · have hLf := gLfs_new h6k hLf y1 hcl2 k1
        have zM : gMA G (B + 156) (gU π 15 6 (μ 4 3)) (gU (gU μ 4 0 0) 4 3 (nI (lc + 1))) (gR (gR f8 6 E8) 13 (gS5 (nI (gLo (μ 0) tn 10 0 []).2.1) v8 d8 (nI o8) (nI cc8))) g H2 := ⟨f8 10, f8 7, zM⟩
        have hCN := gCN_free hCN k2 (fun q _ a h => absurd a (Nat.not_lt.mpr h.1))
        have hLf := gLfs_free hLf k2 (fun q _ a _ _ _ h => absurd a (Nat.not_lt.mpr h.1)) (by omega)
        refine lv_icmp_eq (tgt := 1248) hx hb dL_law_462 (by decide) (fun _ => ?_) (fun c9 => absurd (e1.trans (hlc.symm.trans e2.symm)) c9)
        exact kk _ _ _ ⟨(gU π 15 6 (μ 4 3)), πk, (gU (gU μ 4 0 0) 4 3 (nI (lc + 1))), α, (gR (gR f8 6 E8) 13 (gS5 (nI (gLo (μ 0) tn 10 0 []).2.1) v8 d8 (nI o8) (nI cc8))), g, (lc + 1), (B + 107 + 13 + 6 * lc), lk, (gAn A lc (gLo (μ 0) tn 10 0 []).2.2), (gLo (μ 0) tn 10 0 []).2.2, acck, ⟨(gInv_hold hI), hIk, ⟨hTA.1.trans ((gU_ne (by decide)).trans (gU_ne (by decide))).symm, hTA.2.trans ((gU_o (by decide)).trans (gU_o (by decide))).symm⟩, ⟨rn, hrn, ((gU_o (by decide)).trans (gU_o (by decide))).trans hr9⟩, gTpe_same ((gU_ne (by decide)).trans (gU_ne (by decide))) ((gU_ne (by decide)).trans (gU_ne (by decide))) hTs, ⟨0, (gU_o (by decide)).trans gU_e, Nat.zero_le _, fun j hj => absurd hj (Nat.not_lt_zero _)⟩, gU_e, by omega, (gLk_now hlc), (gLk_new hk2), (gRL_new (f := (gR (gR f 10 sA) 7 s7)) hA hq8 hE8 ho8 hc0 hTn.1 l1 l2 hl8 h18 hac), (fun h9 => (funext fun k9 => hq8 9 k9 (fun z => absurd z.2.1 (by decide)) (fun z => absurd z.1 (by decide))).trans (him (fun z9 => h9 ((gU_o (by decide)).trans (gU_o (by decide)) |>.trans z9))))⟩, ⟨hCN, hLf⟩, zM⟩ hS hl
      · exact absurd (hg.symm.trans hg2) (by decide)
    · rcases hrs with ⟨hg2, e2, hl8, h18, hac, l1, l2, zM⟩ | ⟨hg2, e2, zM⟩
      · exact absurd (hg.symm.trans hg2) (by decide)
      · have hLf := gLfs_fail h6k hLf y1 y30 k1
        have zM : gMA G (B + 156) π (gU μ 4 0 0) (gR (gR f8 6 E8) 13 (gS5 (nI (gLo (μ 0) tn 10 0 []).2.1) v8 d8 (nI o8) (nI c0))) g H2 := ⟨f8 10, f8 7, zM⟩
        have hCN := gCN_free hCN k2 (fun q _ a h => absurd a (Nat.not_lt.mpr h.1))
        have hLf := gLfs_free hLf k2 (fun q _ a _ _ _ h => absurd a (Nat.not_lt.mpr h.1)) (by omega)
        refine lv_icmp_eq (tgt := 1248) hx hb dL_law_462 (by decide) (fun _ => ?_) (fun c9 => absurd (e1.trans e2.symm) c9)
        exact kk _ _ _ ⟨π, πk, (gU μ 4 0 0), α, (gR (gR f8 6 E8) 13 (gS5 (nI (gLo (μ 0) tn 10 0 []).2.1) v8 d8 (nI o8) (nI c0))), g, lc, lp, lk, A, acc, acck, ⟨hI, hIk, ⟨hTA.1.trans (gU_ne (by decide)).symm, hTA.2.trans (gU_o (by decide)).symm⟩, ⟨rn, hrn, (gU_o (by decide)).trans hr9⟩, gTpe_same (gU_ne (by decide)) (gU_ne (by decide)) hTs, ⟨0, gU_e, Nat.zero_le _, fun j hj => absurd hj (Nat.not_lt_zero _)⟩, ((gU_o (by decide)).trans hlc), by omega, hk1, hk2, (gRL_fail (f := (gR (gR f 10 sA) 7 s7)) hA hq8 hE8 ho8 hc0), (fun h9 => (funext fun k9 => hq8 9 k9 (fun z => absurd z.2.1 (by decide)) (fun z => absurd z.1 (by decide))).trans (him (fun z9 => h9 (gU_o (by decide) |>.trans z9))))⟩, ⟨hCN, hLf⟩, zM⟩ hS hl
  · have h66 : lc = 6 := by omega
    refine lv_aload_n hx hb dL_law_454 rfl (lv_at hl 2 rfl) ?_
    refine g_ki (g_runV (T := TX11) (ci := 11) (N := 13) (rest := []) hx hb hml hown hE hT (c_X11_loft_full l G B lp lk π πk μ α g tn htn hTn lc hlc gFl0 rfl htG h66) gM_X11_loft gm_L_48 gi_X11_loft gs_RX11_yX11_loft_yX11_loft rfl (gCN_at hCN) hCN rfl hl.1 ⟨rfl, rfl⟩ ⟨Nat.le_of_ble_eq_true rfl, Nat.le_of_ble_eq_true rfl⟩ ⟨Nat.le_of_ble_eq_true rfl, Nat.le_of_ble_eq_true rfl⟩ rfl (Nat.le_of_ble_eq_true rfl) dL_law_455) hS (fun q h => h.elim) (fun r1 H1 locs q1 k1 hS => ?_)
    obtain ⟨e1, hCN⟩ := q1
    have hLf := gLfs_free hLf k1 (fun _ _ _ _ _ _ h => h) h6
    have zM := gMA_free zM k1 (fun _ _ _ h => h)
    have hO := gOld_law hG9 hS
    refine lv_aload_n hx hb dL_law_458 rfl (lv_at hl 1 rfl) ?_
    obtain ⟨fs9, hat⟩ := gMA_at zM
    obtain ⟨sA, s7, zM⟩ := zM
    have zM : gSg G (B + 156) (gLM G (B + 156) π μ (gR (gR (gR (gR f 10 sA) 7 s7) 6 (f 6)) 13 (gS5 (f 13 1) (f 13 2) (f 13 3) (nI o9) (nI c0))) g) H1 := by rw [← f134, ← f136]; exact zM
    refine g_ki (g_runV (T := TX12) (ci := 12) (N := 45) (rest := [.int r1]) hx hb hml hown hE hT (c_X12_loft_full l G (B + 156) π μ (gR (gR f 10 sA) 7 s7) g tn htn hTn (f 6) o9 c0 (f 13 1) (f 13 2) (f 13 3) hc8 ho9 htG2 lc hlc h66) gM_X12_loft gm_L_52 gi_X12_loft gs_RX12_yX12_loft_yX12_loft rfl hat ⟨hO, zM⟩ rfl hl.1 ⟨rfl, rfl⟩ ⟨Nat.le_of_ble_eq_true rfl, Nat.le_of_ble_eq_true rfl⟩ ⟨Nat.le_of_ble_eq_true rfl, Nat.le_of_ble_eq_true rfl⟩ rfl (Nat.le_of_ble_eq_true rfl) dL_law_459) hS (fun q h => Nat.le_trans hB (Nat.le_trans (Nat.le_add_right _ _) h.1)) (fun r2 H2 locs q2 k2 hS => ?_)
    obtain ⟨e2, zM⟩ := q2
    rw [← f134, ← f136] at zM
    have zM : gMA G (B + 156) π μ f g H2 := ⟨sA, s7, zM⟩
    have hCN := gCN_free hCN k2 (fun q _ a h => absurd a (Nat.not_lt.mpr h.1))
    have hLf := gLfs_free hLf k2 (fun q _ a _ _ _ h => absurd a (Nat.not_lt.mpr h.1)) h6
    refine lv_icmp_eq (tgt := 1248) hx hb dL_law_462 (by decide) (fun _ => ?_) (fun c9 => absurd (e1.trans e2.symm) c9)
    exact kk _ _ _ ⟨π, πk, μ, α, f, g, lc, lp, lk, A, acc, acck, ⟨hI, hIk, hTA, ⟨rn, hrn, hr9⟩, hTs, ⟨tn, htn, hTn⟩, hlc, h6, hk1, hk2, hRL, him⟩, ⟨hCN, hLf⟩, zM⟩ hS hl
