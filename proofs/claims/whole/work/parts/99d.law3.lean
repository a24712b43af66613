/-! THE LAW: from its entry to its loop -/
theorem gInv_0 : gInv gPi0 := by
  refine ⟨⟨0, by omega, rfl, fun k _ hk => ?_⟩, fun k hk => ⟨0, by omega, rfl⟩, ⟨0, by omega, rfl, fun k hk => absurd hk (Nat.not_lt_zero _)⟩, ⟨0, by omega, rfl, fun k hk => absurd hk (Nat.not_lt_zero _)⟩, ⟨0, by omega, rfl, fun k hk => absurd hk (Nat.not_lt_zero _)⟩, fun k hk => ⟨0, by omega, rfl⟩⟩
  exact ⟨rfl, rfl, rfl, fun j hj => rfl⟩
theorem gTpe_0 : gTpe gMu0 := fun t ht => by
  match t, ht with
  | 0, _ => exact Or.inl ⟨rfl, rfl⟩
  | 1, _ => exact Or.inl ⟨rfl, rfl⟩
  | 2, _ => exact Or.inl ⟨rfl, rfl⟩
  | 3, _ => exact Or.inl ⟨rfl, rfl⟩
  | 4, _ => exact Or.inl ⟨rfl, rfl⟩
  | 5, _ => exact Or.inl ⟨rfl, rfl⟩
theorem gClo_0 : gClo gFl0 [] := by
  refine ⟨Nat.zero_le _, 0, 0, Nat.zero_le _, Nat.zero_le _, rfl, rfl, ?_⟩
  unfold gCac
  refine ⟨rfl, rfl, rfl, fun i hi => absurd hi (Nat.not_lt_zero _)⟩
theorem gWo_0 {G : gW} {B : Nat} {H : Heap} (h1 : gCW G B (B + 23) gPi0 (B + 93) gPi0 gFl0 gMu0 (fun _ _ => 0) (fun _ => 0) H) (h2 : ∀ i, i < 6 → gSg G (B + 107 + 13 + 6 * i) (gLL G (B + 107 + 13 + 6 * i) gFl0) H) (h3 : gSg G (B + 58) (gLL G (B + 58) gFl0) H) (h4 : gSg G (B + 93) (gLL G (B + 93) gFl0) H) (h5 : gSg G (B + 156) (gLM G (B + 156) gPi0 gMu0 (fun _ _ => 0) (fun _ => 0)) H) : gWo G B (B + 156) H := by
  have hz := gCW_v.mp h1
  refine ⟨gPi0, gPi0, gMu0, fun _ _ => 0, fun _ _ => 0, fun _ => 0, 0, B + 23, B + 93, fun _ => [], [], [], ⟨gInv_0, gInv_0, ⟨rfl, rfl⟩, ⟨0, by omega, rfl⟩, gTpe_0, ⟨0, rfl, by omega, fun j hj => absurd hj (Nat.not_lt_zero _)⟩, rfl, by omega, Or.inl ⟨rfl, rfl, Or.inl rfl⟩, Or.inl ⟨rfl, rfl, Or.inr (Or.inr rfl)⟩, ⟨0, 0, by omega, by omega, rfl, rfl, fun i hi => absurd hi (Nat.not_lt_zero _)⟩, fun h => absurd rfl h⟩, ⟨hz.2, fun i hi => absurd hi (Nat.not_lt_zero _), fun i _ hi => ⟨gFl0, h2 i hi, rfl⟩, fun a ha => ?_⟩, ⟨fun _ => 0, fun _ => 0, h5⟩⟩
  rcases ha with e | e | e
  · subst e
    exact ⟨gFl0, hz.1, gClo_0⟩
  · subst e
    exact ⟨gFl0, ⟨gFl0 4, h3⟩, gClo_0⟩
  · subst e
    exact ⟨gFl0, ⟨gFl0 4, h4⟩, gClo_0⟩
theorem gCW_free {G : gW} {B : Nat} {H H1 : Heap} (h : gCW G B (B + 23) gPi0 (B + 93) gPi0 gFl0 gMu0 (fun _ _ => 0) (fun _ => 0) H ∧ (∀ i, i < 6 → gSg G (B + 107 + 13 + 6 * i) (gLL G (B + 107 + 13 + 6 * i) gFl0) H) ∧ gSg G (B + 58) (gLL G (B + 58) gFl0) H ∧ gSg G (B + 93) (gLL G (B + 93) gFl0) H) (hq : ∀ q : Nat, q < B + 156 → H1[q]? = H[q]?) : gCW G B (B + 23) gPi0 (B + 93) gPi0 gFl0 gMu0 (fun _ _ => 0) (fun _ => 0) H1 ∧ (∀ i, i < 6 → gSg G (B + 107 + 13 + 6 * i) (gLL G (B + 107 + 13 + 6 * i) gFl0) H1) ∧ gSg G (B + 58) (gLL G (B + 58) gFl0) H1 ∧ gSg G (B + 93) (gLL G (B + 93) gFl0) H1 := by
  obtain ⟨a, b, c, d⟩ := h
  have a2 := gCW_v.mp a
  have hq2 : ∀ q : Nat, q < H.size → ¬ (B + 156 ≤ q) → H1[q]? = H[q]? := fun q _ h => hq q (by omega)
  refine ⟨gCW_v.mpr ⟨gC4_free a2.1 hq2 (fun k hk => by omega), gCN_free a2.2 hq2 (fun q _ h => by omega)⟩, fun i hi => gSg_free (b i hi) hq2 (fun k hk => ?_), gSg_free c hq2 (fun k hk => ?_), gSg_free d hq2 (fun k hk => ?_)⟩ <;> (simp only [List.length_cons, List.length_nil] at hk; omega)
set_option maxHeartbeats 4000000 in
set_option maxRecDepth 100000 in
theorem law_start {p : Program} {l : Launch} {e : Env} {s : State} {m : MethodId} {below : List Frame} {meth : Method} {c : Code} {G : gW} {b0 L : Nat} {xs : Nat → Int32} (hL : L ≤ 3072) (C0 : gLC G p s m meth c b0 L xs) (hr : meth.sig.returnType = ret) (hlk : meth.locks = false) : W p l e room_1 s m #[Value.ref b0] below meth c s.heap [] 0 0 (lw_Z below #[Value.ref b0] s) (entryFrame m ([Value.ref b0] : List Value).toArray 4) := by
  obtain ⟨hx, hb, hml, hown, hT, hX, hbl, hE2, hG9⟩ := id C0
  have hE := hE2.1
  have hK := hE.2.1
  have hS : va_S (fun q => s.heap.size ≤ q) s.heap s.heap [] := va_S.rf
  have hl := lv_entry [Value.ref b0] (n := 4) (Nat.le_of_ble_eq_true rfl)
  rw [lg_entry_eq]
  generalize (lg_sl [Value.ref b0] ++ List.replicate (4 - (lg_sl [Value.ref b0]).length) Slot.unset).toArray = ls at hl ⊢
  have hl : lv_has ls 4 [(0, .ref b0)] := hl
  obtain ⟨B, hB⟩ : ∃ B, s.heap.size = B := ⟨_, rfl⟩
  have hO := gOld_law hG9 hS
  have htG : G.2.2.2.size ≤ B := by rw [hG9, hB]; exact Nat.le_refl _
  refine g_new (T := TX11) (N := 13) (ci := 11) (ty := tyX11) (fs := [.null, .null, .null, .int 0, .null, .int 0, .null, .int 0, .null, .null, .null, .null, .null]) (b := B) hx hb hown hT hK hS gk_L_7 ga_RX11 gn_RX11 rfl (gY_X11 hT) tyX11_ok (by decide) (Nat.le_of_ble_eq_true rfl) (Nat.le_of_ble_eq_true rfl) hB dL_law_0 (fun H1 y1 z1 o1 hS => ?_)
  have hO := gOld_law hG9 hS
  refine lv_dup hx hb dL_law_3 rfl ?_
  refine g_kn (g_runI (As := []) (rest := [.ref B]) (n := 0) hx hb hml hown hE2 hT (c_X11_init l G B htG) gM_X11_init gm_L_9 gi_X11_init rfl ⟨hO, y1, z1⟩ rfl hl.1 ⟨rfl, rfl⟩ ⟨Nat.le_of_ble_eq_true rfl, Nat.le_of_ble_eq_true rfl⟩ ⟨Nat.le_of_ble_eq_true rfl, Nat.le_of_ble_eq_true rfl⟩ rfl (Nat.le_of_ble_eq_true rfl) dL_law_4) hS (fun q hq => Nat.le_trans (Nat.le_of_eq hB) hq) (fun H2 locs q2 k2 hS => ?_)
  obtain ⟨w1, w2, w3, w4, z2⟩ := q2
  refine lv_astore_n (lv' := [(1, .ref B), (0, .ref b0)]) hx hb dL_law_7 rfl hl (by decide) rfl (fun ls hl => ?_)
  refine g_new (T := TX12) (N := 45) (ci := 12) (ty := tyX12) (fs := [.null, .null, .int 0, .int 0, .null, .null, .null, .null, .null, .null, .int 0, .int 0, .null, .int 0, .int 0, .int 0, .int 0, .int 0, .int 0, .null, .null, .null, .null, .null, .null, .int 0, .null, .int 0, .null, .null, .null, .int 0, .null, .null, .int 0, .null, .null, .int 0, .null, .int 0, .null, .null, .null, .null, .null]) (b := B + 156) hx hb hown hT hK hS gk_L_10 ga_RX12 gn_RX12 rfl (gY_X12 hT) tyX12_ok (by decide) (Nat.le_of_ble_eq_true rfl) (Nat.le_of_ble_eq_true rfl) z2 dL_law_8 (fun H3 y3 z3 o3 hS => ?_)
  obtain ⟨w1, w2, w3, w4⟩ := gCW_free ⟨w1, w2, w3, w4⟩ o3
  refine lv_dup hx hb dL_law_11 rfl ?_
  refine g_kn (g_runI (As := []) (rest := [.ref (B + 156)]) (n := 0) hx hb hml hown hE2 hT (c_X12_init l G (B + 156)) gM_X12_init gm_L_12 gi_X12_init rfl ⟨y3, z3⟩ rfl hl.1 ⟨rfl, rfl⟩ ⟨Nat.le_of_ble_eq_true rfl, Nat.le_of_ble_eq_true rfl⟩ ⟨Nat.le_of_ble_eq_true rfl, Nat.le_of_ble_eq_true rfl⟩ rfl (Nat.le_of_ble_eq_true rfl) dL_law_12) hS (fun q hq => Nat.le_trans (Nat.le_of_eq hB) (Nat.le_trans (Nat.le_add_right _ _) hq)) (fun H4 locs q4 k4 hS => ?_)
  obtain ⟨z4, z5⟩ := q4
  obtain ⟨w1, w2, w3, w4⟩ := gCW_free ⟨w1, w2, w3, w4⟩ (fun q hq => k4 q (by rw [z3]; exact Nat.lt_succ_of_lt hq) (Nat.not_le.mpr hq))
  refine lv_astore_n (lv' := [(2, .ref (B + 156)), (1, .ref B), (0, .ref b0)]) hx hb dL_law_15 rfl hl (by decide) rfl (fun ls hl => ?_)
  refine lv_iconst (v := 0) hx hb dL_law_16 (by decide) ?_
  refine lv_istore_n (lv' := [(3, .int 0), (2, .ref (B + 156)), (1, .ref B), (0, .ref b0)]) hx hb dL_law_17 rfl hl (by decide) rfl (fun ls hl => ?_)
  exact law_loop hL C0 hr hlk (Nat.le_of_eq hB) 513 0 rfl H4 locs (gWo_0 w1 w2 w3 w4 z4) hS ls hl
