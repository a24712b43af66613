set_option maxHeartbeats 4000000 in
set_option maxRecDepth 100000 in
theorem c_X12_comes (l : Launch) (G : gW) (b : Nat) (π μ f : gPS) (g : Nat → Int64) (n : Nat) (hz : π 15 0 = nI n) (hn : n ≤ 6) (L : gLf) (hh : gHold π f L) (x : Nat) (hx8 : x < 8) : gCI l yX12_comes cX12_comes 4 .int (gRm 7 164) G [.ref b, .int (nI x)] (fun H => gMA G b π μ f g H) (fun r H => r = gCom π L n x 61 ∧ gMA G b π μ f g H) (fun q => b ≤ q ∧ q < b + 30) := by
  refine g_start (by decide) (Nat.le_of_ble_eq_true rfl) ?_
  intro pp_ ee_ s mm_ aa_ below meth cc_ ls Q hQ hX hE hP hl
  obtain ⟨hx, hb, hr, hml, hown, hT, hlk, hnm⟩ := hX
  have hK := hE.2.1
  obtain ⟨sA, s7, h1⟩ := hP
  have hS : va_S (fun q => b ≤ q ∧ q < b + 30) s.heap s.heap [] := va_S.rf
  have hl : lv_has ls 4 [(0, .ref b), (1, .int (nI x))] := hl
  refine lv_aload_n hx hb dX12_comes_0 rfl (lv_at hl 0 rfl) ?_
  refine lv_aload_n hx hb dX12_comes_1 rfl (lv_at hl 0 rfl) ?_
  refine g_get (v := .ref (b + 26)) (T := TX12) (ci := 12) (N := 45) hx hb hown hK (gY_X12 hT) rfl (h1 0 _ rfl) 41 (by decide) (hT _ gf_X12_88) rfl dX12_comes_2 ?_
  refine g_kv (g_runV (T := TX12) (ci := 12) (N := 45) (rest := []) hx hb hml hown hE hT (c_X12_keep_10 l G b π μ (gR (gR f 10 sA) 7 s7) g) gM_X12_keep gm_X12_265 gi_X12_keep gs_RX12_yX12_keep_yX12_keep rfl (h1 0 _ rfl) h1 rfl hl.1 ⟨rfl, rfl⟩ ⟨Nat.le_of_ble_eq_true rfl, Nat.le_of_ble_eq_true rfl⟩ ⟨Nat.zero_le _, Nat.zero_le _⟩ rfl (Nat.le_of_ble_eq_true rfl) dX12_comes_5) hS (by intro q hq; omega) (fun H1 locs q2 k3 hS => ?_)
  have h1 := q2
  generalize hGE : gEn π = E9 at h1
  have hEn : gAgr (fun j => j < 136) E9 (gEn π) := fun j _ => by rw [hGE]
  have h1 : gSg G b (gLM G b π μ (gR (gR f 10 E9) 7 s7) g) H1 := h1
  refine lv_bipush (v := (-5)) hx hb dX12_comes_8 (by decide) ?_
  refine lv_istore_n (lv' := [(2, .int (-5)), (0, .ref b), (1, .int (nI x))]) hx hb dX12_comes_10 rfl hl (by decide) rfl (fun ls hl => ?_)
  refine lv_iconst (v := 0) hx hb dX12_comes_11 (by decide) ?_
  refine lv_istore_n (lv' := [(3, .int 0), (2, .int (-5)), (0, .ref b), (1, .int (nI x))]) hx hb dX12_comes_12 rfl hl (by decide) rfl (fun ls hl => ?_)
  have loop : ∀ (d k : Nat), k + d = 61 → ∀ (P9 : gPS) (s7 : Nat → Int32), ((k = 0 ∧ P9 = π) ∨ ∃ j, k = j + 1 ∧ P9 = gDs π L n j) → ∀ (H : Heap) (locs : List Loc), gSg G b (gLM G b P9 μ (gR (gR f 10 E9) 7 s7) g) H → va_S (fun q => b ≤ q ∧ q < b + 30) s.heap H locs → ∀ ls, lv_has ls 4 [(0, .ref b), (1, .int (nI x)), (2, .int (gCom π L n x k)), (3, .int (nI k))] → W pp_ l ee_ (gRm 7 164) s mm_ aa_ below meth cc_ H locs 0 0 Q (F0 mm_ 13 ls []) := by
    intro d
    induction d with
    | zero =>
      intro k hk P9 s7 hP9 H locs h1 hS ls hl
      have hk : k = 61 := by omega
      refine lv_iload_n hx hb dX12_comes_13 rfl (lv_at hl 3 rfl) ?_
      refine lv_bipush (v := 61) hx hb dX12_comes_14 (by decide) ?_
      refine lv_icmp_ge (tgt := 52) hx hb dX12_comes_16 (by decide) (fun c5 => ?_) (fun c5 => ?_)
      · have c5 : 61 ≤ k := (gLe (a := 61) (b := k) rfl rfl (by omega) (by omega)).mp c5
        refine lv_aload_n hx hb dX12_comes_52 rfl (lv_at hl 0 rfl) ?_
        refine lv_aload_n hx hb dX12_comes_53 rfl (lv_at hl 0 rfl) ?_
        refine g_get (v := .ref (b + 26)) (T := TX12) (ci := 12) (N := 45) hx hb hown hK (gY_X12 hT) rfl (h1 0 _ rfl) 41 (by decide) (hT _ gf_X12_88) rfl dX12_comes_54 ?_
        refine g_kv (g_runV (T := TX12) (ci := 12) (N := 45) (rest := []) hx hb hml hown hE hT (c_X12_again_10 l G b P9 μ (gR (gR f 10 E9) 7 s7) g π hEn) gM_X12_again gm_X12_269 gi_X12_again gs_RX12_yX12_again_yX12_again rfl (h1 0 _ rfl) h1 rfl hl.1 ⟨rfl, rfl⟩ ⟨Nat.le_of_ble_eq_true rfl, Nat.le_of_ble_eq_true rfl⟩ ⟨Nat.zero_le _, Nat.zero_le _⟩ rfl (Nat.le_of_ble_eq_true rfl) dX12_comes_57) hS (by intro q hq; omega) (fun H6 locs q7 k8 hS => ?_)
        have h1 := q7
        refine lv_iload_n hx hb dX12_comes_60 rfl (lv_at hl 2 rfl) ?_
        rw [← hQ]
        exact g_iret hx hb hr hlk hS dX12_comes_61 ⟨by rw [hk], E9, s7, h1⟩
      · have c5 : ¬ 61 ≤ k := fun z => c5 ((gLe (a := 61) (b := k) rfl rfl (by omega) (by omega)).mpr z)
        exact absurd c5 (by omega)
    | succ d ih =>
      intro k hk P9 s7 hP9 H locs h1 hS ls hl
      refine lv_iload_n hx hb dX12_comes_13 rfl (lv_at hl 3 rfl) ?_
      refine lv_bipush (v := 61) hx hb dX12_comes_14 (by decide) ?_
      refine lv_icmp_ge (tgt := 52) hx hb dX12_comes_16 (by decide) (fun c10 => ?_) (fun c10 => ?_)
      · have c10 : 61 ≤ k := (gLe (a := 61) (b := k) rfl rfl (by omega) (by omega)).mp c10
        exact absurd c10 (by omega)
      · have c10 : ¬ 61 ≤ k := fun z => c10 ((gLe (a := 61) (b := k) rfl rfl (by omega) (by omega)).mpr z)
        refine lv_iload_n hx hb dX12_comes_19 rfl (lv_at hl 2 rfl) ?_
        refine lv_bipush (v := (-5)) hx hb dX12_comes_20 (by decide) ?_
        refine lv_icmp_ne (tgt := 52) hx hb dX12_comes_22 (by decide) (fun c11 => ?_) (fun c11 => ?_)
        · refine lv_aload_n hx hb dX12_comes_52 rfl (lv_at hl 0 rfl) ?_
          refine lv_aload_n hx hb dX12_comes_53 rfl (lv_at hl 0 rfl) ?_
          refine g_get (v := .ref (b + 26)) (T := TX12) (ci := 12) (N := 45) hx hb hown hK (gY_X12 hT) rfl (h1 0 _ rfl) 41 (by decide) (hT _ gf_X12_88) rfl dX12_comes_54 ?_
          refine g_kv (g_runV (T := TX12) (ci := 12) (N := 45) (rest := []) hx hb hml hown hE hT (c_X12_again_10 l G b P9 μ (gR (gR f 10 E9) 7 s7) g π hEn) gM_X12_again gm_X12_269 gi_X12_again gs_RX12_yX12_again_yX12_again rfl (h1 0 _ rfl) h1 rfl hl.1 ⟨rfl, rfl⟩ ⟨Nat.le_of_ble_eq_true rfl, Nat.le_of_ble_eq_true rfl⟩ ⟨Nat.zero_le _, Nat.zero_le _⟩ rfl (Nat.le_of_ble_eq_true rfl) dX12_comes_57) hS (by intro q hq; omega) (fun H12 locs q13 k14 hS => ?_)
          have h1 := q13
          refine lv_iload_n hx hb dX12_comes_60 rfl (lv_at hl 2 rfl) ?_
          rw [← hQ]
          exact g_iret hx hb hr hlk hS dX12_comes_61 ⟨by have := gCom_st c11 (61 - k); rw [← this, show k + (61 - k) = 61 by omega], E9, s7, h1⟩
        · refine lv_iload_n hx hb dX12_comes_25 rfl (lv_at hl 3 rfl) ?_
          refine lv_if_le (tgt := 33) hx hb dX12_comes_26 (by decide) (fun c16 => ?_) (fun c16 => ?_)
          · have c16 : k ≤ 0 := (gLe (a := k) (b := 0) rfl rfl (by omega) (by omega)).mp c16
            have e0 : P9 = gDs π L n k := hP9.elim (fun z => by rw [z.1]; exact z.2) (fun ⟨j, q, e⟩ => absurd q (by omega))
            rw [e0] at h1
            refine lv_aload_n hx hb dX12_comes_33 rfl (lv_at hl 0 rfl) ?_
            refine g_get (v := .int ((gDs π L n k) 15 1)) (T := TX12) (ci := 12) (N := 45) hx hb hown hK (gY_X12 hT) rfl (h1 0 _ rfl) 2 (by decide) (hT _ gf_X12_241) rfl dX12_comes_34 ?_
            refine lv_iload_n hx hb dX12_comes_37 rfl (lv_at hl 1 rfl) ?_
            refine g_ki (g_runS (rest := []) hx hb hml hown hE hT (c_X12_has l G ((gDs π L n k) 15 1) x) gM_X12_has gm_X12_223 gt_X12_has trivial rfl hl.1 ⟨rfl, rfl⟩ ⟨Nat.le_of_ble_eq_true rfl, Nat.le_of_ble_eq_true rfl⟩ ⟨Nat.zero_le _, Nat.zero_le _⟩ rfl (Nat.le_of_ble_eq_true rfl) dX12_comes_38) hS (fun _ h => h.elim) (fun r20 H17 locs q18 k19 hS => ?_)
            subst q18
            have h1 := gSg_free h1 k19 (by intro k hk q; simp only [List.length_cons, List.length_nil] at hk; omega)
            refine lv_if_eq (tgt := 46) hx hb dX12_comes_41 (by decide) (fun c21 => ?_) (fun c21 => ?_)
            · have c21 : ¬ (¬ ((gDs π L n k) 15 1) >>> (nI x &&& 31) &&& 1 = 0) := gB_0.mp c21
              refine lv_iinc (v := nI (k + 1)) (lv' := [(3, .int (nI (k + 1))), (0, .ref b), (1, .int (nI x)), (2, .int (gCom π L n x k))]) hx hb dX12_comes_46 hl (k := 3) rfl (gAdd rfl (show Int32.ofInt 1 = nI 1 from rfl)) (by decide) rfl (fun ls hl => ?_)
              refine lv_goto (tgt := 13) hx hb dX12_comes_49 (by decide) ?_
              exact ih (k + 1) (by omega) (gDs π L n k) s7 (Or.inr ⟨k, rfl, rfl⟩) _ _ h1 hS _ (by have hl := lv_sub hl [1, 2, 3, 0] rfl; rw [show (gCom π L n x k : Int32) = gCom π L n x (k + 1) from by rw [gCom, if_pos c11, if_pos (Decidable.not_not.mp c21)]; exact c11] at hl; exact hl)
            · have c21 : ¬ ((gDs π L n k) 15 1) >>> (nI x &&& 31) &&& 1 = 0 := gB_1.mp c21
              refine lv_iload_n hx hb dX12_comes_44 rfl (lv_at hl 3 rfl) ?_
              refine lv_istore_n (lv' := [(2, .int (nI k)), (0, .ref b), (1, .int (nI x)), (3, .int (nI k))]) hx hb dX12_comes_45 rfl hl (by decide) rfl (fun ls hl => ?_)
              refine lv_iinc (v := nI (k + 1)) (lv' := [(3, .int (nI (k + 1))), (2, .int (nI k)), (0, .ref b), (1, .int (nI x))]) hx hb dX12_comes_46 hl (k := 3) rfl (gAdd rfl (show Int32.ofInt 1 = nI 1 from rfl)) (by decide) rfl (fun ls hl => ?_)
              refine lv_goto (tgt := 13) hx hb dX12_comes_49 (by decide) ?_
              exact ih (k + 1) (by omega) (gDs π L n k) s7 (Or.inr ⟨k, rfl, rfl⟩) _ _ h1 hS _ (by have hl := lv_sub hl [2, 3, 1, 0] rfl; rw [show (nI k : Int32) = gCom π L n x (k + 1) from by rw [gCom, if_pos c11, if_neg c21]] at hl; exact hl)
          · have c16 : ¬ k ≤ 0 := fun z => c16 ((gLe (a := k) (b := 0) rfl rfl (by omega) (by omega)).mpr z)
            obtain ⟨j, ej, e0⟩ : ∃ j, k = j + 1 ∧ P9 = gDs π L n j := hP9.elim (fun z => absurd z.1 (by omega)) (fun z => z)
            have hz9 : P9 15 0 = nI n := by rw [e0, gDs_15 (by decide) (by decide)]; exact hz
            have hh9 : gHold P9 (gR f 10 E9) L := gHold_10 (gHold_eq hh (by rw [e0, gDs_15 (by decide) (by decide)]))
            refine lv_aload_n hx hb dX12_comes_29 rfl (lv_at hl 0 rfl) ?_
            refine g_kv (g_runV (T := TX12) (ci := 12) (N := 45) (rest := []) hx hb hml hown hE hT (c_X12_goesDay l G b P9 μ (gR f 10 E9) g n hz9 hn L hh9) gM_X12_goesDay gm_X12_262 gi_X12_goesDay gs_RX12_yX12_goesDay_yX12_goesDay rfl (h1 0 _ rfl) ⟨s7, h1⟩ rfl hl.1 ⟨rfl, rfl⟩ ⟨Nat.le_of_ble_eq_true rfl, Nat.le_of_ble_eq_true rfl⟩ ⟨Nat.zero_le _, Nat.zero_le _⟩ rfl (Nat.le_of_ble_eq_true rfl) dX12_comes_30) hS (by intro q hq; omega) (fun H22 locs q23 k24 hS => ?_)
            obtain ⟨s7, h1⟩ := q23
            have e1 : gDay P9 L n = gDs π L n k := by rw [e0, ej, gDs]
            rw [e1] at h1
            refine lv_aload_n hx hb dX12_comes_33 rfl (lv_at hl 0 rfl) ?_
            refine g_get (v := .int ((gDs π L n k) 15 1)) (T := TX12) (ci := 12) (N := 45) hx hb hown hK (gY_X12 hT) rfl (h1 0 _ rfl) 2 (by decide) (hT _ gf_X12_241) rfl dX12_comes_34 ?_
            refine lv_iload_n hx hb dX12_comes_37 rfl (lv_at hl 1 rfl) ?_
            refine g_ki (g_runS (rest := []) hx hb hml hown hE hT (c_X12_has l G ((gDs π L n k) 15 1) x) gM_X12_has gm_X12_223 gt_X12_has trivial rfl hl.1 ⟨rfl, rfl⟩ ⟨Nat.le_of_ble_eq_true rfl, Nat.le_of_ble_eq_true rfl⟩ ⟨Nat.zero_le _, Nat.zero_le _⟩ rfl (Nat.le_of_ble_eq_true rfl) dX12_comes_38) hS (fun _ h => h.elim) (fun r29 H26 locs q27 k28 hS => ?_)
            subst q27
            have h1 := gSg_free h1 k28 (by intro k hk q; simp only [List.length_cons, List.length_nil] at hk; omega)
            refine lv_if_eq (tgt := 46) hx hb dX12_comes_41 (by decide) (fun c30 => ?_) (fun c30 => ?_)
            · have c30 : ¬ (¬ ((gDs π L n k) 15 1) >>> (nI x &&& 31) &&& 1 = 0) := gB_0.mp c30
              refine lv_iinc (v := nI (k + 1)) (lv' := [(3, .int (nI (k + 1))), (0, .ref b), (1, .int (nI x)), (2, .int (gCom π L n x k))]) hx hb dX12_comes_46 hl (k := 3) rfl (gAdd rfl (show Int32.ofInt 1 = nI 1 from rfl)) (by decide) rfl (fun ls hl => ?_)
              refine lv_goto (tgt := 13) hx hb dX12_comes_49 (by decide) ?_
              exact ih (k + 1) (by omega) (gDs π L n k) s7 (Or.inr ⟨k, rfl, rfl⟩) _ _ h1 hS _ (by have hl := lv_sub hl [1, 2, 3, 0] rfl; rw [show (gCom π L n x k : Int32) = gCom π L n x (k + 1) from by rw [gCom, if_pos c11, if_pos (Decidable.not_not.mp c30)]; exact c11] at hl; exact hl)
            · have c30 : ¬ ((gDs π L n k) 15 1) >>> (nI x &&& 31) &&& 1 = 0 := gB_1.mp c30
              refine lv_iload_n hx hb dX12_comes_44 rfl (lv_at hl 3 rfl) ?_
              refine lv_istore_n (lv' := [(2, .int (nI k)), (0, .ref b), (1, .int (nI x)), (3, .int (nI k))]) hx hb dX12_comes_45 rfl hl (by decide) rfl (fun ls hl => ?_)
              refine lv_iinc (v := nI (k + 1)) (lv' := [(3, .int (nI (k + 1))), (2, .int (nI k)), (0, .ref b), (1, .int (nI x))]) hx hb dX12_comes_46 hl (k := 3) rfl (gAdd rfl (show Int32.ofInt 1 = nI 1 from rfl)) (by decide) rfl (fun ls hl => ?_)
              refine lv_goto (tgt := 13) hx hb dX12_comes_49 (by decide) ?_
              exact ih (k + 1) (by omega) (gDs π L n k) s7 (Or.inr ⟨k, rfl, rfl⟩) _ _ h1 hS _ (by have hl := lv_sub hl [2, 3, 1, 0] rfl; rw [show (nI k : Int32) = gCom π L n x (k + 1) from by rw [gCom, if_pos c11, if_neg c30]] at hl; exact hl)
  exact loop (61 - 0) 0 (by first | omega | simp) π s7 (Or.inl ⟨rfl, rfl⟩) _ _ h1 hS _ (lv_sub hl [2, 3, 1, 0] rfl)
