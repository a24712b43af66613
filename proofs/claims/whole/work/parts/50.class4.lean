set_option maxHeartbeats 4000000 in
set_option maxRecDepth 100000 in
theorem c_X5_takesOne_0 (l : Launch) (G : gW) (t : Nat) (f : gPS) (n : Nat) (hT9 : gTx (f 0) n) (E : Nat → Int32) (p c : Nat) (wd rs : Int32) (hp : p ≤ n) (hc : c + (n - p) ≤ 100) (htG : G.2.2.2.size ≤ t)  : gCI l yX5_takesOne cX5_takesOne 2 .boolean (gRm 7 151) G [.ref t, .int 4] (fun H => gOld G H ∧ gSg G t (gLL G t (gR (gR f 1 E) 5 (gS6 (nI n) (nI p) (nI c) wd rs))) H) (fun r H => r = gB ((gPF (f 0) n 0 p).1 = true) ∧ ∃ E9 : Nat → Int32, gCs E c E9 (gPF (f 0) n 0 p).2.2 ∧ gSg G t (gLL G t (gR (gR f 1 E9) 5 (gS6 (nI n) (nI (gPF (f 0) n 0 p).2.1) (nI (c + ((gPF (f 0) n 0 p).2.2).length)) wd rs))) H) (fun q => t ≤ q ∧ q < t + 6) := by
  refine g_start (by decide) (Nat.le_of_ble_eq_true rfl) ?_
  intro pp_ ee_ s mm_ aa_ below meth cc_ ls Q hQ hX hE hP hl
  obtain ⟨hx, hb, hr, hml, hown, hT, hlk, hnm⟩ := hX
  have hK := hE.2.1
  obtain ⟨hO, h1⟩ := hP
  have hS : va_S (fun q => t ≤ q ∧ q < t + 6) s.heap s.heap [] := va_S.rf
  have hl : lv_has ls 2 [(0, .ref t), (1, .int 4)] := hl
  have hn9 : n ≤ 100 := hT9.1
  have hJ := hE.2.2.2.2.2.2.now hO
  refine lv_iload_n hx hb dX5_takesOne_0 rfl (lv_at hl 1 rfl) ?_
  refine lv_iconst (v := 4) hx hb dX5_takesOne_1 (by decide) ?_
  refine lv_icmp_ge (tgt := 33) hx hb dX5_takesOne_2 (by decide) (fun c1 => ?_) (fun c1 => ?_)
  · refine lv_iload_n hx hb dX5_takesOne_33 rfl (lv_at hl 1 rfl) ?_
    refine lv_iconst (v := 4) hx hb dX5_takesOne_34 (by decide) ?_
    refine lv_icmp_ge (tgt := 72) hx hb dX5_takesOne_35 (by decide) (fun c2 => ?_) (fun c2 => ?_)
    · refine lv_aload_n hx hb dX5_takesOne_72 rfl (lv_at hl 0 rfl) ?_
      have fy3 : p ≤ (gTe (f 0) n p).2.1 ∧ (gTe (f 0) n p).2.1 ≤ n ∧ (gTe (f 0) n p).2.2.length ≤ (gTe (f 0) n p).2.1 - p := gTe_fit (f 0) n p (by omega)
      refine g_ki (g_runV (T := TX5) (ci := 5) (N := 10) (rest := []) hx hb hml hown hE hT (c_X5_takesTest l G t f n hT9 E p c wd rs (by omega) (by omega) htG) gM_X5_takesTest gm_X5_99 gi_X5_takesTest gs_RX5_yX5_takesTest_yX5_takesTest rfl (h1 0 _ rfl) ⟨(gOld_S hO hS (fun q9 hq9 => Nat.le_trans htG hq9.1)), h1⟩ rfl hl.1 ⟨rfl, rfl⟩ ⟨Nat.le_of_ble_eq_true rfl, Nat.le_of_ble_eq_true rfl⟩ ⟨Nat.zero_le _, Nat.zero_le _⟩ rfl (Nat.le_of_ble_eq_true rfl) dX5_takesOne_73) hS (by intro q hq; omega) (fun r7 H4 locs q5 k6 hS => ?_)
      obtain ⟨e9, Ey3, hcy3, h1⟩ := q5
      rw [e9]
      rw [← hQ]
      exact g_zret hx hb hr hlk gB_n hS dX5_takesOne_76 (by rw [show gPF (f 0) n 0 p = gTe (f 0) n p from by rw [gPF]]; exact ⟨rfl, _, hcy3, h1⟩)
    · exact absurd (by decide) c2
  · exact absurd (by decide) c1

set_option maxHeartbeats 4000000 in
set_option maxRecDepth 100000 in
theorem c_X5_takesEither_0 (l : Launch) (G : gW) (t : Nat) (f : gPS) (n : Nat) (hT9 : gTx (f 0) n) (E : Nat → Int32) (p c : Nat) (wd rs : Int32) (hp : p ≤ n) (hc : c + (n - p) ≤ 100) (htG : G.2.2.2.size ≤ t)  : gCI l yX5_takesEither cX5_takesEither 4 .boolean (gRm 8 172) G [.ref t, .int 4] (fun H => gOld G H ∧ gSg G t (gLL G t (gR (gR f 1 E) 5 (gS6 (nI n) (nI p) (nI c) wd rs))) H) (fun r H => r = gB ((gE (f 0) n 0 p).1 = true) ∧ ∃ E9 : Nat → Int32, gCs E c E9 (gE (f 0) n 0 p).2.2 ∧ gSg G t (gLL G t (gR (gR f 1 E9) 5 (gS6 (nI n) (nI (gE (f 0) n 0 p).2.1) (nI (c + ((gE (f 0) n 0 p).2.2).length)) wd rs))) H) (fun q => t ≤ q ∧ q < t + 6) := by
  refine g_start (by decide) (Nat.le_of_ble_eq_true rfl) ?_
  intro pp_ ee_ s mm_ aa_ below meth cc_ ls Q hQ hX hE hP hl
  obtain ⟨hx, hb, hr, hml, hown, hT, hlk, hnm⟩ := hX
  have hK := hE.2.1
  obtain ⟨hO, h1⟩ := hP
  have hS : va_S (fun q => t ≤ q ∧ q < t + 6) s.heap s.heap [] := va_S.rf
  have hl : lv_has ls 4 [(0, .ref t), (1, .int 4)] := hl
  have hn9 : n ≤ 100 := hT9.1
  have hJ := hE.2.2.2.2.2.2.now hO
  refine lv_iconst (v := 0) hx hb dX5_takesEither_0 (by decide) ?_
  refine lv_istore_n (lv' := [(2, .int 0), (0, .ref t), (1, .int 4)]) hx hb dX5_takesEither_1 rfl hl (by decide) rfl (fun ls hl => ?_)
  have loop : ∀ (m k q : Nat) (K : List Nat) (E9 : Nat → Int32), q ≤ n → n < q + m → p ≤ q → (k = 0 ∨ (k + 1 ≤ q - p ∧ K.length + 1 ≤ q - p)) → gE (f 0) n 0 p = (if (gT (f 0) n 0 q).1 = true then gTl (gT (f 0) n 0) (f 0) n 124 2 m (gT (f 0) n 0 q).2.1 (K ++ (gT (f 0) n 0 q).2.2 ++ (if k = 0 then [] else [2])) else (false, (gT (f 0) n 0 q).2.1, K ++ (gT (f 0) n 0 q).2.2)) → gCs E c E9 K → K.length ≤ q - p → ∀ (H : Heap) (locs : List Loc), gSg G t (gLL G t (gR (gR f 1 E9) 5 (gS6 (nI n) (nI q) (nI (c + K.length)) wd rs))) H → va_S (fun q => t ≤ q ∧ q < t + 6) s.heap H locs → ∀ ls, lv_has ls 4 [(0, .ref t), (1, .int 4), (2, .int (nI k))] → W pp_ l ee_ (gRm 8 172) s mm_ aa_ below meth cc_ H locs 0 0 Q (F0 mm_ 2 ls []) := by
    intro m
    induction m with
    | zero => intro k q K E9 hq hm; exact absurd hm (by omega)
    | succ m ih =>
      intro k q K E9 hq hm hpq hk1 hi hcd hKl H locs h1 hS ls hl
      refine lv_iload_n hx hb dX5_takesEither_2 rfl (lv_at hl 2 rfl) ?_
      refine lv_bipush (v := 100) hx hb dX5_takesEither_3 (by decide) ?_
      refine lv_icmp_ge (tgt := 84) hx hb dX5_takesEither_5 (by decide) (fun c1 => ?_) (fun c1 => ?_)
      · have c1 : 100 ≤ k := (gLe (a := 100) (b := k) rfl rfl (by omega) (by omega)).mp c1
        exact absurd c1 (by omega)
      · have c1 : ¬ 100 ≤ k := fun z => c1 ((gLe (a := 100) (b := k) rfl rfl (by omega) (by omega)).mpr z)
        refine lv_aload_n hx hb dX5_takesEither_8 rfl (lv_at hl 0 rfl) ?_
        refine lv_iload_n hx hb dX5_takesEither_9 rfl (lv_at hl 1 rfl) ?_
        have fy2 : q ≤ (gPF (f 0) n 0 q).2.1 ∧ (gPF (f 0) n 0 q).2.1 ≤ n ∧ (gPF (f 0) n 0 q).2.2.length ≤ (gPF (f 0) n 0 q).2.1 - q := gPF_fit (f 0) n 0 q (by omega)
        refine g_ki (g_runV (T := TX5) (ci := 5) (N := 10) (rest := []) hx hb hml hown hE hT (c_X5_takesOne_0 l G t f n hT9 E9 q (c + K.length) wd rs (by omega) (by omega) htG) gM_X5_takesOne gm_X5_92 gi_X5_takesOne gs_RX5_yX5_takesOne_yX5_takesOne rfl (h1 0 _ rfl) ⟨(gOld_S hO hS (fun q9 hq9 => Nat.le_trans htG hq9.1)), h1⟩ rfl hl.1 ⟨rfl, rfl⟩ ⟨Nat.le_of_ble_eq_true rfl, Nat.le_of_ble_eq_true rfl⟩ ⟨Nat.zero_le _, Nat.zero_le _⟩ rfl (Nat.le_of_ble_eq_true rfl) dX5_takesEither_10) hS (by intro q hq; omega) (fun r6 H3 locs q4 k5 hS => ?_)
        obtain ⟨e9, Ey2, hcy2, h1⟩ := q4
        rw [e9]
        refine lv_if_ne (tgt := 18) hx hb dX5_takesEither_13 (by decide) (fun c7 => ?_) (fun c7 => ?_)
        · have c7 : (gPF (f 0) n 0 q).1 = true := gB_1.mp c7
          refine lv_iconst (v := 0) hx hb dX5_takesEither_18 (by decide) ?_
          refine lv_istore_n (lv' := [(3, .int 0), (0, .ref t), (1, .int 4), (2, .int (nI k))]) hx hb dX5_takesEither_19 rfl hl (by decide) rfl (fun ls hl => ?_)
          have inner : ∀ (m2 x a : Nat) (J : List Nat) (E8 : Nat → Int32), a ≤ n → n < a + m2 → x + 1 ≤ a - q → (gT (f 0) n 0 q) = gTl (gPF (f 0) n 0) (f 0) n 38 1 m2 a J → gCs E c E8 (K ++ J) → J.length ≤ a - q → ∀ (H : Heap) (locs : List Loc), gSg G t (gLL G t (gR (gR f 1 E8) 5 (gS6 (nI n) (nI a) (nI (c + (K ++ J).length)) wd rs))) H → va_S (fun q => t ≤ q ∧ q < t + 6) s.heap H locs → ∀ ls, lv_has ls 4 [(0, .ref t), (1, .int 4), (2, .int (nI k)), (3, .int (nI x))] → W pp_ l ee_ (gRm 8 172) s mm_ aa_ below meth cc_ H locs 0 0 Q (F0 mm_ 20 ls []) := by
            intro m2
            induction m2 with
            | zero => intro x a J E8 ha hm2; exact absurd hm2 (by omega)
            | succ m2 ih2 =>
              intro x a J E8 ha hm2 hxa hJi hcd2 hJl H locs h1 hS ls hl
              have hKJ : (K ++ J).length = K.length + J.length := List.length_append
              refine lv_iload_n hx hb dX5_takesEither_20 rfl (lv_at hl 3 rfl) ?_
              refine lv_bipush (v := 100) hx hb dX5_takesEither_21 (by decide) ?_
              refine lv_icmp_ge (tgt := 57) hx hb dX5_takesEither_23 (by decide) (fun c8 => ?_) (fun c8 => ?_)
              · have c8 : 100 ≤ x := (gLe (a := 100) (b := x) rfl rfl (by omega) (by omega)).mp c8
                exact absurd c8 (by omega)
              · have c8 : ¬ 100 ≤ x := fun z => c8 ((gLe (a := 100) (b := x) rfl rfl (by omega) (by omega)).mpr z)
                refine lv_aload_n hx hb dX5_takesEither_26 rfl (lv_at hl 0 rfl) ?_
                refine lv_bipush (v := 38) hx hb dX5_takesEither_27 (by decide) ?_
                refine g_ki (g_runV (T := TX5) (ci := 5) (N := 10) (rest := []) hx hb hml hown hE hT (c_X5_takesSign l G t f n hT9 E8 a (c + (K ++ J).length) wd rs (by omega) (by omega) 38) gM_X5_takesSign gm_X5_68 gi_X5_takesSign gs_RX5_yX5_takesSign_yX5_takesSign rfl (h1 0 _ rfl) h1 rfl hl.1 ⟨rfl, rfl⟩ ⟨Nat.le_of_ble_eq_true rfl, Nat.le_of_ble_eq_true rfl⟩ ⟨Nat.zero_le _, Nat.zero_le _⟩ rfl (Nat.le_of_ble_eq_true rfl) dX5_takesEither_29) hS (by intro q hq; omega) (fun r12 H9 locs q10 k11 hS => ?_)
                obtain ⟨e9, h1⟩ := q10
                rw [e9]
                refine lv_if_eq (tgt := 57) hx hb dX5_takesEither_32 (by decide) (fun c13 => ?_) (fun c13 => ?_)
                · have c13 : ¬ (a < n ∧ f 0 a = 38) := gB_0.mp c13
                  rw [if_neg c13] at h1
                  have hTq : (gT (f 0) n 0 q) = (true, a, J) := by rw [hJi, gTl, if_neg c13]
                  rw [hTq] at hi
                  refine lv_iload_n hx hb dX5_takesEither_57 rfl (lv_at hl 2 rfl) ?_
                  refine lv_if_le (tgt := 67) hx hb dX5_takesEither_58 (by decide) (fun c14 => ?_) (fun c14 => ?_)
                  · have c14 : k ≤ 0 := (gLe (a := k) (b := 0) rfl rfl (by omega) (by omega)).mp c14
                    refine lv_aload_n hx hb dX5_takesEither_67 rfl (lv_at hl 0 rfl) ?_
                    refine lv_bipush (v := 124) hx hb dX5_takesEither_68 (by decide) ?_
                    refine g_ki (g_runV (T := TX5) (ci := 5) (N := 10) (rest := []) hx hb hml hown hE hT (c_X5_takesSign l G t f n hT9 E8 a (c + (K ++ J).length) wd rs (by omega) (by omega) 124) gM_X5_takesSign gm_X5_68 gi_X5_takesSign gs_RX5_yX5_takesSign_yX5_takesSign rfl (h1 0 _ rfl) h1 rfl hl.1 ⟨rfl, rfl⟩ ⟨Nat.le_of_ble_eq_true rfl, Nat.le_of_ble_eq_true rfl⟩ ⟨Nat.zero_le _, Nat.zero_le _⟩ rfl (Nat.le_of_ble_eq_true rfl) dX5_takesEither_70) hS (by intro q hq; omega) (fun r18 H15 locs q16 k17 hS => ?_)
                    obtain ⟨e9, h1⟩ := q16
                    rw [e9]
                    refine lv_if_ne (tgt := 78) hx hb dX5_takesEither_73 (by decide) (fun c19 => ?_) (fun c19 => ?_)
                    · have c19 : a < n ∧ f 0 a = 124 := gB_1.mp c19
                      rw [if_pos c19] at h1
                      have ltc19 := c19.1
                      refine lv_iinc (v := nI (k + 1)) (lv' := [(2, .int (nI (k + 1))), (0, .ref t), (1, .int 4), (3, .int (nI x))]) hx hb dX5_takesEither_78 hl (k := 2) rfl (gAdd rfl (show Int32.ofInt 1 = nI 1 from rfl)) (by decide) rfl (fun ls hl => ?_)
                      refine lv_goto (tgt := 2) hx hb dX5_takesEither_81 (by decide) ?_
                      have hi2 : gE (f 0) n 0 p = (if (gT (f 0) n 0 (a + 1)).1 = true then gTl (gT (f 0) n 0) (f 0) n 124 2 m (gT (f 0) n 0 (a + 1)).2.1 ((K ++ J ++ []) ++ (gT (f 0) n 0 (a + 1)).2.2 ++ (if k + 1 = 0 then [] else [2])) else (false, (gT (f 0) n 0 (a + 1)).2.1, (K ++ J ++ []) ++ (gT (f 0) n 0 (a + 1)).2.2)) := by rw [hi]; show gTl (gT (f 0) n 0) (f 0) n 124 2 (m + 1) a (K ++ J ++ (if k = 0 then [] else [2])) = _; rw [if_pos (show k = 0 from by omega), gTl, if_pos c19, if_neg (Nat.succ_ne_zero k)]
                      have h1 : gSg G t (gLL G t (gR (gR f 1 E8) 5 (gS6 (nI n) (nI (a + 1)) (nI (c + (K ++ J ++ []).length)) wd rs))) H15 := by rw [List.append_nil]; exact h1
                      exact ih (k + 1) (a + 1) (K ++ J ++ []) _ (by omega) (by omega) (by omega) (Or.inr ⟨by omega, by first | omega | (simp only [List.length_append, List.length_cons, List.length_nil]; omega)⟩) hi2 (by rw [List.append_nil]; exact hcd2) (by simp only [List.length_append, List.length_cons, List.length_nil]; omega) _ _ h1 hS _ (lv_sub hl [1, 2, 0] rfl)
                    · have c19 : ¬ (a < n ∧ f 0 a = 124) := gB_0.mp c19
                      rw [if_neg c19] at h1
                      refine lv_iconst (v := 1) hx hb dX5_takesEither_76 (by decide) ?_
                      have hR9 : gE (f 0) n 0 p = (true, a, K ++ J ++ []) := by rw [hi]; show gTl (gT (f 0) n 0) (f 0) n 124 2 (m + 1) a (K ++ J ++ (if k = 0 then [] else [2])) = _; rw [if_pos (show k = 0 from by omega), gTl, if_neg c19]
                      rw [← hQ]
                      exact g_zret hx hb hr hlk rfl hS dX5_takesEither_77 (by rw [hR9, List.append_nil]; exact ⟨rfl, _, hcd2, h1⟩)
                  · have c14 : ¬ k ≤ 0 := fun z => c14 ((gLe (a := k) (b := 0) rfl rfl (by omega) (by omega)).mpr z)
                    refine lv_aload_n hx hb dX5_takesEither_61 rfl (lv_at hl 0 rfl) ?_
                    refine lv_bipush (v := (-3)) hx hb dX5_takesEither_62 (by decide) ?_
                    refine g_kv (g_runV (T := TX5) (ci := 5) (N := 10) (rest := []) hx hb hml hown hE hT (c_X5_adds l G t f n hT9 E8 a (c + (K ++ J).length) wd rs (by omega) (by omega) (-3) (by omega)) gM_X5_adds gm_X5_95 gi_X5_adds gs_RX5_yX5_adds_yX5_adds rfl (h1 0 _ rfl) h1 rfl hl.1 ⟨rfl, rfl⟩ ⟨Nat.le_of_ble_eq_true rfl, Nat.le_of_ble_eq_true rfl⟩ ⟨Nat.zero_le _, Nat.zero_le _⟩ rfl (Nat.le_of_ble_eq_true rfl) dX5_takesEither_64) hS (by intro q hq; omega) (fun H20 locs q21 k22 hS => ?_)
                    have h1 := q21
                    refine lv_aload_n hx hb dX5_takesEither_67 rfl (lv_at hl 0 rfl) ?_
                    refine lv_bipush (v := 124) hx hb dX5_takesEither_68 (by decide) ?_
                    refine g_ki (g_runV (T := TX5) (ci := 5) (N := 10) (rest := []) hx hb hml hown hE hT (c_X5_takesSign l G t f n hT9 (upd E8 (c + (K ++ J).length) (-3)) a (c + (K ++ J).length + 1) wd rs (by omega) (by omega) 124) gM_X5_takesSign gm_X5_68 gi_X5_takesSign gs_RX5_yX5_takesSign_yX5_takesSign rfl (h1 0 _ rfl) h1 rfl hl.1 ⟨rfl, rfl⟩ ⟨Nat.le_of_ble_eq_true rfl, Nat.le_of_ble_eq_true rfl⟩ ⟨Nat.zero_le _, Nat.zero_le _⟩ rfl (Nat.le_of_ble_eq_true rfl) dX5_takesEither_70) hS (by intro q hq; omega) (fun r27 H24 locs q25 k26 hS => ?_)
                    obtain ⟨e9, h1⟩ := q25
                    rw [e9]
                    refine lv_if_ne (tgt := 78) hx hb dX5_takesEither_73 (by decide) (fun c28 => ?_) (fun c28 => ?_)
                    · have c28 : a < n ∧ f 0 a = 124 := gB_1.mp c28
                      rw [if_pos c28] at h1
                      have ltc28 := c28.1
                      refine lv_iinc (v := nI (k + 1)) (lv' := [(2, .int (nI (k + 1))), (0, .ref t), (1, .int 4), (3, .int (nI x))]) hx hb dX5_takesEither_78 hl (k := 2) rfl (gAdd rfl (show Int32.ofInt 1 = nI 1 from rfl)) (by decide) rfl (fun ls hl => ?_)
                      refine lv_goto (tgt := 2) hx hb dX5_takesEither_81 (by decide) ?_
                      have hi2 : gE (f 0) n 0 p = (if (gT (f 0) n 0 (a + 1)).1 = true then gTl (gT (f 0) n 0) (f 0) n 124 2 m (gT (f 0) n 0 (a + 1)).2.1 ((K ++ J ++ [2]) ++ (gT (f 0) n 0 (a + 1)).2.2 ++ (if k + 1 = 0 then [] else [2])) else (false, (gT (f 0) n 0 (a + 1)).2.1, (K ++ J ++ [2]) ++ (gT (f 0) n 0 (a + 1)).2.2)) := by rw [hi]; show gTl (gT (f 0) n 0) (f 0) n 124 2 (m + 1) a (K ++ J ++ (if k = 0 then [] else [2])) = _; rw [if_neg (show ¬ k = 0 from by omega), gTl, if_pos c28, if_neg (Nat.succ_ne_zero k)]
                      have hl9 : (K ++ J ++ [2]).length = (K ++ J).length + 1 := List.length_append
                      have h1 : gSg G t (gLL G t (gR (gR f 1 (upd E8 (c + (K ++ J).length) (-3))) 5 (gS6 (nI n) (nI (a + 1)) (nI (c + (K ++ J ++ [2]).length)) wd rs))) H24 := by rw [hl9, ← Nat.add_assoc]; exact h1
                      exact ih (k + 1) (a + 1) (K ++ J ++ [2]) _ (by omega) (by omega) (by omega) (Or.inr ⟨by omega, by first | omega | (simp only [List.length_append, List.length_cons, List.length_nil]; omega)⟩) hi2 (gCs_a (x := 2) (y := -3) hcd2 (by decide)) (by simp only [List.length_append, List.length_cons, List.length_nil]; omega) _ _ h1 hS _ (lv_sub hl [1, 2, 0] rfl)
                    · have c28 : ¬ (a < n ∧ f 0 a = 124) := gB_0.mp c28
                      rw [if_neg c28] at h1
                      refine lv_iconst (v := 1) hx hb dX5_takesEither_76 (by decide) ?_
                      have hR9 : gE (f 0) n 0 p = (true, a, K ++ J ++ [2]) := by rw [hi]; show gTl (gT (f 0) n 0) (f 0) n 124 2 (m + 1) a (K ++ J ++ (if k = 0 then [] else [2])) = _; rw [if_neg (show ¬ k = 0 from by omega), gTl, if_neg c28]
                      have hl9 : (K ++ J ++ [2]).length = (K ++ J).length + 1 := List.length_append
                      have h1 : gSg G t (gLL G t (gR (gR f 1 (upd E8 (c + (K ++ J).length) (-3))) 5 (gS6 (nI n) (nI a) (nI (c + (K ++ J ++ [2]).length)) wd rs))) H24 := by rw [hl9, ← Nat.add_assoc]; exact h1
                      rw [← hQ]
                      exact g_zret hx hb hr hlk rfl hS dX5_takesEither_77 (by rw [hR9]; exact ⟨rfl, _, gCs_a (x := 2) (y := -3) hcd2 (by decide), h1⟩)
                · have c13 : a < n ∧ f 0 a = 38 := gB_1.mp c13
                  rw [if_pos c13] at h1
                  have ltc13 := c13.1
                  refine lv_aload_n hx hb dX5_takesEither_35 rfl (lv_at hl 0 rfl) ?_
                  refine lv_iload_n hx hb dX5_takesEither_36 rfl (lv_at hl 1 rfl) ?_
                  have fy29 : a + 1 ≤ (gPF (f 0) n 0 (a + 1)).2.1 ∧ (gPF (f 0) n 0 (a + 1)).2.1 ≤ n ∧ (gPF (f 0) n 0 (a + 1)).2.2.length ≤ (gPF (f 0) n 0 (a + 1)).2.1 - (a + 1) := gPF_fit (f 0) n 0 (a + 1) (by omega)
                  refine g_ki (g_runV (T := TX5) (ci := 5) (N := 10) (rest := []) hx hb hml hown hE hT (c_X5_takesOne_0 l G t f n hT9 E8 (a + 1) (c + (K ++ J).length) wd rs (by omega) (by omega) htG) gM_X5_takesOne gm_X5_92 gi_X5_takesOne gs_RX5_yX5_takesOne_yX5_takesOne rfl (h1 0 _ rfl) ⟨(gOld_S hO hS (fun q9 hq9 => Nat.le_trans htG hq9.1)), h1⟩ rfl hl.1 ⟨rfl, rfl⟩ ⟨Nat.le_of_ble_eq_true rfl, Nat.le_of_ble_eq_true rfl⟩ ⟨Nat.zero_le _, Nat.zero_le _⟩ rfl (Nat.le_of_ble_eq_true rfl) dX5_takesEither_37) hS (by intro q hq; omega) (fun r33 H30 locs q31 k32 hS => ?_)
                  obtain ⟨e9, Ey29, hcy29, h1⟩ := q31
                  rw [e9]
                  refine lv_if_ne (tgt := 45) hx hb dX5_takesEither_40 (by decide) (fun c34 => ?_) (fun c34 => ?_)
                  · have c34 : (gPF (f 0) n 0 (a + 1)).1 = true := gB_1.mp c34
                    refine lv_aload_n hx hb dX5_takesEither_45 rfl (lv_at hl 0 rfl) ?_
                    refine lv_bipush (v := (-2)) hx hb dX5_takesEither_46 (by decide) ?_
                    refine g_kv (g_runV (T := TX5) (ci := 5) (N := 10) (rest := []) hx hb hml hown hE hT (c_X5_adds l G t f n hT9 Ey29 (gPF (f 0) n 0 (a + 1)).2.1 (c + (K ++ J).length + (gPF (f 0) n 0 (a + 1)).2.2.length) wd rs (by omega) (by omega) (-2) (by omega)) gM_X5_adds gm_X5_95 gi_X5_adds gs_RX5_yX5_adds_yX5_adds rfl (h1 0 _ rfl) h1 rfl hl.1 ⟨rfl, rfl⟩ ⟨Nat.le_of_ble_eq_true rfl, Nat.le_of_ble_eq_true rfl⟩ ⟨Nat.zero_le _, Nat.zero_le _⟩ rfl (Nat.le_of_ble_eq_true rfl) dX5_takesEither_48) hS (by intro q hq; omega) (fun H35 locs q36 k37 hS => ?_)
                    have h1 := q36
                    refine lv_iinc (v := nI (x + 1)) (lv' := [(3, .int (nI (x + 1))), (0, .ref t), (1, .int 4), (2, .int (nI k))]) hx hb dX5_takesEither_51 hl (k := 3) rfl (gAdd rfl (show Int32.ofInt 1 = nI 1 from rfl)) (by decide) rfl (fun ls hl => ?_)
                    refine lv_goto (tgt := 20) hx hb dX5_takesEither_54 (by decide) ?_
                    have hl9 : (K ++ (J ++ (gPF (f 0) n 0 (a + 1)).2.2 ++ [1])).length = (K ++ J).length + (gPF (f 0) n 0 (a + 1)).2.2.length + 1 := by simp only [List.length_append, List.length_cons, List.length_nil] <;> omega
                    have h1 : gSg G t (gLL G t (gR (gR f 1 (upd Ey29 (c + (K ++ J).length + (gPF (f 0) n 0 (a + 1)).2.2.length) (-2))) 5 (gS6 (nI n) (nI (gPF (f 0) n 0 (a + 1)).2.1) (nI (c + (K ++ (J ++ (gPF (f 0) n 0 (a + 1)).2.2 ++ [1])).length)) wd rs))) H35 := by rw [hl9, ← Nat.add_assoc, ← Nat.add_assoc]; exact h1
                    exact ih2 (x + 1) (gPF (f 0) n 0 (a + 1)).2.1 (J ++ (gPF (f 0) n 0 (a + 1)).2.2 ++ [1]) _ (by omega) (by omega) (by omega) (by rw [hJi, gTl, if_pos c13, if_pos c34]) (by have q9 := gCs_a (x := 1) (y := -2) (gCs_t hcd2 hcy29) (by decide); rw [List.length_append, ← Nat.add_assoc] at q9; rw [← List.append_assoc, ← List.append_assoc]; exact q9) (by simp only [List.length_append, List.length_cons, List.length_nil]; omega) _ _ h1 hS _ (lv_sub hl [1, 2, 3, 0] rfl)
                  · have c34 : ¬ ((gPF (f 0) n 0 (a + 1)).1 = true) := gB_0.mp c34
                    refine lv_iconst (v := 0) hx hb dX5_takesEither_43 (by decide) ?_
                    rw [← hQ]
                    exact g_zret hx hb hr hlk rfl hS dX5_takesEither_44 (by rw [show gE (f 0) n 0 p = (false, (gPF (f 0) n 0 (a + 1)).2.1, K ++ (J ++ (gPF (f 0) n 0 (a + 1)).2.2)) from by rw [hi, show (gT (f 0) n 0 q) = (false, (gPF (f 0) n 0 (a + 1)).2.1, J ++ (gPF (f 0) n 0 (a + 1)).2.2) from by rw [hJi, gTl, if_pos c13, if_neg c34]]; rfl]; exact ⟨rfl, _, by rw [← List.append_assoc]; exact gCs_t hcd2 hcy29, by rw [← List.append_assoc, List.length_append, ← Nat.add_assoc]; exact h1⟩)
          have hKJ0 : gT (f 0) n 0 q = gTl (gPF (f 0) n 0) (f 0) n 38 1 (n + 1) (gPF (f 0) n 0 q).2.1 (gPF (f 0) n 0 q).2.2 := by rw [gT, gPT, if_pos c7]
          have pos1 := gPF_pos (t := f 0) hq 0 c7
          have h1 : gSg G t (gLL G t (gR (gR f 1 Ey2) 5 (gS6 (nI n) (nI (gPF (f 0) n 0 q).2.1) (nI (c + (K ++ (gPF (f 0) n 0 q).2.2).length)) wd rs))) H3 := by rw [List.length_append, ← Nat.add_assoc]; exact h1
          exact inner (n + 1) 0 (gPF (f 0) n 0 q).2.1 (gPF (f 0) n 0 q).2.2 _ (by omega) (by omega) (by omega) hKJ0 (gCs_t hcd hcy2) (by omega) _ _ h1 hS _ (lv_sub hl [1, 2, 3, 0] rfl)
        · have c7 : ¬ ((gPF (f 0) n 0 q).1 = true) := gB_0.mp c7
          refine lv_iconst (v := 0) hx hb dX5_takesEither_16 (by decide) ?_
          rw [← hQ]
          exact g_zret hx hb hr hlk rfl hS dX5_takesEither_17 (by rw [show gE (f 0) n 0 p = (false, (gPF (f 0) n 0 q).2.1, K ++ (gPF (f 0) n 0 q).2.2) from by rw [hi, show (gT (f 0) n 0 q) = (false, (gPF (f 0) n 0 q).2.1, (gPF (f 0) n 0 q).2.2) from by rw [gT, gPT, if_neg c7]]; rfl]; exact ⟨rfl, _, gCs_t hcd hcy2, by rw [List.length_append, ← Nat.add_assoc]; exact h1⟩)
  exact loop (n + 1) 0 p [] E (by omega) (by omega) (by omega) (Or.inl rfl) (by rw [gE, gPT, if_pos (rfl : (0 : Nat) = 0), List.append_nil, List.nil_append]) gCs_0 (by simp) _ _ h1 hS _ (lv_sub hl [1, 2, 0] rfl)

set_option maxHeartbeats 4000000 in
set_option maxRecDepth 100000 in
theorem c_X5_takesOne_1 (l : Launch) (G : gW) (t : Nat) (f : gPS) (n : Nat) (hT9 : gTx (f 0) n) (E : Nat → Int32) (p c : Nat) (wd rs : Int32) (hp : p ≤ n) (hc : c + (n - p) ≤ 100) (htG : G.2.2.2.size ≤ t)  : gCI l yX5_takesOne cX5_takesOne 2 .boolean (gRm 9 195) G [.ref t, .int 3] (fun H => gOld G H ∧ gSg G t (gLL G t (gR (gR f 1 E) 5 (gS6 (nI n) (nI p) (nI c) wd rs))) H) (fun r H => r = gB ((gPF (f 0) n 1 p).1 = true) ∧ ∃ E9 : Nat → Int32, gCs E c E9 (gPF (f 0) n 1 p).2.2 ∧ gSg G t (gLL G t (gR (gR f 1 E9) 5 (gS6 (nI n) (nI (gPF (f 0) n 1 p).2.1) (nI (c + ((gPF (f 0) n 1 p).2.2).length)) wd rs))) H) (fun q => t ≤ q ∧ q < t + 6) := by
  refine g_start (by decide) (Nat.le_of_ble_eq_true rfl) ?_
  intro pp_ ee_ s mm_ aa_ below meth cc_ ls Q hQ hX hE hP hl
  obtain ⟨hx, hb, hr, hml, hown, hT, hlk, hnm⟩ := hX
  have hK := hE.2.1
  obtain ⟨hO, h1⟩ := hP
  have hS : va_S (fun q => t ≤ q ∧ q < t + 6) s.heap s.heap [] := va_S.rf
  have hl : lv_has ls 2 [(0, .ref t), (1, .int 3)] := hl
  have hn9 : n ≤ 100 := hT9.1
  have hJ := hE.2.2.2.2.2.2.now hO
  refine lv_iload_n hx hb dX5_takesOne_0 rfl (lv_at hl 1 rfl) ?_
  refine lv_iconst (v := 4) hx hb dX5_takesOne_1 (by decide) ?_
  refine lv_icmp_ge (tgt := 33) hx hb dX5_takesOne_2 (by decide) (fun c1 => ?_) (fun c1 => ?_)
  · exact absurd c1 (by decide)
  · refine lv_aload_n hx hb dX5_takesOne_5 rfl (lv_at hl 0 rfl) ?_
    refine lv_bipush (v := 33) hx hb dX5_takesOne_6 (by decide) ?_
    refine g_ki (g_runV (T := TX5) (ci := 5) (N := 10) (rest := []) hx hb hml hown hE hT (c_X5_takesSign l G t f n hT9 E p c wd rs (by omega) (by omega) 33) gM_X5_takesSign gm_X5_68 gi_X5_takesSign gs_RX5_yX5_takesSign_yX5_takesSign rfl (h1 0 _ rfl) h1 rfl hl.1 ⟨rfl, rfl⟩ ⟨Nat.le_of_ble_eq_true rfl, Nat.le_of_ble_eq_true rfl⟩ ⟨Nat.zero_le _, Nat.zero_le _⟩ rfl (Nat.le_of_ble_eq_true rfl) dX5_takesOne_8) hS (by intro q hq; omega) (fun r5 H2 locs q3 k4 hS => ?_)
    obtain ⟨e9, h1⟩ := q3
    rw [e9]
    refine lv_if_eq (tgt := 33) hx hb dX5_takesOne_11 (by decide) (fun c6 => ?_) (fun c6 => ?_)
    · have c6 : ¬ (p < n ∧ f 0 p = 33) := gB_0.mp c6
      rw [if_neg c6] at h1
      refine lv_iload_n hx hb dX5_takesOne_33 rfl (lv_at hl 1 rfl) ?_
      refine lv_iconst (v := 4) hx hb dX5_takesOne_34 (by decide) ?_
      refine lv_icmp_ge (tgt := 72) hx hb dX5_takesOne_35 (by decide) (fun c7 => ?_) (fun c7 => ?_)
      · exact absurd c7 (by decide)
      · refine lv_aload_n hx hb dX5_takesOne_38 rfl (lv_at hl 0 rfl) ?_
        refine lv_bipush (v := 40) hx hb dX5_takesOne_39 (by decide) ?_
        refine g_ki (g_runV (T := TX5) (ci := 5) (N := 10) (rest := []) hx hb hml hown hE hT (c_X5_takesSign l G t f n hT9 E p c wd rs (by omega) (by omega) 40) gM_X5_takesSign gm_X5_68 gi_X5_takesSign gs_RX5_yX5_takesSign_yX5_takesSign rfl (h1 0 _ rfl) h1 rfl hl.1 ⟨rfl, rfl⟩ ⟨Nat.le_of_ble_eq_true rfl, Nat.le_of_ble_eq_true rfl⟩ ⟨Nat.zero_le _, Nat.zero_le _⟩ rfl (Nat.le_of_ble_eq_true rfl) dX5_takesOne_41) hS (by intro q hq; omega) (fun r11 H8 locs q9 k10 hS => ?_)
        obtain ⟨e9, h1⟩ := q9
        rw [e9]
        refine lv_if_eq (tgt := 72) hx hb dX5_takesOne_44 (by decide) (fun c12 => ?_) (fun c12 => ?_)
        · have c12 : ¬ (p < n ∧ f 0 p = 40) := gB_0.mp c12
          rw [if_neg c12] at h1
          refine lv_aload_n hx hb dX5_takesOne_72 rfl (lv_at hl 0 rfl) ?_
          have fy13 : p ≤ (gTe (f 0) n p).2.1 ∧ (gTe (f 0) n p).2.1 ≤ n ∧ (gTe (f 0) n p).2.2.length ≤ (gTe (f 0) n p).2.1 - p := gTe_fit (f 0) n p (by omega)
          refine g_ki (g_runV (T := TX5) (ci := 5) (N := 10) (rest := []) hx hb hml hown hE hT (c_X5_takesTest l G t f n hT9 E p c wd rs (by omega) (by omega) htG) gM_X5_takesTest gm_X5_99 gi_X5_takesTest gs_RX5_yX5_takesTest_yX5_takesTest rfl (h1 0 _ rfl) ⟨(gOld_S hO hS (fun q9 hq9 => Nat.le_trans htG hq9.1)), h1⟩ rfl hl.1 ⟨rfl, rfl⟩ ⟨Nat.le_of_ble_eq_true rfl, Nat.le_of_ble_eq_true rfl⟩ ⟨Nat.zero_le _, Nat.zero_le _⟩ rfl (Nat.le_of_ble_eq_true rfl) dX5_takesOne_73) hS (by intro q hq; omega) (fun r17 H14 locs q15 k16 hS => ?_)
          obtain ⟨e9, Ey13, hcy13, h1⟩ := q15
          rw [e9]
          rw [← hQ]
          exact g_zret hx hb hr hlk gB_n hS dX5_takesOne_76 (by rw [show gPF (f 0) n 1 p = gTe (f 0) n p from by rw [gPF.eq_2, if_neg c6, if_neg c12]]; exact ⟨rfl, _, hcy13, h1⟩)
        · have c12 : p < n ∧ f 0 p = 40 := gB_1.mp c12
          rw [if_pos c12] at h1
          have ltc12 := c12.1
          refine lv_aload_n hx hb dX5_takesOne_47 rfl (lv_at hl 0 rfl) ?_
          refine lv_iload_n hx hb dX5_takesOne_48 rfl (lv_at hl 1 rfl) ?_
          refine lv_iconst (v := 1) hx hb dX5_takesOne_49 (by decide) ?_
          refine lv_iadd hx hb dX5_takesOne_50 ?_
          rw [show (3 + 1 : Int32) = nI (3 + 1) from (gAdd rfl rfl)]
          have fy18 : p + 1 ≤ (gE (f 0) n 0 (p + 1)).2.1 ∧ (gE (f 0) n 0 (p + 1)).2.1 ≤ n ∧ (gE (f 0) n 0 (p + 1)).2.2.length ≤ (gE (f 0) n 0 (p + 1)).2.1 - (p + 1) := gE_fit (f 0) n 0 (p + 1) (by omega)
          refine g_ki (g_runV (T := TX5) (ci := 5) (N := 10) (rest := []) hx hb hml hown hE hT (c_X5_takesEither_0 l G t f n hT9 E (p + 1) c wd rs (by omega) (by omega) htG) gM_X5_takesEither gm_X5_88 gi_X5_takesEither gs_RX5_yX5_takesEither_yX5_takesEither rfl (h1 0 _ rfl) ⟨(gOld_S hO hS (fun q9 hq9 => Nat.le_trans htG hq9.1)), h1⟩ rfl hl.1 ⟨rfl, rfl⟩ ⟨Nat.le_of_ble_eq_true rfl, Nat.le_of_ble_eq_true rfl⟩ ⟨Nat.zero_le _, Nat.zero_le _⟩ rfl (Nat.le_of_ble_eq_true rfl) dX5_takesOne_51) hS (by intro q hq; omega) (fun r22 H19 locs q20 k21 hS => ?_)
          obtain ⟨e9, Ey18, hcy18, h1⟩ := q20
          rw [e9]
          refine lv_if_eq (tgt := 70) hx hb dX5_takesOne_54 (by decide) (fun c23 => ?_) (fun c23 => ?_)
          · have c23 : ¬ ((gE (f 0) n 0 (p + 1)).1 = true) := gB_0.mp c23
            refine lv_iconst (v := 0) hx hb dX5_takesOne_70 (by decide) ?_
            rw [← hQ]
            exact g_zret hx hb hr hlk rfl hS dX5_takesOne_71 (by rw [show gPF (f 0) n 1 p = (false, (gE (f 0) n 0 (p + 1)).2.1, (gE (f 0) n 0 (p + 1)).2.2) from by rw [gPF.eq_2, if_neg c6, if_pos c12, gE_e, if_neg c23]]; exact ⟨rfl, _, hcy18, h1⟩)
          · have c23 : (gE (f 0) n 0 (p + 1)).1 = true := gB_1.mp c23
            refine lv_aload_n hx hb dX5_takesOne_57 rfl (lv_at hl 0 rfl) ?_
            refine lv_bipush (v := 41) hx hb dX5_takesOne_58 (by decide) ?_
            refine g_ki (g_runV (T := TX5) (ci := 5) (N := 10) (rest := []) hx hb hml hown hE hT (c_X5_takesSign l G t f n hT9 Ey18 (gE (f 0) n 0 (p + 1)).2.1 (c + (gE (f 0) n 0 (p + 1)).2.2.length) wd rs (by omega) (by omega) 41) gM_X5_takesSign gm_X5_68 gi_X5_takesSign gs_RX5_yX5_takesSign_yX5_takesSign rfl (h1 0 _ rfl) h1 rfl hl.1 ⟨rfl, rfl⟩ ⟨Nat.le_of_ble_eq_true rfl, Nat.le_of_ble_eq_true rfl⟩ ⟨Nat.zero_le _, Nat.zero_le _⟩ rfl (Nat.le_of_ble_eq_true rfl) dX5_takesOne_60) hS (by intro q hq; omega) (fun r27 H24 locs q25 k26 hS => ?_)
            obtain ⟨e9, h1⟩ := q25
            rw [e9]
            refine lv_if_eq (tgt := 70) hx hb dX5_takesOne_63 (by decide) (fun c28 => ?_) (fun c28 => ?_)
            · have c28 : ¬ ((gE (f 0) n 0 (p + 1)).2.1 < n ∧ f 0 (gE (f 0) n 0 (p + 1)).2.1 = 41) := gB_0.mp c28
              rw [if_neg c28] at h1
              refine lv_iconst (v := 0) hx hb dX5_takesOne_70 (by decide) ?_
              rw [← hQ]
              exact g_zret hx hb hr hlk rfl hS dX5_takesOne_71 (by rw [show gPF (f 0) n 1 p = (false, (gE (f 0) n 0 (p + 1)).2.1, (gE (f 0) n 0 (p + 1)).2.2) from by rw [gPF.eq_2, if_neg c6, if_pos c12, gE_e, if_pos c23, if_neg c28]]; exact ⟨rfl, _, hcy18, h1⟩)
            · have c28 : (gE (f 0) n 0 (p + 1)).2.1 < n ∧ f 0 (gE (f 0) n 0 (p + 1)).2.1 = 41 := gB_1.mp c28
              rw [if_pos c28] at h1
              have ltc28 := c28.1
              refine lv_iconst (v := 1) hx hb dX5_takesOne_66 (by decide) ?_
              refine lv_goto (tgt := 71) hx hb dX5_takesOne_67 (by decide) ?_
              rw [← hQ]
              exact g_zret hx hb hr hlk rfl hS dX5_takesOne_71 (by rw [show gPF (f 0) n 1 p = (true, (gE (f 0) n 0 (p + 1)).2.1 + 1, (gE (f 0) n 0 (p + 1)).2.2) from by rw [gPF.eq_2, if_neg c6, if_pos c12, gE_e, if_pos c23, if_pos c28]]; exact ⟨rfl, _, hcy18, h1⟩)
    · have c6 : p < n ∧ f 0 p = 33 := gB_1.mp c6
      rw [if_pos c6] at h1
      have ltc6 := c6.1
      refine lv_aload_n hx hb dX5_takesOne_14 rfl (lv_at hl 0 rfl) ?_
      refine lv_iload_n hx hb dX5_takesOne_15 rfl (lv_at hl 1 rfl) ?_
      refine lv_iconst (v := 1) hx hb dX5_takesOne_16 (by decide) ?_
      refine lv_iadd hx hb dX5_takesOne_17 ?_
      rw [show (3 + 1 : Int32) = nI (3 + 1) from (gAdd rfl rfl)]
      have fy29 : p + 1 ≤ (gPF (f 0) n 0 (p + 1)).2.1 ∧ (gPF (f 0) n 0 (p + 1)).2.1 ≤ n ∧ (gPF (f 0) n 0 (p + 1)).2.2.length ≤ (gPF (f 0) n 0 (p + 1)).2.1 - (p + 1) := gPF_fit (f 0) n 0 (p + 1) (by omega)
      refine g_ki (g_runV (T := TX5) (ci := 5) (N := 10) (rest := []) hx hb hml hown hE hT (c_X5_takesOne_0 l G t f n hT9 E (p + 1) c wd rs (by omega) (by omega) htG) gM_X5_takesOne gm_X5_92 gi_X5_takesOne gs_RX5_yX5_takesOne_yX5_takesOne rfl (h1 0 _ rfl) ⟨(gOld_S hO hS (fun q9 hq9 => Nat.le_trans htG hq9.1)), h1⟩ rfl hl.1 ⟨rfl, rfl⟩ ⟨Nat.le_of_ble_eq_true rfl, Nat.le_of_ble_eq_true rfl⟩ ⟨Nat.zero_le _, Nat.zero_le _⟩ rfl (Nat.le_of_ble_eq_true rfl) dX5_takesOne_18) hS (by intro q hq; omega) (fun r33 H30 locs q31 k32 hS => ?_)
      obtain ⟨e9, Ey29, hcy29, h1⟩ := q31
      rw [e9]
      refine lv_if_ne (tgt := 26) hx hb dX5_takesOne_21 (by decide) (fun c34 => ?_) (fun c34 => ?_)
      · have c34 : (gPF (f 0) n 0 (p + 1)).1 = true := gB_1.mp c34
        refine lv_aload_n hx hb dX5_takesOne_26 rfl (lv_at hl 0 rfl) ?_
        refine lv_iconst (v := (-1)) hx hb dX5_takesOne_27 (by decide) ?_
        refine g_kv (g_runV (T := TX5) (ci := 5) (N := 10) (rest := []) hx hb hml hown hE hT (c_X5_adds l G t f n hT9 Ey29 (gPF (f 0) n 0 (p + 1)).2.1 (c + (gPF (f 0) n 0 (p + 1)).2.2.length) wd rs (by omega) (by omega) (-1) (by omega)) gM_X5_adds gm_X5_95 gi_X5_adds gs_RX5_yX5_adds_yX5_adds rfl (h1 0 _ rfl) h1 rfl hl.1 ⟨rfl, rfl⟩ ⟨Nat.le_of_ble_eq_true rfl, Nat.le_of_ble_eq_true rfl⟩ ⟨Nat.zero_le _, Nat.zero_le _⟩ rfl (Nat.le_of_ble_eq_true rfl) dX5_takesOne_28) hS (by intro q hq; omega) (fun H35 locs q36 k37 hS => ?_)
        have h1 := q36
        refine lv_iconst (v := 1) hx hb dX5_takesOne_31 (by decide) ?_
        rw [← hQ]
        exact g_zret hx hb hr hlk rfl hS dX5_takesOne_32 (by rw [show gPF (f 0) n 1 p = (true, (gPF (f 0) n 0 (p + 1)).2.1, (gPF (f 0) n 0 (p + 1)).2.2 ++ [0]) from by rw [gPF.eq_2, if_pos c6, if_pos c34]]; exact ⟨rfl, _, gCs_a (x := 0) (y := -1) hcy29 (by decide), by rw [List.length_append]; exact h1⟩)
      · have c34 : ¬ ((gPF (f 0) n 0 (p + 1)).1 = true) := gB_0.mp c34
        refine lv_iconst (v := 0) hx hb dX5_takesOne_24 (by decide) ?_
        rw [← hQ]
        exact g_zret hx hb hr hlk rfl hS dX5_takesOne_25 (by rw [show gPF (f 0) n 1 p = (false, (gPF (f 0) n 0 (p + 1)).2.1, (gPF (f 0) n 0 (p + 1)).2.2) from by rw [gPF.eq_2, if_pos c6, if_neg c34]]; exact ⟨rfl, _, hcy29, h1⟩)

set_option maxHeartbeats 4000000 in
set_option maxRecDepth 100000 in
theorem c_X5_takesEither_1 (l : Launch) (G : gW) (t : Nat) (f : gPS) (n : Nat) (hT9 : gTx (f 0) n) (E : Nat → Int32) (p c : Nat) (wd rs : Int32) (hp : p ≤ n) (hc : c + (n - p) ≤ 100) (htG : G.2.2.2.size ≤ t)  : gCI l yX5_takesEither cX5_takesEither 4 .boolean (gRm 10 216) G [.ref t, .int 3] (fun H => gOld G H ∧ gSg G t (gLL G t (gR (gR f 1 E) 5 (gS6 (nI n) (nI p) (nI c) wd rs))) H) (fun r H => r = gB ((gE (f 0) n 1 p).1 = true) ∧ ∃ E9 : Nat → Int32, gCs E c E9 (gE (f 0) n 1 p).2.2 ∧ gSg G t (gLL G t (gR (gR f 1 E9) 5 (gS6 (nI n) (nI (gE (f 0) n 1 p).2.1) (nI (c + ((gE (f 0) n 1 p).2.2).length)) wd rs))) H) (fun q => t ≤ q ∧ q < t + 6) := by
  refine g_start (by decide) (Nat.le_of_ble_eq_true rfl) ?_
  intro pp_ ee_ s mm_ aa_ below meth cc_ ls Q hQ hX hE hP hl
  obtain ⟨hx, hb, hr, hml, hown, hT, hlk, hnm⟩ := hX
  have hK := hE.2.1
  obtain ⟨hO, h1⟩ := hP
  have hS : va_S (fun q => t ≤ q ∧ q < t + 6) s.heap s.heap [] := va_S.rf
  have hl : lv_has ls 4 [(0, .ref t), (1, .int 3)] := hl
  have hn9 : n ≤ 100 := hT9.1
  have hJ := hE.2.2.2.2.2.2.now hO
  refine lv_iconst (v := 0) hx hb dX5_takesEither_0 (by decide) ?_
  refine lv_istore_n (lv' := [(2, .int 0), (0, .ref t), (1, .int 3)]) hx hb dX5_takesEither_1 rfl hl (by decide) rfl (fun ls hl => ?_)
  have loop : ∀ (m k q : Nat) (K : List Nat) (E9 : Nat → Int32), q ≤ n → n < q + m → p ≤ q → (k = 0 ∨ (k + 1 ≤ q - p ∧ K.length + 1 ≤ q - p)) → gE (f 0) n 1 p = (if (gT (f 0) n 1 q).1 = true then gTl (gT (f 0) n 1) (f 0) n 124 2 m (gT (f 0) n 1 q).2.1 (K ++ (gT (f 0) n 1 q).2.2 ++ (if k = 0 then [] else [2])) else (false, (gT (f 0) n 1 q).2.1, K ++ (gT (f 0) n 1 q).2.2)) → gCs E c E9 K → K.length ≤ q - p → ∀ (H : Heap) (locs : List Loc), gSg G t (gLL G t (gR (gR f 1 E9) 5 (gS6 (nI n) (nI q) (nI (c + K.length)) wd rs))) H → va_S (fun q => t ≤ q ∧ q < t + 6) s.heap H locs → ∀ ls, lv_has ls 4 [(0, .ref t), (1, .int 3), (2, .int (nI k))] → W pp_ l ee_ (gRm 10 216) s mm_ aa_ below meth cc_ H locs 0 0 Q (F0 mm_ 2 ls []) := by
    intro m
    induction m with
    | zero => intro k q K E9 hq hm; exact absurd hm (by omega)
    | succ m ih =>
      intro k q K E9 hq hm hpq hk1 hi hcd hKl H locs h1 hS ls hl
      refine lv_iload_n hx hb dX5_takesEither_2 rfl (lv_at hl 2 rfl) ?_
      refine lv_bipush (v := 100) hx hb dX5_takesEither_3 (by decide) ?_
      refine lv_icmp_ge (tgt := 84) hx hb dX5_takesEither_5 (by decide) (fun c1 => ?_) (fun c1 => ?_)
      · have c1 : 100 ≤ k := (gLe (a := 100) (b := k) rfl rfl (by omega) (by omega)).mp c1
        exact absurd c1 (by omega)
      · have c1 : ¬ 100 ≤ k := fun z => c1 ((gLe (a := 100) (b := k) rfl rfl (by omega) (by omega)).mpr z)
        refine lv_aload_n hx hb dX5_takesEither_8 rfl (lv_at hl 0 rfl) ?_
        refine lv_iload_n hx hb dX5_takesEither_9 rfl (lv_at hl 1 rfl) ?_
        have fy2 : q ≤ (gPF (f 0) n 1 q).2.1 ∧ (gPF (f 0) n 1 q).2.1 ≤ n ∧ (gPF (f 0) n 1 q).2.2.length ≤ (gPF (f 0) n 1 q).2.1 - q := gPF_fit (f 0) n 1 q (by omega)
        refine g_ki (g_runV (T := TX5) (ci := 5) (N := 10) (rest := []) hx hb hml hown hE hT (c_X5_takesOne_1 l G t f n hT9 E9 q (c + K.length) wd rs (by omega) (by omega) htG) gM_X5_takesOne gm_X5_92 gi_X5_takesOne gs_RX5_yX5_takesOne_yX5_takesOne rfl (h1 0 _ rfl) ⟨(gOld_S hO hS (fun q9 hq9 => Nat.le_trans htG hq9.1)), h1⟩ rfl hl.1 ⟨rfl, rfl⟩ ⟨Nat.le_of_ble_eq_true rfl, Nat.le_of_ble_eq_true rfl⟩ ⟨Nat.zero_le _, Nat.zero_le _⟩ rfl (Nat.le_of_ble_eq_true rfl) dX5_takesEither_10) hS (by intro q hq; omega) (fun r6 H3 locs q4 k5 hS => ?_)
        obtain ⟨e9, Ey2, hcy2, h1⟩ := q4
        rw [e9]
        refine lv_if_ne (tgt := 18) hx hb dX5_takesEither_13 (by decide) (fun c7 => ?_) (fun c7 => ?_)
        · have c7 : (gPF (f 0) n 1 q).1 = true := gB_1.mp c7
          refine lv_iconst (v := 0) hx hb dX5_takesEither_18 (by decide) ?_
          refine lv_istore_n (lv' := [(3, .int 0), (0, .ref t), (1, .int 3), (2, .int (nI k))]) hx hb dX5_takesEither_19 rfl hl (by decide) rfl (fun ls hl => ?_)
          have inner : ∀ (m2 x a : Nat) (J : List Nat) (E8 : Nat → Int32), a ≤ n → n < a + m2 → x + 1 ≤ a - q → (gT (f 0) n 1 q) = gTl (gPF (f 0) n 1) (f 0) n 38 1 m2 a J → gCs E c E8 (K ++ J) → J.length ≤ a - q → ∀ (H : Heap) (locs : List Loc), gSg G t (gLL G t (gR (gR f 1 E8) 5 (gS6 (nI n) (nI a) (nI (c + (K ++ J).length)) wd rs))) H → va_S (fun q => t ≤ q ∧ q < t + 6) s.heap H locs → ∀ ls, lv_has ls 4 [(0, .ref t), (1, .int 3), (2, .int (nI k)), (3, .int (nI x))] → W pp_ l ee_ (gRm 10 216) s mm_ aa_ below meth cc_ H locs 0 0 Q (F0 mm_ 20 ls []) := by
            intro m2
            induction m2 with
            | zero => intro x a J E8 ha hm2; exact absurd hm2 (by omega)
            | succ m2 ih2 =>
              intro x a J E8 ha hm2 hxa hJi hcd2 hJl H locs h1 hS ls hl
              have hKJ : (K ++ J).length = K.length + J.length := List.length_append
              refine lv_iload_n hx hb dX5_takesEither_20 rfl (lv_at hl 3 rfl) ?_
              refine lv_bipush (v := 100) hx hb dX5_takesEither_21 (by decide) ?_
              refine lv_icmp_ge (tgt := 57) hx hb dX5_takesEither_23 (by decide) (fun c8 => ?_) (fun c8 => ?_)
              · have c8 : 100 ≤ x := (gLe (a := 100) (b := x) rfl rfl (by omega) (by omega)).mp c8
                exact absurd c8 (by omega)
              · have c8 : ¬ 100 ≤ x := fun z => c8 ((gLe (a := 100) (b := x) rfl rfl (by omega) (by omega)).mpr z)
                refine lv_aload_n hx hb dX5_takesEither_26 rfl (lv_at hl 0 rfl) ?_
                refine lv_bipush (v := 38) hx hb dX5_takesEither_27 (by decide) ?_
                refine g_ki (g_runV (T := TX5) (ci := 5) (N := 10) (rest := []) hx hb hml hown hE hT (c_X5_takesSign l G t f n hT9 E8 a (c + (K ++ J).length) wd rs (by omega) (by omega) 38) gM_X5_takesSign gm_X5_68 gi_X5_takesSign gs_RX5_yX5_takesSign_yX5_takesSign rfl (h1 0 _ rfl) h1 rfl hl.1 ⟨rfl, rfl⟩ ⟨Nat.le_of_ble_eq_true rfl, Nat.le_of_ble_eq_true rfl⟩ ⟨Nat.zero_le _, Nat.zero_le _⟩ rfl (Nat.le_of_ble_eq_true rfl) dX5_takesEither_29) hS (by intro q hq; omega) (fun r12 H9 locs q10 k11 hS => ?_)
                obtain ⟨e9, h1⟩ := q10
                rw [e9]
                refine lv_if_eq (tgt := 57) hx hb dX5_takesEither_32 (by decide) (fun c13 => ?_) (fun c13 => ?_)
                · have c13 : ¬ (a < n ∧ f 0 a = 38) := gB_0.mp c13
                  rw [if_neg c13] at h1
                  have hTq : (gT (f 0) n 1 q) = (true, a, J) := by rw [hJi, gTl, if_neg c13]
                  rw [hTq] at hi
                  refine lv_iload_n hx hb dX5_takesEither_57 rfl (lv_at hl 2 rfl) ?_
                  refine lv_if_le (tgt := 67) hx hb dX5_takesEither_58 (by decide) (fun c14 => ?_) (fun c14 => ?_)
                  · have c14 : k ≤ 0 := (gLe (a := k) (b := 0) rfl rfl (by omega) (by omega)).mp c14
                    refine lv_aload_n hx hb dX5_takesEither_67 rfl (lv_at hl 0 rfl) ?_
                    refine lv_bipush (v := 124) hx hb dX5_takesEither_68 (by decide) ?_
                    refine g_ki (g_runV (T := TX5) (ci := 5) (N := 10) (rest := []) hx hb hml hown hE hT (c_X5_takesSign l G t f n hT9 E8 a (c + (K ++ J).length) wd rs (by omega) (by omega) 124) gM_X5_takesSign gm_X5_68 gi_X5_takesSign gs_RX5_yX5_takesSign_yX5_takesSign rfl (h1 0 _ rfl) h1 rfl hl.1 ⟨rfl, rfl⟩ ⟨Nat.le_of_ble_eq_true rfl, Nat.le_of_ble_eq_true rfl⟩ ⟨Nat.zero_le _, Nat.zero_le _⟩ rfl (Nat.le_of_ble_eq_true rfl) dX5_takesEither_70) hS (by intro q hq; omega) (fun r18 H15 locs q16 k17 hS => ?_)
                    obtain ⟨e9, h1⟩ := q16
                    rw [e9]
                    refine lv_if_ne (tgt := 78) hx hb dX5_takesEither_73 (by decide) (fun c19 => ?_) (fun c19 => ?_)
                    · have c19 : a < n ∧ f 0 a = 124 := gB_1.mp c19
                      rw [if_pos c19] at h1
                      have ltc19 := c19.1
                      refine lv_iinc (v := nI (k + 1)) (lv' := [(2, .int (nI (k + 1))), (0, .ref t), (1, .int 3), (3, .int (nI x))]) hx hb dX5_takesEither_78 hl (k := 2) rfl (gAdd rfl (show Int32.ofInt 1 = nI 1 from rfl)) (by decide) rfl (fun ls hl => ?_)
                      refine lv_goto (tgt := 2) hx hb dX5_takesEither_81 (by decide) ?_
                      have hi2 : gE (f 0) n 1 p = (if (gT (f 0) n 1 (a + 1)).1 = true then gTl (gT (f 0) n 1) (f 0) n 124 2 m (gT (f 0) n 1 (a + 1)).2.1 ((K ++ J ++ []) ++ (gT (f 0) n 1 (a + 1)).2.2 ++ (if k + 1 = 0 then [] else [2])) else (false, (gT (f 0) n 1 (a + 1)).2.1, (K ++ J ++ []) ++ (gT (f 0) n 1 (a + 1)).2.2)) := by rw [hi]; show gTl (gT (f 0) n 1) (f 0) n 124 2 (m + 1) a (K ++ J ++ (if k = 0 then [] else [2])) = _; rw [if_pos (show k = 0 from by omega), gTl, if_pos c19, if_neg (Nat.succ_ne_zero k)]
                      have h1 : gSg G t (gLL G t (gR (gR f 1 E8) 5 (gS6 (nI n) (nI (a + 1)) (nI (c + (K ++ J ++ []).length)) wd rs))) H15 := by rw [List.append_nil]; exact h1
                      exact ih (k + 1) (a + 1) (K ++ J ++ []) _ (by omega) (by omega) (by omega) (Or.inr ⟨by omega, by first | omega | (simp only [List.length_append, List.length_cons, List.length_nil]; omega)⟩) hi2 (by rw [List.append_nil]; exact hcd2) (by simp only [List.length_append, List.length_cons, List.length_nil]; omega) _ _ h1 hS _ (lv_sub hl [1, 2, 0] rfl)
                    · have c19 : ¬ (a < n ∧ f 0 a = 124) := gB_0.mp c19
                      rw [if_neg c19] at h1
                      refine lv_iconst (v := 1) hx hb dX5_takesEither_76 (by decide) ?_
                      have hR9 : gE (f 0) n 1 p = (true, a, K ++ J ++ []) := by rw [hi]; show gTl (gT (f 0) n 1) (f 0) n 124 2 (m + 1) a (K ++ J ++ (if k = 0 then [] else [2])) = _; rw [if_pos (show k = 0 from by omega), gTl, if_neg c19]
                      rw [← hQ]
                      exact g_zret hx hb hr hlk rfl hS dX5_takesEither_77 (by rw [hR9, List.append_nil]; exact ⟨rfl, _, hcd2, h1⟩)
                  · have c14 : ¬ k ≤ 0 := fun z => c14 ((gLe (a := k) (b := 0) rfl rfl (by omega) (by omega)).mpr z)
                    refine lv_aload_n hx hb dX5_takesEither_61 rfl (lv_at hl 0 rfl) ?_
                    refine lv_bipush (v := (-3)) hx hb dX5_takesEither_62 (by decide) ?_
                    refine g_kv (g_runV (T := TX5) (ci := 5) (N := 10) (rest := []) hx hb hml hown hE hT (c_X5_adds l G t f n hT9 E8 a (c + (K ++ J).length) wd rs (by omega) (by omega) (-3) (by omega)) gM_X5_adds gm_X5_95 gi_X5_adds gs_RX5_yX5_adds_yX5_adds rfl (h1 0 _ rfl) h1 rfl hl.1 ⟨rfl, rfl⟩ ⟨Nat.le_of_ble_eq_true rfl, Nat.le_of_ble_eq_true rfl⟩ ⟨Nat.zero_le _, Nat.zero_le _⟩ rfl (Nat.le_of_ble_eq_true rfl) dX5_takesEither_64) hS (by intro q hq; omega) (fun H20 locs q21 k22 hS => ?_)
                    have h1 := q21
                    refine lv_aload_n hx hb dX5_takesEither_67 rfl (lv_at hl 0 rfl) ?_
                    refine lv_bipush (v := 124) hx hb dX5_takesEither_68 (by decide) ?_
                    refine g_ki (g_runV (T := TX5) (ci := 5) (N := 10) (rest := []) hx hb hml hown hE hT (c_X5_takesSign l G t f n hT9 (upd E8 (c + (K ++ J).length) (-3)) a (c + (K ++ J).length + 1) wd rs (by omega) (by omega) 124) gM_X5_takesSign gm_X5_68 gi_X5_takesSign gs_RX5_yX5_takesSign_yX5_takesSign rfl (h1 0 _ rfl) h1 rfl hl.1 ⟨rfl, rfl⟩ ⟨Nat.le_of_ble_eq_true rfl, Nat.le_of_ble_eq_true rfl⟩ ⟨Nat.zero_le _, Nat.zero_le _⟩ rfl (Nat.le_of_ble_eq_true rfl) dX5_takesEither_70) hS (by intro q hq; omega) (fun r27 H24 locs q25 k26 hS => ?_)
                    obtain ⟨e9, h1⟩ := q25
                    rw [e9]
                    refine lv_if_ne (tgt := 78) hx hb dX5_takesEither_73 (by decide) (fun c28 => ?_) (fun c28 => ?_)
                    · have c28 : a < n ∧ f 0 a = 124 := gB_1.mp c28
                      rw [if_pos c28] at h1
                      have ltc28 := c28.1
                      refine lv_iinc (v := nI (k + 1)) (lv' := [(2, .int (nI (k + 1))), (0, .ref t), (1, .int 3), (3, .int (nI x))]) hx hb dX5_takesEither_78 hl (k := 2) rfl (gAdd rfl (show Int32.ofInt 1 = nI 1 from rfl)) (by decide) rfl (fun ls hl => ?_)
                      refine lv_goto (tgt := 2) hx hb dX5_takesEither_81 (by decide) ?_
                      have hi2 : gE (f 0) n 1 p = (if (gT (f 0) n 1 (a + 1)).1 = true then gTl (gT (f 0) n 1) (f 0) n 124 2 m (gT (f 0) n 1 (a + 1)).2.1 ((K ++ J ++ [2]) ++ (gT (f 0) n 1 (a + 1)).2.2 ++ (if k + 1 = 0 then [] else [2])) else (false, (gT (f 0) n 1 (a + 1)).2.1, (K ++ J ++ [2]) ++ (gT (f 0) n 1 (a + 1)).2.2)) := by rw [hi]; show gTl (gT (f 0) n 1) (f 0) n 124 2 (m + 1) a (K ++ J ++ (if k = 0 then [] else [2])) = _; rw [if_neg (show ¬ k = 0 from by omega), gTl, if_pos c28, if_neg (Nat.succ_ne_zero k)]
                      have hl9 : (K ++ J ++ [2]).length = (K ++ J).length + 1 := List.length_append
                      have h1 : gSg G t (gLL G t (gR (gR f 1 (upd E8 (c + (K ++ J).length) (-3))) 5 (gS6 (nI n) (nI (a + 1)) (nI (c + (K ++ J ++ [2]).length)) wd rs))) H24 := by rw [hl9, ← Nat.add_assoc]; exact h1
                      exact ih (k + 1) (a + 1) (K ++ J ++ [2]) _ (by omega) (by omega) (by omega) (Or.inr ⟨by omega, by first | omega | (simp only [List.length_append, List.length_cons, List.length_nil]; omega)⟩) hi2 (gCs_a (x := 2) (y := -3) hcd2 (by decide)) (by simp only [List.length_append, List.length_cons, List.length_nil]; omega) _ _ h1 hS _ (lv_sub hl [1, 2, 0] rfl)
                    · have c28 : ¬ (a < n ∧ f 0 a = 124) := gB_0.mp c28
                      rw [if_neg c28] at h1
                      refine lv_iconst (v := 1) hx hb dX5_takesEither_76 (by decide) ?_
                      have hR9 : gE (f 0) n 1 p = (true, a, K ++ J ++ [2]) := by rw [hi]; show gTl (gT (f 0) n 1) (f 0) n 124 2 (m + 1) a (K ++ J ++ (if k = 0 then [] else [2])) = _; rw [if_neg (show ¬ k = 0 from by omega), gTl, if_neg c28]
                      have hl9 : (K ++ J ++ [2]).length = (K ++ J).length + 1 := List.length_append
                      have h1 : gSg G t (gLL G t (gR (gR f 1 (upd E8 (c + (K ++ J).length) (-3))) 5 (gS6 (nI n) (nI a) (nI (c + (K ++ J ++ [2]).length)) wd rs))) H24 := by rw [hl9, ← Nat.add_assoc]; exact h1
                      rw [← hQ]
                      exact g_zret hx hb hr hlk rfl hS dX5_takesEither_77 (by rw [hR9]; exact ⟨rfl, _, gCs_a (x := 2) (y := -3) hcd2 (by decide), h1⟩)
                · have c13 : a < n ∧ f 0 a = 38 := gB_1.mp c13
                  rw [if_pos c13] at h1
                  have ltc13 := c13.1
                  refine lv_aload_n hx hb dX5_takesEither_35 rfl (lv_at hl 0 rfl) ?_
                  refine lv_iload_n hx hb dX5_takesEither_36 rfl (lv_at hl 1 rfl) ?_
                  have fy29 : a + 1 ≤ (gPF (f 0) n 1 (a + 1)).2.1 ∧ (gPF (f 0) n 1 (a + 1)).2.1 ≤ n ∧ (gPF (f 0) n 1 (a + 1)).2.2.length ≤ (gPF (f 0) n 1 (a + 1)).2.1 - (a + 1) := gPF_fit (f 0) n 1 (a + 1) (by omega)
                  refine g_ki (g_runV (T := TX5) (ci := 5) (N := 10) (rest := []) hx hb hml hown hE hT (c_X5_takesOne_1 l G t f n hT9 E8 (a + 1) (c + (K ++ J).length) wd rs (by omega) (by omega) htG) gM_X5_takesOne gm_X5_92 gi_X5_takesOne gs_RX5_yX5_takesOne_yX5_takesOne rfl (h1 0 _ rfl) ⟨(gOld_S hO hS (fun q9 hq9 => Nat.le_trans htG hq9.1)), h1⟩ rfl hl.1 ⟨rfl, rfl⟩ ⟨Nat.le_of_ble_eq_true rfl, Nat.le_of_ble_eq_true rfl⟩ ⟨Nat.zero_le _, Nat.zero_le _⟩ rfl (Nat.le_of_ble_eq_true rfl) dX5_takesEither_37) hS (by intro q hq; omega) (fun r33 H30 locs q31 k32 hS => ?_)
                  obtain ⟨e9, Ey29, hcy29, h1⟩ := q31
                  rw [e9]
                  refine lv_if_ne (tgt := 45) hx hb dX5_takesEither_40 (by decide) (fun c34 => ?_) (fun c34 => ?_)
                  · have c34 : (gPF (f 0) n 1 (a + 1)).1 = true := gB_1.mp c34
                    refine lv_aload_n hx hb dX5_takesEither_45 rfl (lv_at hl 0 rfl) ?_
                    refine lv_bipush (v := (-2)) hx hb dX5_takesEither_46 (by decide) ?_
                    refine g_kv (g_runV (T := TX5) (ci := 5) (N := 10) (rest := []) hx hb hml hown hE hT (c_X5_adds l G t f n hT9 Ey29 (gPF (f 0) n 1 (a + 1)).2.1 (c + (K ++ J).length + (gPF (f 0) n 1 (a + 1)).2.2.length) wd rs (by omega) (by omega) (-2) (by omega)) gM_X5_adds gm_X5_95 gi_X5_adds gs_RX5_yX5_adds_yX5_adds rfl (h1 0 _ rfl) h1 rfl hl.1 ⟨rfl, rfl⟩ ⟨Nat.le_of_ble_eq_true rfl, Nat.le_of_ble_eq_true rfl⟩ ⟨Nat.zero_le _, Nat.zero_le _⟩ rfl (Nat.le_of_ble_eq_true rfl) dX5_takesEither_48) hS (by intro q hq; omega) (fun H35 locs q36 k37 hS => ?_)
                    have h1 := q36
                    refine lv_iinc (v := nI (x + 1)) (lv' := [(3, .int (nI (x + 1))), (0, .ref t), (1, .int 3), (2, .int (nI k))]) hx hb dX5_takesEither_51 hl (k := 3) rfl (gAdd rfl (show Int32.ofInt 1 = nI 1 from rfl)) (by decide) rfl (fun ls hl => ?_)
                    refine lv_goto (tgt := 20) hx hb dX5_takesEither_54 (by decide) ?_
                    have hl9 : (K ++ (J ++ (gPF (f 0) n 1 (a + 1)).2.2 ++ [1])).length = (K ++ J).length + (gPF (f 0) n 1 (a + 1)).2.2.length + 1 := by simp only [List.length_append, List.length_cons, List.length_nil] <;> omega
                    have h1 : gSg G t (gLL G t (gR (gR f 1 (upd Ey29 (c + (K ++ J).length + (gPF (f 0) n 1 (a + 1)).2.2.length) (-2))) 5 (gS6 (nI n) (nI (gPF (f 0) n 1 (a + 1)).2.1) (nI (c + (K ++ (J ++ (gPF (f 0) n 1 (a + 1)).2.2 ++ [1])).length)) wd rs))) H35 := by rw [hl9, ← Nat.add_assoc, ← Nat.add_assoc]; exact h1
                    exact ih2 (x + 1) (gPF (f 0) n 1 (a + 1)).2.1 (J ++ (gPF (f 0) n 1 (a + 1)).2.2 ++ [1]) _ (by omega) (by omega) (by omega) (by rw [hJi, gTl, if_pos c13, if_pos c34]) (by have q9 := gCs_a (x := 1) (y := -2) (gCs_t hcd2 hcy29) (by decide); rw [List.length_append, ← Nat.add_assoc] at q9; rw [← List.append_assoc, ← List.append_assoc]; exact q9) (by simp only [List.length_append, List.length_cons, List.length_nil]; omega) _ _ h1 hS _ (lv_sub hl [1, 2, 3, 0] rfl)
                  · have c34 : ¬ ((gPF (f 0) n 1 (a + 1)).1 = true) := gB_0.mp c34
                    refine lv_iconst (v := 0) hx hb dX5_takesEither_43 (by decide) ?_
                    rw [← hQ]
                    exact g_zret hx hb hr hlk rfl hS dX5_takesEither_44 (by rw [show gE (f 0) n 1 p = (false, (gPF (f 0) n 1 (a + 1)).2.1, K ++ (J ++ (gPF (f 0) n 1 (a + 1)).2.2)) from by rw [hi, show (gT (f 0) n 1 q) = (false, (gPF (f 0) n 1 (a + 1)).2.1, J ++ (gPF (f 0) n 1 (a + 1)).2.2) from by rw [hJi, gTl, if_pos c13, if_neg c34]]; rfl]; exact ⟨rfl, _, by rw [← List.append_assoc]; exact gCs_t hcd2 hcy29, by rw [← List.append_assoc, List.length_append, ← Nat.add_assoc]; exact h1⟩)
          have hKJ0 : gT (f 0) n 1 q = gTl (gPF (f 0) n 1) (f 0) n 38 1 (n + 1) (gPF (f 0) n 1 q).2.1 (gPF (f 0) n 1 q).2.2 := by rw [gT, gPT, if_pos c7]
          have pos1 := gPF_pos (t := f 0) hq 1 c7
          have h1 : gSg G t (gLL G t (gR (gR f 1 Ey2) 5 (gS6 (nI n) (nI (gPF (f 0) n 1 q).2.1) (nI (c + (K ++ (gPF (f 0) n 1 q).2.2).length)) wd rs))) H3 := by rw [List.length_append, ← Nat.add_assoc]; exact h1
          exact inner (n + 1) 0 (gPF (f 0) n 1 q).2.1 (gPF (f 0) n 1 q).2.2 _ (by omega) (by omega) (by omega) hKJ0 (gCs_t hcd hcy2) (by omega) _ _ h1 hS _ (lv_sub hl [1, 2, 3, 0] rfl)
        · have c7 : ¬ ((gPF (f 0) n 1 q).1 = true) := gB_0.mp c7
          refine lv_iconst (v := 0) hx hb dX5_takesEither_16 (by decide) ?_
          rw [← hQ]
          exact g_zret hx hb hr hlk rfl hS dX5_takesEither_17 (by rw [show gE (f 0) n 1 p = (false, (gPF (f 0) n 1 q).2.1, K ++ (gPF (f 0) n 1 q).2.2) from by rw [hi, show (gT (f 0) n 1 q) = (false, (gPF (f 0) n 1 q).2.1, (gPF (f 0) n 1 q).2.2) from by rw [gT, gPT, if_neg c7]]; rfl]; exact ⟨rfl, _, gCs_t hcd hcy2, by rw [List.length_append, ← Nat.add_assoc]; exact h1⟩)
  exact loop (n + 1) 0 p [] E (by omega) (by omega) (by omega) (Or.inl rfl) (by rw [gE, gPT, if_pos (rfl : (0 : Nat) = 0), List.append_nil, List.nil_append]) gCs_0 (by simp) _ _ h1 hS _ (lv_sub hl [1, 2, 0] rfl)

set_option maxHeartbeats 4000000 in
set_option maxRecDepth 100000 in
theorem c_X5_takesOne_2 (l : Launch) (G : gW) (t : Nat) (f : gPS) (n : Nat) (hT9 : gTx (f 0) n) (E : Nat → Int32) (p c : Nat) (wd rs : Int32) (hp : p ≤ n) (hc : c + (n - p) ≤ 100) (htG : G.2.2.2.size ≤ t)  : gCI l yX5_takesOne cX5_takesOne 2 .boolean (gRm 11 239) G [.ref t, .int 2] (fun H => gOld G H ∧ gSg G t (gLL G t (gR (gR f 1 E) 5 (gS6 (nI n) (nI p) (nI c) wd rs))) H) (fun r H => r = gB ((gPF (f 0) n 2 p).1 = true) ∧ ∃ E9 : Nat → Int32, gCs E c E9 (gPF (f 0) n 2 p).2.2 ∧ gSg G t (gLL G t (gR (gR f 1 E9) 5 (gS6 (nI n) (nI (gPF (f 0) n 2 p).2.1) (nI (c + ((gPF (f 0) n 2 p).2.2).length)) wd rs))) H) (fun q => t ≤ q ∧ q < t + 6) := by
  refine g_start (by decide) (Nat.le_of_ble_eq_true rfl) ?_
  intro pp_ ee_ s mm_ aa_ below meth cc_ ls Q hQ hX hE hP hl
  obtain ⟨hx, hb, hr, hml, hown, hT, hlk, hnm⟩ := hX
  have hK := hE.2.1
  obtain ⟨hO, h1⟩ := hP
  have hS : va_S (fun q => t ≤ q ∧ q < t + 6) s.heap s.heap [] := va_S.rf
  have hl : lv_has ls 2 [(0, .ref t), (1, .int 2)] := hl
  have hn9 : n ≤ 100 := hT9.1
  have hJ := hE.2.2.2.2.2.2.now hO
  refine lv_iload_n hx hb dX5_takesOne_0 rfl (lv_at hl 1 rfl) ?_
  refine lv_iconst (v := 4) hx hb dX5_takesOne_1 (by decide) ?_
  refine lv_icmp_ge (tgt := 33) hx hb dX5_takesOne_2 (by decide) (fun c1 => ?_) (fun c1 => ?_)
  · exact absurd c1 (by decide)
  · refine lv_aload_n hx hb dX5_takesOne_5 rfl (lv_at hl 0 rfl) ?_
    refine lv_bipush (v := 33) hx hb dX5_takesOne_6 (by decide) ?_
    refine g_ki (g_runV (T := TX5) (ci := 5) (N := 10) (rest := []) hx hb hml hown hE hT (c_X5_takesSign l G t f n hT9 E p c wd rs (by omega) (by omega) 33) gM_X5_takesSign gm_X5_68 gi_X5_takesSign gs_RX5_yX5_takesSign_yX5_takesSign rfl (h1 0 _ rfl) h1 rfl hl.1 ⟨rfl, rfl⟩ ⟨Nat.le_of_ble_eq_true rfl, Nat.le_of_ble_eq_true rfl⟩ ⟨Nat.zero_le _, Nat.zero_le _⟩ rfl (Nat.le_of_ble_eq_true rfl) dX5_takesOne_8) hS (by intro q hq; omega) (fun r5 H2 locs q3 k4 hS => ?_)
    obtain ⟨e9, h1⟩ := q3
    rw [e9]
    refine lv_if_eq (tgt := 33) hx hb dX5_takesOne_11 (by decide) (fun c6 => ?_) (fun c6 => ?_)
    · have c6 : ¬ (p < n ∧ f 0 p = 33) := gB_0.mp c6
      rw [if_neg c6] at h1
      refine lv_iload_n hx hb dX5_takesOne_33 rfl (lv_at hl 1 rfl) ?_
      refine lv_iconst (v := 4) hx hb dX5_takesOne_34 (by decide) ?_
      refine lv_icmp_ge (tgt := 72) hx hb dX5_takesOne_35 (by decide) (fun c7 => ?_) (fun c7 => ?_)
      · exact absurd c7 (by decide)
      · refine lv_aload_n hx hb dX5_takesOne_38 rfl (lv_at hl 0 rfl) ?_
        refine lv_bipush (v := 40) hx hb dX5_takesOne_39 (by decide) ?_
        refine g_ki (g_runV (T := TX5) (ci := 5) (N := 10) (rest := []) hx hb hml hown hE hT (c_X5_takesSign l G t f n hT9 E p c wd rs (by omega) (by omega) 40) gM_X5_takesSign gm_X5_68 gi_X5_takesSign gs_RX5_yX5_takesSign_yX5_takesSign rfl (h1 0 _ rfl) h1 rfl hl.1 ⟨rfl, rfl⟩ ⟨Nat.le_of_ble_eq_true rfl, Nat.le_of_ble_eq_true rfl⟩ ⟨Nat.zero_le _, Nat.zero_le _⟩ rfl (Nat.le_of_ble_eq_true rfl) dX5_takesOne_41) hS (by intro q hq; omega) (fun r11 H8 locs q9 k10 hS => ?_)
        obtain ⟨e9, h1⟩ := q9
        rw [e9]
        refine lv_if_eq (tgt := 72) hx hb dX5_takesOne_44 (by decide) (fun c12 => ?_) (fun c12 => ?_)
        · have c12 : ¬ (p < n ∧ f 0 p = 40) := gB_0.mp c12
          rw [if_neg c12] at h1
          refine lv_aload_n hx hb dX5_takesOne_72 rfl (lv_at hl 0 rfl) ?_
          have fy13 : p ≤ (gTe (f 0) n p).2.1 ∧ (gTe (f 0) n p).2.1 ≤ n ∧ (gTe (f 0) n p).2.2.length ≤ (gTe (f 0) n p).2.1 - p := gTe_fit (f 0) n p (by omega)
          refine g_ki (g_runV (T := TX5) (ci := 5) (N := 10) (rest := []) hx hb hml hown hE hT (c_X5_takesTest l G t f n hT9 E p c wd rs (by omega) (by omega) htG) gM_X5_takesTest gm_X5_99 gi_X5_takesTest gs_RX5_yX5_takesTest_yX5_takesTest rfl (h1 0 _ rfl) ⟨(gOld_S hO hS (fun q9 hq9 => Nat.le_trans htG hq9.1)), h1⟩ rfl hl.1 ⟨rfl, rfl⟩ ⟨Nat.le_of_ble_eq_true rfl, Nat.le_of_ble_eq_true rfl⟩ ⟨Nat.zero_le _, Nat.zero_le _⟩ rfl (Nat.le_of_ble_eq_true rfl) dX5_takesOne_73) hS (by intro q hq; omega) (fun r17 H14 locs q15 k16 hS => ?_)
          obtain ⟨e9, Ey13, hcy13, h1⟩ := q15
          rw [e9]
          rw [← hQ]
          exact g_zret hx hb hr hlk gB_n hS dX5_takesOne_76 (by rw [show gPF (f 0) n 2 p = gTe (f 0) n p from by rw [gPF.eq_2, if_neg c6, if_neg c12]]; exact ⟨rfl, _, hcy13, h1⟩)
        · have c12 : p < n ∧ f 0 p = 40 := gB_1.mp c12
          rw [if_pos c12] at h1
          have ltc12 := c12.1
          refine lv_aload_n hx hb dX5_takesOne_47 rfl (lv_at hl 0 rfl) ?_
          refine lv_iload_n hx hb dX5_takesOne_48 rfl (lv_at hl 1 rfl) ?_
          refine lv_iconst (v := 1) hx hb dX5_takesOne_49 (by decide) ?_
          refine lv_iadd hx hb dX5_takesOne_50 ?_
          rw [show (2 + 1 : Int32) = nI (2 + 1) from (gAdd rfl rfl)]
          have fy18 : p + 1 ≤ (gE (f 0) n 1 (p + 1)).2.1 ∧ (gE (f 0) n 1 (p + 1)).2.1 ≤ n ∧ (gE (f 0) n 1 (p + 1)).2.2.length ≤ (gE (f 0) n 1 (p + 1)).2.1 - (p + 1) := gE_fit (f 0) n 1 (p + 1) (by omega)
          refine g_ki (g_runV (T := TX5) (ci := 5) (N := 10) (rest := []) hx hb hml hown hE hT (c_X5_takesEither_1 l G t f n hT9 E (p + 1) c wd rs (by omega) (by omega) htG) gM_X5_takesEither gm_X5_88 gi_X5_takesEither gs_RX5_yX5_takesEither_yX5_takesEither rfl (h1 0 _ rfl) ⟨(gOld_S hO hS (fun q9 hq9 => Nat.le_trans htG hq9.1)), h1⟩ rfl hl.1 ⟨rfl, rfl⟩ ⟨Nat.le_of_ble_eq_true rfl, Nat.le_of_ble_eq_true rfl⟩ ⟨Nat.zero_le _, Nat.zero_le _⟩ rfl (Nat.le_of_ble_eq_true rfl) dX5_takesOne_51) hS (by intro q hq; omega) (fun r22 H19 locs q20 k21 hS => ?_)
          obtain ⟨e9, Ey18, hcy18, h1⟩ := q20
          rw [e9]
          refine lv_if_eq (tgt := 70) hx hb dX5_takesOne_54 (by decide) (fun c23 => ?_) (fun c23 => ?_)
          · have c23 : ¬ ((gE (f 0) n 1 (p + 1)).1 = true) := gB_0.mp c23
            refine lv_iconst (v := 0) hx hb dX5_takesOne_70 (by decide) ?_
            rw [← hQ]
            exact g_zret hx hb hr hlk rfl hS dX5_takesOne_71 (by rw [show gPF (f 0) n 2 p = (false, (gE (f 0) n 1 (p + 1)).2.1, (gE (f 0) n 1 (p + 1)).2.2) from by rw [gPF.eq_2, if_neg c6, if_pos c12, gE_e, if_neg c23]]; exact ⟨rfl, _, hcy18, h1⟩)
          · have c23 : (gE (f 0) n 1 (p + 1)).1 = true := gB_1.mp c23
            refine lv_aload_n hx hb dX5_takesOne_57 rfl (lv_at hl 0 rfl) ?_
            refine lv_bipush (v := 41) hx hb dX5_takesOne_58 (by decide) ?_
            refine g_ki (g_runV (T := TX5) (ci := 5) (N := 10) (rest := []) hx hb hml hown hE hT (c_X5_takesSign l G t f n hT9 Ey18 (gE (f 0) n 1 (p + 1)).2.1 (c + (gE (f 0) n 1 (p + 1)).2.2.length) wd rs (by omega) (by omega) 41) gM_X5_takesSign gm_X5_68 gi_X5_takesSign gs_RX5_yX5_takesSign_yX5_takesSign rfl (h1 0 _ rfl) h1 rfl hl.1 ⟨rfl, rfl⟩ ⟨Nat.le_of_ble_eq_true rfl, Nat.le_of_ble_eq_true rfl⟩ ⟨Nat.zero_le _, Nat.zero_le _⟩ rfl (Nat.le_of_ble_eq_true rfl) dX5_takesOne_60) hS (by intro q hq; omega) (fun r27 H24 locs q25 k26 hS => ?_)
            obtain ⟨e9, h1⟩ := q25
            rw [e9]
            refine lv_if_eq (tgt := 70) hx hb dX5_takesOne_63 (by decide) (fun c28 => ?_) (fun c28 => ?_)
            · have c28 : ¬ ((gE (f 0) n 1 (p + 1)).2.1 < n ∧ f 0 (gE (f 0) n 1 (p + 1)).2.1 = 41) := gB_0.mp c28
              rw [if_neg c28] at h1
              refine lv_iconst (v := 0) hx hb dX5_takesOne_70 (by decide) ?_
              rw [← hQ]
              exact g_zret hx hb hr hlk rfl hS dX5_takesOne_71 (by rw [show gPF (f 0) n 2 p = (false, (gE (f 0) n 1 (p + 1)).2.1, (gE (f 0) n 1 (p + 1)).2.2) from by rw [gPF.eq_2, if_neg c6, if_pos c12, gE_e, if_pos c23, if_neg c28]]; exact ⟨rfl, _, hcy18, h1⟩)
            · have c28 : (gE (f 0) n 1 (p + 1)).2.1 < n ∧ f 0 (gE (f 0) n 1 (p + 1)).2.1 = 41 := gB_1.mp c28
              rw [if_pos c28] at h1
              have ltc28 := c28.1
              refine lv_iconst (v := 1) hx hb dX5_takesOne_66 (by decide) ?_
              refine lv_goto (tgt := 71) hx hb dX5_takesOne_67 (by decide) ?_
              rw [← hQ]
              exact g_zret hx hb hr hlk rfl hS dX5_takesOne_71 (by rw [show gPF (f 0) n 2 p = (true, (gE (f 0) n 1 (p + 1)).2.1 + 1, (gE (f 0) n 1 (p + 1)).2.2) from by rw [gPF.eq_2, if_neg c6, if_pos c12, gE_e, if_pos c23, if_pos c28]]; exact ⟨rfl, _, hcy18, h1⟩)
    · have c6 : p < n ∧ f 0 p = 33 := gB_1.mp c6
      rw [if_pos c6] at h1
      have ltc6 := c6.1
      refine lv_aload_n hx hb dX5_takesOne_14 rfl (lv_at hl 0 rfl) ?_
      refine lv_iload_n hx hb dX5_takesOne_15 rfl (lv_at hl 1 rfl) ?_
      refine lv_iconst (v := 1) hx hb dX5_takesOne_16 (by decide) ?_
      refine lv_iadd hx hb dX5_takesOne_17 ?_
      rw [show (2 + 1 : Int32) = nI (2 + 1) from (gAdd rfl rfl)]
      have fy29 : p + 1 ≤ (gPF (f 0) n 1 (p + 1)).2.1 ∧ (gPF (f 0) n 1 (p + 1)).2.1 ≤ n ∧ (gPF (f 0) n 1 (p + 1)).2.2.length ≤ (gPF (f 0) n 1 (p + 1)).2.1 - (p + 1) := gPF_fit (f 0) n 1 (p + 1) (by omega)
      refine g_ki (g_runV (T := TX5) (ci := 5) (N := 10) (rest := []) hx hb hml hown hE hT (c_X5_takesOne_1 l G t f n hT9 E (p + 1) c wd rs (by omega) (by omega) htG) gM_X5_takesOne gm_X5_92 gi_X5_takesOne gs_RX5_yX5_takesOne_yX5_takesOne rfl (h1 0 _ rfl) ⟨(gOld_S hO hS (fun q9 hq9 => Nat.le_trans htG hq9.1)), h1⟩ rfl hl.1 ⟨rfl, rfl⟩ ⟨Nat.le_of_ble_eq_true rfl, Nat.le_of_ble_eq_true rfl⟩ ⟨Nat.zero_le _, Nat.zero_le _⟩ rfl (Nat.le_of_ble_eq_true rfl) dX5_takesOne_18) hS (by intro q hq; omega) (fun r33 H30 locs q31 k32 hS => ?_)
      obtain ⟨e9, Ey29, hcy29, h1⟩ := q31
      rw [e9]
      refine lv_if_ne (tgt := 26) hx hb dX5_takesOne_21 (by decide) (fun c34 => ?_) (fun c34 => ?_)
      · have c34 : (gPF (f 0) n 1 (p + 1)).1 = true := gB_1.mp c34
        refine lv_aload_n hx hb dX5_takesOne_26 rfl (lv_at hl 0 rfl) ?_
        refine lv_iconst (v := (-1)) hx hb dX5_takesOne_27 (by decide) ?_
        refine g_kv (g_runV (T := TX5) (ci := 5) (N := 10) (rest := []) hx hb hml hown hE hT (c_X5_adds l G t f n hT9 Ey29 (gPF (f 0) n 1 (p + 1)).2.1 (c + (gPF (f 0) n 1 (p + 1)).2.2.length) wd rs (by omega) (by omega) (-1) (by omega)) gM_X5_adds gm_X5_95 gi_X5_adds gs_RX5_yX5_adds_yX5_adds rfl (h1 0 _ rfl) h1 rfl hl.1 ⟨rfl, rfl⟩ ⟨Nat.le_of_ble_eq_true rfl, Nat.le_of_ble_eq_true rfl⟩ ⟨Nat.zero_le _, Nat.zero_le _⟩ rfl (Nat.le_of_ble_eq_true rfl) dX5_takesOne_28) hS (by intro q hq; omega) (fun H35 locs q36 k37 hS => ?_)
        have h1 := q36
        refine lv_iconst (v := 1) hx hb dX5_takesOne_31 (by decide) ?_
        rw [← hQ]
        exact g_zret hx hb hr hlk rfl hS dX5_takesOne_32 (by rw [show gPF (f 0) n 2 p = (true, (gPF (f 0) n 1 (p + 1)).2.1, (gPF (f 0) n 1 (p + 1)).2.2 ++ [0]) from by rw [gPF.eq_2, if_pos c6, if_pos c34]]; exact ⟨rfl, _, gCs_a (x := 0) (y := -1) hcy29 (by decide), by rw [List.length_append]; exact h1⟩)
      · have c34 : ¬ ((gPF (f 0) n 1 (p + 1)).1 = true) := gB_0.mp c34
        refine lv_iconst (v := 0) hx hb dX5_takesOne_24 (by decide) ?_
        rw [← hQ]
        exact g_zret hx hb hr hlk rfl hS dX5_takesOne_25 (by rw [show gPF (f 0) n 2 p = (false, (gPF (f 0) n 1 (p + 1)).2.1, (gPF (f 0) n 1 (p + 1)).2.2) from by rw [gPF.eq_2, if_pos c6, if_neg c34]]; exact ⟨rfl, _, hcy29, h1⟩)

set_option maxHeartbeats 4000000 in
set_option maxRecDepth 100000 in
theorem c_X5_takesEither_2 (l : Launch) (G : gW) (t : Nat) (f : gPS) (n : Nat) (hT9 : gTx (f 0) n) (E : Nat → Int32) (p c : Nat) (wd rs : Int32) (hp : p ≤ n) (hc : c + (n - p) ≤ 100) (htG : G.2.2.2.size ≤ t)  : gCI l yX5_takesEither cX5_takesEither 4 .boolean (gRm 12 260) G [.ref t, .int 2] (fun H => gOld G H ∧ gSg G t (gLL G t (gR (gR f 1 E) 5 (gS6 (nI n) (nI p) (nI c) wd rs))) H) (fun r H => r = gB ((gE (f 0) n 2 p).1 = true) ∧ ∃ E9 : Nat → Int32, gCs E c E9 (gE (f 0) n 2 p).2.2 ∧ gSg G t (gLL G t (gR (gR f 1 E9) 5 (gS6 (nI n) (nI (gE (f 0) n 2 p).2.1) (nI (c + ((gE (f 0) n 2 p).2.2).length)) wd rs))) H) (fun q => t ≤ q ∧ q < t + 6) := by
  refine g_start (by decide) (Nat.le_of_ble_eq_true rfl) ?_
  intro pp_ ee_ s mm_ aa_ below meth cc_ ls Q hQ hX hE hP hl
  obtain ⟨hx, hb, hr, hml, hown, hT, hlk, hnm⟩ := hX
  have hK := hE.2.1
  obtain ⟨hO, h1⟩ := hP
  have hS : va_S (fun q => t ≤ q ∧ q < t + 6) s.heap s.heap [] := va_S.rf
  have hl : lv_has ls 4 [(0, .ref t), (1, .int 2)] := hl
  have hn9 : n ≤ 100 := hT9.1
  have hJ := hE.2.2.2.2.2.2.now hO
  refine lv_iconst (v := 0) hx hb dX5_takesEither_0 (by decide) ?_
  refine lv_istore_n (lv' := [(2, .int 0), (0, .ref t), (1, .int 2)]) hx hb dX5_takesEither_1 rfl hl (by decide) rfl (fun ls hl => ?_)
  have loop : ∀ (m k q : Nat) (K : List Nat) (E9 : Nat → Int32), q ≤ n → n < q + m → p ≤ q → (k = 0 ∨ (k + 1 ≤ q - p ∧ K.length + 1 ≤ q - p)) → gE (f 0) n 2 p = (if (gT (f 0) n 2 q).1 = true then gTl (gT (f 0) n 2) (f 0) n 124 2 m (gT (f 0) n 2 q).2.1 (K ++ (gT (f 0) n 2 q).2.2 ++ (if k = 0 then [] else [2])) else (false, (gT (f 0) n 2 q).2.1, K ++ (gT (f 0) n 2 q).2.2)) → gCs E c E9 K → K.length ≤ q - p → ∀ (H : Heap) (locs : List Loc), gSg G t (gLL G t (gR (gR f 1 E9) 5 (gS6 (nI n) (nI q) (nI (c + K.length)) wd rs))) H → va_S (fun q => t ≤ q ∧ q < t + 6) s.heap H locs → ∀ ls, lv_has ls 4 [(0, .ref t), (1, .int 2), (2, .int (nI k))] → W pp_ l ee_ (gRm 12 260) s mm_ aa_ below meth cc_ H locs 0 0 Q (F0 mm_ 2 ls []) := by
    intro m
    induction m with
    | zero => intro k q K E9 hq hm; exact absurd hm (by omega)
    | succ m ih =>
      intro k q K E9 hq hm hpq hk1 hi hcd hKl H locs h1 hS ls hl
      refine lv_iload_n hx hb dX5_takesEither_2 rfl (lv_at hl 2 rfl) ?_
      refine lv_bipush (v := 100) hx hb dX5_takesEither_3 (by decide) ?_
      refine lv_icmp_ge (tgt := 84) hx hb dX5_takesEither_5 (by decide) (fun c1 => ?_) (fun c1 => ?_)
      · have c1 : 100 ≤ k := (gLe (a := 100) (b := k) rfl rfl (by omega) (by omega)).mp c1
        exact absurd c1 (by omega)
      · have c1 : ¬ 100 ≤ k := fun z => c1 ((gLe (a := 100) (b := k) rfl rfl (by omega) (by omega)).mpr z)
        refine lv_aload_n hx hb dX5_takesEither_8 rfl (lv_at hl 0 rfl) ?_
        refine lv_iload_n hx hb dX5_takesEither_9 rfl (lv_at hl 1 rfl) ?_
        have fy2 : q ≤ (gPF (f 0) n 2 q).2.1 ∧ (gPF (f 0) n 2 q).2.1 ≤ n ∧ (gPF (f 0) n 2 q).2.2.length ≤ (gPF (f 0) n 2 q).2.1 - q := gPF_fit (f 0) n 2 q (by omega)
        refine g_ki (g_runV (T := TX5) (ci := 5) (N := 10) (rest := []) hx hb hml hown hE hT (c_X5_takesOne_2 l G t f n hT9 E9 q (c + K.length) wd rs (by omega) (by omega) htG) gM_X5_takesOne gm_X5_92 gi_X5_takesOne gs_RX5_yX5_takesOne_yX5_takesOne rfl (h1 0 _ rfl) ⟨(gOld_S hO hS (fun q9 hq9 => Nat.le_trans htG hq9.1)), h1⟩ rfl hl.1 ⟨rfl, rfl⟩ ⟨Nat.le_of_ble_eq_true rfl, Nat.le_of_ble_eq_true rfl⟩ ⟨Nat.zero_le _, Nat.zero_le _⟩ rfl (Nat.le_of_ble_eq_true rfl) dX5_takesEither_10) hS (by intro q hq; omega) (fun r6 H3 locs q4 k5 hS => ?_)
        obtain ⟨e9, Ey2, hcy2, h1⟩ := q4
        rw [e9]
        refine lv_if_ne (tgt := 18) hx hb dX5_takesEither_13 (by decide) (fun c7 => ?_) (fun c7 => ?_)
        · have c7 : (gPF (f 0) n 2 q).1 = true := gB_1.mp c7
          refine lv_iconst (v := 0) hx hb dX5_takesEither_18 (by decide) ?_
          refine lv_istore_n (lv' := [(3, .int 0), (0, .ref t), (1, .int 2), (2, .int (nI k))]) hx hb dX5_takesEither_19 rfl hl (by decide) rfl (fun ls hl => ?_)
          have inner : ∀ (m2 x a : Nat) (J : List Nat) (E8 : Nat → Int32), a ≤ n → n < a + m2 → x + 1 ≤ a - q → (gT (f 0) n 2 q) = gTl (gPF (f 0) n 2) (f 0) n 38 1 m2 a J → gCs E c E8 (K ++ J) → J.length ≤ a - q → ∀ (H : Heap) (locs : List Loc), gSg G t (gLL G t (gR (gR f 1 E8) 5 (gS6 (nI n) (nI a) (nI (c + (K ++ J).length)) wd rs))) H → va_S (fun q => t ≤ q ∧ q < t + 6) s.heap H locs → ∀ ls, lv_has ls 4 [(0, .ref t), (1, .int 2), (2, .int (nI k)), (3, .int (nI x))] → W pp_ l ee_ (gRm 12 260) s mm_ aa_ below meth cc_ H locs 0 0 Q (F0 mm_ 20 ls []) := by
            intro m2
            induction m2 with
            | zero => intro x a J E8 ha hm2; exact absurd hm2 (by omega)
            | succ m2 ih2 =>
              intro x a J E8 ha hm2 hxa hJi hcd2 hJl H locs h1 hS ls hl
              have hKJ : (K ++ J).length = K.length + J.length := List.length_append
              refine lv_iload_n hx hb dX5_takesEither_20 rfl (lv_at hl 3 rfl) ?_
              refine lv_bipush (v := 100) hx hb dX5_takesEither_21 (by decide) ?_
              refine lv_icmp_ge (tgt := 57) hx hb dX5_takesEither_23 (by decide) (fun c8 => ?_) (fun c8 => ?_)
              · have c8 : 100 ≤ x := (gLe (a := 100) (b := x) rfl rfl (by omega) (by omega)).mp c8
                exact absurd c8 (by omega)
              · have c8 : ¬ 100 ≤ x := fun z => c8 ((gLe (a := 100) (b := x) rfl rfl (by omega) (by omega)).mpr z)
                refine lv_aload_n hx hb dX5_takesEither_26 rfl (lv_at hl 0 rfl) ?_
                refine lv_bipush (v := 38) hx hb dX5_takesEither_27 (by decide) ?_
                refine g_ki (g_runV (T := TX5) (ci := 5) (N := 10) (rest := []) hx hb hml hown hE hT (c_X5_takesSign l G t f n hT9 E8 a (c + (K ++ J).length) wd rs (by omega) (by omega) 38) gM_X5_takesSign gm_X5_68 gi_X5_takesSign gs_RX5_yX5_takesSign_yX5_takesSign rfl (h1 0 _ rfl) h1 rfl hl.1 ⟨rfl, rfl⟩ ⟨Nat.le_of_ble_eq_true rfl, Nat.le_of_ble_eq_true rfl⟩ ⟨Nat.zero_le _, Nat.zero_le _⟩ rfl (Nat.le_of_ble_eq_true rfl) dX5_takesEither_29) hS (by intro q hq; omega) (fun r12 H9 locs q10 k11 hS => ?_)
                obtain ⟨e9, h1⟩ := q10
                rw [e9]
                refine lv_if_eq (tgt := 57) hx hb dX5_takesEither_32 (by decide) (fun c13 => ?_) (fun c13 => ?_)
                · have c13 : ¬ (a < n ∧ f 0 a = 38) := gB_0.mp c13
                  rw [if_neg c13] at h1
                  have hTq : (gT (f 0) n 2 q) = (true, a, J) := by rw [hJi, gTl, if_neg c13]
                  rw [hTq] at hi
                  refine lv_iload_n hx hb dX5_takesEither_57 rfl (lv_at hl 2 rfl) ?_
                  refine lv_if_le (tgt := 67) hx hb dX5_takesEither_58 (by decide) (fun c14 => ?_) (fun c14 => ?_)
                  · have c14 : k ≤ 0 := (gLe (a := k) (b := 0) rfl rfl (by omega) (by omega)).mp c14
                    refine lv_aload_n hx hb dX5_takesEither_67 rfl (lv_at hl 0 rfl) ?_
                    refine lv_bipush (v := 124) hx hb dX5_takesEither_68 (by decide) ?_
                    refine g_ki (g_runV (T := TX5) (ci := 5) (N := 10) (rest := []) hx hb hml hown hE hT (c_X5_takesSign l G t f n hT9 E8 a (c + (K ++ J).length) wd rs (by omega) (by omega) 124) gM_X5_takesSign gm_X5_68 gi_X5_takesSign gs_RX5_yX5_takesSign_yX5_takesSign rfl (h1 0 _ rfl) h1 rfl hl.1 ⟨rfl, rfl⟩ ⟨Nat.le_of_ble_eq_true rfl, Nat.le_of_ble_eq_true rfl⟩ ⟨Nat.zero_le _, Nat.zero_le _⟩ rfl (Nat.le_of_ble_eq_true rfl) dX5_takesEither_70) hS (by intro q hq; omega) (fun r18 H15 locs q16 k17 hS => ?_)
                    obtain ⟨e9, h1⟩ := q16
                    rw [e9]
                    refine lv_if_ne (tgt := 78) hx hb dX5_takesEither_73 (by decide) (fun c19 => ?_) (fun c19 => ?_)
                    · have c19 : a < n ∧ f 0 a = 124 := gB_1.mp c19
                      rw [if_pos c19] at h1
                      have ltc19 := c19.1
                      refine lv_iinc (v := nI (k + 1)) (lv' := [(2, .int (nI (k + 1))), (0, .ref t), (1, .int 2), (3, .int (nI x))]) hx hb dX5_takesEither_78 hl (k := 2) rfl (gAdd rfl (show Int32.ofInt 1 = nI 1 from rfl)) (by decide) rfl (fun ls hl => ?_)
                      refine lv_goto (tgt := 2) hx hb dX5_takesEither_81 (by decide) ?_
                      have hi2 : gE (f 0) n 2 p = (if (gT (f 0) n 2 (a + 1)).1 = true then gTl (gT (f 0) n 2) (f 0) n 124 2 m (gT (f 0) n 2 (a + 1)).2.1 ((K ++ J ++ []) ++ (gT (f 0) n 2 (a + 1)).2.2 ++ (if k + 1 = 0 then [] else [2])) else (false, (gT (f 0) n 2 (a + 1)).2.1, (K ++ J ++ []) ++ (gT (f 0) n 2 (a + 1)).2.2)) := by rw [hi]; show gTl (gT (f 0) n 2) (f 0) n 124 2 (m + 1) a (K ++ J ++ (if k = 0 then [] else [2])) = _; rw [if_pos (show k = 0 from by omega), gTl, if_pos c19, if_neg (Nat.succ_ne_zero k)]
                      have h1 : gSg G t (gLL G t (gR (gR f 1 E8) 5 (gS6 (nI n) (nI (a + 1)) (nI (c + (K ++ J ++ []).length)) wd rs))) H15 := by rw [List.append_nil]; exact h1
                      exact ih (k + 1) (a + 1) (K ++ J ++ []) _ (by omega) (by omega) (by omega) (Or.inr ⟨by omega, by first | omega | (simp only [List.length_append, List.length_cons, List.length_nil]; omega)⟩) hi2 (by rw [List.append_nil]; exact hcd2) (by simp only [List.length_append, List.length_cons, List.length_nil]; omega) _ _ h1 hS _ (lv_sub hl [1, 2, 0] rfl)
                    · have c19 : ¬ (a < n ∧ f 0 a = 124) := gB_0.mp c19
                      rw [if_neg c19] at h1
                      refine lv_iconst (v := 1) hx hb dX5_takesEither_76 (by decide) ?_
                      have hR9 : gE (f 0) n 2 p = (true, a, K ++ J ++ []) := by rw [hi]; show gTl (gT (f 0) n 2) (f 0) n 124 2 (m + 1) a (K ++ J ++ (if k = 0 then [] else [2])) = _; rw [if_pos (show k = 0 from by omega), gTl, if_neg c19]
                      rw [← hQ]
                      exact g_zret hx hb hr hlk rfl hS dX5_takesEither_77 (by rw [hR9, List.append_nil]; exact ⟨rfl, _, hcd2, h1⟩)
                  · have c14 : ¬ k ≤ 0 := fun z => c14 ((gLe (a := k) (b := 0) rfl rfl (by omega) (by omega)).mpr z)
                    refine lv_aload_n hx hb dX5_takesEither_61 rfl (lv_at hl 0 rfl) ?_
                    refine lv_bipush (v := (-3)) hx hb dX5_takesEither_62 (by decide) ?_
                    refine g_kv (g_runV (T := TX5) (ci := 5) (N := 10) (rest := []) hx hb hml hown hE hT (c_X5_adds l G t f n hT9 E8 a (c + (K ++ J).length) wd rs (by omega) (by omega) (-3) (by omega)) gM_X5_adds gm_X5_95 gi_X5_adds gs_RX5_yX5_adds_yX5_adds rfl (h1 0 _ rfl) h1 rfl hl.1 ⟨rfl, rfl⟩ ⟨Nat.le_of_ble_eq_true rfl, Nat.le_of_ble_eq_true rfl⟩ ⟨Nat.zero_le _, Nat.zero_le _⟩ rfl (Nat.le_of_ble_eq_true rfl) dX5_takesEither_64) hS (by intro q hq; omega) (fun H20 locs q21 k22 hS => ?_)
                    have h1 := q21
                    refine lv_aload_n hx hb dX5_takesEither_67 rfl (lv_at hl 0 rfl) ?_
                    refine lv_bipush (v := 124) hx hb dX5_takesEither_68 (by decide) ?_
                    refine g_ki (g_runV (T := TX5) (ci := 5) (N := 10) (rest := []) hx hb hml hown hE hT (c_X5_takesSign l G t f n hT9 (upd E8 (c + (K ++ J).length) (-3)) a (c + (K ++ J).length + 1) wd rs (by omega) (by omega) 124) gM_X5_takesSign gm_X5_68 gi_X5_takesSign gs_RX5_yX5_takesSign_yX5_takesSign rfl (h1 0 _ rfl) h1 rfl hl.1 ⟨rfl, rfl⟩ ⟨Nat.le_of_ble_eq_true rfl, Nat.le_of_ble_eq_true rfl⟩ ⟨Nat.zero_le _, Nat.zero_le _⟩ rfl (Nat.le_of_ble_eq_true rfl) dX5_takesEither_70) hS (by intro q hq; omega) (fun r27 H24 locs q25 k26 hS => ?_)
                    obtain ⟨e9, h1⟩ := q25
                    rw [e9]
                    refine lv_if_ne (tgt := 78) hx hb dX5_takesEither_73 (by decide) (fun c28 => ?_) (fun c28 => ?_)
                    · have c28 : a < n ∧ f 0 a = 124 := gB_1.mp c28
                      rw [if_pos c28] at h1
                      have ltc28 := c28.1
                      refine lv_iinc (v := nI (k + 1)) (lv' := [(2, .int (nI (k + 1))), (0, .ref t), (1, .int 2), (3, .int (nI x))]) hx hb dX5_takesEither_78 hl (k := 2) rfl (gAdd rfl (show Int32.ofInt 1 = nI 1 from rfl)) (by decide) rfl (fun ls hl => ?_)
                      refine lv_goto (tgt := 2) hx hb dX5_takesEither_81 (by decide) ?_
                      have hi2 : gE (f 0) n 2 p = (if (gT (f 0) n 2 (a + 1)).1 = true then gTl (gT (f 0) n 2) (f 0) n 124 2 m (gT (f 0) n 2 (a + 1)).2.1 ((K ++ J ++ [2]) ++ (gT (f 0) n 2 (a + 1)).2.2 ++ (if k + 1 = 0 then [] else [2])) else (false, (gT (f 0) n 2 (a + 1)).2.1, (K ++ J ++ [2]) ++ (gT (f 0) n 2 (a + 1)).2.2)) := by rw [hi]; show gTl (gT (f 0) n 2) (f 0) n 124 2 (m + 1) a (K ++ J ++ (if k = 0 then [] else [2])) = _; rw [if_neg (show ¬ k = 0 from by omega), gTl, if_pos c28, if_neg (Nat.succ_ne_zero k)]
                      have hl9 : (K ++ J ++ [2]).length = (K ++ J).length + 1 := List.length_append
                      have h1 : gSg G t (gLL G t (gR (gR f 1 (upd E8 (c + (K ++ J).length) (-3))) 5 (gS6 (nI n) (nI (a + 1)) (nI (c + (K ++ J ++ [2]).length)) wd rs))) H24 := by rw [hl9, ← Nat.add_assoc]; exact h1
                      exact ih (k + 1) (a + 1) (K ++ J ++ [2]) _ (by omega) (by omega) (by omega) (Or.inr ⟨by omega, by first | omega | (simp only [List.length_append, List.length_cons, List.length_nil]; omega)⟩) hi2 (gCs_a (x := 2) (y := -3) hcd2 (by decide)) (by simp only [List.length_append, List.length_cons, List.length_nil]; omega) _ _ h1 hS _ (lv_sub hl [1, 2, 0] rfl)
                    · have c28 : ¬ (a < n ∧ f 0 a = 124) := gB_0.mp c28
                      rw [if_neg c28] at h1
                      refine lv_iconst (v := 1) hx hb dX5_takesEither_76 (by decide) ?_
                      have hR9 : gE (f 0) n 2 p = (true, a, K ++ J ++ [2]) := by rw [hi]; show gTl (gT (f 0) n 2) (f 0) n 124 2 (m + 1) a (K ++ J ++ (if k = 0 then [] else [2])) = _; rw [if_neg (show ¬ k = 0 from by omega), gTl, if_neg c28]
                      have hl9 : (K ++ J ++ [2]).length = (K ++ J).length + 1 := List.length_append
                      have h1 : gSg G t (gLL G t (gR (gR f 1 (upd E8 (c + (K ++ J).length) (-3))) 5 (gS6 (nI n) (nI a) (nI (c + (K ++ J ++ [2]).length)) wd rs))) H24 := by rw [hl9, ← Nat.add_assoc]; exact h1
                      rw [← hQ]
                      exact g_zret hx hb hr hlk rfl hS dX5_takesEither_77 (by rw [hR9]; exact ⟨rfl, _, gCs_a (x := 2) (y := -3) hcd2 (by decide), h1⟩)
                · have c13 : a < n ∧ f 0 a = 38 := gB_1.mp c13
                  rw [if_pos c13] at h1
                  have ltc13 := c13.1
                  refine lv_aload_n hx hb dX5_takesEither_35 rfl (lv_at hl 0 rfl) ?_
                  refine lv_iload_n hx hb dX5_takesEither_36 rfl (lv_at hl 1 rfl) ?_
                  have fy29 : a + 1 ≤ (gPF (f 0) n 2 (a + 1)).2.1 ∧ (gPF (f 0) n 2 (a + 1)).2.1 ≤ n ∧ (gPF (f 0) n 2 (a + 1)).2.2.length ≤ (gPF (f 0) n 2 (a + 1)).2.1 - (a + 1) := gPF_fit (f 0) n 2 (a + 1) (by omega)
                  refine g_ki (g_runV (T := TX5) (ci := 5) (N := 10) (rest := []) hx hb hml hown hE hT (c_X5_takesOne_2 l G t f n hT9 E8 (a + 1) (c + (K ++ J).length) wd rs (by omega) (by omega) htG) gM_X5_takesOne gm_X5_92 gi_X5_takesOne gs_RX5_yX5_takesOne_yX5_takesOne rfl (h1 0 _ rfl) ⟨(gOld_S hO hS (fun q9 hq9 => Nat.le_trans htG hq9.1)), h1⟩ rfl hl.1 ⟨rfl, rfl⟩ ⟨Nat.le_of_ble_eq_true rfl, Nat.le_of_ble_eq_true rfl⟩ ⟨Nat.zero_le _, Nat.zero_le _⟩ rfl (Nat.le_of_ble_eq_true rfl) dX5_takesEither_37) hS (by intro q hq; omega) (fun r33 H30 locs q31 k32 hS => ?_)
                  obtain ⟨e9, Ey29, hcy29, h1⟩ := q31
                  rw [e9]
                  refine lv_if_ne (tgt := 45) hx hb dX5_takesEither_40 (by decide) (fun c34 => ?_) (fun c34 => ?_)
                  · have c34 : (gPF (f 0) n 2 (a + 1)).1 = true := gB_1.mp c34
                    refine lv_aload_n hx hb dX5_takesEither_45 rfl (lv_at hl 0 rfl) ?_
                    refine lv_bipush (v := (-2)) hx hb dX5_takesEither_46 (by decide) ?_
                    refine g_kv (g_runV (T := TX5) (ci := 5) (N := 10) (rest := []) hx hb hml hown hE hT (c_X5_adds l G t f n hT9 Ey29 (gPF (f 0) n 2 (a + 1)).2.1 (c + (K ++ J).length + (gPF (f 0) n 2 (a + 1)).2.2.length) wd rs (by omega) (by omega) (-2) (by omega)) gM_X5_adds gm_X5_95 gi_X5_adds gs_RX5_yX5_adds_yX5_adds rfl (h1 0 _ rfl) h1 rfl hl.1 ⟨rfl, rfl⟩ ⟨Nat.le_of_ble_eq_true rfl, Nat.le_of_ble_eq_true rfl⟩ ⟨Nat.zero_le _, Nat.zero_le _⟩ rfl (Nat.le_of_ble_eq_true rfl) dX5_takesEither_48) hS (by intro q hq; omega) (fun H35 locs q36 k37 hS => ?_)
                    have h1 := q36
                    refine lv_iinc (v := nI (x + 1)) (lv' := [(3, .int (nI (x + 1))), (0, .ref t), (1, .int 2), (2, .int (nI k))]) hx hb dX5_takesEither_51 hl (k := 3) rfl (gAdd rfl (show Int32.ofInt 1 = nI 1 from rfl)) (by decide) rfl (fun ls hl => ?_)
                    refine lv_goto (tgt := 20) hx hb dX5_takesEither_54 (by decide) ?_
                    have hl9 : (K ++ (J ++ (gPF (f 0) n 2 (a + 1)).2.2 ++ [1])).length = (K ++ J).length + (gPF (f 0) n 2 (a + 1)).2.2.length + 1 := by simp only [List.length_append, List.length_cons, List.length_nil] <;> omega
                    have h1 : gSg G t (gLL G t (gR (gR f 1 (upd Ey29 (c + (K ++ J).length + (gPF (f 0) n 2 (a + 1)).2.2.length) (-2))) 5 (gS6 (nI n) (nI (gPF (f 0) n 2 (a + 1)).2.1) (nI (c + (K ++ (J ++ (gPF (f 0) n 2 (a + 1)).2.2 ++ [1])).length)) wd rs))) H35 := by rw [hl9, ← Nat.add_assoc, ← Nat.add_assoc]; exact h1
                    exact ih2 (x + 1) (gPF (f 0) n 2 (a + 1)).2.1 (J ++ (gPF (f 0) n 2 (a + 1)).2.2 ++ [1]) _ (by omega) (by omega) (by omega) (by rw [hJi, gTl, if_pos c13, if_pos c34]) (by have q9 := gCs_a (x := 1) (y := -2) (gCs_t hcd2 hcy29) (by decide); rw [List.length_append, ← Nat.add_assoc] at q9; rw [← List.append_assoc, ← List.append_assoc]; exact q9) (by simp only [List.length_append, List.length_cons, List.length_nil]; omega) _ _ h1 hS _ (lv_sub hl [1, 2, 3, 0] rfl)
                  · have c34 : ¬ ((gPF (f 0) n 2 (a + 1)).1 = true) := gB_0.mp c34
                    refine lv_iconst (v := 0) hx hb dX5_takesEither_43 (by decide) ?_
                    rw [← hQ]
                    exact g_zret hx hb hr hlk rfl hS dX5_takesEither_44 (by rw [show gE (f 0) n 2 p = (false, (gPF (f 0) n 2 (a + 1)).2.1, K ++ (J ++ (gPF (f 0) n 2 (a + 1)).2.2)) from by rw [hi, show (gT (f 0) n 2 q) = (false, (gPF (f 0) n 2 (a + 1)).2.1, J ++ (gPF (f 0) n 2 (a + 1)).2.2) from by rw [hJi, gTl, if_pos c13, if_neg c34]]; rfl]; exact ⟨rfl, _, by rw [← List.append_assoc]; exact gCs_t hcd2 hcy29, by rw [← List.append_assoc, List.length_append, ← Nat.add_assoc]; exact h1⟩)
          have hKJ0 : gT (f 0) n 2 q = gTl (gPF (f 0) n 2) (f 0) n 38 1 (n + 1) (gPF (f 0) n 2 q).2.1 (gPF (f 0) n 2 q).2.2 := by rw [gT, gPT, if_pos c7]
          have pos1 := gPF_pos (t := f 0) hq 2 c7
          have h1 : gSg G t (gLL G t (gR (gR f 1 Ey2) 5 (gS6 (nI n) (nI (gPF (f 0) n 2 q).2.1) (nI (c + (K ++ (gPF (f 0) n 2 q).2.2).length)) wd rs))) H3 := by rw [List.length_append, ← Nat.add_assoc]; exact h1
          exact inner (n + 1) 0 (gPF (f 0) n 2 q).2.1 (gPF (f 0) n 2 q).2.2 _ (by omega) (by omega) (by omega) hKJ0 (gCs_t hcd hcy2) (by omega) _ _ h1 hS _ (lv_sub hl [1, 2, 3, 0] rfl)
        · have c7 : ¬ ((gPF (f 0) n 2 q).1 = true) := gB_0.mp c7
          refine lv_iconst (v := 0) hx hb dX5_takesEither_16 (by decide) ?_
          rw [← hQ]
          exact g_zret hx hb hr hlk rfl hS dX5_takesEither_17 (by rw [show gE (f 0) n 2 p = (false, (gPF (f 0) n 2 q).2.1, K ++ (gPF (f 0) n 2 q).2.2) from by rw [hi, show (gT (f 0) n 2 q) = (false, (gPF (f 0) n 2 q).2.1, (gPF (f 0) n 2 q).2.2) from by rw [gT, gPT, if_neg c7]]; rfl]; exact ⟨rfl, _, gCs_t hcd hcy2, by rw [List.length_append, ← Nat.add_assoc]; exact h1⟩)
  exact loop (n + 1) 0 p [] E (by omega) (by omega) (by omega) (Or.inl rfl) (by rw [gE, gPT, if_pos (rfl : (0 : Nat) = 0), List.append_nil, List.nil_append]) gCs_0 (by simp) _ _ h1 hS _ (lv_sub hl [1, 2, 0] rfl)

set_option maxHeartbeats 4000000 in
set_option maxRecDepth 100000 in
theorem c_X5_takesOne_3 (l : Launch) (G : gW) (t : Nat) (f : gPS) (n : Nat) (hT9 : gTx (f 0) n) (E : Nat → Int32) (p c : Nat) (wd rs : Int32) (hp : p ≤ n) (hc : c + (n - p) ≤ 100) (htG : G.2.2.2.size ≤ t)  : gCI l yX5_takesOne cX5_takesOne 2 .boolean (gRm 13 283) G [.ref t, .int 1] (fun H => gOld G H ∧ gSg G t (gLL G t (gR (gR f 1 E) 5 (gS6 (nI n) (nI p) (nI c) wd rs))) H) (fun r H => r = gB ((gPF (f 0) n 3 p).1 = true) ∧ ∃ E9 : Nat → Int32, gCs E c E9 (gPF (f 0) n 3 p).2.2 ∧ gSg G t (gLL G t (gR (gR f 1 E9) 5 (gS6 (nI n) (nI (gPF (f 0) n 3 p).2.1) (nI (c + ((gPF (f 0) n 3 p).2.2).length)) wd rs))) H) (fun q => t ≤ q ∧ q < t + 6) := by
  refine g_start (by decide) (Nat.le_of_ble_eq_true rfl) ?_
  intro pp_ ee_ s mm_ aa_ below meth cc_ ls Q hQ hX hE hP hl
  obtain ⟨hx, hb, hr, hml, hown, hT, hlk, hnm⟩ := hX
  have hK := hE.2.1
  obtain ⟨hO, h1⟩ := hP
  have hS : va_S (fun q => t ≤ q ∧ q < t + 6) s.heap s.heap [] := va_S.rf
  have hl : lv_has ls 2 [(0, .ref t), (1, .int 1)] := hl
  have hn9 : n ≤ 100 := hT9.1
  have hJ := hE.2.2.2.2.2.2.now hO
  refine lv_iload_n hx hb dX5_takesOne_0 rfl (lv_at hl 1 rfl) ?_
  refine lv_iconst (v := 4) hx hb dX5_takesOne_1 (by decide) ?_
  refine lv_icmp_ge (tgt := 33) hx hb dX5_takesOne_2 (by decide) (fun c1 => ?_) (fun c1 => ?_)
  · exact absurd c1 (by decide)
  · refine lv_aload_n hx hb dX5_takesOne_5 rfl (lv_at hl 0 rfl) ?_
    refine lv_bipush (v := 33) hx hb dX5_takesOne_6 (by decide) ?_
    refine g_ki (g_runV (T := TX5) (ci := 5) (N := 10) (rest := []) hx hb hml hown hE hT (c_X5_takesSign l G t f n hT9 E p c wd rs (by omega) (by omega) 33) gM_X5_takesSign gm_X5_68 gi_X5_takesSign gs_RX5_yX5_takesSign_yX5_takesSign rfl (h1 0 _ rfl) h1 rfl hl.1 ⟨rfl, rfl⟩ ⟨Nat.le_of_ble_eq_true rfl, Nat.le_of_ble_eq_true rfl⟩ ⟨Nat.zero_le _, Nat.zero_le _⟩ rfl (Nat.le_of_ble_eq_true rfl) dX5_takesOne_8) hS (by intro q hq; omega) (fun r5 H2 locs q3 k4 hS => ?_)
    obtain ⟨e9, h1⟩ := q3
    rw [e9]
    refine lv_if_eq (tgt := 33) hx hb dX5_takesOne_11 (by decide) (fun c6 => ?_) (fun c6 => ?_)
    · have c6 : ¬ (p < n ∧ f 0 p = 33) := gB_0.mp c6
      rw [if_neg c6] at h1
      refine lv_iload_n hx hb dX5_takesOne_33 rfl (lv_at hl 1 rfl) ?_
      refine lv_iconst (v := 4) hx hb dX5_takesOne_34 (by decide) ?_
      refine lv_icmp_ge (tgt := 72) hx hb dX5_takesOne_35 (by decide) (fun c7 => ?_) (fun c7 => ?_)
      · exact absurd c7 (by decide)
      · refine lv_aload_n hx hb dX5_takesOne_38 rfl (lv_at hl 0 rfl) ?_
        refine lv_bipush (v := 40) hx hb dX5_takesOne_39 (by decide) ?_
        refine g_ki (g_runV (T := TX5) (ci := 5) (N := 10) (rest := []) hx hb hml hown hE hT (c_X5_takesSign l G t f n hT9 E p c wd rs (by omega) (by omega) 40) gM_X5_takesSign gm_X5_68 gi_X5_takesSign gs_RX5_yX5_takesSign_yX5_takesSign rfl (h1 0 _ rfl) h1 rfl hl.1 ⟨rfl, rfl⟩ ⟨Nat.le_of_ble_eq_true rfl, Nat.le_of_ble_eq_true rfl⟩ ⟨Nat.zero_le _, Nat.zero_le _⟩ rfl (Nat.le_of_ble_eq_true rfl) dX5_takesOne_41) hS (by intro q hq; omega) (fun r11 H8 locs q9 k10 hS => ?_)
        obtain ⟨e9, h1⟩ := q9
        rw [e9]
        refine lv_if_eq (tgt := 72) hx hb dX5_takesOne_44 (by decide) (fun c12 => ?_) (fun c12 => ?_)
        · have c12 : ¬ (p < n ∧ f 0 p = 40) := gB_0.mp c12
          rw [if_neg c12] at h1
          refine lv_aload_n hx hb dX5_takesOne_72 rfl (lv_at hl 0 rfl) ?_
          have fy13 : p ≤ (gTe (f 0) n p).2.1 ∧ (gTe (f 0) n p).2.1 ≤ n ∧ (gTe (f 0) n p).2.2.length ≤ (gTe (f 0) n p).2.1 - p := gTe_fit (f 0) n p (by omega)
          refine g_ki (g_runV (T := TX5) (ci := 5) (N := 10) (rest := []) hx hb hml hown hE hT (c_X5_takesTest l G t f n hT9 E p c wd rs (by omega) (by omega) htG) gM_X5_takesTest gm_X5_99 gi_X5_takesTest gs_RX5_yX5_takesTest_yX5_takesTest rfl (h1 0 _ rfl) ⟨(gOld_S hO hS (fun q9 hq9 => Nat.le_trans htG hq9.1)), h1⟩ rfl hl.1 ⟨rfl, rfl⟩ ⟨Nat.le_of_ble_eq_true rfl, Nat.le_of_ble_eq_true rfl⟩ ⟨Nat.zero_le _, Nat.zero_le _⟩ rfl (Nat.le_of_ble_eq_true rfl) dX5_takesOne_73) hS (by intro q hq; omega) (fun r17 H14 locs q15 k16 hS => ?_)
          obtain ⟨e9, Ey13, hcy13, h1⟩ := q15
          rw [e9]
          rw [← hQ]
          exact g_zret hx hb hr hlk gB_n hS dX5_takesOne_76 (by rw [show gPF (f 0) n 3 p = gTe (f 0) n p from by rw [gPF.eq_2, if_neg c6, if_neg c12]]; exact ⟨rfl, _, hcy13, h1⟩)
        · have c12 : p < n ∧ f 0 p = 40 := gB_1.mp c12
          rw [if_pos c12] at h1
          have ltc12 := c12.1
          refine lv_aload_n hx hb dX5_takesOne_47 rfl (lv_at hl 0 rfl) ?_
          refine lv_iload_n hx hb dX5_takesOne_48 rfl (lv_at hl 1 rfl) ?_
          refine lv_iconst (v := 1) hx hb dX5_takesOne_49 (by decide) ?_
          refine lv_iadd hx hb dX5_takesOne_50 ?_
          rw [show (1 + 1 : Int32) = nI (1 + 1) from (gAdd rfl rfl)]
          have fy18 : p + 1 ≤ (gE (f 0) n 2 (p + 1)).2.1 ∧ (gE (f 0) n 2 (p + 1)).2.1 ≤ n ∧ (gE (f 0) n 2 (p + 1)).2.2.length ≤ (gE (f 0) n 2 (p + 1)).2.1 - (p + 1) := gE_fit (f 0) n 2 (p + 1) (by omega)
          refine g_ki (g_runV (T := TX5) (ci := 5) (N := 10) (rest := []) hx hb hml hown hE hT (c_X5_takesEither_2 l G t f n hT9 E (p + 1) c wd rs (by omega) (by omega) htG) gM_X5_takesEither gm_X5_88 gi_X5_takesEither gs_RX5_yX5_takesEither_yX5_takesEither rfl (h1 0 _ rfl) ⟨(gOld_S hO hS (fun q9 hq9 => Nat.le_trans htG hq9.1)), h1⟩ rfl hl.1 ⟨rfl, rfl⟩ ⟨Nat.le_of_ble_eq_true rfl, Nat.le_of_ble_eq_true rfl⟩ ⟨Nat.zero_le _, Nat.zero_le _⟩ rfl (Nat.le_of_ble_eq_true rfl) dX5_takesOne_51) hS (by intro q hq; omega) (fun r22 H19 locs q20 k21 hS => ?_)
          obtain ⟨e9, Ey18, hcy18, h1⟩ := q20
          rw [e9]
          refine lv_if_eq (tgt := 70) hx hb dX5_takesOne_54 (by decide) (fun c23 => ?_) (fun c23 => ?_)
          · have c23 : ¬ ((gE (f 0) n 2 (p + 1)).1 = true) := gB_0.mp c23
            refine lv_iconst (v := 0) hx hb dX5_takesOne_70 (by decide) ?_
            rw [← hQ]
            exact g_zret hx hb hr hlk rfl hS dX5_takesOne_71 (by rw [show gPF (f 0) n 3 p = (false, (gE (f 0) n 2 (p + 1)).2.1, (gE (f 0) n 2 (p + 1)).2.2) from by rw [gPF.eq_2, if_neg c6, if_pos c12, gE_e, if_neg c23]]; exact ⟨rfl, _, hcy18, h1⟩)
          · have c23 : (gE (f 0) n 2 (p + 1)).1 = true := gB_1.mp c23
            refine lv_aload_n hx hb dX5_takesOne_57 rfl (lv_at hl 0 rfl) ?_
            refine lv_bipush (v := 41) hx hb dX5_takesOne_58 (by decide) ?_
            refine g_ki (g_runV (T := TX5) (ci := 5) (N := 10) (rest := []) hx hb hml hown hE hT (c_X5_takesSign l G t f n hT9 Ey18 (gE (f 0) n 2 (p + 1)).2.1 (c + (gE (f 0) n 2 (p + 1)).2.2.length) wd rs (by omega) (by omega) 41) gM_X5_takesSign gm_X5_68 gi_X5_takesSign gs_RX5_yX5_takesSign_yX5_takesSign rfl (h1 0 _ rfl) h1 rfl hl.1 ⟨rfl, rfl⟩ ⟨Nat.le_of_ble_eq_true rfl, Nat.le_of_ble_eq_true rfl⟩ ⟨Nat.zero_le _, Nat.zero_le _⟩ rfl (Nat.le_of_ble_eq_true rfl) dX5_takesOne_60) hS (by intro q hq; omega) (fun r27 H24 locs q25 k26 hS => ?_)
            obtain ⟨e9, h1⟩ := q25
            rw [e9]
            refine lv_if_eq (tgt := 70) hx hb dX5_takesOne_63 (by decide) (fun c28 => ?_) (fun c28 => ?_)
            · have c28 : ¬ ((gE (f 0) n 2 (p + 1)).2.1 < n ∧ f 0 (gE (f 0) n 2 (p + 1)).2.1 = 41) := gB_0.mp c28
              rw [if_neg c28] at h1
              refine lv_iconst (v := 0) hx hb dX5_takesOne_70 (by decide) ?_
              rw [← hQ]
              exact g_zret hx hb hr hlk rfl hS dX5_takesOne_71 (by rw [show gPF (f 0) n 3 p = (false, (gE (f 0) n 2 (p + 1)).2.1, (gE (f 0) n 2 (p + 1)).2.2) from by rw [gPF.eq_2, if_neg c6, if_pos c12, gE_e, if_pos c23, if_neg c28]]; exact ⟨rfl, _, hcy18, h1⟩)
            · have c28 : (gE (f 0) n 2 (p + 1)).2.1 < n ∧ f 0 (gE (f 0) n 2 (p + 1)).2.1 = 41 := gB_1.mp c28
              rw [if_pos c28] at h1
              have ltc28 := c28.1
              refine lv_iconst (v := 1) hx hb dX5_takesOne_66 (by decide) ?_
              refine lv_goto (tgt := 71) hx hb dX5_takesOne_67 (by decide) ?_
              rw [← hQ]
              exact g_zret hx hb hr hlk rfl hS dX5_takesOne_71 (by rw [show gPF (f 0) n 3 p = (true, (gE (f 0) n 2 (p + 1)).2.1 + 1, (gE (f 0) n 2 (p + 1)).2.2) from by rw [gPF.eq_2, if_neg c6, if_pos c12, gE_e, if_pos c23, if_pos c28]]; exact ⟨rfl, _, hcy18, h1⟩)
    · have c6 : p < n ∧ f 0 p = 33 := gB_1.mp c6
      rw [if_pos c6] at h1
      have ltc6 := c6.1
      refine lv_aload_n hx hb dX5_takesOne_14 rfl (lv_at hl 0 rfl) ?_
      refine lv_iload_n hx hb dX5_takesOne_15 rfl (lv_at hl 1 rfl) ?_
      refine lv_iconst (v := 1) hx hb dX5_takesOne_16 (by decide) ?_
      refine lv_iadd hx hb dX5_takesOne_17 ?_
      rw [show (1 + 1 : Int32) = nI (1 + 1) from (gAdd rfl rfl)]
      have fy29 : p + 1 ≤ (gPF (f 0) n 2 (p + 1)).2.1 ∧ (gPF (f 0) n 2 (p + 1)).2.1 ≤ n ∧ (gPF (f 0) n 2 (p + 1)).2.2.length ≤ (gPF (f 0) n 2 (p + 1)).2.1 - (p + 1) := gPF_fit (f 0) n 2 (p + 1) (by omega)
      refine g_ki (g_runV (T := TX5) (ci := 5) (N := 10) (rest := []) hx hb hml hown hE hT (c_X5_takesOne_2 l G t f n hT9 E (p + 1) c wd rs (by omega) (by omega) htG) gM_X5_takesOne gm_X5_92 gi_X5_takesOne gs_RX5_yX5_takesOne_yX5_takesOne rfl (h1 0 _ rfl) ⟨(gOld_S hO hS (fun q9 hq9 => Nat.le_trans htG hq9.1)), h1⟩ rfl hl.1 ⟨rfl, rfl⟩ ⟨Nat.le_of_ble_eq_true rfl, Nat.le_of_ble_eq_true rfl⟩ ⟨Nat.zero_le _, Nat.zero_le _⟩ rfl (Nat.le_of_ble_eq_true rfl) dX5_takesOne_18) hS (by intro q hq; omega) (fun r33 H30 locs q31 k32 hS => ?_)
      obtain ⟨e9, Ey29, hcy29, h1⟩ := q31
      rw [e9]
      refine lv_if_ne (tgt := 26) hx hb dX5_takesOne_21 (by decide) (fun c34 => ?_) (fun c34 => ?_)
      · have c34 : (gPF (f 0) n 2 (p + 1)).1 = true := gB_1.mp c34
        refine lv_aload_n hx hb dX5_takesOne_26 rfl (lv_at hl 0 rfl) ?_
        refine lv_iconst (v := (-1)) hx hb dX5_takesOne_27 (by decide) ?_
        refine g_kv (g_runV (T := TX5) (ci := 5) (N := 10) (rest := []) hx hb hml hown hE hT (c_X5_adds l G t f n hT9 Ey29 (gPF (f 0) n 2 (p + 1)).2.1 (c + (gPF (f 0) n 2 (p + 1)).2.2.length) wd rs (by omega) (by omega) (-1) (by omega)) gM_X5_adds gm_X5_95 gi_X5_adds gs_RX5_yX5_adds_yX5_adds rfl (h1 0 _ rfl) h1 rfl hl.1 ⟨rfl, rfl⟩ ⟨Nat.le_of_ble_eq_true rfl, Nat.le_of_ble_eq_true rfl⟩ ⟨Nat.zero_le _, Nat.zero_le _⟩ rfl (Nat.le_of_ble_eq_true rfl) dX5_takesOne_28) hS (by intro q hq; omega) (fun H35 locs q36 k37 hS => ?_)
        have h1 := q36
        refine lv_iconst (v := 1) hx hb dX5_takesOne_31 (by decide) ?_
        rw [← hQ]
        exact g_zret hx hb hr hlk rfl hS dX5_takesOne_32 (by rw [show gPF (f 0) n 3 p = (true, (gPF (f 0) n 2 (p + 1)).2.1, (gPF (f 0) n 2 (p + 1)).2.2 ++ [0]) from by rw [gPF.eq_2, if_pos c6, if_pos c34]]; exact ⟨rfl, _, gCs_a (x := 0) (y := -1) hcy29 (by decide), by rw [List.length_append]; exact h1⟩)
      · have c34 : ¬ ((gPF (f 0) n 2 (p + 1)).1 = true) := gB_0.mp c34
        refine lv_iconst (v := 0) hx hb dX5_takesOne_24 (by decide) ?_
        rw [← hQ]
        exact g_zret hx hb hr hlk rfl hS dX5_takesOne_25 (by rw [show gPF (f 0) n 3 p = (false, (gPF (f 0) n 2 (p + 1)).2.1, (gPF (f 0) n 2 (p + 1)).2.2) from by rw [gPF.eq_2, if_pos c6, if_neg c34]]; exact ⟨rfl, _, hcy29, h1⟩)

set_option maxHeartbeats 4000000 in
set_option maxRecDepth 100000 in
theorem c_X5_takesEither_3 (l : Launch) (G : gW) (t : Nat) (f : gPS) (n : Nat) (hT9 : gTx (f 0) n) (E : Nat → Int32) (p c : Nat) (wd rs : Int32) (hp : p ≤ n) (hc : c + (n - p) ≤ 100) (htG : G.2.2.2.size ≤ t)  : gCI l yX5_takesEither cX5_takesEither 4 .boolean (gRm 14 304) G [.ref t, .int 1] (fun H => gOld G H ∧ gSg G t (gLL G t (gR (gR f 1 E) 5 (gS6 (nI n) (nI p) (nI c) wd rs))) H) (fun r H => r = gB ((gE (f 0) n 3 p).1 = true) ∧ ∃ E9 : Nat → Int32, gCs E c E9 (gE (f 0) n 3 p).2.2 ∧ gSg G t (gLL G t (gR (gR f 1 E9) 5 (gS6 (nI n) (nI (gE (f 0) n 3 p).2.1) (nI (c + ((gE (f 0) n 3 p).2.2).length)) wd rs))) H) (fun q => t ≤ q ∧ q < t + 6) := by
  refine g_start (by decide) (Nat.le_of_ble_eq_true rfl) ?_
  intro pp_ ee_ s mm_ aa_ below meth cc_ ls Q hQ hX hE hP hl
  obtain ⟨hx, hb, hr, hml, hown, hT, hlk, hnm⟩ := hX
  have hK := hE.2.1
  obtain ⟨hO, h1⟩ := hP
  have hS : va_S (fun q => t ≤ q ∧ q < t + 6) s.heap s.heap [] := va_S.rf
  have hl : lv_has ls 4 [(0, .ref t), (1, .int 1)] := hl
  have hn9 : n ≤ 100 := hT9.1
  have hJ := hE.2.2.2.2.2.2.now hO
  refine lv_iconst (v := 0) hx hb dX5_takesEither_0 (by decide) ?_
  refine lv_istore_n (lv' := [(2, .int 0), (0, .ref t), (1, .int 1)]) hx hb dX5_takesEither_1 rfl hl (by decide) rfl (fun ls hl => ?_)
  have loop : ∀ (m k q : Nat) (K : List Nat) (E9 : Nat → Int32), q ≤ n → n < q + m → p ≤ q → (k = 0 ∨ (k + 1 ≤ q - p ∧ K.length + 1 ≤ q - p)) → gE (f 0) n 3 p = (if (gT (f 0) n 3 q).1 = true then gTl (gT (f 0) n 3) (f 0) n 124 2 m (gT (f 0) n 3 q).2.1 (K ++ (gT (f 0) n 3 q).2.2 ++ (if k = 0 then [] else [2])) else (false, (gT (f 0) n 3 q).2.1, K ++ (gT (f 0) n 3 q).2.2)) → gCs E c E9 K → K.length ≤ q - p → ∀ (H : Heap) (locs : List Loc), gSg G t (gLL G t (gR (gR f 1 E9) 5 (gS6 (nI n) (nI q) (nI (c + K.length)) wd rs))) H → va_S (fun q => t ≤ q ∧ q < t + 6) s.heap H locs → ∀ ls, lv_has ls 4 [(0, .ref t), (1, .int 1), (2, .int (nI k))] → W pp_ l ee_ (gRm 14 304) s mm_ aa_ below meth cc_ H locs 0 0 Q (F0 mm_ 2 ls []) := by
    intro m
    induction m with
    | zero => intro k q K E9 hq hm; exact absurd hm (by omega)
    | succ m ih =>
      intro k q K E9 hq hm hpq hk1 hi hcd hKl H locs h1 hS ls hl
      refine lv_iload_n hx hb dX5_takesEither_2 rfl (lv_at hl 2 rfl) ?_
      refine lv_bipush (v := 100) hx hb dX5_takesEither_3 (by decide) ?_
      refine lv_icmp_ge (tgt := 84) hx hb dX5_takesEither_5 (by decide) (fun c1 => ?_) (fun c1 => ?_)
      · have c1 : 100 ≤ k := (gLe (a := 100) (b := k) rfl rfl (by omega) (by omega)).mp c1
        exact absurd c1 (by omega)
      · have c1 : ¬ 100 ≤ k := fun z => c1 ((gLe (a := 100) (b := k) rfl rfl (by omega) (by omega)).mpr z)
        refine lv_aload_n hx hb dX5_takesEither_8 rfl (lv_at hl 0 rfl) ?_
        refine lv_iload_n hx hb dX5_takesEither_9 rfl (lv_at hl 1 rfl) ?_
        have fy2 : q ≤ (gPF (f 0) n 3 q).2.1 ∧ (gPF (f 0) n 3 q).2.1 ≤ n ∧ (gPF (f 0) n 3 q).2.2.length ≤ (gPF (f 0) n 3 q).2.1 - q := gPF_fit (f 0) n 3 q (by omega)
        refine g_ki (g_runV (T := TX5) (ci := 5) (N := 10) (rest := []) hx hb hml hown hE hT (c_X5_takesOne_3 l G t f n hT9 E9 q (c + K.length) wd rs (by omega) (by omega) htG) gM_X5_takesOne gm_X5_92 gi_X5_takesOne gs_RX5_yX5_takesOne_yX5_takesOne rfl (h1 0 _ rfl) ⟨(gOld_S hO hS (fun q9 hq9 => Nat.le_trans htG hq9.1)), h1⟩ rfl hl.1 ⟨rfl, rfl⟩ ⟨Nat.le_of_ble_eq_true rfl, Nat.le_of_ble_eq_true rfl⟩ ⟨Nat.zero_le _, Nat.zero_le _⟩ rfl (Nat.le_of_ble_eq_true rfl) dX5_takesEither_10) hS (by intro q hq; omega) (fun r6 H3 locs q4 k5 hS => ?_)
        obtain ⟨e9, Ey2, hcy2, h1⟩ := q4
        rw [e9]
        refine lv_if_ne (tgt := 18) hx hb dX5_takesEither_13 (by decide) (fun c7 => ?_) (fun c7 => ?_)
        · have c7 : (gPF (f 0) n 3 q).1 = true := gB_1.mp c7
          refine lv_iconst (v := 0) hx hb dX5_takesEither_18 (by decide) ?_
          refine lv_istore_n (lv' := [(3, .int 0), (0, .ref t), (1, .int 1), (2, .int (nI k))]) hx hb dX5_takesEither_19 rfl hl (by decide) rfl (fun ls hl => ?_)
          have inner : ∀ (m2 x a : Nat) (J : List Nat) (E8 : Nat → Int32), a ≤ n → n < a + m2 → x + 1 ≤ a - q → (gT (f 0) n 3 q) = gTl (gPF (f 0) n 3) (f 0) n 38 1 m2 a J → gCs E c E8 (K ++ J) → J.length ≤ a - q → ∀ (H : Heap) (locs : List Loc), gSg G t (gLL G t (gR (gR f 1 E8) 5 (gS6 (nI n) (nI a) (nI (c + (K ++ J).length)) wd rs))) H → va_S (fun q => t ≤ q ∧ q < t + 6) s.heap H locs → ∀ ls, lv_has ls 4 [(0, .ref t), (1, .int 1), (2, .int (nI k)), (3, .int (nI x))] → W pp_ l ee_ (gRm 14 304) s mm_ aa_ below meth cc_ H locs 0 0 Q (F0 mm_ 20 ls []) := by
            intro m2
            induction m2 with
            | zero => intro x a J E8 ha hm2; exact absurd hm2 (by omega)
            | succ m2 ih2 =>
              intro x a J E8 ha hm2 hxa hJi hcd2 hJl H locs h1 hS ls hl
              have hKJ : (K ++ J).length = K.length + J.length := List.length_append
              refine lv_iload_n hx hb dX5_takesEither_20 rfl (lv_at hl 3 rfl) ?_
              refine lv_bipush (v := 100) hx hb dX5_takesEither_21 (by decide) ?_
              refine lv_icmp_ge (tgt := 57) hx hb dX5_takesEither_23 (by decide) (fun c8 => ?_) (fun c8 => ?_)
              · have c8 : 100 ≤ x := (gLe (a := 100) (b := x) rfl rfl (by omega) (by omega)).mp c8
                exact absurd c8 (by omega)
              · have c8 : ¬ 100 ≤ x := fun z => c8 ((gLe (a := 100) (b := x) rfl rfl (by omega) (by omega)).mpr z)
                refine lv_aload_n hx hb dX5_takesEither_26 rfl (lv_at hl 0 rfl) ?_
                refine lv_bipush (v := 38) hx hb dX5_takesEither_27 (by decide) ?_
                refine g_ki (g_runV (T := TX5) (ci := 5) (N := 10) (rest := []) hx hb hml hown hE hT (c_X5_takesSign l G t f n hT9 E8 a (c + (K ++ J).length) wd rs (by omega) (by omega) 38) gM_X5_takesSign gm_X5_68 gi_X5_takesSign gs_RX5_yX5_takesSign_yX5_takesSign rfl (h1 0 _ rfl) h1 rfl hl.1 ⟨rfl, rfl⟩ ⟨Nat.le_of_ble_eq_true rfl, Nat.le_of_ble_eq_true rfl⟩ ⟨Nat.zero_le _, Nat.zero_le _⟩ rfl (Nat.le_of_ble_eq_true rfl) dX5_takesEither_29) hS (by intro q hq; omega) (fun r12 H9 locs q10 k11 hS => ?_)
                obtain ⟨e9, h1⟩ := q10
                rw [e9]
                refine lv_if_eq (tgt := 57) hx hb dX5_takesEither_32 (by decide) (fun c13 => ?_) (fun c13 => ?_)
                · have c13 : ¬ (a < n ∧ f 0 a = 38) := gB_0.mp c13
                  rw [if_neg c13] at h1
                  have hTq : (gT (f 0) n 3 q) = (true, a, J) := by rw [hJi, gTl, if_neg c13]
                  rw [hTq] at hi
                  refine lv_iload_n hx hb dX5_takesEither_57 rfl (lv_at hl 2 rfl) ?_
                  refine lv_if_le (tgt := 67) hx hb dX5_takesEither_58 (by decide) (fun c14 => ?_) (fun c14 => ?_)
                  · have c14 : k ≤ 0 := (gLe (a := k) (b := 0) rfl rfl (by omega) (by omega)).mp c14
                    refine lv_aload_n hx hb dX5_takesEither_67 rfl (lv_at hl 0 rfl) ?_
                    refine lv_bipush (v := 124) hx hb dX5_takesEither_68 (by decide) ?_
                    refine g_ki (g_runV (T := TX5) (ci := 5) (N := 10) (rest := []) hx hb hml hown hE hT (c_X5_takesSign l G t f n hT9 E8 a (c + (K ++ J).length) wd rs (by omega) (by omega) 124) gM_X5_takesSign gm_X5_68 gi_X5_takesSign gs_RX5_yX5_takesSign_yX5_takesSign rfl (h1 0 _ rfl) h1 rfl hl.1 ⟨rfl, rfl⟩ ⟨Nat.le_of_ble_eq_true rfl, Nat.le_of_ble_eq_true rfl⟩ ⟨Nat.zero_le _, Nat.zero_le _⟩ rfl (Nat.le_of_ble_eq_true rfl) dX5_takesEither_70) hS (by intro q hq; omega) (fun r18 H15 locs q16 k17 hS => ?_)
                    obtain ⟨e9, h1⟩ := q16
                    rw [e9]
                    refine lv_if_ne (tgt := 78) hx hb dX5_takesEither_73 (by decide) (fun c19 => ?_) (fun c19 => ?_)
                    · have c19 : a < n ∧ f 0 a = 124 := gB_1.mp c19
                      rw [if_pos c19] at h1
                      have ltc19 := c19.1
                      refine lv_iinc (v := nI (k + 1)) (lv' := [(2, .int (nI (k + 1))), (0, .ref t), (1, .int 1), (3, .int (nI x))]) hx hb dX5_takesEither_78 hl (k := 2) rfl (gAdd rfl (show Int32.ofInt 1 = nI 1 from rfl)) (by decide) rfl (fun ls hl => ?_)
                      refine lv_goto (tgt := 2) hx hb dX5_takesEither_81 (by decide) ?_
                      have hi2 : gE (f 0) n 3 p = (if (gT (f 0) n 3 (a + 1)).1 = true then gTl (gT (f 0) n 3) (f 0) n 124 2 m (gT (f 0) n 3 (a + 1)).2.1 ((K ++ J ++ []) ++ (gT (f 0) n 3 (a + 1)).2.2 ++ (if k + 1 = 0 then [] else [2])) else (false, (gT (f 0) n 3 (a + 1)).2.1, (K ++ J ++ []) ++ (gT (f 0) n 3 (a + 1)).2.2)) := by rw [hi]; show gTl (gT (f 0) n 3) (f 0) n 124 2 (m + 1) a (K ++ J ++ (if k = 0 then [] else [2])) = _; rw [if_pos (show k = 0 from by omega), gTl, if_pos c19, if_neg (Nat.succ_ne_zero k)]
                      have h1 : gSg G t (gLL G t (gR (gR f 1 E8) 5 (gS6 (nI n) (nI (a + 1)) (nI (c + (K ++ J ++ []).length)) wd rs))) H15 := by rw [List.append_nil]; exact h1
                      exact ih (k + 1) (a + 1) (K ++ J ++ []) _ (by omega) (by omega) (by omega) (Or.inr ⟨by omega, by first | omega | (simp only [List.length_append, List.length_cons, List.length_nil]; omega)⟩) hi2 (by rw [List.append_nil]; exact hcd2) (by simp only [List.length_append, List.length_cons, List.length_nil]; omega) _ _ h1 hS _ (lv_sub hl [1, 2, 0] rfl)
                    · have c19 : ¬ (a < n ∧ f 0 a = 124) := gB_0.mp c19
                      rw [if_neg c19] at h1
                      refine lv_iconst (v := 1) hx hb dX5_takesEither_76 (by decide) ?_
                      have hR9 : gE (f 0) n 3 p = (true, a, K ++ J ++ []) := by rw [hi]; show gTl (gT (f 0) n 3) (f 0) n 124 2 (m + 1) a (K ++ J ++ (if k = 0 then [] else [2])) = _; rw [if_pos (show k = 0 from by omega), gTl, if_neg c19]
                      rw [← hQ]
                      exact g_zret hx hb hr hlk rfl hS dX5_takesEither_77 (by rw [hR9, List.append_nil]; exact ⟨rfl, _, hcd2, h1⟩)
                  · have c14 : ¬ k ≤ 0 := fun z => c14 ((gLe (a := k) (b := 0) rfl rfl (by omega) (by omega)).mpr z)
                    refine lv_aload_n hx hb dX5_takesEither_61 rfl (lv_at hl 0 rfl) ?_
                    refine lv_bipush (v := (-3)) hx hb dX5_takesEither_62 (by decide) ?_
                    refine g_kv (g_runV (T := TX5) (ci := 5) (N := 10) (rest := []) hx hb hml hown hE hT (c_X5_adds l G t f n hT9 E8 a (c + (K ++ J).length) wd rs (by omega) (by omega) (-3) (by omega)) gM_X5_adds gm_X5_95 gi_X5_adds gs_RX5_yX5_adds_yX5_adds rfl (h1 0 _ rfl) h1 rfl hl.1 ⟨rfl, rfl⟩ ⟨Nat.le_of_ble_eq_true rfl, Nat.le_of_ble_eq_true rfl⟩ ⟨Nat.zero_le _, Nat.zero_le _⟩ rfl (Nat.le_of_ble_eq_true rfl) dX5_takesEither_64) hS (by intro q hq; omega) (fun H20 locs q21 k22 hS => ?_)
                    have h1 := q21
                    refine lv_aload_n hx hb dX5_takesEither_67 rfl (lv_at hl 0 rfl) ?_
                    refine lv_bipush (v := 124) hx hb dX5_takesEither_68 (by decide) ?_
                    refine g_ki (g_runV (T := TX5) (ci := 5) (N := 10) (rest := []) hx hb hml hown hE hT (c_X5_takesSign l G t f n hT9 (upd E8 (c + (K ++ J).length) (-3)) a (c + (K ++ J).length + 1) wd rs (by omega) (by omega) 124) gM_X5_takesSign gm_X5_68 gi_X5_takesSign gs_RX5_yX5_takesSign_yX5_takesSign rfl (h1 0 _ rfl) h1 rfl hl.1 ⟨rfl, rfl⟩ ⟨Nat.le_of_ble_eq_true rfl, Nat.le_of_ble_eq_true rfl⟩ ⟨Nat.zero_le _, Nat.zero_le _⟩ rfl (Nat.le_of_ble_eq_true rfl) dX5_takesEither_70) hS (by intro q hq; omega) (fun r27 H24 locs q25 k26 hS => ?_)
                    obtain ⟨e9, h1⟩ := q25
                    rw [e9]
                    refine lv_if_ne (tgt := 78) hx hb dX5_takesEither_73 (by decide) (fun c28 => ?_) (fun c28 => ?_)
                    · have c28 : a < n ∧ f 0 a = 124 := gB_1.mp c28
                      rw [if_pos c28] at h1
                      have ltc28 := c28.1
                      refine lv_iinc (v := nI (k + 1)) (lv' := [(2, .int (nI (k + 1))), (0, .ref t), (1, .int 1), (3, .int (nI x))]) hx hb dX5_takesEither_78 hl (k := 2) rfl (gAdd rfl (show Int32.ofInt 1 = nI 1 from rfl)) (by decide) rfl (fun ls hl => ?_)
                      refine lv_goto (tgt := 2) hx hb dX5_takesEither_81 (by decide) ?_
                      have hi2 : gE (f 0) n 3 p = (if (gT (f 0) n 3 (a + 1)).1 = true then gTl (gT (f 0) n 3) (f 0) n 124 2 m (gT (f 0) n 3 (a + 1)).2.1 ((K ++ J ++ [2]) ++ (gT (f 0) n 3 (a + 1)).2.2 ++ (if k + 1 = 0 then [] else [2])) else (false, (gT (f 0) n 3 (a + 1)).2.1, (K ++ J ++ [2]) ++ (gT (f 0) n 3 (a + 1)).2.2)) := by rw [hi]; show gTl (gT (f 0) n 3) (f 0) n 124 2 (m + 1) a (K ++ J ++ (if k = 0 then [] else [2])) = _; rw [if_neg (show ¬ k = 0 from by omega), gTl, if_pos c28, if_neg (Nat.succ_ne_zero k)]
                      have hl9 : (K ++ J ++ [2]).length = (K ++ J).length + 1 := List.length_append
                      have h1 : gSg G t (gLL G t (gR (gR f 1 (upd E8 (c + (K ++ J).length) (-3))) 5 (gS6 (nI n) (nI (a + 1)) (nI (c + (K ++ J ++ [2]).length)) wd rs))) H24 := by rw [hl9, ← Nat.add_assoc]; exact h1
                      exact ih (k + 1) (a + 1) (K ++ J ++ [2]) _ (by omega) (by omega) (by omega) (Or.inr ⟨by omega, by first | omega | (simp only [List.length_append, List.length_cons, List.length_nil]; omega)⟩) hi2 (gCs_a (x := 2) (y := -3) hcd2 (by decide)) (by simp only [List.length_append, List.length_cons, List.length_nil]; omega) _ _ h1 hS _ (lv_sub hl [1, 2, 0] rfl)
                    · have c28 : ¬ (a < n ∧ f 0 a = 124) := gB_0.mp c28
                      rw [if_neg c28] at h1
                      refine lv_iconst (v := 1) hx hb dX5_takesEither_76 (by decide) ?_
                      have hR9 : gE (f 0) n 3 p = (true, a, K ++ J ++ [2]) := by rw [hi]; show gTl (gT (f 0) n 3) (f 0) n 124 2 (m + 1) a (K ++ J ++ (if k = 0 then [] else [2])) = _; rw [if_neg (show ¬ k = 0 from by omega), gTl, if_neg c28]
                      have hl9 : (K ++ J ++ [2]).length = (K ++ J).length + 1 := List.length_append
                      have h1 : gSg G t (gLL G t (gR (gR f 1 (upd E8 (c + (K ++ J).length) (-3))) 5 (gS6 (nI n) (nI a) (nI (c + (K ++ J ++ [2]).length)) wd rs))) H24 := by rw [hl9, ← Nat.add_assoc]; exact h1
                      rw [← hQ]
                      exact g_zret hx hb hr hlk rfl hS dX5_takesEither_77 (by rw [hR9]; exact ⟨rfl, _, gCs_a (x := 2) (y := -3) hcd2 (by decide), h1⟩)
                · have c13 : a < n ∧ f 0 a = 38 := gB_1.mp c13
                  rw [if_pos c13] at h1
                  have ltc13 := c13.1
                  refine lv_aload_n hx hb dX5_takesEither_35 rfl (lv_at hl 0 rfl) ?_
                  refine lv_iload_n hx hb dX5_takesEither_36 rfl (lv_at hl 1 rfl) ?_
                  have fy29 : a + 1 ≤ (gPF (f 0) n 3 (a + 1)).2.1 ∧ (gPF (f 0) n 3 (a + 1)).2.1 ≤ n ∧ (gPF (f 0) n 3 (a + 1)).2.2.length ≤ (gPF (f 0) n 3 (a + 1)).2.1 - (a + 1) := gPF_fit (f 0) n 3 (a + 1) (by omega)
                  refine g_ki (g_runV (T := TX5) (ci := 5) (N := 10) (rest := []) hx hb hml hown hE hT (c_X5_takesOne_3 l G t f n hT9 E8 (a + 1) (c + (K ++ J).length) wd rs (by omega) (by omega) htG) gM_X5_takesOne gm_X5_92 gi_X5_takesOne gs_RX5_yX5_takesOne_yX5_takesOne rfl (h1 0 _ rfl) ⟨(gOld_S hO hS (fun q9 hq9 => Nat.le_trans htG hq9.1)), h1⟩ rfl hl.1 ⟨rfl, rfl⟩ ⟨Nat.le_of_ble_eq_true rfl, Nat.le_of_ble_eq_true rfl⟩ ⟨Nat.zero_le _, Nat.zero_le _⟩ rfl (Nat.le_of_ble_eq_true rfl) dX5_takesEither_37) hS (by intro q hq; omega) (fun r33 H30 locs q31 k32 hS => ?_)
                  obtain ⟨e9, Ey29, hcy29, h1⟩ := q31
                  rw [e9]
                  refine lv_if_ne (tgt := 45) hx hb dX5_takesEither_40 (by decide) (fun c34 => ?_) (fun c34 => ?_)
                  · have c34 : (gPF (f 0) n 3 (a + 1)).1 = true := gB_1.mp c34
                    refine lv_aload_n hx hb dX5_takesEither_45 rfl (lv_at hl 0 rfl) ?_
                    refine lv_bipush (v := (-2)) hx hb dX5_takesEither_46 (by decide) ?_
                    refine g_kv (g_runV (T := TX5) (ci := 5) (N := 10) (rest := []) hx hb hml hown hE hT (c_X5_adds l G t f n hT9 Ey29 (gPF (f 0) n 3 (a + 1)).2.1 (c + (K ++ J).length + (gPF (f 0) n 3 (a + 1)).2.2.length) wd rs (by omega) (by omega) (-2) (by omega)) gM_X5_adds gm_X5_95 gi_X5_adds gs_RX5_yX5_adds_yX5_adds rfl (h1 0 _ rfl) h1 rfl hl.1 ⟨rfl, rfl⟩ ⟨Nat.le_of_ble_eq_true rfl, Nat.le_of_ble_eq_true rfl⟩ ⟨Nat.zero_le _, Nat.zero_le _⟩ rfl (Nat.le_of_ble_eq_true rfl) dX5_takesEither_48) hS (by intro q hq; omega) (fun H35 locs q36 k37 hS => ?_)
                    have h1 := q36
                    refine lv_iinc (v := nI (x + 1)) (lv' := [(3, .int (nI (x + 1))), (0, .ref t), (1, .int 1), (2, .int (nI k))]) hx hb dX5_takesEither_51 hl (k := 3) rfl (gAdd rfl (show Int32.ofInt 1 = nI 1 from rfl)) (by decide) rfl (fun ls hl => ?_)
                    refine lv_goto (tgt := 20) hx hb dX5_takesEither_54 (by decide) ?_
                    have hl9 : (K ++ (J ++ (gPF (f 0) n 3 (a + 1)).2.2 ++ [1])).length = (K ++ J).length + (gPF (f 0) n 3 (a + 1)).2.2.length + 1 := by simp only [List.length_append, List.length_cons, List.length_nil] <;> omega
                    have h1 : gSg G t (gLL G t (gR (gR f 1 (upd Ey29 (c + (K ++ J).length + (gPF (f 0) n 3 (a + 1)).2.2.length) (-2))) 5 (gS6 (nI n) (nI (gPF (f 0) n 3 (a + 1)).2.1) (nI (c + (K ++ (J ++ (gPF (f 0) n 3 (a + 1)).2.2 ++ [1])).length)) wd rs))) H35 := by rw [hl9, ← Nat.add_assoc, ← Nat.add_assoc]; exact h1
                    exact ih2 (x + 1) (gPF (f 0) n 3 (a + 1)).2.1 (J ++ (gPF (f 0) n 3 (a + 1)).2.2 ++ [1]) _ (by omega) (by omega) (by omega) (by rw [hJi, gTl, if_pos c13, if_pos c34]) (by have q9 := gCs_a (x := 1) (y := -2) (gCs_t hcd2 hcy29) (by decide); rw [List.length_append, ← Nat.add_assoc] at q9; rw [← List.append_assoc, ← List.append_assoc]; exact q9) (by simp only [List.length_append, List.length_cons, List.length_nil]; omega) _ _ h1 hS _ (lv_sub hl [1, 2, 3, 0] rfl)
                  · have c34 : ¬ ((gPF (f 0) n 3 (a + 1)).1 = true) := gB_0.mp c34
                    refine lv_iconst (v := 0) hx hb dX5_takesEither_43 (by decide) ?_
                    rw [← hQ]
                    exact g_zret hx hb hr hlk rfl hS dX5_takesEither_44 (by rw [show gE (f 0) n 3 p = (false, (gPF (f 0) n 3 (a + 1)).2.1, K ++ (J ++ (gPF (f 0) n 3 (a + 1)).2.2)) from by rw [hi, show (gT (f 0) n 3 q) = (false, (gPF (f 0) n 3 (a + 1)).2.1, J ++ (gPF (f 0) n 3 (a + 1)).2.2) from by rw [hJi, gTl, if_pos c13, if_neg c34]]; rfl]; exact ⟨rfl, _, by rw [← List.append_assoc]; exact gCs_t hcd2 hcy29, by rw [← List.append_assoc, List.length_append, ← Nat.add_assoc]; exact h1⟩)
          have hKJ0 : gT (f 0) n 3 q = gTl (gPF (f 0) n 3) (f 0) n 38 1 (n + 1) (gPF (f 0) n 3 q).2.1 (gPF (f 0) n 3 q).2.2 := by rw [gT, gPT, if_pos c7]
          have pos1 := gPF_pos (t := f 0) hq 3 c7
          have h1 : gSg G t (gLL G t (gR (gR f 1 Ey2) 5 (gS6 (nI n) (nI (gPF (f 0) n 3 q).2.1) (nI (c + (K ++ (gPF (f 0) n 3 q).2.2).length)) wd rs))) H3 := by rw [List.length_append, ← Nat.add_assoc]; exact h1
          exact inner (n + 1) 0 (gPF (f 0) n 3 q).2.1 (gPF (f 0) n 3 q).2.2 _ (by omega) (by omega) (by omega) hKJ0 (gCs_t hcd hcy2) (by omega) _ _ h1 hS _ (lv_sub hl [1, 2, 3, 0] rfl)
        · have c7 : ¬ ((gPF (f 0) n 3 q).1 = true) := gB_0.mp c7
          refine lv_iconst (v := 0) hx hb dX5_takesEither_16 (by decide) ?_
          rw [← hQ]
          exact g_zret hx hb hr hlk rfl hS dX5_takesEither_17 (by rw [show gE (f 0) n 3 p = (false, (gPF (f 0) n 3 q).2.1, K ++ (gPF (f 0) n 3 q).2.2) from by rw [hi, show (gT (f 0) n 3 q) = (false, (gPF (f 0) n 3 q).2.1, (gPF (f 0) n 3 q).2.2) from by rw [gT, gPT, if_neg c7]]; rfl]; exact ⟨rfl, _, gCs_t hcd hcy2, by rw [List.length_append, ← Nat.add_assoc]; exact h1⟩)
  exact loop (n + 1) 0 p [] E (by omega) (by omega) (by omega) (Or.inl rfl) (by rw [gE, gPT, if_pos (rfl : (0 : Nat) = 0), List.append_nil, List.nil_append]) gCs_0 (by simp) _ _ h1 hS _ (lv_sub hl [1, 2, 0] rfl)

set_option maxHeartbeats 4000000 in
set_option maxRecDepth 100000 in
theorem c_X5_takesOne_4 (l : Launch) (G : gW) (t : Nat) (f : gPS) (n : Nat) (hT9 : gTx (f 0) n) (E : Nat → Int32) (p c : Nat) (wd rs : Int32) (hp : p ≤ n) (hc : c + (n - p) ≤ 100) (htG : G.2.2.2.size ≤ t)  : gCI l yX5_takesOne cX5_takesOne 2 .boolean (gRm 15 327) G [.ref t, .int 0] (fun H => gOld G H ∧ gSg G t (gLL G t (gR (gR f 1 E) 5 (gS6 (nI n) (nI p) (nI c) wd rs))) H) (fun r H => r = gB ((gPF (f 0) n 4 p).1 = true) ∧ ∃ E9 : Nat → Int32, gCs E c E9 (gPF (f 0) n 4 p).2.2 ∧ gSg G t (gLL G t (gR (gR f 1 E9) 5 (gS6 (nI n) (nI (gPF (f 0) n 4 p).2.1) (nI (c + ((gPF (f 0) n 4 p).2.2).length)) wd rs))) H) (fun q => t ≤ q ∧ q < t + 6) := by
  refine g_start (by decide) (Nat.le_of_ble_eq_true rfl) ?_
  intro pp_ ee_ s mm_ aa_ below meth cc_ ls Q hQ hX hE hP hl
  obtain ⟨hx, hb, hr, hml, hown, hT, hlk, hnm⟩ := hX
  have hK := hE.2.1
  obtain ⟨hO, h1⟩ := hP
  have hS : va_S (fun q => t ≤ q ∧ q < t + 6) s.heap s.heap [] := va_S.rf
  have hl : lv_has ls 2 [(0, .ref t), (1, .int 0)] := hl
  have hn9 : n ≤ 100 := hT9.1
  have hJ := hE.2.2.2.2.2.2.now hO
  refine lv_iload_n hx hb dX5_takesOne_0 rfl (lv_at hl 1 rfl) ?_
  refine lv_iconst (v := 4) hx hb dX5_takesOne_1 (by decide) ?_
  refine lv_icmp_ge (tgt := 33) hx hb dX5_takesOne_2 (by decide) (fun c1 => ?_) (fun c1 => ?_)
  · exact absurd c1 (by decide)
  · refine lv_aload_n hx hb dX5_takesOne_5 rfl (lv_at hl 0 rfl) ?_
    refine lv_bipush (v := 33) hx hb dX5_takesOne_6 (by decide) ?_
    refine g_ki (g_runV (T := TX5) (ci := 5) (N := 10) (rest := []) hx hb hml hown hE hT (c_X5_takesSign l G t f n hT9 E p c wd rs (by omega) (by omega) 33) gM_X5_takesSign gm_X5_68 gi_X5_takesSign gs_RX5_yX5_takesSign_yX5_takesSign rfl (h1 0 _ rfl) h1 rfl hl.1 ⟨rfl, rfl⟩ ⟨Nat.le_of_ble_eq_true rfl, Nat.le_of_ble_eq_true rfl⟩ ⟨Nat.zero_le _, Nat.zero_le _⟩ rfl (Nat.le_of_ble_eq_true rfl) dX5_takesOne_8) hS (by intro q hq; omega) (fun r5 H2 locs q3 k4 hS => ?_)
    obtain ⟨e9, h1⟩ := q3
    rw [e9]
    refine lv_if_eq (tgt := 33) hx hb dX5_takesOne_11 (by decide) (fun c6 => ?_) (fun c6 => ?_)
    · have c6 : ¬ (p < n ∧ f 0 p = 33) := gB_0.mp c6
      rw [if_neg c6] at h1
      refine lv_iload_n hx hb dX5_takesOne_33 rfl (lv_at hl 1 rfl) ?_
      refine lv_iconst (v := 4) hx hb dX5_takesOne_34 (by decide) ?_
      refine lv_icmp_ge (tgt := 72) hx hb dX5_takesOne_35 (by decide) (fun c7 => ?_) (fun c7 => ?_)
      · exact absurd c7 (by decide)
      · refine lv_aload_n hx hb dX5_takesOne_38 rfl (lv_at hl 0 rfl) ?_
        refine lv_bipush (v := 40) hx hb dX5_takesOne_39 (by decide) ?_
        refine g_ki (g_runV (T := TX5) (ci := 5) (N := 10) (rest := []) hx hb hml hown hE hT (c_X5_takesSign l G t f n hT9 E p c wd rs (by omega) (by omega) 40) gM_X5_takesSign gm_X5_68 gi_X5_takesSign gs_RX5_yX5_takesSign_yX5_takesSign rfl (h1 0 _ rfl) h1 rfl hl.1 ⟨rfl, rfl⟩ ⟨Nat.le_of_ble_eq_true rfl, Nat.le_of_ble_eq_true rfl⟩ ⟨Nat.zero_le _, Nat.zero_le _⟩ rfl (Nat.le_of_ble_eq_true rfl) dX5_takesOne_41) hS (by intro q hq; omega) (fun r11 H8 locs q9 k10 hS => ?_)
        obtain ⟨e9, h1⟩ := q9
        rw [e9]
        refine lv_if_eq (tgt := 72) hx hb dX5_takesOne_44 (by decide) (fun c12 => ?_) (fun c12 => ?_)
        · have c12 : ¬ (p < n ∧ f 0 p = 40) := gB_0.mp c12
          rw [if_neg c12] at h1
          refine lv_aload_n hx hb dX5_takesOne_72 rfl (lv_at hl 0 rfl) ?_
          have fy13 : p ≤ (gTe (f 0) n p).2.1 ∧ (gTe (f 0) n p).2.1 ≤ n ∧ (gTe (f 0) n p).2.2.length ≤ (gTe (f 0) n p).2.1 - p := gTe_fit (f 0) n p (by omega)
          refine g_ki (g_runV (T := TX5) (ci := 5) (N := 10) (rest := []) hx hb hml hown hE hT (c_X5_takesTest l G t f n hT9 E p c wd rs (by omega) (by omega) htG) gM_X5_takesTest gm_X5_99 gi_X5_takesTest gs_RX5_yX5_takesTest_yX5_takesTest rfl (h1 0 _ rfl) ⟨(gOld_S hO hS (fun q9 hq9 => Nat.le_trans htG hq9.1)), h1⟩ rfl hl.1 ⟨rfl, rfl⟩ ⟨Nat.le_of_ble_eq_true rfl, Nat.le_of_ble_eq_true rfl⟩ ⟨Nat.zero_le _, Nat.zero_le _⟩ rfl (Nat.le_of_ble_eq_true rfl) dX5_takesOne_73) hS (by intro q hq; omega) (fun r17 H14 locs q15 k16 hS => ?_)
          obtain ⟨e9, Ey13, hcy13, h1⟩ := q15
          rw [e9]
          rw [← hQ]
          exact g_zret hx hb hr hlk gB_n hS dX5_takesOne_76 (by rw [show gPF (f 0) n 4 p = gTe (f 0) n p from by rw [gPF.eq_2, if_neg c6, if_neg c12]]; exact ⟨rfl, _, hcy13, h1⟩)
        · have c12 : p < n ∧ f 0 p = 40 := gB_1.mp c12
          rw [if_pos c12] at h1
          have ltc12 := c12.1
          refine lv_aload_n hx hb dX5_takesOne_47 rfl (lv_at hl 0 rfl) ?_
          refine lv_iload_n hx hb dX5_takesOne_48 rfl (lv_at hl 1 rfl) ?_
          refine lv_iconst (v := 1) hx hb dX5_takesOne_49 (by decide) ?_
          refine lv_iadd hx hb dX5_takesOne_50 ?_
          rw [show (0 + 1 : Int32) = nI (0 + 1) from (gAdd rfl rfl)]
          have fy18 : p + 1 ≤ (gE (f 0) n 3 (p + 1)).2.1 ∧ (gE (f 0) n 3 (p + 1)).2.1 ≤ n ∧ (gE (f 0) n 3 (p + 1)).2.2.length ≤ (gE (f 0) n 3 (p + 1)).2.1 - (p + 1) := gE_fit (f 0) n 3 (p + 1) (by omega)
          refine g_ki (g_runV (T := TX5) (ci := 5) (N := 10) (rest := []) hx hb hml hown hE hT (c_X5_takesEither_3 l G t f n hT9 E (p + 1) c wd rs (by omega) (by omega) htG) gM_X5_takesEither gm_X5_88 gi_X5_takesEither gs_RX5_yX5_takesEither_yX5_takesEither rfl (h1 0 _ rfl) ⟨(gOld_S hO hS (fun q9 hq9 => Nat.le_trans htG hq9.1)), h1⟩ rfl hl.1 ⟨rfl, rfl⟩ ⟨Nat.le_of_ble_eq_true rfl, Nat.le_of_ble_eq_true rfl⟩ ⟨Nat.zero_le _, Nat.zero_le _⟩ rfl (Nat.le_of_ble_eq_true rfl) dX5_takesOne_51) hS (by intro q hq; omega) (fun r22 H19 locs q20 k21 hS => ?_)
          obtain ⟨e9, Ey18, hcy18, h1⟩ := q20
          rw [e9]
          refine lv_if_eq (tgt := 70) hx hb dX5_takesOne_54 (by decide) (fun c23 => ?_) (fun c23 => ?_)
          · have c23 : ¬ ((gE (f 0) n 3 (p + 1)).1 = true) := gB_0.mp c23
            refine lv_iconst (v := 0) hx hb dX5_takesOne_70 (by decide) ?_
            rw [← hQ]
            exact g_zret hx hb hr hlk rfl hS dX5_takesOne_71 (by rw [show gPF (f 0) n 4 p = (false, (gE (f 0) n 3 (p + 1)).2.1, (gE (f 0) n 3 (p + 1)).2.2) from by rw [gPF.eq_2, if_neg c6, if_pos c12, gE_e, if_neg c23]]; exact ⟨rfl, _, hcy18, h1⟩)
          · have c23 : (gE (f 0) n 3 (p + 1)).1 = true := gB_1.mp c23
            refine lv_aload_n hx hb dX5_takesOne_57 rfl (lv_at hl 0 rfl) ?_
            refine lv_bipush (v := 41) hx hb dX5_takesOne_58 (by decide) ?_
            refine g_ki (g_runV (T := TX5) (ci := 5) (N := 10) (rest := []) hx hb hml hown hE hT (c_X5_takesSign l G t f n hT9 Ey18 (gE (f 0) n 3 (p + 1)).2.1 (c + (gE (f 0) n 3 (p + 1)).2.2.length) wd rs (by omega) (by omega) 41) gM_X5_takesSign gm_X5_68 gi_X5_takesSign gs_RX5_yX5_takesSign_yX5_takesSign rfl (h1 0 _ rfl) h1 rfl hl.1 ⟨rfl, rfl⟩ ⟨Nat.le_of_ble_eq_true rfl, Nat.le_of_ble_eq_true rfl⟩ ⟨Nat.zero_le _, Nat.zero_le _⟩ rfl (Nat.le_of_ble_eq_true rfl) dX5_takesOne_60) hS (by intro q hq; omega) (fun r27 H24 locs q25 k26 hS => ?_)
            obtain ⟨e9, h1⟩ := q25
            rw [e9]
            refine lv_if_eq (tgt := 70) hx hb dX5_takesOne_63 (by decide) (fun c28 => ?_) (fun c28 => ?_)
            · have c28 : ¬ ((gE (f 0) n 3 (p + 1)).2.1 < n ∧ f 0 (gE (f 0) n 3 (p + 1)).2.1 = 41) := gB_0.mp c28
              rw [if_neg c28] at h1
              refine lv_iconst (v := 0) hx hb dX5_takesOne_70 (by decide) ?_
              rw [← hQ]
              exact g_zret hx hb hr hlk rfl hS dX5_takesOne_71 (by rw [show gPF (f 0) n 4 p = (false, (gE (f 0) n 3 (p + 1)).2.1, (gE (f 0) n 3 (p + 1)).2.2) from by rw [gPF.eq_2, if_neg c6, if_pos c12, gE_e, if_pos c23, if_neg c28]]; exact ⟨rfl, _, hcy18, h1⟩)
            · have c28 : (gE (f 0) n 3 (p + 1)).2.1 < n ∧ f 0 (gE (f 0) n 3 (p + 1)).2.1 = 41 := gB_1.mp c28
              rw [if_pos c28] at h1
              have ltc28 := c28.1
              refine lv_iconst (v := 1) hx hb dX5_takesOne_66 (by decide) ?_
              refine lv_goto (tgt := 71) hx hb dX5_takesOne_67 (by decide) ?_
              rw [← hQ]
              exact g_zret hx hb hr hlk rfl hS dX5_takesOne_71 (by rw [show gPF (f 0) n 4 p = (true, (gE (f 0) n 3 (p + 1)).2.1 + 1, (gE (f 0) n 3 (p + 1)).2.2) from by rw [gPF.eq_2, if_neg c6, if_pos c12, gE_e, if_pos c23, if_pos c28]]; exact ⟨rfl, _, hcy18, h1⟩)
    · have c6 : p < n ∧ f 0 p = 33 := gB_1.mp c6
      rw [if_pos c6] at h1
      have ltc6 := c6.1
      refine lv_aload_n hx hb dX5_takesOne_14 rfl (lv_at hl 0 rfl) ?_
      refine lv_iload_n hx hb dX5_takesOne_15 rfl (lv_at hl 1 rfl) ?_
      refine lv_iconst (v := 1) hx hb dX5_takesOne_16 (by decide) ?_
      refine lv_iadd hx hb dX5_takesOne_17 ?_
      rw [show (0 + 1 : Int32) = nI (0 + 1) from (gAdd rfl rfl)]
      have fy29 : p + 1 ≤ (gPF (f 0) n 3 (p + 1)).2.1 ∧ (gPF (f 0) n 3 (p + 1)).2.1 ≤ n ∧ (gPF (f 0) n 3 (p + 1)).2.2.length ≤ (gPF (f 0) n 3 (p + 1)).2.1 - (p + 1) := gPF_fit (f 0) n 3 (p + 1) (by omega)
      refine g_ki (g_runV (T := TX5) (ci := 5) (N := 10) (rest := []) hx hb hml hown hE hT (c_X5_takesOne_3 l G t f n hT9 E (p + 1) c wd rs (by omega) (by omega) htG) gM_X5_takesOne gm_X5_92 gi_X5_takesOne gs_RX5_yX5_takesOne_yX5_takesOne rfl (h1 0 _ rfl) ⟨(gOld_S hO hS (fun q9 hq9 => Nat.le_trans htG hq9.1)), h1⟩ rfl hl.1 ⟨rfl, rfl⟩ ⟨Nat.le_of_ble_eq_true rfl, Nat.le_of_ble_eq_true rfl⟩ ⟨Nat.zero_le _, Nat.zero_le _⟩ rfl (Nat.le_of_ble_eq_true rfl) dX5_takesOne_18) hS (by intro q hq; omega) (fun r33 H30 locs q31 k32 hS => ?_)
      obtain ⟨e9, Ey29, hcy29, h1⟩ := q31
      rw [e9]
      refine lv_if_ne (tgt := 26) hx hb dX5_takesOne_21 (by decide) (fun c34 => ?_) (fun c34 => ?_)
      · have c34 : (gPF (f 0) n 3 (p + 1)).1 = true := gB_1.mp c34
        refine lv_aload_n hx hb dX5_takesOne_26 rfl (lv_at hl 0 rfl) ?_
        refine lv_iconst (v := (-1)) hx hb dX5_takesOne_27 (by decide) ?_
        refine g_kv (g_runV (T := TX5) (ci := 5) (N := 10) (rest := []) hx hb hml hown hE hT (c_X5_adds l G t f n hT9 Ey29 (gPF (f 0) n 3 (p + 1)).2.1 (c + (gPF (f 0) n 3 (p + 1)).2.2.length) wd rs (by omega) (by omega) (-1) (by omega)) gM_X5_adds gm_X5_95 gi_X5_adds gs_RX5_yX5_adds_yX5_adds rfl (h1 0 _ rfl) h1 rfl hl.1 ⟨rfl, rfl⟩ ⟨Nat.le_of_ble_eq_true rfl, Nat.le_of_ble_eq_true rfl⟩ ⟨Nat.zero_le _, Nat.zero_le _⟩ rfl (Nat.le_of_ble_eq_true rfl) dX5_takesOne_28) hS (by intro q hq; omega) (fun H35 locs q36 k37 hS => ?_)
        have h1 := q36
        refine lv_iconst (v := 1) hx hb dX5_takesOne_31 (by decide) ?_
        rw [← hQ]
        exact g_zret hx hb hr hlk rfl hS dX5_takesOne_32 (by rw [show gPF (f 0) n 4 p = (true, (gPF (f 0) n 3 (p + 1)).2.1, (gPF (f 0) n 3 (p + 1)).2.2 ++ [0]) from by rw [gPF.eq_2, if_pos c6, if_pos c34]]; exact ⟨rfl, _, gCs_a (x := 0) (y := -1) hcy29 (by decide), by rw [List.length_append]; exact h1⟩)
      · have c34 : ¬ ((gPF (f 0) n 3 (p + 1)).1 = true) := gB_0.mp c34
        refine lv_iconst (v := 0) hx hb dX5_takesOne_24 (by decide) ?_
        rw [← hQ]
        exact g_zret hx hb hr hlk rfl hS dX5_takesOne_25 (by rw [show gPF (f 0) n 4 p = (false, (gPF (f 0) n 3 (p + 1)).2.1, (gPF (f 0) n 3 (p + 1)).2.2) from by rw [gPF.eq_2, if_pos c6, if_neg c34]]; exact ⟨rfl, _, hcy29, h1⟩)

set_option maxHeartbeats 4000000 in
set_option maxRecDepth 100000 in
theorem c_X5_takesEither_4 (l : Launch) (G : gW) (t : Nat) (f : gPS) (n : Nat) (hT9 : gTx (f 0) n) (E : Nat → Int32) (p c : Nat) (wd rs : Int32) (hp : p ≤ n) (hc : c + (n - p) ≤ 100) (htG : G.2.2.2.size ≤ t)  : gCI l yX5_takesEither cX5_takesEither 4 .boolean (gRm 16 348) G [.ref t, .int 0] (fun H => gOld G H ∧ gSg G t (gLL G t (gR (gR f 1 E) 5 (gS6 (nI n) (nI p) (nI c) wd rs))) H) (fun r H => r = gB ((gE (f 0) n 4 p).1 = true) ∧ ∃ E9 : Nat → Int32, gCs E c E9 (gE (f 0) n 4 p).2.2 ∧ gSg G t (gLL G t (gR (gR f 1 E9) 5 (gS6 (nI n) (nI (gE (f 0) n 4 p).2.1) (nI (c + ((gE (f 0) n 4 p).2.2).length)) wd rs))) H) (fun q => t ≤ q ∧ q < t + 6) := by
  refine g_start (by decide) (Nat.le_of_ble_eq_true rfl) ?_
  intro pp_ ee_ s mm_ aa_ below meth cc_ ls Q hQ hX hE hP hl
  obtain ⟨hx, hb, hr, hml, hown, hT, hlk, hnm⟩ := hX
  have hK := hE.2.1
  obtain ⟨hO, h1⟩ := hP
  have hS : va_S (fun q => t ≤ q ∧ q < t + 6) s.heap s.heap [] := va_S.rf
  have hl : lv_has ls 4 [(0, .ref t), (1, .int 0)] := hl
  have hn9 : n ≤ 100 := hT9.1
  have hJ := hE.2.2.2.2.2.2.now hO
  refine lv_iconst (v := 0) hx hb dX5_takesEither_0 (by decide) ?_
  refine lv_istore_n (lv' := [(2, .int 0), (0, .ref t), (1, .int 0)]) hx hb dX5_takesEither_1 rfl hl (by decide) rfl (fun ls hl => ?_)
  have loop : ∀ (m k q : Nat) (K : List Nat) (E9 : Nat → Int32), q ≤ n → n < q + m → p ≤ q → (k = 0 ∨ (k + 1 ≤ q - p ∧ K.length + 1 ≤ q - p)) → gE (f 0) n 4 p = (if (gT (f 0) n 4 q).1 = true then gTl (gT (f 0) n 4) (f 0) n 124 2 m (gT (f 0) n 4 q).2.1 (K ++ (gT (f 0) n 4 q).2.2 ++ (if k = 0 then [] else [2])) else (false, (gT (f 0) n 4 q).2.1, K ++ (gT (f 0) n 4 q).2.2)) → gCs E c E9 K → K.length ≤ q - p → ∀ (H : Heap) (locs : List Loc), gSg G t (gLL G t (gR (gR f 1 E9) 5 (gS6 (nI n) (nI q) (nI (c + K.length)) wd rs))) H → va_S (fun q => t ≤ q ∧ q < t + 6) s.heap H locs → ∀ ls, lv_has ls 4 [(0, .ref t), (1, .int 0), (2, .int (nI k))] → W pp_ l ee_ (gRm 16 348) s mm_ aa_ below meth cc_ H locs 0 0 Q (F0 mm_ 2 ls []) := by
    intro m
    induction m with
    | zero => intro k q K E9 hq hm; exact absurd hm (by omega)
    | succ m ih =>
      intro k q K E9 hq hm hpq hk1 hi hcd hKl H locs h1 hS ls hl
      refine lv_iload_n hx hb dX5_takesEither_2 rfl (lv_at hl 2 rfl) ?_
      refine lv_bipush (v := 100) hx hb dX5_takesEither_3 (by decide) ?_
      refine lv_icmp_ge (tgt := 84) hx hb dX5_takesEither_5 (by decide) (fun c1 => ?_) (fun c1 => ?_)
      · have c1 : 100 ≤ k := (gLe (a := 100) (b := k) rfl rfl (by omega) (by omega)).mp c1
        exact absurd c1 (by omega)
      · have c1 : ¬ 100 ≤ k := fun z => c1 ((gLe (a := 100) (b := k) rfl rfl (by omega) (by omega)).mpr z)
        refine lv_aload_n hx hb dX5_takesEither_8 rfl (lv_at hl 0 rfl) ?_
        refine lv_iload_n hx hb dX5_takesEither_9 rfl (lv_at hl 1 rfl) ?_
        have fy2 : q ≤ (gPF (f 0) n 4 q).2.1 ∧ (gPF (f 0) n 4 q).2.1 ≤ n ∧ (gPF (f 0) n 4 q).2.2.length ≤ (gPF (f 0) n 4 q).2.1 - q := gPF_fit (f 0) n 4 q (by omega)
        refine g_ki (g_runV (T := TX5) (ci := 5) (N := 10) (rest := []) hx hb hml hown hE hT (c_X5_takesOne_4 l G t f n hT9 E9 q (c + K.length) wd rs (by omega) (by omega) htG) gM_X5_takesOne gm_X5_92 gi_X5_takesOne gs_RX5_yX5_takesOne_yX5_takesOne rfl (h1 0 _ rfl) ⟨(gOld_S hO hS (fun q9 hq9 => Nat.le_trans htG hq9.1)), h1⟩ rfl hl.1 ⟨rfl, rfl⟩ ⟨Nat.le_of_ble_eq_true rfl, Nat.le_of_ble_eq_true rfl⟩ ⟨Nat.zero_le _, Nat.zero_le _⟩ rfl (Nat.le_of_ble_eq_true rfl) dX5_takesEither_10) hS (by intro q hq; omega) (fun r6 H3 locs q4 k5 hS => ?_)
        obtain ⟨e9, Ey2, hcy2, h1⟩ := q4
        rw [e9]
        refine lv_if_ne (tgt := 18) hx hb dX5_takesEither_13 (by decide) (fun c7 => ?_) (fun c7 => ?_)
        · have c7 : (gPF (f 0) n 4 q).1 = true := gB_1.mp c7
          refine lv_iconst (v := 0) hx hb dX5_takesEither_18 (by decide) ?_
          refine lv_istore_n (lv' := [(3, .int 0), (0, .ref t), (1, .int 0), (2, .int (nI k))]) hx hb dX5_takesEither_19 rfl hl (by decide) rfl (fun ls hl => ?_)
          have inner : ∀ (m2 x a : Nat) (J : List Nat) (E8 : Nat → Int32), a ≤ n → n < a + m2 → x + 1 ≤ a - q → (gT (f 0) n 4 q) = gTl (gPF (f 0) n 4) (f 0) n 38 1 m2 a J → gCs E c E8 (K ++ J) → J.length ≤ a - q → ∀ (H : Heap) (locs : List Loc), gSg G t (gLL G t (gR (gR f 1 E8) 5 (gS6 (nI n) (nI a) (nI (c + (K ++ J).length)) wd rs))) H → va_S (fun q => t ≤ q ∧ q < t + 6) s.heap H locs → ∀ ls, lv_has ls 4 [(0, .ref t), (1, .int 0), (2, .int (nI k)), (3, .int (nI x))] → W pp_ l ee_ (gRm 16 348) s mm_ aa_ below meth cc_ H locs 0 0 Q (F0 mm_ 20 ls []) := by
            intro m2
            induction m2 with
            | zero => intro x a J E8 ha hm2; exact absurd hm2 (by omega)
            | succ m2 ih2 =>
              intro x a J E8 ha hm2 hxa hJi hcd2 hJl H locs h1 hS ls hl
              have hKJ : (K ++ J).length = K.length + J.length := List.length_append
              refine lv_iload_n hx hb dX5_takesEither_20 rfl (lv_at hl 3 rfl) ?_
              refine lv_bipush (v := 100) hx hb dX5_takesEither_21 (by decide) ?_
              refine lv_icmp_ge (tgt := 57) hx hb dX5_takesEither_23 (by decide) (fun c8 => ?_) (fun c8 => ?_)
              · have c8 : 100 ≤ x := (gLe (a := 100) (b := x) rfl rfl (by omega) (by omega)).mp c8
                exact absurd c8 (by omega)
              · have c8 : ¬ 100 ≤ x := fun z => c8 ((gLe (a := 100) (b := x) rfl rfl (by omega) (by omega)).mpr z)
                refine lv_aload_n hx hb dX5_takesEither_26 rfl (lv_at hl 0 rfl) ?_
                refine lv_bipush (v := 38) hx hb dX5_takesEither_27 (by decide) ?_
                refine g_ki (g_runV (T := TX5) (ci := 5) (N := 10) (rest := []) hx hb hml hown hE hT (c_X5_takesSign l G t f n hT9 E8 a (c + (K ++ J).length) wd rs (by omega) (by omega) 38) gM_X5_takesSign gm_X5_68 gi_X5_takesSign gs_RX5_yX5_takesSign_yX5_takesSign rfl (h1 0 _ rfl) h1 rfl hl.1 ⟨rfl, rfl⟩ ⟨Nat.le_of_ble_eq_true rfl, Nat.le_of_ble_eq_true rfl⟩ ⟨Nat.zero_le _, Nat.zero_le _⟩ rfl (Nat.le_of_ble_eq_true rfl) dX5_takesEither_29) hS (by intro q hq; omega) (fun r12 H9 locs q10 k11 hS => ?_)
                obtain ⟨e9, h1⟩ := q10
                rw [e9]
                refine lv_if_eq (tgt := 57) hx hb dX5_takesEither_32 (by decide) (fun c13 => ?_) (fun c13 => ?_)
                · have c13 : ¬ (a < n ∧ f 0 a = 38) := gB_0.mp c13
                  rw [if_neg c13] at h1
                  have hTq : (gT (f 0) n 4 q) = (true, a, J) := by rw [hJi, gTl, if_neg c13]
                  rw [hTq] at hi
                  refine lv_iload_n hx hb dX5_takesEither_57 rfl (lv_at hl 2 rfl) ?_
                  refine lv_if_le (tgt := 67) hx hb dX5_takesEither_58 (by decide) (fun c14 => ?_) (fun c14 => ?_)
                  · have c14 : k ≤ 0 := (gLe (a := k) (b := 0) rfl rfl (by omega) (by omega)).mp c14
                    refine lv_aload_n hx hb dX5_takesEither_67 rfl (lv_at hl 0 rfl) ?_
                    refine lv_bipush (v := 124) hx hb dX5_takesEither_68 (by decide) ?_
                    refine g_ki (g_runV (T := TX5) (ci := 5) (N := 10) (rest := []) hx hb hml hown hE hT (c_X5_takesSign l G t f n hT9 E8 a (c + (K ++ J).length) wd rs (by omega) (by omega) 124) gM_X5_takesSign gm_X5_68 gi_X5_takesSign gs_RX5_yX5_takesSign_yX5_takesSign rfl (h1 0 _ rfl) h1 rfl hl.1 ⟨rfl, rfl⟩ ⟨Nat.le_of_ble_eq_true rfl, Nat.le_of_ble_eq_true rfl⟩ ⟨Nat.zero_le _, Nat.zero_le _⟩ rfl (Nat.le_of_ble_eq_true rfl) dX5_takesEither_70) hS (by intro q hq; omega) (fun r18 H15 locs q16 k17 hS => ?_)
                    obtain ⟨e9, h1⟩ := q16
                    rw [e9]
                    refine lv_if_ne (tgt := 78) hx hb dX5_takesEither_73 (by decide) (fun c19 => ?_) (fun c19 => ?_)
                    · have c19 : a < n ∧ f 0 a = 124 := gB_1.mp c19
                      rw [if_pos c19] at h1
                      have ltc19 := c19.1
                      refine lv_iinc (v := nI (k + 1)) (lv' := [(2, .int (nI (k + 1))), (0, .ref t), (1, .int 0), (3, .int (nI x))]) hx hb dX5_takesEither_78 hl (k := 2) rfl (gAdd rfl (show Int32.ofInt 1 = nI 1 from rfl)) (by decide) rfl (fun ls hl => ?_)
                      refine lv_goto (tgt := 2) hx hb dX5_takesEither_81 (by decide) ?_
                      have hi2 : gE (f 0) n 4 p = (if (gT (f 0) n 4 (a + 1)).1 = true then gTl (gT (f 0) n 4) (f 0) n 124 2 m (gT (f 0) n 4 (a + 1)).2.1 ((K ++ J ++ []) ++ (gT (f 0) n 4 (a + 1)).2.2 ++ (if k + 1 = 0 then [] else [2])) else (false, (gT (f 0) n 4 (a + 1)).2.1, (K ++ J ++ []) ++ (gT (f 0) n 4 (a + 1)).2.2)) := by rw [hi]; show gTl (gT (f 0) n 4) (f 0) n 124 2 (m + 1) a (K ++ J ++ (if k = 0 then [] else [2])) = _; rw [if_pos (show k = 0 from by omega), gTl, if_pos c19, if_neg (Nat.succ_ne_zero k)]
                      have h1 : gSg G t (gLL G t (gR (gR f 1 E8) 5 (gS6 (nI n) (nI (a + 1)) (nI (c + (K ++ J ++ []).length)) wd rs))) H15 := by rw [List.append_nil]; exact h1
                      exact ih (k + 1) (a + 1) (K ++ J ++ []) _ (by omega) (by omega) (by omega) (Or.inr ⟨by omega, by first | omega | (simp only [List.length_append, List.length_cons, List.length_nil]; omega)⟩) hi2 (by rw [List.append_nil]; exact hcd2) (by simp only [List.length_append, List.length_cons, List.length_nil]; omega) _ _ h1 hS _ (lv_sub hl [1, 2, 0] rfl)
                    · have c19 : ¬ (a < n ∧ f 0 a = 124) := gB_0.mp c19
                      rw [if_neg c19] at h1
                      refine lv_iconst (v := 1) hx hb dX5_takesEither_76 (by decide) ?_
                      have hR9 : gE (f 0) n 4 p = (true, a, K ++ J ++ []) := by rw [hi]; show gTl (gT (f 0) n 4) (f 0) n 124 2 (m + 1) a (K ++ J ++ (if k = 0 then [] else [2])) = _; rw [if_pos (show k = 0 from by omega), gTl, if_neg c19]
                      rw [← hQ]
                      exact g_zret hx hb hr hlk rfl hS dX5_takesEither_77 (by rw [hR9, List.append_nil]; exact ⟨rfl, _, hcd2, h1⟩)
                  · have c14 : ¬ k ≤ 0 := fun z => c14 ((gLe (a := k) (b := 0) rfl rfl (by omega) (by omega)).mpr z)
                    refine lv_aload_n hx hb dX5_takesEither_61 rfl (lv_at hl 0 rfl) ?_
                    refine lv_bipush (v := (-3)) hx hb dX5_takesEither_62 (by decide) ?_
                    refine g_kv (g_runV (T := TX5) (ci := 5) (N := 10) (rest := []) hx hb hml hown hE hT (c_X5_adds l G t f n hT9 E8 a (c + (K ++ J).length) wd rs (by omega) (by omega) (-3) (by omega)) gM_X5_adds gm_X5_95 gi_X5_adds gs_RX5_yX5_adds_yX5_adds rfl (h1 0 _ rfl) h1 rfl hl.1 ⟨rfl, rfl⟩ ⟨Nat.le_of_ble_eq_true rfl, Nat.le_of_ble_eq_true rfl⟩ ⟨Nat.zero_le _, Nat.zero_le _⟩ rfl (Nat.le_of_ble_eq_true rfl) dX5_takesEither_64) hS (by intro q hq; omega) (fun H20 locs q21 k22 hS => ?_)
                    have h1 := q21
                    refine lv_aload_n hx hb dX5_takesEither_67 rfl (lv_at hl 0 rfl) ?_
                    refine lv_bipush (v := 124) hx hb dX5_takesEither_68 (by decide) ?_
                    refine g_ki (g_runV (T := TX5) (ci := 5) (N := 10) (rest := []) hx hb hml hown hE hT (c_X5_takesSign l G t f n hT9 (upd E8 (c + (K ++ J).length) (-3)) a (c + (K ++ J).length + 1) wd rs (by omega) (by omega) 124) gM_X5_takesSign gm_X5_68 gi_X5_takesSign gs_RX5_yX5_takesSign_yX5_takesSign rfl (h1 0 _ rfl) h1 rfl hl.1 ⟨rfl, rfl⟩ ⟨Nat.le_of_ble_eq_true rfl, Nat.le_of_ble_eq_true rfl⟩ ⟨Nat.zero_le _, Nat.zero_le _⟩ rfl (Nat.le_of_ble_eq_true rfl) dX5_takesEither_70) hS (by intro q hq; omega) (fun r27 H24 locs q25 k26 hS => ?_)
                    obtain ⟨e9, h1⟩ := q25
                    rw [e9]
                    refine lv_if_ne (tgt := 78) hx hb dX5_takesEither_73 (by decide) (fun c28 => ?_) (fun c28 => ?_)
                    · have c28 : a < n ∧ f 0 a = 124 := gB_1.mp c28
                      rw [if_pos c28] at h1
                      have ltc28 := c28.1
                      refine lv_iinc (v := nI (k + 1)) (lv' := [(2, .int (nI (k + 1))), (0, .ref t), (1, .int 0), (3, .int (nI x))]) hx hb dX5_takesEither_78 hl (k := 2) rfl (gAdd rfl (show Int32.ofInt 1 = nI 1 from rfl)) (by decide) rfl (fun ls hl => ?_)
                      refine lv_goto (tgt := 2) hx hb dX5_takesEither_81 (by decide) ?_
                      have hi2 : gE (f 0) n 4 p = (if (gT (f 0) n 4 (a + 1)).1 = true then gTl (gT (f 0) n 4) (f 0) n 124 2 m (gT (f 0) n 4 (a + 1)).2.1 ((K ++ J ++ [2]) ++ (gT (f 0) n 4 (a + 1)).2.2 ++ (if k + 1 = 0 then [] else [2])) else (false, (gT (f 0) n 4 (a + 1)).2.1, (K ++ J ++ [2]) ++ (gT (f 0) n 4 (a + 1)).2.2)) := by rw [hi]; show gTl (gT (f 0) n 4) (f 0) n 124 2 (m + 1) a (K ++ J ++ (if k = 0 then [] else [2])) = _; rw [if_neg (show ¬ k = 0 from by omega), gTl, if_pos c28, if_neg (Nat.succ_ne_zero k)]
                      have hl9 : (K ++ J ++ [2]).length = (K ++ J).length + 1 := List.length_append
                      have h1 : gSg G t (gLL G t (gR (gR f 1 (upd E8 (c + (K ++ J).length) (-3))) 5 (gS6 (nI n) (nI (a + 1)) (nI (c + (K ++ J ++ [2]).length)) wd rs))) H24 := by rw [hl9, ← Nat.add_assoc]; exact h1
                      exact ih (k + 1) (a + 1) (K ++ J ++ [2]) _ (by omega) (by omega) (by omega) (Or.inr ⟨by omega, by first | omega | (simp only [List.length_append, List.length_cons, List.length_nil]; omega)⟩) hi2 (gCs_a (x := 2) (y := -3) hcd2 (by decide)) (by simp only [List.length_append, List.length_cons, List.length_nil]; omega) _ _ h1 hS _ (lv_sub hl [1, 2, 0] rfl)
                    · have c28 : ¬ (a < n ∧ f 0 a = 124) := gB_0.mp c28
                      rw [if_neg c28] at h1
                      refine lv_iconst (v := 1) hx hb dX5_takesEither_76 (by decide) ?_
                      have hR9 : gE (f 0) n 4 p = (true, a, K ++ J ++ [2]) := by rw [hi]; show gTl (gT (f 0) n 4) (f 0) n 124 2 (m + 1) a (K ++ J ++ (if k = 0 then [] else [2])) = _; rw [if_neg (show ¬ k = 0 from by omega), gTl, if_neg c28]
                      have hl9 : (K ++ J ++ [2]).length = (K ++ J).length + 1 := List.length_append
                      have h1 : gSg G t (gLL G t (gR (gR f 1 (upd E8 (c + (K ++ J).length) (-3))) 5 (gS6 (nI n) (nI a) (nI (c + (K ++ J ++ [2]).length)) wd rs))) H24 := by rw [hl9, ← Nat.add_assoc]; exact h1
                      rw [← hQ]
                      exact g_zret hx hb hr hlk rfl hS dX5_takesEither_77 (by rw [hR9]; exact ⟨rfl, _, gCs_a (x := 2) (y := -3) hcd2 (by decide), h1⟩)
                · have c13 : a < n ∧ f 0 a = 38 := gB_1.mp c13
                  rw [if_pos c13] at h1
                  have ltc13 := c13.1
                  refine lv_aload_n hx hb dX5_takesEither_35 rfl (lv_at hl 0 rfl) ?_
                  refine lv_iload_n hx hb dX5_takesEither_36 rfl (lv_at hl 1 rfl) ?_
                  have fy29 : a + 1 ≤ (gPF (f 0) n 4 (a + 1)).2.1 ∧ (gPF (f 0) n 4 (a + 1)).2.1 ≤ n ∧ (gPF (f 0) n 4 (a + 1)).2.2.length ≤ (gPF (f 0) n 4 (a + 1)).2.1 - (a + 1) := gPF_fit (f 0) n 4 (a + 1) (by omega)
                  refine g_ki (g_runV (T := TX5) (ci := 5) (N := 10) (rest := []) hx hb hml hown hE hT (c_X5_takesOne_4 l G t f n hT9 E8 (a + 1) (c + (K ++ J).length) wd rs (by omega) (by omega) htG) gM_X5_takesOne gm_X5_92 gi_X5_takesOne gs_RX5_yX5_takesOne_yX5_takesOne rfl (h1 0 _ rfl) ⟨(gOld_S hO hS (fun q9 hq9 => Nat.le_trans htG hq9.1)), h1⟩ rfl hl.1 ⟨rfl, rfl⟩ ⟨Nat.le_of_ble_eq_true rfl, Nat.le_of_ble_eq_true rfl⟩ ⟨Nat.zero_le _, Nat.zero_le _⟩ rfl (Nat.le_of_ble_eq_true rfl) dX5_takesEither_37) hS (by intro q hq; omega) (fun r33 H30 locs q31 k32 hS => ?_)
                  obtain ⟨e9, Ey29, hcy29, h1⟩ := q31
                  rw [e9]
                  refine lv_if_ne (tgt := 45) hx hb dX5_takesEither_40 (by decide) (fun c34 => ?_) (fun c34 => ?_)
                  · have c34 : (gPF (f 0) n 4 (a + 1)).1 = true := gB_1.mp c34
                    refine lv_aload_n hx hb dX5_takesEither_45 rfl (lv_at hl 0 rfl) ?_
                    refine lv_bipush (v := (-2)) hx hb dX5_takesEither_46 (by decide) ?_
                    refine g_kv (g_runV (T := TX5) (ci := 5) (N := 10) (rest := []) hx hb hml hown hE hT (c_X5_adds l G t f n hT9 Ey29 (gPF (f 0) n 4 (a + 1)).2.1 (c + (K ++ J).length + (gPF (f 0) n 4 (a + 1)).2.2.length) wd rs (by omega) (by omega) (-2) (by omega)) gM_X5_adds gm_X5_95 gi_X5_adds gs_RX5_yX5_adds_yX5_adds rfl (h1 0 _ rfl) h1 rfl hl.1 ⟨rfl, rfl⟩ ⟨Nat.le_of_ble_eq_true rfl, Nat.le_of_ble_eq_true rfl⟩ ⟨Nat.zero_le _, Nat.zero_le _⟩ rfl (Nat.le_of_ble_eq_true rfl) dX5_takesEither_48) hS (by intro q hq; omega) (fun H35 locs q36 k37 hS => ?_)
                    have h1 := q36
                    refine lv_iinc (v := nI (x + 1)) (lv' := [(3, .int (nI (x + 1))), (0, .ref t), (1, .int 0), (2, .int (nI k))]) hx hb dX5_takesEither_51 hl (k := 3) rfl (gAdd rfl (show Int32.ofInt 1 = nI 1 from rfl)) (by decide) rfl (fun ls hl => ?_)
                    refine lv_goto (tgt := 20) hx hb dX5_takesEither_54 (by decide) ?_
                    have hl9 : (K ++ (J ++ (gPF (f 0) n 4 (a + 1)).2.2 ++ [1])).length = (K ++ J).length + (gPF (f 0) n 4 (a + 1)).2.2.length + 1 := by simp only [List.length_append, List.length_cons, List.length_nil] <;> omega
                    have h1 : gSg G t (gLL G t (gR (gR f 1 (upd Ey29 (c + (K ++ J).length + (gPF (f 0) n 4 (a + 1)).2.2.length) (-2))) 5 (gS6 (nI n) (nI (gPF (f 0) n 4 (a + 1)).2.1) (nI (c + (K ++ (J ++ (gPF (f 0) n 4 (a + 1)).2.2 ++ [1])).length)) wd rs))) H35 := by rw [hl9, ← Nat.add_assoc, ← Nat.add_assoc]; exact h1
                    exact ih2 (x + 1) (gPF (f 0) n 4 (a + 1)).2.1 (J ++ (gPF (f 0) n 4 (a + 1)).2.2 ++ [1]) _ (by omega) (by omega) (by omega) (by rw [hJi, gTl, if_pos c13, if_pos c34]) (by have q9 := gCs_a (x := 1) (y := -2) (gCs_t hcd2 hcy29) (by decide); rw [List.length_append, ← Nat.add_assoc] at q9; rw [← List.append_assoc, ← List.append_assoc]; exact q9) (by simp only [List.length_append, List.length_cons, List.length_nil]; omega) _ _ h1 hS _ (lv_sub hl [1, 2, 3, 0] rfl)
                  · have c34 : ¬ ((gPF (f 0) n 4 (a + 1)).1 = true) := gB_0.mp c34
                    refine lv_iconst (v := 0) hx hb dX5_takesEither_43 (by decide) ?_
                    rw [← hQ]
                    exact g_zret hx hb hr hlk rfl hS dX5_takesEither_44 (by rw [show gE (f 0) n 4 p = (false, (gPF (f 0) n 4 (a + 1)).2.1, K ++ (J ++ (gPF (f 0) n 4 (a + 1)).2.2)) from by rw [hi, show (gT (f 0) n 4 q) = (false, (gPF (f 0) n 4 (a + 1)).2.1, J ++ (gPF (f 0) n 4 (a + 1)).2.2) from by rw [hJi, gTl, if_pos c13, if_neg c34]]; rfl]; exact ⟨rfl, _, by rw [← List.append_assoc]; exact gCs_t hcd2 hcy29, by rw [← List.append_assoc, List.length_append, ← Nat.add_assoc]; exact h1⟩)
          have hKJ0 : gT (f 0) n 4 q = gTl (gPF (f 0) n 4) (f 0) n 38 1 (n + 1) (gPF (f 0) n 4 q).2.1 (gPF (f 0) n 4 q).2.2 := by rw [gT, gPT, if_pos c7]
          have pos1 := gPF_pos (t := f 0) hq 4 c7
          have h1 : gSg G t (gLL G t (gR (gR f 1 Ey2) 5 (gS6 (nI n) (nI (gPF (f 0) n 4 q).2.1) (nI (c + (K ++ (gPF (f 0) n 4 q).2.2).length)) wd rs))) H3 := by rw [List.length_append, ← Nat.add_assoc]; exact h1
          exact inner (n + 1) 0 (gPF (f 0) n 4 q).2.1 (gPF (f 0) n 4 q).2.2 _ (by omega) (by omega) (by omega) hKJ0 (gCs_t hcd hcy2) (by omega) _ _ h1 hS _ (lv_sub hl [1, 2, 3, 0] rfl)
        · have c7 : ¬ ((gPF (f 0) n 4 q).1 = true) := gB_0.mp c7
          refine lv_iconst (v := 0) hx hb dX5_takesEither_16 (by decide) ?_
          rw [← hQ]
          exact g_zret hx hb hr hlk rfl hS dX5_takesEither_17 (by rw [show gE (f 0) n 4 p = (false, (gPF (f 0) n 4 q).2.1, K ++ (gPF (f 0) n 4 q).2.2) from by rw [hi, show (gT (f 0) n 4 q) = (false, (gPF (f 0) n 4 q).2.1, (gPF (f 0) n 4 q).2.2) from by rw [gT, gPT, if_neg c7]]; rfl]; exact ⟨rfl, _, gCs_t hcd hcy2, by rw [List.length_append, ← Nat.add_assoc]; exact h1⟩)
  exact loop (n + 1) 0 p [] E (by omega) (by omega) (by omega) (Or.inl rfl) (by rw [gE, gPT, if_pos (rfl : (0 : Nat) = 0), List.append_nil, List.nil_append]) gCs_0 (by simp) _ _ h1 hS _ (lv_sub hl [1, 2, 0] rfl)
