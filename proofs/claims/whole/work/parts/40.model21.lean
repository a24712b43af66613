set_option maxHeartbeats 4000000 in
set_option maxRecDepth 100000 in
theorem c_X12_isAll (l : Launch) (G : gW) (b : Nat) (π μ f : gPS) (g : Nat → Int64) (n : Nat) (hn : μ 4 0 = nI n) (hT9 : gTx (μ 0) n) (E : Nat → Int32) (p o c : Nat) (v d : Int32) (hp : p ≤ n) (hc : c + (n - p) ≤ 800) (ho : o ≤ 4) (hbG : G.2.2.2.size ≤ b) (i : Nat) (hi8 : i < 8) : gCI l yX12_isAll cX12_isAll 3 .boolean (gRm 5 106) G [.ref b, .ref (G.2.2.1 i)] (fun H => gOld G H ∧ gSg G b (gLM G b π μ (gR (gR f 6 E) 13 (gS5 (nI p) v d (nI o) (nI c))) g) H) (fun r H => r = gB ((gAll (μ 0) n i (gLen.getD i 0) 0 p).1 = true) ∧ gSg G b (gLM G b π μ (gR (gR f 6 E) 13 (gS5 (nI (gAll (μ 0) n i (gLen.getD i 0) 0 p).2) v d (nI o) (nI c))) g) H) (fun q => b ≤ q ∧ q < b + 30) := by
  refine g_start (by decide) (Nat.le_of_ble_eq_true rfl) ?_
  intro pp_ ee_ s mm_ aa_ below meth cc_ ls Q hQ hX hE hP hl
  obtain ⟨hx, hb, hr, hml, hown, hT, hlk, hnm⟩ := hX
  have hK := hE.2.1
  obtain ⟨hO, h1⟩ := hP
  have hS : va_S (fun q => b ≤ q ∧ q < b + 30) s.heap s.heap [] := va_S.rf
  have hl : lv_has ls 3 [(0, .ref b), (1, .ref (G.2.2.1 i))] := hl
  have hn9 : n ≤ 100 := hT9.1
  have hJ := hE.2.2.2.2.2.2.now hO
  have hL6 := gLen_le i hi8
  refine lv_iconst (v := 0) hx hb dX12_isAll_0 (by decide) ?_
  refine lv_istore_n (lv' := [(2, .int 0), (0, .ref b), (1, .ref (G.2.2.1 i))]) hx hb dX12_isAll_1 rfl hl (by decide) rfl (fun ls hl => ?_)
  have loop : ∀ (d9 k : Nat), k + d9 = (gLen.getD i 0) → ∀ (q : Nat), p ≤ q → q ≤ n → gAll (μ 0) n i (gLen.getD i 0) 0 p = gAll (μ 0) n i d9 k q → ∀ (H : Heap) (locs : List Loc), gSg G b (gLM G b π μ (gR (gR f 6 E) 13 (gS5 (nI q) v d (nI o) (nI c))) g) H → va_S (fun q => b ≤ q ∧ q < b + 30) s.heap H locs → ∀ ls, lv_has ls 3 [(0, .ref b), (1, .ref (G.2.2.1 i)), (2, .int (nI k))] → W pp_ l ee_ (gRm 5 106) s mm_ aa_ below meth cc_ H locs 0 0 Q (F0 mm_ 2 ls []) := by
    intro d9
    induction d9 with
    | zero =>
      intro k hk q hq1 hq2 hi H locs h1 hS ls hl
      have hk : k = (gLen.getD i 0) := by omega
      refine lv_iload_n hx hb dX12_isAll_2 rfl (lv_at hl 2 rfl) ?_
      refine lv_aload_n hx hb dX12_isAll_3 rfl (lv_at hl 1 rfl) ?_
      refine g_ki (g_runJ (rest := [.int (nI k)]) hx hb hml hown hE hT (c_J0_length_8abf5 l G i hi8) gM_J0_length_8abf5 gm_X12_149 gi_J0_length_8abf5 gs_RJ0_yJ0_length_8abf5_yJ0_length_8abf5 (gJ_recv hJ hi8 hO hS (fun q9 hq9 => Nat.le_trans hbG hq9.1) hE) (gOld_S hO hS (fun q9 hq9 => Nat.le_trans hbG hq9.1)) rfl hl.1 ⟨rfl, rfl⟩ ⟨Nat.le_of_ble_eq_true rfl, Nat.le_of_ble_eq_true rfl⟩ ⟨Nat.zero_le _, Nat.zero_le _⟩ rfl (Nat.le_of_ble_eq_true rfl) dX12_isAll_4) hS (fun _ h => h.elim) (fun r4 H1 locs q2 k3 hS => ?_)
      subst q2
      have h1 := gSg_free h1 k3 (by intro k hk q; simp only [List.length_cons, List.length_nil] at hk; omega)
      refine lv_icmp_ge (tgt := 30) hx hb dX12_isAll_7 (by decide) (fun c5 => ?_) (fun c5 => ?_)
      · have c5 : (gLen.getD i 0) ≤ k := (gLe (a := gLen.getD i 0) (b := k) rfl rfl (by omega) (by omega)).mp c5
        refine lv_iconst (v := 1) hx hb dX12_isAll_30 (by decide) ?_
        rw [← hQ]
        exact g_zret hx hb hr hlk rfl hS dX12_isAll_31 ⟨by rw [hi, gAll]; rfl, by rw [hi, gAll]; exact h1⟩
      · have c5 : ¬ (gLen.getD i 0) ≤ k := fun z => c5 ((gLe (a := gLen.getD i 0) (b := k) rfl rfl (by omega) (by omega)).mpr z)
        exact absurd c5 (by omega)
    | succ d9 ih =>
      intro k hk q hq1 hq2 hi H locs h1 hS ls hl
      refine lv_iload_n hx hb dX12_isAll_2 rfl (lv_at hl 2 rfl) ?_
      refine lv_aload_n hx hb dX12_isAll_3 rfl (lv_at hl 1 rfl) ?_
      refine g_ki (g_runJ (rest := [.int (nI k)]) hx hb hml hown hE hT (c_J0_length_8abf5 l G i hi8) gM_J0_length_8abf5 gm_X12_149 gi_J0_length_8abf5 gs_RJ0_yJ0_length_8abf5_yJ0_length_8abf5 (gJ_recv hJ hi8 hO hS (fun q9 hq9 => Nat.le_trans hbG hq9.1) hE) (gOld_S hO hS (fun q9 hq9 => Nat.le_trans hbG hq9.1)) rfl hl.1 ⟨rfl, rfl⟩ ⟨Nat.le_of_ble_eq_true rfl, Nat.le_of_ble_eq_true rfl⟩ ⟨Nat.zero_le _, Nat.zero_le _⟩ rfl (Nat.le_of_ble_eq_true rfl) dX12_isAll_4) hS (fun _ h => h.elim) (fun r9 H6 locs q7 k8 hS => ?_)
      subst q7
      have h1 := gSg_free h1 k8 (by intro k hk q; simp only [List.length_cons, List.length_nil] at hk; omega)
      refine lv_icmp_ge (tgt := 30) hx hb dX12_isAll_7 (by decide) (fun c10 => ?_) (fun c10 => ?_)
      · have c10 : (gLen.getD i 0) ≤ k := (gLe (a := gLen.getD i 0) (b := k) rfl rfl (by omega) (by omega)).mp c10
        exact absurd c10 (by omega)
      · have c10 : ¬ (gLen.getD i 0) ≤ k := fun z => c10 ((gLe (a := gLen.getD i 0) (b := k) rfl rfl (by omega) (by omega)).mpr z)
        refine lv_aload_n hx hb dX12_isAll_10 rfl (lv_at hl 0 rfl) ?_
        refine lv_aload_n hx hb dX12_isAll_11 rfl (lv_at hl 1 rfl) ?_
        refine lv_iload_n hx hb dX12_isAll_12 rfl (lv_at hl 2 rfl) ?_
        refine g_ki (g_runJ (rest := [.ref b]) hx hb hml hown hE hT (c_J0_charAt_5068e l G i hi8 k (by omega)) gM_J0_charAt_5068e gm_X12_154 gi_J0_charAt_5068e gs_RJ0_yJ0_charAt_5068e_yJ0_charAt_5068e (gJ_recv hJ hi8 hO hS (fun q9 hq9 => Nat.le_trans hbG hq9.1) hE) (gOld_S hO hS (fun q9 hq9 => Nat.le_trans hbG hq9.1)) rfl hl.1 ⟨rfl, rfl⟩ ⟨Nat.le_of_ble_eq_true rfl, Nat.le_of_ble_eq_true rfl⟩ ⟨Nat.zero_le _, Nat.zero_le _⟩ rfl (Nat.le_of_ble_eq_true rfl) dX12_isAll_13) hS (fun _ h => h.elim) (fun r14 H11 locs q12 k13 hS => ?_)
        subst q12
        have h1 := gSg_free h1 k13 (by intro k hk q; simp only [List.length_cons, List.length_nil] at hk; omega)
        refine g_ki (g_runV (T := TX12) (ci := 12) (N := 45) (rest := []) hx hb hml hown hE hT (c_X12_is l G b π μ f g n hn hT9 E q o c v d (by omega) (by omega) (by omega) (gChr i k)) gM_X12_is gm_X12_158 gi_X12_is gs_RX12_yX12_is_yX12_is rfl (h1 0 _ rfl) h1 rfl hl.1 ⟨rfl, rfl⟩ ⟨Nat.le_of_ble_eq_true rfl, Nat.le_of_ble_eq_true rfl⟩ ⟨Nat.zero_le _, Nat.zero_le _⟩ rfl (Nat.le_of_ble_eq_true rfl) dX12_isAll_16) hS (by intro q hq; omega) (fun r18 H15 locs q16 k17 hS => ?_)
        obtain ⟨e9, h1⟩ := q16
        rw [e9]
        refine lv_if_ne (tgt := 24) hx hb dX12_isAll_19 (by decide) (fun c19 => ?_) (fun c19 => ?_)
        · have c19 : q < n ∧ μ 0 q = gChr i k := gB_1.mp c19
          rw [if_pos c19] at h1
          have ltc19 := c19.1
          refine lv_iinc (v := nI (k + 1)) (lv' := [(2, .int (nI (k + 1))), (0, .ref b), (1, .ref (G.2.2.1 i))]) hx hb dX12_isAll_24 hl (k := 2) rfl (gAdd rfl (show Int32.ofInt 1 = nI 1 from rfl)) (by decide) rfl (fun ls hl => ?_)
          refine lv_goto (tgt := 2) hx hb dX12_isAll_27 (by decide) ?_
          exact ih (k + 1) (by omega) (q + 1) (by omega) (by omega) (by rw [hi, gAll, if_pos c19]) _ _ h1 hS _ (by have hl := lv_sub hl [1, 2, 0] rfl; exact hl)
        · have c19 : ¬ (q < n ∧ μ 0 q = gChr i k) := gB_0.mp c19
          rw [if_neg c19] at h1
          refine lv_iconst (v := 0) hx hb dX12_isAll_22 (by decide) ?_
          rw [← hQ]
          exact g_zret hx hb hr hlk rfl hS dX12_isAll_23 ⟨by rw [hi, gAll, if_neg c19]; rfl, by rw [hi, gAll, if_neg c19]; exact h1⟩
  exact loop ((gLen.getD i 0) - 0) 0 (by first | omega | simp) p (Nat.le_refl _) hp rfl _ _ h1 hS _ (lv_sub hl [1, 2, 0] rfl)

set_option maxHeartbeats 4000000 in
set_option maxRecDepth 100000 in
theorem c_X12_isTest (l : Launch) (G : gW) (b : Nat) (π μ f : gPS) (g : Nat → Int64) (n : Nat) (hn : μ 4 0 = nI n) (hT9 : gTx (μ 0) n) (E : Nat → Int32) (p o c : Nat) (v d : Int32) (hp : p ≤ n) (hc : c + (n - p) ≤ 800) (ho : o ≤ 4) (hbG : G.2.2.2.size ≤ b)  : gCI l yX12_isTest cX12_isTest 3 .boolean (gRm 7 159) G [.ref b] (fun H => gOld G H ∧ gSg G b (gLM G b π μ (gR (gR f 6 E) 13 (gS5 (nI p) v d (nI o) (nI c))) g) H) (fun r H => r = gB ((gTe (μ 0) n p).1 = true) ∧ ∃ (v d : Int32) (E9 : Nat → Int32), gCd E c E9 (gTe (μ 0) n p).2.2 ∧ gSg G b (gLM G b π μ (gR (gR f 6 E9) 13 (gS5 (nI (gTe (μ 0) n p).2.1) v d (nI o) (nI (c + (gTe (μ 0) n p).2.2.length)))) g) H) (fun q => b ≤ q ∧ q < b + 30) := by
  refine g_start (by decide) (Nat.le_of_ble_eq_true rfl) ?_
  intro pp_ ee_ s mm_ aa_ below meth cc_ ls Q hQ hX hE hP hl
  obtain ⟨hx, hb, hr, hml, hown, hT, hlk, hnm⟩ := hX
  have hK := hE.2.1
  obtain ⟨hO, h1⟩ := hP
  have hS : va_S (fun q => b ≤ q ∧ q < b + 30) s.heap s.heap [] := va_S.rf
  have hl : lv_has ls 3 [(0, .ref b)] := hl
  have hn9 : n ≤ 100 := hT9.1
  have hJ := hE.2.2.2.2.2.2.now hO
  refine lv_aload_n hx hb dX12_isTest_0 rfl (lv_at hl 0 rfl) ?_
  refine g_get (v := .int (nI p)) (T := TX12) (ci := 12) (N := 45) hx hb hown hK (gY_X12 hT) rfl (h1 0 _ rfl) 13 (by decide) (hT _ gf_X12_136) rfl dX12_isTest_1 ?_
  refine lv_aload_n hx hb dX12_isTest_4 rfl (lv_at hl 0 rfl) ?_
  refine g_get (v := .int (μ 4 0)) (T := TX12) (ci := 12) (N := 45) hx hb hown hK (gY_X12 hT) rfl (h1 0 _ rfl) 11 (by decide) (hT _ gf_X12_133) rfl dX12_isTest_5 ?_
  refine lv_icmp_ge (tgt := 40) hx hb dX12_isTest_8 (by decide) (fun c1 => ?_) (fun c1 => ?_)
  · have c1 : n ≤ p := (gLe (a := n) (b := p) hn rfl (by omega) (by omega)).mp c1
    refine lv_iconst (v := (-1)) hx hb dX12_isTest_40 (by decide) ?_
    refine lv_istore_n (lv' := [(1, .int (-1)), (0, .ref b)]) hx hb dX12_isTest_41 rfl hl (by decide) rfl (fun ls hl => ?_)
    refine lv_iload_n hx hb dX12_isTest_42 rfl (lv_at hl 0 rfl) ?_
    refine lv_if_ge (tgt := 48) hx hb dX12_isTest_43 (by decide) (fun c2 => ?_) (fun c2 => ?_)
    · exact absurd c2 (by decide)
    · refine lv_iconst (v := 0) hx hb dX12_isTest_46 (by decide) ?_
      rw [← hQ]
      exact g_zret hx hb hr hlk rfl hS dX12_isTest_47 (by rw [show gTe (μ 0) n p = (false, p, []) from by rw [gTe, if_pos (show gOne (μ 0) n 0 p < 0 from by rw [gOne, if_neg (fun z9 => absurd z9.1 (by omega))]; decide)]]; exact ⟨rfl, _, _, _, gCd_0, h1⟩)
  · have c1 : ¬ n ≤ p := fun z => c1 ((gLe (a := n) (b := p) hn rfl (by omega) (by omega)).mpr z)
    obtain ⟨x0, lx0, ex0⟩ := hT9.2 (p) (by omega)
    refine lv_aload_n hx hb dX12_isTest_11 rfl (lv_at hl 0 rfl) ?_
    refine g_get (v := .ref (b + 9)) (T := TX12) (ci := 12) (N := 45) hx hb hown hK (gY_X12 hT) rfl (h1 0 _ rfl) 12 (by decide) (hT _ gf_X12_36) rfl dX12_isTest_12 ?_
    refine lv_aload_n hx hb dX12_isTest_15 rfl (lv_at hl 0 rfl) ?_
    refine g_get (v := .int (nI p)) (T := TX12) (ci := 12) (N := 45) hx hb hown hK (gY_X12 hT) rfl (h1 0 _ rfl) 13 (by decide) (hT _ gf_X12_136) rfl dX12_isTest_16 ?_
    refine g_ia (j := p) (v := μ 0 p) hx hb hK (h1 9 _ rfl) rfl (by omega) (Nat.le_of_ble_eq_true rfl) rfl dX12_isTest_19 ?_
    refine lv_if_le (tgt := 40) hx hb dX12_isTest_20 (by decide) (fun c3 => ?_) (fun c3 => ?_)
    · have c3 : x0 ≤ 0 := (gLe (a := x0) (b := 0) ex0 rfl (by omega) (by omega)).mp c3
      refine lv_iconst (v := (-1)) hx hb dX12_isTest_40 (by decide) ?_
      refine lv_istore_n (lv' := [(1, .int (-1)), (0, .ref b)]) hx hb dX12_isTest_41 rfl hl (by decide) rfl (fun ls hl => ?_)
      refine lv_iload_n hx hb dX12_isTest_42 rfl (lv_at hl 0 rfl) ?_
      refine lv_if_ge (tgt := 48) hx hb dX12_isTest_43 (by decide) (fun c4 => ?_) (fun c4 => ?_)
      · exact absurd c4 (by decide)
      · refine lv_iconst (v := 0) hx hb dX12_isTest_46 (by decide) ?_
        rw [← hQ]
        exact g_zret hx hb hr hlk rfl hS dX12_isTest_47 (by rw [show gTe (μ 0) n p = (false, p, []) from by rw [gTe, if_pos (show gOne (μ 0) n 0 p < 0 from by rw [gOne, if_neg (fun z9 => absurd z9.2 (by rw [ex0]; intro z8; exact absurd ((gLt (x := 0) (a := 0) rfl rfl (by omega) (by omega)).mp z8) (by omega)))]; decide)]]; exact ⟨rfl, _, _, _, gCd_0, h1⟩)
    · have c3 : ¬ x0 ≤ 0 := fun z => c3 ((gLe (a := x0) (b := 0) ex0 rfl (by omega) (by omega)).mpr z)
      refine va_ldcS (q := G.2.2.1 0) hx hb hown (hE.2.2.2.2.2.1 (RX12, 164, _, 0) (List.mem_of_getElem? (i := 5) rfl)) dX12_isTest_23 ?_
      refine lv_aload_n hx hb dX12_isTest_25 rfl (lv_at hl 0 rfl) ?_
      refine g_get (v := .ref (b + 9)) (T := TX12) (ci := 12) (N := 45) hx hb hown hK (gY_X12 hT) rfl (h1 0 _ rfl) 12 (by decide) (hT _ gf_X12_36) rfl dX12_isTest_26 ?_
      refine lv_aload_n hx hb dX12_isTest_29 rfl (lv_at hl 0 rfl) ?_
      refine g_get (v := .int (nI p)) (T := TX12) (ci := 12) (N := 45) hx hb hown hK (gY_X12 hT) rfl (h1 0 _ rfl) 13 (by decide) (hT _ gf_X12_136) rfl dX12_isTest_30 ?_
      refine g_ia (j := p) (v := μ 0 p) hx hb hK (h1 9 _ rfl) rfl (by omega) (Nat.le_of_ble_eq_true rfl) rfl dX12_isTest_33 ?_
      rw [ex0]
      refine g_ki (g_runJ (rest := []) hx hb hml hown hE hT (c_J0_indexOf_0f7a4 l G 0 (by decide) x0 lx0) gM_J0_indexOf_0f7a4 gm_X12_166 gi_J0_indexOf_0f7a4 gs_RJ0_yJ0_indexOf_0f7a4_yJ0_indexOf_0f7a4 (gJ_recv hJ (by decide) hO hS (fun q9 hq9 => Nat.le_trans hbG hq9.1) hE) (gOld_S hO hS (fun q9 hq9 => Nat.le_trans hbG hq9.1)) rfl hl.1 ⟨rfl, rfl⟩ ⟨Nat.le_of_ble_eq_true rfl, Nat.le_of_ble_eq_true rfl⟩ ⟨Nat.zero_le _, Nat.zero_le _⟩ rfl (Nat.le_of_ble_eq_true rfl) dX12_isTest_34) hS (fun _ h => h.elim) (fun r8 H5 locs q6 k7 hS => ?_)
      subst q6
      have h1 := gSg_free h1 k7 (by intro k hk q; simp only [List.length_cons, List.length_nil] at hk; omega)
      have hg0 : gOne (μ 0) n 0 p = gIxo 0 x0 0 (gLen.getD 0 0) := by rw [gOne, if_pos ⟨by omega, by rw [ex0]; exact (gLt (x := 0) (a := 0) rfl rfl (by omega) (by omega)).mpr (by omega)⟩, ex0, nI_clamp (by omega)]
      rw [← hg0]
      refine lv_goto (tgt := 41) hx hb dX12_isTest_37 (by decide) ?_
      refine lv_istore_n (lv' := [(1, .int (gOne (μ 0) n 0 p)), (0, .ref b)]) hx hb dX12_isTest_41 rfl hl (by decide) rfl (fun ls hl => ?_)
      refine lv_iload_n hx hb dX12_isTest_42 rfl (lv_at hl 0 rfl) ?_
      refine lv_if_ge (tgt := 48) hx hb dX12_isTest_43 (by decide) (fun c9 => ?_) (fun c9 => ?_)
      · obtain ⟨l0, ll0, el0⟩ := gOne_n (show ¬ gOne (μ 0) n 0 p < 0 from Int32.not_lt.mpr c9)
        have ll0 : l0 < 6 := ll0
        refine lv_aload_n hx hb dX12_isTest_48 rfl (lv_at hl 1 rfl) ?_
        refine lv_dup hx hb dX12_isTest_49 rfl ?_
        refine g_get (v := .int (nI p)) (T := TX12) (ci := 12) (N := 45) hx hb hown hK (gY_X12 hT) rfl (h1 0 _ rfl) 13 (by decide) (hT _ gf_X12_136) rfl dX12_isTest_50 ?_
        refine lv_iconst (v := 1) hx hb dX12_isTest_53 (by decide) ?_
        refine lv_iadd hx hb dX12_isTest_54 ?_
        rw [show ((nI p) + 1 : Int32) = nI (p + 1) from (gAdd rfl rfl)]
        refine g_put (T := TX12) (ci := 12) (N := 45) (ty0 := tyX12) hx hb hown hK hS (gY_X12 hT) tyX12_ok nmX12 rfl (h1 0 _ rfl) 13 (by decide) (hT _ gf_X12_136) rfl rfl rfl (Nat.le_of_ble_eq_true rfl) (by omega) dX12_isTest_55 (fun H10 locs c11 oq hS => ?_)
        have h1 : gSg G b (gLM G b π μ (gR (gR f 6 E) 13 (gS5 (nI (p + 1)) v d (nI o) (nI c))) g) H10 := gSg_set h1 0 c11 oq
        refine lv_aload_n hx hb dX12_isTest_58 rfl (lv_at hl 1 rfl) ?_
        refine g_get (v := .int (nI (p + 1))) (T := TX12) (ci := 12) (N := 45) hx hb hown hK (gY_X12 hT) rfl (h1 0 _ rfl) 13 (by decide) (hT _ gf_X12_136) rfl dX12_isTest_59 ?_
        refine lv_aload_n hx hb dX12_isTest_62 rfl (lv_at hl 1 rfl) ?_
        refine g_get (v := .int (μ 4 0)) (T := TX12) (ci := 12) (N := 45) hx hb hown hK (gY_X12 hT) rfl (h1 0 _ rfl) 11 (by decide) (hT _ gf_X12_133) rfl dX12_isTest_63 ?_
        refine lv_icmp_ge (tgt := 98) hx hb dX12_isTest_66 (by decide) (fun c12 => ?_) (fun c12 => ?_)
        · have c12 : n ≤ (p + 1) := (gLe (a := n) (b := p + 1) hn rfl (by omega) (by omega)).mp c12
          refine lv_iconst (v := (-1)) hx hb dX12_isTest_98 (by decide) ?_
          refine lv_istore_n (lv' := [(2, .int (-1)), (1, .int (gOne (μ 0) n 0 p)), (0, .ref b)]) hx hb dX12_isTest_99 rfl hl (by decide) rfl (fun ls hl => ?_)
          refine lv_iload_n hx hb dX12_isTest_100 rfl (lv_at hl 0 rfl) ?_
          refine lv_if_ge (tgt := 106) hx hb dX12_isTest_101 (by decide) (fun c13 => ?_) (fun c13 => ?_)
          · exact absurd c13 (by decide)
          · refine lv_iconst (v := 0) hx hb dX12_isTest_104 (by decide) ?_
            rw [← hQ]
            exact g_zret hx hb hr hlk rfl hS dX12_isTest_105 (by rw [show gTe (μ 0) n p = (false, p + 1, []) from by rw [gTe, if_neg (show ¬ gOne (μ 0) n 0 p < 0 from Int32.not_lt.mpr c9), if_pos (show gOne (μ 0) n 1 (p + 1) < 0 from by rw [gOne, if_neg (fun z9 => absurd z9.1 (by omega))]; decide)]]; exact ⟨rfl, _, _, _, gCd_0, h1⟩)
        · have c12 : ¬ n ≤ (p + 1) := fun z => c12 ((gLe (a := n) (b := p + 1) hn rfl (by omega) (by omega)).mpr z)
          obtain ⟨x1, lx1, ex1⟩ := hT9.2 (p + 1) (by omega)
          refine lv_aload_n hx hb dX12_isTest_69 rfl (lv_at hl 1 rfl) ?_
          refine g_get (v := .ref (b + 9)) (T := TX12) (ci := 12) (N := 45) hx hb hown hK (gY_X12 hT) rfl (h1 0 _ rfl) 12 (by decide) (hT _ gf_X12_36) rfl dX12_isTest_70 ?_
          refine lv_aload_n hx hb dX12_isTest_73 rfl (lv_at hl 1 rfl) ?_
          refine g_get (v := .int (nI (p + 1))) (T := TX12) (ci := 12) (N := 45) hx hb hown hK (gY_X12 hT) rfl (h1 0 _ rfl) 13 (by decide) (hT _ gf_X12_136) rfl dX12_isTest_74 ?_
          refine g_ia (j := p + 1) (v := μ 0 (p + 1)) hx hb hK (h1 9 _ rfl) rfl (by omega) (Nat.le_of_ble_eq_true rfl) rfl dX12_isTest_77 ?_
          refine lv_if_le (tgt := 98) hx hb dX12_isTest_78 (by decide) (fun c14 => ?_) (fun c14 => ?_)
          · have c14 : x1 ≤ 0 := (gLe (a := x1) (b := 0) ex1 rfl (by omega) (by omega)).mp c14
            refine lv_iconst (v := (-1)) hx hb dX12_isTest_98 (by decide) ?_
            refine lv_istore_n (lv' := [(2, .int (-1)), (1, .int (gOne (μ 0) n 0 p)), (0, .ref b)]) hx hb dX12_isTest_99 rfl hl (by decide) rfl (fun ls hl => ?_)
            refine lv_iload_n hx hb dX12_isTest_100 rfl (lv_at hl 0 rfl) ?_
            refine lv_if_ge (tgt := 106) hx hb dX12_isTest_101 (by decide) (fun c15 => ?_) (fun c15 => ?_)
            · exact absurd c15 (by decide)
            · refine lv_iconst (v := 0) hx hb dX12_isTest_104 (by decide) ?_
              rw [← hQ]
              exact g_zret hx hb hr hlk rfl hS dX12_isTest_105 (by rw [show gTe (μ 0) n p = (false, p + 1, []) from by rw [gTe, if_neg (show ¬ gOne (μ 0) n 0 p < 0 from Int32.not_lt.mpr c9), if_pos (show gOne (μ 0) n 1 (p + 1) < 0 from by rw [gOne, if_neg (fun z9 => absurd z9.2 (by rw [ex1]; intro z8; exact absurd ((gLt (x := 0) (a := 0) rfl rfl (by omega) (by omega)).mp z8) (by omega)))]; decide)]]; exact ⟨rfl, _, _, _, gCd_0, h1⟩)
          · have c14 : ¬ x1 ≤ 0 := fun z => c14 ((gLe (a := x1) (b := 0) ex1 rfl (by omega) (by omega)).mpr z)
            refine va_ldcS (q := G.2.2.1 1) hx hb hown (hE.2.2.2.2.2.1 (RX12, 169, _, 1) (List.mem_of_getElem? (i := 6) rfl)) dX12_isTest_81 ?_
            refine lv_aload_n hx hb dX12_isTest_83 rfl (lv_at hl 1 rfl) ?_
            refine g_get (v := .ref (b + 9)) (T := TX12) (ci := 12) (N := 45) hx hb hown hK (gY_X12 hT) rfl (h1 0 _ rfl) 12 (by decide) (hT _ gf_X12_36) rfl dX12_isTest_84 ?_
            refine lv_aload_n hx hb dX12_isTest_87 rfl (lv_at hl 1 rfl) ?_
            refine g_get (v := .int (nI (p + 1))) (T := TX12) (ci := 12) (N := 45) hx hb hown hK (gY_X12 hT) rfl (h1 0 _ rfl) 13 (by decide) (hT _ gf_X12_136) rfl dX12_isTest_88 ?_
            refine g_ia (j := p + 1) (v := μ 0 (p + 1)) hx hb hK (h1 9 _ rfl) rfl (by omega) (Nat.le_of_ble_eq_true rfl) rfl dX12_isTest_91 ?_
            rw [ex1]
            refine g_ki (g_runJ (rest := []) hx hb hml hown hE hT (c_J0_indexOf_0f7a4 l G 1 (by decide) x1 lx1) gM_J0_indexOf_0f7a4 gm_X12_166 gi_J0_indexOf_0f7a4 gs_RJ0_yJ0_indexOf_0f7a4_yJ0_indexOf_0f7a4 (gJ_recv hJ (by decide) hO hS (fun q9 hq9 => Nat.le_trans hbG hq9.1) hE) (gOld_S hO hS (fun q9 hq9 => Nat.le_trans hbG hq9.1)) rfl hl.1 ⟨rfl, rfl⟩ ⟨Nat.le_of_ble_eq_true rfl, Nat.le_of_ble_eq_true rfl⟩ ⟨Nat.zero_le _, Nat.zero_le _⟩ rfl (Nat.le_of_ble_eq_true rfl) dX12_isTest_92) hS (fun _ h => h.elim) (fun r19 H16 locs q17 k18 hS => ?_)
            subst q17
            have h1 := gSg_free h1 k18 (by intro k hk q; simp only [List.length_cons, List.length_nil] at hk; omega)
            have hg1 : gOne (μ 0) n 1 (p + 1) = gIxo 1 x1 0 (gLen.getD 1 0) := by rw [gOne, if_pos ⟨by omega, by rw [ex1]; exact (gLt (x := 0) (a := 0) rfl rfl (by omega) (by omega)).mpr (by omega)⟩, ex1, nI_clamp (by omega)]
            rw [← hg1]
            refine lv_goto (tgt := 99) hx hb dX12_isTest_95 (by decide) ?_
            refine lv_istore_n (lv' := [(2, .int (gOne (μ 0) n 1 (p + 1))), (1, .int (gOne (μ 0) n 0 p)), (0, .ref b)]) hx hb dX12_isTest_99 rfl hl (by decide) rfl (fun ls hl => ?_)
            refine lv_iload_n hx hb dX12_isTest_100 rfl (lv_at hl 0 rfl) ?_
            refine lv_if_ge (tgt := 106) hx hb dX12_isTest_101 (by decide) (fun c20 => ?_) (fun c20 => ?_)
            · obtain ⟨l1, ll1, el1⟩ := gOne_n (show ¬ gOne (μ 0) n 1 (p + 1) < 0 from Int32.not_lt.mpr c20)
              have ll1 : l1 < 3 := ll1
              refine lv_aload_n hx hb dX12_isTest_106 rfl (lv_at hl 2 rfl) ?_
              refine lv_dup hx hb dX12_isTest_107 rfl ?_
              refine g_get (v := .int (nI (p + 1))) (T := TX12) (ci := 12) (N := 45) hx hb hown hK (gY_X12 hT) rfl (h1 0 _ rfl) 13 (by decide) (hT _ gf_X12_136) rfl dX12_isTest_108 ?_
              refine lv_iconst (v := 1) hx hb dX12_isTest_111 (by decide) ?_
              refine lv_iadd hx hb dX12_isTest_112 ?_
              rw [show ((nI (p + 1)) + 1 : Int32) = nI ((p + 1) + 1) from (gAdd rfl rfl)]
              refine g_put (T := TX12) (ci := 12) (N := 45) (ty0 := tyX12) hx hb hown hK hS (gY_X12 hT) tyX12_ok nmX12 rfl (h1 0 _ rfl) 13 (by decide) (hT _ gf_X12_136) rfl rfl rfl (Nat.le_of_ble_eq_true rfl) (by omega) dX12_isTest_113 (fun H21 locs c22 oq hS => ?_)
              have h1 : gSg G b (gLM G b π μ (gR (gR f 6 E) 13 (gS5 (nI ((p + 1) + 1)) v d (nI o) (nI c))) g) H21 := gSg_set h1 0 c22 oq
              refine lv_aload_n hx hb dX12_isTest_116 rfl (lv_at hl 2 rfl) ?_
              have fN := gNum_fit (t := μ 0) (n := n) (p := p + 1 + 1) (by omega)
              refine g_ki (g_runV (T := TX12) (ci := 12) (N := 45) (rest := []) hx hb hml hown hE hT (c_X12_isNumber l G b π μ f g n hn hT9 E ((p + 1) + 1) o c v d (by omega) (by omega) ho) gM_X12_isNumber gm_X12_171 gi_X12_isNumber gs_RX12_yX12_isNumber_yX12_isNumber rfl (h1 0 _ rfl) h1 rfl hl.1 ⟨rfl, rfl⟩ ⟨Nat.le_of_ble_eq_true rfl, Nat.le_of_ble_eq_true rfl⟩ ⟨Nat.zero_le _, Nat.zero_le _⟩ rfl (Nat.le_of_ble_eq_true rfl) dX12_isTest_117) hS (by intro q hq; omega) (fun r26 H23 locs q24 k25 hS => ?_)
              obtain ⟨e9, v2, d2, h1, hv2⟩ := q24
              rw [e9]
              refine lv_if_eq (tgt := 151) hx hb dX12_isTest_120 (by decide) (fun c27 => ?_) (fun c27 => ?_)
              · have c27 : ¬ ((gNum (μ 0) n ((p + 1) + 1)).1 = true) := gB_0.mp c27
                refine lv_iconst (v := 0) hx hb dX12_isTest_151 (by decide) ?_
                rw [← hQ]
                exact g_zret hx hb hr hlk rfl hS dX12_isTest_152 (by rw [show gTe (μ 0) n p = (false, (gNum (μ 0) n (p + 1 + 1)).2.1, []) from by rw [gTe, if_neg (show ¬ gOne (μ 0) n 0 p < 0 from Int32.not_lt.mpr c9), if_neg (show ¬ gOne (μ 0) n 1 (p + 1) < 0 from Int32.not_lt.mpr c20), if_neg c27]]; exact ⟨rfl, _, _, _, gCd_0, h1⟩)
              · have c27 : (gNum (μ 0) n ((p + 1) + 1)).1 = true := gB_1.mp c27
                obtain ⟨ev, hv⟩ := hv2 c27
                refine lv_aload_n hx hb dX12_isTest_123 rfl (lv_at hl 2 rfl) ?_
                refine lv_iconst (v := 3) hx hb dX12_isTest_124 (by decide) ?_
                refine lv_sipush (v := 300) hx hb dX12_isTest_125 (by decide) ?_
                refine lv_iload_n hx hb dX12_isTest_128 rfl (lv_at hl 1 rfl) ?_
                refine lv_imul hx hb dX12_isTest_129 ?_
                rw [show (300 * (gOne (μ 0) n 0 p) : Int32) = nI (300 * l0) from (gMul rfl el0)]
                refine lv_iadd hx hb dX12_isTest_130 ?_
                rw [show (3 + (nI (300 * l0)) : Int32) = nI (3 + (300 * l0)) from (gAdd rfl rfl)]
                refine lv_bipush (v := 100) hx hb dX12_isTest_131 (by decide) ?_
                refine lv_iload_n hx hb dX12_isTest_133 rfl (lv_at hl 0 rfl) ?_
                refine lv_imul hx hb dX12_isTest_134 ?_
                rw [show (100 * (gOne (μ 0) n 1 (p + 1)) : Int32) = nI (100 * l1) from (gMul rfl el1)]
                refine lv_iadd hx hb dX12_isTest_135 ?_
                rw [show ((nI (3 + (300 * l0))) + (nI (100 * l1)) : Int32) = nI ((3 + (300 * l0)) + (100 * l1)) from (gAdd rfl rfl)]
                refine lv_aload_n hx hb dX12_isTest_136 rfl (lv_at hl 2 rfl) ?_
                refine g_get (v := .int v2) (T := TX12) (ci := 12) (N := 45) hx hb hown hK (gY_X12 hT) rfl (h1 0 _ rfl) 14 (by decide) (hT _ gf_X12_139) rfl dX12_isTest_137 ?_
                refine lv_iadd hx hb dX12_isTest_140 ?_
                rw [show ((nI ((3 + (300 * l0)) + (100 * l1))) + v2 : Int32) = nI (((3 + (300 * l0)) + (100 * l1)) + ((gNum (μ 0) n (p + 1 + 1)).2.2)) from (gAdd rfl ev)]
                refine g_ki (g_runV (T := TX12) (ci := 12) (N := 45) (rest := []) hx hb hml hown hE hT (c_X12_codes l G b π μ f g n hn hT9 E (gNum (μ 0) n ((p + 1) + 1)).2.1 o c v2 d2 (by omega) (by omega) ho (((3 + (300 * l0)) + (100 * l1)) + ((gNum (μ 0) n (p + 1 + 1)).2.2)) (by omega)) gM_X12_codes gm_X12_174 gi_X12_codes gs_RX12_yX12_codes_yX12_codes rfl (h1 0 _ rfl) h1 rfl hl.1 ⟨rfl, rfl⟩ ⟨Nat.le_of_ble_eq_true rfl, Nat.le_of_ble_eq_true rfl⟩ ⟨Nat.zero_le _, Nat.zero_le _⟩ rfl (Nat.le_of_ble_eq_true rfl) dX12_isTest_141) hS (by intro q hq; omega) (fun r31 H28 locs q29 k30 hS => ?_)
                obtain ⟨e9, h1⟩ := q29
                rw [e9]
                refine lv_if_eq (tgt := 151) hx hb dX12_isTest_144 (by decide) (fun c32 => ?_) (fun c32 => ?_)
                · exact absurd c32 (by decide)
                · refine lv_iconst (v := 1) hx hb dX12_isTest_147 (by decide) ?_
                  refine lv_goto (tgt := 152) hx hb dX12_isTest_148 (by decide) ?_
                  rw [← hQ]
                  exact g_zret hx hb hr hlk rfl hS dX12_isTest_152 (by rw [show gTe (μ 0) n p = (true, (gNum (μ 0) n (p + 1 + 1)).2.1, [3 + 300 * l0 + 100 * l1 + (gNum (μ 0) n (p + 1 + 1)).2.2]) from by rw [gTe, if_neg (show ¬ gOne (μ 0) n 0 p < 0 from Int32.not_lt.mpr c9), if_neg (show ¬ gOne (μ 0) n 1 (p + 1) < 0 from Int32.not_lt.mpr c20), if_pos c27, el0, el1, nI_clamp (show l0 < 2 ^ 31 by omega), nI_clamp (show l1 < 2 ^ 31 by omega)]]; exact ⟨rfl, _, _, _, gCd_1, h1⟩)
            · refine lv_iconst (v := 0) hx hb dX12_isTest_104 (by decide) ?_
              rw [← hQ]
              exact g_zret hx hb hr hlk rfl hS dX12_isTest_105 (by rw [show gTe (μ 0) n p = (false, p + 1, []) from by rw [gTe, if_neg (show ¬ gOne (μ 0) n 0 p < 0 from Int32.not_lt.mpr c9), if_pos (show gOne (μ 0) n 1 (p + 1) < 0 from Int32.not_le.mp c20)]]; exact ⟨rfl, _, _, _, gCd_0, h1⟩)
      · refine lv_iconst (v := 0) hx hb dX12_isTest_46 (by decide) ?_
        rw [← hQ]
        exact g_zret hx hb hr hlk rfl hS dX12_isTest_47 (by rw [show gTe (μ 0) n p = (false, p, []) from by rw [gTe, if_pos (show gOne (μ 0) n 0 p < 0 from Int32.not_le.mp c9)]]; exact ⟨rfl, _, _, _, gCd_0, h1⟩)
