/-! ===== BEGIN words of one list among another's, by their places ===== -/
theorem goodIn_r {big : List Cond} (ws : List Cond) (ps : List Nat) (hp : ws = ps.filterMap (fun i => big[i]?)) (h : ws.all goodWord = true) : GoodIn big ws := by
  intro w hw
  have h1 := List.all_eq_true.mp h w hw
  rw [hp] at hw
  obtain ⟨i, -, hi⟩ := List.mem_filterMap.mp hw
  have hm : w ∈ big := by first | exact List.mem_of_getElem? hi | exact List.getElem?_mem hi
  exact ⟨hm, good_of_word h1⟩
theorem goodIn_app {big a b : List Cond} (ha : GoodIn big a) (hb : GoodIn big b) : GoodIn big (a ++ b) := fun w h => (List.mem_append.mp h).elim (ha w) (hb w)
theorem goodIn_ca {big a b : List Cond} {c : Cond} (ha : GoodIn big (c :: a)) (hb : GoodIn big b) : GoodIn big (c :: (a ++ b)) := fun w h => (List.mem_cons.mp h).elim (fun e => ha w (List.mem_cons.mpr (Or.inl e))) (fun h => (List.mem_append.mp h).elim (fun h => ha w (List.mem_cons.mpr (Or.inr h))) (hb w))
theorem goodIn_sub {big ws : List Cond} (hm : ∀ w ∈ ws, w ∈ big) (h : ws.all goodWord = true) : GoodIn big ws := fun w hw => ⟨hm w hw, good_of_word (List.all_eq_true.mp h w hw)⟩
/-! ===== END ===== -/

/-! ===== BEGIN new T[n][m]: the outer array a place, the inner ones among the pooled ===== -/
/-- f, but v at every address of l -/
def vr_up {α : Type} (f : Nat → α) (l : List Nat) (v : α) : Nat → α := fun a => if a ∈ l then v else f a
theorem vr_up_in {α : Type} {f : Nat → α} {l : List Nat} {v : α} {a : Nat} (h : a ∈ l) : vr_up f l v a = v := if_pos h
theorem vr_up_ne {α : Type} {f : Nat → α} {l : List Nat} {v : α} {a : Nat} (h : a ∉ l) : vr_up f l v a = f a := if_neg h
theorem vr_rows {L l : List Nat} {f : Nat → va_E} {e : va_E} (h : ∀ a, a ∈ l → a ∉ L) : va_pl L f ++ l.map (fun a => (a, e)) = va_pl (L ++ l) (vr_up f l e) := by
  unfold va_pl
  rw [List.map_append]
  congr 1
  · apply List.map_congr_left
    intro a ha
    rw [vr_up_ne (fun q => h a q ha)]
  · apply List.map_congr_left
    intro a ha
    rw [vr_up_in ha]
theorem vr_lay {X rows : va_W} {x : Nat × va_E} {pl : va_W} {D : va_G} {cl : List vw_C} {H : Heap} (hP : va_P D cl (((X ++ pl) ++ [x]) ++ rows) H) : va_P D cl ((X ++ [x]) ++ (pl ++ rows)) H := by
  rw [List.append_assoc (X ++ pl)] at hP
  have h := va_P.swap hP
  rw [← List.append_assoc X] at h
  have h2 := va_P.swap h
  rw [List.append_assoc (X ++ [x])] at h2
  exact h2
theorem vr_layD {X rows : va_W} {x : Nat × va_E} {pl : va_W} {A : Nat → Prop} (hD : va_D A (((X ++ pl) ++ [x]) ++ rows)) : va_D A ((X ++ [x]) ++ (pl ++ rows)) := by
  rw [List.append_assoc (X ++ pl)] at hD
  have h := va_D.swap hD
  rw [← List.append_assoc X] at h
  have h2 := va_D.swap h
  rw [List.append_assoc (X ++ [x])] at h2
  exact h2
theorem vr_outer (c : ClassId) (N h0 : Nat) : ∀ i : Nat, Jvm.Free.Multi.outerC c N h0 i = arrV c N (fun j => va_rf (if j < i then some (h0 + 1 + j) else none))
  | 0 => by
    show ({ cls := c, slots := Array.replicate N .null, vm := .none } : Cell) = _
    rw [arrV_new]
    refine congrArg (arrV c N) (funext fun j => ?_)
    simp [va_rf]
  | i + 1 => by
    show (Jvm.Free.Multi.outerC c N h0 i).setSlot i (.ref (h0 + 1 + i)) = _
    rw [vr_outer c N h0 i, arrV_store]
    refine congrArg (arrV c N) (funext fun j => ?_)
    by_cases e : j = i
    · subst e
      simp [updV, va_rf]
    · by_cases h : j < i
      · simp [updV, e, h, Nat.lt_succ_of_lt h]
      · simp [updV, e, h, show ¬ j < i + 1 by omega]
/-! ===== END ===== -/

/-! ===== BEGIN printed: names, fields, word lists, decode rows ===== -/
def RX0 : String := "GoodNewsPigeons$Act"
def TX0 : u_T := fun k => match k with
  | 0 => ("GoodNewsPigeons$Act", "bodies", "[I", true)
  | 1 => ("GoodNewsPigeons$Act", "ran", "I", false)
  | 2 => ("GoodNewsPigeons$Act", "i", "I", false)
  | _ => ("GoodNewsPigeons$Act", "v", "I", false)
def tyX0 : Nat → FieldType := fun k => match k with
  | 0 => .array .int
  | 1 => .int
  | 2 => .int
  | _ => .int
abbrev wsX00 : List Cond := u_ws RX0 TX0 4
theorem nmX0 : ∀ a, a < 4 → ∀ b, b < 4 → a ≠ b → (TX0 a).2.1 ≠ (TX0 b).2.1 := by decide +kernel
theorem tyX0_ok : ∀ k, k < 4 → parseFieldDescriptor (TX0 k).2.2.1 = some (tyX0 k) := by decide +kernel
abbrev cX0_init : ByteArray := prog_2_method_1_code
def yX0_init : MethodName := ⟨RX0, "<init>", "()V"⟩
abbrev cX0_starts : ByteArray := prog_2_method_2_code
def yX0_starts : MethodName := ⟨RX0, "starts", "(II)V"⟩
abbrev cX0_begins : ByteArray := prog_2_method_3_code
def yX0_begins : MethodName := ⟨RX0, "begins", "(I)V"⟩
def RX1 : String := "GoodNewsPigeons$Dull"
def TX1 : u_T := fun k => match k with
  | _ => ("", "", "", false)
def tyX1 : Nat → FieldType := fun k => match k with
  | _ => .int
abbrev wsX10 : List Cond := u_ws RX1 TX1 0
theorem nmX1 : ∀ a, a < 0 → ∀ b, b < 0 → a ≠ b → (TX1 a).2.1 ≠ (TX1 b).2.1 := by decide +kernel
theorem tyX1_ok : ∀ k, k < 0 → parseFieldDescriptor (TX1 k).2.2.1 = some (tyX1 k) := by decide +kernel
abbrev cX1_init : ByteArray := prog_3_method_1_code
def yX1_init : MethodName := ⟨RX1, "<init>", "()V"⟩
abbrev cX1_joyFrom : ByteArray := prog_3_method_2_code
def yX1_joyFrom : MethodName := ⟨RX1, "joyFrom", "(ILGoodNewsPigeons$State;II)I"⟩
abbrev cX1_coos : ByteArray := prog_3_method_3_code
def yX1_coos : MethodName := ⟨RX1, "coos", "(LGoodNewsPigeons$Act;I)I"⟩
def RX2 : String := "GoodNewsPigeons$Fancy"
def TX2 : u_T := fun k => match k with
  | _ => ("", "", "", false)
def tyX2 : Nat → FieldType := fun k => match k with
  | _ => .int
abbrev wsX20 : List Cond := u_ws RX2 TX2 0
theorem nmX2 : ∀ a, a < 0 → ∀ b, b < 0 → a ≠ b → (TX2 a).2.1 ≠ (TX2 b).2.1 := by decide +kernel
theorem tyX2_ok : ∀ k, k < 0 → parseFieldDescriptor (TX2 k).2.2.1 = some (tyX2 k) := by decide +kernel
abbrev cX2_init : ByteArray := prog_4_method_1_code
def yX2_init : MethodName := ⟨RX2, "<init>", "()V"⟩
abbrev cX2_joyFrom : ByteArray := prog_4_method_2_code
def yX2_joyFrom : MethodName := ⟨RX2, "joyFrom", "(ILGoodNewsPigeons$State;II)I"⟩
abbrev cX2_flies : ByteArray := prog_4_method_3_code
def yX2_flies : MethodName := ⟨RX2, "flies", "(LGoodNewsPigeons$Act;I)I"⟩
def RX3 : String := "GoodNewsPigeons$Fast"
def TX3 : u_T := fun k => match k with
  | _ => ("", "", "", false)
def tyX3 : Nat → FieldType := fun k => match k with
  | _ => .int
abbrev wsX30 : List Cond := u_ws RX3 TX3 0
theorem nmX3 : ∀ a, a < 0 → ∀ b, b < 0 → a ≠ b → (TX3 a).2.1 ≠ (TX3 b).2.1 := by decide +kernel
theorem tyX3_ok : ∀ k, k < 0 → parseFieldDescriptor (TX3 k).2.2.1 = some (tyX3 k) := by decide +kernel
abbrev cX3_init : ByteArray := prog_5_method_1_code
def yX3_init : MethodName := ⟨RX3, "<init>", "()V"⟩
abbrev cX3_joyFrom : ByteArray := prog_5_method_2_code
def yX3_joyFrom : MethodName := ⟨RX3, "joyFrom", "(ILGoodNewsPigeons$State;II)I"⟩
abbrev cX3_coos : ByteArray := prog_5_method_3_code
def yX3_coos : MethodName := ⟨RX3, "coos", "(LGoodNewsPigeons$Act;I)I"⟩
abbrev cX3_flies : ByteArray := prog_5_method_4_code
def yX3_flies : MethodName := ⟨RX3, "flies", "(LGoodNewsPigeons$Act;I)I"⟩
def RX4 : String := "GoodNewsPigeons$Keen"
def TX4 : u_T := fun k => match k with
  | _ => ("", "", "", false)
def tyX4 : Nat → FieldType := fun k => match k with
  | _ => .int
abbrev wsX40 : List Cond := u_ws RX4 TX4 0
theorem nmX4 : ∀ a, a < 0 → ∀ b, b < 0 → a ≠ b → (TX4 a).2.1 ≠ (TX4 b).2.1 := by decide +kernel
theorem tyX4_ok : ∀ k, k < 0 → parseFieldDescriptor (TX4 k).2.2.1 = some (tyX4 k) := by decide +kernel
abbrev cX4_init : ByteArray := prog_6_method_1_code
def yX4_init : MethodName := ⟨RX4, "<init>", "()V"⟩
abbrev cX4_joyFrom : ByteArray := prog_6_method_2_code
def yX4_joyFrom : MethodName := ⟨RX4, "joyFrom", "(ILGoodNewsPigeons$State;II)I"⟩
abbrev cX4_tells : ByteArray := prog_6_method_3_code
def yX4_tells : MethodName := ⟨RX4, "tells", "(LGoodNewsPigeons$Act;I)I"⟩
def RX5 : String := "GoodNewsPigeons$Loft"
def TX5 : u_T := fun k => match k with
  | 0 => ("GoodNewsPigeons$Loft", "text", "[B", true)
  | 1 => ("GoodNewsPigeons$Loft", "end", "I", false)
  | 2 => ("GoodNewsPigeons$Loft", "at", "I", false)
  | 3 => ("GoodNewsPigeons$Loft", "steps", "[I", true)
  | 4 => ("GoodNewsPigeons$Loft", "stepCount", "I", false)
  | 5 => ("GoodNewsPigeons$Loft", "weights", "[I", true)
  | 6 => ("GoodNewsPigeons$Loft", "starts", "[I", true)
  | 7 => ("GoodNewsPigeons$Loft", "weighed", "I", false)
  | 8 => ("GoodNewsPigeons$Loft", "numbers", "[I", true)
  | _ => ("GoodNewsPigeons$Loft", "rest", "I", false)
def tyX5 : Nat → FieldType := fun k => match k with
  | 0 => .array .byte
  | 1 => .int
  | 2 => .int
  | 3 => .array .int
  | 4 => .int
  | 5 => .array .int
  | 6 => .array .int
  | 7 => .int
  | 8 => .array .int
  | _ => .int
abbrev wsX50 : List Cond := u_ws RX5 TX5 10
theorem nmX5 : ∀ a, a < 10 → ∀ b, b < 10 → a ≠ b → (TX5 a).2.1 ≠ (TX5 b).2.1 := by decide +kernel
theorem tyX5_ok : ∀ k, k < 10 → parseFieldDescriptor (TX5 k).2.2.1 = some (tyX5 k) := by decide +kernel
abbrev cX5_init : ByteArray := prog_7_method_1_code
def yX5_init : MethodName := ⟨RX5, "<init>", "()V"⟩
abbrev cX5_faultOf : ByteArray := prog_7_method_2_code
def yX5_faultOf : MethodName := ⟨RX5, "faultOf", "([BI)I"⟩
abbrev cX5_takesClause : ByteArray := prog_7_method_3_code
def yX5_takesClause : MethodName := ⟨RX5, "takesClause", "()Z"⟩
abbrev cX5_takesRest : ByteArray := prog_7_method_4_code
def yX5_takesRest : MethodName := ⟨RX5, "takesRest", "()Z"⟩
abbrev cX5_takesEither : ByteArray := prog_7_method_5_code
def yX5_takesEither : MethodName := ⟨RX5, "takesEither", "(I)Z"⟩
abbrev cX5_takesOne : ByteArray := prog_7_method_6_code
def yX5_takesOne : MethodName := ⟨RX5, "takesOne", "(I)Z"⟩
abbrev cX5_takesTest : ByteArray := prog_7_method_7_code
def yX5_takesTest : MethodName := ⟨RX5, "takesTest", "()Z"⟩
abbrev cX5_takesSign : ByteArray := prog_7_method_8_code
def yX5_takesSign : MethodName := ⟨RX5, "takesSign", "(C)Z"⟩
abbrev cX5_takesSigns : ByteArray := prog_7_method_9_code
def yX5_takesSigns : MethodName := ⟨RX5, "takesSigns", "(Ljava/lang/String;)Z"⟩
abbrev cX5_takesOneOf : ByteArray := prog_7_method_10_code
def yX5_takesOneOf : MethodName := ⟨RX5, "takesOneOf", "(Ljava/lang/String;)I"⟩
abbrev cX5_takesNumber : ByteArray := prog_7_method_11_code
def yX5_takesNumber : MethodName := ⟨RX5, "takesNumber", "()I"⟩
abbrev cX5_adds : ByteArray := prog_7_method_12_code
def yX5_adds : MethodName := ⟨RX5, "adds", "(I)V"⟩
abbrev cX5_gainBy : ByteArray := prog_7_method_13_code
def yX5_gainBy : MethodName := ⟨RX5, "gainBy", "(LGoodNewsPigeons$State;II)I"⟩
abbrev cX5_isSo : ByteArray := prog_7_method_14_code
def yX5_isSo : MethodName := ⟨RX5, "isSo", "(II)Z"⟩
abbrev cX5_isTrue : ByteArray := prog_7_method_15_code
def yX5_isTrue : MethodName := ⟨RX5, "isTrue", "(I)Z"⟩
def RX6 : String := "GoodNewsPigeons$Old"
def TX6 : u_T := fun k => match k with
  | _ => ("", "", "", false)
def tyX6 : Nat → FieldType := fun k => match k with
  | _ => .int
abbrev wsX60 : List Cond := u_ws RX6 TX6 0
theorem nmX6 : ∀ a, a < 0 → ∀ b, b < 0 → a ≠ b → (TX6 a).2.1 ≠ (TX6 b).2.1 := by decide +kernel
theorem tyX6_ok : ∀ k, k < 0 → parseFieldDescriptor (TX6 k).2.2.1 = some (tyX6 k) := by decide +kernel
abbrev cX6_init : ByteArray := prog_8_method_1_code
def yX6_init : MethodName := ⟨RX6, "<init>", "()V"⟩
abbrev cX6_joyFrom : ByteArray := prog_8_method_2_code
def yX6_joyFrom : MethodName := ⟨RX6, "joyFrom", "(ILGoodNewsPigeons$State;II)I"⟩
abbrev cX6_tells : ByteArray := prog_8_method_3_code
def yX6_tells : MethodName := ⟨RX6, "tells", "(LGoodNewsPigeons$Act;I)I"⟩
def RX7 : String := "GoodNewsPigeons$Pigeon"
def TX7 : u_T := fun k => match k with
  | _ => ("", "", "", false)
def tyX7 : Nat → FieldType := fun k => match k with
  | _ => .int
abbrev wsX70 : List Cond := u_ws RX7 TX7 0
theorem nmX7 : ∀ a, a < 0 → ∀ b, b < 0 → a ≠ b → (TX7 a).2.1 ≠ (TX7 b).2.1 := by decide +kernel
theorem tyX7_ok : ∀ k, k < 0 → parseFieldDescriptor (TX7 k).2.2.1 = some (tyX7 k) := by decide +kernel
abbrev cX7_init : ByteArray := prog_9_method_1_code
def yX7_init : MethodName := ⟨RX7, "<init>", "()V"⟩
abbrev cX7_joyFrom : ByteArray := prog_9_method_2_code
def yX7_joyFrom : MethodName := ⟨RX7, "joyFrom", "(ILGoodNewsPigeons$State;II)I"⟩
abbrev cX7_coos : ByteArray := prog_9_method_3_code
def yX7_coos : MethodName := ⟨RX7, "coos", "(LGoodNewsPigeons$Act;I)I"⟩
abbrev cX7_flies : ByteArray := prog_9_method_4_code
def yX7_flies : MethodName := ⟨RX7, "flies", "(LGoodNewsPigeons$Act;I)I"⟩
abbrev cX7_tells : ByteArray := prog_9_method_5_code
def yX7_tells : MethodName := ⟨RX7, "tells", "(LGoodNewsPigeons$Act;I)I"⟩
def RX8 : String := "GoodNewsPigeons$Rows"
def TX8 : u_T := fun k => match k with
  | 0 => ("GoodNewsPigeons$Rows", "first", "[I", true)
  | 1 => ("GoodNewsPigeons$Rows", "second", "[I", true)
  | 2 => ("GoodNewsPigeons$Rows", "third", "[I", true)
  | _ => ("GoodNewsPigeons$Rows", "size", "I", false)
def tyX8 : Nat → FieldType := fun k => match k with
  | 0 => .array .int
  | 1 => .array .int
  | 2 => .array .int
  | _ => .int
abbrev wsX80 : List Cond := u_ws RX8 TX8 4
theorem nmX8 : ∀ a, a < 4 → ∀ b, b < 4 → a ≠ b → (TX8 a).2.1 ≠ (TX8 b).2.1 := by decide +kernel
theorem tyX8_ok : ∀ k, k < 4 → parseFieldDescriptor (TX8 k).2.2.1 = some (tyX8 k) := by decide +kernel
abbrev cX8_init : ByteArray := prog_10_method_1_code
def yX8_init : MethodName := ⟨RX8, "<init>", "(I)V"⟩
abbrev cX8_takes : ByteArray := prog_10_method_2_code
def yX8_takes : MethodName := ⟨RX8, "takes", "(III)I"⟩
abbrev cX8_empties : ByteArray := prog_10_method_3_code
def yX8_empties : MethodName := ⟨RX8, "empties", "()I"⟩
abbrev cX8_becomeAs : ByteArray := prog_10_method_4_code
def yX8_becomeAs : MethodName := ⟨RX8, "becomeAs", "(LGoodNewsPigeons$Rows;)V"⟩
def RX9 : String := "GoodNewsPigeons$State"
def TX9 : u_T := fun k => match k with
  | 0 => ("GoodNewsPigeons$State", "kinds", "[LGoodNewsPigeons$Pigeon;", true)
  | 1 => ("GoodNewsPigeons$State", "cheer", "[I", true)
  | 2 => ("GoodNewsPigeons$State", "means", "[I", true)
  | 3 => ("GoodNewsPigeons$State", "kind", "[I", true)
  | 4 => ("GoodNewsPigeons$State", "v", "[I", true)
  | 5 => ("GoodNewsPigeons$State", "letter", "[I", true)
  | 6 => ("GoodNewsPigeons$State", "tired", "[I", true)
  | 7 => ("GoodNewsPigeons$State", "flown", "[I", true)
  | 8 => ("GoodNewsPigeons$State", "rows", "[I", true)
  | 9 => ("GoodNewsPigeons$State", "seen", "LGoodNewsPigeons$Rows;", true)
  | 10 => ("GoodNewsPigeons$State", "plan", "LGoodNewsPigeons$Rows;", true)
  | 11 => ("GoodNewsPigeons$State", "book", "LGoodNewsPigeons$Rows;", true)
  | 12 => ("GoodNewsPigeons$State", "size", "I", false)
  | 13 => ("GoodNewsPigeons$State", "known", "I", false)
  | 14 => ("GoodNewsPigeons$State", "day", "I", false)
  | _ => ("GoodNewsPigeons$State", "loft", "LGoodNewsPigeons$Loft;", false)
def tyX9 : Nat → FieldType := fun k => match k with
  | 0 => .array (.object "GoodNewsPigeons$Pigeon")
  | 1 => .array .int
  | 2 => .array .int
  | 3 => .array .int
  | 4 => .array .int
  | 5 => .array .int
  | 6 => .array .int
  | 7 => .array .int
  | 8 => .array .int
  | 9 => .object "GoodNewsPigeons$Rows"
  | 10 => .object "GoodNewsPigeons$Rows"
  | 11 => .object "GoodNewsPigeons$Rows"
  | 12 => .int
  | 13 => .int
  | 14 => .int
  | _ => .object "GoodNewsPigeons$Loft"
abbrev wsX90 : List Cond := u_ws RX9 TX9 16
theorem nmX9 : ∀ a, a < 16 → ∀ b, b < 16 → a ≠ b → (TX9 a).2.1 ≠ (TX9 b).2.1 := by decide +kernel
theorem tyX9_ok : ∀ k, k < 16 → parseFieldDescriptor (TX9 k).2.2.1 = some (tyX9 k) := by decide +kernel
abbrev cX9_init : ByteArray := prog_11_method_1_code
def yX9_init : MethodName := ⟨RX9, "<init>", "()V"⟩
abbrev cX9_becomes : ByteArray := prog_11_method_2_code
def yX9_becomes : MethodName := ⟨RX9, "becomes", "(LGoodNewsPigeons$State;)V"⟩
abbrev cX9_comes : ByteArray := prog_11_method_3_code
def yX9_comes : MethodName := ⟨RX9, "comes", "(II)I"⟩
abbrev cX9_gladness : ByteArray := prog_11_method_4_code
def yX9_gladness : MethodName := ⟨RX9, "gladness", "(II)I"⟩
abbrev cX9_gladnessBy : ByteArray := prog_11_method_5_code
def yX9_gladnessBy : MethodName := ⟨RX9, "gladnessBy", "(III)I"⟩
abbrev cX9_willFlyOff : ByteArray := prog_11_method_6_code
def yX9_willFlyOff : MethodName := ⟨RX9, "willFlyOff", "(I)Z"⟩
abbrev cX9_meaningOf : ByteArray := prog_11_method_7_code
def yX9_meaningOf : MethodName := ⟨RX9, "meaningOf", "(I)I"⟩
abbrev cX9_daysGo : ByteArray := prog_11_method_8_code
def yX9_daysGo : MethodName := ⟨RX9, "daysGo", "(I)V"⟩
abbrev cX9_planned : ByteArray := prog_11_method_9_code
def yX9_planned : MethodName := ⟨RX9, "planned", "(II)V"⟩
abbrev cX9_flownByAll : ByteArray := prog_11_method_10_code
def yX9_flownByAll : MethodName := ⟨RX9, "flownByAll", "()I"⟩
abbrev cX9_isSeenSo : ByteArray := prog_11_method_11_code
def yX9_isSeenSo : MethodName := ⟨RX9, "isSeenSo", "()Z"⟩
def RX10 : String := "GoodNewsPigeons$Told"
def TX10 : u_T := fun k => match k with
  | _ => ("", "", "", false)
def tyX10 : Nat → FieldType := fun k => match k with
  | _ => .int
abbrev wsX100 : List Cond := u_ws RX10 TX10 0
theorem nmX10 : ∀ a, a < 0 → ∀ b, b < 0 → a ≠ b → (TX10 a).2.1 ≠ (TX10 b).2.1 := by decide +kernel
theorem tyX10_ok : ∀ k, k < 0 → parseFieldDescriptor (TX10 k).2.2.1 = some (tyX10 k) := by decide +kernel
abbrev cX10_init : ByteArray := prog_12_method_1_code
def yX10_init : MethodName := ⟨RX10, "<init>", "()V"⟩
abbrev cX10_joyFrom : ByteArray := prog_12_method_2_code
def yX10_joyFrom : MethodName := ⟨RX10, "joyFrom", "(ILGoodNewsPigeons$State;II)I"⟩
abbrev cX10_flies : ByteArray := prog_12_method_3_code
def yX10_flies : MethodName := ⟨RX10, "flies", "(LGoodNewsPigeons$Act;I)I"⟩
abbrev cX10_coos : ByteArray := prog_12_method_4_code
def yX10_coos : MethodName := ⟨RX10, "coos", "(LGoodNewsPigeons$Act;I)I"⟩
def RX11 : String := "GoodNewsPigeons"
def TX11 : u_T := fun k => match k with
  | 0 => ("GoodNewsPigeons", "now", "LGoodNewsPigeons$State;", true)
  | 1 => ("GoodNewsPigeons", "tried", "LGoodNewsPigeons$State;", true)
  | 2 => ("GoodNewsPigeons", "kept", "LGoodNewsPigeons$State;", true)
  | 3 => ("GoodNewsPigeons", "isKept", "Z", false)
  | 4 => ("GoodNewsPigeons", "text", "[B", true)
  | 5 => ("GoodNewsPigeons", "textSize", "I", false)
  | 6 => ("GoodNewsPigeons", "lofts", "[LGoodNewsPigeons$Loft;", true)
  | 7 => ("GoodNewsPigeons", "loftCount", "I", false)
  | 8 => ("GoodNewsPigeons", "gains", "[I", true)
  | 9 => ("GoodNewsPigeons", "acted", "LGoodNewsPigeons$Act;", true)
  | 10 => ("GoodNewsPigeons", "tapeSorts", "[I", true)
  | 11 => ("GoodNewsPigeons", "tapeSizes", "[I", true)
  | _ => ("GoodNewsPigeons", "tapeItems", "[[J", true)
def tyX11 : Nat → FieldType := fun k => match k with
  | 0 => .object "GoodNewsPigeons$State"
  | 1 => .object "GoodNewsPigeons$State"
  | 2 => .object "GoodNewsPigeons$State"
  | 3 => .boolean
  | 4 => .array .byte
  | 5 => .int
  | 6 => .array (.object "GoodNewsPigeons$Loft")
  | 7 => .int
  | 8 => .array .int
  | 9 => .object "GoodNewsPigeons$Act"
  | 10 => .array .int
  | 11 => .array .int
  | _ => .array (.array .long)
abbrev wsX110 : List Cond := u_ws RX11 TX11 13
theorem nmX11 : ∀ a, a < 13 → ∀ b, b < 13 → a ≠ b → (TX11 a).2.1 ≠ (TX11 b).2.1 := by decide +kernel
theorem tyX11_ok : ∀ k, k < 13 → parseFieldDescriptor (TX11 k).2.2.1 = some (tyX11 k) := by decide +kernel
abbrev cX11_init : ByteArray := prog_1_method_1_code
def yX11_init : MethodName := ⟨RX11, "<init>", "()V"⟩
abbrev cX11_pigeon : ByteArray := prog_1_method_2_code
def yX11_pigeon : MethodName := ⟨RX11, "pigeon", "(II)I"⟩
abbrev cX11_of : ByteArray := prog_1_method_3_code
def yX11_of : MethodName := ⟨RX11, "of", "(II)I"⟩
abbrev cX11_joy : ByteArray := prog_1_method_4_code
def yX11_joy : MethodName := ⟨RX11, "joy", "(II)I"⟩
abbrev cX11_letter : ByteArray := prog_1_method_5_code
def yX11_letter : MethodName := ⟨RX11, "letter", "(II)I"⟩
abbrev cX11_tire : ByteArray := prog_1_method_6_code
def yX11_tire : MethodName := ⟨RX11, "tire", "(II)I"⟩
abbrev cX11_phrase : ByteArray := prog_1_method_7_code
def yX11_phrase : MethodName := ⟨RX11, "phrase", "(III)I"⟩
abbrev cX11_row : ByteArray := prog_1_method_8_code
def yX11_row : MethodName := ⟨RX11, "row", "(III)I"⟩
abbrev cX11_feed : ByteArray := prog_1_method_9_code
def yX11_feed : MethodName := ⟨RX11, "feed", "(I)I"⟩
abbrev cX11_loft : ByteArray := prog_1_method_10_code
def yX11_loft : MethodName := ⟨RX11, "loft", "()I"⟩
abbrev cX11_told : ByteArray := prog_1_method_11_code
def yX11_told : MethodName := ⟨RX11, "told", "(I)I"⟩
abbrev cX11_pass : ByteArray := prog_1_method_12_code
def yX11_pass : MethodName := ⟨RX11, "pass", "(I)I"⟩
abbrev cX11_on : ByteArray := prog_1_method_13_code
def yX11_on : MethodName := ⟨RX11, "on", "(II)I"⟩
abbrev cX11_wording : ByteArray := prog_1_method_14_code
def yX11_wording : MethodName := ⟨RX11, "wording", "(II)I"⟩
abbrev cX11_birds : ByteArray := prog_1_method_15_code
def yX11_birds : MethodName := ⟨RX11, "birds", "(I)I"⟩
abbrev cX11_see : ByteArray := prog_1_method_16_code
def yX11_see : MethodName := ⟨RX11, "see", "(IIZ)I"⟩
abbrev cX11_can : ByteArray := prog_1_method_17_code
def yX11_can : MethodName := ⟨RX11, "can", "(II)I"⟩
abbrev cX11_odds : ByteArray := prog_1_method_18_code
def yX11_odds : MethodName := ⟨RX11, "odds", "(II)J"⟩
abbrev cX11_mean : ByteArray := prog_1_method_19_code
def yX11_mean : MethodName := ⟨RX11, "mean", "(I)J"⟩
abbrev cX11_plan : ByteArray := prog_1_method_20_code
def yX11_plan : MethodName := ⟨RX11, "plan", "(II)I"⟩
abbrev cX11_ends : ByteArray := prog_1_method_21_code
def yX11_ends : MethodName := ⟨RX11, "ends", "(I)I"⟩
abbrev cX11_book : ByteArray := prog_1_method_22_code
def yX11_book : MethodName := ⟨RX11, "book", "(II)I"⟩
abbrev cX11_looked : ByteArray := prog_1_method_23_code
def yX11_looked : MethodName := ⟨RX11, "looked", "()I"⟩
abbrev cX11_judge : ByteArray := prog_1_method_24_code
def yX11_judge : MethodName := ⟨RX11, "judge", "(II)I"⟩
abbrev cX11_image : ByteArray := prog_1_method_25_code
def yX11_image : MethodName := ⟨RX11, "image", "()I"⟩
abbrev cX11_undo : ByteArray := prog_1_method_26_code
def yX11_undo : MethodName := ⟨RX11, "undo", "()I"⟩
abbrev cX11_act : ByteArray := prog_1_method_27_code
def yX11_act : MethodName := ⟨RX11, "act", "(III)I"⟩
abbrev cX11_trace : ByteArray := prog_1_method_28_code
def yX11_trace : MethodName := ⟨RX11, "trace", "(I)I"⟩
abbrev cX11_taken : ByteArray := prog_1_method_29_code
def yX11_taken : MethodName := ⟨RX11, "taken", "(II)I"⟩
abbrev cX11_count : ByteArray := prog_1_method_30_code
def yX11_count : MethodName := ⟨RX11, "count", "(I)I"⟩
abbrev cX11_tape : ByteArray := prog_1_method_31_code
def yX11_tape : MethodName := ⟨RX11, "tape", "(III)I"⟩
abbrev cX11_item : ByteArray := prog_1_method_32_code
def yX11_item : MethodName := ⟨RX11, "item", "(IIJ)I"⟩
abbrev cX11_read : ByteArray := prog_1_method_33_code
def yX11_read : MethodName := ⟨RX11, "read", "(II)J"⟩
abbrev cX11_shift : ByteArray := prog_1_method_34_code
def yX11_shift : MethodName := ⟨RX11, "shift", "(IIIII)I"⟩
abbrev cX11_isUpTo : ByteArray := prog_1_method_35_code
def yX11_isUpTo : MethodName := ⟨RX11, "isUpTo", "(II)Z"⟩
abbrev cX11_isPigeon : ByteArray := prog_1_method_36_code
def yX11_isPigeon : MethodName := ⟨RX11, "isPigeon", "(I)Z"⟩
abbrev cX11_isWord : ByteArray := prog_1_method_37_code
def yX11_isWord : MethodName := ⟨RX11, "isWord", "(I)Z"⟩
abbrev cX11_isTape : ByteArray := prog_1_method_38_code
def yX11_isTape : MethodName := ⟨RX11, "isTape", "(I)Z"⟩
abbrev cX11_isPlace : ByteArray := prog_1_method_39_code
def yX11_isPlace : MethodName := ⟨RX11, "isPlace", "(II)Z"⟩
abbrev cX11_cut : ByteArray := prog_1_method_40_code
def yX11_cut : MethodName := ⟨RX11, "cut", "(IJ)J"⟩
abbrev cX11_isUnder : ByteArray := prog_1_method_41_code
def yX11_isUnder : MethodName := ⟨RX11, "isUnder", "(LGoodNewsPigeons$Pigeon;I)Z"⟩
abbrev cX11_lowestTerm : ByteArray := prog_1_method_42_code
def yX11_lowestTerm : MethodName := ⟨RX11, "lowestTerm", "(III)J"⟩
abbrev cX11_willing : ByteArray := prog_1_method_43_code
def yX11_willing : MethodName := ⟨RX11, "willing", "()I"⟩
abbrev cX11_broughtBy : ByteArray := prog_1_method_44_code
def yX11_broughtBy : MethodName := ⟨RX11, "broughtBy", "(I)I"⟩
abbrev cX11_spareOf : ByteArray := prog_1_method_45_code
def yX11_spareOf : MethodName := ⟨RX11, "spareOf", "(I)I"⟩
abbrev cX11_comesOf : ByteArray := prog_1_method_46_code
def yX11_comesOf : MethodName := ⟨RX11, "comesOf", "(I)I"⟩
abbrev cX11_cheersOf : ByteArray := prog_1_method_47_code
def yX11_cheersOf : MethodName := ⟨RX11, "cheersOf", "(I)I"⟩
def RX12 : String := "GoodNewsPigeonsModel"
def TX12 : u_T := fun k => match k with
  | 0 => ("GoodNewsPigeonsModel", "cheer", "[I", true)
  | 1 => ("GoodNewsPigeonsModel", "means", "[I", true)
  | 2 => ("GoodNewsPigeonsModel", "known", "I", false)
  | 3 => ("GoodNewsPigeonsModel", "pigeons", "I", false)
  | 4 => ("GoodNewsPigeonsModel", "kind", "[I", true)
  | 5 => ("GoodNewsPigeonsModel", "v", "[I", true)
  | 6 => ("GoodNewsPigeonsModel", "letter", "[I", true)
  | 7 => ("GoodNewsPigeonsModel", "tired", "[I", true)
  | 8 => ("GoodNewsPigeonsModel", "flown", "[I", true)
  | 9 => ("GoodNewsPigeonsModel", "rows", "[I", true)
  | 10 => ("GoodNewsPigeonsModel", "day", "I", false)
  | 11 => ("GoodNewsPigeonsModel", "texted", "I", false)
  | 12 => ("GoodNewsPigeonsModel", "text", "[I", true)
  | 13 => ("GoodNewsPigeonsModel", "at", "I", false)
  | 14 => ("GoodNewsPigeonsModel", "value", "I", false)
  | 15 => ("GoodNewsPigeonsModel", "digits", "I", false)
  | 16 => ("GoodNewsPigeonsModel", "open", "I", false)
  | 17 => ("GoodNewsPigeonsModel", "lofts", "I", false)
  | 18 => ("GoodNewsPigeonsModel", "holds", "I", false)
  | 19 => ("GoodNewsPigeonsModel", "clauses", "[I", true)
  | 20 => ("GoodNewsPigeonsModel", "word", "[I", true)
  | 21 => ("GoodNewsPigeonsModel", "number", "[I", true)
  | 22 => ("GoodNewsPigeonsModel", "begins", "[I", true)
  | 23 => ("GoodNewsPigeonsModel", "length", "[I", true)
  | 24 => ("GoodNewsPigeonsModel", "code", "[I", true)
  | 25 => ("GoodNewsPigeonsModel", "coded", "I", false)
  | 26 => ("GoodNewsPigeonsModel", "stack", "[Z", true)
  | 27 => ("GoodNewsPigeonsModel", "seen", "I", false)
  | 28 => ("GoodNewsPigeonsModel", "seenBy", "[I", true)
  | 29 => ("GoodNewsPigeonsModel", "seenOf", "[I", true)
  | 30 => ("GoodNewsPigeonsModel", "seenSo", "[I", true)
  | 31 => ("GoodNewsPigeonsModel", "inPlan", "I", false)
  | 32 => ("GoodNewsPigeonsModel", "goes", "[I", true)
  | 33 => ("GoodNewsPigeonsModel", "whose", "[I", true)
  | 34 => ("GoodNewsPigeonsModel", "inBook", "I", false)
  | 35 => ("GoodNewsPigeonsModel", "booked", "[I", true)
  | 36 => ("GoodNewsPigeonsModel", "bookCheer", "[I", true)
  | 37 => ("GoodNewsPigeonsModel", "traced", "I", false)
  | 38 => ("GoodNewsPigeonsModel", "traces", "[I", true)
  | 39 => ("GoodNewsPigeonsModel", "imaged", "Z", false)
  | 40 => ("GoodNewsPigeonsModel", "image", "[I", true)
  | 41 => ("GoodNewsPigeonsModel", "ahead", "[I", true)
  | 42 => ("GoodNewsPigeonsModel", "tapeSort", "[I", true)
  | 43 => ("GoodNewsPigeonsModel", "tapeSize", "[I", true)
  | _ => ("GoodNewsPigeonsModel", "items", "[J", true)
def tyX12 : Nat → FieldType := fun k => match k with
  | 0 => .array .int
  | 1 => .array .int
  | 2 => .int
  | 3 => .int
  | 4 => .array .int
  | 5 => .array .int
  | 6 => .array .int
  | 7 => .array .int
  | 8 => .array .int
  | 9 => .array .int
  | 10 => .int
  | 11 => .int
  | 12 => .array .int
  | 13 => .int
  | 14 => .int
  | 15 => .int
  | 16 => .int
  | 17 => .int
  | 18 => .int
  | 19 => .array .int
  | 20 => .array .int
  | 21 => .array .int
  | 22 => .array .int
  | 23 => .array .int
  | 24 => .array .int
  | 25 => .int
  | 26 => .array .boolean
  | 27 => .int
  | 28 => .array .int
  | 29 => .array .int
  | 30 => .array .int
  | 31 => .int
  | 32 => .array .int
  | 33 => .array .int
  | 34 => .int
  | 35 => .array .int
  | 36 => .array .int
  | 37 => .int
  | 38 => .array .int
  | 39 => .boolean
  | 40 => .array .int
  | 41 => .array .int
  | 42 => .array .int
  | 43 => .array .int
  | _ => .array .long
abbrev wsX120 : List Cond := u_ws RX12 TX12 45
theorem nmX12 : ∀ a, a < 45 → ∀ b, b < 45 → a ≠ b → (TX12 a).2.1 ≠ (TX12 b).2.1 := by decide +kernel
theorem tyX12_ok : ∀ k, k < 45 → parseFieldDescriptor (TX12 k).2.2.1 = some (tyX12 k) := by decide +kernel
abbrev cX12_init : ByteArray := prog_14_method_1_code
def yX12_init : MethodName := ⟨RX12, "<init>", "()V"⟩
abbrev cX12_within : ByteArray := prog_14_method_2_code
def yX12_within : MethodName := ⟨RX12, "within", "(III)Z"⟩
abbrev cX12_isOne : ByteArray := prog_14_method_3_code
def yX12_isOne : MethodName := ⟨RX12, "isOne", "(I)Z"⟩
abbrev cX12_isWord : ByteArray := prog_14_method_4_code
def yX12_isWord : MethodName := ⟨RX12, "isWord", "(I)Z"⟩
abbrev cX12_areWords : ByteArray := prog_14_method_5_code
def yX12_areWords : MethodName := ⟨RX12, "areWords", "(I)Z"⟩
abbrev cX12_has : ByteArray := prog_14_method_6_code
def yX12_has : MethodName := ⟨RX12, "has", "(II)Z"⟩
abbrev cX12_pigeon : ByteArray := prog_14_method_7_code
def yX12_pigeon : MethodName := ⟨RX12, "pigeon", "(II)I"⟩
abbrev cX12_of : ByteArray := prog_14_method_8_code
def yX12_of : MethodName := ⟨RX12, "of", "(II)I"⟩
abbrev cX12_joy : ByteArray := prog_14_method_9_code
def yX12_joy : MethodName := ⟨RX12, "joy", "(II)I"⟩
abbrev cX12_letter : ByteArray := prog_14_method_10_code
def yX12_letter : MethodName := ⟨RX12, "letter", "(II)I"⟩
abbrev cX12_tire : ByteArray := prog_14_method_11_code
def yX12_tire : MethodName := ⟨RX12, "tire", "(II)I"⟩
abbrev cX12_phrase : ByteArray := prog_14_method_12_code
def yX12_phrase : MethodName := ⟨RX12, "phrase", "(III)I"⟩
abbrev cX12_row : ByteArray := prog_14_method_13_code
def yX12_row : MethodName := ⟨RX12, "row", "(III)I"⟩
abbrev cX12_feed : ByteArray := prog_14_method_14_code
def yX12_feed : MethodName := ⟨RX12, "feed", "(I)I"⟩
abbrev cX12_is : ByteArray := prog_14_method_15_code
def yX12_is : MethodName := ⟨RX12, "is", "(I)Z"⟩
abbrev cX12_isDigit : ByteArray := prog_14_method_16_code
def yX12_isDigit : MethodName := ⟨RX12, "isDigit", "()Z"⟩
abbrev cX12_isNumber : ByteArray := prog_14_method_17_code
def yX12_isNumber : MethodName := ⟨RX12, "isNumber", "()Z"⟩
abbrev cX12_isAll : ByteArray := prog_14_method_18_code
def yX12_isAll : MethodName := ⟨RX12, "isAll", "(Ljava/lang/String;)Z"⟩
abbrev cX12_codes : ByteArray := prog_14_method_19_code
def yX12_codes : MethodName := ⟨RX12, "codes", "(I)Z"⟩
abbrev cX12_isTest : ByteArray := prog_14_method_20_code
def yX12_isTest : MethodName := ⟨RX12, "isTest", "()Z"⟩
abbrev cX12_isOpened : ByteArray := prog_14_method_21_code
def yX12_isOpened : MethodName := ⟨RX12, "isOpened", "(I)Z"⟩
abbrev cX12_isF : ByteArray := prog_14_method_22_code
def yX12_isF : MethodName := ⟨RX12, "isF", "()Z"⟩
abbrev cX12_isT : ByteArray := prog_14_method_23_code
def yX12_isT : MethodName := ⟨RX12, "isT", "()Z"⟩
abbrev cX12_isE : ByteArray := prog_14_method_24_code
def yX12_isE : MethodName := ⟨RX12, "isE", "()Z"⟩
abbrev cX12_isClause : ByteArray := prog_14_method_25_code
def yX12_isClause : MethodName := ⟨RX12, "isClause", "(I)Z"⟩
abbrev cX12_loft : ByteArray := prog_14_method_26_code
def yX12_loft : MethodName := ⟨RX12, "loft", "()I"⟩
abbrev cX12_letterOf : ByteArray := prog_14_method_27_code
def yX12_letterOf : MethodName := ⟨RX12, "letterOf", "(III)I"⟩
abbrev cX12_isTrue : ByteArray := prog_14_method_28_code
def yX12_isTrue : MethodName := ⟨RX12, "isTrue", "(III)Z"⟩
abbrev cX12_sum : ByteArray := prog_14_method_29_code
def yX12_sum : MethodName := ⟨RX12, "sum", "(II)I"⟩
abbrev cX12_restBy : ByteArray := prog_14_method_30_code
def yX12_restBy : MethodName := ⟨RX12, "restBy", "()I"⟩
abbrev cX12_grimmest : ByteArray := prog_14_method_31_code
def yX12_grimmest : MethodName := ⟨RX12, "grimmest", "(I)I"⟩
abbrev cX12_joyOf : ByteArray := prog_14_method_32_code
def yX12_joyOf : MethodName := ⟨RX12, "joyOf", "(II)I"⟩
abbrev cX12_mayFly : ByteArray := prog_14_method_33_code
def yX12_mayFly : MethodName := ⟨RX12, "mayFly", "(I)Z"⟩
abbrev cX12_meant : ByteArray := prog_14_method_34_code
def yX12_meant : MethodName := ⟨RX12, "meant", "(I)I"⟩
abbrev cX12_goesDay : ByteArray := prog_14_method_35_code
def yX12_goesDay : MethodName := ⟨RX12, "goesDay", "()V"⟩
abbrev cX12_ready : ByteArray := prog_14_method_36_code
def yX12_ready : MethodName := ⟨RX12, "ready", "()I"⟩
abbrev cX12_allFlown : ByteArray := prog_14_method_37_code
def yX12_allFlown : MethodName := ⟨RX12, "allFlown", "()I"⟩
abbrev cX12_told : ByteArray := prog_14_method_38_code
def yX12_told : MethodName := ⟨RX12, "told", "(I)I"⟩
abbrev cX12_pass : ByteArray := prog_14_method_39_code
def yX12_pass : MethodName := ⟨RX12, "pass", "(I)I"⟩
abbrev cX12_on : ByteArray := prog_14_method_40_code
def yX12_on : MethodName := ⟨RX12, "on", "(II)I"⟩
abbrev cX12_comes : ByteArray := prog_14_method_41_code
def yX12_comes : MethodName := ⟨RX12, "comes", "(I)I"⟩
abbrev cX12_wording : ByteArray := prog_14_method_42_code
def yX12_wording : MethodName := ⟨RX12, "wording", "(II)I"⟩
abbrev cX12_birds : ByteArray := prog_14_method_43_code
def yX12_birds : MethodName := ⟨RX12, "birds", "(I)I"⟩
abbrev cX12_spare : ByteArray := prog_14_method_44_code
def yX12_spare : MethodName := ⟨RX12, "spare", "(I)I"⟩
abbrev cX12_see : ByteArray := prog_14_method_45_code
def yX12_see : MethodName := ⟨RX12, "see", "(IIZ)I"⟩
abbrev cX12_isSeen : ByteArray := prog_14_method_46_code
def yX12_isSeen : MethodName := ⟨RX12, "isSeen", "()Z"⟩
abbrev cX12_cheers : ByteArray := prog_14_method_47_code
def yX12_cheers : MethodName := ⟨RX12, "cheers", "(I)I"⟩
abbrev cX12_can : ByteArray := prog_14_method_48_code
def yX12_can : MethodName := ⟨RX12, "can", "(II)I"⟩
abbrev cX12_part : ByteArray := prog_14_method_49_code
def yX12_part : MethodName := ⟨RX12, "part", "(JJI)J"⟩
abbrev cX12_odds : ByteArray := prog_14_method_50_code
def yX12_odds : MethodName := ⟨RX12, "odds", "(II)J"⟩
abbrev cX12_mean : ByteArray := prog_14_method_51_code
def yX12_mean : MethodName := ⟨RX12, "mean", "(I)J"⟩
abbrev cX12_plan : ByteArray := prog_14_method_52_code
def yX12_plan : MethodName := ⟨RX12, "plan", "(II)I"⟩
abbrev cX12_ends : ByteArray := prog_14_method_53_code
def yX12_ends : MethodName := ⟨RX12, "ends", "(I)I"⟩
abbrev cX12_book : ByteArray := prog_14_method_54_code
def yX12_book : MethodName := ⟨RX12, "book", "(II)I"⟩
abbrev cX12_looked : ByteArray := prog_14_method_55_code
def yX12_looked : MethodName := ⟨RX12, "looked", "()I"⟩
abbrev cX12_judge : ByteArray := prog_14_method_56_code
def yX12_judge : MethodName := ⟨RX12, "judge", "(II)I"⟩
abbrev cX12_keep : ByteArray := prog_14_method_57_code
def yX12_keep : MethodName := ⟨RX12, "keep", "([I)V"⟩
abbrev cX12_again : ByteArray := prog_14_method_58_code
def yX12_again : MethodName := ⟨RX12, "again", "([I)V"⟩
abbrev cX12_image : ByteArray := prog_14_method_59_code
def yX12_image : MethodName := ⟨RX12, "image", "()I"⟩
abbrev cX12_undo : ByteArray := prog_14_method_60_code
def yX12_undo : MethodName := ⟨RX12, "undo", "()I"⟩
abbrev cX12_ran : ByteArray := prog_14_method_61_code
def yX12_ran : MethodName := ⟨RX12, "ran", "(I)V"⟩
abbrev cX12_above : ByteArray := prog_14_method_62_code
def yX12_above : MethodName := ⟨RX12, "above", "(I)I"⟩
abbrev cX12_coos : ByteArray := prog_14_method_63_code
def yX12_coos : MethodName := ⟨RX12, "coos", "(III)I"⟩
abbrev cX12_flies : ByteArray := prog_14_method_64_code
def yX12_flies : MethodName := ⟨RX12, "flies", "(III)I"⟩
abbrev cX12_tells : ByteArray := prog_14_method_65_code
def yX12_tells : MethodName := ⟨RX12, "tells", "(III)I"⟩
abbrev cX12_act : ByteArray := prog_14_method_66_code
def yX12_act : MethodName := ⟨RX12, "act", "(III)I"⟩
abbrev cX12_trace : ByteArray := prog_14_method_67_code
def yX12_trace : MethodName := ⟨RX12, "trace", "(I)I"⟩
abbrev cX12_taken : ByteArray := prog_14_method_68_code
def yX12_taken : MethodName := ⟨RX12, "taken", "(II)I"⟩
abbrev cX12_count : ByteArray := prog_14_method_69_code
def yX12_count : MethodName := ⟨RX12, "count", "(I)I"⟩
abbrev cX12_isTape : ByteArray := prog_14_method_70_code
def yX12_isTape : MethodName := ⟨RX12, "isTape", "(I)Z"⟩
abbrev cX12_tape : ByteArray := prog_14_method_71_code
def yX12_tape : MethodName := ⟨RX12, "tape", "(III)I"⟩
abbrev cX12_kept : ByteArray := prog_14_method_72_code
def yX12_kept : MethodName := ⟨RX12, "kept", "(IJ)J"⟩
abbrev cX12_item : ByteArray := prog_14_method_73_code
def yX12_item : MethodName := ⟨RX12, "item", "(IIJ)I"⟩
abbrev cX12_read : ByteArray := prog_14_method_74_code
def yX12_read : MethodName := ⟨RX12, "read", "(II)J"⟩
abbrev cX12_shift : ByteArray := prog_14_method_75_code
def yX12_shift : MethodName := ⟨RX12, "shift", "(IIIII)I"⟩
def RJ11 : String := "java/lang/Character"
def TJ11 : u_T := fun k => match k with
  | _ => ("", "", "", false)
def tyJ11 : Nat → FieldType := fun k => match k with
  | _ => .int
abbrev wsJ110 : List Cond := u_ws RJ11 TJ11 0
theorem nmJ11 : ∀ a, a < 0 → ∀ b, b < 0 → a ≠ b → (TJ11 a).2.1 ≠ (TJ11 b).2.1 := by decide +kernel
theorem tyJ11_ok : ∀ k, k < 0 → parseFieldDescriptor (TJ11 k).2.2.1 = some (tyJ11 k) := by decide +kernel
abbrev cJ11_isValidCodePoint_9a6ad : ByteArray := prog_15_method_11_code
def yJ11_isValidCodePoint_9a6ad : MethodName := ⟨RJ11, "isValidCodePoint", "(I)Z"⟩
abbrev cJ11_highSurrogate_5068e : ByteArray := prog_15_method_28_code
def yJ11_highSurrogate_5068e : MethodName := ⟨RJ11, "highSurrogate", "(I)C"⟩
abbrev cJ11_lowSurrogate_5068e : ByteArray := prog_15_method_29_code
def yJ11_lowSurrogate_5068e : MethodName := ⟨RJ11, "lowSurrogate", "(I)C"⟩
def RJ6 : String := "java/lang/Integer"
def TJ6 : u_T := fun k => match k with
  | _ => ("", "", "", false)
def tyJ6 : Nat → FieldType := fun k => match k with
  | _ => .int
abbrev wsJ60 : List Cond := u_ws RJ6 TJ6 0
theorem nmJ6 : ∀ a, a < 0 → ∀ b, b < 0 → a ≠ b → (TJ6 a).2.1 ≠ (TJ6 b).2.1 := by decide +kernel
theorem tyJ6_ok : ∀ k, k < 0 → parseFieldDescriptor (TJ6 k).2.2.1 = some (tyJ6 k) := by decide +kernel
abbrev cJ6_bitCount_0f7a4 : ByteArray := prog_16_method_49_code
def yJ6_bitCount_0f7a4 : MethodName := ⟨RJ6, "bitCount", "(I)I"⟩
def RJ9 : String := "java/lang/Math"
def TJ9 : u_T := fun k => match k with
  | _ => ("", "", "", false)
def tyJ9 : Nat → FieldType := fun k => match k with
  | _ => .int
abbrev wsJ90 : List Cond := u_ws RJ9 TJ9 0
theorem nmJ9 : ∀ a, a < 0 → ∀ b, b < 0 → a ≠ b → (TJ9 a).2.1 ≠ (TJ9 b).2.1 := by decide +kernel
theorem tyJ9_ok : ∀ k, k < 0 → parseFieldDescriptor (TJ9 k).2.2.1 = some (tyJ9 k) := by decide +kernel
abbrev cJ9_abs_067f4 : ByteArray := prog_17_method_61_code
def yJ9_abs_067f4 : MethodName := ⟨RJ9, "abs", "(J)J"⟩
abbrev cJ9_max_7cf53 : ByteArray := prog_17_method_65_code
def yJ9_max_7cf53 : MethodName := ⟨RJ9, "max", "(II)I"⟩
abbrev cJ9_min_7cf53 : ByteArray := prog_17_method_69_code
def yJ9_min_7cf53 : MethodName := ⟨RJ9, "min", "(II)I"⟩
def RJ0 : String := "java/lang/String"
def TJ0 : u_T := fun k => match k with
  | _ => ("", "", "", false)
def tyJ0 : Nat → FieldType := fun k => match k with
  | _ => .int
abbrev wsJ00 : List Cond := u_ws RJ0 TJ0 0
theorem nmJ0 : ∀ a, a < 0 → ∀ b, b < 0 → a ≠ b → (TJ0 a).2.1 ≠ (TJ0 b).2.1 := by decide +kernel
theorem tyJ0_ok : ∀ k, k < 0 → parseFieldDescriptor (TJ0 k).2.2.1 = some (tyJ0 k) := by decide +kernel
abbrev cJ0_length_8abf5 : ByteArray := prog_18_method_54_code
def yJ0_length_8abf5 : MethodName := ⟨RJ0, "length", "()I"⟩
abbrev cJ0_charAt_5068e : ByteArray := prog_18_method_56_code
def yJ0_charAt_5068e : MethodName := ⟨RJ0, "charAt", "(I)C"⟩
abbrev cJ0_indexOf_0f7a4 : ByteArray := prog_18_method_79_code
def yJ0_indexOf_0f7a4 : MethodName := ⟨RJ0, "indexOf", "(I)I"⟩
abbrev cJ0_indexOf_7cf53 : ByteArray := prog_18_method_80_code
def yJ0_indexOf_7cf53 : MethodName := ⟨RJ0, "indexOf", "(II)I"⟩
abbrev cJ0_coder_7d493 : ByteArray := prog_18_method_152_code
def yJ0_coder_7d493 : MethodName := ⟨RJ0, "coder", "()B"⟩
abbrev cJ0_isLatin1_aae02 : ByteArray := prog_18_method_154_code
def yJ0_isLatin1_aae02 : MethodName := ⟨RJ0, "isLatin1", "()Z"⟩
abbrev cJ0_checkIndex_df160 : ByteArray := prog_18_method_155_code
def yJ0_checkIndex_df160 : MethodName := ⟨RJ0, "checkIndex", "(II)V"⟩
abbrev cJ0_checkBoundsBeginEnd_23922 : ByteArray := prog_18_method_158_code
def yJ0_checkBoundsBeginEnd_23922 : MethodName := ⟨RJ0, "checkBoundsBeginEnd", "(III)V"⟩
def RJ1 : String := "java/lang/StringLatin1"
def TJ1 : u_T := fun k => match k with
  | _ => ("", "", "", false)
def tyJ1 : Nat → FieldType := fun k => match k with
  | _ => .int
abbrev wsJ10 : List Cond := u_ws RJ1 TJ1 0
theorem nmJ1 : ∀ a, a < 0 → ∀ b, b < 0 → a ≠ b → (TJ1 a).2.1 ≠ (TJ1 b).2.1 := by decide +kernel
theorem tyJ1_ok : ∀ k, k < 0 → parseFieldDescriptor (TJ1 k).2.2.1 = some (tyJ1 k) := by decide +kernel
abbrev cJ1_charAt_3b067 : ByteArray := prog_19_method_2_code
def yJ1_charAt_3b067 : MethodName := ⟨RJ1, "charAt", "([BI)C"⟩
abbrev cJ1_canEncode_9a6ad : ByteArray := prog_19_method_4_code
def yJ1_canEncode_9a6ad : MethodName := ⟨RJ1, "canEncode", "(I)Z"⟩
abbrev cJ1_indexOf_4cfef : ByteArray := prog_19_method_22_code
def yJ1_indexOf_4cfef : MethodName := ⟨RJ1, "indexOf", "([BIII)I"⟩
abbrev cJ1_indexOfChar_4cfef : ByteArray := prog_19_method_23_code
def yJ1_indexOfChar_4cfef : MethodName := ⟨RJ1, "indexOfChar", "([BIII)I"⟩
def RJ2 : String := "java/lang/StringUTF16"
def TJ2 : u_T := fun k => match k with
  | _ => ("", "", "", false)
def tyJ2 : Nat → FieldType := fun k => match k with
  | _ => .int
abbrev wsJ20 : List Cond := u_ws RJ2 TJ2 0
theorem nmJ2 : ∀ a, a < 0 → ∀ b, b < 0 → a ≠ b → (TJ2 a).2.1 ≠ (TJ2 b).2.1 := by decide +kernel
theorem tyJ2_ok : ∀ k, k < 0 → parseFieldDescriptor (TJ2 k).2.2.1 = some (tyJ2 k) := by decide +kernel
abbrev cJ2_getChar_3b067 : ByteArray := prog_20_method_5_code
def yJ2_getChar_3b067 : MethodName := ⟨RJ2, "getChar", "([BI)C"⟩
abbrev cJ2_length_9d52b : ByteArray := prog_20_method_6_code
def yJ2_length_9d52b : MethodName := ⟨RJ2, "length", "([B)I"⟩
abbrev cJ2_indexOf_4cfef : ByteArray := prog_20_method_40_code
def yJ2_indexOf_4cfef : MethodName := ⟨RJ2, "indexOf", "([BIII)I"⟩
abbrev cJ2_indexOfChar_4cfef : ByteArray := prog_20_method_47_code
def yJ2_indexOfChar_4cfef : MethodName := ⟨RJ2, "indexOfChar", "([BIII)I"⟩
abbrev cJ2_indexOfCharUnsafe_4cfef : ByteArray := prog_20_method_48_code
def yJ2_indexOfCharUnsafe_4cfef : MethodName := ⟨RJ2, "indexOfCharUnsafe", "([BIII)I"⟩
abbrev cJ2_indexOfSupplementary_4cfef : ByteArray := prog_20_method_49_code
def yJ2_indexOfSupplementary_4cfef : MethodName := ⟨RJ2, "indexOfSupplementary", "([BIII)I"⟩
abbrev cJ2_charAt_3b067 : ByteArray := prog_20_method_83_code
def yJ2_charAt_3b067 : MethodName := ⟨RJ2, "charAt", "([BI)C"⟩
abbrev cJ2_checkIndex_2214a : ByteArray := prog_20_method_91_code
def yJ2_checkIndex_2214a : MethodName := ⟨RJ2, "checkIndex", "(I[B)V"⟩
abbrev cJ2_checkBoundsBeginEnd_d044e : ByteArray := prog_20_method_93_code
def yJ2_checkBoundsBeginEnd_d044e : MethodName := ⟨RJ2, "checkBoundsBeginEnd", "(II[B)V"⟩
def RJ10 : String := "java/lang/System"
def TJ10 : u_T := fun k => match k with
  | _ => ("", "", "", false)
def tyJ10 : Nat → FieldType := fun k => match k with
  | _ => .int
abbrev wsJ100 : List Cond := u_ws RJ10 TJ10 0
theorem nmJ10 : ∀ a, a < 0 → ∀ b, b < 0 → a ≠ b → (TJ10 a).2.1 ≠ (TJ10 b).2.1 := by decide +kernel
theorem tyJ10_ok : ∀ k, k < 0 → parseFieldDescriptor (TJ10 k).2.2.1 = some (tyJ10 k) := by decide +kernel
def RJ3 : String := "jdk/internal/util/Preconditions"
def TJ3 : u_T := fun k => match k with
  | _ => ("", "", "", false)
def tyJ3 : Nat → FieldType := fun k => match k with
  | _ => .int
abbrev wsJ30 : List Cond := u_ws RJ3 TJ3 0
theorem nmJ3 : ∀ a, a < 0 → ∀ b, b < 0 → a ≠ b → (TJ3 a).2.1 ≠ (TJ3 b).2.1 := by decide +kernel
theorem tyJ3_ok : ∀ k, k < 0 → parseFieldDescriptor (TJ3 k).2.2.1 = some (tyJ3 k) := by decide +kernel
abbrev cJ3_checkIndex_8e157 : ByteArray := prog_22_method_11_code
def yJ3_checkIndex_8e157 : MethodName := ⟨RJ3, "checkIndex", "(IILjava/util/function/BiFunction;)I"⟩
abbrev cJ3_checkFromToIndex_8c36e : ByteArray := prog_22_method_12_code
def yJ3_checkFromToIndex_8c36e : MethodName := ⟨RJ3, "checkFromToIndex", "(IIILjava/util/function/BiFunction;)I"⟩
def RL : String := "GoodNewsPigeonsLaw"
abbrev cL_law : ByteArray := code
def yL_law : MethodName := ⟨RL, "law", "([I)Z"⟩
def wsL_law_r1 : List Cond := [Cond.classLink RL 7 RX11, Cond.instantiable RX11 13, Cond.initialized RX11, Cond.classLink RL 10 RX12, Cond.instantiable RX12 45, Cond.initialized RX12, Cond.constantLong RL 140 (4294967295), Cond.methodLink RL 9 yX11_init, Cond.instanceMethod yX11_init, Cond.code yX11_init cX11_init 2 none, Cond.methodLink RX11 3 objectInit, Cond.instanceMethod objectInit, Cond.code objectInit ⟨#[0xb1]⟩ 1 none, Cond.classLink RX11 9 RX9, Cond.instantiable RX9 16, Cond.initialized RX9, Cond.fieldLink RX11 12 "GoodNewsPigeons" "now" "LGoodNewsPigeons$State;", Cond.fieldLink RX11 18 "GoodNewsPigeons" "tried" "LGoodNewsPigeons$State;", Cond.fieldLink RX11 21 "GoodNewsPigeons" "kept" "LGoodNewsPigeons$State;", Cond.arrayClass .byte, Cond.fieldLink RX11 24 "GoodNewsPigeons" "text" "[B", Cond.classLink RX11 28 RX5, Cond.fieldLink RX11 30 "GoodNewsPigeons" "lofts" "[LGoodNewsPigeons$Loft;", Cond.arrayClass .int]
def wsL_law_r2 : List Cond := [Cond.fieldLink RX11 34 "GoodNewsPigeons" "gains" "[I", Cond.classLink RX11 38 RX0, Cond.instantiable RX0 4, Cond.initialized RX0, Cond.fieldLink RX11 41 "GoodNewsPigeons" "acted" "LGoodNewsPigeons$Act;", Cond.fieldLink RX11 45 "GoodNewsPigeons" "tapeSorts" "[I", Cond.fieldLink RX11 48 "GoodNewsPigeons" "tapeSizes" "[I", Cond.classLink RX11 51 "[[J", Cond.arrayClass .long, Cond.fieldLink RX11 53 "GoodNewsPigeons" "tapeItems" "[[J", Cond.instantiable RX5 10, Cond.initialized RX5, Cond.methodLink RX11 11 yX9_init, Cond.instanceMethod yX9_init, Cond.code yX9_init cX9_init 2 none, Cond.methodLink RX9 3 objectInit, Cond.classLink RX9 9 RX7, Cond.fieldLink RX9 11 "GoodNewsPigeons$State" "kinds" "[LGoodNewsPigeons$Pigeon;", Cond.fieldLink RX9 17 "GoodNewsPigeons$State" "cheer" "[I", Cond.fieldLink RX9 21 "GoodNewsPigeons$State" "means" "[I", Cond.fieldLink RX9 24 "GoodNewsPigeons$State" "kind" "[I", Cond.fieldLink RX9 27 "GoodNewsPigeons$State" "v" "[I", Cond.fieldLink RX9 30 "GoodNewsPigeons$State" "letter" "[I", Cond.fieldLink RX9 33 "GoodNewsPigeons$State" "tired" "[I"]
def wsL_law_r3 : List Cond := [Cond.fieldLink RX9 36 "GoodNewsPigeons$State" "flown" "[I", Cond.fieldLink RX9 39 "GoodNewsPigeons$State" "rows" "[I", Cond.classLink RX9 42 RX8, Cond.instantiable RX8 4, Cond.initialized RX8, Cond.fieldLink RX9 47 "GoodNewsPigeons$State" "seen" "LGoodNewsPigeons$Rows;", Cond.fieldLink RX9 51 "GoodNewsPigeons$State" "plan" "LGoodNewsPigeons$Rows;", Cond.fieldLink RX9 54 "GoodNewsPigeons$State" "book" "LGoodNewsPigeons$Rows;", Cond.classLink RX9 57 RX5, Cond.fieldLink RX9 60 "GoodNewsPigeons$State" "loft" "LGoodNewsPigeons$Loft;", Cond.instantiable RX7 0, Cond.initialized RX7, Cond.classLink RX9 65 RX2, Cond.instantiable RX2 0, Cond.initialized RX2, Cond.classLink RX9 68 RX1, Cond.instantiable RX1 0, Cond.initialized RX1, Cond.classLink RX9 71 RX4, Cond.instantiable RX4 0, Cond.initialized RX4, Cond.classLink RX9 74 RX3, Cond.instantiable RX3 0, Cond.initialized RX3]
def wsL_law_r4 : List Cond := [Cond.classLink RX9 77 RX6, Cond.instantiable RX6 0, Cond.initialized RX6, Cond.classLink RX9 80 RX10, Cond.instantiable RX10 0, Cond.initialized RX10, Cond.methodLink RX9 44 yX8_init, Cond.instanceMethod yX8_init, Cond.code yX8_init cX8_init 2 none, Cond.methodLink RX8 3 objectInit, Cond.fieldLink RX8 9 "GoodNewsPigeons$Rows" "first" "[I", Cond.fieldLink RX8 15 "GoodNewsPigeons$Rows" "second" "[I", Cond.fieldLink RX8 18 "GoodNewsPigeons$Rows" "third" "[I", Cond.instanceMethod yX5_init, Cond.code yX5_init cX5_init 1 none, Cond.methodLink RX5 3 objectInit, Cond.fieldLink RX5 9 "GoodNewsPigeons$Loft" "text" "[B", Cond.fieldLink RX5 15 "GoodNewsPigeons$Loft" "steps" "[I", Cond.fieldLink RX5 19 "GoodNewsPigeons$Loft" "weights" "[I", Cond.fieldLink RX5 22 "GoodNewsPigeons$Loft" "starts" "[I", Cond.fieldLink RX5 33 "GoodNewsPigeons$Loft" "numbers" "[I", Cond.fieldLink RX5 36 "GoodNewsPigeons$Loft" "rest" "I", Cond.methodLink RX5 27 yJ0_length_8abf5, Cond.instanceMethod yJ0_length_8abf5]
def wsL_law_r5 : List Cond := [Cond.selects RJ0 yJ0_length_8abf5 yJ0_length_8abf5, Cond.initialized RJ0, Cond.code yJ0_length_8abf5 cJ0_length_8abf5 1 (some .int), Cond.fieldLink RJ0 9 "java/lang/String" "value" "[B", Cond.methodLink RJ0 335 yJ0_coder_7d493, Cond.instanceMethod yJ0_coder_7d493, Cond.selects RJ0 yJ0_coder_7d493 yJ0_coder_7d493, Cond.code yJ0_coder_7d493 cJ0_coder_7d493 1 (some .byte), Cond.fieldLink RJ0 38 "java/lang/String" "COMPACT_STRINGS" "Z", Cond.fieldLink RJ0 15 "java/lang/String" "coder" "B", Cond.instanceMethod yX7_init, Cond.code yX7_init cX7_init 1 none, Cond.methodLink RX7 1 objectInit, Cond.instanceMethod yX2_init, Cond.code yX2_init cX2_init 1 none, Cond.instanceMethod yX1_init, Cond.code yX1_init cX1_init 1 none, Cond.instanceMethod yX4_init, Cond.code yX4_init cX4_init 1 none, Cond.instanceMethod yX3_init, Cond.code yX3_init cX3_init 1 none, Cond.instanceMethod yX6_init, Cond.code yX6_init cX6_init 1 none, Cond.instanceMethod yX10_init]
def wsL_law_r6 : List Cond := [Cond.code yX10_init cX10_init 1 none, Cond.instanceMethod yX0_init, Cond.code yX0_init cX0_init 1 none, Cond.methodLink RX0 3 objectInit, Cond.fieldLink RX0 9 "GoodNewsPigeons$Act" "bodies" "[I", Cond.methodLink RL 12 yX12_init, Cond.instanceMethod yX12_init, Cond.code yX12_init cX12_init 2 none, Cond.methodLink RX12 3 objectInit, Cond.fieldLink RX12 9 "GoodNewsPigeonsModel" "cheer" "[I", Cond.fieldLink RX12 15 "GoodNewsPigeonsModel" "means" "[I", Cond.fieldLink RX12 18 "GoodNewsPigeonsModel" "kind" "[I", Cond.fieldLink RX12 21 "GoodNewsPigeonsModel" "v" "[I", Cond.fieldLink RX12 24 "GoodNewsPigeonsModel" "letter" "[I", Cond.fieldLink RX12 27 "GoodNewsPigeonsModel" "tired" "[I", Cond.fieldLink RX12 30 "GoodNewsPigeonsModel" "flown" "[I", Cond.fieldLink RX12 33 "GoodNewsPigeonsModel" "rows" "[I", Cond.fieldLink RX12 36 "GoodNewsPigeonsModel" "text" "[I", Cond.fieldLink RX12 39 "GoodNewsPigeonsModel" "clauses" "[I", Cond.fieldLink RX12 42 "GoodNewsPigeonsModel" "word" "[I", Cond.fieldLink RX12 45 "GoodNewsPigeonsModel" "number" "[I", Cond.fieldLink RX12 48 "GoodNewsPigeonsModel" "begins" "[I", Cond.fieldLink RX12 51 "GoodNewsPigeonsModel" "length" "[I", Cond.fieldLink RX12 54 "GoodNewsPigeonsModel" "code" "[I"]
def wsL_law_r7 : List Cond := [Cond.arrayClass .boolean, Cond.fieldLink RX12 57 "GoodNewsPigeonsModel" "stack" "[Z", Cond.fieldLink RX12 61 "GoodNewsPigeonsModel" "seenBy" "[I", Cond.fieldLink RX12 64 "GoodNewsPigeonsModel" "seenOf" "[I", Cond.fieldLink RX12 67 "GoodNewsPigeonsModel" "seenSo" "[I", Cond.fieldLink RX12 70 "GoodNewsPigeonsModel" "goes" "[I", Cond.fieldLink RX12 73 "GoodNewsPigeonsModel" "whose" "[I", Cond.fieldLink RX12 76 "GoodNewsPigeonsModel" "booked" "[I", Cond.fieldLink RX12 79 "GoodNewsPigeonsModel" "bookCheer" "[I", Cond.fieldLink RX12 82 "GoodNewsPigeonsModel" "traces" "[I", Cond.fieldLink RX12 85 "GoodNewsPigeonsModel" "image" "[I", Cond.fieldLink RX12 88 "GoodNewsPigeonsModel" "ahead" "[I", Cond.fieldLink RX12 91 "GoodNewsPigeonsModel" "tapeSort" "[I", Cond.fieldLink RX12 94 "GoodNewsPigeonsModel" "tapeSize" "[I", Cond.fieldLink RX12 97 "GoodNewsPigeonsModel" "items" "[J", Cond.fieldLink RX12 101 "GoodNewsPigeonsModel" "holds" "I", Cond.methodLink RL 13 yX11_pigeon, Cond.instanceMethod yX11_pigeon, Cond.selects RX11 yX11_pigeon yX11_pigeon, Cond.code yX11_pigeon cX11_pigeon 3 (some .int), Cond.fieldLink RX11 61 "GoodNewsPigeons$State" "size" "I", Cond.methodLink RX11 57 yX11_isUpTo, Cond.static yX11_isUpTo, Cond.code yX11_isUpTo cX11_isUpTo 2 (some .boolean)]
def wsL_law_r8 : List Cond := [Cond.methodLink RX11 65 yX9_comes, Cond.instanceMethod yX9_comes, Cond.selects RX9 yX9_comes yX9_comes, Cond.code yX9_comes cX9_comes 3 (some .int), Cond.fieldLink RX9 93 "GoodNewsPigeons$State" "size" "I", Cond.methodLink RL 17 yX12_pigeon, Cond.instanceMethod yX12_pigeon, Cond.selects RX12 yX12_pigeon yX12_pigeon, Cond.code yX12_pigeon cX12_pigeon 4 (some .int), Cond.fieldLink RX12 105 "GoodNewsPigeonsModel" "pigeons" "I", Cond.methodLink RX12 108 yX12_within, Cond.static yX12_within, Cond.code yX12_within cX12_within 3 (some .boolean), Cond.methodLink RL 18 yX11_of, Cond.instanceMethod yX11_of, Cond.selects RX11 yX11_of yX11_of, Cond.code yX11_of cX11_of 3 (some .int), Cond.fieldLink RX11 73 "GoodNewsPigeons$State" "kind" "[I", Cond.fieldLink RX11 76 "GoodNewsPigeons$State" "v" "[I", Cond.fieldLink RX11 79 "GoodNewsPigeons$State" "letter" "[I", Cond.fieldLink RX11 82 "GoodNewsPigeons$State" "tired" "[I", Cond.fieldLink RX11 85 "GoodNewsPigeons$State" "flown" "[I", Cond.methodLink RX11 69 yX11_isPigeon, Cond.instanceMethod yX11_isPigeon]
def wsL_law_r9 : List Cond := [Cond.selects RX11 yX11_isPigeon yX11_isPigeon, Cond.code yX11_isPigeon cX11_isPigeon 2 (some .boolean), Cond.methodLink RX11 88 yX9_willFlyOff, Cond.instanceMethod yX9_willFlyOff, Cond.selects RX9 yX9_willFlyOff yX9_willFlyOff, Cond.code yX9_willFlyOff cX9_willFlyOff 2 (some .boolean), Cond.methodLink RX9 121 yX9_gladness, Cond.instanceMethod yX9_gladness, Cond.selects RX9 yX9_gladness yX9_gladness, Cond.code yX9_gladness cX9_gladness 3 (some .int), Cond.methodLink RX9 103 yJ6_bitCount_0f7a4, Cond.static yJ6_bitCount_0f7a4, Cond.initialized RJ6, Cond.code yJ6_bitCount_0f7a4 cJ6_bitCount_0f7a4 1 (some .int), Cond.constant RJ6 265 (1431655765), Cond.constant RJ6 266 (858993459), Cond.constant RJ6 267 (252645135), Cond.methodLink RX9 109 yX5_gainBy, Cond.instanceMethod yX5_gainBy, Cond.selects RX5 yX5_gainBy yX5_gainBy, Cond.code yX5_gainBy cX5_gainBy 6 (some .int), Cond.fieldLink RX5 115 "GoodNewsPigeons$State" "kind" "[I", Cond.fieldLink RX5 120 "GoodNewsPigeons$State" "v" "[I", Cond.fieldLink RX5 123 "GoodNewsPigeons$State" "tired" "[I"]
def wsL_law_r10 : List Cond := [Cond.fieldLink RX5 126 "GoodNewsPigeons$State" "day" "I", Cond.fieldLink RX5 61 "GoodNewsPigeons$Loft" "weighed" "I", Cond.methodLink RX5 129 yX5_isSo, Cond.instanceMethod yX5_isSo, Cond.selects RX5 yX5_isSo yX5_isSo, Cond.code yX5_isSo cX5_isSo 6 (some .boolean), Cond.methodLink RX5 133 yX5_isTrue, Cond.instanceMethod yX5_isTrue, Cond.selects RX5 yX5_isTrue yX5_isTrue, Cond.code yX5_isTrue cX5_isTrue 4 (some .boolean), Cond.methodLink RX9 113 yX9_gladnessBy, Cond.instanceMethod yX9_gladnessBy, Cond.selects RX9 yX9_gladnessBy yX9_gladnessBy, Cond.code yX9_gladnessBy cX9_gladnessBy 6 (some .int), Cond.methodLink RX9 117 ⟨"GoodNewsPigeons$Pigeon", "joyFrom", "(ILGoodNewsPigeons$State;II)I"⟩, Cond.sameMethod "GoodNewsPigeons$Pigeon" "GoodNewsPigeons$Pigeon" "joyFrom" "(ILGoodNewsPigeons$State;II)I", Cond.instanceMethod ⟨"GoodNewsPigeons$Pigeon", "joyFrom", "(ILGoodNewsPigeons$State;II)I"⟩, Cond.selects RX1 ⟨"GoodNewsPigeons$Pigeon", "joyFrom", "(ILGoodNewsPigeons$State;II)I"⟩ yX1_joyFrom, Cond.instanceMethod yX1_joyFrom, Cond.code yX1_joyFrom cX1_joyFrom 5 (some .int), Cond.code yX7_joyFrom cX7_joyFrom 5 (some .int), Cond.selects RX2 ⟨"GoodNewsPigeons$Pigeon", "joyFrom", "(ILGoodNewsPigeons$State;II)I"⟩ yX2_joyFrom, Cond.instanceMethod yX2_joyFrom, Cond.code yX2_joyFrom cX2_joyFrom 5 (some .int)]
def wsL_law_r11 : List Cond := [Cond.fieldLink RX2 7 "GoodNewsPigeons$State" "v" "[I", Cond.selects RX3 ⟨"GoodNewsPigeons$Pigeon", "joyFrom", "(ILGoodNewsPigeons$State;II)I"⟩ yX3_joyFrom, Cond.instanceMethod yX3_joyFrom, Cond.code yX3_joyFrom cX3_joyFrom 5 (some .int), Cond.fieldLink RX3 11 "GoodNewsPigeons$State" "tired" "[I", Cond.methodLink RX3 7 yX2_joyFrom, Cond.sameMethod "GoodNewsPigeons$Fancy" "GoodNewsPigeons$Fancy" "joyFrom" "(ILGoodNewsPigeons$State;II)I", Cond.superclass RX3 RX2, Cond.selects RX4 ⟨"GoodNewsPigeons$Pigeon", "joyFrom", "(ILGoodNewsPigeons$State;II)I"⟩ yX4_joyFrom, Cond.instanceMethod yX4_joyFrom, Cond.code yX4_joyFrom cX4_joyFrom 7 (some .int), Cond.fieldLink RX4 9 "GoodNewsPigeons$State" "cheer" "[I", Cond.selects RX6 ⟨"GoodNewsPigeons$Pigeon", "joyFrom", "(ILGoodNewsPigeons$State;II)I"⟩ yX6_joyFrom, Cond.instanceMethod yX6_joyFrom, Cond.code yX6_joyFrom cX6_joyFrom 5 (some .int), Cond.fieldLink RX6 11 "GoodNewsPigeons$State" "known" "I", Cond.methodLink RX6 7 yX1_joyFrom, Cond.sameMethod "GoodNewsPigeons$Dull" "GoodNewsPigeons$Dull" "joyFrom" "(ILGoodNewsPigeons$State;II)I", Cond.superclass RX6 RX1, Cond.methodLink RX6 17 yJ6_bitCount_0f7a4, Cond.methodLink RX9 117 yX7_joyFrom, Cond.instanceMethod yX7_joyFrom, Cond.selects RX7 yX7_joyFrom yX7_joyFrom, Cond.selects RX10 ⟨"GoodNewsPigeons$Pigeon", "joyFrom", "(ILGoodNewsPigeons$State;II)I"⟩ yX10_joyFrom]
def wsL_law_r12 : List Cond := [Cond.instanceMethod yX10_joyFrom, Cond.code yX10_joyFrom cX10_joyFrom 6 (some .int), Cond.fieldLink RX10 19 "GoodNewsPigeons$State" "rows" "[I", Cond.methodLink RX10 9 yJ6_bitCount_0f7a4, Cond.methodLink RX10 15 yX4_joyFrom, Cond.sameMethod "GoodNewsPigeons$Keen" "GoodNewsPigeons$Keen" "joyFrom" "(ILGoodNewsPigeons$State;II)I", Cond.superclass RX10 RX4, Cond.methodLink RX11 91 yX11_spareOf, Cond.instanceMethod yX11_spareOf, Cond.selects RX11 yX11_spareOf yX11_spareOf, Cond.code yX11_spareOf cX11_spareOf 7 (some .int), Cond.methodLink RX11 95 yX9_gladness, Cond.methodLink RL 21 yX12_of, Cond.instanceMethod yX12_of, Cond.selects RX12 yX12_of yX12_of, Cond.code yX12_of cX12_of 3 (some .int), Cond.methodLink RX12 112 yX12_isOne, Cond.instanceMethod yX12_isOne, Cond.selects RX12 yX12_isOne yX12_isOne, Cond.code yX12_isOne cX12_isOne 2 (some .boolean), Cond.methodLink RX12 116 yX12_mayFly, Cond.instanceMethod yX12_mayFly, Cond.selects RX12 yX12_mayFly yX12_mayFly, Cond.code yX12_mayFly cX12_mayFly 2 (some .boolean)]
def wsL_law_r13 : List Cond := [Cond.methodLink RX12 126 yX12_joyOf, Cond.instanceMethod yX12_joyOf, Cond.selects RX12 yX12_joyOf yX12_joyOf, Cond.code yX12_joyOf cX12_joyOf 5 (some .int), Cond.fieldLink RX12 241 "GoodNewsPigeonsModel" "known" "I", Cond.methodLink RX12 235 yX12_sum, Cond.instanceMethod yX12_sum, Cond.selects RX12 yX12_sum yX12_sum, Cond.code yX12_sum cX12_sum 6 (some .int), Cond.methodLink RX12 223 yX12_has, Cond.static yX12_has, Cond.code yX12_has cX12_has 2 (some .boolean), Cond.methodLink RX12 227 yX12_isTrue, Cond.instanceMethod yX12_isTrue, Cond.selects RX12 yX12_isTrue yX12_isTrue, Cond.code yX12_isTrue cX12_isTrue 10 (some .boolean), Cond.methodLink RX12 219 yX12_letterOf, Cond.instanceMethod yX12_letterOf, Cond.selects RX12 yX12_letterOf yX12_letterOf, Cond.code yX12_letterOf cX12_letterOf 4 (some .int), Cond.fieldLink RX12 216 "GoodNewsPigeonsModel" "day" "I", Cond.methodLink RX12 211 yJ6_bitCount_0f7a4, Cond.methodLink RX12 238 yX12_grimmest, Cond.instanceMethod yX12_grimmest]
def wsL_law_r14 : List Cond := [Cond.selects RX12 yX12_grimmest yX12_grimmest, Cond.code yX12_grimmest cX12_grimmest 4 (some .int), Cond.methodLink RX12 230 Lib.Math.min.name, Cond.static Lib.Math.min.name, Cond.initialized "java/lang/Math", Cond.code Lib.Math.min.name Lib.Math.min.code 2 (some .int), Cond.methodLink RX12 119 yX12_spare, Cond.instanceMethod yX12_spare, Cond.selects RX12 yX12_spare yX12_spare, Cond.code yX12_spare cX12_spare 6 (some .int), Cond.methodLink RL 22 yX11_joy, Cond.instanceMethod yX11_joy, Cond.selects RX11 yX11_joy yX11_joy, Cond.code yX11_joy cX11_joy 3 (some .int), Cond.methodLink RL 25 yX12_joy, Cond.instanceMethod yX12_joy, Cond.selects RX12 yX12_joy yX12_joy, Cond.code yX12_joy cX12_joy 3 (some .int), Cond.methodLink RX12 123 yX12_areWords, Cond.static yX12_areWords, Cond.code yX12_areWords cX12_areWords 1 (some .boolean), Cond.methodLink RL 26 yX11_letter, Cond.instanceMethod yX11_letter, Cond.selects RX11 yX11_letter yX11_letter]
def wsL_law_r15 : List Cond := [Cond.code yX11_letter cX11_letter 4 (some .int), Cond.methodLink RL 29 yX12_letter, Cond.instanceMethod yX12_letter, Cond.selects RX12 yX12_letter yX12_letter, Cond.code yX12_letter cX12_letter 4 (some .int), Cond.methodLink RL 30 yX11_tire, Cond.instanceMethod yX11_tire, Cond.selects RX11 yX11_tire yX11_tire, Cond.code yX11_tire cX11_tire 4 (some .int), Cond.methodLink RL 33 yX12_tire, Cond.instanceMethod yX12_tire, Cond.selects RX12 yX12_tire yX12_tire, Cond.code yX12_tire cX12_tire 4 (some .int), Cond.methodLink RL 34 yX11_phrase, Cond.instanceMethod yX11_phrase, Cond.selects RX11 yX11_phrase yX11_phrase, Cond.code yX11_phrase cX11_phrase 6 (some .int), Cond.fieldLink RX11 101 "GoodNewsPigeons$State" "cheer" "[I", Cond.fieldLink RX11 104 "GoodNewsPigeons$State" "means" "[I", Cond.methodLink RX11 98 yX11_isWord, Cond.static yX11_isWord, Cond.code yX11_isWord cX11_isWord 1 (some .boolean), Cond.methodLink RL 38 yX12_phrase, Cond.instanceMethod yX12_phrase]
def wsL_law_r16 : List Cond := [Cond.selects RX12 yX12_phrase yX12_phrase, Cond.code yX12_phrase cX12_phrase 5 (some .int), Cond.methodLink RX12 130 yX12_isWord, Cond.static yX12_isWord, Cond.code yX12_isWord cX12_isWord 1 (some .boolean), Cond.methodLink RL 39 yX11_row, Cond.instanceMethod yX11_row, Cond.selects RX11 yX11_row yX11_row, Cond.code yX11_row cX11_row 6 (some .int), Cond.fieldLink RX11 107 "GoodNewsPigeons$State" "rows" "[I", Cond.methodLink RL 42 yX12_row, Cond.instanceMethod yX12_row, Cond.selects RX12 yX12_row yX12_row, Cond.code yX12_row cX12_row 5 (some .int), Cond.methodLink RL 43 yX11_feed, Cond.instanceMethod yX11_feed, Cond.selects RX11 yX11_feed yX11_feed, Cond.code yX11_feed cX11_feed 2 (some .int), Cond.fieldLink RX11 110 "GoodNewsPigeons" "textSize" "I", Cond.methodLink RL 47 yX12_feed, Cond.instanceMethod yX12_feed, Cond.selects RX12 yX12_feed yX12_feed, Cond.code yX12_feed cX12_feed 2 (some .int), Cond.fieldLink RX12 133 "GoodNewsPigeonsModel" "texted" "I"]
def wsL_law_r17 : List Cond := [Cond.methodLink RL 48 yX11_loft, Cond.instanceMethod yX11_loft, Cond.selects RX11 yX11_loft yX11_loft, Cond.code yX11_loft cX11_loft 3 (some .int), Cond.fieldLink RX11 113 "GoodNewsPigeons" "loftCount" "I", Cond.fieldLink RX11 120 "GoodNewsPigeons$State" "loft" "LGoodNewsPigeons$Loft;", Cond.methodLink RX11 116 yX5_faultOf, Cond.instanceMethod yX5_faultOf, Cond.selects RX5 yX5_faultOf yX5_faultOf, Cond.code yX5_faultOf cX5_faultOf 4 (some .int), Cond.methodLink RX5 40 Lib.Math.min.name, Cond.fieldLink RX5 46 "GoodNewsPigeons$Loft" "end" "I", Cond.methodLink RX5 49 arraycopyName, Cond.native arraycopyName, Cond.static arraycopyName, Cond.initialized "java/lang/System", Cond.fieldLink RX5 55 "GoodNewsPigeons$Loft" "at" "I", Cond.fieldLink RX5 58 "GoodNewsPigeons$Loft" "stepCount" "I", Cond.methodLink RX5 64 yX5_takesClause, Cond.instanceMethod yX5_takesClause, Cond.selects RX5 yX5_takesClause yX5_takesClause, Cond.code yX5_takesClause cX5_takesClause 3 (some .boolean), Cond.methodLink RX5 68 yX5_takesSign, Cond.instanceMethod yX5_takesSign]
def wsL_law_r18 : List Cond := [Cond.selects RX5 yX5_takesSign yX5_takesSign, Cond.code yX5_takesSign cX5_takesSign 2 (some .boolean), Cond.methodLink RX5 74 yX5_takesSigns, Cond.instanceMethod yX5_takesSigns, Cond.selects RX5 yX5_takesSigns yX5_takesSigns, Cond.code yX5_takesSigns cX5_takesSigns 3 (some .boolean), Cond.methodLink RX5 108 yJ0_charAt_5068e, Cond.instanceMethod yJ0_charAt_5068e, Cond.selects RJ0 yJ0_charAt_5068e yJ0_charAt_5068e, Cond.code yJ0_charAt_5068e cJ0_charAt_5068e 2 (some .char), Cond.methodLink RJ0 492 yJ0_isLatin1_aae02, Cond.instanceMethod yJ0_isLatin1_aae02, Cond.selects RJ0 yJ0_isLatin1_aae02 yJ0_isLatin1_aae02, Cond.code yJ0_isLatin1_aae02 cJ0_isLatin1_aae02 1 (some .boolean), Cond.methodLink RJ0 495 yJ1_charAt_3b067, Cond.static yJ1_charAt_3b067, Cond.initialized RJ1, Cond.code yJ1_charAt_3b067 cJ1_charAt_3b067 2 (some .char), Cond.methodLink RJ1 9 yJ0_checkIndex_df160, Cond.static yJ0_checkIndex_df160, Cond.code yJ0_checkIndex_df160 cJ0_checkIndex_df160 2 none, Cond.fieldLink RJ0 1053 "jdk/internal/util/Preconditions" "SIOOBE_FORMATTER" "Ljava/util/function/BiFunction;", Cond.methodLink RJ0 1059 yJ3_checkIndex_8e157, Cond.static yJ3_checkIndex_8e157]
def wsL_law_r19 : List Cond := [Cond.initialized RJ3, Cond.code yJ3_checkIndex_8e157 cJ3_checkIndex_8e157 3 (some .int), Cond.methodLink RJ0 498 yJ2_charAt_3b067, Cond.static yJ2_charAt_3b067, Cond.initialized RJ2, Cond.code yJ2_charAt_3b067 cJ2_charAt_3b067 2 (some .char), Cond.methodLink RJ2 67 yJ2_checkIndex_2214a, Cond.static yJ2_checkIndex_2214a, Cond.code yJ2_checkIndex_2214a cJ2_checkIndex_2214a 2 none, Cond.methodLink RJ2 48 yJ2_length_9d52b, Cond.static yJ2_length_9d52b, Cond.code yJ2_length_9d52b cJ2_length_9d52b 1 (some .int), Cond.methodLink RJ2 414 yJ0_checkIndex_df160, Cond.methodLink RJ2 71 yJ2_getChar_3b067, Cond.static yJ2_getChar_3b067, Cond.code yJ2_getChar_3b067 cJ2_getChar_3b067 2 (some .char), Cond.fieldLink RJ2 44 "java/lang/StringUTF16" "$assertionsDisabled" "Z", Cond.fieldLink RJ2 59 "java/lang/StringUTF16" "HI_BYTE_SHIFT" "I", Cond.fieldLink RJ2 63 "java/lang/StringUTF16" "LO_BYTE_SHIFT" "I", Cond.methodLink RX5 78 yX5_takesRest, Cond.instanceMethod yX5_takesRest, Cond.selects RX5 yX5_takesRest yX5_takesRest, Cond.code yX5_takesRest cX5_takesRest 2 (some .boolean), Cond.methodLink RX5 85 yX5_takesNumber]
def wsL_law_r20 : List Cond := [Cond.instanceMethod yX5_takesNumber, Cond.selects RX5 yX5_takesNumber yX5_takesNumber, Cond.code yX5_takesNumber cX5_takesNumber 3 (some .int), Cond.methodLink RX5 112 Lib.Math.max.name, Cond.static Lib.Math.max.name, Cond.code Lib.Math.max.name Lib.Math.max.code 2 (some .int), Cond.methodLink RX5 88 yX5_takesEither, Cond.instanceMethod yX5_takesEither, Cond.selects RX5 yX5_takesEither yX5_takesEither, Cond.code yX5_takesEither cX5_takesEither 4 (some .boolean), Cond.methodLink RX5 92 yX5_takesOne, Cond.instanceMethod yX5_takesOne, Cond.selects RX5 yX5_takesOne yX5_takesOne, Cond.methodLink RX5 95 yX5_adds, Cond.instanceMethod yX5_adds, Cond.selects RX5 yX5_adds yX5_adds, Cond.code yX5_adds cX5_adds 2 none, Cond.code yX5_takesOne cX5_takesOne 2 (some .boolean), Cond.methodLink RX5 99 yX5_takesTest, Cond.instanceMethod yX5_takesTest, Cond.selects RX5 yX5_takesTest yX5_takesTest, Cond.code yX5_takesTest cX5_takesTest 4 (some .boolean), Cond.methodLink RX5 102 yX5_takesOneOf, Cond.instanceMethod yX5_takesOneOf]
def wsL_law_r21 : List Cond := [Cond.selects RX5 yX5_takesOneOf yX5_takesOneOf, Cond.code yX5_takesOneOf cX5_takesOneOf 3 (some .int), Cond.methodLink RL 52 yX12_loft, Cond.instanceMethod yX12_loft, Cond.selects RX12 yX12_loft yX12_loft, Cond.code yX12_loft cX12_loft 5 (some .int), Cond.fieldLink RX12 205 "GoodNewsPigeonsModel" "lofts" "I", Cond.fieldLink RX12 161 "GoodNewsPigeonsModel" "coded" "I", Cond.fieldLink RX12 136 "GoodNewsPigeonsModel" "at" "I", Cond.methodLink RX12 208 yX12_isClause, Cond.instanceMethod yX12_isClause, Cond.selects RX12 yX12_isClause yX12_isClause, Cond.code yX12_isClause cX12_isClause 4 (some .boolean), Cond.fieldLink RX12 139 "GoodNewsPigeonsModel" "value" "I", Cond.fieldLink RX12 177 "GoodNewsPigeonsModel" "open" "I", Cond.methodLink RX12 197 yX12_isAll, Cond.instanceMethod yX12_isAll, Cond.selects RX12 yX12_isAll yX12_isAll, Cond.code yX12_isAll cX12_isAll 3 (some .boolean), Cond.methodLink RX12 149 yJ0_length_8abf5, Cond.methodLink RX12 154 yJ0_charAt_5068e, Cond.methodLink RX12 158 yX12_is, Cond.instanceMethod yX12_is, Cond.selects RX12 yX12_is yX12_is]
def wsL_law_r22 : List Cond := [Cond.code yX12_is cX12_is 2 (some .boolean), Cond.methodLink RX12 171 yX12_isNumber, Cond.instanceMethod yX12_isNumber, Cond.selects RX12 yX12_isNumber yX12_isNumber, Cond.code yX12_isNumber cX12_isNumber 1 (some .boolean), Cond.fieldLink RX12 142 "GoodNewsPigeonsModel" "digits" "I", Cond.methodLink RX12 145 yX12_isDigit, Cond.instanceMethod yX12_isDigit, Cond.selects RX12 yX12_isDigit yX12_isDigit, Cond.code yX12_isDigit cX12_isDigit 1 (some .boolean), Cond.methodLink RX12 186 yX12_isE, Cond.instanceMethod yX12_isE, Cond.selects RX12 yX12_isE yX12_isE, Cond.code yX12_isE cX12_isE 1 (some .boolean), Cond.methodLink RX12 192 yX12_isT, Cond.instanceMethod yX12_isT, Cond.selects RX12 yX12_isT yX12_isT, Cond.methodLink RX12 174 yX12_codes, Cond.instanceMethod yX12_codes, Cond.selects RX12 yX12_codes yX12_codes, Cond.code yX12_codes cX12_codes 2 (some .boolean), Cond.code yX12_isF cX12_isF 2 (some .boolean), Cond.methodLink RX12 180 yX12_isOpened, Cond.instanceMethod yX12_isOpened]
def wsL_law_r23 : List Cond := [Cond.selects RX12 yX12_isOpened yX12_isOpened, Cond.code yX12_isOpened cX12_isOpened 2 (some .boolean), Cond.methodLink RX12 183 yX12_isF, Cond.instanceMethod yX12_isF, Cond.selects RX12 yX12_isF yX12_isF, Cond.methodLink RX12 189 yX12_isTest, Cond.instanceMethod yX12_isTest, Cond.selects RX12 yX12_isTest yX12_isTest, Cond.code yX12_isTest cX12_isTest 3 (some .boolean), Cond.methodLink RX12 166 yJ0_indexOf_0f7a4, Cond.instanceMethod yJ0_indexOf_0f7a4, Cond.selects RJ0 yJ0_indexOf_0f7a4 yJ0_indexOf_0f7a4, Cond.code yJ0_indexOf_0f7a4 cJ0_indexOf_0f7a4 2 (some .int), Cond.methodLink RJ0 633 yJ0_indexOf_7cf53, Cond.instanceMethod yJ0_indexOf_7cf53, Cond.selects RJ0 yJ0_indexOf_7cf53 yJ0_indexOf_7cf53, Cond.code yJ0_indexOf_7cf53 cJ0_indexOf_7cf53 3 (some .int), Cond.methodLink RJ0 505 yJ0_length_8abf5, Cond.methodLink RJ0 637 yJ1_indexOf_4cfef, Cond.static yJ1_indexOf_4cfef, Cond.code yJ1_indexOf_4cfef cJ1_indexOf_4cfef 4 (some .int), Cond.methodLink RJ1 92 Lib.Math.max.name, Cond.methodLink RJ1 38 Lib.Math.min.name, Cond.methodLink RJ1 88 yJ1_canEncode_9a6ad]
def wsL_law_r24 : List Cond := [Cond.static yJ1_canEncode_9a6ad, Cond.code yJ1_canEncode_9a6ad cJ1_canEncode_9a6ad 1 (some .boolean), Cond.methodLink RJ1 95 yJ1_indexOfChar_4cfef, Cond.static yJ1_indexOfChar_4cfef, Cond.code yJ1_indexOfChar_4cfef cJ1_indexOfChar_4cfef 6 (some .int), Cond.methodLink RJ0 640 yJ2_indexOf_4cfef, Cond.static yJ2_indexOf_4cfef, Cond.code yJ2_indexOf_4cfef cJ2_indexOf_4cfef 4 (some .int), Cond.methodLink RJ2 224 Lib.Math.max.name, Cond.methodLink RJ2 183 Lib.Math.min.name, Cond.constant RJ2 227 (65536), Cond.methodLink RJ2 228 yJ2_indexOfChar_4cfef, Cond.static yJ2_indexOfChar_4cfef, Cond.code yJ2_indexOfChar_4cfef cJ2_indexOfChar_4cfef 4 (some .int), Cond.methodLink RJ2 96 yJ2_checkBoundsBeginEnd_d044e, Cond.static yJ2_checkBoundsBeginEnd_d044e, Cond.code yJ2_checkBoundsBeginEnd_d044e cJ2_checkBoundsBeginEnd_d044e 3 none, Cond.methodLink RJ2 241 yJ0_checkBoundsBeginEnd_23922, Cond.static yJ0_checkBoundsBeginEnd_23922, Cond.code yJ0_checkBoundsBeginEnd_23922 cJ0_checkBoundsBeginEnd_23922 3 none, Cond.methodLink RJ0 1062 yJ3_checkFromToIndex_8c36e, Cond.static yJ3_checkFromToIndex_8c36e, Cond.code yJ3_checkFromToIndex_8c36e cJ3_checkFromToIndex_8c36e 4 (some .int), Cond.methodLink RJ2 244 yJ2_indexOfCharUnsafe_4cfef]
def wsL_law_r25 : List Cond := [Cond.static yJ2_indexOfCharUnsafe_4cfef, Cond.code yJ2_indexOfCharUnsafe_4cfef cJ2_indexOfCharUnsafe_4cfef 5 (some .int), Cond.methodLink RJ2 232 yJ2_indexOfSupplementary_4cfef, Cond.static yJ2_indexOfSupplementary_4cfef, Cond.code yJ2_indexOfSupplementary_4cfef cJ2_indexOfSupplementary_4cfef 7 (some .int), Cond.methodLink RJ2 164 yJ11_isValidCodePoint_9a6ad, Cond.static yJ11_isValidCodePoint_9a6ad, Cond.initialized RJ11, Cond.code yJ11_isValidCodePoint_9a6ad cJ11_isValidCodePoint_9a6ad 2 (some .boolean), Cond.methodLink RJ2 157 yJ11_highSurrogate_5068e, Cond.static yJ11_highSurrogate_5068e, Cond.code yJ11_highSurrogate_5068e cJ11_highSurrogate_5068e 1 (some .char), Cond.constant RJ11 110 (55232), Cond.methodLink RJ2 161 yJ11_lowSurrogate_5068e, Cond.static yJ11_lowSurrogate_5068e, Cond.code yJ11_lowSurrogate_5068e cJ11_lowSurrogate_5068e 1 (some .char), Cond.constant RJ11 76 (56320), Cond.code yX12_isT cX12_isT 1 (some .boolean), Cond.methodLink RL 53 yX11_told, Cond.instanceMethod yX11_told, Cond.selects RX11 yX11_told yX11_told, Cond.code yX11_told cX11_told 2 (some .int), Cond.fieldLink RX11 130 "GoodNewsPigeons$State" "day" "I", Cond.fieldLink RX11 133 "GoodNewsPigeons$Loft" "rest" "I"]
def wsL_law_r26 : List Cond := [Cond.fieldLink RX11 136 "GoodNewsPigeons$State" "known" "I", Cond.methodLink RX11 124 yX11_cheersOf, Cond.instanceMethod yX11_cheersOf, Cond.selects RX11 yX11_cheersOf yX11_cheersOf, Cond.code yX11_cheersOf cX11_cheersOf 4 (some .int), Cond.methodLink RX11 152 yX9_becomes, Cond.instanceMethod yX9_becomes, Cond.selects RX9 yX9_becomes yX9_becomes, Cond.code yX9_becomes cX9_becomes 2 none, Cond.methodLink RX9 83 arraycopyName, Cond.fieldLink RX9 97 "GoodNewsPigeons$State" "known" "I", Cond.fieldLink RX9 100 "GoodNewsPigeons$State" "day" "I", Cond.methodLink RX9 89 yX8_becomeAs, Cond.instanceMethod yX8_becomeAs, Cond.selects RX8 yX8_becomeAs yX8_becomeAs, Cond.code yX8_becomeAs cX8_becomeAs 3 none, Cond.fieldLink RX8 21 "GoodNewsPigeons$Rows" "size" "I", Cond.methodLink RX11 187 yX9_isSeenSo, Cond.instanceMethod yX9_isSeenSo, Cond.selects RX9 yX9_isSeenSo yX9_isSeenSo, Cond.code yX9_isSeenSo cX9_isSeenSo 3 (some .boolean), Cond.fieldLink RX9 146 "GoodNewsPigeons$Rows" "size" "I", Cond.fieldLink RX9 147 "GoodNewsPigeons$Rows" "first" "[I", Cond.fieldLink RX9 150 "GoodNewsPigeons$Rows" "second" "[I"]
def wsL_law_r27 : List Cond := [Cond.fieldLink RX9 153 "GoodNewsPigeons$Rows" "third" "[I", Cond.methodLink RX11 127 yX11_comesOf, Cond.instanceMethod yX11_comesOf, Cond.selects RX11 yX11_comesOf yX11_comesOf, Cond.code yX11_comesOf cX11_comesOf 3 (some .int), Cond.methodLink RX11 143 yX9_daysGo, Cond.instanceMethod yX9_daysGo, Cond.selects RX9 yX9_daysGo yX9_daysGo, Cond.code yX9_daysGo cX9_daysGo 5 none, Cond.fieldLink RX9 125 "GoodNewsPigeons$Loft" "rest" "I", Cond.methodLink RX9 135 Lib.Math.min.name, Cond.methodLink RX9 140 Lib.Math.max.name, Cond.methodLink RX9 128 yX9_willFlyOff, Cond.methodLink RX9 132 yX9_meaningOf, Cond.instanceMethod yX9_meaningOf, Cond.selects RX9 yX9_meaningOf yX9_meaningOf, Cond.code yX9_meaningOf cX9_meaningOf 4 (some .int), Cond.methodLink RX11 139 yX11_willing, Cond.instanceMethod yX11_willing, Cond.selects RX11 yX11_willing yX11_willing, Cond.code yX11_willing cX11_willing 3 (some .int), Cond.methodLink RL 56 yX12_told, Cond.instanceMethod yX12_told, Cond.selects RX12 yX12_told yX12_told]
def wsL_law_r28 : List Cond := [Cond.code yX12_told cX12_told 2 (some .int), Cond.methodLink RX12 253 yX12_comes, Cond.instanceMethod yX12_comes, Cond.selects RX12 yX12_comes yX12_comes, Cond.code yX12_comes cX12_comes 4 (some .int), Cond.methodLink RX12 265 yX12_keep, Cond.instanceMethod yX12_keep, Cond.selects RX12 yX12_keep yX12_keep, Cond.code yX12_keep cX12_keep 3 none, Cond.fieldLink RX12 272 "GoodNewsPigeonsModel" "seen" "I", Cond.fieldLink RX12 290 "GoodNewsPigeonsModel" "inPlan" "I", Cond.fieldLink RX12 296 "GoodNewsPigeonsModel" "inBook" "I", Cond.methodLink RX12 262 yX12_goesDay, Cond.instanceMethod yX12_goesDay, Cond.selects RX12 yX12_goesDay yX12_goesDay, Cond.code yX12_goesDay cX12_goesDay 3 none, Cond.methodLink RX12 247 Lib.Math.max.name, Cond.methodLink RX12 244 yX12_restBy, Cond.instanceMethod yX12_restBy, Cond.selects RX12 yX12_restBy yX12_restBy, Cond.code yX12_restBy cX12_restBy 3 (some .int), Cond.methodLink RX12 250 yX12_meant, Cond.instanceMethod yX12_meant, Cond.selects RX12 yX12_meant yX12_meant]
def wsL_law_r29 : List Cond := [Cond.code yX12_meant cX12_meant 4 (some .int), Cond.methodLink RX12 269 yX12_again, Cond.instanceMethod yX12_again, Cond.selects RX12 yX12_again yX12_again, Cond.code yX12_again cX12_again 3 none, Cond.methodLink RX12 256 yX12_cheers, Cond.instanceMethod yX12_cheers, Cond.selects RX12 yX12_cheers yX12_cheers, Cond.code yX12_cheers cX12_cheers 5 (some .int), Cond.methodLink RX12 275 yX12_isSeen, Cond.instanceMethod yX12_isSeen, Cond.selects RX12 yX12_isSeen yX12_isSeen, Cond.code yX12_isSeen cX12_isSeen 2 (some .boolean), Cond.methodLink RX12 259 yX12_ready, Cond.instanceMethod yX12_ready, Cond.selects RX12 yX12_ready yX12_ready, Cond.code yX12_ready cX12_ready 3 (some .int), Cond.methodLink RL 57 yX11_pass, Cond.instanceMethod yX11_pass, Cond.selects RX11 yX11_pass yX11_pass, Cond.code yX11_pass cX11_pass 3 (some .int), Cond.methodLink RX11 147 Lib.Math.min.name, Cond.methodLink RL 60 yX12_pass, Cond.instanceMethod yX12_pass]
def wsL_law_r30 : List Cond := [Cond.selects RX12 yX12_pass yX12_pass, Cond.code yX12_pass cX12_pass 4 (some .int), Cond.methodLink RL 61 yX11_on, Cond.instanceMethod yX11_on, Cond.selects RX11 yX11_on yX11_on, Cond.code yX11_on cX11_on 5 (some .int), Cond.methodLink RL 64 yX12_on, Cond.instanceMethod yX12_on, Cond.selects RX12 yX12_on yX12_on, Cond.code yX12_on cX12_on 4 (some .int), Cond.methodLink RL 65 yX11_wording, Cond.instanceMethod yX11_wording, Cond.selects RX11 yX11_wording yX11_wording, Cond.code yX11_wording cX11_wording 7 (some .int), Cond.methodLink RX11 156 yX5_gainBy, Cond.methodLink RX11 160 yJ6_bitCount_0f7a4, Cond.methodLink RX11 165 yX9_meaningOf, Cond.methodLink RX11 168 yX9_gladnessBy, Cond.methodLink RL 68 yX12_wording, Cond.instanceMethod yX12_wording, Cond.selects RX12 yX12_wording yX12_wording, Cond.code yX12_wording cX12_wording 5 (some .int), Cond.methodLink RL 69 yX11_birds, Cond.instanceMethod yX11_birds]
def wsL_law_r31 : List Cond := [Cond.selects RX11 yX11_birds yX11_birds, Cond.code yX11_birds cX11_birds 7 (some .int), Cond.methodLink RX11 172 yX11_broughtBy, Cond.instanceMethod yX11_broughtBy, Cond.selects RX11 yX11_broughtBy yX11_broughtBy, Cond.code yX11_broughtBy cX11_broughtBy 4 (some .int), Cond.methodLink RL 72 yX12_birds, Cond.instanceMethod yX12_birds, Cond.selects RX12 yX12_birds yX12_birds, Cond.code yX12_birds cX12_birds 7 (some .int), Cond.methodLink RL 73 yX11_see, Cond.instanceMethod yX11_see, Cond.selects RX11 yX11_see yX11_see, Cond.code yX11_see cX11_see 4 (some .int), Cond.fieldLink RX11 175 "GoodNewsPigeons$State" "seen" "LGoodNewsPigeons$Rows;", Cond.methodLink RX11 179 yX8_empties, Cond.instanceMethod yX8_empties, Cond.selects RX8 yX8_empties yX8_empties, Cond.code yX8_empties cX8_empties 1 (some .int), Cond.methodLink RX11 184 yX8_takes, Cond.instanceMethod yX8_takes, Cond.selects RX8 yX8_takes yX8_takes, Cond.code yX8_takes cX8_takes 4 (some .int), Cond.methodLink RL 77 yX12_see]
def wsL_law_r32 : List Cond := [Cond.instanceMethod yX12_see, Cond.selects RX12 yX12_see yX12_see, Cond.code yX12_see cX12_see 4 (some .int), Cond.methodLink RL 78 yX11_can, Cond.instanceMethod yX11_can, Cond.selects RX11 yX11_can yX11_can, Cond.code yX11_can cX11_can 6 (some .int), Cond.methodLink RL 81 yX12_can, Cond.instanceMethod yX12_can, Cond.selects RX12 yX12_can yX12_can, Cond.code yX12_can cX12_can 7 (some .int), Cond.methodLink RL 82 yX11_odds, Cond.instanceMethod yX11_odds, Cond.selects RX11 yX11_odds yX11_odds, Cond.code yX11_odds cX11_odds 5 (some .long), Cond.constantLong RX11 191 (-9223372036854775808), Cond.methodLink RX11 193 yX11_lowestTerm, Cond.static yX11_lowestTerm, Cond.code yX11_lowestTerm cX11_lowestTerm 5 (some .long), Cond.methodLink RL 86 yX12_odds, Cond.instanceMethod yX12_odds, Cond.selects RX12 yX12_odds yX12_odds, Cond.code yX12_odds cX12_odds 5 (some .long), Cond.constantLong RX12 282 (-9223372036854775808)]
def wsL_law_r33 : List Cond := [Cond.constantLong RX12 284 (12), Cond.methodLink RX12 286 yX12_part, Cond.static yX12_part, Cond.code yX12_part cX12_part 11 (some .long), Cond.methodLink RX12 278 Lib.MathLoose.abs_long.x, Cond.static Lib.MathLoose.abs_long.x, Cond.code Lib.MathLoose.abs_long.x Lib.MathLoose.abs_long.code 2 (some .long), Cond.methodLink RL 87 yX11_mean, Cond.instanceMethod yX11_mean, Cond.selects RX11 yX11_mean yX11_mean, Cond.code yX11_mean cX11_mean 5 (some .long), Cond.methodLink RL 91 yX12_mean, Cond.instanceMethod yX12_mean, Cond.selects RX12 yX12_mean yX12_mean, Cond.code yX12_mean cX12_mean 5 (some .long), Cond.methodLink RL 92 yX11_plan, Cond.instanceMethod yX11_plan, Cond.selects RX11 yX11_plan yX11_plan, Cond.code yX11_plan cX11_plan 3 (some .int), Cond.fieldLink RX11 197 "GoodNewsPigeons$State" "plan" "LGoodNewsPigeons$Rows;", Cond.methodLink RL 95 yX12_plan, Cond.instanceMethod yX12_plan, Cond.selects RX12 yX12_plan yX12_plan, Cond.code yX12_plan cX12_plan 3 (some .int)]
def wsL_law_r34 : List Cond := [Cond.methodLink RL 96 yX11_ends, Cond.instanceMethod yX11_ends, Cond.selects RX11 yX11_ends yX11_ends, Cond.code yX11_ends cX11_ends 3 (some .int), Cond.fieldLink RX11 200 "GoodNewsPigeons$Rows" "size" "I", Cond.fieldLink RX11 201 "GoodNewsPigeons$Rows" "first" "[I", Cond.fieldLink RX11 204 "GoodNewsPigeons$Rows" "second" "[I", Cond.methodLink RX11 207 yX9_planned, Cond.instanceMethod yX9_planned, Cond.selects RX9 yX9_planned yX9_planned, Cond.code yX9_planned cX9_planned 3 none, Cond.methodLink RX9 143 yX9_daysGo, Cond.methodLink RX11 211 yX9_flownByAll, Cond.instanceMethod yX9_flownByAll, Cond.selects RX9 yX9_flownByAll yX9_flownByAll, Cond.code yX9_flownByAll cX9_flownByAll 3 (some .int), Cond.methodLink RL 99 yX12_ends, Cond.instanceMethod yX12_ends, Cond.selects RX12 yX12_ends yX12_ends, Cond.code yX12_ends cX12_ends 4 (some .int), Cond.methodLink RX12 293 yX12_allFlown, Cond.instanceMethod yX12_allFlown, Cond.selects RX12 yX12_allFlown yX12_allFlown, Cond.code yX12_allFlown cX12_allFlown 3 (some .int)]
def wsL_law_r35 : List Cond := [Cond.methodLink RL 100 yX11_book, Cond.instanceMethod yX11_book, Cond.selects RX11 yX11_book yX11_book, Cond.code yX11_book cX11_book 3 (some .int), Cond.fieldLink RX11 214 "GoodNewsPigeons$State" "book" "LGoodNewsPigeons$Rows;", Cond.methodLink RL 103 yX12_book, Cond.instanceMethod yX12_book, Cond.selects RX12 yX12_book yX12_book, Cond.code yX12_book cX12_book 3 (some .int), Cond.methodLink RL 104 yX11_looked, Cond.instanceMethod yX11_looked, Cond.selects RX11 yX11_looked yX11_looked, Cond.code yX11_looked cX11_looked 2 (some .int), Cond.methodLink RL 107 yX12_looked, Cond.instanceMethod yX12_looked, Cond.selects RX12 yX12_looked yX12_looked, Cond.code yX12_looked cX12_looked 2 (some .int), Cond.methodLink RL 108 yX11_judge, Cond.instanceMethod yX11_judge, Cond.selects RX11 yX11_judge yX11_judge, Cond.code yX11_judge cX11_judge 4 (some .int), Cond.methodLink RX11 217 yX11_isTape, Cond.static yX11_isTape, Cond.code yX11_isTape cX11_isTape 1 (some .boolean)]
def wsL_law_r36 : List Cond := [Cond.methodLink RX11 220 yX11_isPlace, Cond.instanceMethod yX11_isPlace, Cond.selects RX11 yX11_isPlace yX11_isPlace, Cond.code yX11_isPlace cX11_isPlace 3 (some .boolean), Cond.methodLink RL 111 yX12_judge, Cond.instanceMethod yX12_judge, Cond.selects RX12 yX12_judge yX12_judge, Cond.code yX12_judge cX12_judge 4 (some .int), Cond.methodLink RL 112 yX11_image, Cond.instanceMethod yX11_image, Cond.selects RX11 yX11_image yX11_image, Cond.code yX11_image cX11_image 1 (some .int), Cond.fieldLink RX11 223 "GoodNewsPigeons" "isKept" "Z", Cond.methodLink RL 115 yX12_image, Cond.instanceMethod yX12_image, Cond.selects RX12 yX12_image yX12_image, Cond.code yX12_image cX12_image 1 (some .int), Cond.fieldLink RX12 299 "GoodNewsPigeonsModel" "imaged" "Z", Cond.methodLink RL 116 yX11_undo, Cond.instanceMethod yX11_undo, Cond.selects RX11 yX11_undo yX11_undo, Cond.code yX11_undo cX11_undo 1 (some .int), Cond.methodLink RL 119 yX12_undo, Cond.instanceMethod yX12_undo]
def wsL_law_r37 : List Cond := [Cond.selects RX12 yX12_undo yX12_undo, Cond.code yX12_undo cX12_undo 1 (some .int), Cond.methodLink RL 120 yX11_act, Cond.instanceMethod yX11_act, Cond.selects RX11 yX11_act yX11_act, Cond.code yX11_act cX11_act 5 (some .int), Cond.fieldLink RX11 230 "GoodNewsPigeons$State" "kinds" "[LGoodNewsPigeons$Pigeon;", Cond.methodLink RX11 227 yX0_starts, Cond.instanceMethod yX0_starts, Cond.selects RX0 yX0_starts yX0_starts, Cond.code yX0_starts cX0_starts 3 none, Cond.fieldLink RX0 15 "GoodNewsPigeons$Act" "ran" "I", Cond.fieldLink RX0 19 "GoodNewsPigeons$Act" "i" "I", Cond.fieldLink RX0 22 "GoodNewsPigeons$Act" "v" "I", Cond.methodLink RX11 234 ⟨"GoodNewsPigeons$Pigeon", "coos", "(LGoodNewsPigeons$Act;I)I"⟩, Cond.sameMethod "GoodNewsPigeons$Pigeon" "GoodNewsPigeons$Pigeon" "coos" "(LGoodNewsPigeons$Act;I)I", Cond.instanceMethod ⟨"GoodNewsPigeons$Pigeon", "coos", "(LGoodNewsPigeons$Act;I)I"⟩, Cond.selects RX1 ⟨"GoodNewsPigeons$Pigeon", "coos", "(LGoodNewsPigeons$Act;I)I"⟩ yX1_coos, Cond.instanceMethod yX1_coos, Cond.code yX1_coos cX1_coos 3 (some .int), Cond.methodLink RX1 7 yX0_begins, Cond.instanceMethod yX0_begins, Cond.selects RX0 yX0_begins yX0_begins, Cond.code yX0_begins cX0_begins 2 none]
def wsL_law_r38 : List Cond := [Cond.methodLink RX1 13 yX7_coos, Cond.superclass RX1 RX7, Cond.instanceMethod yX7_coos, Cond.code yX7_coos cX7_coos 3 (some .int), Cond.fieldLink RX7 13 "GoodNewsPigeons$Act" "i" "I", Cond.methodLink RX7 7 yX0_begins, Cond.selects RX2 ⟨"GoodNewsPigeons$Pigeon", "coos", "(LGoodNewsPigeons$Act;I)I"⟩ yX7_coos, Cond.selects RX3 ⟨"GoodNewsPigeons$Pigeon", "coos", "(LGoodNewsPigeons$Act;I)I"⟩ yX3_coos, Cond.instanceMethod yX3_coos, Cond.code yX3_coos cX3_coos 3 (some .int), Cond.methodLink RX3 17 yX0_begins, Cond.selects RX4 ⟨"GoodNewsPigeons$Pigeon", "coos", "(LGoodNewsPigeons$Act;I)I"⟩ yX7_coos, Cond.selects RX6 ⟨"GoodNewsPigeons$Pigeon", "coos", "(LGoodNewsPigeons$Act;I)I"⟩ yX1_coos, Cond.methodLink RX11 234 yX7_coos, Cond.selects RX7 yX7_coos yX7_coos, Cond.selects RX10 ⟨"GoodNewsPigeons$Pigeon", "coos", "(LGoodNewsPigeons$Act;I)I"⟩ yX10_coos, Cond.instanceMethod yX10_coos, Cond.code yX10_coos cX10_coos 3 (some .int), Cond.fieldLink RX10 38 "GoodNewsPigeons$Act" "v" "I", Cond.methodLink RX10 25 yX0_begins, Cond.methodLink RX11 240 ⟨"GoodNewsPigeons$Pigeon", "flies", "(LGoodNewsPigeons$Act;I)I"⟩, Cond.sameMethod "GoodNewsPigeons$Pigeon" "GoodNewsPigeons$Pigeon" "flies" "(LGoodNewsPigeons$Act;I)I", Cond.selects RX1 ⟨"GoodNewsPigeons$Pigeon", "flies", "(LGoodNewsPigeons$Act;I)I"⟩ yX7_flies, Cond.instanceMethod yX7_flies]
def wsL_law_r39 : List Cond := [Cond.code yX7_flies cX7_flies 3 (some .int), Cond.fieldLink RX7 23 "GoodNewsPigeons$Act" "v" "I", Cond.methodLink RX7 17 ⟨"GoodNewsPigeons$Pigeon", "coos", "(LGoodNewsPigeons$Act;I)I"⟩, Cond.methodLink RX7 17 yX7_coos, Cond.instanceMethod ⟨"GoodNewsPigeons$Pigeon", "flies", "(LGoodNewsPigeons$Act;I)I"⟩, Cond.selects RX2 ⟨"GoodNewsPigeons$Pigeon", "flies", "(LGoodNewsPigeons$Act;I)I"⟩ yX2_flies, Cond.instanceMethod yX2_flies, Cond.code yX2_flies cX2_flies 3 (some .int), Cond.methodLink RX2 13 yX0_begins, Cond.methodLink RX2 19 yX7_flies, Cond.superclass RX2 RX7, Cond.selects RX3 ⟨"GoodNewsPigeons$Pigeon", "flies", "(LGoodNewsPigeons$Act;I)I"⟩ yX3_flies, Cond.instanceMethod yX3_flies, Cond.code yX3_flies cX3_flies 3 (some .int), Cond.methodLink RX3 27 yX2_flies, Cond.sameMethod "GoodNewsPigeons$Fancy" "GoodNewsPigeons$Fancy" "flies" "(LGoodNewsPigeons$Act;I)I", Cond.selects RX4 ⟨"GoodNewsPigeons$Pigeon", "flies", "(LGoodNewsPigeons$Act;I)I"⟩ yX7_flies, Cond.selects RX6 ⟨"GoodNewsPigeons$Pigeon", "flies", "(LGoodNewsPigeons$Act;I)I"⟩ yX7_flies, Cond.methodLink RX11 240 yX7_flies, Cond.selects RX7 yX7_flies yX7_flies, Cond.selects RX10 ⟨"GoodNewsPigeons$Pigeon", "flies", "(LGoodNewsPigeons$Act;I)I"⟩ yX10_flies, Cond.instanceMethod yX10_flies, Cond.code yX10_flies cX10_flies 3 (some .int), Cond.methodLink RX11 243 ⟨"GoodNewsPigeons$Pigeon", "tells", "(LGoodNewsPigeons$Act;I)I"⟩]
def wsL_law_r40 : List Cond := [Cond.sameMethod "GoodNewsPigeons$Pigeon" "GoodNewsPigeons$Pigeon" "tells" "(LGoodNewsPigeons$Act;I)I", Cond.selects RX1 ⟨"GoodNewsPigeons$Pigeon", "tells", "(LGoodNewsPigeons$Act;I)I"⟩ yX7_tells, Cond.instanceMethod yX7_tells, Cond.code yX7_tells cX7_tells 3 (some .int), Cond.methodLink RX7 26 ⟨"GoodNewsPigeons$Pigeon", "flies", "(LGoodNewsPigeons$Act;I)I"⟩, Cond.methodLink RX7 26 yX7_flies, Cond.selects RX2 ⟨"GoodNewsPigeons$Pigeon", "tells", "(LGoodNewsPigeons$Act;I)I"⟩ yX7_tells, Cond.selects RX3 ⟨"GoodNewsPigeons$Pigeon", "tells", "(LGoodNewsPigeons$Act;I)I"⟩ yX7_tells, Cond.instanceMethod ⟨"GoodNewsPigeons$Pigeon", "tells", "(LGoodNewsPigeons$Act;I)I"⟩, Cond.selects RX4 ⟨"GoodNewsPigeons$Pigeon", "tells", "(LGoodNewsPigeons$Act;I)I"⟩ yX4_tells, Cond.instanceMethod yX4_tells, Cond.code yX4_tells cX4_tells 3 (some .int), Cond.methodLink RX4 15 yX0_begins, Cond.methodLink RX4 21 yX7_tells, Cond.superclass RX4 RX7, Cond.methodLink RX4 25 ⟨"GoodNewsPigeons$Keen", "flies", "(LGoodNewsPigeons$Act;I)I"⟩, Cond.sameMethod "GoodNewsPigeons$Keen" "GoodNewsPigeons$Pigeon" "flies" "(LGoodNewsPigeons$Act;I)I", Cond.selects RX4 ⟨"GoodNewsPigeons$Keen", "flies", "(LGoodNewsPigeons$Act;I)I"⟩ yX7_flies, Cond.selects RX10 ⟨"GoodNewsPigeons$Keen", "flies", "(LGoodNewsPigeons$Act;I)I"⟩ yX10_flies, Cond.selects RX6 ⟨"GoodNewsPigeons$Pigeon", "tells", "(LGoodNewsPigeons$Act;I)I"⟩ yX6_tells, Cond.instanceMethod yX6_tells, Cond.code yX6_tells cX6_tells 3 (some .int), Cond.fieldLink RX6 29 "GoodNewsPigeons$Act" "i" "I", Cond.methodLink RX6 23 yX0_begins]
def wsL_law_r41 : List Cond := [Cond.methodLink RX11 243 yX7_tells, Cond.selects RX7 yX7_tells yX7_tells, Cond.selects RX10 ⟨"GoodNewsPigeons$Pigeon", "tells", "(LGoodNewsPigeons$Act;I)I"⟩ yX4_tells, Cond.methodLink RL 123 yX12_act, Cond.instanceMethod yX12_act, Cond.selects RX12 yX12_act yX12_act, Cond.code yX12_act cX12_act 5 (some .int), Cond.fieldLink RX12 303 "GoodNewsPigeonsModel" "traced" "I", Cond.methodLink RX12 310 yX12_coos, Cond.instanceMethod yX12_coos, Cond.selects RX12 yX12_coos yX12_coos, Cond.code yX12_coos cX12_coos 4 (some .int), Cond.methodLink RX12 306 yX12_ran, Cond.instanceMethod yX12_ran, Cond.selects RX12 yX12_ran yX12_ran, Cond.code yX12_ran cX12_ran 2 none, Cond.methodLink RX12 313 yX12_above, Cond.static yX12_above, Cond.code yX12_above cX12_above 1 (some .int), Cond.methodLink RX12 316 yX12_flies, Cond.instanceMethod yX12_flies, Cond.selects RX12 yX12_flies yX12_flies, Cond.code yX12_flies cX12_flies 5 (some .int), Cond.methodLink RX12 319 yX12_tells]
def wsL_law_r42 : List Cond := [Cond.instanceMethod yX12_tells, Cond.selects RX12 yX12_tells yX12_tells, Cond.code yX12_tells cX12_tells 5 (some .int), Cond.methodLink RL 124 yX11_trace, Cond.instanceMethod yX11_trace, Cond.selects RX11 yX11_trace yX11_trace, Cond.code yX11_trace cX11_trace 2 (some .int), Cond.fieldLink RX11 246 "GoodNewsPigeons$Act" "ran" "I", Cond.fieldLink RX11 249 "GoodNewsPigeons$Act" "bodies" "[I", Cond.methodLink RL 127 yX12_trace, Cond.instanceMethod yX12_trace, Cond.selects RX12 yX12_trace yX12_trace, Cond.code yX12_trace cX12_trace 2 (some .int), Cond.methodLink RL 128 yX11_taken, Cond.instanceMethod yX11_taken, Cond.selects RX11 yX11_taken yX11_taken, Cond.code yX11_taken cX11_taken 4 (some .int), Cond.methodLink RX11 252 yX11_isUnder, Cond.static yX11_isUnder, Cond.code yX11_isUnder cX11_isUnder 2 (some .boolean), Cond.classLink RX11 266 "GoodNewsPigeons$Fancy", Cond.classLink RX11 268 "GoodNewsPigeons$Dull", Cond.classLink RX11 270 "GoodNewsPigeons$Keen", Cond.classLink RX11 272 "GoodNewsPigeons$Fast"]
def wsL_law_r43 : List Cond := [Cond.classLink RX11 274 "GoodNewsPigeons$Old", Cond.classLink RX11 276 "GoodNewsPigeons$Told", Cond.methodLink RL 131 yX12_taken, Cond.instanceMethod yX12_taken, Cond.selects RX12 yX12_taken yX12_taken, Cond.code yX12_taken cX12_taken 4 (some .int), Cond.methodLink RL 132 yX11_count, Cond.instanceMethod yX11_count, Cond.selects RX11 yX11_count yX11_count, Cond.code yX11_count cX11_count 2 (some .int), Cond.methodLink RL 135 yX12_count, Cond.instanceMethod yX12_count, Cond.selects RX12 yX12_count yX12_count, Cond.code yX12_count cX12_count 2 (some .int), Cond.methodLink RL 136 yX11_tape, Cond.instanceMethod yX11_tape, Cond.selects RX11 yX11_tape yX11_tape, Cond.code yX11_tape cX11_tape 5 (some .int), Cond.methodLink RL 139 yX12_tape, Cond.instanceMethod yX12_tape, Cond.selects RX12 yX12_tape yX12_tape, Cond.code yX12_tape cX12_tape 5 (some .int), Cond.methodLink RX12 322 yX12_isTape, Cond.static yX12_isTape]
def wsL_law_r44 : List Cond := [Cond.code yX12_isTape cX12_isTape 1 (some .boolean), Cond.methodLink RL 142 yX11_item, Cond.instanceMethod yX11_item, Cond.selects RX11 yX11_item yX11_item, Cond.code yX11_item cX11_item 5 (some .int), Cond.methodLink RX11 256 yX11_cut, Cond.static yX11_cut, Cond.code yX11_cut cX11_cut 3 (some .long), Cond.methodLink RL 146 yX12_item, Cond.instanceMethod yX12_item, Cond.selects RX12 yX12_item yX12_item, Cond.code yX12_item cX12_item 5 (some .int), Cond.methodLink RX12 325 yX12_kept, Cond.static yX12_kept, Cond.code yX12_kept cX12_kept 3 (some .long), Cond.methodLink RL 147 yX11_read, Cond.instanceMethod yX11_read, Cond.selects RX11 yX11_read yX11_read, Cond.code yX11_read cX11_read 3 (some .long), Cond.methodLink RL 150 yX12_read, Cond.instanceMethod yX12_read, Cond.selects RX12 yX12_read yX12_read, Cond.code yX12_read cX12_read 3 (some .long), Cond.methodLink RL 151 yX11_shift]
def wsL_law_r45 : List Cond := [Cond.instanceMethod yX11_shift, Cond.selects RX11 yX11_shift yX11_shift, Cond.code yX11_shift cX11_shift 6 (some .int), Cond.methodLink RX11 260 arraycopyName, Cond.methodLink RL 155 yX12_shift, Cond.instanceMethod yX12_shift, Cond.selects RX12 yX12_shift yX12_shift, Cond.code yX12_shift cX12_shift 7 (some .int)]
def wsL_law : List Cond := (wsL_law_r1 ++ (wsL_law_r2 ++ (wsL_law_r3 ++ (wsL_law_r4 ++ (wsL_law_r5 ++ (wsL_law_r6 ++ (wsL_law_r7 ++ (wsL_law_r8 ++ (wsL_law_r9 ++ (wsL_law_r10 ++ (wsL_law_r11 ++ (wsL_law_r12 ++ (wsL_law_r13 ++ (wsL_law_r14 ++ (wsL_law_r15 ++ (wsL_law_r16 ++ (wsL_law_r17 ++ (wsL_law_r18 ++ (wsL_law_r19 ++ (wsL_law_r20 ++ (wsL_law_r21 ++ (wsL_law_r22 ++ (wsL_law_r23 ++ (wsL_law_r24 ++ (wsL_law_r25 ++ (wsL_law_r26 ++ (wsL_law_r27 ++ (wsL_law_r28 ++ (wsL_law_r29 ++ (wsL_law_r30 ++ (wsL_law_r31 ++ (wsL_law_r32 ++ (wsL_law_r33 ++ (wsL_law_r34 ++ (wsL_law_r35 ++ (wsL_law_r36 ++ (wsL_law_r37 ++ (wsL_law_r38 ++ (wsL_law_r39 ++ (wsL_law_r40 ++ (wsL_law_r41 ++ (wsL_law_r42 ++ (wsL_law_r43 ++ (wsL_law_r44 ++ wsL_law_r45)))))))))))))))))))))))))))))))))))))))))))) ++ wsX110 ++ wsX120 ++ wsX90 ++ wsX00 ++ wsX50 ++ wsX80 ++ wsX70 ++ wsX20 ++ wsX10 ++ wsX40 ++ wsX30 ++ wsX60 ++ wsX100 ++ ([] : List Cond)
theorem inlX0 : ∀ w ∈ wsX00, w ∈ wsL_law := fun _ h => List.mem_append_left _ (List.mem_append_left _ (List.mem_append_left _ (List.mem_append_left _ (List.mem_append_left _ (List.mem_append_left _ (List.mem_append_left _ (List.mem_append_left _ (List.mem_append_left _ (List.mem_append_left _ (List.mem_append_right _ h))))))))))
theorem inlX1 : ∀ w ∈ wsX10, w ∈ wsL_law := fun _ h => List.mem_append_left _ (List.mem_append_left _ (List.mem_append_left _ (List.mem_append_left _ (List.mem_append_left _ (List.mem_append_right _ h)))))
theorem inlX2 : ∀ w ∈ wsX20, w ∈ wsL_law := fun _ h => List.mem_append_left _ (List.mem_append_left _ (List.mem_append_left _ (List.mem_append_left _ (List.mem_append_left _ (List.mem_append_left _ (List.mem_append_right _ h))))))
theorem inlX3 : ∀ w ∈ wsX30, w ∈ wsL_law := fun _ h => List.mem_append_left _ (List.mem_append_left _ (List.mem_append_left _ (List.mem_append_right _ h)))
theorem inlX4 : ∀ w ∈ wsX40, w ∈ wsL_law := fun _ h => List.mem_append_left _ (List.mem_append_left _ (List.mem_append_left _ (List.mem_append_left _ (List.mem_append_right _ h))))
theorem inlX5 : ∀ w ∈ wsX50, w ∈ wsL_law := fun _ h => List.mem_append_left _ (List.mem_append_left _ (List.mem_append_left _ (List.mem_append_left _ (List.mem_append_left _ (List.mem_append_left _ (List.mem_append_left _ (List.mem_append_left _ (List.mem_append_left _ (List.mem_append_right _ h)))))))))
theorem inlX6 : ∀ w ∈ wsX60, w ∈ wsL_law := fun _ h => List.mem_append_left _ (List.mem_append_left _ (List.mem_append_right _ h))
theorem inlX7 : ∀ w ∈ wsX70, w ∈ wsL_law := fun _ h => List.mem_append_left _ (List.mem_append_left _ (List.mem_append_left _ (List.mem_append_left _ (List.mem_append_left _ (List.mem_append_left _ (List.mem_append_left _ (List.mem_append_right _ h)))))))
theorem inlX8 : ∀ w ∈ wsX80, w ∈ wsL_law := fun _ h => List.mem_append_left _ (List.mem_append_left _ (List.mem_append_left _ (List.mem_append_left _ (List.mem_append_left _ (List.mem_append_left _ (List.mem_append_left _ (List.mem_append_left _ (List.mem_append_right _ h))))))))
theorem inlX9 : ∀ w ∈ wsX90, w ∈ wsL_law := fun _ h => List.mem_append_left _ (List.mem_append_left _ (List.mem_append_left _ (List.mem_append_left _ (List.mem_append_left _ (List.mem_append_left _ (List.mem_append_left _ (List.mem_append_left _ (List.mem_append_left _ (List.mem_append_left _ (List.mem_append_left _ (List.mem_append_right _ h)))))))))))
theorem inlX10 : ∀ w ∈ wsX100, w ∈ wsL_law := fun _ h => List.mem_append_left _ (List.mem_append_right _ h)
theorem inlX11 : ∀ w ∈ wsX110, w ∈ wsL_law := fun _ h => List.mem_append_left _ (List.mem_append_left _ (List.mem_append_left _ (List.mem_append_left _ (List.mem_append_left _ (List.mem_append_left _ (List.mem_append_left _ (List.mem_append_left _ (List.mem_append_left _ (List.mem_append_left _ (List.mem_append_left _ (List.mem_append_left _ (List.mem_append_left _ (List.mem_append_right _ h)))))))))))))
theorem inlX12 : ∀ w ∈ wsX120, w ∈ wsL_law := fun _ h => List.mem_append_left _ (List.mem_append_left _ (List.mem_append_left _ (List.mem_append_left _ (List.mem_append_left _ (List.mem_append_left _ (List.mem_append_left _ (List.mem_append_left _ (List.mem_append_left _ (List.mem_append_left _ (List.mem_append_left _ (List.mem_append_left _ (List.mem_append_right _ h))))))))))))
abbrev vwCl : List vw_C := [(RX0, TX0, 4), (RX1, TX1, 0), (RX2, TX2, 0), (RX3, TX3, 0), (RX4, TX4, 0), (RX5, TX5, 10), (RX6, TX6, 0), (RX7, TX7, 0), (RX8, TX8, 4), (RX9, TX9, 16), (RX10, TX10, 0), (RX11, TX11, 13), (RX12, TX12, 45)]

