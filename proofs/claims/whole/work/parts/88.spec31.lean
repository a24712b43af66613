/-! more rows of the constructors -/
theorem gSg_pre {G : gW} {b : Nat} {L M : List va_E} {H : Heap} (h : gSg G b (L ++ M) H) : gSg G b L H := fun k y hk => h k y (by rw [List.getElem?_append_left (List.getElem?_eq_some_iff.mp hk).1]; exact hk)
theorem gSg_suf {G : gW} {b : Nat} {L M : List va_E} {H : Heap} (h : gSg G b (L ++ M) H) : gSg G (b + L.length) M H := fun k y hk => by
  have := h (L.length + k) y (by rw [List.getElem?_append_right (by omega), show L.length + k - L.length = k by omega]; exact hk)
  rw [← Nat.add_assoc] at this
  exact this
/-- a new Loft -/
def gFl0 : gPS := fun r => match r with
  | 5 => fun i => if i = 4 then 1 else 0
  | _ => fun _ => 0
