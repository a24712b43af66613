theorem gLo_n {t : Nat → Int32} {n : Nat} : ∀ {d p : Nat} {acc : List (Nat × Nat × List Nat)}, p ≤ n → (gLo t n d p acc).2.1 ≤ n
  | 0, _, _, h => h
  | d + 1, p, acc, h => by
    have f := gKl_fit (t := t) h
    rw [gLo]
    split
    · split
      · exact f.2.1
      · split
        · rename_i h3
          exact gLo_n (by omega)
        · exact f.2.1
    · exact f.2.1
