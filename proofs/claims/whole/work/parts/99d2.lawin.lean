/-! THE LAW's words lie in its tables, each at its place -/
theorem gQp0 {w : Cond} (i : Nat) (h : (k2_sels lw_privs)[i]? = some w) : w ∈ lw_tbl := List.mem_append_left _ (List.mem_of_getElem? h)
theorem gQp1 {w : Cond} (i : Nat) (h : tables_1_1[i]? = some w) : w ∈ lw_tbl := List.mem_append_right _ (show w ∈ tables_1 from List.mem_append_left _ (List.mem_of_getElem? h))
theorem gQp2 {w : Cond} (i : Nat) (h : tables_1_2[i]? = some w) : w ∈ lw_tbl := List.mem_append_right _ (show w ∈ tables_1 from List.mem_append_right _ (List.mem_append_left _ (List.mem_of_getElem? h)))
theorem gQp3 {w : Cond} (i : Nat) (h : tables_1_3[i]? = some w) : w ∈ lw_tbl := List.mem_append_right _ (show w ∈ tables_1 from List.mem_append_right _ (List.mem_append_right _ (List.mem_append_left _ (List.mem_of_getElem? h))))
theorem gQp4 {w : Cond} (i : Nat) (h : tables_1_4[i]? = some w) : w ∈ lw_tbl := List.mem_append_right _ (show w ∈ tables_1 from List.mem_append_right _ (List.mem_append_right _ (List.mem_append_right _ (List.mem_append_left _ (List.mem_of_getElem? h)))))
theorem gQp5 {w : Cond} (i : Nat) (h : tables_1_5[i]? = some w) : w ∈ lw_tbl := List.mem_append_right _ (show w ∈ tables_1 from List.mem_append_right _ (List.mem_append_right _ (List.mem_append_right _ (List.mem_append_right _ (List.mem_append_left _ (List.mem_of_getElem? h))))))
theorem gQp6 {w : Cond} (i : Nat) (h : tables_1_6[i]? = some w) : w ∈ lw_tbl := List.mem_append_right _ (show w ∈ tables_1 from List.mem_append_right _ (List.mem_append_right _ (List.mem_append_right _ (List.mem_append_right _ (List.mem_append_right _ (List.mem_of_getElem? h))))))
theorem gPin_1 : ∀ w ∈ wsL_law_r1, w ∈ lw_tbl := by
  intro w h
  simp only [wsL_law_r1, List.mem_cons, List.not_mem_nil, or_false] at h
  rcases h with e | e | e | e | e | e | e | e | e | e | e | e | e | e | e | e | e | e | e | e | e | e | e | e <;> subst e
  · exact gQp1 22 rfl
  · exact gQp1 23 rfl
  · exact gQp1 1 rfl
  · exact gQp4 62 rfl
  · exact gQp4 63 rfl
  · exact gQp1 14 rfl
  · exact gQp6 83 rfl
  · exact gQp1 24 rfl
  · exact gQp1 25 rfl
  · exact gQp1 26 rfl
  · exact gQp1 27 rfl
  · exact gQp1 28 rfl
  · exact gQp1 29 rfl
  · exact gQp1 30 rfl
  · exact gQp1 31 rfl
  · exact gQp1 2 rfl
  · exact gQp2 28 rfl
  · exact gQp2 29 rfl
  · exact gQp2 30 rfl
  · exact gQp1 115 rfl
  · exact gQp2 32 rfl
  · exact gQp1 238 rfl
  · exact gQp2 34 rfl
  · exact gQp1 64 rfl
theorem gPin_2 : ∀ w ∈ wsL_law_r2, w ∈ lw_tbl := by
  intro w h
  simp only [wsL_law_r2, List.mem_cons, List.not_mem_nil, or_false] at h
  rcases h with e | e | e | e | e | e | e | e | e | e | e | e | e | e | e | e | e | e | e | e | e | e | e | e <;> subst e
  · exact gQp2 36 rfl
  · exact gQp2 0 rfl
  · exact gQp2 1 rfl
  · exact gQp1 13 rfl
  · exact gQp2 37 rfl
  · exact gQp2 38 rfl
  · exact gQp2 39 rfl
  · exact gQp2 25 rfl
  · exact gQp2 68 rfl
  · exact gQp2 40 rfl
  · exact gQp1 66 rfl
  · exact gQp1 4 rfl
  · exact gQp1 32 rfl
  · exact gQp1 33 rfl
  · exact gQp1 34 rfl
  · exact gQp1 35 rfl
  · exact gQp1 36 rfl
  · exact gQp1 164 rfl
  · exact gQp1 166 rfl
  · exact gQp1 169 rfl
  · exact gQp1 171 rfl
  · exact gQp1 174 rfl
  · exact gQp1 178 rfl
  · exact gQp1 180 rfl
theorem gPin_3 : ∀ w ∈ wsL_law_r3, w ∈ lw_tbl := by
  intro w h
  simp only [wsL_law_r3, List.mem_cons, List.not_mem_nil, or_false] at h
  rcases h with e | e | e | e | e | e | e | e | e | e | e | e | e | e | e | e | e | e | e | e | e | e | e | e <;> subst e
  · exact gQp1 184 rfl
  · exact gQp1 186 rfl
  · exact gQp1 38 rfl
  · exact gQp1 39 rfl
  · exact gQp1 3 rfl
  · exact gQp1 189 rfl
  · exact gQp1 191 rfl
  · exact gQp1 193 rfl
  · exact gQp1 65 rfl
  · exact gQp1 203 rfl
  · exact gQp1 116 rfl
  · exact gQp1 6 rfl
  · exact gQp1 122 rfl
  · exact gQp1 123 rfl
  · exact gQp1 7 rfl
  · exact gQp1 129 rfl
  · exact gQp1 130 rfl
  · exact gQp1 8 rfl
  · exact gQp1 136 rfl
  · exact gQp1 137 rfl
  · exact gQp1 9 rfl
  · exact gQp1 143 rfl
  · exact gQp1 144 rfl
  · exact gQp1 10 rfl
theorem gPin_4 : ∀ w ∈ wsL_law_r4, w ∈ lw_tbl := by
  intro w h
  simp only [wsL_law_r4, List.mem_cons, List.not_mem_nil, or_false] at h
  rcases h with e | e | e | e | e | e | e | e | e | e | e | e | e | e | e | e | e | e | e | e | e | e | e | e <;> subst e
  · exact gQp1 150 rfl
  · exact gQp1 151 rfl
  · exact gQp1 11 rfl
  · exact gQp1 157 rfl
  · exact gQp1 158 rfl
  · exact gQp1 12 rfl
  · exact gQp1 40 rfl
  · exact gQp1 41 rfl
  · exact gQp1 42 rfl
  · exact gQp1 43 rfl
  · exact gQp1 44 rfl
  · exact gQp1 47 rfl
  · exact gQp1 50 rfl
  · exact gQp1 68 rfl
  · exact gQp1 69 rfl
  · exact gQp1 70 rfl
  · exact gQp1 82 rfl
  · exact gQp1 85 rfl
  · exact gQp1 87 rfl
  · exact gQp1 88 rfl
  · exact gQp1 90 rfl
  · exact gQp1 91 rfl
  · exact gQp1 72 rfl
  · exact gQp1 73 rfl
theorem gPin_5 : ∀ w ∈ wsL_law_r5, w ∈ lw_tbl := by
  intro w h
  simp only [wsL_law_r5, List.mem_cons, List.not_mem_nil, or_false] at h
  rcases h with e | e | e | e | e | e | e | e | e | e | e | e | e | e | e | e | e | e | e | e | e | e | e | e <;> subst e
  · exact gQp1 74 rfl
  · exact gQp1 5 rfl
  · exact gQp1 75 rfl
  · exact gQp6 97 rfl
  · exact gQp1 76 rfl
  · exact gQp1 77 rfl
  · exact gQp1 78 rfl
  · exact gQp1 79 rfl
  · exact gQp1 80 rfl
  · exact gQp6 98 rfl
  · exact gQp1 118 rfl
  · exact gQp1 119 rfl
  · exact gQp1 120 rfl
  · exact gQp1 125 rfl
  · exact gQp1 126 rfl
  · exact gQp1 132 rfl
  · exact gQp1 133 rfl
  · exact gQp1 139 rfl
  · exact gQp1 140 rfl
  · exact gQp1 146 rfl
  · exact gQp1 147 rfl
  · exact gQp1 153 rfl
  · exact gQp1 154 rfl
  · exact gQp1 160 rfl
theorem gPin_6 : ∀ w ∈ wsL_law_r6, w ∈ lw_tbl := by
  intro w h
  simp only [wsL_law_r6, List.mem_cons, List.not_mem_nil, or_false] at h
  rcases h with e | e | e | e | e | e | e | e | e | e | e | e | e | e | e | e | e | e | e | e | e | e | e | e <;> subst e
  · exact gQp1 161 rfl
  · exact gQp2 3 rfl
  · exact gQp2 4 rfl
  · exact gQp2 5 rfl
  · exact gQp2 6 rfl
  · exact gQp4 64 rfl
  · exact gQp4 65 rfl
  · exact gQp4 66 rfl
  · exact gQp4 67 rfl
  · exact gQp4 68 rfl
  · exact gQp4 69 rfl
  · exact gQp4 72 rfl
  · exact gQp4 73 rfl
  · exact gQp4 74 rfl
  · exact gQp4 75 rfl
  · exact gQp4 76 rfl
  · exact gQp4 77 rfl
  · exact gQp4 80 rfl
  · exact gQp4 87 rfl
  · exact gQp4 88 rfl
  · exact gQp4 89 rfl
  · exact gQp4 90 rfl
  · exact gQp4 91 rfl
  · exact gQp4 92 rfl
theorem gPin_7 : ∀ w ∈ wsL_law_r7, w ∈ lw_tbl := by
  intro w h
  simp only [wsL_law_r7, List.mem_cons, List.not_mem_nil, or_false] at h
  rcases h with e | e | e | e | e | e | e | e | e | e | e | e | e | e | e | e | e | e | e | e | e | e | e | e <;> subst e
  · exact gQp4 204 rfl
  · exact gQp4 94 rfl
  · exact gQp4 96 rfl
  · exact gQp4 97 rfl
  · exact gQp4 98 rfl
  · exact gQp4 100 rfl
  · exact gQp4 101 rfl
  · exact gQp4 103 rfl
  · exact gQp4 104 rfl
  · exact gQp4 106 rfl
  · exact gQp4 108 rfl
  · exact gQp4 109 rfl
  · exact gQp4 110 rfl
  · exact gQp4 111 rfl
  · exact gQp4 112 rfl
  · exact gQp4 86 rfl
  · exact gQp2 69 rfl
  · exact gQp2 70 rfl
  · exact gQp2 71 rfl
  · exact gQp2 72 rfl
  · exact gQp1 195 rfl
  · exact gQp2 73 rfl
  · exact gQp2 74 rfl
  · exact gQp2 75 rfl
theorem gPin_8 : ∀ w ∈ wsL_law_r8, w ∈ lw_tbl := by
  intro w h
  simp only [wsL_law_r8, List.mem_cons, List.not_mem_nil, or_false] at h
  rcases h with e | e | e | e | e | e | e | e | e | e | e | e | e | e | e | e | e | e | e | e | e | e | e | e <;> subst e
  · exact gQp2 76 rfl
  · exact gQp2 77 rfl
  · exact gQp2 78 rfl
  · exact gQp2 79 rfl
  · exact gQp1 196 rfl
  · exact gQp4 205 rfl
  · exact gQp4 206 rfl
  · exact gQp4 207 rfl
  · exact gQp4 208 rfl
  · exact gQp4 71 rfl
  · exact gQp4 209 rfl
  · exact gQp4 210 rfl
  · exact gQp4 211 rfl
  · exact gQp2 80 rfl
  · exact gQp2 81 rfl
  · exact gQp2 82 rfl
  · exact gQp2 83 rfl
  · exact gQp1 172 rfl
  · exact gQp1 176 rfl
  · exact gQp1 179 rfl
  · exact gQp1 182 rfl
  · exact gQp1 185 rfl
  · exact gQp2 84 rfl
  · exact gQp2 86 rfl
theorem gPin_9 : ∀ w ∈ wsL_law_r9, w ∈ lw_tbl := by
  intro w h
  simp only [wsL_law_r9, List.mem_cons, List.not_mem_nil, or_false] at h
  rcases h with e | e | e | e | e | e | e | e | e | e | e | e | e | e | e | e | e | e | e | e | e | e | e | e <;> subst e
  · exact gQp0 0 rfl
  · exact gQp2 87 rfl
  · exact gQp2 88 rfl
  · exact gQp2 89 rfl
  · exact gQp2 90 rfl
  · exact gQp2 91 rfl
  · exact gQp2 92 rfl
  · exact gQp2 93 rfl
  · exact gQp2 94 rfl
  · exact gQp2 95 rfl
  · exact gQp2 96 rfl
  · exact gQp2 97 rfl
  · exact gQp1 15 rfl
  · exact gQp2 98 rfl
  · exact gQp2 99 rfl
  · exact gQp2 100 rfl
  · exact gQp2 101 rfl
  · exact gQp2 102 rfl
  · exact gQp2 103 rfl
  · exact gQp2 104 rfl
  · exact gQp2 105 rfl
  · exact gQp1 173 rfl
  · exact gQp1 177 rfl
  · exact gQp1 183 rfl
theorem gPin_10 : ∀ w ∈ wsL_law_r10, w ∈ lw_tbl := by
  intro w h
  simp only [wsL_law_r10, List.mem_cons, List.not_mem_nil, or_false] at h
  rcases h with e | e | e | e | e | e | e | e | e | e | e | e | e | e | e | e | e | e | e | e | e | e | e | e <;> subst e
  · exact gQp1 202 rfl
  · exact gQp1 89 rfl
  · exact gQp2 106 rfl
  · exact gQp2 108 rfl
  · exact gQp0 1 rfl
  · exact gQp2 109 rfl
  · exact gQp2 110 rfl
  · exact gQp2 112 rfl
  · exact gQp0 2 rfl
  · exact gQp2 113 rfl
  · exact gQp2 114 rfl
  · exact gQp2 115 rfl
  · exact gQp2 116 rfl
  · exact gQp2 117 rfl
  · exact gQp2 118 rfl
  · exact gQp2 121 rfl
  · exact gQp2 119 rfl
  · exact gQp2 122 rfl
  · exact gQp2 123 rfl
  · exact gQp2 124 rfl
  · exact gQp2 145 rfl
  · exact gQp2 125 rfl
  · exact gQp2 126 rfl
  · exact gQp2 127 rfl
theorem gPin_11 : ∀ w ∈ wsL_law_r11, w ∈ lw_tbl := by
  intro w h
  simp only [wsL_law_r11, List.mem_cons, List.not_mem_nil, or_false] at h
  rcases h with e | e | e | e | e | e | e | e | e | e | e | e | e | e | e | e | e | e | e | e | e | e | e | e <;> subst e
  · exact gQp1 175 rfl
  · exact gQp2 128 rfl
  · exact gQp2 129 rfl
  · exact gQp2 130 rfl
  · exact gQp1 181 rfl
  · exact gQp2 131 rfl
  · exact gQp6 84 rfl
  · exact gQp1 149 rfl
  · exact gQp2 132 rfl
  · exact gQp2 133 rfl
  · exact gQp2 134 rfl
  · exact gQp1 167 rfl
  · exact gQp2 135 rfl
  · exact gQp2 136 rfl
  · exact gQp2 137 rfl
  · exact gQp1 197 rfl
  · exact gQp2 138 rfl
  · exact gQp6 85 rfl
  · exact gQp1 156 rfl
  · exact gQp2 139 rfl
  · exact gQp2 118 rfl
  · exact gQp2 119 rfl
  · exact gQp2 120 rfl
  · exact gQp2 140 rfl
theorem gPin_12 : ∀ w ∈ wsL_law_r12, w ∈ lw_tbl := by
  intro w h
  simp only [wsL_law_r12, List.mem_cons, List.not_mem_nil, or_false] at h
  rcases h with e | e | e | e | e | e | e | e | e | e | e | e | e | e | e | e | e | e | e | e | e | e | e | e <;> subst e
  · exact gQp2 141 rfl
  · exact gQp2 142 rfl
  · exact gQp1 187 rfl
  · exact gQp2 143 rfl
  · exact gQp2 144 rfl
  · exact gQp6 86 rfl
  · exact gQp1 163 rfl
  · exact gQp2 146 rfl
  · exact gQp2 148 rfl
  · exact gQp0 3 rfl
  · exact gQp2 149 rfl
  · exact gQp2 150 rfl
  · exact gQp4 212 rfl
  · exact gQp4 213 rfl
  · exact gQp4 214 rfl
  · exact gQp4 215 rfl
  · exact gQp4 216 rfl
  · exact gQp4 218 rfl
  · exact gQp0 19 rfl
  · exact gQp4 219 rfl
  · exact gQp4 220 rfl
  · exact gQp4 222 rfl
  · exact gQp0 20 rfl
  · exact gQp4 223 rfl
theorem gPin_13 : ∀ w ∈ wsL_law_r13, w ∈ lw_tbl := by
  intro w h
  simp only [wsL_law_r13, List.mem_cons, List.not_mem_nil, or_false] at h
  rcases h with e | e | e | e | e | e | e | e | e | e | e | e | e | e | e | e | e | e | e | e | e | e | e | e <;> subst e
  · exact gQp4 224 rfl
  · exact gQp4 226 rfl
  · exact gQp0 21 rfl
  · exact gQp4 227 rfl
  · exact gQp4 70 rfl
  · exact gQp4 228 rfl
  · exact gQp4 230 rfl
  · exact gQp0 22 rfl
  · exact gQp4 231 rfl
  · exact gQp4 232 rfl
  · exact gQp4 233 rfl
  · exact gQp4 234 rfl
  · exact gQp4 235 rfl
  · exact gQp4 237 rfl
  · exact gQp0 23 rfl
  · exact gQp4 238 rfl
  · exact gQp4 239 rfl
  · exact gQp5 1 rfl
  · exact gQp0 24 rfl
  · exact gQp5 2 rfl
  · exact gQp4 78 rfl
  · exact gQp5 3 rfl
  · exact gQp5 4 rfl
  · exact gQp5 6 rfl
theorem gPin_14 : ∀ w ∈ wsL_law_r14, w ∈ lw_tbl := by
  intro w h
  simp only [wsL_law_r14, List.mem_cons, List.not_mem_nil, or_false] at h
  rcases h with e | e | e | e | e | e | e | e | e | e | e | e | e | e | e | e | e | e | e | e | e | e | e | e <;> subst e
  · exact gQp0 25 rfl
  · exact gQp5 7 rfl
  · exact gQp5 8 rfl
  · exact gQp2 187 rfl
  · exact gQp1 16 rfl
  · exact gQp2 188 rfl
  · exact gQp5 9 rfl
  · exact gQp5 11 rfl
  · exact gQp0 26 rfl
  · exact gQp5 12 rfl
  · exact gQp2 151 rfl
  · exact gQp2 152 rfl
  · exact gQp2 153 rfl
  · exact gQp2 154 rfl
  · exact gQp5 13 rfl
  · exact gQp5 14 rfl
  · exact gQp5 15 rfl
  · exact gQp5 16 rfl
  · exact gQp5 17 rfl
  · exact gQp5 18 rfl
  · exact gQp5 19 rfl
  · exact gQp2 155 rfl
  · exact gQp2 156 rfl
  · exact gQp2 157 rfl
theorem gPin_15 : ∀ w ∈ wsL_law_r15, w ∈ lw_tbl := by
  intro w h
  simp only [wsL_law_r15, List.mem_cons, List.not_mem_nil, or_false] at h
  rcases h with e | e | e | e | e | e | e | e | e | e | e | e | e | e | e | e | e | e | e | e | e | e | e | e <;> subst e
  · exact gQp2 158 rfl
  · exact gQp5 20 rfl
  · exact gQp5 21 rfl
  · exact gQp5 22 rfl
  · exact gQp5 23 rfl
  · exact gQp2 159 rfl
  · exact gQp2 160 rfl
  · exact gQp2 161 rfl
  · exact gQp2 162 rfl
  · exact gQp5 24 rfl
  · exact gQp5 25 rfl
  · exact gQp5 26 rfl
  · exact gQp5 27 rfl
  · exact gQp2 163 rfl
  · exact gQp2 164 rfl
  · exact gQp2 165 rfl
  · exact gQp2 166 rfl
  · exact gQp1 168 rfl
  · exact gQp1 170 rfl
  · exact gQp2 167 rfl
  · exact gQp2 168 rfl
  · exact gQp2 169 rfl
  · exact gQp5 28 rfl
  · exact gQp5 29 rfl
theorem gPin_16 : ∀ w ∈ wsL_law_r16, w ∈ lw_tbl := by
  intro w h
  simp only [wsL_law_r16, List.mem_cons, List.not_mem_nil, or_false] at h
  rcases h with e | e | e | e | e | e | e | e | e | e | e | e | e | e | e | e | e | e | e | e | e | e | e | e <;> subst e
  · exact gQp5 30 rfl
  · exact gQp5 31 rfl
  · exact gQp5 32 rfl
  · exact gQp5 33 rfl
  · exact gQp5 34 rfl
  · exact gQp2 170 rfl
  · exact gQp2 171 rfl
  · exact gQp2 172 rfl
  · exact gQp2 173 rfl
  · exact gQp1 188 rfl
  · exact gQp5 35 rfl
  · exact gQp5 36 rfl
  · exact gQp5 37 rfl
  · exact gQp5 38 rfl
  · exact gQp2 174 rfl
  · exact gQp2 175 rfl
  · exact gQp2 176 rfl
  · exact gQp2 177 rfl
  · exact gQp2 33 rfl
  · exact gQp5 39 rfl
  · exact gQp5 40 rfl
  · exact gQp5 41 rfl
  · exact gQp5 42 rfl
  · exact gQp4 79 rfl
theorem gPin_17 : ∀ w ∈ wsL_law_r17, w ∈ lw_tbl := by
  intro w h
  simp only [wsL_law_r17, List.mem_cons, List.not_mem_nil, or_false] at h
  rcases h with e | e | e | e | e | e | e | e | e | e | e | e | e | e | e | e | e | e | e | e | e | e | e | e <;> subst e
  · exact gQp2 178 rfl
  · exact gQp2 179 rfl
  · exact gQp2 180 rfl
  · exact gQp2 181 rfl
  · exact gQp2 35 rfl
  · exact gQp1 204 rfl
  · exact gQp2 182 rfl
  · exact gQp2 183 rfl
  · exact gQp2 184 rfl
  · exact gQp2 185 rfl
  · exact gQp2 186 rfl
  · exact gQp1 83 rfl
  · exact gQp2 189 rfl
  · exact gQp2 191 rfl
  · exact gQp2 190 rfl
  · exact gQp1 17 rfl
  · exact gQp1 84 rfl
  · exact gQp1 86 rfl
  · exact gQp2 192 rfl
  · exact gQp2 194 rfl
  · exact gQp0 4 rfl
  · exact gQp2 195 rfl
  · exact gQp2 196 rfl
  · exact gQp2 198 rfl
theorem gPin_18 : ∀ w ∈ wsL_law_r18, w ∈ lw_tbl := by
  intro w h
  simp only [wsL_law_r18, List.mem_cons, List.not_mem_nil, or_false] at h
  rcases h with e | e | e | e | e | e | e | e | e | e | e | e | e | e | e | e | e | e | e | e | e | e | e | e <;> subst e
  · exact gQp0 5 rfl
  · exact gQp2 199 rfl
  · exact gQp2 201 rfl
  · exact gQp2 203 rfl
  · exact gQp0 6 rfl
  · exact gQp2 204 rfl
  · exact gQp2 205 rfl
  · exact gQp2 206 rfl
  · exact gQp2 207 rfl
  · exact gQp2 208 rfl
  · exact gQp2 209 rfl
  · exact gQp2 210 rfl
  · exact gQp2 211 rfl
  · exact gQp2 212 rfl
  · exact gQp2 213 rfl
  · exact gQp2 214 rfl
  · exact gQp1 18 rfl
  · exact gQp2 215 rfl
  · exact gQp2 216 rfl
  · exact gQp2 217 rfl
  · exact gQp2 218 rfl
  · exact gQp2 219 rfl
  · exact gQp2 221 rfl
  · exact gQp2 222 rfl
theorem gPin_19 : ∀ w ∈ wsL_law_r19, w ∈ lw_tbl := by
  intro w h
  simp only [wsL_law_r19, List.mem_cons, List.not_mem_nil, or_false] at h
  rcases h with e | e | e | e | e | e | e | e | e | e | e | e | e | e | e | e | e | e | e | e | e | e | e | e <;> subst e
  · exact gQp1 19 rfl
  · exact gQp2 223 rfl
  · exact gQp2 224 rfl
  · exact gQp2 225 rfl
  · exact gQp1 20 rfl
  · exact gQp2 226 rfl
  · exact gQp2 227 rfl
  · exact gQp2 228 rfl
  · exact gQp2 229 rfl
  · exact gQp2 230 rfl
  · exact gQp2 231 rfl
  · exact gQp2 232 rfl
  · exact gQp2 233 rfl
  · exact gQp2 234 rfl
  · exact gQp2 235 rfl
  · exact gQp2 236 rfl
  · exact gQp2 237 rfl
  · exact gQp2 239 rfl
  · exact gQp3 1 rfl
  · exact gQp3 3 rfl
  · exact gQp3 5 rfl
  · exact gQp0 7 rfl
  · exact gQp3 6 rfl
  · exact gQp3 7 rfl
theorem gPin_20 : ∀ w ∈ wsL_law_r20, w ∈ lw_tbl := by
  intro w h
  simp only [wsL_law_r20, List.mem_cons, List.not_mem_nil, or_false] at h
  rcases h with e | e | e | e | e | e | e | e | e | e | e | e | e | e | e | e | e | e | e | e | e | e | e | e <;> subst e
  · exact gQp3 9 rfl
  · exact gQp0 8 rfl
  · exact gQp3 10 rfl
  · exact gQp3 11 rfl
  · exact gQp3 12 rfl
  · exact gQp3 13 rfl
  · exact gQp3 16 rfl
  · exact gQp3 18 rfl
  · exact gQp0 9 rfl
  · exact gQp3 19 rfl
  · exact gQp3 20 rfl
  · exact gQp3 22 rfl
  · exact gQp0 10 rfl
  · exact gQp3 24 rfl
  · exact gQp3 26 rfl
  · exact gQp0 11 rfl
  · exact gQp3 27 rfl
  · exact gQp3 23 rfl
  · exact gQp3 28 rfl
  · exact gQp3 30 rfl
  · exact gQp0 12 rfl
  · exact gQp3 31 rfl
  · exact gQp3 32 rfl
  · exact gQp3 34 rfl
theorem gPin_21 : ∀ w ∈ wsL_law_r21, w ∈ lw_tbl := by
  intro w h
  simp only [wsL_law_r21, List.mem_cons, List.not_mem_nil, or_false] at h
  rcases h with e | e | e | e | e | e | e | e | e | e | e | e | e | e | e | e | e | e | e | e | e | e | e | e <;> subst e
  · exact gQp0 13 rfl
  · exact gQp3 35 rfl
  · exact gQp5 43 rfl
  · exact gQp5 44 rfl
  · exact gQp5 45 rfl
  · exact gQp5 46 rfl
  · exact gQp4 85 rfl
  · exact gQp4 93 rfl
  · exact gQp4 81 rfl
  · exact gQp5 47 rfl
  · exact gQp5 49 rfl
  · exact gQp0 27 rfl
  · exact gQp5 50 rfl
  · exact gQp4 82 rfl
  · exact gQp4 84 rfl
  · exact gQp5 52 rfl
  · exact gQp5 54 rfl
  · exact gQp0 28 rfl
  · exact gQp5 55 rfl
  · exact gQp5 56 rfl
  · exact gQp5 57 rfl
  · exact gQp5 58 rfl
  · exact gQp5 60 rfl
  · exact gQp0 29 rfl
theorem gPin_22 : ∀ w ∈ wsL_law_r22, w ∈ lw_tbl := by
  intro w h
  simp only [wsL_law_r22, List.mem_cons, List.not_mem_nil, or_false] at h
  rcases h with e | e | e | e | e | e | e | e | e | e | e | e | e | e | e | e | e | e | e | e | e | e | e | e <;> subst e
  · exact gQp5 61 rfl
  · exact gQp5 64 rfl
  · exact gQp5 66 rfl
  · exact gQp0 30 rfl
  · exact gQp5 67 rfl
  · exact gQp4 83 rfl
  · exact gQp5 68 rfl
  · exact gQp5 70 rfl
  · exact gQp0 31 rfl
  · exact gQp5 71 rfl
  · exact gQp5 72 rfl
  · exact gQp5 74 rfl
  · exact gQp0 32 rfl
  · exact gQp5 75 rfl
  · exact gQp5 76 rfl
  · exact gQp5 78 rfl
  · exact gQp0 33 rfl
  · exact gQp5 88 rfl
  · exact gQp5 90 rfl
  · exact gQp0 36 rfl
  · exact gQp5 91 rfl
  · exact gQp5 83 rfl
  · exact gQp5 84 rfl
  · exact gQp5 86 rfl
theorem gPin_23 : ∀ w ∈ wsL_law_r23, w ∈ lw_tbl := by
  intro w h
  simp only [wsL_law_r23, List.mem_cons, List.not_mem_nil, or_false] at h
  rcases h with e | e | e | e | e | e | e | e | e | e | e | e | e | e | e | e | e | e | e | e | e | e | e | e <;> subst e
  · exact gQp0 35 rfl
  · exact gQp5 87 rfl
  · exact gQp5 80 rfl
  · exact gQp5 82 rfl
  · exact gQp0 34 rfl
  · exact gQp5 92 rfl
  · exact gQp5 94 rfl
  · exact gQp0 37 rfl
  · exact gQp5 95 rfl
  · exact gQp5 97 rfl
  · exact gQp5 98 rfl
  · exact gQp5 99 rfl
  · exact gQp5 100 rfl
  · exact gQp5 101 rfl
  · exact gQp5 102 rfl
  · exact gQp5 103 rfl
  · exact gQp5 104 rfl
  · exact gQp5 105 rfl
  · exact gQp5 106 rfl
  · exact gQp5 107 rfl
  · exact gQp5 108 rfl
  · exact gQp5 112 rfl
  · exact gQp5 113 rfl
  · exact gQp5 109 rfl
theorem gPin_24 : ∀ w ∈ wsL_law_r24, w ∈ lw_tbl := by
  intro w h
  simp only [wsL_law_r24, List.mem_cons, List.not_mem_nil, or_false] at h
  rcases h with e | e | e | e | e | e | e | e | e | e | e | e | e | e | e | e | e | e | e | e | e | e | e | e <;> subst e
  · exact gQp5 110 rfl
  · exact gQp5 111 rfl
  · exact gQp5 114 rfl
  · exact gQp5 115 rfl
  · exact gQp5 116 rfl
  · exact gQp5 117 rfl
  · exact gQp5 118 rfl
  · exact gQp5 119 rfl
  · exact gQp5 120 rfl
  · exact gQp5 121 rfl
  · exact gQp5 122 rfl
  · exact gQp5 123 rfl
  · exact gQp5 124 rfl
  · exact gQp5 125 rfl
  · exact gQp5 126 rfl
  · exact gQp5 127 rfl
  · exact gQp5 128 rfl
  · exact gQp5 129 rfl
  · exact gQp5 130 rfl
  · exact gQp5 131 rfl
  · exact gQp5 132 rfl
  · exact gQp5 133 rfl
  · exact gQp5 134 rfl
  · exact gQp5 135 rfl
theorem gPin_25 : ∀ w ∈ wsL_law_r25, w ∈ lw_tbl := by
  intro w h
  simp only [wsL_law_r25, List.mem_cons, List.not_mem_nil, or_false] at h
  rcases h with e | e | e | e | e | e | e | e | e | e | e | e | e | e | e | e | e | e | e | e | e | e | e | e <;> subst e
  · exact gQp5 136 rfl
  · exact gQp5 137 rfl
  · exact gQp5 138 rfl
  · exact gQp5 139 rfl
  · exact gQp5 140 rfl
  · exact gQp5 141 rfl
  · exact gQp5 142 rfl
  · exact gQp1 21 rfl
  · exact gQp5 143 rfl
  · exact gQp5 144 rfl
  · exact gQp5 145 rfl
  · exact gQp5 146 rfl
  · exact gQp5 147 rfl
  · exact gQp5 148 rfl
  · exact gQp5 149 rfl
  · exact gQp5 150 rfl
  · exact gQp5 151 rfl
  · exact gQp5 79 rfl
  · exact gQp3 37 rfl
  · exact gQp3 38 rfl
  · exact gQp3 39 rfl
  · exact gQp3 40 rfl
  · exact gQp1 201 rfl
  · exact gQp1 93 rfl
theorem gPin_26 : ∀ w ∈ wsL_law_r26, w ∈ lw_tbl := by
  intro w h
  simp only [wsL_law_r26, List.mem_cons, List.not_mem_nil, or_false] at h
  rcases h with e | e | e | e | e | e | e | e | e | e | e | e | e | e | e | e | e | e | e | e | e | e | e | e <;> subst e
  · exact gQp1 199 rfl
  · exact gQp3 41 rfl
  · exact gQp3 43 rfl
  · exact gQp0 14 rfl
  · exact gQp3 44 rfl
  · exact gQp3 45 rfl
  · exact gQp3 46 rfl
  · exact gQp3 47 rfl
  · exact gQp3 48 rfl
  · exact gQp3 49 rfl
  · exact gQp1 198 rfl
  · exact gQp1 200 rfl
  · exact gQp3 50 rfl
  · exact gQp3 51 rfl
  · exact gQp3 52 rfl
  · exact gQp3 53 rfl
  · exact gQp1 52 rfl
  · exact gQp3 54 rfl
  · exact gQp3 55 rfl
  · exact gQp3 56 rfl
  · exact gQp3 57 rfl
  · exact gQp1 53 rfl
  · exact gQp1 45 rfl
  · exact gQp1 48 rfl
theorem gPin_27 : ∀ w ∈ wsL_law_r27, w ∈ lw_tbl := by
  intro w h
  simp only [wsL_law_r27, List.mem_cons, List.not_mem_nil, or_false] at h
  rcases h with e | e | e | e | e | e | e | e | e | e | e | e | e | e | e | e | e | e | e | e | e | e | e | e <;> subst e
  · exact gQp1 51 rfl
  · exact gQp3 58 rfl
  · exact gQp3 60 rfl
  · exact gQp0 15 rfl
  · exact gQp3 61 rfl
  · exact gQp3 62 rfl
  · exact gQp3 63 rfl
  · exact gQp3 64 rfl
  · exact gQp3 65 rfl
  · exact gQp1 92 rfl
  · exact gQp3 71 rfl
  · exact gQp3 72 rfl
  · exact gQp3 66 rfl
  · exact gQp3 67 rfl
  · exact gQp3 68 rfl
  · exact gQp3 69 rfl
  · exact gQp3 70 rfl
  · exact gQp3 73 rfl
  · exact gQp3 75 rfl
  · exact gQp0 16 rfl
  · exact gQp3 76 rfl
  · exact gQp5 153 rfl
  · exact gQp5 154 rfl
  · exact gQp5 155 rfl
theorem gPin_28 : ∀ w ∈ wsL_law_r28, w ∈ lw_tbl := by
  intro w h
  simp only [wsL_law_r28, List.mem_cons, List.not_mem_nil, or_false] at h
  rcases h with e | e | e | e | e | e | e | e | e | e | e | e | e | e | e | e | e | e | e | e | e | e | e | e <;> subst e
  · exact gQp5 156 rfl
  · exact gQp5 157 rfl
  · exact gQp5 159 rfl
  · exact gQp0 38 rfl
  · exact gQp5 160 rfl
  · exact gQp5 161 rfl
  · exact gQp5 163 rfl
  · exact gQp0 39 rfl
  · exact gQp5 164 rfl
  · exact gQp4 95 rfl
  · exact gQp4 99 rfl
  · exact gQp4 102 rfl
  · exact gQp5 165 rfl
  · exact gQp5 167 rfl
  · exact gQp0 40 rfl
  · exact gQp5 168 rfl
  · exact gQp5 173 rfl
  · exact gQp5 169 rfl
  · exact gQp5 171 rfl
  · exact gQp0 41 rfl
  · exact gQp5 172 rfl
  · exact gQp5 174 rfl
  · exact gQp5 176 rfl
  · exact gQp0 42 rfl
theorem gPin_29 : ∀ w ∈ wsL_law_r29, w ∈ lw_tbl := by
  intro w h
  simp only [wsL_law_r29, List.mem_cons, List.not_mem_nil, or_false] at h
  rcases h with e | e | e | e | e | e | e | e | e | e | e | e | e | e | e | e | e | e | e | e | e | e | e | e <;> subst e
  · exact gQp5 177 rfl
  · exact gQp5 178 rfl
  · exact gQp5 180 rfl
  · exact gQp0 43 rfl
  · exact gQp5 181 rfl
  · exact gQp5 182 rfl
  · exact gQp5 184 rfl
  · exact gQp0 44 rfl
  · exact gQp5 185 rfl
  · exact gQp5 186 rfl
  · exact gQp5 188 rfl
  · exact gQp0 45 rfl
  · exact gQp5 189 rfl
  · exact gQp5 190 rfl
  · exact gQp5 192 rfl
  · exact gQp0 46 rfl
  · exact gQp5 193 rfl
  · exact gQp3 77 rfl
  · exact gQp3 78 rfl
  · exact gQp3 79 rfl
  · exact gQp3 80 rfl
  · exact gQp3 81 rfl
  · exact gQp5 194 rfl
  · exact gQp5 195 rfl
theorem gPin_30 : ∀ w ∈ wsL_law_r30, w ∈ lw_tbl := by
  intro w h
  simp only [wsL_law_r30, List.mem_cons, List.not_mem_nil, or_false] at h
  rcases h with e | e | e | e | e | e | e | e | e | e | e | e | e | e | e | e | e | e | e | e | e | e | e | e <;> subst e
  · exact gQp5 196 rfl
  · exact gQp5 197 rfl
  · exact gQp3 82 rfl
  · exact gQp3 83 rfl
  · exact gQp3 84 rfl
  · exact gQp3 85 rfl
  · exact gQp5 198 rfl
  · exact gQp5 199 rfl
  · exact gQp5 200 rfl
  · exact gQp5 201 rfl
  · exact gQp3 86 rfl
  · exact gQp3 87 rfl
  · exact gQp3 88 rfl
  · exact gQp3 89 rfl
  · exact gQp3 90 rfl
  · exact gQp3 91 rfl
  · exact gQp3 92 rfl
  · exact gQp3 93 rfl
  · exact gQp5 202 rfl
  · exact gQp5 203 rfl
  · exact gQp5 204 rfl
  · exact gQp5 205 rfl
  · exact gQp3 94 rfl
  · exact gQp3 95 rfl
theorem gPin_31 : ∀ w ∈ wsL_law_r31, w ∈ lw_tbl := by
  intro w h
  simp only [wsL_law_r31, List.mem_cons, List.not_mem_nil, or_false] at h
  rcases h with e | e | e | e | e | e | e | e | e | e | e | e | e | e | e | e | e | e | e | e | e | e | e | e <;> subst e
  · exact gQp3 96 rfl
  · exact gQp3 97 rfl
  · exact gQp3 98 rfl
  · exact gQp3 100 rfl
  · exact gQp0 17 rfl
  · exact gQp3 101 rfl
  · exact gQp5 206 rfl
  · exact gQp5 207 rfl
  · exact gQp5 208 rfl
  · exact gQp5 209 rfl
  · exact gQp3 102 rfl
  · exact gQp3 103 rfl
  · exact gQp3 104 rfl
  · exact gQp3 105 rfl
  · exact gQp1 190 rfl
  · exact gQp3 106 rfl
  · exact gQp3 107 rfl
  · exact gQp3 108 rfl
  · exact gQp3 109 rfl
  · exact gQp3 110 rfl
  · exact gQp3 111 rfl
  · exact gQp3 112 rfl
  · exact gQp3 113 rfl
  · exact gQp5 210 rfl
theorem gPin_32 : ∀ w ∈ wsL_law_r32, w ∈ lw_tbl := by
  intro w h
  simp only [wsL_law_r32, List.mem_cons, List.not_mem_nil, or_false] at h
  rcases h with e | e | e | e | e | e | e | e | e | e | e | e | e | e | e | e | e | e | e | e | e | e | e | e <;> subst e
  · exact gQp5 211 rfl
  · exact gQp5 212 rfl
  · exact gQp5 213 rfl
  · exact gQp3 114 rfl
  · exact gQp3 115 rfl
  · exact gQp3 116 rfl
  · exact gQp3 117 rfl
  · exact gQp5 214 rfl
  · exact gQp5 215 rfl
  · exact gQp5 216 rfl
  · exact gQp5 217 rfl
  · exact gQp3 118 rfl
  · exact gQp3 119 rfl
  · exact gQp3 120 rfl
  · exact gQp3 121 rfl
  · exact gQp3 122 rfl
  · exact gQp3 123 rfl
  · exact gQp3 124 rfl
  · exact gQp3 125 rfl
  · exact gQp5 218 rfl
  · exact gQp5 219 rfl
  · exact gQp5 220 rfl
  · exact gQp5 221 rfl
  · exact gQp5 222 rfl
theorem gPin_33 : ∀ w ∈ wsL_law_r33, w ∈ lw_tbl := by
  intro w h
  simp only [wsL_law_r33, List.mem_cons, List.not_mem_nil, or_false] at h
  rcases h with e | e | e | e | e | e | e | e | e | e | e | e | e | e | e | e | e | e | e | e | e | e | e | e <;> subst e
  · exact gQp5 223 rfl
  · exact gQp5 224 rfl
  · exact gQp5 225 rfl
  · exact gQp5 226 rfl
  · exact gQp5 227 rfl
  · exact gQp5 228 rfl
  · exact gQp5 229 rfl
  · exact gQp3 126 rfl
  · exact gQp3 127 rfl
  · exact gQp3 128 rfl
  · exact gQp3 129 rfl
  · exact gQp5 230 rfl
  · exact gQp5 231 rfl
  · exact gQp5 232 rfl
  · exact gQp5 233 rfl
  · exact gQp3 130 rfl
  · exact gQp3 131 rfl
  · exact gQp3 132 rfl
  · exact gQp3 133 rfl
  · exact gQp1 192 rfl
  · exact gQp5 234 rfl
  · exact gQp5 235 rfl
  · exact gQp5 236 rfl
  · exact gQp5 237 rfl
theorem gPin_34 : ∀ w ∈ wsL_law_r34, w ∈ lw_tbl := by
  intro w h
  simp only [wsL_law_r34, List.mem_cons, List.not_mem_nil, or_false] at h
  rcases h with e | e | e | e | e | e | e | e | e | e | e | e | e | e | e | e | e | e | e | e | e | e | e | e <;> subst e
  · exact gQp3 134 rfl
  · exact gQp3 135 rfl
  · exact gQp3 136 rfl
  · exact gQp3 137 rfl
  · exact gQp1 54 rfl
  · exact gQp1 46 rfl
  · exact gQp1 49 rfl
  · exact gQp3 138 rfl
  · exact gQp3 139 rfl
  · exact gQp3 140 rfl
  · exact gQp3 141 rfl
  · exact gQp3 142 rfl
  · exact gQp3 143 rfl
  · exact gQp3 144 rfl
  · exact gQp3 145 rfl
  · exact gQp3 146 rfl
  · exact gQp5 238 rfl
  · exact gQp5 239 rfl
  · exact gQp6 0 rfl
  · exact gQp6 1 rfl
  · exact gQp6 2 rfl
  · exact gQp6 4 rfl
  · exact gQp0 47 rfl
  · exact gQp6 5 rfl
theorem gPin_35 : ∀ w ∈ wsL_law_r35, w ∈ lw_tbl := by
  intro w h
  simp only [wsL_law_r35, List.mem_cons, List.not_mem_nil, or_false] at h
  rcases h with e | e | e | e | e | e | e | e | e | e | e | e | e | e | e | e | e | e | e | e | e | e | e | e <;> subst e
  · exact gQp3 147 rfl
  · exact gQp3 148 rfl
  · exact gQp3 149 rfl
  · exact gQp3 150 rfl
  · exact gQp1 194 rfl
  · exact gQp6 6 rfl
  · exact gQp6 7 rfl
  · exact gQp6 8 rfl
  · exact gQp6 9 rfl
  · exact gQp3 151 rfl
  · exact gQp3 152 rfl
  · exact gQp3 153 rfl
  · exact gQp3 154 rfl
  · exact gQp6 10 rfl
  · exact gQp6 11 rfl
  · exact gQp6 12 rfl
  · exact gQp6 13 rfl
  · exact gQp3 155 rfl
  · exact gQp3 156 rfl
  · exact gQp3 157 rfl
  · exact gQp3 158 rfl
  · exact gQp3 159 rfl
  · exact gQp3 160 rfl
  · exact gQp3 161 rfl
theorem gPin_36 : ∀ w ∈ wsL_law_r36, w ∈ lw_tbl := by
  intro w h
  simp only [wsL_law_r36, List.mem_cons, List.not_mem_nil, or_false] at h
  rcases h with e | e | e | e | e | e | e | e | e | e | e | e | e | e | e | e | e | e | e | e | e | e | e | e <;> subst e
  · exact gQp3 162 rfl
  · exact gQp3 164 rfl
  · exact gQp0 18 rfl
  · exact gQp3 165 rfl
  · exact gQp6 14 rfl
  · exact gQp6 15 rfl
  · exact gQp6 16 rfl
  · exact gQp6 17 rfl
  · exact gQp3 166 rfl
  · exact gQp3 167 rfl
  · exact gQp3 168 rfl
  · exact gQp3 169 rfl
  · exact gQp2 31 rfl
  · exact gQp6 18 rfl
  · exact gQp6 19 rfl
  · exact gQp6 20 rfl
  · exact gQp6 21 rfl
  · exact gQp4 107 rfl
  · exact gQp3 170 rfl
  · exact gQp3 171 rfl
  · exact gQp3 172 rfl
  · exact gQp3 173 rfl
  · exact gQp6 22 rfl
  · exact gQp6 23 rfl
theorem gPin_37 : ∀ w ∈ wsL_law_r37, w ∈ lw_tbl := by
  intro w h
  simp only [wsL_law_r37, List.mem_cons, List.not_mem_nil, or_false] at h
  rcases h with e | e | e | e | e | e | e | e | e | e | e | e | e | e | e | e | e | e | e | e | e | e | e | e <;> subst e
  · exact gQp6 24 rfl
  · exact gQp6 25 rfl
  · exact gQp3 174 rfl
  · exact gQp3 175 rfl
  · exact gQp3 176 rfl
  · exact gQp3 177 rfl
  · exact gQp1 165 rfl
  · exact gQp3 178 rfl
  · exact gQp3 179 rfl
  · exact gQp3 180 rfl
  · exact gQp3 181 rfl
  · exact gQp2 8 rfl
  · exact gQp2 10 rfl
  · exact gQp2 13 rfl
  · exact gQp3 182 rfl
  · exact gQp3 185 rfl
  · exact gQp3 183 rfl
  · exact gQp3 186 rfl
  · exact gQp3 187 rfl
  · exact gQp3 188 rfl
  · exact gQp3 189 rfl
  · exact gQp3 190 rfl
  · exact gQp3 191 rfl
  · exact gQp3 192 rfl
theorem gPin_38 : ∀ w ∈ wsL_law_r38, w ∈ lw_tbl := by
  intro w h
  simp only [wsL_law_r38, List.mem_cons, List.not_mem_nil, or_false] at h
  rcases h with e | e | e | e | e | e | e | e | e | e | e | e | e | e | e | e | e | e | e | e | e | e | e | e <;> subst e
  · exact gQp3 193 rfl
  · exact gQp1 135 rfl
  · exact gQp3 183 rfl
  · exact gQp3 210 rfl
  · exact gQp2 11 rfl
  · exact gQp3 211 rfl
  · exact gQp3 194 rfl
  · exact gQp3 195 rfl
  · exact gQp3 196 rfl
  · exact gQp3 197 rfl
  · exact gQp3 198 rfl
  · exact gQp3 202 rfl
  · exact gQp3 203 rfl
  · exact gQp3 182 rfl
  · exact gQp3 184 rfl
  · exact gQp3 204 rfl
  · exact gQp3 205 rfl
  · exact gQp3 206 rfl
  · exact gQp2 14 rfl
  · exact gQp3 207 rfl
  · exact gQp3 212 rfl
  · exact gQp3 215 rfl
  · exact gQp3 216 rfl
  · exact gQp3 213 rfl
theorem gPin_39 : ∀ w ∈ wsL_law_r39, w ∈ lw_tbl := by
  intro w h
  simp only [wsL_law_r39, List.mem_cons, List.not_mem_nil, or_false] at h
  rcases h with e | e | e | e | e | e | e | e | e | e | e | e | e | e | e | e | e | e | e | e | e | e | e | e <;> subst e
  · exact gQp3 234 rfl
  · exact gQp2 15 rfl
  · exact gQp3 235 rfl
  · exact gQp3 235 rfl
  · exact gQp3 213 rfl
  · exact gQp3 217 rfl
  · exact gQp3 218 rfl
  · exact gQp3 219 rfl
  · exact gQp3 220 rfl
  · exact gQp3 221 rfl
  · exact gQp1 128 rfl
  · exact gQp3 222 rfl
  · exact gQp3 223 rfl
  · exact gQp3 224 rfl
  · exact gQp3 225 rfl
  · exact gQp6 87 rfl
  · exact gQp3 226 rfl
  · exact gQp3 227 rfl
  · exact gQp3 212 rfl
  · exact gQp3 214 rfl
  · exact gQp3 228 rfl
  · exact gQp3 229 rfl
  · exact gQp3 230 rfl
  · exact gQp3 236 rfl
theorem gPin_40 : ∀ w ∈ wsL_law_r40, w ∈ lw_tbl := by
  intro w h
  simp only [wsL_law_r40, List.mem_cons, List.not_mem_nil, or_false] at h
  rcases h with e | e | e | e | e | e | e | e | e | e | e | e | e | e | e | e | e | e | e | e | e | e | e | e <;> subst e
  · exact gQp3 239 rfl
  · exact gQp4 0 rfl
  · exact gQp3 237 rfl
  · exact gQp4 19 rfl
  · exact gQp4 20 rfl
  · exact gQp4 20 rfl
  · exact gQp4 1 rfl
  · exact gQp4 2 rfl
  · exact gQp3 237 rfl
  · exact gQp4 3 rfl
  · exact gQp4 4 rfl
  · exact gQp4 5 rfl
  · exact gQp4 6 rfl
  · exact gQp4 7 rfl
  · exact gQp1 142 rfl
  · exact gQp4 8 rfl
  · exact gQp3 232 rfl
  · exact gQp4 9 rfl
  · exact gQp4 10 rfl
  · exact gQp4 11 rfl
  · exact gQp4 12 rfl
  · exact gQp4 13 rfl
  · exact gQp2 12 rfl
  · exact gQp4 14 rfl
theorem gPin_41 : ∀ w ∈ wsL_law_r41, w ∈ lw_tbl := by
  intro w h
  simp only [wsL_law_r41, List.mem_cons, List.not_mem_nil, or_false] at h
  rcases h with e | e | e | e | e | e | e | e | e | e | e | e | e | e | e | e | e | e | e | e | e | e | e | e <;> subst e
  · exact gQp3 236 rfl
  · exact gQp3 238 rfl
  · exact gQp4 18 rfl
  · exact gQp6 26 rfl
  · exact gQp6 27 rfl
  · exact gQp6 28 rfl
  · exact gQp6 29 rfl
  · exact gQp4 105 rfl
  · exact gQp6 30 rfl
  · exact gQp6 32 rfl
  · exact gQp0 48 rfl
  · exact gQp6 33 rfl
  · exact gQp6 34 rfl
  · exact gQp6 36 rfl
  · exact gQp0 49 rfl
  · exact gQp6 37 rfl
  · exact gQp6 38 rfl
  · exact gQp6 39 rfl
  · exact gQp6 40 rfl
  · exact gQp6 41 rfl
  · exact gQp6 43 rfl
  · exact gQp0 50 rfl
  · exact gQp6 44 rfl
  · exact gQp6 45 rfl
theorem gPin_42 : ∀ w ∈ wsL_law_r42, w ∈ lw_tbl := by
  intro w h
  simp only [wsL_law_r42, List.mem_cons, List.not_mem_nil, or_false] at h
  rcases h with e | e | e | e | e | e | e | e | e | e | e | e | e | e | e | e | e | e | e | e | e | e | e | e <;> subst e
  · exact gQp6 47 rfl
  · exact gQp0 51 rfl
  · exact gQp6 48 rfl
  · exact gQp4 21 rfl
  · exact gQp4 22 rfl
  · exact gQp4 23 rfl
  · exact gQp4 24 rfl
  · exact gQp2 9 rfl
  · exact gQp2 7 rfl
  · exact gQp6 49 rfl
  · exact gQp6 50 rfl
  · exact gQp6 51 rfl
  · exact gQp6 52 rfl
  · exact gQp4 25 rfl
  · exact gQp4 26 rfl
  · exact gQp4 27 rfl
  · exact gQp4 28 rfl
  · exact gQp4 29 rfl
  · exact gQp4 30 rfl
  · exact gQp4 31 rfl
  · exact gQp4 32 rfl
  · exact gQp4 33 rfl
  · exact gQp4 34 rfl
  · exact gQp4 35 rfl
theorem gPin_43 : ∀ w ∈ wsL_law_r43, w ∈ lw_tbl := by
  intro w h
  simp only [wsL_law_r43, List.mem_cons, List.not_mem_nil, or_false] at h
  rcases h with e | e | e | e | e | e | e | e | e | e | e | e | e | e | e | e | e | e | e | e | e | e | e | e <;> subst e
  · exact gQp4 36 rfl
  · exact gQp4 37 rfl
  · exact gQp6 53 rfl
  · exact gQp6 54 rfl
  · exact gQp6 55 rfl
  · exact gQp6 56 rfl
  · exact gQp4 38 rfl
  · exact gQp4 39 rfl
  · exact gQp4 40 rfl
  · exact gQp4 41 rfl
  · exact gQp6 57 rfl
  · exact gQp6 58 rfl
  · exact gQp6 59 rfl
  · exact gQp6 60 rfl
  · exact gQp4 42 rfl
  · exact gQp4 43 rfl
  · exact gQp4 44 rfl
  · exact gQp4 45 rfl
  · exact gQp6 61 rfl
  · exact gQp6 62 rfl
  · exact gQp6 63 rfl
  · exact gQp6 64 rfl
  · exact gQp6 65 rfl
  · exact gQp6 66 rfl
theorem gPin_44 : ∀ w ∈ wsL_law_r44, w ∈ lw_tbl := by
  intro w h
  simp only [wsL_law_r44, List.mem_cons, List.not_mem_nil, or_false] at h
  rcases h with e | e | e | e | e | e | e | e | e | e | e | e | e | e | e | e | e | e | e | e | e | e | e | e <;> subst e
  · exact gQp6 67 rfl
  · exact gQp4 46 rfl
  · exact gQp4 47 rfl
  · exact gQp4 48 rfl
  · exact gQp4 49 rfl
  · exact gQp4 50 rfl
  · exact gQp4 51 rfl
  · exact gQp4 52 rfl
  · exact gQp6 68 rfl
  · exact gQp6 69 rfl
  · exact gQp6 70 rfl
  · exact gQp6 71 rfl
  · exact gQp6 72 rfl
  · exact gQp6 73 rfl
  · exact gQp6 74 rfl
  · exact gQp4 53 rfl
  · exact gQp4 54 rfl
  · exact gQp4 55 rfl
  · exact gQp4 56 rfl
  · exact gQp6 75 rfl
  · exact gQp6 76 rfl
  · exact gQp6 77 rfl
  · exact gQp6 78 rfl
  · exact gQp4 57 rfl
theorem gPin_45 : ∀ w ∈ wsL_law_r45, w ∈ lw_tbl := by
  intro w h
  simp only [wsL_law_r45, List.mem_cons, List.not_mem_nil, or_false] at h
  rcases h with e | e | e | e | e | e | e | e <;> subst e
  · exact gQp4 58 rfl
  · exact gQp4 59 rfl
  · exact gQp4 60 rfl
  · exact gQp4 61 rfl
  · exact gQp6 79 rfl
  · exact gQp6 80 rfl
  · exact gQp6 81 rfl
  · exact gQp6 82 rfl
theorem gPx_11 : ∀ w ∈ wsX110, w ∈ lw_tbl := by
  intro w h
  obtain ⟨k, hk, e⟩ := List.mem_map.mp h
  have hk := List.mem_range.mp hk
  subst e
  match k, hk with
  | 0, _ => exact gQp2 41 rfl
  | 1, _ => exact gQp2 43 rfl
  | 2, _ => exact gQp2 45 rfl
  | 3, _ => exact gQp2 47 rfl
  | 4, _ => exact gQp2 49 rfl
  | 5, _ => exact gQp2 51 rfl
  | 6, _ => exact gQp2 53 rfl
  | 7, _ => exact gQp2 55 rfl
  | 8, _ => exact gQp2 57 rfl
  | 9, _ => exact gQp2 59 rfl
  | 10, _ => exact gQp2 61 rfl
  | 11, _ => exact gQp2 63 rfl
  | 12, _ => exact gQp2 65 rfl
  | k + 13, hk => exact absurd hk (by omega)
theorem gPx_12 : ∀ w ∈ wsX120, w ∈ lw_tbl := by
  intro w h
  obtain ⟨k, hk, e⟩ := List.mem_map.mp h
  have hk := List.mem_range.mp hk
  subst e
  match k, hk with
  | 0, _ => exact gQp4 113 rfl
  | 1, _ => exact gQp4 115 rfl
  | 2, _ => exact gQp4 117 rfl
  | 3, _ => exact gQp4 119 rfl
  | 4, _ => exact gQp4 121 rfl
  | 5, _ => exact gQp4 123 rfl
  | 6, _ => exact gQp4 125 rfl
  | 7, _ => exact gQp4 127 rfl
  | 8, _ => exact gQp4 129 rfl
  | 9, _ => exact gQp4 131 rfl
  | 10, _ => exact gQp4 133 rfl
  | 11, _ => exact gQp4 135 rfl
  | 12, _ => exact gQp4 137 rfl
  | 13, _ => exact gQp4 139 rfl
  | 14, _ => exact gQp4 141 rfl
  | 15, _ => exact gQp4 143 rfl
  | 16, _ => exact gQp4 145 rfl
  | 17, _ => exact gQp4 147 rfl
  | 18, _ => exact gQp4 149 rfl
  | 19, _ => exact gQp4 151 rfl
  | 20, _ => exact gQp4 153 rfl
  | 21, _ => exact gQp4 155 rfl
  | 22, _ => exact gQp4 157 rfl
  | 23, _ => exact gQp4 159 rfl
  | 24, _ => exact gQp4 161 rfl
  | 25, _ => exact gQp4 163 rfl
  | 26, _ => exact gQp4 165 rfl
  | 27, _ => exact gQp4 167 rfl
  | 28, _ => exact gQp4 169 rfl
  | 29, _ => exact gQp4 171 rfl
  | 30, _ => exact gQp4 173 rfl
  | 31, _ => exact gQp4 175 rfl
  | 32, _ => exact gQp4 177 rfl
  | 33, _ => exact gQp4 179 rfl
  | 34, _ => exact gQp4 181 rfl
  | 35, _ => exact gQp4 183 rfl
  | 36, _ => exact gQp4 185 rfl
  | 37, _ => exact gQp4 187 rfl
  | 38, _ => exact gQp4 189 rfl
  | 39, _ => exact gQp4 191 rfl
  | 40, _ => exact gQp4 193 rfl
  | 41, _ => exact gQp4 195 rfl
  | 42, _ => exact gQp4 197 rfl
  | 43, _ => exact gQp4 199 rfl
  | 44, _ => exact gQp4 201 rfl
  | k + 45, hk => exact absurd hk (by omega)
theorem gPx_9 : ∀ w ∈ wsX90, w ∈ lw_tbl := by
  intro w h
  obtain ⟨k, hk, e⟩ := List.mem_map.mp h
  have hk := List.mem_range.mp hk
  subst e
  match k, hk with
  | 0, _ => exact gQp1 205 rfl
  | 1, _ => exact gQp1 207 rfl
  | 2, _ => exact gQp1 209 rfl
  | 3, _ => exact gQp1 211 rfl
  | 4, _ => exact gQp1 213 rfl
  | 5, _ => exact gQp1 215 rfl
  | 6, _ => exact gQp1 217 rfl
  | 7, _ => exact gQp1 219 rfl
  | 8, _ => exact gQp1 221 rfl
  | 9, _ => exact gQp1 223 rfl
  | 10, _ => exact gQp1 225 rfl
  | 11, _ => exact gQp1 227 rfl
  | 12, _ => exact gQp1 229 rfl
  | 13, _ => exact gQp1 231 rfl
  | 14, _ => exact gQp1 233 rfl
  | 15, _ => exact gQp1 235 rfl
  | k + 16, hk => exact absurd hk (by omega)
theorem gPx_0 : ∀ w ∈ wsX00, w ∈ lw_tbl := by
  intro w h
  obtain ⟨k, hk, e⟩ := List.mem_map.mp h
  have hk := List.mem_range.mp hk
  subst e
  match k, hk with
  | 0, _ => exact gQp2 16 rfl
  | 1, _ => exact gQp2 18 rfl
  | 2, _ => exact gQp2 20 rfl
  | 3, _ => exact gQp2 22 rfl
  | k + 4, hk => exact absurd hk (by omega)
theorem gPx_5 : ∀ w ∈ wsX50, w ∈ lw_tbl := by
  intro w h
  obtain ⟨k, hk, e⟩ := List.mem_map.mp h
  have hk := List.mem_range.mp hk
  subst e
  match k, hk with
  | 0, _ => exact gQp1 94 rfl
  | 1, _ => exact gQp1 96 rfl
  | 2, _ => exact gQp1 98 rfl
  | 3, _ => exact gQp1 100 rfl
  | 4, _ => exact gQp1 102 rfl
  | 5, _ => exact gQp1 104 rfl
  | 6, _ => exact gQp1 106 rfl
  | 7, _ => exact gQp1 108 rfl
  | 8, _ => exact gQp1 110 rfl
  | 9, _ => exact gQp1 112 rfl
  | k + 10, hk => exact absurd hk (by omega)
theorem gPx_8 : ∀ w ∈ wsX80, w ∈ lw_tbl := by
  intro w h
  obtain ⟨k, hk, e⟩ := List.mem_map.mp h
  have hk := List.mem_range.mp hk
  subst e
  match k, hk with
  | 0, _ => exact gQp1 55 rfl
  | 1, _ => exact gQp1 57 rfl
  | 2, _ => exact gQp1 59 rfl
  | 3, _ => exact gQp1 61 rfl
  | k + 4, hk => exact absurd hk (by omega)
theorem gPx_7 : ∀ w ∈ wsX70, w ∈ lw_tbl := by
  intro w h
  obtain ⟨k, hk, e⟩ := List.mem_map.mp h
  have hk := List.mem_range.mp hk
  subst e
  match k, hk with
  | k + 0, hk => exact absurd hk (by omega)
theorem gPx_2 : ∀ w ∈ wsX20, w ∈ lw_tbl := by
  intro w h
  obtain ⟨k, hk, e⟩ := List.mem_map.mp h
  have hk := List.mem_range.mp hk
  subst e
  match k, hk with
  | k + 0, hk => exact absurd hk (by omega)
theorem gPx_1 : ∀ w ∈ wsX10, w ∈ lw_tbl := by
  intro w h
  obtain ⟨k, hk, e⟩ := List.mem_map.mp h
  have hk := List.mem_range.mp hk
  subst e
  match k, hk with
  | k + 0, hk => exact absurd hk (by omega)
theorem gPx_4 : ∀ w ∈ wsX40, w ∈ lw_tbl := by
  intro w h
  obtain ⟨k, hk, e⟩ := List.mem_map.mp h
  have hk := List.mem_range.mp hk
  subst e
  match k, hk with
  | k + 0, hk => exact absurd hk (by omega)
theorem gPx_3 : ∀ w ∈ wsX30, w ∈ lw_tbl := by
  intro w h
  obtain ⟨k, hk, e⟩ := List.mem_map.mp h
  have hk := List.mem_range.mp hk
  subst e
  match k, hk with
  | k + 0, hk => exact absurd hk (by omega)
theorem gPx_6 : ∀ w ∈ wsX60, w ∈ lw_tbl := by
  intro w h
  obtain ⟨k, hk, e⟩ := List.mem_map.mp h
  have hk := List.mem_range.mp hk
  subst e
  match k, hk with
  | k + 0, hk => exact absurd hk (by omega)
theorem gPx_10 : ∀ w ∈ wsX100, w ∈ lw_tbl := by
  intro w h
  obtain ⟨k, hk, e⟩ := List.mem_map.mp h
  have hk := List.mem_range.mp hk
  subst e
  match k, hk with
  | k + 0, hk => exact absurd hk (by omega)
theorem wsL_law_in : ∀ w ∈ wsL_law, w ∈ lw_tbl := by
  intro w h
  unfold wsL_law at h
  rcases List.mem_append.mp h with h | h
  rotate_left
  · exact absurd h List.not_mem_nil
  rcases List.mem_append.mp h with h | h
  rotate_left
  · exact gPx_10 w h
  rcases List.mem_append.mp h with h | h
  rotate_left
  · exact gPx_6 w h
  rcases List.mem_append.mp h with h | h
  rotate_left
  · exact gPx_3 w h
  rcases List.mem_append.mp h with h | h
  rotate_left
  · exact gPx_4 w h
  rcases List.mem_append.mp h with h | h
  rotate_left
  · exact gPx_1 w h
  rcases List.mem_append.mp h with h | h
  rotate_left
  · exact gPx_2 w h
  rcases List.mem_append.mp h with h | h
  rotate_left
  · exact gPx_7 w h
  rcases List.mem_append.mp h with h | h
  rotate_left
  · exact gPx_8 w h
  rcases List.mem_append.mp h with h | h
  rotate_left
  · exact gPx_5 w h
  rcases List.mem_append.mp h with h | h
  rotate_left
  · exact gPx_0 w h
  rcases List.mem_append.mp h with h | h
  rotate_left
  · exact gPx_9 w h
  rcases List.mem_append.mp h with h | h
  rotate_left
  · exact gPx_12 w h
  rcases List.mem_append.mp h with h | h
  rotate_left
  · exact gPx_11 w h
  rcases List.mem_append.mp h with h | h
  · exact gPin_1 w h
  rcases List.mem_append.mp h with h | h
  · exact gPin_2 w h
  rcases List.mem_append.mp h with h | h
  · exact gPin_3 w h
  rcases List.mem_append.mp h with h | h
  · exact gPin_4 w h
  rcases List.mem_append.mp h with h | h
  · exact gPin_5 w h
  rcases List.mem_append.mp h with h | h
  · exact gPin_6 w h
  rcases List.mem_append.mp h with h | h
  · exact gPin_7 w h
  rcases List.mem_append.mp h with h | h
  · exact gPin_8 w h
  rcases List.mem_append.mp h with h | h
  · exact gPin_9 w h
  rcases List.mem_append.mp h with h | h
  · exact gPin_10 w h
  rcases List.mem_append.mp h with h | h
  · exact gPin_11 w h
  rcases List.mem_append.mp h with h | h
  · exact gPin_12 w h
  rcases List.mem_append.mp h with h | h
  · exact gPin_13 w h
  rcases List.mem_append.mp h with h | h
  · exact gPin_14 w h
  rcases List.mem_append.mp h with h | h
  · exact gPin_15 w h
  rcases List.mem_append.mp h with h | h
  · exact gPin_16 w h
  rcases List.mem_append.mp h with h | h
  · exact gPin_17 w h
  rcases List.mem_append.mp h with h | h
  · exact gPin_18 w h
  rcases List.mem_append.mp h with h | h
  · exact gPin_19 w h
  rcases List.mem_append.mp h with h | h
  · exact gPin_20 w h
  rcases List.mem_append.mp h with h | h
  · exact gPin_21 w h
  rcases List.mem_append.mp h with h | h
  · exact gPin_22 w h
  rcases List.mem_append.mp h with h | h
  · exact gPin_23 w h
  rcases List.mem_append.mp h with h | h
  · exact gPin_24 w h
  rcases List.mem_append.mp h with h | h
  · exact gPin_25 w h
  rcases List.mem_append.mp h with h | h
  · exact gPin_26 w h
  rcases List.mem_append.mp h with h | h
  · exact gPin_27 w h
  rcases List.mem_append.mp h with h | h
  · exact gPin_28 w h
  rcases List.mem_append.mp h with h | h
  · exact gPin_29 w h
  rcases List.mem_append.mp h with h | h
  · exact gPin_30 w h
  rcases List.mem_append.mp h with h | h
  · exact gPin_31 w h
  rcases List.mem_append.mp h with h | h
  · exact gPin_32 w h
  rcases List.mem_append.mp h with h | h
  · exact gPin_33 w h
  rcases List.mem_append.mp h with h | h
  · exact gPin_34 w h
  rcases List.mem_append.mp h with h | h
  · exact gPin_35 w h
  rcases List.mem_append.mp h with h | h
  · exact gPin_36 w h
  rcases List.mem_append.mp h with h | h
  · exact gPin_37 w h
  rcases List.mem_append.mp h with h | h
  · exact gPin_38 w h
  rcases List.mem_append.mp h with h | h
  · exact gPin_39 w h
  rcases List.mem_append.mp h with h | h
  · exact gPin_40 w h
  rcases List.mem_append.mp h with h | h
  · exact gPin_41 w h
  rcases List.mem_append.mp h with h | h
  · exact gPin_42 w h
  rcases List.mem_append.mp h with h | h
  · exact gPin_43 w h
  rcases List.mem_append.mp h with h | h
  · exact gPin_44 w h
  exact gPin_45 w h
theorem gXtra_in : ∀ w ∈ gXtra, w ∈ lw_tbl := fun w h => List.mem_append_right _ (by
  have h2 : gXtra.all (fun w => tables_1.contains w) = true := by decide +kernel
  simpa using List.all_eq_true.mp h2 w h)
