/-! every word of the law's list is a word of the tables -/
theorem tt1 {w : Cond} (i : Nat) (h : tables_1_1[i]? = some w) : w ∈ lw_tbl := by
  have h := List.mem_of_getElem? h
  exact List.mem_append_right _ (List.mem_append_left _ h)
theorem ts1 {q : MethodName × Nat} (i : Nat) (h : lw_privs_1[i]? = some q) : Cond.selects q.1.cls q.1 q.1 ∈ lw_tbl := by
  have h := List.mem_of_getElem? h
  exact List.mem_append_left _ (List.mem_map.mpr ⟨q, List.mem_append_left _ h, rfl⟩)
theorem tt2 {w : Cond} (i : Nat) (h : tables_1_2[i]? = some w) : w ∈ lw_tbl := by
  have h := List.mem_of_getElem? h
  exact List.mem_append_right _ (List.mem_append_right _ (List.mem_append_left _ h))
theorem ts2 {q : MethodName × Nat} (i : Nat) (h : lw_privs_2[i]? = some q) : Cond.selects q.1.cls q.1 q.1 ∈ lw_tbl := by
  have h := List.mem_of_getElem? h
  exact List.mem_append_left _ (List.mem_map.mpr ⟨q, List.mem_append_right _ (List.mem_append_left _ h), rfl⟩)
theorem tt3 {w : Cond} (i : Nat) (h : tables_1_3[i]? = some w) : w ∈ lw_tbl := by
  have h := List.mem_of_getElem? h
  exact List.mem_append_right _ (List.mem_append_right _ (List.mem_append_right _ h))
theorem ts3 {q : MethodName × Nat} (i : Nat) (h : lw_privs_3[i]? = some q) : Cond.selects q.1.cls q.1 q.1 ∈ lw_tbl := by
  have h := List.mem_of_getElem? h
  exact List.mem_append_left _ (List.mem_map.mpr ⟨q, List.mem_append_right _ (List.mem_append_right _ h), rfl⟩)
set_option maxRecDepth 20000 in
theorem tb_r1 : ∀ w ∈ wsL_law_r1, w ∈ lw_tbl := by
  unfold wsL_law_r1
  exact List.forall_mem_cons.mpr ⟨tt1 8 rfl, List.forall_mem_cons.mpr ⟨tt1 9 rfl, List.forall_mem_cons.mpr ⟨tt1 1 rfl, List.forall_mem_cons.mpr ⟨tt2 212 rfl, List.forall_mem_cons.mpr ⟨tt2 213 rfl, List.forall_mem_cons.mpr ⟨tt1 6 rfl, List.forall_mem_cons.mpr ⟨tt2 209 rfl, List.forall_mem_cons.mpr ⟨tt2 210 rfl, List.forall_mem_cons.mpr ⟨tt1 0 rfl, List.forall_mem_cons.mpr ⟨tt2 211 rfl, List.forall_mem_cons.mpr ⟨tt1 10 rfl, List.forall_mem_cons.mpr ⟨tt1 11 rfl, List.forall_mem_cons.mpr ⟨tt1 12 rfl, List.forall_mem_cons.mpr ⟨tt1 13 rfl, List.forall_mem_cons.mpr ⟨tt1 14 rfl, List.forall_mem_cons.mpr ⟨tt1 15 rfl, List.forall_mem_cons.mpr ⟨tt1 16 rfl, List.forall_mem_cons.mpr ⟨tt1 17 rfl, List.forall_mem_cons.mpr ⟨tt1 2 rfl, List.forall_mem_cons.mpr ⟨tt1 18 rfl, List.forall_mem_cons.mpr ⟨tt1 156 rfl, List.forall_mem_cons.mpr ⟨tt1 76 rfl, List.forall_mem_cons.mpr ⟨tt1 77 rfl, List.forall_mem_cons.mpr ⟨tt1 3 rfl, fun _ h => absurd h List.not_mem_nil⟩⟩⟩⟩⟩⟩⟩⟩⟩⟩⟩⟩⟩⟩⟩⟩⟩⟩⟩⟩⟩⟩⟩⟩
set_option maxRecDepth 20000 in
theorem tb_r2 : ∀ w ∈ wsL_law_r2, w ∈ lw_tbl := by
  unfold wsL_law_r2
  exact List.forall_mem_cons.mpr ⟨tt1 157 rfl, List.forall_mem_cons.mpr ⟨tt1 117 rfl, List.forall_mem_cons.mpr ⟨tt1 118 rfl, List.forall_mem_cons.mpr ⟨tt1 4 rfl, List.forall_mem_cons.mpr ⟨tt1 158 rfl, List.forall_mem_cons.mpr ⟨tt1 139 rfl, List.forall_mem_cons.mpr ⟨tt1 140 rfl, List.forall_mem_cons.mpr ⟨tt1 5 rfl, List.forall_mem_cons.mpr ⟨tt1 159 rfl, List.forall_mem_cons.mpr ⟨tt1 19 rfl, List.forall_mem_cons.mpr ⟨tt1 20 rfl, List.forall_mem_cons.mpr ⟨tt1 21 rfl, List.forall_mem_cons.mpr ⟨tt1 22 rfl, List.forall_mem_cons.mpr ⟨tt1 23 rfl, List.forall_mem_cons.mpr ⟨tt1 25 rfl, List.forall_mem_cons.mpr ⟨tt1 27 rfl, List.forall_mem_cons.mpr ⟨tt1 33 rfl, List.forall_mem_cons.mpr ⟨tt1 35 rfl, List.forall_mem_cons.mpr ⟨tt1 37 rfl, List.forall_mem_cons.mpr ⟨tt1 42 rfl, List.forall_mem_cons.mpr ⟨tt1 75 rfl, List.forall_mem_cons.mpr ⟨tt1 44 rfl, List.forall_mem_cons.mpr ⟨tt1 45 rfl, List.forall_mem_cons.mpr ⟨tt1 78 rfl, fun _ h => absurd h List.not_mem_nil⟩⟩⟩⟩⟩⟩⟩⟩⟩⟩⟩⟩⟩⟩⟩⟩⟩⟩⟩⟩⟩⟩⟩⟩
set_option maxRecDepth 20000 in
theorem tb_r3 : ∀ w ∈ wsL_law_r3, w ∈ lw_tbl := by
  unfold wsL_law_r3
  exact List.forall_mem_cons.mpr ⟨tt1 79 rfl, List.forall_mem_cons.mpr ⟨tt1 80 rfl, List.forall_mem_cons.mpr ⟨tt1 81 rfl, List.forall_mem_cons.mpr ⟨tt1 90 rfl, List.forall_mem_cons.mpr ⟨tt1 91 rfl, List.forall_mem_cons.mpr ⟨tt1 119 rfl, List.forall_mem_cons.mpr ⟨tt1 120 rfl, List.forall_mem_cons.mpr ⟨tt1 121 rfl, List.forall_mem_cons.mpr ⟨tt1 122 rfl, List.forall_mem_cons.mpr ⟨tt1 123 rfl, List.forall_mem_cons.mpr ⟨tt1 141 rfl, List.forall_mem_cons.mpr ⟨tt1 142 rfl, List.forall_mem_cons.mpr ⟨tt1 143 rfl, List.forall_mem_cons.mpr ⟨tt1 144 rfl, List.forall_mem_cons.mpr ⟨tt1 147 rfl, List.forall_mem_cons.mpr ⟨tt1 148 rfl, List.forall_mem_cons.mpr ⟨tt2 214 rfl, List.forall_mem_cons.mpr ⟨tt2 215 rfl, List.forall_mem_cons.mpr ⟨tt2 216 rfl, List.forall_mem_cons.mpr ⟨tt2 217 rfl, List.forall_mem_cons.mpr ⟨tt2 220 rfl, List.forall_mem_cons.mpr ⟨tt2 222 rfl, List.forall_mem_cons.mpr ⟨tt2 223 rfl, List.forall_mem_cons.mpr ⟨tt2 226 rfl, fun _ h => absurd h List.not_mem_nil⟩⟩⟩⟩⟩⟩⟩⟩⟩⟩⟩⟩⟩⟩⟩⟩⟩⟩⟩⟩⟩⟩⟩⟩
set_option maxRecDepth 20000 in
theorem tb_r4 : ∀ w ∈ wsL_law_r4, w ∈ lw_tbl := by
  unfold wsL_law_r4
  exact List.forall_mem_cons.mpr ⟨tt3 64 rfl, List.forall_mem_cons.mpr ⟨tt2 227 rfl, List.forall_mem_cons.mpr ⟨tt2 228 rfl, List.forall_mem_cons.mpr ⟨tt2 231 rfl, List.forall_mem_cons.mpr ⟨tt2 235 rfl, List.forall_mem_cons.mpr ⟨tt2 236 rfl, List.forall_mem_cons.mpr ⟨tt2 218 rfl, List.forall_mem_cons.mpr ⟨tt2 238 rfl, List.forall_mem_cons.mpr ⟨tt2 239 rfl, List.forall_mem_cons.mpr ⟨tt3 5 rfl, List.forall_mem_cons.mpr ⟨tt3 6 rfl, List.forall_mem_cons.mpr ⟨tt1 190 rfl, List.forall_mem_cons.mpr ⟨tt1 191 rfl, List.forall_mem_cons.mpr ⟨tt1 192 rfl, List.forall_mem_cons.mpr ⟨tt1 193 rfl, List.forall_mem_cons.mpr ⟨tt1 146 rfl, List.forall_mem_cons.mpr ⟨tt1 194 rfl, List.forall_mem_cons.mpr ⟨tt1 196 rfl, List.forall_mem_cons.mpr ⟨ts1 (q := (yX4_passTick, 11)) 0 rfl, List.forall_mem_cons.mpr ⟨tt1 197 rfl, List.forall_mem_cons.mpr ⟨tt1 160 rfl, List.forall_mem_cons.mpr ⟨tt1 161 rfl, List.forall_mem_cons.mpr ⟨tt1 198 rfl, List.forall_mem_cons.mpr ⟨tt1 200 rfl, fun _ h => absurd h List.not_mem_nil⟩⟩⟩⟩⟩⟩⟩⟩⟩⟩⟩⟩⟩⟩⟩⟩⟩⟩⟩⟩⟩⟩⟩⟩
set_option maxRecDepth 20000 in
theorem tb_r5 : ∀ w ∈ wsL_law_r5, w ∈ lw_tbl := by
  unfold wsL_law_r5
  exact List.forall_mem_cons.mpr ⟨ts1 (q := (yX4_burstIsDue, 11)) 1 rfl, List.forall_mem_cons.mpr ⟨tt1 201 rfl, List.forall_mem_cons.mpr ⟨tt1 41 rfl, List.forall_mem_cons.mpr ⟨tt1 202 rfl, List.forall_mem_cons.mpr ⟨tt1 203 rfl, List.forall_mem_cons.mpr ⟨tt1 204 rfl, List.forall_mem_cons.mpr ⟨tt1 205 rfl, List.forall_mem_cons.mpr ⟨tt1 125 rfl, List.forall_mem_cons.mpr ⟨tt1 124 rfl, List.forall_mem_cons.mpr ⟨tt1 206 rfl, List.forall_mem_cons.mpr ⟨tt1 208 rfl, List.forall_mem_cons.mpr ⟨ts1 (q := (yX4_beginBurst, 11)) 2 rfl, List.forall_mem_cons.mpr ⟨tt1 209 rfl, List.forall_mem_cons.mpr ⟨tt1 163 rfl, List.forall_mem_cons.mpr ⟨tt1 166 rfl, List.forall_mem_cons.mpr ⟨tt1 43 rfl, List.forall_mem_cons.mpr ⟨tt1 210 rfl, List.forall_mem_cons.mpr ⟨tt1 212 rfl, List.forall_mem_cons.mpr ⟨ts1 (q := (yX4_compose, 11)) 3 rfl, List.forall_mem_cons.mpr ⟨tt1 213 rfl, List.forall_mem_cons.mpr ⟨tt1 214 rfl, List.forall_mem_cons.mpr ⟨tt1 215 rfl, List.forall_mem_cons.mpr ⟨tt1 216 rfl, List.forall_mem_cons.mpr ⟨tt1 217 rfl, fun _ h => absurd h List.not_mem_nil⟩⟩⟩⟩⟩⟩⟩⟩⟩⟩⟩⟩⟩⟩⟩⟩⟩⟩⟩⟩⟩⟩⟩⟩
set_option maxRecDepth 20000 in
theorem tb_r6 : ∀ w ∈ wsL_law_r6, w ∈ lw_tbl := by
  unfold wsL_law_r6
  exact List.forall_mem_cons.mpr ⟨tt1 127 rfl, List.forall_mem_cons.mpr ⟨tt1 218 rfl, List.forall_mem_cons.mpr ⟨tt1 219 rfl, List.forall_mem_cons.mpr ⟨tt1 220 rfl, List.forall_mem_cons.mpr ⟨tt1 221 rfl, List.forall_mem_cons.mpr ⟨tt1 222 rfl, List.forall_mem_cons.mpr ⟨tt1 224 rfl, List.forall_mem_cons.mpr ⟨ts1 (q := (yX4_addAddress, 11)) 4 rfl, List.forall_mem_cons.mpr ⟨tt1 225 rfl, List.forall_mem_cons.mpr ⟨tt1 24 rfl, List.forall_mem_cons.mpr ⟨tt1 26 rfl, List.forall_mem_cons.mpr ⟨tt1 29 rfl, List.forall_mem_cons.mpr ⟨tt1 226 rfl, List.forall_mem_cons.mpr ⟨tt1 227 rfl, List.forall_mem_cons.mpr ⟨tt1 229 rfl, List.forall_mem_cons.mpr ⟨ts1 (q := (yX4_addNumber, 11)) 5 rfl, List.forall_mem_cons.mpr ⟨tt1 230 rfl, List.forall_mem_cons.mpr ⟨tt1 28 rfl, List.forall_mem_cons.mpr ⟨tt1 231 rfl, List.forall_mem_cons.mpr ⟨tt1 232 rfl, List.forall_mem_cons.mpr ⟨tt1 233 rfl, List.forall_mem_cons.mpr ⟨tt1 234 rfl, List.forall_mem_cons.mpr ⟨tt1 126 rfl, List.forall_mem_cons.mpr ⟨tt1 235 rfl, fun _ h => absurd h List.not_mem_nil⟩⟩⟩⟩⟩⟩⟩⟩⟩⟩⟩⟩⟩⟩⟩⟩⟩⟩⟩⟩⟩⟩⟩⟩
set_option maxRecDepth 20000 in
theorem tb_r7 : ∀ w ∈ wsL_law_r7, w ∈ lw_tbl := by
  unfold wsL_law_r7
  exact List.forall_mem_cons.mpr ⟨tt1 236 rfl, List.forall_mem_cons.mpr ⟨tt1 237 rfl, List.forall_mem_cons.mpr ⟨tt1 238 rfl, List.forall_mem_cons.mpr ⟨tt1 39 rfl, List.forall_mem_cons.mpr ⟨tt1 31 rfl, List.forall_mem_cons.mpr ⟨tt1 239 rfl, List.forall_mem_cons.mpr ⟨tt2 0 rfl, List.forall_mem_cons.mpr ⟨tt2 1 rfl, List.forall_mem_cons.mpr ⟨tt2 2 rfl, List.forall_mem_cons.mpr ⟨tt2 3 rfl, List.forall_mem_cons.mpr ⟨tt2 5 rfl, List.forall_mem_cons.mpr ⟨ts1 (q := (yX4_addData, 11)) 6 rfl, List.forall_mem_cons.mpr ⟨tt2 6 rfl, List.forall_mem_cons.mpr ⟨tt1 30 rfl, List.forall_mem_cons.mpr ⟨tt1 40 rfl, List.forall_mem_cons.mpr ⟨tt1 162 rfl, List.forall_mem_cons.mpr ⟨tt2 7 rfl, List.forall_mem_cons.mpr ⟨tt2 9 rfl, List.forall_mem_cons.mpr ⟨ts1 (q := (yX4_addIdentity, 11)) 7 rfl, List.forall_mem_cons.mpr ⟨tt2 10 rfl, List.forall_mem_cons.mpr ⟨tt2 11 rfl, List.forall_mem_cons.mpr ⟨tt2 12 rfl, List.forall_mem_cons.mpr ⟨tt2 13 rfl, List.forall_mem_cons.mpr ⟨tt2 14 rfl, fun _ h => absurd h List.not_mem_nil⟩⟩⟩⟩⟩⟩⟩⟩⟩⟩⟩⟩⟩⟩⟩⟩⟩⟩⟩⟩⟩⟩⟩⟩
set_option maxRecDepth 20000 in
theorem tb_r8 : ∀ w ∈ wsL_law_r8, w ∈ lw_tbl := by
  unfold wsL_law_r8
  exact List.forall_mem_cons.mpr ⟨tt2 15 rfl, List.forall_mem_cons.mpr ⟨tt2 16 rfl, List.forall_mem_cons.mpr ⟨tt2 17 rfl, List.forall_mem_cons.mpr ⟨tt2 18 rfl, List.forall_mem_cons.mpr ⟨tt2 19 rfl, List.forall_mem_cons.mpr ⟨tt2 20 rfl, List.forall_mem_cons.mpr ⟨tt2 21 rfl, List.forall_mem_cons.mpr ⟨tt2 22 rfl, List.forall_mem_cons.mpr ⟨tt2 23 rfl, List.forall_mem_cons.mpr ⟨tt2 24 rfl, List.forall_mem_cons.mpr ⟨tt2 25 rfl, List.forall_mem_cons.mpr ⟨tt1 7 rfl, List.forall_mem_cons.mpr ⟨tt2 26 rfl, List.forall_mem_cons.mpr ⟨tt2 27 rfl, List.forall_mem_cons.mpr ⟨tt2 28 rfl, List.forall_mem_cons.mpr ⟨tt2 29 rfl, List.forall_mem_cons.mpr ⟨tt2 30 rfl, List.forall_mem_cons.mpr ⟨tt2 31 rfl, List.forall_mem_cons.mpr ⟨tt2 32 rfl, List.forall_mem_cons.mpr ⟨tt2 33 rfl, List.forall_mem_cons.mpr ⟨tt2 34 rfl, List.forall_mem_cons.mpr ⟨tt2 36 rfl, List.forall_mem_cons.mpr ⟨ts1 (q := (yX4_addEcho, 11)) 8 rfl, List.forall_mem_cons.mpr ⟨tt2 37 rfl, fun _ h => absurd h List.not_mem_nil⟩⟩⟩⟩⟩⟩⟩⟩⟩⟩⟩⟩⟩⟩⟩⟩⟩⟩⟩⟩⟩⟩⟩⟩
set_option maxRecDepth 20000 in
theorem tb_r9 : ∀ w ∈ wsL_law_r9, w ∈ lw_tbl := by
  unfold wsL_law_r9
  exact List.forall_mem_cons.mpr ⟨tt1 87 rfl, List.forall_mem_cons.mpr ⟨tt2 38 rfl, List.forall_mem_cons.mpr ⟨tt2 39 rfl, List.forall_mem_cons.mpr ⟨tt2 40 rfl, List.forall_mem_cons.mpr ⟨tt2 41 rfl, List.forall_mem_cons.mpr ⟨tt2 42 rfl, List.forall_mem_cons.mpr ⟨tt2 43 rfl, List.forall_mem_cons.mpr ⟨tt2 44 rfl, List.forall_mem_cons.mpr ⟨tt1 86 rfl, List.forall_mem_cons.mpr ⟨tt2 45 rfl, List.forall_mem_cons.mpr ⟨tt2 46 rfl, List.forall_mem_cons.mpr ⟨tt2 47 rfl, List.forall_mem_cons.mpr ⟨tt2 48 rfl, List.forall_mem_cons.mpr ⟨tt2 49 rfl, List.forall_mem_cons.mpr ⟨tt2 50 rfl, List.forall_mem_cons.mpr ⟨tt2 51 rfl, List.forall_mem_cons.mpr ⟨tt2 52 rfl, List.forall_mem_cons.mpr ⟨tt2 53 rfl, List.forall_mem_cons.mpr ⟨tt2 54 rfl, List.forall_mem_cons.mpr ⟨tt2 55 rfl, List.forall_mem_cons.mpr ⟨tt2 56 rfl, List.forall_mem_cons.mpr ⟨tt1 145 rfl, List.forall_mem_cons.mpr ⟨tt2 57 rfl, List.forall_mem_cons.mpr ⟨tt2 58 rfl, fun _ h => absurd h List.not_mem_nil⟩⟩⟩⟩⟩⟩⟩⟩⟩⟩⟩⟩⟩⟩⟩⟩⟩⟩⟩⟩⟩⟩⟩⟩
set_option maxRecDepth 20000 in
theorem tb_r10 : ∀ w ∈ wsL_law_r10, w ∈ lw_tbl := by
  unfold wsL_law_r10
  exact List.forall_mem_cons.mpr ⟨tt2 59 rfl, List.forall_mem_cons.mpr ⟨tt2 60 rfl, List.forall_mem_cons.mpr ⟨tt1 92 rfl, List.forall_mem_cons.mpr ⟨tt1 93 rfl, List.forall_mem_cons.mpr ⟨tt2 61 rfl, List.forall_mem_cons.mpr ⟨tt2 62 rfl, List.forall_mem_cons.mpr ⟨tt2 63 rfl, List.forall_mem_cons.mpr ⟨tt2 64 rfl, List.forall_mem_cons.mpr ⟨tt1 95 rfl, List.forall_mem_cons.mpr ⟨tt1 88 rfl, List.forall_mem_cons.mpr ⟨tt1 84 rfl, List.forall_mem_cons.mpr ⟨tt2 65 rfl, List.forall_mem_cons.mpr ⟨tt2 66 rfl, List.forall_mem_cons.mpr ⟨tt2 68 rfl, List.forall_mem_cons.mpr ⟨ts1 (q := (yX0_takeAddress, 10)) 9 rfl, List.forall_mem_cons.mpr ⟨tt2 69 rfl, List.forall_mem_cons.mpr ⟨tt1 94 rfl, List.forall_mem_cons.mpr ⟨tt1 82 rfl, List.forall_mem_cons.mpr ⟨tt2 70 rfl, List.forall_mem_cons.mpr ⟨tt2 72 rfl, List.forall_mem_cons.mpr ⟨ts1 (q := (yX0_takeCount, 10)) 10 rfl, List.forall_mem_cons.mpr ⟨tt2 73 rfl, List.forall_mem_cons.mpr ⟨tt2 74 rfl, List.forall_mem_cons.mpr ⟨tt2 76 rfl, fun _ h => absurd h List.not_mem_nil⟩⟩⟩⟩⟩⟩⟩⟩⟩⟩⟩⟩⟩⟩⟩⟩⟩⟩⟩⟩⟩⟩⟩⟩
set_option maxRecDepth 20000 in
theorem tb_r11 : ∀ w ∈ wsL_law_r11, w ∈ lw_tbl := by
  unfold wsL_law_r11
  exact List.forall_mem_cons.mpr ⟨ts1 (q := (yX0_takeData, 10)) 11 rfl, List.forall_mem_cons.mpr ⟨tt2 77 rfl, List.forall_mem_cons.mpr ⟨tt2 78 rfl, List.forall_mem_cons.mpr ⟨tt2 80 rfl, List.forall_mem_cons.mpr ⟨ts1 (q := (yX0_takePreamble, 10)) 12 rfl, List.forall_mem_cons.mpr ⟨tt2 81 rfl, List.forall_mem_cons.mpr ⟨tt2 82 rfl, List.forall_mem_cons.mpr ⟨tt2 83 rfl, List.forall_mem_cons.mpr ⟨tt2 84 rfl, List.forall_mem_cons.mpr ⟨tt2 85 rfl, List.forall_mem_cons.mpr ⟨tt2 87 rfl, List.forall_mem_cons.mpr ⟨ts1 (q := (yX4_countFrame, 11)) 13 rfl, List.forall_mem_cons.mpr ⟨tt2 88 rfl, List.forall_mem_cons.mpr ⟨tt1 89 rfl, List.forall_mem_cons.mpr ⟨tt1 164 rfl, List.forall_mem_cons.mpr ⟨tt1 165 rfl, List.forall_mem_cons.mpr ⟨tt2 89 rfl, List.forall_mem_cons.mpr ⟨tt2 91 rfl, List.forall_mem_cons.mpr ⟨ts1 (q := (yX4_isForDevice, 11)) 14 rfl, List.forall_mem_cons.mpr ⟨tt2 92 rfl, List.forall_mem_cons.mpr ⟨tt1 83 rfl, List.forall_mem_cons.mpr ⟨tt2 93 rfl, List.forall_mem_cons.mpr ⟨tt2 94 rfl, List.forall_mem_cons.mpr ⟨tt2 95 rfl, fun _ h => absurd h List.not_mem_nil⟩⟩⟩⟩⟩⟩⟩⟩⟩⟩⟩⟩⟩⟩⟩⟩⟩⟩⟩⟩⟩⟩⟩⟩
set_option maxRecDepth 20000 in
theorem tb_r12 : ∀ w ∈ wsL_law_r12, w ∈ lw_tbl := by
  unfold wsL_law_r12
  exact List.forall_mem_cons.mpr ⟨tt2 96 rfl, List.forall_mem_cons.mpr ⟨tt2 97 rfl, List.forall_mem_cons.mpr ⟨tt2 99 rfl, List.forall_mem_cons.mpr ⟨ts1 (q := (yX0_addressAt, 10)) 15 rfl, List.forall_mem_cons.mpr ⟨tt2 100 rfl, List.forall_mem_cons.mpr ⟨tt2 101 rfl, List.forall_mem_cons.mpr ⟨tt2 103 rfl, List.forall_mem_cons.mpr ⟨ts2 (q := (yX4_isBroadcast, 11)) 0 rfl, List.forall_mem_cons.mpr ⟨tt2 104 rfl, List.forall_mem_cons.mpr ⟨tt1 85 rfl, List.forall_mem_cons.mpr ⟨tt2 105 rfl, List.forall_mem_cons.mpr ⟨tt2 106 rfl, List.forall_mem_cons.mpr ⟨tt2 107 rfl, List.forall_mem_cons.mpr ⟨tt2 108 rfl, List.forall_mem_cons.mpr ⟨tt2 109 rfl, List.forall_mem_cons.mpr ⟨tt2 110 rfl, List.forall_mem_cons.mpr ⟨tt2 111 rfl, List.forall_mem_cons.mpr ⟨tt2 112 rfl, List.forall_mem_cons.mpr ⟨tt2 113 rfl, List.forall_mem_cons.mpr ⟨tt2 114 rfl, List.forall_mem_cons.mpr ⟨tt2 115 rfl, List.forall_mem_cons.mpr ⟨tt2 116 rfl, List.forall_mem_cons.mpr ⟨tt2 117 rfl, List.forall_mem_cons.mpr ⟨tt2 119 rfl, fun _ h => absurd h List.not_mem_nil⟩⟩⟩⟩⟩⟩⟩⟩⟩⟩⟩⟩⟩⟩⟩⟩⟩⟩⟩⟩⟩⟩⟩⟩
set_option maxRecDepth 20000 in
theorem tb_r13 : ∀ w ∈ wsL_law_r13, w ∈ lw_tbl := by
  unfold wsL_law_r13
  exact List.forall_mem_cons.mpr ⟨ts2 (q := (yX4_answerFrame, 11)) 1 rfl, List.forall_mem_cons.mpr ⟨tt2 120 rfl, List.forall_mem_cons.mpr ⟨tt1 38 rfl, List.forall_mem_cons.mpr ⟨tt2 121 rfl, List.forall_mem_cons.mpr ⟨tt2 123 rfl, List.forall_mem_cons.mpr ⟨ts2 (q := (yX4_codeOfFrame, 11)) 2 rfl, List.forall_mem_cons.mpr ⟨tt2 124 rfl, List.forall_mem_cons.mpr ⟨tt2 125 rfl, List.forall_mem_cons.mpr ⟨tt2 126 rfl, List.forall_mem_cons.mpr ⟨tt2 127 rfl, List.forall_mem_cons.mpr ⟨tt2 128 rfl, List.forall_mem_cons.mpr ⟨tt2 130 rfl, List.forall_mem_cons.mpr ⟨ts2 (q := (yX4_tagIsInFrame, 11)) 3 rfl, List.forall_mem_cons.mpr ⟨tt2 131 rfl, List.forall_mem_cons.mpr ⟨tt2 132 rfl, List.forall_mem_cons.mpr ⟨tt2 133 rfl, List.forall_mem_cons.mpr ⟨tt2 134 rfl, List.forall_mem_cons.mpr ⟨tt2 135 rfl, List.forall_mem_cons.mpr ⟨tt2 136 rfl, List.forall_mem_cons.mpr ⟨tt2 137 rfl, List.forall_mem_cons.mpr ⟨tt2 138 rfl, List.forall_mem_cons.mpr ⟨tt2 139 rfl, List.forall_mem_cons.mpr ⟨tt2 140 rfl, List.forall_mem_cons.mpr ⟨tt2 141 rfl, fun _ h => absurd h List.not_mem_nil⟩⟩⟩⟩⟩⟩⟩⟩⟩⟩⟩⟩⟩⟩⟩⟩⟩⟩⟩⟩⟩⟩⟩⟩
set_option maxRecDepth 20000 in
theorem tb_r14 : ∀ w ∈ wsL_law_r14, w ∈ lw_tbl := by
  unfold wsL_law_r14
  exact List.forall_mem_cons.mpr ⟨tt2 142 rfl, List.forall_mem_cons.mpr ⟨tt2 143 rfl, List.forall_mem_cons.mpr ⟨tt2 144 rfl, List.forall_mem_cons.mpr ⟨tt2 146 rfl, List.forall_mem_cons.mpr ⟨ts2 (q := (yX4_carryOut, 11)) 4 rfl, List.forall_mem_cons.mpr ⟨tt2 147 rfl, List.forall_mem_cons.mpr ⟨tt1 34 rfl, List.forall_mem_cons.mpr ⟨tt1 32 rfl, List.forall_mem_cons.mpr ⟨tt1 36 rfl, List.forall_mem_cons.mpr ⟨tt2 148 rfl, List.forall_mem_cons.mpr ⟨tt2 149 rfl, List.forall_mem_cons.mpr ⟨tt2 150 rfl, List.forall_mem_cons.mpr ⟨tt2 151 rfl, List.forall_mem_cons.mpr ⟨tt2 152 rfl, List.forall_mem_cons.mpr ⟨tt2 153 rfl, List.forall_mem_cons.mpr ⟨tt2 154 rfl, List.forall_mem_cons.mpr ⟨tt2 155 rfl, List.forall_mem_cons.mpr ⟨tt3 65 rfl, List.forall_mem_cons.mpr ⟨tt3 66 rfl, List.forall_mem_cons.mpr ⟨tt3 67 rfl, List.forall_mem_cons.mpr ⟨tt3 68 rfl, List.forall_mem_cons.mpr ⟨tt2 219 rfl, List.forall_mem_cons.mpr ⟨tt3 4 rfl, List.forall_mem_cons.mpr ⟨tt3 69 rfl, fun _ h => absurd h List.not_mem_nil⟩⟩⟩⟩⟩⟩⟩⟩⟩⟩⟩⟩⟩⟩⟩⟩⟩⟩⟩⟩⟩⟩⟩⟩
set_option maxRecDepth 20000 in
theorem tb_r15 : ∀ w ∈ wsL_law_r15, w ∈ lw_tbl := by
  unfold wsL_law_r15
  exact List.forall_mem_cons.mpr ⟨tt3 71 rfl, List.forall_mem_cons.mpr ⟨ts2 (q := (yX5_pass, 28)) 6 rfl, List.forall_mem_cons.mpr ⟨tt3 72 rfl, List.forall_mem_cons.mpr ⟨tt2 230 rfl, List.forall_mem_cons.mpr ⟨tt2 233 rfl, List.forall_mem_cons.mpr ⟨tt2 234 rfl, List.forall_mem_cons.mpr ⟨tt3 81 rfl, List.forall_mem_cons.mpr ⟨tt2 232 rfl, List.forall_mem_cons.mpr ⟨tt3 0 rfl, List.forall_mem_cons.mpr ⟨tt2 237 rfl, List.forall_mem_cons.mpr ⟨tt3 3 rfl, List.forall_mem_cons.mpr ⟨tt3 73 rfl, List.forall_mem_cons.mpr ⟨tt3 75 rfl, List.forall_mem_cons.mpr ⟨ts2 (q := (yX5_isBusy, 28)) 7 rfl, List.forall_mem_cons.mpr ⟨tt3 76 rfl, List.forall_mem_cons.mpr ⟨tt3 77 rfl, List.forall_mem_cons.mpr ⟨tt3 79 rfl, List.forall_mem_cons.mpr ⟨ts2 (q := (yX5_quiet, 28)) 8 rfl, List.forall_mem_cons.mpr ⟨tt3 80 rfl, List.forall_mem_cons.mpr ⟨tt3 82 rfl, List.forall_mem_cons.mpr ⟨tt3 84 rfl, List.forall_mem_cons.mpr ⟨ts2 (q := (yX5_send, 28)) 9 rfl, List.forall_mem_cons.mpr ⟨tt3 85 rfl, List.forall_mem_cons.mpr ⟨tt2 221 rfl, fun _ h => absurd h List.not_mem_nil⟩⟩⟩⟩⟩⟩⟩⟩⟩⟩⟩⟩⟩⟩⟩⟩⟩⟩⟩⟩⟩⟩⟩⟩
set_option maxRecDepth 20000 in
theorem tb_r16 : ∀ w ∈ wsL_law_r16, w ∈ lw_tbl := by
  unfold wsL_law_r16
  exact List.forall_mem_cons.mpr ⟨tt3 86 rfl, List.forall_mem_cons.mpr ⟨tt3 88 rfl, List.forall_mem_cons.mpr ⟨ts2 (q := (yX5_put, 28)) 10 rfl, List.forall_mem_cons.mpr ⟨tt3 89 rfl, List.forall_mem_cons.mpr ⟨tt3 90 rfl, List.forall_mem_cons.mpr ⟨tt3 92 rfl, List.forall_mem_cons.mpr ⟨ts2 (q := (yX5_statusOf, 28)) 11 rfl, List.forall_mem_cons.mpr ⟨tt3 93 rfl, List.forall_mem_cons.mpr ⟨tt2 229 rfl, List.forall_mem_cons.mpr ⟨tt2 225 rfl, List.forall_mem_cons.mpr ⟨tt3 94 rfl, List.forall_mem_cons.mpr ⟨tt3 96 rfl, List.forall_mem_cons.mpr ⟨ts2 (q := (yX5_putData, 28)) 12 rfl, List.forall_mem_cons.mpr ⟨tt3 97 rfl, List.forall_mem_cons.mpr ⟨tt2 224 rfl, List.forall_mem_cons.mpr ⟨tt3 1 rfl, List.forall_mem_cons.mpr ⟨tt3 98 rfl, List.forall_mem_cons.mpr ⟨tt3 100 rfl, List.forall_mem_cons.mpr ⟨ts2 (q := (yX5_putWord, 28)) 13 rfl, List.forall_mem_cons.mpr ⟨tt3 101 rfl, List.forall_mem_cons.mpr ⟨tt3 102 rfl, List.forall_mem_cons.mpr ⟨tt3 104 rfl, List.forall_mem_cons.mpr ⟨ts2 (q := (yX5_putLevel, 28)) 14 rfl, List.forall_mem_cons.mpr ⟨tt3 105 rfl, fun _ h => absurd h List.not_mem_nil⟩⟩⟩⟩⟩⟩⟩⟩⟩⟩⟩⟩⟩⟩⟩⟩⟩⟩⟩⟩⟩⟩⟩⟩
set_option maxRecDepth 20000 in
theorem tb_r17 : ∀ w ∈ wsL_law_r17, w ∈ lw_tbl := by
  unfold wsL_law_r17
  exact List.forall_mem_cons.mpr ⟨tt3 106 rfl, List.forall_mem_cons.mpr ⟨tt3 107 rfl, List.forall_mem_cons.mpr ⟨tt3 108 rfl, List.forall_mem_cons.mpr ⟨tt3 109 rfl, List.forall_mem_cons.mpr ⟨tt3 110 rfl, List.forall_mem_cons.mpr ⟨tt3 112 rfl, List.forall_mem_cons.mpr ⟨ts2 (q := (yX5_count, 28)) 15 rfl, List.forall_mem_cons.mpr ⟨tt3 113 rfl, List.forall_mem_cons.mpr ⟨tt3 114 rfl, List.forall_mem_cons.mpr ⟨tt3 116 rfl, List.forall_mem_cons.mpr ⟨ts3 (q := (yX5_addressSize, 28)) 0 rfl, List.forall_mem_cons.mpr ⟨tt3 117 rfl, List.forall_mem_cons.mpr ⟨tt3 118 rfl, List.forall_mem_cons.mpr ⟨tt3 120 rfl, List.forall_mem_cons.mpr ⟨ts3 (q := (yX5_data, 28)) 1 rfl, List.forall_mem_cons.mpr ⟨tt3 121 rfl, List.forall_mem_cons.mpr ⟨tt3 122 rfl, List.forall_mem_cons.mpr ⟨tt3 124 rfl, List.forall_mem_cons.mpr ⟨ts3 (q := (yX5_forget, 28)) 2 rfl, List.forall_mem_cons.mpr ⟨tt3 125 rfl, List.forall_mem_cons.mpr ⟨tt3 126 rfl, List.forall_mem_cons.mpr ⟨tt3 128 rfl, List.forall_mem_cons.mpr ⟨ts3 (q := (yX5_keep, 28)) 3 rfl, List.forall_mem_cons.mpr ⟨tt3 129 rfl, fun _ h => absurd h List.not_mem_nil⟩⟩⟩⟩⟩⟩⟩⟩⟩⟩⟩⟩⟩⟩⟩⟩⟩⟩⟩⟩⟩⟩⟩⟩
set_option maxRecDepth 20000 in
theorem tb_r18 : ∀ w ∈ wsL_law_r18, w ∈ lw_tbl := by
  unfold wsL_law_r18
  exact List.forall_mem_cons.mpr ⟨tt3 130 rfl, List.forall_mem_cons.mpr ⟨tt3 132 rfl, List.forall_mem_cons.mpr ⟨ts3 (q := (yX5_isRight, 28)) 4 rfl, List.forall_mem_cons.mpr ⟨tt3 133 rfl, List.forall_mem_cons.mpr ⟨tt3 134 rfl, List.forall_mem_cons.mpr ⟨tt3 136 rfl, List.forall_mem_cons.mpr ⟨ts3 (q := (yX5_isOwn, 28)) 5 rfl, List.forall_mem_cons.mpr ⟨tt3 137 rfl, List.forall_mem_cons.mpr ⟨tt3 138 rfl, List.forall_mem_cons.mpr ⟨tt3 140 rfl, List.forall_mem_cons.mpr ⟨ts3 (q := (yX5_isBroadcast, 28)) 6 rfl, List.forall_mem_cons.mpr ⟨tt3 141 rfl, List.forall_mem_cons.mpr ⟨tt3 142 rfl, List.forall_mem_cons.mpr ⟨tt3 144 rfl, List.forall_mem_cons.mpr ⟨ts3 (q := (yX5_command, 28)) 7 rfl, List.forall_mem_cons.mpr ⟨tt3 145 rfl, List.forall_mem_cons.mpr ⟨tt3 146 rfl, List.forall_mem_cons.mpr ⟨tt3 148 rfl, List.forall_mem_cons.mpr ⟨ts3 (q := (yX5_answer, 28)) 8 rfl, List.forall_mem_cons.mpr ⟨tt3 149 rfl, List.forall_mem_cons.mpr ⟨tt3 2 rfl, List.forall_mem_cons.mpr ⟨tt3 173 rfl, List.forall_mem_cons.mpr ⟨tt3 150 rfl, List.forall_mem_cons.mpr ⟨tt3 152 rfl, fun _ h => absurd h List.not_mem_nil⟩⟩⟩⟩⟩⟩⟩⟩⟩⟩⟩⟩⟩⟩⟩⟩⟩⟩⟩⟩⟩⟩⟩⟩
set_option maxRecDepth 20000 in
theorem tb_r19 : ∀ w ∈ wsL_law_r19, w ∈ lw_tbl := by
  unfold wsL_law_r19
  exact List.forall_mem_cons.mpr ⟨ts3 (q := (yX5_codeOf, 28)) 9 rfl, List.forall_mem_cons.mpr ⟨tt3 153 rfl, List.forall_mem_cons.mpr ⟨tt3 154 rfl, List.forall_mem_cons.mpr ⟨tt3 155 rfl, List.forall_mem_cons.mpr ⟨tt3 156 rfl, List.forall_mem_cons.mpr ⟨tt3 157 rfl, List.forall_mem_cons.mpr ⟨tt3 159 rfl, List.forall_mem_cons.mpr ⟨ts3 (q := (yX5_hasTag, 28)) 10 rfl, List.forall_mem_cons.mpr ⟨tt3 160 rfl, List.forall_mem_cons.mpr ⟨tt3 161 rfl, List.forall_mem_cons.mpr ⟨tt3 163 rfl, List.forall_mem_cons.mpr ⟨ts3 (q := (yX5_word, 28)) 11 rfl, List.forall_mem_cons.mpr ⟨tt3 164 rfl, List.forall_mem_cons.mpr ⟨tt3 165 rfl, List.forall_mem_cons.mpr ⟨tt3 167 rfl, List.forall_mem_cons.mpr ⟨ts3 (q := (yX5_obey, 28)) 12 rfl, List.forall_mem_cons.mpr ⟨tt3 168 rfl, List.forall_mem_cons.mpr ⟨tt3 169 rfl, List.forall_mem_cons.mpr ⟨tt3 171 rfl, List.forall_mem_cons.mpr ⟨ts3 (q := (yX5_master, 28)) 13 rfl, List.forall_mem_cons.mpr ⟨tt3 172 rfl, List.forall_mem_cons.mpr ⟨tt2 156 rfl, List.forall_mem_cons.mpr ⟨tt2 157 rfl, List.forall_mem_cons.mpr ⟨tt2 158 rfl, fun _ h => absurd h List.not_mem_nil⟩⟩⟩⟩⟩⟩⟩⟩⟩⟩⟩⟩⟩⟩⟩⟩⟩⟩⟩⟩⟩⟩⟩⟩
set_option maxRecDepth 20000 in
theorem tb_r20 : ∀ w ∈ wsL_law_r20, w ∈ lw_tbl := by
  unfold wsL_law_r20
  exact List.forall_mem_cons.mpr ⟨tt2 159 rfl, List.forall_mem_cons.mpr ⟨tt3 174 rfl, List.forall_mem_cons.mpr ⟨tt3 175 rfl, List.forall_mem_cons.mpr ⟨tt3 176 rfl, List.forall_mem_cons.mpr ⟨tt3 177 rfl, List.forall_mem_cons.mpr ⟨tt2 160 rfl, List.forall_mem_cons.mpr ⟨tt2 161 rfl, List.forall_mem_cons.mpr ⟨tt2 162 rfl, List.forall_mem_cons.mpr ⟨tt2 163 rfl, List.forall_mem_cons.mpr ⟨tt3 178 rfl, List.forall_mem_cons.mpr ⟨tt3 179 rfl, List.forall_mem_cons.mpr ⟨tt3 180 rfl, List.forall_mem_cons.mpr ⟨tt3 181 rfl, List.forall_mem_cons.mpr ⟨tt2 164 rfl, List.forall_mem_cons.mpr ⟨tt2 165 rfl, List.forall_mem_cons.mpr ⟨tt2 166 rfl, List.forall_mem_cons.mpr ⟨tt2 167 rfl, List.forall_mem_cons.mpr ⟨tt2 168 rfl, List.forall_mem_cons.mpr ⟨tt2 169 rfl, List.forall_mem_cons.mpr ⟨tt2 170 rfl, List.forall_mem_cons.mpr ⟨tt2 171 rfl, List.forall_mem_cons.mpr ⟨tt2 172 rfl, List.forall_mem_cons.mpr ⟨tt2 174 rfl, List.forall_mem_cons.mpr ⟨ts2 (q := (yX3_placeOf, 3)) 5 rfl, fun _ h => absurd h List.not_mem_nil⟩⟩⟩⟩⟩⟩⟩⟩⟩⟩⟩⟩⟩⟩⟩⟩⟩⟩⟩⟩⟩⟩⟩⟩
set_option maxRecDepth 20000 in
theorem tb_r21 : ∀ w ∈ wsL_law_r21, w ∈ lw_tbl := by
  unfold wsL_law_r21
  exact List.forall_mem_cons.mpr ⟨tt2 175 rfl, List.forall_mem_cons.mpr ⟨tt3 182 rfl, List.forall_mem_cons.mpr ⟨tt3 183 rfl, List.forall_mem_cons.mpr ⟨tt3 184 rfl, List.forall_mem_cons.mpr ⟨tt3 185 rfl, List.forall_mem_cons.mpr ⟨tt3 186 rfl, List.forall_mem_cons.mpr ⟨tt3 188 rfl, List.forall_mem_cons.mpr ⟨ts3 (q := (yX5_isKept, 28)) 14 rfl, List.forall_mem_cons.mpr ⟨tt3 189 rfl, List.forall_mem_cons.mpr ⟨tt2 176 rfl, List.forall_mem_cons.mpr ⟨tt2 177 rfl, List.forall_mem_cons.mpr ⟨tt2 178 rfl, List.forall_mem_cons.mpr ⟨tt2 179 rfl, List.forall_mem_cons.mpr ⟨tt2 180 rfl, List.forall_mem_cons.mpr ⟨tt2 181 rfl, List.forall_mem_cons.mpr ⟨tt2 182 rfl, List.forall_mem_cons.mpr ⟨tt2 183 rfl, List.forall_mem_cons.mpr ⟨tt3 190 rfl, List.forall_mem_cons.mpr ⟨tt3 191 rfl, List.forall_mem_cons.mpr ⟨tt3 192 rfl, List.forall_mem_cons.mpr ⟨tt3 193 rfl, List.forall_mem_cons.mpr ⟨tt2 184 rfl, List.forall_mem_cons.mpr ⟨tt2 185 rfl, List.forall_mem_cons.mpr ⟨tt2 186 rfl, fun _ h => absurd h List.not_mem_nil⟩⟩⟩⟩⟩⟩⟩⟩⟩⟩⟩⟩⟩⟩⟩⟩⟩⟩⟩⟩⟩⟩⟩⟩
set_option maxRecDepth 20000 in
theorem tb_r22 : ∀ w ∈ wsL_law_r22, w ∈ lw_tbl := by
  unfold wsL_law_r22
  exact List.forall_mem_cons.mpr ⟨tt2 187 rfl, List.forall_mem_cons.mpr ⟨tt2 188 rfl, List.forall_mem_cons.mpr ⟨tt2 189 rfl, List.forall_mem_cons.mpr ⟨tt2 190 rfl, List.forall_mem_cons.mpr ⟨tt2 191 rfl, List.forall_mem_cons.mpr ⟨tt2 192 rfl, List.forall_mem_cons.mpr ⟨tt3 194 rfl, List.forall_mem_cons.mpr ⟨tt3 195 rfl, List.forall_mem_cons.mpr ⟨tt3 196 rfl, List.forall_mem_cons.mpr ⟨tt3 197 rfl, List.forall_mem_cons.mpr ⟨tt2 193 rfl, List.forall_mem_cons.mpr ⟨tt2 194 rfl, List.forall_mem_cons.mpr ⟨tt2 195 rfl, List.forall_mem_cons.mpr ⟨tt2 196 rfl, List.forall_mem_cons.mpr ⟨tt3 198 rfl, List.forall_mem_cons.mpr ⟨tt3 199 rfl, List.forall_mem_cons.mpr ⟨tt3 200 rfl, List.forall_mem_cons.mpr ⟨tt3 201 rfl, List.forall_mem_cons.mpr ⟨tt2 197 rfl, List.forall_mem_cons.mpr ⟨tt2 198 rfl, List.forall_mem_cons.mpr ⟨tt2 199 rfl, List.forall_mem_cons.mpr ⟨tt2 200 rfl, List.forall_mem_cons.mpr ⟨tt3 202 rfl, List.forall_mem_cons.mpr ⟨tt3 203 rfl, fun _ h => absurd h List.not_mem_nil⟩⟩⟩⟩⟩⟩⟩⟩⟩⟩⟩⟩⟩⟩⟩⟩⟩⟩⟩⟩⟩⟩⟩⟩
set_option maxRecDepth 20000 in
theorem tb_r23 : ∀ w ∈ wsL_law_r23, w ∈ lw_tbl := by
  unfold wsL_law_r23
  exact List.forall_mem_cons.mpr ⟨tt3 204 rfl, List.forall_mem_cons.mpr ⟨tt3 205 rfl, List.forall_mem_cons.mpr ⟨tt2 201 rfl, List.forall_mem_cons.mpr ⟨tt2 202 rfl, List.forall_mem_cons.mpr ⟨tt2 203 rfl, List.forall_mem_cons.mpr ⟨tt2 204 rfl, List.forall_mem_cons.mpr ⟨tt3 206 rfl, List.forall_mem_cons.mpr ⟨tt3 207 rfl, List.forall_mem_cons.mpr ⟨tt3 208 rfl, List.forall_mem_cons.mpr ⟨tt3 209 rfl, List.forall_mem_cons.mpr ⟨tt2 205 rfl, List.forall_mem_cons.mpr ⟨tt2 206 rfl, List.forall_mem_cons.mpr ⟨tt2 207 rfl, List.forall_mem_cons.mpr ⟨tt2 208 rfl, List.forall_mem_cons.mpr ⟨tt3 210 rfl, List.forall_mem_cons.mpr ⟨tt3 211 rfl, List.forall_mem_cons.mpr ⟨tt3 212 rfl, List.forall_mem_cons.mpr ⟨tt3 213 rfl, fun _ h => absurd h List.not_mem_nil⟩⟩⟩⟩⟩⟩⟩⟩⟩⟩⟩⟩⟩⟩⟩⟩⟩⟩
set_option maxRecDepth 20000 in
theorem inX0 : ∀ w ∈ wsX00, w ∈ lw_tbl := by
  intro w hw
  obtain ⟨k, hk, rfl⟩ := List.mem_map.mp hw
  have hk := List.mem_range.mp hk
  rcases (show k = 0 ∨ k = 1 ∨ k = 2 ∨ k = 3 ∨ k = 4 ∨ k = 5 ∨ k = 6 ∨ k = 7 ∨ k = 8 ∨ k = 9 by omega) with rfl | rfl | rfl | rfl | rfl | rfl | rfl | rfl | rfl | rfl
  · exact tt1 96 rfl
  · exact tt1 98 rfl
  · exact tt1 100 rfl
  · exact tt1 102 rfl
  · exact tt1 104 rfl
  · exact tt1 106 rfl
  · exact tt1 108 rfl
  · exact tt1 110 rfl
  · exact tt1 112 rfl
  · exact tt1 114 rfl
set_option maxRecDepth 20000 in
theorem inX1 : ∀ w ∈ wsX10, w ∈ lw_tbl := by
  intro w hw
  obtain ⟨k, hk, rfl⟩ := List.mem_map.mp hw
  have hk := List.mem_range.mp hk
  rcases (show k = 0 ∨ k = 1 ∨ k = 2 ∨ k = 3 ∨ k = 4 by omega) with rfl | rfl | rfl | rfl | rfl
  · exact tt1 128 rfl
  · exact tt1 130 rfl
  · exact tt1 132 rfl
  · exact tt1 134 rfl
  · exact tt1 136 rfl
set_option maxRecDepth 20000 in
theorem inX2 : ∀ w ∈ wsX20, w ∈ lw_tbl := by
  intro w hw
  obtain ⟨k, hk, rfl⟩ := List.mem_map.mp hw
  have hk := List.mem_range.mp hk
  rcases (show k = 0 ∨ k = 1 ∨ k = 2 ∨ k = 3 ∨ k = 4 ∨ k = 5 ∨ k = 6 ∨ k = 7 ∨ k = 8 ∨ k = 9 ∨ k = 10 ∨ k = 11 ∨ k = 12 ∨ k = 13 by omega) with rfl | rfl | rfl | rfl | rfl | rfl | rfl | rfl | rfl | rfl | rfl | rfl | rfl | rfl
  · exact tt1 46 rfl
  · exact tt1 48 rfl
  · exact tt1 50 rfl
  · exact tt1 52 rfl
  · exact tt1 54 rfl
  · exact tt1 56 rfl
  · exact tt1 58 rfl
  · exact tt1 60 rfl
  · exact tt1 62 rfl
  · exact tt1 64 rfl
  · exact tt1 66 rfl
  · exact tt1 68 rfl
  · exact tt1 70 rfl
  · exact tt1 72 rfl
set_option maxRecDepth 20000 in
theorem inX3 : ∀ w ∈ wsX30, w ∈ lw_tbl := by
  intro w hw
  obtain ⟨k, hk, rfl⟩ := List.mem_map.mp hw
  have hk := List.mem_range.mp hk
  rcases (show k = 0 ∨ k = 1 ∨ k = 2 by omega) with rfl | rfl | rfl
  · exact tt1 149 rfl
  · exact tt1 151 rfl
  · exact tt1 153 rfl
set_option maxRecDepth 20000 in
theorem inX4 : ∀ w ∈ wsX40, w ∈ lw_tbl := by
  intro w hw
  obtain ⟨k, hk, rfl⟩ := List.mem_map.mp hw
  have hk := List.mem_range.mp hk
  rcases (show k = 0 ∨ k = 1 ∨ k = 2 ∨ k = 3 ∨ k = 4 ∨ k = 5 ∨ k = 6 ∨ k = 7 ∨ k = 8 ∨ k = 9 ∨ k = 10 by omega) with rfl | rfl | rfl | rfl | rfl | rfl | rfl | rfl | rfl | rfl | rfl
  · exact tt1 167 rfl
  · exact tt1 169 rfl
  · exact tt1 171 rfl
  · exact tt1 173 rfl
  · exact tt1 175 rfl
  · exact tt1 177 rfl
  · exact tt1 179 rfl
  · exact tt1 181 rfl
  · exact tt1 183 rfl
  · exact tt1 185 rfl
  · exact tt1 187 rfl
set_option maxRecDepth 20000 in
theorem inX5 : ∀ w ∈ wsX50, w ∈ lw_tbl := by
  intro w hw
  obtain ⟨k, hk, rfl⟩ := List.mem_map.mp hw
  have hk := List.mem_range.mp hk
  rcases (show k = 0 ∨ k = 1 ∨ k = 2 ∨ k = 3 ∨ k = 4 ∨ k = 5 ∨ k = 6 ∨ k = 7 ∨ k = 8 ∨ k = 9 ∨ k = 10 ∨ k = 11 ∨ k = 12 ∨ k = 13 ∨ k = 14 ∨ k = 15 ∨ k = 16 ∨ k = 17 ∨ k = 18 ∨ k = 19 ∨ k = 20 ∨ k = 21 ∨ k = 22 ∨ k = 23 ∨ k = 24 ∨ k = 25 ∨ k = 26 ∨ k = 27 by omega) with rfl | rfl | rfl | rfl | rfl | rfl | rfl | rfl | rfl | rfl | rfl | rfl | rfl | rfl | rfl | rfl | rfl | rfl | rfl | rfl | rfl | rfl | rfl | rfl | rfl | rfl | rfl | rfl
  · exact tt3 7 rfl
  · exact tt3 9 rfl
  · exact tt3 11 rfl
  · exact tt3 13 rfl
  · exact tt3 15 rfl
  · exact tt3 17 rfl
  · exact tt3 19 rfl
  · exact tt3 21 rfl
  · exact tt3 23 rfl
  · exact tt3 25 rfl
  · exact tt3 27 rfl
  · exact tt3 29 rfl
  · exact tt3 31 rfl
  · exact tt3 33 rfl
  · exact tt3 35 rfl
  · exact tt3 37 rfl
  · exact tt3 39 rfl
  · exact tt3 41 rfl
  · exact tt3 43 rfl
  · exact tt3 45 rfl
  · exact tt3 47 rfl
  · exact tt3 49 rfl
  · exact tt3 51 rfl
  · exact tt3 53 rfl
  · exact tt3 55 rfl
  · exact tt3 57 rfl
  · exact tt3 59 rfl
  · exact tt3 61 rfl
theorem wsL_law_in : ∀ w ∈ wsL_law, w ∈ lw_tbl := by
  intro w h
  refine (List.mem_append.mp h).elim (fun h => ?_) (fun h => absurd h List.not_mem_nil)
  refine (List.mem_append.mp h).elim (fun h => ?_) (fun h => inX3 w h)
  refine (List.mem_append.mp h).elim (fun h => ?_) (fun h => inX1 w h)
  refine (List.mem_append.mp h).elim (fun h => ?_) (fun h => inX0 w h)
  refine (List.mem_append.mp h).elim (fun h => ?_) (fun h => inX2 w h)
  refine (List.mem_append.mp h).elim (fun h => ?_) (fun h => inX5 w h)
  refine (List.mem_append.mp h).elim (fun h => ?_) (fun h => inX4 w h)
  rcases List.mem_append.mp h with h | h
  · exact tb_r1 w h
  rcases List.mem_append.mp h with h | h
  · exact tb_r2 w h
  rcases List.mem_append.mp h with h | h
  · exact tb_r3 w h
  rcases List.mem_append.mp h with h | h
  · exact tb_r4 w h
  rcases List.mem_append.mp h with h | h
  · exact tb_r5 w h
  rcases List.mem_append.mp h with h | h
  · exact tb_r6 w h
  rcases List.mem_append.mp h with h | h
  · exact tb_r7 w h
  rcases List.mem_append.mp h with h | h
  · exact tb_r8 w h
  rcases List.mem_append.mp h with h | h
  · exact tb_r9 w h
  rcases List.mem_append.mp h with h | h
  · exact tb_r10 w h
  rcases List.mem_append.mp h with h | h
  · exact tb_r11 w h
  rcases List.mem_append.mp h with h | h
  · exact tb_r12 w h
  rcases List.mem_append.mp h with h | h
  · exact tb_r13 w h
  rcases List.mem_append.mp h with h | h
  · exact tb_r14 w h
  rcases List.mem_append.mp h with h | h
  · exact tb_r15 w h
  rcases List.mem_append.mp h with h | h
  · exact tb_r16 w h
  rcases List.mem_append.mp h with h | h
  · exact tb_r17 w h
  rcases List.mem_append.mp h with h | h
  · exact tb_r18 w h
  rcases List.mem_append.mp h with h | h
  · exact tb_r19 w h
  rcases List.mem_append.mp h with h | h
  · exact tb_r20 w h
  rcases List.mem_append.mp h with h | h
  · exact tb_r21 w h
  rcases List.mem_append.mp h with h | h
  · exact tb_r22 w h
  exact tb_r23 w h
