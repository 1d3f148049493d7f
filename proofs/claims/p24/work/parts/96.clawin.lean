/-! the law's words stand in the tables -/
def ws16a : List Cond := [Cond.selects RX7 yX7_type yX7_type, Cond.code yX7_type cX7_type 2 (some .int), Cond.methodLink RX7 147 yX6_append, Cond.instanceMethod yX6_append, Cond.selects RX6 yX6_append yX6_append, Cond.code yX6_append cX6_append 2 (some .boolean), Cond.methodLink RL 93 yL_typesDigit, Cond.static yL_typesDigit, Cond.code yL_typesDigit cL_typesDigit 5 (some .int), Cond.methodLink RL 136 yL_acts, Cond.static yL_acts]
def ws16b : List Cond := [Cond.methodLink RL 104 yL_sets, Cond.static yL_sets, Cond.code yL_sets cL_sets 8 (some .boolean), Cond.methodLink RL 97 yX7_set, Cond.instanceMethod yX7_set, Cond.selects RX7 yX7_set yX7_set, Cond.code yX7_set cX7_set 4 (some .int), Cond.methodLink RX7 140 yX7_isValue, Cond.static yX7_isValue, Cond.code yX7_isValue cX7_isValue 2 (some .boolean), Cond.fieldLink RX7 231 "ShirtButtons" "LOWEST" "[I", Cond.fieldLink RX7 234 "ShirtButtons" "HIGHEST" "[I"]
set_option maxRecDepth 20000 in
theorem ws16a_in : ∀ w ∈ ws16a, w ∈ lw_tbl := fun w h => (goodIn_p ws16a [575, 579, 582] (by decide +kernel) (by decide +kernel) w h).1
set_option maxRecDepth 20000 in
theorem ws16b_in : ∀ w ∈ ws16b, w ∈ lw_tbl := fun w h => (goodIn_p ws16b [588, 592, 443] (by decide +kernel) (by decide +kernel) w h).1
set_option maxRecDepth 100000 in
theorem ws16c_in : Cond.code yL_acts cL_acts 16 (some .boolean) ∈ lw_tbl := List.mem_of_getElem? (i := 585) rfl
theorem wsL_law_r16_in : ∀ w ∈ wsL_law_r16, w ∈ lw_tbl := by
  have h : ∀ w ∈ ws16a ++ (Cond.code yL_acts cL_acts 16 (some .boolean) :: ws16b), w ∈ lw_tbl := List.forall_mem_append.mpr ⟨ws16a_in, List.forall_mem_cons.mpr ⟨ws16c_in, ws16b_in⟩⟩
  exact h
set_option maxRecDepth 20000 in
theorem wsL_law_r17_in : ∀ w ∈ wsL_law_r17, w ∈ lw_tbl := fun w h => (goodIn_p wsL_law_r17 [454, 596, 502, 483, 601] (by decide +kernel) (by decide +kernel) w h).1
set_option maxRecDepth 20000 in
theorem wsL_law_r18_in : ∀ w ∈ wsL_law_r18, w ∈ lw_tbl := fun w h => (goodIn_p wsL_law_r18 [605, 609, 410, 418, 613] (by decide +kernel) (by decide +kernel) w h).1
set_option maxRecDepth 20000 in
theorem wsL_law_r19_in : ∀ w ∈ wsL_law_r19, w ∈ lw_tbl := fun w h => (goodIn_p wsL_law_r19 [618, 428, 623, 627, 523, 631] (by decide +kernel) (by decide +kernel) w h).1
set_option maxRecDepth 20000 in
theorem wsL_law_r20_in : ∀ w ∈ wsL_law_r20, w ∈ lw_tbl := fun w h => (goodIn_p wsL_law_r20 [475, 479, 507, 511, 515, 403] (by decide +kernel) (by decide +kernel) w h).1
set_option maxRecDepth 20000 in
theorem wsL_law_r21_in : ∀ w ∈ wsL_law_r21, w ∈ lw_tbl := fun w h => (goodIn_p wsL_law_r21 [407, 414, 422, 425, 432, 436] (by decide +kernel) (by decide +kernel) w h).1
set_option maxRecDepth 20000 in
theorem wsL_law_r22_in : ∀ w ∈ wsL_law_r22, w ∈ lw_tbl := fun w h => (goodIn_p wsL_law_r22 [440] (by decide +kernel) (by decide +kernel) w h).1
