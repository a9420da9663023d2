abbrev mL_cell : Mt := (yL_cell, cL_cell, 2, (some .int))
theorem kL_cell_c : Cond.code yL_cell cL_cell 2 (some .int) ∈ lw_tbl := List.mem_of_getElem? (i := 487) (by decide +kernel)
theorem kL_cell_t : Cond.static yL_cell ∈ lw_tbl := List.mem_of_getElem? (i := 486) (by decide +kernel)
abbrev mL_isSound : Mt := (yL_isSound, cL_isSound, 12, (some .boolean))
set_option maxRecDepth 100000 in
theorem kL_isSound_c : Cond.code yL_isSound cL_isSound 12 (some .boolean) ∈ lw_tbl := List.mem_of_getElem? (i := 492) rfl
theorem kL_isSound_t : Cond.static yL_isSound ∈ lw_tbl := List.mem_of_getElem? (i := 491) (by decide +kernel)
abbrev mL_plans : Mt := (yL_plans, cL_plans, 13, (some .boolean))
set_option maxRecDepth 100000 in
theorem kL_plans_c : Cond.code yL_plans cL_plans 13 (some .boolean) ∈ lw_tbl := List.mem_of_getElem? (i := 772) rfl
theorem kL_plans_t : Cond.static yL_plans ∈ lw_tbl := List.mem_of_getElem? (i := 771) (by decide +kernel)
abbrev mL_takes : Mt := (yL_takes, cL_takes, 8, (some .boolean))
set_option maxRecDepth 100000 in
theorem kL_takes_c : Cond.code yL_takes cL_takes 8 (some .boolean) ∈ lw_tbl := List.mem_of_getElem? (i := 776) rfl
theorem kL_takes_t : Cond.static yL_takes ∈ lw_tbl := List.mem_of_getElem? (i := 775) (by decide +kernel)
abbrev mL_number : Mt := (yL_number, cL_number, 2, none)
theorem kL_number_c : Cond.code yL_number cL_number 2 none ∈ lw_tbl := List.mem_of_getElem? (i := 794) (by decide +kernel)
theorem kL_number_t : Cond.static yL_number ∈ lw_tbl := List.mem_of_getElem? (i := 793) (by decide +kernel)
abbrev mL_plays : Mt := (yL_plays, cL_plays, 10, (some .boolean))
set_option maxRecDepth 100000 in
theorem kL_plays_c : Cond.code yL_plays cL_plays 10 (some .boolean) ∈ lw_tbl := List.mem_of_getElem? (i := 779) rfl
theorem kL_plays_t : Cond.static yL_plays ∈ lw_tbl := List.mem_of_getElem? (i := 778) (by decide +kernel)
abbrev mL_refuses : Mt := (yL_refuses, cL_refuses, 6, (some .boolean))
set_option maxRecDepth 100000 in
theorem kL_refuses_c : Cond.code yL_refuses cL_refuses 6 (some .boolean) ∈ lw_tbl := List.mem_of_getElem? (i := 592) rfl
theorem kL_refuses_t : Cond.static yL_refuses ∈ lw_tbl := List.mem_of_getElem? (i := 591) (by decide +kernel)
abbrev mL_acts : Mt := (yL_acts, cL_acts, 6, (some .boolean))
set_option maxRecDepth 100000 in
theorem kL_acts_c : Cond.code yL_acts cL_acts 6 (some .boolean) ∈ lw_tbl := List.mem_of_getElem? (i := 769) rfl
theorem kL_acts_t : Cond.static yL_acts ∈ lw_tbl := List.mem_of_getElem? (i := 768) (by decide +kernel)
theorem kL_n : Cond.initialized RL ∈ lw_tbl := List.mem_of_getElem? (i := 10) (by decide +kernel)
