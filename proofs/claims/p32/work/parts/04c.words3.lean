set_option maxRecDepth 100000 in
theorem qL_isT_1 : lw_tbl[867]? = some (Cond.code yL_isTraverse cL_isTraverse 23 (some .boolean)) := rfl
theorem qL_isTraverse : ∀ w ∈ [Cond.code yL_isTraverse cL_isTraverse 23 (some .boolean), Cond.initialized RL, Cond.static yL_isTraverse], w ∈ GA := fun w hw => by
  rcases List.mem_cons.mp hw with e | hw
  · rw [e]; exact ga_mem 867 qL_isT_1 rfl
  · exact ga_in (ws := [Cond.initialized RL, Cond.static yL_isTraverse]) [12, 866] (by decide +kernel) (by decide +kernel) w hw
