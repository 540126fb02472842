/-! the law's words: what its calls need stands in the tables -/
theorem lx_in {ws : List Cond} (g : GoodIn wsL_law ws) : GoodIn lw_tbl ws := fun w h => ⟨wsL_law_in w (g w h).1, (g w h).2⟩
theorem lx_init : GoodIn lw_tbl wsX1_init := lx_in gL_law_X1_init
theorem lx_sector : GoodIn lw_tbl (wsV RL 13 RX1 yX1_sector wsX1_sector) := lx_in gL_law_X1_sector
theorem lx_join : GoodIn lw_tbl (wsV RL 18 RX1 yX1_join wsX1_join) := lx_in gL_law_X1_join
theorem lx_reset : GoodIn lw_tbl (wsV RL 23 RX1 yX1_reset wsX1_reset) := lx_in gL_law_X1_reset
theorem lx_clear : GoodIn lw_tbl (wsV RL 27 RX1 yX1_clear wsX1_clear) := lx_in gL_law_X1_clear
theorem lx_begin : GoodIn lw_tbl (wsV RL 31 RX1 yX1_begin wsX1_begin) := lx_in gL_law_X1_begin
theorem lx_tag : GoodIn lw_tbl (wsV RL 35 RX1 yX1_tag wsX1_tag) := lx_in gL_law_X1_tag
theorem lx_enter : GoodIn lw_tbl (wsV RL 40 RX1 yX1_enter wsX1_enter) := lx_in gL_law_X1_enter
theorem lx_ticks : GoodIn lw_tbl (wsV RL 45 RX1 yX1_ticks wsX1_ticks) := lx_in gL_law_X1_ticks
theorem lx_of : GoodIn lw_tbl (wsV RL 50 RX1 yX1_of wsX1_of) := lx_in gL_law_X1_of
set_option maxRecDepth 100000 in
theorem lx_are : GoodIn lw_tbl (wsV RL 54 RX1 yX1_are wsX1_are) := goodIn_sub (by decide +kernel) (by decide +kernel)
set_option maxRecDepth 100000 in
theorem lx_open : GoodIn lw_tbl (wsV RL 58 RX1 yX1_open wsX1_open) := goodIn_sub (by decide +kernel) (by decide +kernel)
set_option maxRecDepth 100000 in
theorem lx_look : GoodIn lw_tbl (wsV RL 62 RX1 yX1_look wsX1_look) := goodIn_sub (by decide +kernel) (by decide +kernel)
set_option maxRecDepth 100000 in
theorem x3_tbl : ∀ w ∈ wsX3, w ∈ lw_tbl := by decide +kernel
theorem inX3L : ∀ w ∈ wsX30, w ∈ lw_tbl := fun w h => x3_tbl w (inX3 w h)
theorem x3_law {c : Cond} {idx : Nat} {y : MethodName} (hl : Cond.methodLink RL idx y ∈ lw_tbl) (hi : Cond.instanceMethod y ∈ lw_tbl) (hs : Cond.selects RX3 y y ∈ lw_tbl) (hc : c ∈ lw_tbl) (hg : ([Cond.methodLink RL idx y, Cond.instanceMethod y, Cond.selects RX3 y y, Cond.initialized RX3, c] : List Cond).all goodWord = true) : GoodIn lw_tbl (wsV RL idx RX3 y (c :: wsX3)) := by
  have g : ∀ w ∈ wsX3, w ∈ lw_tbl ∧ ((w.onTables && w.keeps) = true ∨ ∃ ty, w = .arrayClass ty) := fun w hw => ⟨x3_tbl w hw, good_of_word (List.all_eq_true.mp x3_good w hw)⟩
  have g2 := List.all_eq_true.mp hg
  intro w hw
  rcases List.mem_append.mp hw with h | h
  · rcases List.mem_cons.mp h with rfl | h
    · exact ⟨hl, good_of_word (g2 _ (by simp))⟩
    · rcases List.mem_cons.mp h with rfl | h
      · exact ⟨hi, good_of_word (g2 _ (by simp))⟩
      · rcases List.mem_cons.mp h with rfl | h
        · exact ⟨hs, good_of_word (g2 _ (by simp))⟩
        · rcases List.mem_cons.mp h with rfl | h
          · exact g _ k3_ini
          · cases h
  · rcases List.mem_cons.mp h with rfl | h
    · exact ⟨hc, good_of_word (g2 _ (by simp))⟩
    · exact g _ h
theorem ly_sector : GoodIn lw_tbl (wsV RL 17 RX3 yX3_sector wsX3_sector) := x3_law (by decide +kernel) (by decide +kernel) (by decide +kernel) (by decide +kernel) (by decide +kernel)
theorem ly_join : GoodIn lw_tbl (wsV RL 22 RX3 yX3_join wsX3_join) := x3_law (by decide +kernel) (by decide +kernel) (by decide +kernel) (by decide +kernel) (by decide +kernel)
theorem ly_reset : GoodIn lw_tbl (wsV RL 26 RX3 yX3_reset wsX3_reset) := x3_law (by decide +kernel) (by decide +kernel) (by decide +kernel) (by decide +kernel) (by decide +kernel)
theorem ly_clear : GoodIn lw_tbl (wsV RL 30 RX3 yX3_clear wsX3_clear) := x3_law (by decide +kernel) (by decide +kernel) (by decide +kernel) (by decide +kernel) (by decide +kernel)
theorem ly_begin : GoodIn lw_tbl (wsV RL 34 RX3 yX3_begin wsX3_begin) := x3_law (by decide +kernel) (by decide +kernel) (by decide +kernel) (by decide +kernel) (by decide +kernel)
theorem ly_tag : GoodIn lw_tbl (wsV RL 39 RX3 yX3_tag wsX3_tag) := x3_law (by decide +kernel) (by decide +kernel) (by decide +kernel) (by decide +kernel) (by decide +kernel)
theorem ly_enter : GoodIn lw_tbl (wsV RL 44 RX3 yX3_enter wsX3_enter) := x3_law (by decide +kernel) (by decide +kernel) (by decide +kernel) (by decide +kernel) (by decide +kernel)
theorem ly_ticks : GoodIn lw_tbl (wsV RL 49 RX3 yX3_ticks wsX3_ticks) := x3_law (by decide +kernel) (by decide +kernel) (by decide +kernel) (by decide +kernel) (by decide +kernel)
theorem ly_of : GoodIn lw_tbl (wsV RL 53 RX3 yX3_of wsX3_of) := x3_law (by decide +kernel) (by decide +kernel) (by decide +kernel) (by decide +kernel) (by decide +kernel)
theorem ly_are : GoodIn lw_tbl (wsV RL 57 RX3 yX3_are wsX3_are) := x3_law (by decide +kernel) (by decide +kernel) (by decide +kernel) (by decide +kernel) (by decide +kernel)
theorem ly_open : GoodIn lw_tbl (wsV RL 61 RX3 yX3_open wsX3_open) := x3_law (by decide +kernel) (by decide +kernel) (by decide +kernel) (by decide +kernel) (by decide +kernel)
theorem ly_look : GoodIn lw_tbl (wsV RL 65 RX3 yX3_look wsX3_look) := x3_law (by decide +kernel) (by decide +kernel) (by decide +kernel) (by decide +kernel) (by decide +kernel)
theorem ly_init : GoodIn lw_tbl wsX3_init := fun w h => by
  rcases List.mem_cons.mp h with rfl | h
  · exact ⟨by decide +kernel, good_of_word (by decide +kernel)⟩
  · exact ⟨x3_tbl w h, good_of_word (List.all_eq_true.mp x3_good w h)⟩
theorem hw_NL_in : ∀ w ∈ hw_NL, w ∈ lw_tbl := by decide +kernel
theorem hw_NL_t : ∀ w ∈ hw_NL, w.onTables = true := by decide +kernel
theorem hw_N.of {args : Array Value} {s : State} (hts : ∀ w ∈ lw_tbl, w.before args s = true) : hw_N hw_NL s := fun w h => va_Nw.of (hw_NL_t w h) (hts w (hw_NL_in w h))
