/-! scaffold: words of the law, to be replaced by 99x2g12 .. (wip/p35/later, in smaller pieces) -/
theorem gL_law_L_errors : GoodIn wsL_law (va_wsS RL 269 yL_errors wsL_errors) := sorry
theorem gL_law_L_kept : GoodIn wsL_law (va_wsS RL 273 yL_kept wsL_kept) := sorry
theorem gL_law_L_tells : GoodIn wsL_law (va_wsS RL 276 yL_tells wsL_tells) := sorry
theorem gL_law_L_load : GoodIn wsL_law (va_wsS RL 280 yL_load wsL_load) := sorry
theorem gL_law_L_act : GoodIn wsL_law (va_wsS RL 282 yL_act wsL_act) := sorry
theorem gL_law_L_follows : GoodIn wsL_law (va_wsS RL 285 yL_follows wsL_follows) := sorry
theorem gL_law_L_save : GoodIn wsL_law (va_wsS RL 196 yL_save wsL_save) := sorry
theorem gL_law_L_restore : GoodIn wsL_law (va_wsS RL 198 yL_restore wsL_restore) := sorry
