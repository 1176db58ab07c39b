set_option maxRecDepth 100000 in
theorem lwd_instantiable_RX0_3 : Cond.instantiable RX0 3 ∈ wsL_law := inlr2 _ (by decide +kernel)
set_option maxRecDepth 100000 in
theorem lwd_instantiable_RX1_3 : Cond.instantiable RX1 3 ∈ wsL_law := inlr3 _ (by decide +kernel)
set_option maxRecDepth 100000 in
theorem lwd_instantiable_RX2_8 : Cond.instantiable RX2 8 ∈ wsL_law := inlr1 _ (by decide +kernel)
set_option maxRecDepth 100000 in
theorem lwd_instantiable_RX4_2 : Cond.instantiable RX4 2 ∈ wsL_law := inlr1 _ (by decide +kernel)
set_option maxRecDepth 100000 in
theorem lwd_instantiable_RX6_1 : Cond.instantiable RX6 1 ∈ wsL_law := inlr2 _ (by decide +kernel)
set_option maxRecDepth 100000 in
theorem lwd_instantiable_RX7_3 : Cond.instantiable RX7 3 ∈ wsL_law := inlr2 _ (by decide +kernel)
set_option maxRecDepth 100000 in
theorem lwd_instantiable_RX8_4 : Cond.instantiable RX8 4 ∈ wsL_law := inlr2 _ (by decide +kernel)
set_option maxRecDepth 100000 in
theorem lwd_instantiable_RX9_6 : Cond.instantiable RX9 6 ∈ wsL_law := inlr2 _ (by decide +kernel)
set_option maxRecDepth 100000 in
theorem lwd_instantiable_RX10_10 : Cond.instantiable RX10 10 ∈ wsL_law := inlr1 _ (by decide +kernel)
set_option maxRecDepth 100000 in
theorem lwd_instantiable_RX11_23 : Cond.instantiable RX11 23 ∈ wsL_law := inlr1 _ (by decide +kernel)
set_option maxRecDepth 100000 in
theorem lwd_arrayClass_int : Cond.arrayClass .int ∈ wsL_law := inlr3 _ (by decide +kernel)
set_option maxRecDepth 100000 in
theorem lwd_arrayClass_long : Cond.arrayClass .long ∈ wsL_law := inlr5 _ (by decide +kernel)
set_option maxRecDepth 100000 in
theorem lwd_arrayClass_boolean : Cond.arrayClass .boolean ∈ wsL_law := inlr1 _ (by decide +kernel)
set_option maxRecDepth 100000 in
theorem lwd_classLink_RL_7_RX10 : Cond.classLink RL 7 RX10 ∈ wsL_law := inlr1 _ (by decide +kernel)
set_option maxRecDepth 100000 in
theorem lwd_classLink_RL_10_RX11 : Cond.classLink RL 10 RX11 ∈ wsL_law := inlr1 _ (by decide +kernel)
set_option maxRecDepth 100000 in
theorem lwd_initialized_RX10 : Cond.initialized RX10 ∈ wsL_law := inlr1 _ (by decide +kernel)
set_option maxRecDepth 100000 in
theorem lwd_initialized_RX11 : Cond.initialized RX11 ∈ wsL_law := inlr1 _ (by decide +kernel)
set_option maxRecDepth 100000 in
theorem lwd_methodLink_RL_9_yX10_init : Cond.methodLink RL 9 yX10_init ∈ wsL_law := inlr1 _ (by decide +kernel)
set_option maxRecDepth 100000 in
theorem lwd_methodLink_RL_12_yX11_init : Cond.methodLink RL 12 yX11_init ∈ wsL_law := inlr5 _ (by decide +kernel)
set_option maxRecDepth 100000 in
theorem lwd_instanceMethod_yX10_init : Cond.instanceMethod yX10_init ∈ wsL_law := inlr1 _ (by decide +kernel)
set_option maxRecDepth 100000 in
theorem lwd_instanceMethod_yX11_init : Cond.instanceMethod yX11_init ∈ wsL_law := inlr5 _ (by decide +kernel)
