set_option maxRecDepth 100000 in
theorem mL_law_w0 : Cond.classLink RL 8 RX11 ∈ wsL_law := by decide +kernel
set_option maxRecDepth 100000 in
theorem mL_law_w1 : Cond.instantiable RX11 8 ∈ wsL_law := by decide +kernel
set_option maxRecDepth 100000 in
theorem mL_law_w2 : Cond.initialized RX11 ∈ wsL_law := by decide +kernel
set_option maxRecDepth 100000 in
theorem mL_law_w7 : Cond.methodLink RL 27 yX11_init ∈ wsL_law := by decide +kernel
set_option maxRecDepth 100000 in
theorem mL_law_w8 : Cond.instanceMethod yX11_init ∈ wsL_law := by decide +kernel
set_option maxRecDepth 100000 in
theorem mL_law_w3 : Cond.classLink RL 28 RX12 ∈ wsL_law := by decide +kernel
set_option maxRecDepth 100000 in
theorem mL_law_w4 : Cond.instantiable RX12 62 ∈ wsL_law := by decide +kernel
set_option maxRecDepth 100000 in
theorem mL_law_w5 : Cond.initialized RX12 ∈ wsL_law := by decide +kernel
set_option maxRecDepth 100000 in
theorem mL_law_w146 : Cond.methodLink RL 30 yX12_init ∈ wsL_law := by decide +kernel
set_option maxRecDepth 100000 in
theorem mL_law_w147 : Cond.instanceMethod yX12_init ∈ wsL_law := by decide +kernel
set_option maxRecDepth 100000 in
theorem mL_law_w6 : Cond.arrayClass .long ∈ wsL_law := by decide +kernel
