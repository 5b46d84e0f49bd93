set_option maxRecDepth 20000 in
theorem u_226 : Cond.code yX1_putHouse cX1_putHouse 3 none ∈ wsL_law := List.mem_of_getElem? (i := 308) (by decide +kernel)
set_option maxRecDepth 20000 in
theorem u_224 : Cond.instanceMethod yX1_putHouse ∈ wsL_law := List.mem_of_getElem? (i := 306) (by decide +kernel)
set_option maxRecDepth 20000 in
theorem u_225 : Cond.selects RX1 yX1_putHouse yX1_putHouse ∈ wsL_law := List.mem_of_getElem? (i := 307) (by decide +kernel)
theorem hdV_X1_putHouse : yX1_putHouse.cls = RX1 ∧ yX1_putHouse.cls ≠ "java/lang/invoke/MethodHandle" ∧ yX1_putHouse.cls ≠ "java/lang/invoke/VarHandle" ∧ (parseMethodDescriptor yX1_putHouse.desc).map (fun d => d.parameters.length) = some 2 := by decide +kernel
