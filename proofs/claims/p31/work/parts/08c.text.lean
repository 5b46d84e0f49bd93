set_option maxRecDepth 20000 in
theorem u_238 : Cond.code yX1_putVegetable cX1_putVegetable 2 none ∈ wsL_law := List.mem_of_getElem? (i := 316) (by decide +kernel)
set_option maxRecDepth 20000 in
theorem u_236 : Cond.instanceMethod yX1_putVegetable ∈ wsL_law := List.mem_of_getElem? (i := 314) (by decide +kernel)
set_option maxRecDepth 20000 in
theorem u_237 : Cond.selects RX1 yX1_putVegetable yX1_putVegetable ∈ wsL_law := List.mem_of_getElem? (i := 315) (by decide +kernel)
theorem hdV_X1_putVegetable : yX1_putVegetable.cls = RX1 ∧ yX1_putVegetable.cls ≠ "java/lang/invoke/MethodHandle" ∧ yX1_putVegetable.cls ≠ "java/lang/invoke/VarHandle" ∧ (parseMethodDescriptor yX1_putVegetable.desc).map (fun d => d.parameters.length) = some 1 := by decide +kernel
