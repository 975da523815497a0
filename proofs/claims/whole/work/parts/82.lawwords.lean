set_option maxRecDepth 20000 in
theorem lw_w0 : (.arrayOver (.object "ClueLeave$City") : Cond) ∈ lw_tbl := List.mem_of_getElem? (i := 218) (by decide +kernel)
set_option maxRecDepth 20000 in
theorem lw_w1 : (.arrayOver (.array .int) : Cond) ∈ lw_tbl := List.mem_of_getElem? (i := 68) (by decide +kernel)
set_option maxRecDepth 20000 in
theorem lw_w2 : (.arrayClass .int : Cond) ∈ lw_tbl := List.mem_of_getElem? (i := 82) (by decide +kernel)
set_option maxRecDepth 20000 in
theorem lw_w3 : (.arrayClass .boolean : Cond) ∈ lw_tbl := List.mem_of_getElem? (i := 746) (by decide +kernel)
set_option maxRecDepth 20000 in
theorem lw_w4 : (.instantiable RX0 5 : Cond) ∈ lw_tbl := List.mem_of_getElem? (i := 106) (by decide +kernel)
set_option maxRecDepth 20000 in
theorem lw_w5 : (.instantiable RX1 2 : Cond) ∈ lw_tbl := List.mem_of_getElem? (i := 148) (by decide +kernel)
set_option maxRecDepth 20000 in
theorem lw_w6 : (.instantiable RX2 9 : Cond) ∈ lw_tbl := List.mem_of_getElem? (i := 161) (by decide +kernel)
set_option maxRecDepth 20000 in
theorem lw_w7 : (.instantiable RX3 4 : Cond) ∈ lw_tbl := List.mem_of_getElem? (i := 128) (by decide +kernel)
set_option maxRecDepth 20000 in
theorem lw_w8 : (.instantiable RX4 3 : Cond) ∈ lw_tbl := List.mem_of_getElem? (i := 62) (by decide +kernel)
set_option maxRecDepth 20000 in
theorem lw_w9 : (.instantiable RX5 5 : Cond) ∈ lw_tbl := List.mem_of_getElem? (i := 84) (by decide +kernel)
set_option maxRecDepth 20000 in
theorem lw_w10 : (.instantiable RX6 9 : Cond) ∈ lw_tbl := List.mem_of_getElem? (i := 54) (by decide +kernel)
set_option maxRecDepth 20000 in
theorem lw_w11 : (.instantiable RX7 23 : Cond) ∈ lw_tbl := List.mem_of_getElem? (i := 670) (by decide +kernel)
set_option maxRecDepth 20000 in
theorem lw_w12 : (.laysStatic "ClueLeave" "IS_ALSO" "[I" : Cond) ∈ lw_tbl := List.mem_of_getElem? (i := 618) (by decide +kernel)
set_option maxRecDepth 20000 in
theorem lw_w13 : (.initialized "ClueLeave" : Cond) ∈ lw_tbl := List.mem_of_getElem? (i := 41) (by decide +kernel)
set_option maxRecDepth 20000 in
theorem lw_w14 : (.laysStatic "ClueLeave$Asks" "SIZES" "[I" : Cond) ∈ lw_tbl := List.mem_of_getElem? (i := 632) (by decide +kernel)
set_option maxRecDepth 20000 in
theorem lw_w15 : (.initialized "ClueLeave$Asks" : Cond) ∈ lw_tbl := List.mem_of_getElem? (i := 47) (by decide +kernel)
set_option maxRecDepth 20000 in
theorem lw_w16 : (.laysStatic "ClueLeave$Asks" "MARKS" "[I" : Cond) ∈ lw_tbl := List.mem_of_getElem? (i := 634) (by decide +kernel)
set_option maxRecDepth 20000 in
theorem lw_n0 : (.methodLinkNest "ClueLeave" 18 ⟨"ClueLeave$Tape", "<init>", "()V"⟩ "ClueLeave" : Cond) ∈ lw_tbl := List.mem_of_getElem? (i := 85) (by decide +kernel)
set_option maxRecDepth 20000 in
theorem lw_n1 : (.methodLinkNest "ClueLeave" 25 ⟨"ClueLeave$Acts", "<init>", "()V"⟩ "ClueLeave" : Cond) ∈ lw_tbl := List.mem_of_getElem? (i := 107) (by decide +kernel)
set_option maxRecDepth 20000 in
theorem lw_n2 : (.methodLinkNest "ClueLeave" 32 ⟨"ClueLeave$RotaSearch", "<init>", "()V"⟩ "ClueLeave" : Cond) ∈ lw_tbl := List.mem_of_getElem? (i := 129) (by decide +kernel)
set_option maxRecDepth 20000 in
theorem lw_n3 : (.methodLinkNest "ClueLeave" 39 ⟨"ClueLeave$Asks", "<init>", "()V"⟩ "ClueLeave" : Cond) ∈ lw_tbl := List.mem_of_getElem? (i := 149) (by decide +kernel)
set_option maxRecDepth 20000 in
theorem lw_n4 : (.methodLinkNest "ClueLeave" 46 ⟨"ClueLeave$City", "<init>", "()V"⟩ "ClueLeave" : Cond) ∈ lw_tbl := List.mem_of_getElem? (i := 162) (by decide +kernel)
set_option maxRecDepth 20000 in
theorem lw_n5 : (.methodLinkNest "ClueLeave$City" 46 ⟨"ClueLeave", "isIn", "(II)Z"⟩ "ClueLeave" : Cond) ∈ lw_tbl := List.mem_of_getElem? (i := 426) (by decide +kernel)
set_option maxRecDepth 20000 in
theorem lw_n6 : (.methodLinkNest "ClueLeave$City" 77 ⟨"ClueLeave", "onlyOne", "(I)I"⟩ "ClueLeave" : Cond) ∈ lw_tbl := List.mem_of_getElem? (i := 583) (by decide +kernel)
set_option maxRecDepth 20000 in
theorem lw_n7 : (.methodLinkNest "ClueLeave$City" 80 ⟨"ClueLeave", "power", "(II)I"⟩ "ClueLeave" : Cond) ∈ lw_tbl := List.mem_of_getElem? (i := 584) (by decide +kernel)
set_option maxRecDepth 20000 in
theorem lw_n8 : (.methodLinkNest "ClueLeave$RotaSearch" 75 ⟨"ClueLeave", "isIn", "(II)Z"⟩ "ClueLeave" : Cond) ∈ lw_tbl := List.mem_of_getElem? (i := 513) (by decide +kernel)
set_option maxRecDepth 20000 in
theorem lw_n9 : (.methodLinkNest "ClueLeave$Tape" 76 ⟨"ClueLeave", "isWithin", "(III)Z"⟩ "ClueLeave" : Cond) ∈ lw_tbl := List.mem_of_getElem? (i := 355) (by decide +kernel)
theorem lw_nest : ∀ w ∈ q_nest, w ∈ lw_tbl := by
  intro w hw
  simp only [q_nest, List.mem_cons, List.not_mem_nil, or_false] at hw
  rcases hw with rfl | rfl | rfl | rfl | rfl | rfl | rfl | rfl | rfl | rfl
  · exact lw_n0
  · exact lw_n1
  · exact lw_n2
  · exact lw_n3
  · exact lw_n4
  · exact lw_n5
  · exact lw_n6
  · exact lw_n7
  · exact lw_n8
  · exact lw_n9
