set_option maxRecDepth 100000 in
theorem zg_MO_canMove : z_good zprog zm_MO_canMove := ⟨List.mem_of_getElem? (i := 1753) (by decide +kernel), List.mem_of_getElem? (i := 129) (by decide +kernel), by decide +kernel, by decide +kernel, by decide +kernel, by decide +kernel⟩
set_option maxRecDepth 100000 in
theorem zg_MO_remember : z_good zprog zm_MO_remember := ⟨List.mem_of_getElem? (i := 1757) (by decide +kernel), List.mem_of_getElem? (i := 129) (by decide +kernel), by decide +kernel, by decide +kernel, by decide +kernel, by decide +kernel⟩
set_option maxRecDepth 100000 in
theorem zg_MO_put : z_good zprog zm_MO_put := ⟨List.mem_of_getElem? (i := 1761) (by decide +kernel), List.mem_of_getElem? (i := 129) (by decide +kernel), by decide +kernel, by decide +kernel, by decide +kernel, by decide +kernel⟩
set_option maxRecDepth 100000 in
theorem zg_MO_lastLine : z_good zprog zm_MO_lastLine := ⟨List.mem_of_getElem? (i := 1765) (by decide +kernel), List.mem_of_getElem? (i := 129) (by decide +kernel), by decide +kernel, by decide +kernel, by decide +kernel, by decide +kernel⟩
set_option maxRecDepth 100000 in
theorem zg_MO_isThere : z_good zprog zm_MO_isThere := ⟨List.mem_of_getElem? (i := 1769) (by decide +kernel), List.mem_of_getElem? (i := 129) (by decide +kernel), by decide +kernel, by decide +kernel, by decide +kernel, by decide +kernel⟩
set_option maxRecDepth 100000 in
theorem zg_MO_take : z_good zprog zm_MO_take := ⟨List.mem_of_getElem? (i := 1773) (by decide +kernel), List.mem_of_getElem? (i := 129) (by decide +kernel), by decide +kernel, by decide +kernel, by decide +kernel, by decide +kernel⟩
set_option maxRecDepth 100000 in
theorem zg_MO_change : z_good zprog zm_MO_change := ⟨List.mem_of_getElem? (i := 1777) (by decide +kernel), List.mem_of_getElem? (i := 129) (by decide +kernel), by decide +kernel, by decide +kernel, by decide +kernel, by decide +kernel⟩
set_option maxRecDepth 100000 in
theorem zg_MO_part : z_good zprog zm_MO_part := ⟨List.mem_of_getElem? (i := 1781) (by decide +kernel), List.mem_of_getElem? (i := 129) (by decide +kernel), by decide +kernel, by decide +kernel, by decide +kernel, by decide +kernel⟩
set_option maxRecDepth 100000 in
theorem zg_MO_grow : z_good zprog zm_MO_grow := ⟨List.mem_of_getElem? (i := 1785) (by decide +kernel), List.mem_of_getElem? (i := 129) (by decide +kernel), by decide +kernel, by decide +kernel, by decide +kernel, by decide +kernel⟩
set_option maxRecDepth 100000 in
theorem zg_MO_drawColumn : z_good zprog zm_MO_drawColumn := ⟨List.mem_of_getElem? (i := 1790) (by decide +kernel), List.mem_of_getElem? (i := 129) (by decide +kernel), by decide +kernel, by decide +kernel, by decide +kernel, by decide +kernel⟩
set_option maxRecDepth 100000 in
theorem zg_MO_draw : z_good zprog zm_MO_draw := ⟨List.mem_of_getElem? (i := 1794) (by decide +kernel), List.mem_of_getElem? (i := 129) (by decide +kernel), by decide +kernel, by decide +kernel, by decide +kernel, by decide +kernel⟩
set_option maxRecDepth 100000 in
theorem zg_MO_beginNode : z_good zprog zm_MO_beginNode := ⟨List.mem_of_getElem? (i := 1801) (by decide +kernel), List.mem_of_getElem? (i := 129) (by decide +kernel), by decide +kernel, by decide +kernel, by decide +kernel, by decide +kernel⟩
set_option maxRecDepth 100000 in
theorem zg_MO_growItem : z_good zprog zm_MO_growItem := ⟨List.mem_of_getElem? (i := 1805) (by decide +kernel), List.mem_of_getElem? (i := 129) (by decide +kernel), by decide +kernel, by decide +kernel, by decide +kernel, by decide +kernel⟩
set_option maxRecDepth 100000 in
theorem zg_MO_growToken : z_good zprog zm_MO_growToken := ⟨List.mem_of_getElem? (i := 1809) (by decide +kernel), List.mem_of_getElem? (i := 129) (by decide +kernel), by decide +kernel, by decide +kernel, by decide +kernel, by decide +kernel⟩
set_option maxRecDepth 100000 in
theorem zg_MO_undo : z_good zprog zm_MO_undo := ⟨List.mem_of_getElem? (i := 1813) (by decide +kernel), List.mem_of_getElem? (i := 129) (by decide +kernel), by decide +kernel, by decide +kernel, by decide +kernel, by decide +kernel⟩
set_option maxRecDepth 100000 in
theorem zg_MO_repair : z_good zprog zm_MO_repair := ⟨List.mem_of_getElem? (i := 1817) (by decide +kernel), List.mem_of_getElem? (i := 129) (by decide +kernel), by decide +kernel, by decide +kernel, by decide +kernel, by decide +kernel⟩
set_option maxRecDepth 100000 in
theorem zg_MO_fitsMoved : z_good zprog zm_MO_fitsMoved := ⟨List.mem_of_getElem? (i := 1821) (by decide +kernel), List.mem_of_getElem? (i := 129) (by decide +kernel), by decide +kernel, by decide +kernel, by decide +kernel, by decide +kernel⟩
set_option maxRecDepth 100000 in
theorem zg_MO_print : z_good zprog zm_MO_print := ⟨List.mem_of_getElem? (i := 1825) (by decide +kernel), List.mem_of_getElem? (i := 129) (by decide +kernel), by decide +kernel, by decide +kernel, by decide +kernel, by decide +kernel⟩
set_option maxRecDepth 100000 in
theorem zg_MO_letter : z_good zprog zm_MO_letter := ⟨List.mem_of_getElem? (i := 1829) (by decide +kernel), List.mem_of_getElem? (i := 129) (by decide +kernel), by decide +kernel, by decide +kernel, by decide +kernel, by decide +kernel⟩
set_option maxRecDepth 100000 in
theorem zg_MO_keep : z_good zprog zm_MO_keep := ⟨List.mem_of_getElem? (i := 1833) (by decide +kernel), List.mem_of_getElem? (i := 129) (by decide +kernel), by decide +kernel, by decide +kernel, by decide +kernel, by decide +kernel⟩
set_option maxRecDepth 100000 in
theorem zg_MO_again : z_good zprog zm_MO_again := ⟨List.mem_of_getElem? (i := 1837) (by decide +kernel), List.mem_of_getElem? (i := 129) (by decide +kernel), by decide +kernel, by decide +kernel, by decide +kernel, by decide +kernel⟩
set_option maxRecDepth 100000 in
theorem zg_MO_alike : z_good zprog zm_MO_alike := ⟨List.mem_of_getElem? (i := 1841) (by decide +kernel), List.mem_of_getElem? (i := 129) (by decide +kernel), by decide +kernel, by decide +kernel, by decide +kernel, by decide +kernel⟩
set_option maxRecDepth 100000 in
theorem zg_MO_otherTree : z_good zprog zm_MO_otherTree := ⟨List.mem_of_getElem? (i := 1845) (by decide +kernel), List.mem_of_getElem? (i := 129) (by decide +kernel), by decide +kernel, by decide +kernel, by decide +kernel, by decide +kernel⟩
set_option maxRecDepth 100000 in
theorem zg_MO_count : z_good zprog zm_MO_count := ⟨List.mem_of_getElem? (i := 1849) (by decide +kernel), List.mem_of_getElem? (i := 129) (by decide +kernel), by decide +kernel, by decide +kernel, by decide +kernel, by decide +kernel⟩
set_option maxRecDepth 100000 in
theorem zg_MO_linesUsed : z_good zprog zm_MO_linesUsed := ⟨List.mem_of_getElem? (i := 1853) (by decide +kernel), List.mem_of_getElem? (i := 129) (by decide +kernel), by decide +kernel, by decide +kernel, by decide +kernel, by decide +kernel⟩
set_option maxRecDepth 100000 in
theorem zg_MO_outermost : z_good zprog zm_MO_outermost := ⟨List.mem_of_getElem? (i := 1857) (by decide +kernel), List.mem_of_getElem? (i := 129) (by decide +kernel), by decide +kernel, by decide +kernel, by decide +kernel, by decide +kernel⟩
set_option maxRecDepth 100000 in
theorem zg_Arrays_fill : z_good zprog zm_Arrays_fill := ⟨List.mem_of_getElem? (i := 904) (by decide +kernel), List.mem_of_getElem? (i := 131) (by decide +kernel), by decide +kernel, by decide +kernel, by decide +kernel, by decide +kernel⟩
set_option maxRecDepth 100000 in
theorem zg_Arrays_fill2 : z_good zprog zm_Arrays_fill2 := ⟨List.mem_of_getElem? (i := 636) (by decide +kernel), List.mem_of_getElem? (i := 131) (by decide +kernel), by decide +kernel, by decide +kernel, by decide +kernel, by decide +kernel⟩
set_option maxRecDepth 100000 in
theorem zg_Long_bitCount : z_good zprog zm_Long_bitCount := ⟨List.mem_of_getElem? (i := 821) (by decide +kernel), List.mem_of_getElem? (i := 137) (by decide +kernel), by decide +kernel, by decide +kernel, by decide +kernel, by decide +kernel⟩
