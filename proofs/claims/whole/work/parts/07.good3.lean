set_option maxRecDepth 100000 in
theorem zg_MO_beginsAlt : z_good zprog zm_MO_beginsAlt := ⟨List.mem_of_getElem? (i := 1528) (by decide +kernel), List.mem_of_getElem? (i := 129) (by decide +kernel), by decide +kernel, by decide +kernel, by decide +kernel, by decide +kernel⟩
set_option maxRecDepth 100000 in
theorem zg_MO_write : z_good zprog zm_MO_write := ⟨List.mem_of_getElem? (i := 1532) (by decide +kernel), List.mem_of_getElem? (i := 129) (by decide +kernel), by decide +kernel, by decide +kernel, by decide +kernel, by decide +kernel⟩
set_option maxRecDepth 100000 in
theorem zg_MO_isGrammar : z_good zprog zm_MO_isGrammar := ⟨List.mem_of_getElem? (i := 1536) (by decide +kernel), List.mem_of_getElem? (i := 129) (by decide +kernel), by decide +kernel, by decide +kernel, by decide +kernel, by decide +kernel⟩
set_option maxRecDepth 100000 in
theorem zg_MO_puts : z_good zprog zm_MO_puts := ⟨List.mem_of_getElem? (i := 1540) (by decide +kernel), List.mem_of_getElem? (i := 129) (by decide +kernel), by decide +kernel, by decide +kernel, by decide +kernel, by decide +kernel⟩
set_option maxRecDepth 100000 in
theorem zg_MO_free : z_good zprog zm_MO_free := ⟨List.mem_of_getElem? (i := 1544) (by decide +kernel), List.mem_of_getElem? (i := 129) (by decide +kernel), by decide +kernel, by decide +kernel, by decide +kernel, by decide +kernel⟩
set_option maxRecDepth 100000 in
theorem zg_MO_token : z_good zprog zm_MO_token := ⟨List.mem_of_getElem? (i := 1548) (by decide +kernel), List.mem_of_getElem? (i := 129) (by decide +kernel), by decide +kernel, by decide +kernel, by decide +kernel, by decide +kernel⟩
set_option maxRecDepth 100000 in
theorem zg_MO_isToken : z_good zprog zm_MO_isToken := ⟨List.mem_of_getElem? (i := 1552) (by decide +kernel), List.mem_of_getElem? (i := 129) (by decide +kernel), by decide +kernel, by decide +kernel, by decide +kernel, by decide +kernel⟩
set_option maxRecDepth 100000 in
theorem zg_MO_tokens : z_good zprog zm_MO_tokens := ⟨List.mem_of_getElem? (i := 1556) (by decide +kernel), List.mem_of_getElem? (i := 129) (by decide +kernel), by decide +kernel, by decide +kernel, by decide +kernel, by decide +kernel⟩
set_option maxRecDepth 100000 in
theorem zg_MO_where : z_good zprog zm_MO_where := ⟨List.mem_of_getElem? (i := 1560) (by decide +kernel), List.mem_of_getElem? (i := 129) (by decide +kernel), by decide +kernel, by decide +kernel, by decide +kernel, by decide +kernel⟩
set_option maxRecDepth 100000 in
theorem zg_MO_layAll : z_good zprog zm_MO_layAll := ⟨List.mem_of_getElem? (i := 1564) (by decide +kernel), List.mem_of_getElem? (i := 129) (by decide +kernel), by decide +kernel, by decide +kernel, by decide +kernel, by decide +kernel⟩
set_option maxRecDepth 100000 in
theorem zg_MO_takeTokens : z_good zprog zm_MO_takeTokens := ⟨List.mem_of_getElem? (i := 1568) (by decide +kernel), List.mem_of_getElem? (i := 129) (by decide +kernel), by decide +kernel, by decide +kernel, by decide +kernel, by decide +kernel⟩
set_option maxRecDepth 100000 in
theorem zg_MO_layWhere : z_good zprog zm_MO_layWhere := ⟨List.mem_of_getElem? (i := 1572) (by decide +kernel), List.mem_of_getElem? (i := 129) (by decide +kernel), by decide +kernel, by decide +kernel, by decide +kernel, by decide +kernel⟩
set_option maxRecDepth 100000 in
theorem zg_MO_layEnd : z_good zprog zm_MO_layEnd := ⟨List.mem_of_getElem? (i := 1576) (by decide +kernel), List.mem_of_getElem? (i := 129) (by decide +kernel), by decide +kernel, by decide +kernel, by decide +kernel, by decide +kernel⟩
set_option maxRecDepth 100000 in
theorem zg_MO_at : z_good zprog zm_MO_at := ⟨List.mem_of_getElem? (i := 1579) (by decide +kernel), List.mem_of_getElem? (i := 129) (by decide +kernel), by decide +kernel, by decide +kernel, by decide +kernel, by decide +kernel⟩
set_option maxRecDepth 100000 in
theorem zg_MO_overAlt : z_good zprog zm_MO_overAlt := ⟨List.mem_of_getElem? (i := 1583) (by decide +kernel), List.mem_of_getElem? (i := 129) (by decide +kernel), by decide +kernel, by decide +kernel, by decide +kernel, by decide +kernel⟩
set_option maxRecDepth 100000 in
theorem zg_MO_startReach : z_good zprog zm_MO_startReach := ⟨List.mem_of_getElem? (i := 1587) (by decide +kernel), List.mem_of_getElem? (i := 129) (by decide +kernel), by decide +kernel, by decide +kernel, by decide +kernel, by decide +kernel⟩
set_option maxRecDepth 100000 in
theorem zg_MO_step : z_good zprog zm_MO_step := ⟨List.mem_of_getElem? (i := 1591) (by decide +kernel), List.mem_of_getElem? (i := 129) (by decide +kernel), by decide +kernel, by decide +kernel, by decide +kernel, by decide +kernel⟩
set_option maxRecDepth 100000 in
theorem zg_MO_whereItem : z_good zprog zm_MO_whereItem := ⟨List.mem_of_getElem? (i := 1595) (by decide +kernel), List.mem_of_getElem? (i := 129) (by decide +kernel), by decide +kernel, by decide +kernel, by decide +kernel, by decide +kernel⟩
set_option maxRecDepth 100000 in
theorem zg_MO_fits : z_good zprog zm_MO_fits := ⟨List.mem_of_getElem? (i := 1599) (by decide +kernel), List.mem_of_getElem? (i := 129) (by decide +kernel), by decide +kernel, by decide +kernel, by decide +kernel, by decide +kernel⟩
set_option maxRecDepth 100000 in
theorem zg_MO_isFitting : z_good zprog zm_MO_isFitting := ⟨List.mem_of_getElem? (i := 1603) (by decide +kernel), List.mem_of_getElem? (i := 129) (by decide +kernel), by decide +kernel, by decide +kernel, by decide +kernel, by decide +kernel⟩
set_option maxRecDepth 100000 in
theorem zg_MO_blame : z_good zprog zm_MO_blame := ⟨List.mem_of_getElem? (i := 1607) (by decide +kernel), List.mem_of_getElem? (i := 129) (by decide +kernel), by decide +kernel, by decide +kernel, by decide +kernel, by decide +kernel⟩
set_option maxRecDepth 100000 in
theorem zg_MO_blamed : z_good zprog zm_MO_blamed := ⟨List.mem_of_getElem? (i := 1611) (by decide +kernel), List.mem_of_getElem? (i := 129) (by decide +kernel), by decide +kernel, by decide +kernel, by decide +kernel, by decide +kernel⟩
set_option maxRecDepth 100000 in
theorem zg_MO_goes : z_good zprog zm_MO_goes := ⟨List.mem_of_getElem? (i := 1615) (by decide +kernel), List.mem_of_getElem? (i := 129) (by decide +kernel), by decide +kernel, by decide +kernel, by decide +kernel, by decide +kernel⟩
set_option maxRecDepth 100000 in
theorem zg_MO_openAlt : z_good zprog zm_MO_openAlt := ⟨List.mem_of_getElem? (i := 1619) (by decide +kernel), List.mem_of_getElem? (i := 129) (by decide +kernel), by decide +kernel, by decide +kernel, by decide +kernel, by decide +kernel⟩
set_option maxRecDepth 100000 in
theorem zg_MO_openItem : z_good zprog zm_MO_openItem := ⟨List.mem_of_getElem? (i := 1623) (by decide +kernel), List.mem_of_getElem? (i := 129) (by decide +kernel), by decide +kernel, by decide +kernel, by decide +kernel, by decide +kernel⟩
set_option maxRecDepth 100000 in
theorem zg_MO_goesOn : z_good zprog zm_MO_goesOn := ⟨List.mem_of_getElem? (i := 1627) (by decide +kernel), List.mem_of_getElem? (i := 129) (by decide +kernel), by decide +kernel, by decide +kernel, by decide +kernel, by decide +kernel⟩
set_option maxRecDepth 100000 in
theorem zg_MO_hint : z_good zprog zm_MO_hint := ⟨List.mem_of_getElem? (i := 1631) (by decide +kernel), List.mem_of_getElem? (i := 129) (by decide +kernel), by decide +kernel, by decide +kernel, by decide +kernel, by decide +kernel⟩
set_option maxRecDepth 100000 in
theorem zg_MO_columnsFor : z_good zprog zm_MO_columnsFor := ⟨List.mem_of_getElem? (i := 1635) (by decide +kernel), List.mem_of_getElem? (i := 129) (by decide +kernel), by decide +kernel, by decide +kernel, by decide +kernel, by decide +kernel⟩
set_option maxRecDepth 100000 in
theorem zg_MO_ones : z_good zprog zm_MO_ones := ⟨List.mem_of_getElem? (i := 1638) (by decide +kernel), List.mem_of_getElem? (i := 129) (by decide +kernel), by decide +kernel, by decide +kernel, by decide +kernel, by decide +kernel⟩
set_option maxRecDepth 100000 in
theorem zg_MO_next2 : z_good zprog zm_MO_next2 := ⟨List.mem_of_getElem? (i := 1642) (by decide +kernel), List.mem_of_getElem? (i := 129) (by decide +kernel), by decide +kernel, by decide +kernel, by decide +kernel, by decide +kernel⟩
set_option maxRecDepth 100000 in
theorem zg_MO_room : z_good zprog zm_MO_room := ⟨List.mem_of_getElem? (i := 1646) (by decide +kernel), List.mem_of_getElem? (i := 129) (by decide +kernel), by decide +kernel, by decide +kernel, by decide +kernel, by decide +kernel⟩
set_option maxRecDepth 100000 in
theorem zg_MO_nodes : z_good zprog zm_MO_nodes := ⟨List.mem_of_getElem? (i := 1650) (by decide +kernel), List.mem_of_getElem? (i := 129) (by decide +kernel), by decide +kernel, by decide +kernel, by decide +kernel, by decide +kernel⟩
set_option maxRecDepth 100000 in
theorem zg_MO_hasTree : z_good zprog zm_MO_hasTree := ⟨List.mem_of_getElem? (i := 1654) (by decide +kernel), List.mem_of_getElem? (i := 129) (by decide +kernel), by decide +kernel, by decide +kernel, by decide +kernel, by decide +kernel⟩
set_option maxRecDepth 100000 in
theorem zg_MO_layTree : z_good zprog zm_MO_layTree := ⟨List.mem_of_getElem? (i := 1658) (by decide +kernel), List.mem_of_getElem? (i := 129) (by decide +kernel), by decide +kernel, by decide +kernel, by decide +kernel, by decide +kernel⟩
set_option maxRecDepth 100000 in
theorem zg_MO_leastOf : z_good zprog zm_MO_leastOf := ⟨List.mem_of_getElem? (i := 1661) (by decide +kernel), List.mem_of_getElem? (i := 129) (by decide +kernel), by decide +kernel, by decide +kernel, by decide +kernel, by decide +kernel⟩
set_option maxRecDepth 100000 in
theorem zg_MO_waitsFor : z_good zprog zm_MO_waitsFor := ⟨List.mem_of_getElem? (i := 1665) (by decide +kernel), List.mem_of_getElem? (i := 129) (by decide +kernel), by decide +kernel, by decide +kernel, by decide +kernel, by decide +kernel⟩
set_option maxRecDepth 100000 in
theorem zg_MO_altOf : z_good zprog zm_MO_altOf := ⟨List.mem_of_getElem? (i := 1669) (by decide +kernel), List.mem_of_getElem? (i := 129) (by decide +kernel), by decide +kernel, by decide +kernel, by decide +kernel, by decide +kernel⟩
set_option maxRecDepth 100000 in
theorem zg_MO_below : z_good zprog zm_MO_below := ⟨List.mem_of_getElem? (i := 1673) (by decide +kernel), List.mem_of_getElem? (i := 129) (by decide +kernel), by decide +kernel, by decide +kernel, by decide +kernel, by decide +kernel⟩
set_option maxRecDepth 100000 in
theorem zg_MO_layEnds : z_good zprog zm_MO_layEnds := ⟨List.mem_of_getElem? (i := 1677) (by decide +kernel), List.mem_of_getElem? (i := 129) (by decide +kernel), by decide +kernel, by decide +kernel, by decide +kernel, by decide +kernel⟩
set_option maxRecDepth 100000 in
theorem zg_MO_layCan : z_good zprog zm_MO_layCan := ⟨List.mem_of_getElem? (i := 1681) (by decide +kernel), List.mem_of_getElem? (i := 129) (by decide +kernel), by decide +kernel, by decide +kernel, by decide +kernel, by decide +kernel⟩
set_option maxRecDepth 100000 in
theorem zg_MO_has : z_good zprog zm_MO_has := ⟨List.mem_of_getElem? (i := 1685) (by decide +kernel), List.mem_of_getElem? (i := 129) (by decide +kernel), by decide +kernel, by decide +kernel, by decide +kernel, by decide +kernel⟩
set_option maxRecDepth 100000 in
theorem zg_MO_fits2 : z_good zprog zm_MO_fits2 := ⟨List.mem_of_getElem? (i := 1688) (by decide +kernel), List.mem_of_getElem? (i := 129) (by decide +kernel), by decide +kernel, by decide +kernel, by decide +kernel, by decide +kernel⟩
set_option maxRecDepth 100000 in
theorem zg_MO_node : z_good zprog zm_MO_node := ⟨List.mem_of_getElem? (i := 1692) (by decide +kernel), List.mem_of_getElem? (i := 129) (by decide +kernel), by decide +kernel, by decide +kernel, by decide +kernel, by decide +kernel⟩
set_option maxRecDepth 100000 in
theorem zg_MO_isNode : z_good zprog zm_MO_isNode := ⟨List.mem_of_getElem? (i := 1697) (by decide +kernel), List.mem_of_getElem? (i := 129) (by decide +kernel), by decide +kernel, by decide +kernel, by decide +kernel, by decide +kernel⟩
set_option maxRecDepth 100000 in
theorem zg_MO_of : z_good zprog zm_MO_of := ⟨List.mem_of_getElem? (i := 1701) (by decide +kernel), List.mem_of_getElem? (i := 129) (by decide +kernel), by decide +kernel, by decide +kernel, by decide +kernel, by decide +kernel⟩
set_option maxRecDepth 100000 in
theorem zg_MO_ways : z_good zprog zm_MO_ways := ⟨List.mem_of_getElem? (i := 1705) (by decide +kernel), List.mem_of_getElem? (i := 129) (by decide +kernel), by decide +kernel, by decide +kernel, by decide +kernel, by decide +kernel⟩
set_option maxRecDepth 100000 in
theorem zg_MO_waysBy : z_good zprog zm_MO_waysBy := ⟨List.mem_of_getElem? (i := 1709) (by decide +kernel), List.mem_of_getElem? (i := 129) (by decide +kernel), by decide +kernel, by decide +kernel, by decide +kernel, by decide +kernel⟩
set_option maxRecDepth 100000 in
theorem zg_MO_extent : z_good zprog zm_MO_extent := ⟨List.mem_of_getElem? (i := 1713) (by decide +kernel), List.mem_of_getElem? (i := 129) (by decide +kernel), by decide +kernel, by decide +kernel, by decide +kernel, by decide +kernel⟩
set_option maxRecDepth 100000 in
theorem zg_MO_off : z_good zprog zm_MO_off := ⟨List.mem_of_getElem? (i := 1718) (by decide +kernel), List.mem_of_getElem? (i := 129) (by decide +kernel), by decide +kernel, by decide +kernel, by decide +kernel, by decide +kernel⟩
set_option maxRecDepth 100000 in
theorem zg_MO_covers : z_good zprog zm_MO_covers := ⟨List.mem_of_getElem? (i := 1722) (by decide +kernel), List.mem_of_getElem? (i := 129) (by decide +kernel), by decide +kernel, by decide +kernel, by decide +kernel, by decide +kernel⟩
set_option maxRecDepth 100000 in
theorem zg_MO_about : z_good zprog zm_MO_about := ⟨List.mem_of_getElem? (i := 1726) (by decide +kernel), List.mem_of_getElem? (i := 129) (by decide +kernel), by decide +kernel, by decide +kernel, by decide +kernel, by decide +kernel⟩
set_option maxRecDepth 100000 in
theorem zg_MO_tree : z_good zprog zm_MO_tree := ⟨List.mem_of_getElem? (i := 1731) (by decide +kernel), List.mem_of_getElem? (i := 129) (by decide +kernel), by decide +kernel, by decide +kernel, by decide +kernel, by decide +kernel⟩
set_option maxRecDepth 100000 in
theorem zg_MO_firstsOfTwo : z_good zprog zm_MO_firstsOfTwo := ⟨List.mem_of_getElem? (i := 1735) (by decide +kernel), List.mem_of_getElem? (i := 129) (by decide +kernel), by decide +kernel, by decide +kernel, by decide +kernel, by decide +kernel⟩
set_option maxRecDepth 100000 in
theorem zg_MO_isFirst : z_good zprog zm_MO_isFirst := ⟨List.mem_of_getElem? (i := 1739) (by decide +kernel), List.mem_of_getElem? (i := 129) (by decide +kernel), by decide +kernel, by decide +kernel, by decide +kernel, by decide +kernel⟩
set_option maxRecDepth 100000 in
theorem zg_MO_move : z_good zprog zm_MO_move := ⟨List.mem_of_getElem? (i := 1743) (by decide +kernel), List.mem_of_getElem? (i := 129) (by decide +kernel), by decide +kernel, by decide +kernel, by decide +kernel, by decide +kernel⟩
set_option maxRecDepth 100000 in
theorem zg_MO_inLine : z_good zprog zm_MO_inLine := ⟨List.mem_of_getElem? (i := 1749) (by decide +kernel), List.mem_of_getElem? (i := 129) (by decide +kernel), by decide +kernel, by decide +kernel, by decide +kernel, by decide +kernel⟩
