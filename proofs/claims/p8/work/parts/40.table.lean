/-! the table of methods, by program out of the claim's papers -/
def tb_GT : List Jvm.Cond := lw_tbl.filter goodWord
theorem tb_mem (i : Nat) {w : Jvm.Cond} (h : lw_tbl[i]? = some w) (g : goodWord w = true) : w ∈ tb_GT := List.mem_filter.mpr ⟨List.mem_of_getElem? h, g⟩
theorem tb_good : mx_good tb_GT := fun _ hw => good_of_word (List.mem_filter.mp hw).2
def tb_cl : List vw_C := [(RX0, TX0, 1), (RX2, TX2, 6), (RX3, TX3, 4), (RX4, TX4, 4), (RX5, TX5, 14), (RX6, TX6, 27)]
def tb_ty (ci k : Nat) : FieldType := match ci with
  | 0 => tyX0 k
  | 1 => tyX2 k
  | 2 => tyX3 k
  | 3 => tyX4 k
  | 4 => tyX5 k
  | _ => tyX6 k
def tb_NW : List Jvm.Cond := [Jvm.Cond.methodLinkNest RX5 20 yX3_init RX5, Jvm.Cond.methodLinkNest RX5 27 yX0_init RX5, Jvm.Cond.methodLinkNest RX5 34 yX2_init RX5, Jvm.Cond.methodLinkNest RX0 21 yX5_sumOf RX5, Jvm.Cond.methodLinkNest RX4 61 yX5_sumOf RX5]
theorem tb_nest : mx_nest tb_NW := by
  intro z hz
  simp only [tb_NW, List.mem_cons, List.not_mem_nil, or_false] at hz
  rcases hz with rfl | rfl | rfl | rfl | rfl <;> exact ⟨_, _, _, _, rfl⟩
def tm_J7_fill_53178 : mx_M := (yJ7_fill_53178, RJ7, cJ7_fill_53178, 4, none, 1, 2, (1, 99), [], [], [], [], [])
def tm_X0_cell : mx_M := (yX0_cell, RX0, cX0_cell, 2, (some .int), 1, 1, (0, 0), [(9, 0, 0)], [], [], [], [])
def tm_X0_init : mx_M := (yX0_init, RX0, cX0_init, 1, none, 1, 0, (2, 0), [(9, 0, 0)], [(3, 0)], [], [], [])
def tm_X0_setContent : mx_M := (yX0_setContent, RX0, cX0_setContent, 3, none, 1, 2, (0, 0), [(9, 0, 0)], [], [], [], [])
def tm_X1_twice : mx_M := (yX1_twice, RX1, cX1_twice, 2, (some .int), 1, 1, (1, 99), [], [], [], [], [])
def tm_X2_filling : mx_M := (yX2_filling, RX2, cX2_filling, 4, (some .int), 1, 2, (0, 1), [(21, 1, 3)], [], [], [], [])
def tm_X2_init : mx_M := (yX2_init, RX2, cX2_init, 1, none, 1, 0, (2, 1), [(9, 1, 0), (15, 1, 1), (18, 1, 2), (21, 1, 3)], [(3, 0)], [], [], [])
def tm_X2_note : mx_M := (yX2_note, RX2, cX2_note, 4, none, 1, 2, (0, 1), [(24, 1, 4), (9, 1, 0), (15, 1, 1), (18, 1, 2)], [], [], [], [])
def tm_X2_sectorOf : mx_M := (yX2_sectorOf, RX2, cX2_sectorOf, 2, (some .int), 1, 1, (0, 1), [(24, 1, 4), (9, 1, 0)], [], [], [], [])
def tm_X2_size : mx_M := (yX2_size, RX2, cX2_size, 1, (some .int), 1, 0, (0, 1), [(24, 1, 4)], [], [], [], [])
def tm_X3_clear : mx_M := (yX3_clear, RX3, cX3_clear, 1, none, 1, 0, (0, 2), [(22, 2, 3)], [], [], [], [])
def tm_X3_init : mx_M := (yX3_init, RX3, cX3_init, 1, none, 1, 0, (2, 2), [(9, 2, 0), (15, 2, 1), (18, 2, 2)], [(3, 0)], [], [], [])
def tm_X3_size : mx_M := (yX3_size, RX3, cX3_size, 1, (some .int), 1, 0, (0, 2), [(22, 2, 3)], [], [], [], [])
def tm_X4_cell : mx_M := (yX4_cell, RX4, cX4_cell, 4, (some .int), 1, 2, (0, 3), [(18, 3, 0), (24, 3, 1)], [], [], [], [])
def tm_X4_count : mx_M := (yX4_count, RX4, cX4_count, 1, (some .int), 1, 0, (0, 3), [(18, 3, 0)], [], [], [], [])
def tm_X4_countLost : mx_M := (yX4_countLost, RX4, cX4_countLost, 3, (some .int), 1, 0, (0, 3), [(18, 3, 0), (28, 3, 2)], [], [], [], [])
def tm_X4_has : mx_M := (yX4_has, RX4, cX4_has, 2, (some .boolean), 1, 1, (0, 3), [(18, 3, 0)], [], [], [], [])
def tm_X4_hasCell : mx_M := (yX4_hasCell, RX4, cX4_hasCell, 3, (some .boolean), 1, 2, (0, 3), [(18, 3, 0)], [], [], [], [])
def tm_X4_init : mx_M := (yX4_init, RX4, cX4_init, 2, none, 1, 1, (2, 3), [(18, 3, 0), (24, 3, 1), (28, 3, 2), (32, 3, 3)], [(3, 0), (9, 2), (15, 1)], [], [], [])
def tm_X5_blocksForLength : mx_M := (yX5_blocksForLength, RX5, cX5_blocksForLength, 1, (some .int), 1, 1, (1, 4), [], [(215, 2)], [], [], [])
def tm_X5_headSector : mx_M := (yX5_headSector, RX5, cX5_headSector, 1, (some .int), 1, 1, (1, 4), [], [], [], [], [])
def tm_X5_isInLog : mx_M := (yX5_isInLog, RX5, cX5_isInLog, 2, (some .boolean), 1, 1, (0, 4), [(50, 4, 7)], [], [], [], [])
def tm_X5_isOpen : mx_M := (yX5_isOpen, RX5, cX5_isOpen, 1, (some .boolean), 1, 0, (0, 4), [(54, 4, 11)], [], [], [], [])
def tm_X5_isRowNumber : mx_M := (yX5_isRowNumber, RX5, cX5_isRowNumber, 2, (some .boolean), 1, 1, (0, 4), [(65, 4, 8)], [], [], [], [])
def tm_X5_sumOf : mx_M := (yX5_sumOf, RX5, cX5_sumOf, 5, (some .int), 1, 2, (1, 4), [], [], [], [(274, (461845907 : Int32))], [])
def tm_X6_begin : mx_M := (yX6_begin, RX6, cX6_begin, 6, none, 1, 4, (0, 5), [(40, 5, 17)], [], [], [], [])
def tm_X6_blockAt : mx_M := (yX6_blockAt, RX6, cX6_blockAt, 3, (some .int), 1, 2, (0, 5), [(7, 5, 2)], [], [], [], [])
def tm_X6_generationAt : mx_M := (yX6_generationAt, RX6, cX6_generationAt, 3, (some .int), 1, 1, (0, 5), [(7, 5, 2)], [], [], [], [])
def tm_X6_in : mx_M := (yX6_in, RX6, cX6_in, 3, (some .boolean), 1, 3, (1, 5), [], [], [], [], [])
def tm_X6_init : mx_M := (yX6_init, RX6, cX6_init, 2, none, 1, 1, (2, 5), [(7, 5, 2), (13, 5, 3), (17, 5, 4), (21, 5, 5), (25, 5, 10), (28, 5, 12), (31, 5, 14), (34, 5, 15), (37, 5, 16), (40, 5, 17), (43, 5, 18), (46, 5, 20), (49, 5, 21), (52, 5, 22), (55, 5, 23), (58, 5, 24), (61, 5, 25), (64, 5, 26), (67, 5, 1)], [(1, 0)], [], [], [])
def tm_X6_isInLog : mx_M := (yX6_isInLog, RX6, cX6_isInLog, 2, (some .boolean), 1, 1, (0, 5), [(21, 5, 5)], [], [], [], [])
def tm_X6_sizeAt : mx_M := (yX6_sizeAt, RX6, cX6_sizeAt, 2, (some .int), 1, 1, (0, 5), [(7, 5, 2)], [], [], [], [])
def tm_X6_sumOf : mx_M := (yX6_sumOf, RX6, cX6_sumOf, 5, (some .int), 1, 2, (1, 5), [], [], [], [(77, (461845907 : Int32))], [])
def tm_X6_told : mx_M := (yX6_told, RX6, cX6_told, 4, (some .int), 1, 1, (0, 5), [(70, 5, 0), (17, 5, 4), (21, 5, 5), (100, 5, 6), (153, 5, 7), (93, 5, 13), (165, 5, 8), (125, 5, 9), (25, 5, 10), (116, 5, 11), (67, 5, 1), (13, 5, 3)], [], [], [], [])
def tm_X6_twice : mx_M := (yX6_twice, RX6, cX6_twice, 2, (some .int), 1, 1, (1, 5), [], [], [], [], [])
def tm_X6_weight : mx_M := (yX6_weight, RX6, cX6_weight, 2, (some .int), 1, 2, (1, 5), [], [], [], [], [])
def tm_X0_begin : mx_M := (yX0_begin, RX0, cX0_begin, 5, none, 2, 4, (0, 0), [(9, 0, 0)], [(15, 4)], [], [], [])
def tm_X0_seal : mx_M := (yX0_seal, RX0, cX0_seal, 3, none, 2, 0, (0, 0), [(9, 0, 0)], [(21, 28)], [], [], [])
def tm_X1_times : mx_M := (yX1_times, RX1, cX1_times, 4, (some .int), 2, 2, (1, 99), [], [(7, 8)], [], [], [])
def tm_X2_clear : mx_M := (yX2_clear, RX2, cX2_clear, 1, none, 2, 0, (0, 1), [(24, 1, 4), (15, 1, 1), (18, 1, 2)], [(28, 4)], [], [], [])
def tm_X4_content : mx_M := (yX4_content, RX4, cX4_content, 3, (some .int), 2, 2, (0, 3), [], [(35, 17)], [], [], [])
def tm_X4_copyTo : mx_M := (yX4_copyTo, RX4, cX4_copyTo, 4, none, 2, 3, (0, 3), [(24, 3, 1)], [(38, 20), (55, 3)], [], [], [])
def tm_X4_hasContentOf : mx_M := (yX4_hasContentOf, RX4, cX4_hasContentOf, 4, (some .boolean), 2, 2, (0, 3), [], [(35, 17), (42, 5)], [], [], [])
def tm_X4_isLost : mx_M := (yX4_isLost, RX4, cX4_isLost, 2, (some .boolean), 2, 1, (0, 3), [(28, 3, 2)], [(38, 20)], [], [], [])
def tm_X4_judge : mx_M := (yX4_judge, RX4, cX4_judge, 5, none, 2, 1, (0, 3), [(24, 3, 1), (32, 3, 3), (28, 3, 2)], [(38, 20), (35, 17), (61, 28)], [], [], [])
def tm_X4_markLost : mx_M := (yX4_markLost, RX4, cX4_markLost, 2, none, 2, 1, (0, 3), [(28, 3, 2), (32, 3, 3)], [(38, 20)], [], [], [])
def tm_X4_wholeSort : mx_M := (yX4_wholeSort, RX4, cX4_wholeSort, 2, (some .int), 2, 1, (0, 3), [(32, 3, 3)], [(38, 20)], [], [], [])
def tm_X5_add : mx_M := (yX5_add, RX5, cX5_add, 5, (some .int), 2, 2, (0, 4), [(46, 4, 6), (54, 4, 11), (39, 4, 4)], [(57, 26)], [], [], [])
def tm_X5_init : mx_M := (yX5_init, RX5, cX5_init, 2, none, 2, 1, (2, 4), [(12, 4, 0), (21, 4, 1), (28, 4, 2), (35, 4, 3), (39, 4, 4), (43, 4, 5), (46, 4, 6), (50, 4, 7), (54, 4, 11)], [(1, 0), (9, 22), (20, 15), (27, 6), (34, 10)], [(7, 3), (18, 2), (25, 0), (32, 1)], [], [])
def tm_X5_lengthOfRow : mx_M := (yX5_lengthOfRow, RX5, cX5_lengthOfRow, 2, (some .int), 2, 1, (0, 4), [(12, 4, 0)], [(170, 17)], [], [], [])
def tm_X5_octet : mx_M := (yX5_octet, RX5, cX5_octet, 3, (some .int), 2, 2, (0, 4), [(12, 4, 0)], [(185, 21), (170, 17)], [], [], [])
def tm_X5_sectorsLeft : mx_M := (yX5_sectorsLeft, RX5, cX5_sectorsLeft, 1, (some .int), 2, 0, (0, 4), [(12, 4, 0), (50, 4, 7)], [(205, 18)], [], [], [])
def tm_X5_told : mx_M := (yX5_told, RX5, cX5_told, 2, (some .int), 2, 1, (0, 4), [(46, 4, 6), (50, 4, 7), (65, 4, 8), (109, 4, 9), (21, 4, 1), (144, 4, 12), (199, 4, 13), (54, 4, 11), (12, 4, 0)], [(125, 16), (202, 19), (205, 18)], [], [], [])
def tm_X6_add : mx_M := (yX6_add, RX6, cX6_add, 5, (some .int), 2, 2, (0, 5), [(70, 5, 0), (17, 5, 4), (25, 5, 10), (116, 5, 11), (28, 5, 12)], [(73, 32)], [], [], [(119, (255 : Int64))])
def tm_X6_blocksAt : mx_M := (yX6_blocksAt, RX6, cX6_blocksAt, 2, (some .int), 2, 1, (0, 5), [], [(103, 35)], [], [], [])
def tm_X6_head : mx_M := (yX6_head, RX6, cX6_head, 3, none, 2, 1, (0, 5), [(40, 5, 17), (21, 5, 5), (100, 5, 6)], [(121, 29)], [], [], [])
def tm_X6_isRow : mx_M := (yX6_isRow, RX6, cX6_isRow, 2, (some .boolean), 2, 1, (0, 5), [(100, 5, 6)], [(73, 32)], [], [], [])
def tm_X6_isSector : mx_M := (yX6_isSector, RX6, cX6_isSector, 2, (some .boolean), 2, 1, (0, 5), [(67, 5, 1)], [(73, 32)], [], [], [])
def tm_X6_open : mx_M := (yX6_open, RX6, cX6_open, 2, (some .int), 2, 1, (0, 5), [(70, 5, 0), (17, 5, 4), (25, 5, 10), (67, 5, 1), (21, 5, 5), (100, 5, 6), (116, 5, 11)], [(73, 32)], [], [], [])
def tm_X6_product : mx_M := (yX6_product, RX6, cX6_product, 5, (some .int), 2, 2, (1, 5), [], [(135, 38)], [], [], [])
def tm_X6_seal : mx_M := (yX6_seal, RX6, cX6_seal, 3, none, 2, 0, (0, 5), [(40, 5, 17)], [(78, 36)], [], [], [])
def tm_X6_sortOf : mx_M := (yX6_sortOf, RX6, cX6_sortOf, 4, (some .int), 2, 1, (0, 5), [(7, 5, 2), (13, 5, 3)], [(73, 32), (78, 36)], [], [], [])
def tm_X1_inverse : mx_M := (yX1_inverse, RX1, cX1_inverse, 2, (some .int), 3, 1, (1, 99), [], [(13, 42)], [], [], [])
def tm_X2_solve : mx_M := (yX2_solve, RX2, cX2_solve, 6, (some .boolean), 3, 3, (0, 1), [(24, 1, 4), (18, 1, 2), (15, 1, 1), (21, 1, 3), (44, 1, 5)], [(34, 42)], [], [], [])
def tm_X3_note : mx_M := (yX3_note, RX3, cX3_note, 3, none, 3, 2, (0, 2), [(22, 2, 3), (9, 2, 0), (18, 2, 2), (15, 2, 1)], [(26, 47), (32, 45)], [], [], [])
def tm_X4_flip : mx_M := (yX4_flip, RX4, cX4_flip, 4, none, 3, 3, (0, 3), [(24, 3, 1)], [(47, 21), (51, 48)], [], [], [])
def tm_X4_store : mx_M := (yX4_store, RX4, cX4_store, 5, none, 3, 3, (0, 3), [(24, 3, 1), (28, 3, 2)], [(38, 20), (42, 5), (51, 48)], [], [], [])
def tm_X4_takeBack : mx_M := (yX4_takeBack, RX4, cX4_takeBack, 6, none, 3, 5, (0, 3), [(24, 3, 1), (28, 3, 2)], [(47, 21), (55, 3), (51, 48)], [], [], [])
def tm_X5_blocksOfRow : mx_M := (yX5_blocksOfRow, RX5, cX5_blocksOfRow, 2, (some .int), 3, 1, (0, 4), [], [(150, 53), (77, 23)], [], [], [])
def tm_X5_draftHead : mx_M := (yX5_draftHead, RX5, cX5_draftHead, 3, none, 3, 1, (0, 4), [(28, 4, 2), (50, 4, 7), (65, 4, 8)], [(84, 40), (88, 7), (231, 41)], [], [], [])
def tm_X5_extendLog : mx_M := (yX5_extendLog, RX5, cX5_extendLog, 2, none, 3, 0, (0, 4), [(12, 4, 0), (50, 4, 7)], [(205, 18), (193, 50)], [], [], [])
def tm_X5_findRow : mx_M := (yX5_findRow, RX5, cX5_findRow, 3, (some .int), 3, 1, (0, 4), [(50, 4, 7), (12, 4, 0)], [(193, 50), (170, 17), (150, 53)], [], [], [])
def tm_X5_findSymbol : mx_M := (yX5_findSymbol, RX5, cX5_findSymbol, 4, (some .int), 3, 2, (0, 4), [(50, 4, 7), (12, 4, 0)], [(193, 50), (170, 17)], [], [], [])
def tm_X5_generationIn : mx_M := (yX5_generationIn, RX5, cX5_generationIn, 4, (some .int), 3, 1, (0, 4), [(12, 4, 0)], [(160, 44)], [], [], [])
def tm_X5_isBlock : mx_M := (yX5_isBlock, RX5, cX5_isBlock, 2, (some .boolean), 3, 1, (0, 4), [(12, 4, 0)], [(208, 25), (193, 50)], [], [], [])
def tm_X5_isHead : mx_M := (yX5_isHead, RX5, cX5_isHead, 3, (some .boolean), 3, 1, (0, 4), [(12, 4, 0)], [(160, 44), (193, 50), (205, 18)], [], [], [])
def tm_X5_lose : mx_M := (yX5_lose, RX5, cX5_lose, 2, (some .int), 3, 1, (0, 4), [(12, 4, 0)], [(176, 20), (179, 47), (182, 49)], [], [], [])
def tm_X5_open : mx_M := (yX5_open, RX5, cX5_open, 2, (some .int), 3, 1, (0, 4), [(46, 4, 6), (65, 4, 8), (39, 4, 4), (74, 4, 10), (54, 4, 11)], [(57, 26), (61, 55), (68, 4)], [], [], [])
def tm_X5_whole : mx_M := (yX5_whole, RX5, cX5_whole, 2, (some .int), 3, 1, (0, 4), [(12, 4, 0)], [(176, 20), (193, 50)], [], [], [])
def tm_X6_isBlock : mx_M := (yX6_isBlock, RX6, cX6_isBlock, 2, (some .boolean), 3, 1, (0, 5), [], [(82, 34), (86, 65)], [], [], [])
def tm_X6_isHead : mx_M := (yX6_isHead, RX6, cX6_isHead, 2, (some .boolean), 3, 1, (0, 5), [(7, 5, 2), (67, 5, 1)], [(86, 65), (73, 32)], [], [], [])
def tm_X6_lose : mx_M := (yX6_lose, RX6, cX6_lose, 3, (some .int), 3, 1, (0, 5), [(70, 5, 0), (13, 5, 3)], [(200, 61)], [], [], [])
def tm_X6_octet : mx_M := (yX6_octet, RX6, cX6_octet, 3, (some .int), 3, 2, (0, 5), [(70, 5, 0), (7, 5, 2)], [(200, 61), (73, 32)], [], [], [])
def tm_X6_poke : mx_M := (yX6_poke, RX6, cX6_poke, 4, (some .int), 3, 3, (0, 5), [(70, 5, 0), (7, 5, 2)], [(200, 61), (73, 32)], [], [], [])
def tm_X6_quotient : mx_M := (yX6_quotient, RX6, cX6_quotient, 3, (some .int), 3, 2, (1, 5), [], [(138, 63)], [], [], [])
def tm_X6_sectorOf : mx_M := (yX6_sectorOf, RX6, cX6_sectorOf, 4, (some .int), 3, 1, (0, 5), [(21, 5, 5), (7, 5, 2)], [(86, 65)], [], [], [])
def tm_X6_symbolOf : mx_M := (yX6_symbolOf, RX6, cX6_symbolOf, 5, (some .int), 3, 2, (0, 5), [(21, 5, 5), (7, 5, 2)], [(86, 65)], [], [], [])
def tm_X6_whole : mx_M := (yX6_whole, RX6, cX6_whole, 2, (some .int), 3, 1, (0, 5), [(70, 5, 0)], [(200, 61), (86, 65)], [], [], [])
def tm_X6_write : mx_M := (yX6_write, RX6, cX6_write, 3, none, 3, 1, (0, 5), [(31, 5, 14), (93, 5, 13), (37, 5, 16), (13, 5, 3), (34, 5, 15), (7, 5, 2), (40, 5, 17)], [(90, 64)], [], [], [])
def tm_X2_prepare : mx_M := (yX2_prepare, RX2, cX2_prepare, 4, (some .boolean), 4, 2, (0, 1), [(24, 1, 4), (15, 1, 1), (18, 1, 2), (44, 1, 5)], [(28, 4), (34, 42), (40, 66)], [], [], [])
def tm_X3_undoBehind : mx_M := (yX3_undoBehind, RX3, cX3_undoBehind, 5, none, 4, 3, (0, 2), [(22, 2, 3), (9, 2, 0), (15, 2, 1), (18, 2, 2)], [(36, 71)], [], [], [])
def tm_X5_at : mx_M := (yX5_at, RX5, cX5_at, 5, (some .int), 4, 2, (0, 4), [(46, 4, 6), (12, 4, 0)], [(95, 27), (99, 75), (150, 53), (160, 44), (164, 78)], [], [], [])
def tm_X5_chooseHead : mx_M := (yX5_chooseHead, RX5, cX5_chooseHead, 1, (some .int), 4, 0, (0, 4), [], [(238, 79), (241, 77)], [], [], [])
def tm_X5_collectGaps : mx_M := (yX5_collectGaps, RX5, cX5_collectGaps, 6, (some .boolean), 4, 1, (0, 4), [(35, 4, 3), (12, 4, 0)], [(264, 43), (167, 72), (160, 44), (208, 25), (164, 78), (265, 11), (220, 8), (267, 13)], [], [], [])
def tm_X5_countMissing : mx_M := (yX5_countMissing, RX5, cX5_countMissing, 5, (some .int), 4, 1, (0, 4), [(12, 4, 0)], [(167, 72), (160, 44), (164, 78)], [], [], [])
def tm_X5_countRows : mx_M := (yX5_countRows, RX5, cX5_countRows, 2, none, 4, 0, (0, 4), [(65, 4, 8)], [(99, 75)], [], [], [])
def tm_X5_fillGaps : mx_M := (yX5_fillGaps, RX5, cX5_fillGaps, 4, none, 4, 0, (0, 4), [(35, 4, 3), (28, 4, 2), (12, 4, 0), (144, 4, 12)], [(267, 13), (84, 40), (268, 9), (88, 7), (231, 41), (271, 12), (118, 70)], [], [], [])
def tm_X5_findDraftedBlock : mx_M := (yX5_findDraftedBlock, RX5, cX5_findDraftedBlock, 2, (some .int), 4, 0, (0, 4), [(50, 4, 7), (12, 4, 0), (28, 4, 2)], [(164, 78), (211, 46)], [], [], [])
def tm_X5_poke : mx_M := (yX5_poke, RX5, cX5_poke, 4, (some .int), 4, 3, (0, 4), [(12, 4, 0)], [(185, 21), (189, 69), (170, 17)], [], [], [])
def tm_X5_symbolByte : mx_M := (yX5_symbolByte, RX5, cX5_symbolByte, 8, (some .int), 4, 3, (0, 4), [(12, 4, 0)], [(167, 72), (160, 44), (164, 78), (220, 8)], [], [], [])
def tm_X5_sync : mx_M := (yX5_sync, RX5, cX5_sync, 1, (some .int), 4, 0, (0, 4), [(46, 4, 6), (109, 4, 9), (12, 4, 0), (28, 4, 2), (21, 4, 1)], [(112, 73), (115, 24), (118, 70), (122, 14)], [], [], [])
def tm_X5_tearHead : mx_M := (yX5_tearHead, RX5, cX5_tearHead, 3, none, 4, 1, (0, 4), [(109, 4, 9), (12, 4, 0), (28, 4, 2)], [(112, 73), (115, 24), (118, 70)], [], [], [])
def tm_X5_writeNext : mx_M := (yX5_writeNext, RX5, cX5_writeNext, 1, (some .int), 4, 0, (0, 4), [(12, 4, 0), (50, 4, 7), (28, 4, 2), (21, 4, 1)], [(176, 20), (231, 41), (234, 68), (118, 70)], [], [], [])
def tm_X6_append : mx_M := (yX6_append, RX6, cX6_append, 1, (some .int), 4, 0, (0, 5), [(21, 5, 5)], [(96, 92)], [], [], [])
def tm_X6_at : mx_M := (yX6_at, RX6, cX6_at, 5, (some .int), 4, 2, (0, 5), [(70, 5, 0), (17, 5, 4), (7, 5, 2)], [(141, 60), (144, 89), (103, 35), (109, 30), (113, 83)], [], [], [])
def tm_X6_cut : mx_M := (yX6_cut, RX6, cX6_cut, 6, (some .int), 4, 2, (0, 5), [(70, 5, 0), (93, 5, 13), (17, 5, 4), (153, 5, 7), (31, 5, 14), (7, 5, 2), (34, 5, 15), (13, 5, 3), (37, 5, 16), (25, 5, 10)], [(73, 32), (156, 59), (96, 92)], [], [], [])
def tm_X6_fill : mx_M := (yX6_fill, RX6, cX6_fill, 4, none, 4, 2, (0, 5), [(40, 5, 17), (93, 5, 13), (165, 5, 8)], [(121, 29), (96, 92)], [], [], [])
def tm_X6_findRest : mx_M := (yX6_findRest, RX6, cX6_findRest, 9, none, 4, 4, (0, 5), [(7, 5, 2)], [(106, 58), (109, 30), (113, 83), (150, 39), (138, 63)], [], [], [])
def tm_X6_findUnknown : mx_M := (yX6_findUnknown, RX6, cX6_findUnknown, 6, (some .boolean), 4, 1, (0, 5), [(172, 5, 19), (46, 5, 20), (49, 5, 21), (52, 5, 22)], [(106, 58), (109, 30), (113, 83), (82, 34), (150, 39)], [], [], [])
def tm_X6_isOne : mx_M := (yX6_isOne, RX6, cX6_isOne, 7, (some .boolean), 4, 2, (0, 5), [(49, 5, 21), (52, 5, 22), (61, 5, 25), (55, 5, 23), (58, 5, 24)], [(175, 88), (138, 63)], [], [], [])
def tm_X6_isTwo : mx_M := (yX6_isTwo, RX6, cX6_isTwo, 4, (some .boolean), 4, 1, (0, 5), [(49, 5, 21), (52, 5, 22), (61, 5, 25), (55, 5, 23), (58, 5, 24), (64, 5, 26)], [(138, 63), (175, 88)], [], [], [])
def tm_X6_missingAt : mx_M := (yX6_missingAt, RX6, cX6_missingAt, 4, (some .int), 4, 1, (0, 5), [], [(106, 58), (109, 30), (113, 83)], [], [], [])
def tm_X6_sync : mx_M := (yX6_sync, RX6, cX6_sync, 1, (some .int), 4, 0, (0, 5), [(70, 5, 0), (17, 5, 4), (153, 5, 7), (93, 5, 13)], [(156, 59), (96, 92)], [], [], [])
def tm_X5_cut : mx_M := (yX5_cut, RX5, cX5_cut, 3, (some .int), 5, 2, (0, 4), [(21, 4, 1), (46, 4, 6), (12, 4, 0), (54, 4, 11)], [(125, 16), (128, 105), (131, 94)], [], [], [])
def tm_X5_isHurt : mx_M := (yX5_isHurt, RX5, cX5_isHurt, 3, (some .boolean), 5, 1, (0, 4), [], [(99, 75), (102, 98)], [], [], [])
def tm_X5_placeOpenBlock : mx_M := (yX5_placeOpenBlock, RX5, cX5_placeOpenBlock, 4, (some .int), 5, 1, (0, 4), [(28, 4, 2), (39, 4, 4), (199, 4, 13)], [(84, 40), (88, 7), (225, 101), (92, 106)], [], [], [])
def tm_X5_readHead : mx_M := (yX5_readHead, RX5, cX5_readHead, 2, none, 5, 0, (0, 4), [(109, 4, 9), (12, 4, 0), (50, 4, 7), (65, 4, 8)], [(244, 96), (241, 77), (160, 44)], [], [], [])
def tm_X5_repairRow : mx_M := (yX5_repairRow, RX5, cX5_repairRow, 8, none, 5, 1, (0, 4), [(35, 4, 3), (12, 4, 0)], [(99, 75), (250, 97), (173, 76), (253, 93), (160, 44), (228, 103), (257, 67), (261, 100)], [], [], [])
def tm_X5_row : mx_M := (yX5_row, RX5, cX5_row, 6, (some .int), 5, 2, (0, 4), [(46, 4, 6), (12, 4, 0)], [(95, 27), (99, 75), (167, 72), (160, 44), (170, 17), (150, 53), (173, 76), (102, 98)], [], [], [])
def tm_X5_writeSymbol : mx_M := (yX5_writeSymbol, RX5, cX5_writeSymbol, 5, (some .int), 5, 3, (0, 4), [(28, 4, 2)], [(84, 40), (228, 103), (88, 7), (92, 106)], [], [], [])
def tm_X6_blockFor : mx_M := (yX6_blockFor, RX6, cX6_blockFor, 5, (some .int), 5, 1, (0, 5), [(40, 5, 17), (116, 5, 11), (28, 5, 12), (21, 5, 5), (7, 5, 2), (125, 5, 9)], [(121, 29), (86, 65), (128, 107)], [], [], [])
def tm_X6_listed : mx_M := (yX6_listed, RX6, cX6_listed, 5, (some .int), 5, 1, (0, 5), [(70, 5, 0), (100, 5, 6), (17, 5, 4)], [(144, 89), (147, 115)], [], [], [])
def tm_X6_protect : mx_M := (yX6_protect, RX6, cX6_protect, 9, (some .int), 5, 2, (0, 5), [(70, 5, 0), (17, 5, 4), (67, 5, 1), (21, 5, 5), (25, 5, 10), (40, 5, 17), (7, 5, 2)], [(141, 60), (73, 32), (144, 89), (147, 115), (121, 29), (106, 58), (109, 30), (150, 39), (138, 63), (128, 107)], [], [], [])
def tm_X6_repairs : mx_M := (yX6_repairs, RX6, cX6_repairs, 6, (some .boolean), 5, 2, (0, 5), [(172, 5, 19), (55, 5, 23), (58, 5, 24), (46, 5, 20), (61, 5, 25), (64, 5, 26)], [(178, 112), (181, 90), (184, 111), (188, 113), (192, 114), (196, 110)], [], [], [])
def tm_X6_row : mx_M := (yX6_row, RX6, cX6_row, 4, (some .int), 5, 2, (0, 5), [(70, 5, 0), (17, 5, 4), (7, 5, 2)], [(141, 60), (73, 32), (144, 89), (103, 35), (181, 90), (106, 58), (147, 115), (109, 30)], [], [], [])
def tm_X5_end : mx_M := (yX5_end, RX5, cX5_end, 3, (some .int), 6, 0, (0, 4), [(46, 4, 6), (54, 4, 11), (43, 4, 5), (28, 4, 2), (74, 4, 10), (65, 4, 8)], [(57, 26), (77, 23), (81, 119), (84, 40), (88, 7), (92, 106)], [], [], [])
def tm_X5_listed : mx_M := (yX5_listed, RX5, cX5_listed, 4, (some .int), 6, 1, (0, 4), [(46, 4, 6), (65, 4, 8)], [(196, 118)], [], [], [])
def tm_X5_protect : mx_M := (yX5_protect, RX5, cX5_protect, 5, (some .int), 6, 2, (0, 4), [(46, 4, 6)], [(95, 27), (99, 75), (102, 98), (61, 55), (57, 26), (105, 123)], [], [], [])
def tm_X5_repairAll : mx_M := (yX5_repairAll, RX5, cX5_repairAll, 4, none, 6, 0, (0, 4), [(144, 4, 12), (65, 4, 8)], [(247, 121)], [], [], [])
def tm_X6_end : mx_M := (yX6_end, RX6, cX6_end, 3, (some .int), 6, 0, (0, 5), [(70, 5, 0), (17, 5, 4), (25, 5, 10), (116, 5, 11), (43, 5, 18), (100, 5, 6), (40, 5, 17)], [(132, 124), (121, 29), (128, 107)], [], [], [])
def tm_X6_start : mx_M := (yX6_start, RX6, cX6_start, 7, (some .int), 6, 0, (0, 5), [(70, 5, 0), (17, 5, 4), (153, 5, 7), (7, 5, 2), (21, 5, 5), (100, 5, 6), (67, 5, 1), (165, 5, 8), (93, 5, 13)], [(159, 84), (162, 31), (86, 65), (144, 89), (168, 127)], [], [], [])
def tm_X5_start : mx_M := (yX5_start, RX5, cX5_start, 1, (some .int), 7, 0, (0, 4), [(46, 4, 6), (144, 4, 12), (21, 4, 1), (65, 4, 8)], [(135, 120), (138, 74), (141, 99), (147, 132), (122, 14)], [], [], [])
def tb_rows : List mx_M := [tm_J7_fill_53178, tm_X0_cell, tm_X0_init, tm_X0_setContent, tm_X1_twice, tm_X2_filling, tm_X2_init, tm_X2_note, tm_X2_sectorOf, tm_X2_size, tm_X3_clear, tm_X3_init, tm_X3_size, tm_X4_cell, tm_X4_count, tm_X4_countLost, tm_X4_has, tm_X4_hasCell, tm_X4_init, tm_X5_blocksForLength, tm_X5_headSector, tm_X5_isInLog, tm_X5_isOpen, tm_X5_isRowNumber, tm_X5_sumOf, tm_X6_begin, tm_X6_blockAt, tm_X6_generationAt, tm_X6_in, tm_X6_init, tm_X6_isInLog, tm_X6_sizeAt, tm_X6_sumOf, tm_X6_told, tm_X6_twice, tm_X6_weight, tm_X0_begin, tm_X0_seal, tm_X1_times, tm_X2_clear, tm_X4_content, tm_X4_copyTo, tm_X4_hasContentOf, tm_X4_isLost, tm_X4_judge, tm_X4_markLost, tm_X4_wholeSort, tm_X5_add, tm_X5_init, tm_X5_lengthOfRow, tm_X5_octet, tm_X5_sectorsLeft, tm_X5_told, tm_X6_add, tm_X6_blocksAt, tm_X6_head, tm_X6_isRow, tm_X6_isSector, tm_X6_open, tm_X6_product, tm_X6_seal, tm_X6_sortOf, tm_X1_inverse, tm_X2_solve, tm_X3_note, tm_X4_flip, tm_X4_store, tm_X4_takeBack, tm_X5_blocksOfRow, tm_X5_draftHead, tm_X5_extendLog, tm_X5_findRow, tm_X5_findSymbol, tm_X5_generationIn, tm_X5_isBlock, tm_X5_isHead, tm_X5_lose, tm_X5_open, tm_X5_whole, tm_X6_isBlock, tm_X6_isHead, tm_X6_lose, tm_X6_octet, tm_X6_poke, tm_X6_quotient, tm_X6_sectorOf, tm_X6_symbolOf, tm_X6_whole, tm_X6_write, tm_X2_prepare, tm_X3_undoBehind, tm_X5_at, tm_X5_chooseHead, tm_X5_collectGaps, tm_X5_countMissing, tm_X5_countRows, tm_X5_fillGaps, tm_X5_findDraftedBlock, tm_X5_poke, tm_X5_symbolByte, tm_X5_sync, tm_X5_tearHead, tm_X5_writeNext, tm_X6_append, tm_X6_at, tm_X6_cut, tm_X6_fill, tm_X6_findRest, tm_X6_findUnknown, tm_X6_isOne, tm_X6_isTwo, tm_X6_missingAt, tm_X6_sync, tm_X5_cut, tm_X5_isHurt, tm_X5_placeOpenBlock, tm_X5_readHead, tm_X5_repairRow, tm_X5_row, tm_X5_writeSymbol, tm_X6_blockFor, tm_X6_listed, tm_X6_protect, tm_X6_repairs, tm_X6_row, tm_X5_end, tm_X5_listed, tm_X5_protect, tm_X5_repairAll, tm_X6_end, tm_X6_start, tm_X5_start]
def tb_MT (n : Nat) : Option mx_M := match n with
  | k + 4 => tb_rows[k]?
  | _ => none
theorem tn_J7_fill_53178 : tb_MT 4 = some tm_J7_fill_53178 := rfl
theorem tn_X0_cell : tb_MT 5 = some tm_X0_cell := rfl
theorem tn_X0_init : tb_MT 6 = some tm_X0_init := rfl
theorem tn_X0_setContent : tb_MT 7 = some tm_X0_setContent := rfl
theorem tn_X1_twice : tb_MT 8 = some tm_X1_twice := rfl
theorem tn_X2_filling : tb_MT 9 = some tm_X2_filling := rfl
theorem tn_X2_init : tb_MT 10 = some tm_X2_init := rfl
theorem tn_X2_note : tb_MT 11 = some tm_X2_note := rfl
theorem tn_X2_sectorOf : tb_MT 12 = some tm_X2_sectorOf := rfl
theorem tn_X2_size : tb_MT 13 = some tm_X2_size := rfl
theorem tn_X3_clear : tb_MT 14 = some tm_X3_clear := rfl
theorem tn_X3_init : tb_MT 15 = some tm_X3_init := rfl
theorem tn_X3_size : tb_MT 16 = some tm_X3_size := rfl
theorem tn_X4_cell : tb_MT 17 = some tm_X4_cell := rfl
theorem tn_X4_count : tb_MT 18 = some tm_X4_count := rfl
theorem tn_X4_countLost : tb_MT 19 = some tm_X4_countLost := rfl
theorem tn_X4_has : tb_MT 20 = some tm_X4_has := rfl
theorem tn_X4_hasCell : tb_MT 21 = some tm_X4_hasCell := rfl
theorem tn_X4_init : tb_MT 22 = some tm_X4_init := rfl
theorem tn_X5_blocksForLength : tb_MT 23 = some tm_X5_blocksForLength := rfl
theorem tn_X5_headSector : tb_MT 24 = some tm_X5_headSector := rfl
theorem tn_X5_isInLog : tb_MT 25 = some tm_X5_isInLog := rfl
theorem tn_X5_isOpen : tb_MT 26 = some tm_X5_isOpen := rfl
theorem tn_X5_isRowNumber : tb_MT 27 = some tm_X5_isRowNumber := rfl
theorem tn_X5_sumOf : tb_MT 28 = some tm_X5_sumOf := rfl
theorem tn_X6_begin : tb_MT 29 = some tm_X6_begin := rfl
theorem tn_X6_blockAt : tb_MT 30 = some tm_X6_blockAt := rfl
theorem tn_X6_generationAt : tb_MT 31 = some tm_X6_generationAt := rfl
theorem tn_X6_in : tb_MT 32 = some tm_X6_in := rfl
theorem tn_X6_init : tb_MT 33 = some tm_X6_init := rfl
theorem tn_X6_isInLog : tb_MT 34 = some tm_X6_isInLog := rfl
theorem tn_X6_sizeAt : tb_MT 35 = some tm_X6_sizeAt := rfl
theorem tn_X6_sumOf : tb_MT 36 = some tm_X6_sumOf := rfl
theorem tn_X6_told : tb_MT 37 = some tm_X6_told := rfl
theorem tn_X6_twice : tb_MT 38 = some tm_X6_twice := rfl
theorem tn_X6_weight : tb_MT 39 = some tm_X6_weight := rfl
theorem tn_X0_begin : tb_MT 40 = some tm_X0_begin := rfl
theorem tn_X0_seal : tb_MT 41 = some tm_X0_seal := rfl
theorem tn_X1_times : tb_MT 42 = some tm_X1_times := rfl
theorem tn_X2_clear : tb_MT 43 = some tm_X2_clear := rfl
theorem tn_X4_content : tb_MT 44 = some tm_X4_content := rfl
theorem tn_X4_copyTo : tb_MT 45 = some tm_X4_copyTo := rfl
theorem tn_X4_hasContentOf : tb_MT 46 = some tm_X4_hasContentOf := rfl
theorem tn_X4_isLost : tb_MT 47 = some tm_X4_isLost := rfl
theorem tn_X4_judge : tb_MT 48 = some tm_X4_judge := rfl
theorem tn_X4_markLost : tb_MT 49 = some tm_X4_markLost := rfl
theorem tn_X4_wholeSort : tb_MT 50 = some tm_X4_wholeSort := rfl
theorem tn_X5_add : tb_MT 51 = some tm_X5_add := rfl
theorem tn_X5_init : tb_MT 52 = some tm_X5_init := rfl
theorem tn_X5_lengthOfRow : tb_MT 53 = some tm_X5_lengthOfRow := rfl
theorem tn_X5_octet : tb_MT 54 = some tm_X5_octet := rfl
theorem tn_X5_sectorsLeft : tb_MT 55 = some tm_X5_sectorsLeft := rfl
theorem tn_X5_told : tb_MT 56 = some tm_X5_told := rfl
theorem tn_X6_add : tb_MT 57 = some tm_X6_add := rfl
theorem tn_X6_blocksAt : tb_MT 58 = some tm_X6_blocksAt := rfl
theorem tn_X6_head : tb_MT 59 = some tm_X6_head := rfl
theorem tn_X6_isRow : tb_MT 60 = some tm_X6_isRow := rfl
theorem tn_X6_isSector : tb_MT 61 = some tm_X6_isSector := rfl
theorem tn_X6_open : tb_MT 62 = some tm_X6_open := rfl
theorem tn_X6_product : tb_MT 63 = some tm_X6_product := rfl
theorem tn_X6_seal : tb_MT 64 = some tm_X6_seal := rfl
theorem tn_X6_sortOf : tb_MT 65 = some tm_X6_sortOf := rfl
theorem tn_X1_inverse : tb_MT 66 = some tm_X1_inverse := rfl
theorem tn_X2_solve : tb_MT 67 = some tm_X2_solve := rfl
theorem tn_X3_note : tb_MT 68 = some tm_X3_note := rfl
theorem tn_X4_flip : tb_MT 69 = some tm_X4_flip := rfl
theorem tn_X4_store : tb_MT 70 = some tm_X4_store := rfl
theorem tn_X4_takeBack : tb_MT 71 = some tm_X4_takeBack := rfl
theorem tn_X5_blocksOfRow : tb_MT 72 = some tm_X5_blocksOfRow := rfl
theorem tn_X5_draftHead : tb_MT 73 = some tm_X5_draftHead := rfl
theorem tn_X5_extendLog : tb_MT 74 = some tm_X5_extendLog := rfl
theorem tn_X5_findRow : tb_MT 75 = some tm_X5_findRow := rfl
theorem tn_X5_findSymbol : tb_MT 76 = some tm_X5_findSymbol := rfl
theorem tn_X5_generationIn : tb_MT 77 = some tm_X5_generationIn := rfl
theorem tn_X5_isBlock : tb_MT 78 = some tm_X5_isBlock := rfl
theorem tn_X5_isHead : tb_MT 79 = some tm_X5_isHead := rfl
theorem tn_X5_lose : tb_MT 80 = some tm_X5_lose := rfl
theorem tn_X5_open : tb_MT 81 = some tm_X5_open := rfl
theorem tn_X5_whole : tb_MT 82 = some tm_X5_whole := rfl
theorem tn_X6_isBlock : tb_MT 83 = some tm_X6_isBlock := rfl
theorem tn_X6_isHead : tb_MT 84 = some tm_X6_isHead := rfl
theorem tn_X6_lose : tb_MT 85 = some tm_X6_lose := rfl
theorem tn_X6_octet : tb_MT 86 = some tm_X6_octet := rfl
theorem tn_X6_poke : tb_MT 87 = some tm_X6_poke := rfl
theorem tn_X6_quotient : tb_MT 88 = some tm_X6_quotient := rfl
theorem tn_X6_sectorOf : tb_MT 89 = some tm_X6_sectorOf := rfl
theorem tn_X6_symbolOf : tb_MT 90 = some tm_X6_symbolOf := rfl
theorem tn_X6_whole : tb_MT 91 = some tm_X6_whole := rfl
theorem tn_X6_write : tb_MT 92 = some tm_X6_write := rfl
theorem tn_X2_prepare : tb_MT 93 = some tm_X2_prepare := rfl
theorem tn_X3_undoBehind : tb_MT 94 = some tm_X3_undoBehind := rfl
theorem tn_X5_at : tb_MT 95 = some tm_X5_at := rfl
theorem tn_X5_chooseHead : tb_MT 96 = some tm_X5_chooseHead := rfl
theorem tn_X5_collectGaps : tb_MT 97 = some tm_X5_collectGaps := rfl
theorem tn_X5_countMissing : tb_MT 98 = some tm_X5_countMissing := rfl
theorem tn_X5_countRows : tb_MT 99 = some tm_X5_countRows := rfl
theorem tn_X5_fillGaps : tb_MT 100 = some tm_X5_fillGaps := rfl
theorem tn_X5_findDraftedBlock : tb_MT 101 = some tm_X5_findDraftedBlock := rfl
theorem tn_X5_poke : tb_MT 102 = some tm_X5_poke := rfl
theorem tn_X5_symbolByte : tb_MT 103 = some tm_X5_symbolByte := rfl
theorem tn_X5_sync : tb_MT 104 = some tm_X5_sync := rfl
theorem tn_X5_tearHead : tb_MT 105 = some tm_X5_tearHead := rfl
theorem tn_X5_writeNext : tb_MT 106 = some tm_X5_writeNext := rfl
theorem tn_X6_append : tb_MT 107 = some tm_X6_append := rfl
theorem tn_X6_at : tb_MT 108 = some tm_X6_at := rfl
theorem tn_X6_cut : tb_MT 109 = some tm_X6_cut := rfl
theorem tn_X6_fill : tb_MT 110 = some tm_X6_fill := rfl
theorem tn_X6_findRest : tb_MT 111 = some tm_X6_findRest := rfl
theorem tn_X6_findUnknown : tb_MT 112 = some tm_X6_findUnknown := rfl
theorem tn_X6_isOne : tb_MT 113 = some tm_X6_isOne := rfl
theorem tn_X6_isTwo : tb_MT 114 = some tm_X6_isTwo := rfl
theorem tn_X6_missingAt : tb_MT 115 = some tm_X6_missingAt := rfl
theorem tn_X6_sync : tb_MT 116 = some tm_X6_sync := rfl
theorem tn_X5_cut : tb_MT 117 = some tm_X5_cut := rfl
theorem tn_X5_isHurt : tb_MT 118 = some tm_X5_isHurt := rfl
theorem tn_X5_placeOpenBlock : tb_MT 119 = some tm_X5_placeOpenBlock := rfl
theorem tn_X5_readHead : tb_MT 120 = some tm_X5_readHead := rfl
theorem tn_X5_repairRow : tb_MT 121 = some tm_X5_repairRow := rfl
theorem tn_X5_row : tb_MT 122 = some tm_X5_row := rfl
theorem tn_X5_writeSymbol : tb_MT 123 = some tm_X5_writeSymbol := rfl
theorem tn_X6_blockFor : tb_MT 124 = some tm_X6_blockFor := rfl
theorem tn_X6_listed : tb_MT 125 = some tm_X6_listed := rfl
theorem tn_X6_protect : tb_MT 126 = some tm_X6_protect := rfl
theorem tn_X6_repairs : tb_MT 127 = some tm_X6_repairs := rfl
theorem tn_X6_row : tb_MT 128 = some tm_X6_row := rfl
theorem tn_X5_end : tb_MT 129 = some tm_X5_end := rfl
theorem tn_X5_listed : tb_MT 130 = some tm_X5_listed := rfl
theorem tn_X5_protect : tb_MT 131 = some tm_X5_protect := rfl
theorem tn_X5_repairAll : tb_MT 132 = some tm_X5_repairAll := rfl
theorem tn_X6_end : tb_MT 133 = some tm_X6_end := rfl
theorem tn_X6_start : tb_MT 134 = some tm_X6_start := rfl
theorem tn_X5_start : tb_MT 135 = some tm_X5_start := rfl
