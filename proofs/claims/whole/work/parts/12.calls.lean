theorem nX0_init : qNi mX0_init 0 := ⟨⟨wn_X0, wcX0_init, by decide +kernel, by decide +kernel⟩, rfl, rfl, wiX0_init⟩
theorem nX0_takesOver : qNv mX0_takesOver 3 := ⟨⟨wn_X0, wcX0_takesOver, by decide +kernel, by decide +kernel⟩, wiX0_takesOver, wvX0_takesOver⟩
theorem nX0_beginsBehind : qNv mX0_beginsBehind 1 := ⟨⟨wn_X0, wcX0_beginsBehind, by decide +kernel, by decide +kernel⟩, wiX0_beginsBehind, wvX0_beginsBehind⟩
theorem nX0_meets : qNv mX0_meets 2 := ⟨⟨wn_X0, wcX0_meets, by decide +kernel, by decide +kernel⟩, wiX0_meets, wvX0_meets⟩
theorem nX0_bytesMore : qNv mX0_bytesMore 0 := ⟨⟨wn_X0, wcX0_bytesMore, by decide +kernel, by decide +kernel⟩, wiX0_bytesMore, wvX0_bytesMore⟩
theorem nX1_init : qNi mX1_init 0 := ⟨⟨wn_X1, wcX1_init, by decide +kernel, by decide +kernel⟩, rfl, rfl, wiX1_init⟩
theorem nX1_size : qNv mX1_size 0 := ⟨⟨wn_X1, wcX1_size, by decide +kernel, by decide +kernel⟩, wiX1_size, wvX1_size⟩
theorem nX1_forgets : qNv mX1_forgets 0 := ⟨⟨wn_X1, wcX1_forgets, by decide +kernel, by decide +kernel⟩, wiX1_forgets, wvX1_forgets⟩
theorem nX1_latestPage : qNv mX1_latestPage 0 := ⟨⟨wn_X1, wcX1_latestPage, by decide +kernel, by decide +kernel⟩, wiX1_latestPage, wvX1_latestPage⟩
theorem nX1_remembers : qNv mX1_remembers 1 := ⟨⟨wn_X1, wcX1_remembers, by decide +kernel, by decide +kernel⟩, wiX1_remembers, wvX1_remembers⟩
theorem nX1_restores : qNv mX1_restores 1 := ⟨⟨wn_X1, wcX1_restores, by decide +kernel, by decide +kernel⟩, wiX1_restores, wvX1_restores⟩
theorem nX2_init : qNi mX2_init 1 := ⟨⟨wn_X2, wcX2_init, by decide +kernel, by decide +kernel⟩, rfl, rfl, wiX2_init⟩
theorem nX2_becomes : qNv mX2_becomes 1 := ⟨⟨wn_X2, wcX2_becomes, by decide +kernel, by decide +kernel⟩, wiX2_becomes, wvX2_becomes⟩
theorem nX2_replaces : qNv mX2_replaces 3 := ⟨⟨wn_X2, wcX2_replaces, by decide +kernel, by decide +kernel⟩, wiX2_replaces, wvX2_replaces⟩
theorem nX2_takesOut : qNv mX2_takesOut 2 := ⟨⟨wn_X2, wcX2_takesOut, by decide +kernel, by decide +kernel⟩, wiX2_takesOut, wvX2_takesOut⟩
theorem nX2_putsIn : qNv mX2_putsIn 2 := ⟨⟨wn_X2, wcX2_putsIn, by decide +kernel, by decide +kernel⟩, wiX2_putsIn, wvX2_putsIn⟩
theorem nX2_placeAfterTaking : qNs mX2_placeAfterTaking 3 := ⟨⟨wn_X2, wcX2_placeAfterTaking, by decide +kernel, by decide +kernel⟩, wtX2_placeAfterTaking⟩
theorem nX2_placeAfterPutting : qNs mX2_placeAfterPutting 3 := ⟨⟨wn_X2, wcX2_placeAfterPutting, by decide +kernel, by decide +kernel⟩, wtX2_placeAfterPutting⟩
theorem nX2_shrinksChunks : qNv mX2_shrinksChunks 2 := ⟨⟨wn_X2, wcX2_shrinksChunks, by decide +kernel, by decide +kernel⟩, wiX2_shrinksChunks, wvX2_shrinksChunks⟩
theorem nX2_joinsChunks : qNv mX2_joinsChunks 1 := ⟨⟨wn_X2, wcX2_joinsChunks, by decide +kernel, by decide +kernel⟩, wiX2_joinsChunks, wvX2_joinsChunks⟩
theorem nX2_growsChunk : qNv mX2_growsChunk 2 := ⟨⟨wn_X2, wcX2_growsChunk, by decide +kernel, by decide +kernel⟩, wiX2_growsChunk, wvX2_growsChunk⟩
theorem nX2_splitsChunk : qNv mX2_splitsChunk 2 := ⟨⟨wn_X2, wcX2_splitsChunk, by decide +kernel, by decide +kernel⟩, wiX2_splitsChunk, wvX2_splitsChunk⟩
theorem nX2_chunkOfByteAhead : qNv mX2_chunkOfByteAhead 1 := ⟨⟨wn_X2, wcX2_chunkOfByteAhead, by decide +kernel, by decide +kernel⟩, wiX2_chunkOfByteAhead, wvX2_chunkOfByteAhead⟩
theorem nX2_chunkBegin : qNv mX2_chunkBegin 1 := ⟨⟨wn_X2, wcX2_chunkBegin, by decide +kernel, by decide +kernel⟩, wiX2_chunkBegin, wvX2_chunkBegin⟩
theorem nX2_markPlace : qNv mX2_markPlace 1 := ⟨⟨wn_X2, wcX2_markPlace, by decide +kernel, by decide +kernel⟩, wiX2_markPlace, wvX2_markPlace⟩
theorem nX2_putMark : qNv mX2_putMark 2 := ⟨⟨wn_X2, wcX2_putMark, by decide +kernel, by decide +kernel⟩, wiX2_putMark, wvX2_putMark⟩
theorem nX2_marksSet : qNv mX2_marksSet 0 := ⟨⟨wn_X2, wcX2_marksSet, by decide +kernel, by decide +kernel⟩, wiX2_marksSet, wvX2_marksSet⟩
theorem nX2_markFrom : qNv mX2_markFrom 1 := ⟨⟨wn_X2, wcX2_markFrom, by decide +kernel, by decide +kernel⟩, wiX2_markFrom, wvX2_markFrom⟩
theorem nX2_readsLetter : qNv mX2_readsLetter 0 := ⟨⟨wn_X2, wcX2_readsLetter, by decide +kernel, by decide +kernel⟩, wiX2_readsLetter, wvX2_readsLetter⟩
theorem nX3_init : qNi mX3_init 1 := ⟨⟨wn_X3, wcX3_init, by decide +kernel, by decide +kernel⟩, rfl, rfl, wiX3_init⟩
theorem nX3_size : qNv mX3_size 0 := ⟨⟨wn_X3, wcX3_size, by decide +kernel, by decide +kernel⟩, wiX3_size, wvX3_size⟩
theorem nX3_get : qNv mX3_get 1 := ⟨⟨wn_X3, wcX3_get, by decide +kernel, by decide +kernel⟩, wiX3_get, wvX3_get⟩
theorem nX3_set : qNv mX3_set 2 := ⟨⟨wn_X3, wcX3_set, by decide +kernel, by decide +kernel⟩, wiX3_set, wvX3_set⟩
theorem nX3_add : qNv mX3_add 1 := ⟨⟨wn_X3, wcX3_add, by decide +kernel, by decide +kernel⟩, wiX3_add, wvX3_add⟩
theorem nX3_empties : qNv mX3_empties 0 := ⟨⟨wn_X3, wcX3_empties, by decide +kernel, by decide +kernel⟩, wiX3_empties, wvX3_empties⟩
theorem nX3_shortensTo : qNv mX3_shortensTo 1 := ⟨⟨wn_X3, wcX3_shortensTo, by decide +kernel, by decide +kernel⟩, wiX3_shortensTo, wvX3_shortensTo⟩
theorem nX3_copies : qNv mX3_copies 1 := ⟨⟨wn_X3, wcX3_copies, by decide +kernel, by decide +kernel⟩, wiX3_copies, wvX3_copies⟩
theorem nX3_opens : qNv mX3_opens 2 := ⟨⟨wn_X3, wcX3_opens, by decide +kernel, by decide +kernel⟩, wiX3_opens, wvX3_opens⟩
theorem nX3_closes : qNv mX3_closes 2 := ⟨⟨wn_X3, wcX3_closes, by decide +kernel, by decide +kernel⟩, wiX3_closes, wvX3_closes⟩
theorem nX3_mixedInto : qNv mX3_mixedInto 1 := ⟨⟨wn_X3, wcX3_mixedInto, by decide +kernel, by decide +kernel⟩, wiX3_mixedInto, wvX3_mixedInto⟩
theorem nX4_init : qNi mX4_init 0 := ⟨⟨wn_X4, wcX4_init, by decide +kernel, by decide +kernel⟩, rfl, rfl, wiX4_init⟩
theorem nX4_size : qNv mX4_size 0 := ⟨⟨wn_X4, wcX4_size, by decide +kernel, by decide +kernel⟩, wiX4_size, wvX4_size⟩
theorem nX4_empties : qNv mX4_empties 0 := ⟨⟨wn_X4, wcX4_empties, by decide +kernel, by decide +kernel⟩, wiX4_empties, wvX4_empties⟩
theorem nX4_slot : qNv mX4_slot 1 := ⟨⟨wn_X4, wcX4_slot, by decide +kernel, by decide +kernel⟩, wiX4_slot, wvX4_slot⟩
theorem nX4_touches : qNv mX4_touches 2 := ⟨⟨wn_X4, wcX4_touches, by decide +kernel, by decide +kernel⟩, wiX4_touches, wvX4_touches⟩
theorem nX4_growth : qNv mX4_growth 0 := ⟨⟨wn_X4, wcX4_growth, by decide +kernel, by decide +kernel⟩, wiX4_growth, wvX4_growth⟩
theorem nX4_adds : qNv mX4_adds 3 := ⟨⟨wn_X4, wcX4_adds, by decide +kernel, by decide +kernel⟩, wiX4_adds, wvX4_adds⟩
theorem nX4_isBehind : qNv mX4_isBehind 2 := ⟨⟨wn_X4, wcX4_isBehind, by decide +kernel, by decide +kernel⟩, wiX4_isBehind, wvX4_isBehind⟩
theorem nX4_changesAll : qNv mX4_changesAll 1 := ⟨⟨wn_X4, wcX4_changesAll, by decide +kernel, by decide +kernel⟩, wiX4_changesAll, wvX4_changesAll⟩
theorem nX5_init : qNi mX5_init 0 := ⟨⟨wn_X5, wcX5_init, by decide +kernel, by decide +kernel⟩, rfl, rfl, wiX5_init⟩
theorem nX5_startsOver : qNv mX5_startsOver 0 := ⟨⟨wn_X5, wcX5_startsOver, by decide +kernel, by decide +kernel⟩, wiX5_startsOver, wvX5_startsOver⟩
theorem nX5_addsPlace : qNv mX5_addsPlace 4 := ⟨⟨wn_X5, wcX5_addsPlace, by decide +kernel, by decide +kernel⟩, wiX5_addsPlace, wvX5_addsPlace⟩
theorem nX5_measures : qNv mX5_measures 1 := ⟨⟨wn_X5, wcX5_measures, by decide +kernel, by decide +kernel⟩, wiX5_measures, wvX5_measures⟩
theorem nX5_rowOf : qNv mX5_rowOf 1 := ⟨⟨wn_X5, wcX5_rowOf, by decide +kernel, by decide +kernel⟩, wiX5_rowOf, wvX5_rowOf⟩
theorem nX5_ahead : qNv mX5_ahead 2 := ⟨⟨wn_X5, wcX5_ahead, by decide +kernel, by decide +kernel⟩, wiX5_ahead, wvX5_ahead⟩
theorem nX5_between : qNv mX5_between 3 := ⟨⟨wn_X5, wcX5_between, by decide +kernel, by decide +kernel⟩, wiX5_between, wvX5_between⟩
theorem nX5_lastPlace : qNv mX5_lastPlace 0 := ⟨⟨wn_X5, wcX5_lastPlace, by decide +kernel, by decide +kernel⟩, wiX5_lastPlace, wvX5_lastPlace⟩
theorem nX5_total : qNv mX5_total 1 := ⟨⟨wn_X5, wcX5_total, by decide +kernel, by decide +kernel⟩, wiX5_total, wvX5_total⟩
theorem nX5_placeBy : qNv mX5_placeBy 2 := ⟨⟨wn_X5, wcX5_placeBy, by decide +kernel, by decide +kernel⟩, wiX5_placeBy, wvX5_placeBy⟩
theorem nX5_farthest : qNv mX5_farthest 4 := ⟨⟨wn_X5, wcX5_farthest, by decide +kernel, by decide +kernel⟩, wiX5_farthest, wvX5_farthest⟩
theorem nX5_lines : qNv mX5_lines 0 := ⟨⟨wn_X5, wcX5_lines, by decide +kernel, by decide +kernel⟩, wiX5_lines, wvX5_lines⟩
theorem nX5_lineBegin : qNv mX5_lineBegin 1 := ⟨⟨wn_X5, wcX5_lineBegin, by decide +kernel, by decide +kernel⟩, wiX5_lineBegin, wvX5_lineBegin⟩
theorem nX5_lineEnd : qNv mX5_lineEnd 1 := ⟨⟨wn_X5, wcX5_lineEnd, by decide +kernel, by decide +kernel⟩, wiX5_lineEnd, wvX5_lineEnd⟩
theorem nX5_lineWidth : qNv mX5_lineWidth 1 := ⟨⟨wn_X5, wcX5_lineWidth, by decide +kernel, by decide +kernel⟩, wiX5_lineWidth, wvX5_lineWidth⟩
theorem nX5_lineByWidth : qNv mX5_lineByWidth 1 := ⟨⟨wn_X5, wcX5_lineByWidth, by decide +kernel, by decide +kernel⟩, wiX5_lineByWidth, wvX5_lineByWidth⟩
theorem nX5_sortsLines : qNv mX5_sortsLines 0 := ⟨⟨wn_X5, wcX5_sortsLines, by decide +kernel, by decide +kernel⟩, wiX5_sortsLines, wvX5_sortsLines⟩
theorem nX6_init : qNi mX6_init 0 := ⟨⟨wn_X6, wcX6_init, by decide +kernel, by decide +kernel⟩, rfl, rfl, wiX6_init⟩
theorem nX6_type : qNv mX6_type 1 := ⟨⟨wn_X6, wcX6_type, by decide +kernel, by decide +kernel⟩, wiX6_type, wvX6_type⟩
theorem nX6_clear : qNv mX6_clear 0 := ⟨⟨wn_X6, wcX6_clear, by decide +kernel, by decide +kernel⟩, wiX6_clear, wvX6_clear⟩
theorem nX6_edits : qNv mX6_edits 2 := ⟨⟨wn_X6, wcX6_edits, by decide +kernel, by decide +kernel⟩, wiX6_edits, wvX6_edits⟩
theorem nX6_stages : qNv mX6_stages 2 := ⟨⟨wn_X6, wcX6_stages, by decide +kernel, by decide +kernel⟩, wiX6_stages, wvX6_stages⟩
theorem nX6_does : qNv mX6_does 0 := ⟨⟨wn_X6, wcX6_does, by decide +kernel, by decide +kernel⟩, wiX6_does, wvX6_does⟩
theorem nX6_drops : qNv mX6_drops 0 := ⟨⟨wn_X6, wcX6_drops, by decide +kernel, by decide +kernel⟩, wiX6_drops, wvX6_drops⟩
theorem nX6_undo : qNv mX6_undo 0 := ⟨⟨wn_X6, wcX6_undo, by decide +kernel, by decide +kernel⟩, wiX6_undo, wvX6_undo⟩
theorem nX6_at : qNv mX6_at 1 := ⟨⟨wn_X6, wcX6_at, by decide +kernel, by decide +kernel⟩, wiX6_at, wvX6_at⟩
theorem nX6_tells : qNv mX6_tells 3 := ⟨⟨wn_X6, wcX6_tells, by decide +kernel, by decide +kernel⟩, wiX6_tells, wvX6_tells⟩
theorem nX6_spot : qNv mX6_spot 2 := ⟨⟨wn_X6, wcX6_spot, by decide +kernel, by decide +kernel⟩, wiX6_spot, wvX6_spot⟩
theorem nX6_column : qNv mX6_column 2 := ⟨⟨wn_X6, wcX6_column, by decide +kernel, by decide +kernel⟩, wiX6_column, wvX6_column⟩
theorem nX6_line : qNv mX6_line 2 := ⟨⟨wn_X6, wcX6_line, by decide +kernel, by decide +kernel⟩, wiX6_line, wvX6_line⟩
theorem nX6_wide : qNv mX6_wide 1 := ⟨⟨wn_X6, wcX6_wide, by decide +kernel, by decide +kernel⟩, wiX6_wide, wvX6_wide⟩
theorem nX6_chunk : qNv mX6_chunk 2 := ⟨⟨wn_X6, wcX6_chunk, by decide +kernel, by decide +kernel⟩, wiX6_chunk, wvX6_chunk⟩
theorem nX6_marks : qNv mX6_marks 2 := ⟨⟨wn_X6, wcX6_marks, by decide +kernel, by decide +kernel⟩, wiX6_marks, wvX6_marks⟩
theorem nX6_lifts : qNv mX6_lifts 1 := ⟨⟨wn_X6, wcX6_lifts, by decide +kernel, by decide +kernel⟩, wiX6_lifts, wvX6_lifts⟩
theorem nX6_mark : qNv mX6_mark 1 := ⟨⟨wn_X6, wcX6_mark, by decide +kernel, by decide +kernel⟩, wiX6_mark, wvX6_mark⟩
theorem nX6_next : qNv mX6_next 1 := ⟨⟨wn_X6, wcX6_next, by decide +kernel, by decide +kernel⟩, wiX6_next, wvX6_next⟩
theorem nX6_seeks : qNv mX6_seeks 1 := ⟨⟨wn_X6, wcX6_seeks, by decide +kernel, by decide +kernel⟩, wiX6_seeks, wvX6_seeks⟩
theorem nX6_reads : qNv mX6_reads 0 := ⟨⟨wn_X6, wcX6_reads, by decide +kernel, by decide +kernel⟩, wiX6_reads, wvX6_reads⟩
theorem nX6_keep : qNv mX6_keep 1 := ⟨⟨wn_X6, wcX6_keep, by decide +kernel, by decide +kernel⟩, wiX6_keep, wvX6_keep⟩
theorem nX6_back : qNv mX6_back 1 := ⟨⟨wn_X6, wcX6_back, by decide +kernel, by decide +kernel⟩, wiX6_back, wvX6_back⟩
theorem nX6_count : qNv mX6_count 1 := ⟨⟨wn_X6, wcX6_count, by decide +kernel, by decide +kernel⟩, wiX6_count, wvX6_count⟩
theorem nX6_digest : qNv mX6_digest 0 := ⟨⟨wn_X6, wcX6_digest, by decide +kernel, by decide +kernel⟩, wiX6_digest, wvX6_digest⟩
theorem nX6_isPlace : qNv mX6_isPlace 1 := ⟨⟨wn_X6, wcX6_isPlace, by decide +kernel, by decide +kernel⟩, wiX6_isPlace, wvX6_isPlace⟩
theorem nX6_isStretch : qNv mX6_isStretch 2 := ⟨⟨wn_X6, wcX6_isStretch, by decide +kernel, by decide +kernel⟩, wiX6_isStretch, wvX6_isStretch⟩
theorem nX6_isLine : qNv mX6_isLine 1 := ⟨⟨wn_X6, wcX6_isLine, by decide +kernel, by decide +kernel⟩, wiX6_isLine, wvX6_isLine⟩
theorem nX6_isMeasure : qNs mX6_isMeasure 1 := ⟨⟨wn_X6, wcX6_isMeasure, by decide +kernel, by decide +kernel⟩, wtX6_isMeasure⟩
theorem nX6_isName : qNs mX6_isName 1 := ⟨⟨wn_X6, wcX6_isName, by decide +kernel, by decide +kernel⟩, wtX6_isName⟩
theorem nX6_measureInLine : qNs mX6_measureInLine 1 := ⟨⟨wn_X6, wcX6_measureInLine, by decide +kernel, by decide +kernel⟩, wtX6_measureInLine⟩
theorem nX6_widestPart : qNv mX6_widestPart 2 := ⟨⟨wn_X6, wcX6_widestPart, by decide +kernel, by decide +kernel⟩, wiX6_widestPart, wvX6_widestPart⟩
theorem nX6_beginsLetter : qNs mX6_beginsLetter 1 := ⟨⟨wn_X6, wcX6_beginsLetter, by decide +kernel, by decide +kernel⟩, wtX6_beginsLetter⟩
theorem nX6_cellsOf : qNs mX6_cellsOf 1 := ⟨⟨wn_X6, wcX6_cellsOf, by decide +kernel, by decide +kernel⟩, wtX6_cellsOf⟩
theorem nX7_init : qNi mX7_init 0 := ⟨⟨wn_X7, wcX7_init, by decide +kernel, by decide +kernel⟩, rfl, rfl, wiX7_init⟩
theorem nX7_in : qNs mX7_in 3 := ⟨⟨wn_X7, wcX7_in, by decide +kernel, by decide +kernel⟩, wtX7_in⟩
theorem nX7_isPlace : qNv mX7_isPlace 1 := ⟨⟨wn_X7, wcX7_isPlace, by decide +kernel, by decide +kernel⟩, wiX7_isPlace, wvX7_isPlace⟩
theorem nX7_byteAt : qNv mX7_byteAt 1 := ⟨⟨wn_X7, wcX7_byteAt, by decide +kernel, by decide +kernel⟩, wiX7_byteAt, wvX7_byteAt⟩
theorem nX7_chunkAt : qNv mX7_chunkAt 1 := ⟨⟨wn_X7, wcX7_chunkAt, by decide +kernel, by decide +kernel⟩, wiX7_chunkAt, wvX7_chunkAt⟩
theorem nX7_opens : qNv mX7_opens 2 := ⟨⟨wn_X7, wcX7_opens, by decide +kernel, by decide +kernel⟩, wiX7_opens, wvX7_opens⟩
theorem nX7_putting : qNv mX7_putting 4 := ⟨⟨wn_X7, wcX7_putting, by decide +kernel, by decide +kernel⟩, wiX7_putting, wvX7_putting⟩
theorem nX7_goes : qNs mX7_goes 3 := ⟨⟨wn_X7, wcX7_goes, by decide +kernel, by decide +kernel⟩, wtX7_goes⟩
theorem nX7_taking : qNv mX7_taking 2 := ⟨⟨wn_X7, wcX7_taking, by decide +kernel, by decide +kernel⟩, wiX7_taking, wvX7_taking⟩
theorem nX7_edit : qNv mX7_edit 5 := ⟨⟨wn_X7, wcX7_edit, by decide +kernel, by decide +kernel⟩, wiX7_edit, wvX7_edit⟩
theorem nX7_keeps : qNv mX7_keeps 0 := ⟨⟨wn_X7, wcX7_keeps, by decide +kernel, by decide +kernel⟩, wiX7_keeps, wvX7_keeps⟩
theorem nX7_type : qNv mX7_type 1 := ⟨⟨wn_X7, wcX7_type, by decide +kernel, by decide +kernel⟩, wiX7_type, wvX7_type⟩
theorem nX7_clear : qNv mX7_clear 0 := ⟨⟨wn_X7, wcX7_clear, by decide +kernel, by decide +kernel⟩, wiX7_clear, wvX7_clear⟩
theorem nX7_isEdit : qNv mX7_isEdit 2 := ⟨⟨wn_X7, wcX7_isEdit, by decide +kernel, by decide +kernel⟩, wiX7_isEdit, wvX7_isEdit⟩
theorem nX7_edits : qNv mX7_edits 2 := ⟨⟨wn_X7, wcX7_edits, by decide +kernel, by decide +kernel⟩, wiX7_edits, wvX7_edits⟩
theorem nX7_stages : qNv mX7_stages 2 := ⟨⟨wn_X7, wcX7_stages, by decide +kernel, by decide +kernel⟩, wiX7_stages, wvX7_stages⟩
theorem nX7_does : qNv mX7_does 0 := ⟨⟨wn_X7, wcX7_does, by decide +kernel, by decide +kernel⟩, wiX7_does, wvX7_does⟩
theorem nX7_drops : qNv mX7_drops 0 := ⟨⟨wn_X7, wcX7_drops, by decide +kernel, by decide +kernel⟩, wiX7_drops, wvX7_drops⟩
theorem nX7_undo : qNv mX7_undo 0 := ⟨⟨wn_X7, wcX7_undo, by decide +kernel, by decide +kernel⟩, wiX7_undo, wvX7_undo⟩
theorem nX7_isLetter : qNs mX7_isLetter 1 := ⟨⟨wn_X7, wcX7_isLetter, by decide +kernel, by decide +kernel⟩, wtX7_isLetter⟩
theorem nX7_has : qNs mX7_has 2 := ⟨⟨wn_X7, wcX7_has, by decide +kernel, by decide +kernel⟩, wtX7_has⟩
theorem nX7_measure : qNv mX7_measure 3 := ⟨⟨wn_X7, wcX7_measure, by decide +kernel, by decide +kernel⟩, wiX7_measure, wvX7_measure⟩
theorem nX7_at : qNv mX7_at 1 := ⟨⟨wn_X7, wcX7_at, by decide +kernel, by decide +kernel⟩, wiX7_at, wvX7_at⟩
theorem nX7_lineAt : qNv mX7_lineAt 1 := ⟨⟨wn_X7, wcX7_lineAt, by decide +kernel, by decide +kernel⟩, wiX7_lineAt, wvX7_lineAt⟩
theorem nX7_beyond : qNv mX7_beyond 4 := ⟨⟨wn_X7, wcX7_beyond, by decide +kernel, by decide +kernel⟩, wiX7_beyond, wvX7_beyond⟩
theorem nX7_tells : qNv mX7_tells 3 := ⟨⟨wn_X7, wcX7_tells, by decide +kernel, by decide +kernel⟩, wiX7_tells, wvX7_tells⟩
theorem nX7_spot : qNv mX7_spot 2 := ⟨⟨wn_X7, wcX7_spot, by decide +kernel, by decide +kernel⟩, wiX7_spot, wvX7_spot⟩
theorem nX7_lines : qNv mX7_lines 0 := ⟨⟨wn_X7, wcX7_lines, by decide +kernel, by decide +kernel⟩, wiX7_lines, wvX7_lines⟩
theorem nX7_isLine : qNv mX7_isLine 1 := ⟨⟨wn_X7, wcX7_isLine, by decide +kernel, by decide +kernel⟩, wiX7_isLine, wvX7_isLine⟩
theorem nX7_endOf : qNv mX7_endOf 1 := ⟨⟨wn_X7, wcX7_endOf, by decide +kernel, by decide +kernel⟩, wiX7_endOf, wvX7_endOf⟩
theorem nX7_column : qNv mX7_column 2 := ⟨⟨wn_X7, wcX7_column, by decide +kernel, by decide +kernel⟩, wiX7_column, wvX7_column⟩
theorem nX7_line : qNv mX7_line 2 := ⟨⟨wn_X7, wcX7_line, by decide +kernel, by decide +kernel⟩, wiX7_line, wvX7_line⟩
theorem nX7_cellsOf : qNv mX7_cellsOf 1 := ⟨⟨wn_X7, wcX7_cellsOf, by decide +kernel, by decide +kernel⟩, wiX7_cellsOf, wvX7_cellsOf⟩
theorem nX7_wide : qNv mX7_wide 1 := ⟨⟨wn_X7, wcX7_wide, by decide +kernel, by decide +kernel⟩, wiX7_wide, wvX7_wide⟩
theorem nX7_chunk : qNv mX7_chunk 2 := ⟨⟨wn_X7, wcX7_chunk, by decide +kernel, by decide +kernel⟩, wiX7_chunk, wvX7_chunk⟩
theorem nX7_isName : qNs mX7_isName 1 := ⟨⟨wn_X7, wcX7_isName, by decide +kernel, by decide +kernel⟩, wtX7_isName⟩
theorem nX7_marksOf : qNv mX7_marksOf 0 := ⟨⟨wn_X7, wcX7_marksOf, by decide +kernel, by decide +kernel⟩, wiX7_marksOf, wvX7_marksOf⟩
theorem nX7_told : qNs mX7_told 1 := ⟨⟨wn_X7, wcX7_told, by decide +kernel, by decide +kernel⟩, wtX7_told⟩
theorem nX7_marks : qNv mX7_marks 2 := ⟨⟨wn_X7, wcX7_marks, by decide +kernel, by decide +kernel⟩, wiX7_marks, wvX7_marks⟩
theorem nX7_lifts : qNv mX7_lifts 1 := ⟨⟨wn_X7, wcX7_lifts, by decide +kernel, by decide +kernel⟩, wiX7_lifts, wvX7_lifts⟩
theorem nX7_mark : qNv mX7_mark 1 := ⟨⟨wn_X7, wcX7_mark, by decide +kernel, by decide +kernel⟩, wiX7_mark, wvX7_mark⟩
theorem nX7_next : qNv mX7_next 1 := ⟨⟨wn_X7, wcX7_next, by decide +kernel, by decide +kernel⟩, wiX7_next, wvX7_next⟩
theorem nX7_seeks : qNv mX7_seeks 1 := ⟨⟨wn_X7, wcX7_seeks, by decide +kernel, by decide +kernel⟩, wiX7_seeks, wvX7_seeks⟩
theorem nX7_reads : qNv mX7_reads 0 := ⟨⟨wn_X7, wcX7_reads, by decide +kernel, by decide +kernel⟩, wiX7_reads, wvX7_reads⟩
theorem nX7_keep : qNv mX7_keep 1 := ⟨⟨wn_X7, wcX7_keep, by decide +kernel, by decide +kernel⟩, wiX7_keep, wvX7_keep⟩
theorem nX7_back : qNv mX7_back 1 := ⟨⟨wn_X7, wcX7_back, by decide +kernel, by decide +kernel⟩, wiX7_back, wvX7_back⟩
theorem nX7_count : qNv mX7_count 1 := ⟨⟨wn_X7, wcX7_count, by decide +kernel, by decide +kernel⟩, wiX7_count, wvX7_count⟩
theorem nX7_digest : qNv mX7_digest 0 := ⟨⟨wn_X7, wcX7_digest, by decide +kernel, by decide +kernel⟩, wiX7_digest, wvX7_digest⟩
theorem nJ9_max_7cf53 : qNs mJ9_max_7cf53 2 := ⟨⟨wn_J9, wcJ9_max_7cf53, by decide +kernel, by decide +kernel⟩, wtJ9_max_7cf53⟩
theorem nJ9_min_7cf53 : qNs mJ9_min_7cf53 2 := ⟨⟨wn_J9, wcJ9_min_7cf53, by decide +kernel, by decide +kernel⟩, wtJ9_min_7cf53⟩
/-- a method without an answer; one with an answer and a new heap -/
abbrev qVo (l : Launch) (M : MI) (mc ms : Nat) (av : List Value) (h : qH) (sz : Nat) (P : qH → Nat → Prop) : Prop := qC l M mc ms av h sz (fun v h2 sz2 => v = none ∧ P h2 sz2)
abbrev qRt (l : Launch) (M : MI) (mc ms : Nat) (av : List Value) (h : qH) (sz : Nat) (P : Value → qH → Nat → Prop) : Prop := qC l M mc ms av h sz (fun v h2 sz2 => ∃ w, v = some w ∧ P w h2 sz2)
section QC
variable {l : Launch} {M : MI} {R : Room} {EX : State → Array Value → Prop} {G : qG} {h0 : qH} {sz0 k n : Nat} {h : qH} {sz pc : Nat} {L : List (Option Value)} {st : List Value}
theorem qV_rdV {M' : MI} {idx b ci N : Nat} {As rest fs : List Value} {T : u_T} {ty : Nat → FieldType}  {w : Value} (hc : qRd l M' (.ref b :: As) h sz w) (hN : qNv M' As.length) (hk : qK ci M'.1.cls T N ty) (hlk : Cond.methodLink M.1.cls idx M'.1 ∈ gt) (hd : decode M.2.1 pc = .ok (.invokevirtual idx, 3)) (ha : h b = some (oB ci fs)) (hrm : M'.2.2.2.2.1 + 1 ≤ R.frames ∧ 8 + (M'.2.2.1 + 11) + M'.2.2.2.2.2 ≤ R.locals) (hcs : k ≤ R.cells ∧ n ≤ R.slots) (hst : st = As.reverse ++ .ref b :: rest) (hcat : (rest.map fun v => v.category).sum ≤ 8)
    (kk : qV l M R EX G h0 sz0 k n h sz (pc + 3) L (w :: rest)) : qV l M R EX G h0 sz0 k n h sz pc L st := qV_callV hc hN hk hlk hd ha hrm hcs hst hcat (fun v h2 sz2 e => by obtain ⟨rfl, rfl, rfl⟩ := e; exact kk)
theorem qV_voV {M' : MI} {mc' ms' idx b ci N : Nat} {As rest fs : List Value} {T : u_T} {ty : Nat → FieldType}  {P : qH → Nat → Prop} (hc : qVo l M' mc' ms' (.ref b :: As) h sz P) (hN : qNv M' As.length) (hk : qK ci M'.1.cls T N ty) (hlk : Cond.methodLink M.1.cls idx M'.1 ∈ gt) (hd : decode M.2.1 pc = .ok (.invokevirtual idx, 3)) (ha : h b = some (oB ci fs)) (hrm : M'.2.2.2.2.1 + 1 ≤ R.frames ∧ 8 + (M'.2.2.1 + 11) + M'.2.2.2.2.2 ≤ R.locals) (hcs : k + mc' ≤ R.cells ∧ n + ms' ≤ R.slots) (hst : st = As.reverse ++ .ref b :: rest) (hcat : (rest.map fun v => v.category).sum ≤ 8)
    (kk : ∀ h2 sz2, P h2 sz2 → qV l M R EX G h0 sz0 (k + mc') (n + ms') h2 sz2 (pc + 3) L rest) : qV l M R EX G h0 sz0 k n h sz pc L st := qV_callV hc hN hk hlk hd ha hrm hcs hst hcat (fun v h2 sz2 e => by obtain ⟨rfl, e⟩ := e; exact kk h2 sz2 e)
theorem qV_rtV {M' : MI} {mc' ms' idx b ci N : Nat} {As rest fs : List Value} {T : u_T} {ty : Nat → FieldType}  {P : Value → qH → Nat → Prop} (hc : qRt l M' mc' ms' (.ref b :: As) h sz P) (hN : qNv M' As.length) (hk : qK ci M'.1.cls T N ty) (hlk : Cond.methodLink M.1.cls idx M'.1 ∈ gt) (hd : decode M.2.1 pc = .ok (.invokevirtual idx, 3)) (ha : h b = some (oB ci fs)) (hrm : M'.2.2.2.2.1 + 1 ≤ R.frames ∧ 8 + (M'.2.2.1 + 11) + M'.2.2.2.2.2 ≤ R.locals) (hcs : k + mc' ≤ R.cells ∧ n + ms' ≤ R.slots) (hst : st = As.reverse ++ .ref b :: rest) (hcat : (rest.map fun v => v.category).sum ≤ 8)
    (kk : ∀ w h2 sz2, P w h2 sz2 → qV l M R EX G h0 sz0 (k + mc') (n + ms') h2 sz2 (pc + 3) L (w :: rest)) : qV l M R EX G h0 sz0 k n h sz pc L st := qV_callV hc hN hk hlk hd ha hrm hcs hst hcat (fun v h2 sz2 e => by obtain ⟨w, rfl, e⟩ := e; exact kk w h2 sz2 e)
theorem qV_rdS {M' : MI} {idx : Nat} {As rest : List Value}  {w : Value} (hc : qRd l M' As h sz w) (hN : qNs M' As.length) (hlk : Cond.methodLink M.1.cls idx M'.1 ∈ gt) (hd : decode M.2.1 pc = .ok (.invokestatic idx, 3)) (hrm : M'.2.2.2.2.1 + 1 ≤ R.frames ∧ 8 + (M'.2.2.1 + 11) + M'.2.2.2.2.2 ≤ R.locals) (hcs : k ≤ R.cells ∧ n ≤ R.slots) (hst : st = As.reverse ++ rest) (hcat : (rest.map fun v => v.category).sum ≤ 8)
    (kk : qV l M R EX G h0 sz0 k n h sz (pc + 3) L (w :: rest)) : qV l M R EX G h0 sz0 k n h sz pc L st := qV_callS hc hN hlk hd hrm hcs hst hcat (fun v h2 sz2 e => by obtain ⟨rfl, rfl, rfl⟩ := e; exact kk)
theorem qV_voS {M' : MI} {mc' ms' idx : Nat} {As rest : List Value}  {P : qH → Nat → Prop} (hc : qVo l M' mc' ms' As h sz P) (hN : qNs M' As.length) (hlk : Cond.methodLink M.1.cls idx M'.1 ∈ gt) (hd : decode M.2.1 pc = .ok (.invokestatic idx, 3)) (hrm : M'.2.2.2.2.1 + 1 ≤ R.frames ∧ 8 + (M'.2.2.1 + 11) + M'.2.2.2.2.2 ≤ R.locals) (hcs : k + mc' ≤ R.cells ∧ n + ms' ≤ R.slots) (hst : st = As.reverse ++ rest) (hcat : (rest.map fun v => v.category).sum ≤ 8)
    (kk : ∀ h2 sz2, P h2 sz2 → qV l M R EX G h0 sz0 (k + mc') (n + ms') h2 sz2 (pc + 3) L rest) : qV l M R EX G h0 sz0 k n h sz pc L st := qV_callS hc hN hlk hd hrm hcs hst hcat (fun v h2 sz2 e => by obtain ⟨rfl, e⟩ := e; exact kk h2 sz2 e)
theorem qV_rtS {M' : MI} {mc' ms' idx : Nat} {As rest : List Value}  {P : Value → qH → Nat → Prop} (hc : qRt l M' mc' ms' As h sz P) (hN : qNs M' As.length) (hlk : Cond.methodLink M.1.cls idx M'.1 ∈ gt) (hd : decode M.2.1 pc = .ok (.invokestatic idx, 3)) (hrm : M'.2.2.2.2.1 + 1 ≤ R.frames ∧ 8 + (M'.2.2.1 + 11) + M'.2.2.2.2.2 ≤ R.locals) (hcs : k + mc' ≤ R.cells ∧ n + ms' ≤ R.slots) (hst : st = As.reverse ++ rest) (hcat : (rest.map fun v => v.category).sum ≤ 8)
    (kk : ∀ w h2 sz2, P w h2 sz2 → qV l M R EX G h0 sz0 (k + mc') (n + ms') h2 sz2 (pc + 3) L (w :: rest)) : qV l M R EX G h0 sz0 k n h sz pc L st := qV_callS hc hN hlk hd hrm hcs hst hcat (fun v h2 sz2 e => by obtain ⟨w, rfl, e⟩ := e; exact kk w h2 sz2 e)
theorem qV_rdSN {M' : MI} {idx : Nat} {host : String} {As rest : List Value}  {w : Value} (hc : qRd l M' As h sz w) (hN : qNs M' As.length) (hlk : Cond.methodLinkNest M.1.cls idx M'.1 host ∈ nst) (hd : decode M.2.1 pc = .ok (.invokestatic idx, 3)) (hrm : M'.2.2.2.2.1 + 1 ≤ R.frames ∧ 8 + (M'.2.2.1 + 11) + M'.2.2.2.2.2 ≤ R.locals) (hcs : k ≤ R.cells ∧ n ≤ R.slots) (hst : st = As.reverse ++ rest) (hcat : (rest.map fun v => v.category).sum ≤ 8)
    (kk : qV l M R EX G h0 sz0 k n h sz (pc + 3) L (w :: rest)) : qV l M R EX G h0 sz0 k n h sz pc L st := qV_callSN hc hN hlk hd hrm hcs hst hcat (fun v h2 sz2 e => by obtain ⟨rfl, rfl, rfl⟩ := e; exact kk)
theorem qV_voI {M' : MI} {mc' ms' idx b : Nat} {As rest : List Value}  {P : qH → Nat → Prop} (hc : qVo l M' mc' ms' (.ref b :: As) h sz P) (hN : qNi M' As.length) (hlk : Cond.methodLink M.1.cls idx M'.1 ∈ gt) (hd : decode M.2.1 pc = .ok (.invokespecial idx, 3)) (hrm : M'.2.2.2.2.1 + 1 ≤ R.frames ∧ 8 + (M'.2.2.1 + 11) + M'.2.2.2.2.2 ≤ R.locals) (hcs : k + mc' ≤ R.cells ∧ n + ms' ≤ R.slots) (hst : st = As.reverse ++ .ref b :: rest) (hcat : (rest.map fun v => v.category).sum ≤ 8)
    (kk : ∀ h2 sz2, P h2 sz2 → qV l M R EX G h0 sz0 (k + mc') (n + ms') h2 sz2 (pc + 3) L rest) : qV l M R EX G h0 sz0 k n h sz pc L st := qV_callI hc hN hlk hd hrm hcs hst hcat (fun v h2 sz2 e => by obtain ⟨rfl, e⟩ := e; exact kk h2 sz2 e)
theorem qV_voIN {M' : MI} {mc' ms' idx b : Nat} {host : String} {As rest : List Value}  {P : qH → Nat → Prop} (hc : qVo l M' mc' ms' (.ref b :: As) h sz P) (hN : qNi M' As.length) (hlk : Cond.methodLinkNest M.1.cls idx M'.1 host ∈ nst) (hd : decode M.2.1 pc = .ok (.invokespecial idx, 3)) (hrm : M'.2.2.2.2.1 + 1 ≤ R.frames ∧ 8 + (M'.2.2.1 + 11) + M'.2.2.2.2.2 ≤ R.locals) (hcs : k + mc' ≤ R.cells ∧ n + ms' ≤ R.slots) (hst : st = As.reverse ++ .ref b :: rest) (hcat : (rest.map fun v => v.category).sum ≤ 8)
    (kk : ∀ h2 sz2, P h2 sz2 → qV l M R EX G h0 sz0 (k + mc') (n + ms') h2 sz2 (pc + 3) L rest) : qV l M R EX G h0 sz0 k n h sz pc L st := qV_callIN hc hN hlk hd hrm hcs hst hcat (fun v h2 sz2 e => by obtain ⟨rfl, e⟩ := e; exact kk h2 sz2 e)
theorem wc_max : Cond.code Lib.Math.max.name Lib.Math.max.code 2 (some .int) ∈ gt := by
  have h : Cond.code Lib.Math.max.name Lib.Math.max.code 2 (some .int) = Cond.code mJ9_max_7cf53.1 mJ9_max_7cf53.2.1 mJ9_max_7cf53.2.2.1 mJ9_max_7cf53.2.2.2.1 := by decide +kernel
  rw [h]; exact wcJ9_max_7cf53
theorem wc_min : Cond.code Lib.Math.min.name Lib.Math.min.code 2 (some .int) ∈ gt := by
  have h : Cond.code Lib.Math.min.name Lib.Math.min.code 2 (some .int) = Cond.code mJ9_min_7cf53.1 mJ9_min_7cf53.2.1 mJ9_min_7cf53.2.2.1 mJ9_min_7cf53.2.2.2.1 := by decide +kernel
  rw [h]; exact wcJ9_min_7cf53
theorem qV_max {idx : Nat} {a b : Int} (hlk : Cond.methodLink M.1.cls idx yJ9_max_7cf53 ∈ gt) (hd : decode M.2.1 pc = .ok (.invokestatic idx, 3)) (ha : iR a) (hb : iR b) (hfr : 1 ≤ R.frames) (hcs : k ≤ R.cells ∧ n ≤ R.slots) (hlo : (st.map fun v => v.category).sum + 13 ≤ R.locals) (kk : qV l M R EX G h0 sz0 k n h sz (pc + 3) L (vI (max a b) :: st)) : qV l M R EX G h0 sz0 k n h sz pc L (vI b :: vI a :: st) := by
  intro D p e s m args below meth c H locs ls hF hK hE hz hR hS hA hL
  have hts := hF.2.2.2.2.1
  refine va_mmax hF.1 hF.2.1 (hF.2.2.1.trans hL.1.symm) hF.2.2.2.1 (hts _ hlk) (hts _ wtJ9_max_7cf53) (hts _ wn_J9) (hts _ wc_max) hfr hlo hcs.1 hcs.2 hd ?_
  have e1 : (if Int32.ofInt a < Int32.ofInt b then Int32.ofInt b else Int32.ofInt a) = Int32.ofInt (max a b) := by
    by_cases hab : a < b
    · rw [if_pos ((iR_lt ha hb).mpr hab), show max a b = b by omega]
    · rw [if_neg (fun q => hab ((iR_lt ha hb).mp q)), show max a b = a by omega]
  rw [e1]
  exact kk D p e s m args below meth c H locs ls hF hK hE hz hR hS hA hL
theorem qV_min {idx : Nat} {a b : Int} (hlk : Cond.methodLink M.1.cls idx yJ9_min_7cf53 ∈ gt) (hd : decode M.2.1 pc = .ok (.invokestatic idx, 3)) (ha : iR a) (hb : iR b) (hfr : 1 ≤ R.frames) (hcs : k ≤ R.cells ∧ n ≤ R.slots) (hlo : (st.map fun v => v.category).sum + 13 ≤ R.locals) (kk : qV l M R EX G h0 sz0 k n h sz (pc + 3) L (vI (min a b) :: st)) : qV l M R EX G h0 sz0 k n h sz pc L (vI b :: vI a :: st) := by
  intro D p e s m args below meth c H locs ls hF hK hE hz hR hS hA hL
  have hts := hF.2.2.2.2.1
  refine va_mmin hF.1 hF.2.1 (hF.2.2.1.trans hL.1.symm) hF.2.2.2.1 (hts _ hlk) (hts _ wtJ9_min_7cf53) (hts _ wn_J9) (hts _ wc_min) hfr hlo hcs.1 hcs.2 hd ?_
  have e1 : (if Int32.ofInt b < Int32.ofInt a then Int32.ofInt b else Int32.ofInt a) = Int32.ofInt (min a b) := by
    by_cases hab : b < a
    · first | rw [if_pos ((iR_lt hb ha).mpr hab), show min a b = b by omega] | rw [if_neg (fun q => by have := (iR_le ha hb).mp q; omega), show min a b = b by omega] | rw [if_neg (fun q => by have := (iR_lt ha hb).mp q; omega), show min a b = b by omega]
    · first | rw [if_neg (fun q => hab ((iR_lt hb ha).mp q)), show min a b = a by omega] | rw [if_pos ((iR_le ha hb).mpr (by omega)), show min a b = a by omega]
  rw [e1]
  exact kk D p e s m args below meth c H locs ls hF hK hE hz hR hS hA hL
end QC
