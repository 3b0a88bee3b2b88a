/-! METHODS AND LINKS (printed by wip/whole/gen/tabs.py) -/
def mX0_init : zM := (yX0_init, cX0_init, 1, none, [], 2, 32)
def mX0_copyFrom : zM := (yX0_copyFrom, cX0_copyFrom, 2, none, [], 2, 39)
def mX0_noteIn : zM := (yX0_noteIn, cX0_noteIn, 3, none, [], 1, 20)
def mX0_returnTo : zM := (yX0_returnTo, cX0_returnTo, 3, none, [], 1, 21)
def mX0_ledgerOf : zM := (yX0_ledgerOf, cX0_ledgerOf, 2, (some .int), [], 1, 20)
def mX0_giveLedger : zM := (yX0_giveLedger, cX0_giveLedger, 3, none, [], 1, 21)
def mX0_housesWith : zM := (yX0_housesWith, cX0_housesWith, 4, (some .int), [], 2, 41)
def mX0_versionsOfHouses : zM := (yX0_versionsOfHouses, cX0_versionsOfHouses, 3, (some .int), [], 3, 64)
def mX1_init : zM := (yX1_init, cX1_init, 1, none, [], 3, 52)
def mX1_carryOut : zM := (yX1_carryOut, cX1_carryOut, 3, (some .int), [], 5, 118)
def mX1_enter : zM := (yX1_enter, cX1_enter, 5, (some .int), [], 4, 92)
def mX1_copyLines : zM := (yX1_copyLines, cX1_copyLines, 6, (some .int), [], 4, 93)
def mX1_takeOver : zM := (yX1_takeOver, cX1_takeOver, 4, (some .int), [], 2, 43)
def mX1_goBack : zM := (yX1_goBack, cX1_goBack, 5, (some .int), [], 3, 66)
def mX1_letGoBy : zM := (yX1_letGoBy, cX1_letGoBy, 2, (some .int), [], 1, 22)
def mX2_init : zM := (yX2_init, cX2_init, 1, none, [], 1, 12)
def mX2_size : zM := (yX2_size, cX2_size, 1, (some .int), [], 0, 0)
def mX2_isFull : zM := (yX2_isFull, cX2_isFull, 1, (some .boolean), [], 0, 0)
def mX2_put : zM := (yX2_put, cX2_put, 2, none, [], 1, 20)
def mX2_clear : zM := (yX2_clear, cX2_clear, 1, none, [], 0, 0)
def mX2_rewind : zM := (yX2_rewind, cX2_rewind, 1, none, [], 0, 0)
def mX2_kind : zM := (yX2_kind, cX2_kind, 1, (some .char), [], 0, 0)
def mX2_number : zM := (yX2_number, cX2_number, 2, (some .int), [], 0, 0)
def mX2_findFault : zM := (yX2_findFault, cX2_findFault, 2, (some .int), [], 5, 110)
def mX2_readCommand : zM := (yX2_readCommand, cX2_readCommand, 6, (some .boolean), [], 4, 85)
def mX2_readSign : zM := (yX2_readSign, cX2_readSign, 2, (some .boolean), [], 1, 20)
def mX2_readNumber : zM := (yX2_readNumber, cX2_readNumber, 5, (some .boolean), [], 1, 20)
def mX2_signAhead : zM := (yX2_signAhead, cX2_signAhead, 1, (some .char), [], 0, 0)
def mX2_formOf : zM := (yX2_formOf, cX2_formOf, 1, (some (.object "java/lang/String")), [], 0, 0)
def mX3_init : zM := (yX3_init, cX3_init, 1, none, [], 1, 12)
def mX3_size : zM := (yX3_size, cX3_size, 1, (some .int), [], 0, 0)
def mX3_note : zM := (yX3_note, cX3_note, 2, none, [], 2, 42)
def mX3_takeBack : zM := (yX3_takeBack, cX3_takeBack, 2, none, [], 2, 43)
def mX3_keep : zM := (yX3_keep, cX3_keep, 1, none, [], 1, 18)
def mX3_dropLatest : zM := (yX3_dropLatest, cX3_dropLatest, 1, none, [], 0, 0)
def mX3_forget : zM := (yX3_forget, cX3_forget, 1, none, [], 0, 0)
def mX4_init : zM := (yX4_init, cX4_init, 1, none, [], 1, 12)
def mX4_refuse : zM := (yX4_refuse, cX4_refuse, 3, (some .int), [], 0, 0)
def mX5_init : zM := (yX5_init, cX5_init, 1, none, [], 1, 12)
def mX5_size : zM := (yX5_size, cX5_size, 1, (some .int), [], 0, 0)
def mX5_signAt : zM := (yX5_signAt, cX5_signAt, 2, (some .char), [], 0, 0)
def mX5_clear : zM := (yX5_clear, cX5_clear, 1, none, [], 0, 0)
def mX5_put : zM := (yX5_put, cX5_put, 2, none, [], 0, 0)
def mX5_separate : zM := (yX5_separate, cX5_separate, 2, none, [], 1, 21)
def mX5_putNumber : zM := (yX5_putNumber, cX5_putNumber, 2, none, [], 1, 21)
def mX6_init : zM := (yX6_init, cX6_init, 1, none, [], 1, 12)
def mX6_copyFrom : zM := (yX6_copyFrom, cX6_copyFrom, 2, none, [], 1, 18)
def mX6_size : zM := (yX6_size, cX6_size, 1, (some .int), [], 0, 0)
def mX6_forgetFrom : zM := (yX6_forgetFrom, cX6_forgetFrom, 2, none, [], 0, 0)
def mX6_has : zM := (yX6_has, cX6_has, 2, (some .boolean), [], 0, 0)
def mX6_isFull : zM := (yX6_isFull, cX6_isFull, 1, (some .boolean), [], 0, 0)
def mX6_parentOf : zM := (yX6_parentOf, cX6_parentOf, 2, (some .int), [], 1, 21)
def mX6_yearOf : zM := (yX6_yearOf, cX6_yearOf, 2, (some .int), [], 1, 21)
def mX6_makerOf : zM := (yX6_makerOf, cX6_makerOf, 3, (some .int), [], 1, 21)
def mX6_totalOf : zM := (yX6_totalOf, cX6_totalOf, 4, (some .int), [], 1, 21)
def mX6_amountOn : zM := (yX6_amountOn, cX6_amountOn, 3, (some .int), [], 2, 44)
def mX6_addWritten : zM := (yX6_addWritten, cX6_addWritten, 7, (some .int), [], 3, 66)
def mX6_addGrafted : zM := (yX6_addGrafted, cX6_addGrafted, 8, (some .int), [], 3, 66)
def mX6_addChild : zM := (yX6_addChild, cX6_addChild, 4, (some .int), [], 1, 21)
def mX6_makePage : zM := (yX6_makePage, cX6_makePage, 4, none, [], 1, 21)
def mX6_takePage : zM := (yX6_takePage, cX6_takePage, 4, none, [], 1, 21)
def mX6_totalOfHalves : zM := (yX6_totalOfHalves, cX6_totalOfHalves, 3, (some .int), [], 2, 44)
def mX6_sumByPages : zM := (yX6_sumByPages, cX6_sumByPages, 7, (some .int), [], 2, 44)
def mX6_sumByLines : zM := (yX6_sumByLines, cX6_sumByLines, 6, (some .int), [], 3, 66)
def mX6_lineWithMost : zM := (yX6_lineWithMost, cX6_lineWithMost, 6, (some .int), [], 3, 66)
def mX6_lineReaching : zM := (yX6_lineReaching, cX6_lineReaching, 5, (some .int), [], 3, 66)
def mX6_earlier : zM := (yX6_earlier, cX6_earlier, 5, (some .int), [], 2, 42)
def mX6_ancestorsOf : zM := (yX6_ancestorsOf, cX6_ancestorsOf, 4, (some .int), [], 2, 42)
def mX6_childrenOf : zM := (yX6_childrenOf, cX6_childrenOf, 4, (some .int), [], 2, 42)
def mX6_withoutChildren : zM := (yX6_withoutChildren, cX6_withoutChildren, 3, (some .int), [], 3, 65)
def mX6_pagesMadeBy : zM := (yX6_pagesMadeBy, cX6_pagesMadeBy, 4, (some .int), [], 2, 43)
def mX6_pagesMade : zM := (yX6_pagesMade, cX6_pagesMade, 3, (some .int), [], 3, 66)
def mX6_linesNewIn : zM := (yX6_linesNewIn, cX6_linesNewIn, 3, (some .int), [], 4, 92)
def mX6_linesApart : zM := (yX6_linesApart, cX6_linesApart, 7, (some .int), [], 3, 66)
def mX6_othersAlike : zM := (yX6_othersAlike, cX6_othersAlike, 4, (some .int), [], 4, 92)
def mX6_latestByYear : zM := (yX6_latestByYear, cX6_latestByYear, 5, (some .int), [], 2, 42)
def mX6_earliestWithAmountOf : zM := (yX6_earliestWithAmountOf, cX6_earliestWithAmountOf, 7, (some .int), [], 3, 66)
def mX6_latestCommon : zM := (yX6_latestCommon, cX6_latestCommon, 6, (some .int), [], 2, 42)
def mX6_pagesInBoth : zM := (yX6_pagesInBoth, cX6_pagesInBoth, 5, (some .int), [], 2, 43)
def mX6_usersOf : zM := (yX6_usersOf, cX6_usersOf, 5, (some .int), [], 2, 43)
def mX6_atPlace : zM := (yX6_atPlace, cX6_atPlace, 3, (some .int), [], 3, 69)
def mX6_versionsAheadOf : zM := (yX6_versionsAheadOf, cX6_versionsAheadOf, 6, (some .int), [], 2, 44)
def mX6_withMostPagesOfOthers : zM := (yX6_withMostPagesOfOthers, cX6_withMostPagesOfOthers, 5, (some .int), [], 4, 90)
def mX6_pagesOfOthersMadeBy : zM := (yX6_pagesOfOthersMadeBy, cX6_pagesOfOthersMadeBy, 4, (some .int), [], 3, 67)
def mX7_init : zM := (yX7_init, cX7_init, 1, none, [], 4, 72)
def mX7_write : zM := (yX7_write, cX7_write, 4, (some .int), [], 7, 116)
def mX7_graft : zM := (yX7_graft, cX7_graft, 5, (some .int), [], 7, 118)
def mX7_fork : zM := (yX7_fork, cX7_fork, 3, (some .int), [], 7, 103)
def mX7_back : zM := (yX7_back, cX7_back, 3, (some .int), [], 7, 103)
def mX7_pass : zM := (yX7_pass, cX7_pass, 2, (some .int), [], 7, 103)
def mX7_ledger : zM := (yX7_ledger, cX7_ledger, 2, (some .int), [], 7, 102)
def mX7_amount : zM := (yX7_amount, cX7_amount, 3, (some .int), [], 7, 103)
def mX7_sum : zM := (yX7_sum, cX7_sum, 4, (some .int), [], 7, 103)
def mX7_sumAgain : zM := (yX7_sumAgain, cX7_sumAgain, 4, (some .int), [], 7, 103)
def mX7_most : zM := (yX7_most, cX7_most, 4, (some .int), [], 7, 103)
def mX7_reached : zM := (yX7_reached, cX7_reached, 4, (some .int), [], 7, 103)
def mX7_versionOf : zM := (yX7_versionOf, cX7_versionOf, 3, (some .int), [], 7, 114)
def mX7_maker : zM := (yX7_maker, cX7_maker, 3, (some .int), [], 7, 103)
def mX7_had : zM := (yX7_had, cX7_had, 3, (some .int), [], 7, 102)
def mX7_since : zM := (yX7_since, cX7_since, 3, (some .int), [], 7, 103)
def mX7_common : zM := (yX7_common, cX7_common, 3, (some .int), [], 7, 103)
def mX7_apart : zM := (yX7_apart, cX7_apart, 3, (some .int), [], 7, 103)
def mX7_shared : zM := (yX7_shared, cX7_shared, 3, (some .int), [], 7, 103)
def mX7_isOf : zM := (yX7_isOf, cX7_isOf, 3, (some .boolean), [], 7, 103)
def mX7_users : zM := (yX7_users, cX7_users, 3, (some .int), [], 7, 103)
def mX7_wouldMake : zM := (yX7_wouldMake, cX7_wouldMake, 5, (some .int), [], 7, 103)
def mX7_alike : zM := (yX7_alike, cX7_alike, 2, (some .int), [], 7, 115)
def mX7_richest : zM := (yX7_richest, cX7_richest, 3, (some .int), [], 6, 91)
def mX7_busiest : zM := (yX7_busiest, cX7_busiest, 1, (some .int), [], 6, 114)
def mX7_append : zM := (yX7_append, cX7_append, 2, (some .int), [], 6, 82)
def mX7_commands : zM := (yX7_commands, cX7_commands, 3, (some .int), [], 7, 140)
def mX7_faultPosition : zM := (yX7_faultPosition, cX7_faultPosition, 1, (some .int), [], 0, 0)
def mX7_reason : zM := (yX7_reason, cX7_reason, 2, (some .int), [], 6, 82)
def mX7_line : zM := (yX7_line, cX7_line, 4, (some .int), [], 7, 103)
def mX7_lineage : zM := (yX7_lineage, cX7_lineage, 4, (some .int), [], 7, 103)
def mX7_character : zM := (yX7_character, cX7_character, 2, (some .char), [], 6, 82)
def mX7_mean : zM := (yX7_mean, cX7_mean, 2, (some .double), [], 7, 103)
def mX7_spared : zM := (yX7_spared, cX7_spared, 2, (some .float), [], 4, 88)
def mX7_account : zM := (yX7_account, cX7_account, 2, (some .int), [], 6, 88)
def mX7_undo : zM := (yX7_undo, cX7_undo, 1, (some .int), [], 6, 82)
def mX7_save : zM := (yX7_save, cX7_save, 1, (some .int), [], 3, 60)
def mX7_restore : zM := (yX7_restore, cX7_restore, 1, (some .int), [], 6, 82)
def mX7_settled : zM := (yX7_settled, cX7_settled, 2, (some .int), [], 6, 82)
def mX7_checkVersion : zM := (yX7_checkVersion, cX7_checkVersion, 2, none, [], 6, 82)
def mX7_checkHouse : zM := (yX7_checkHouse, cX7_checkHouse, 1, none, [], 6, 82)
def mX7_checkLines : zM := (yX7_checkLines, cX7_checkLines, 2, none, [], 6, 82)
def mX7_checkSpan : zM := (yX7_checkSpan, cX7_checkSpan, 1, none, [], 6, 82)
def mX7_isHouse : zM := (yX7_isHouse, cX7_isHouse, 1, (some .boolean), [], 0, 0)
def mX7_isLine : zM := (yX7_isLine, cX7_isLine, 1, (some .boolean), [], 0, 0)
def mX7_isSpan : zM := (yX7_isSpan, cX7_isSpan, 1, (some .boolean), [], 0, 0)
def mX7_isInside : zM := (yX7_isInside, cX7_isInside, 3, (some .boolean), [], 1, 20)
def mX7_isCut : zM := (yX7_isCut, cX7_isCut, 3, (some .boolean), [], 1, 20)
def mX7_isDigit : zM := (yX7_isDigit, cX7_isDigit, 1, (some .boolean), [], 0, 0)
def mX8_init : zM := (yX8_init, cX8_init, 3, none, [], 1, 12)
def mX8_thrown : zM := (yX8_thrown, cX8_thrown, 1, (some .int), [], 0, 0)
def mX8_fails : zM := (yX8_fails, cX8_fails, 2, (some .boolean), [], 0, 0)
def mX8_refuses : zM := (yX8_refuses, cX8_refuses, 3, (some .int), [], 0, 0)
def mX8_in : zM := (yX8_in, cX8_in, 3, (some .boolean), [], 0, 0)
def mX8_copies : zM := (yX8_copies, cX8_copies, 5, none, [], 0, 0)
def mX8_keeps : zM := (yX8_keeps, cX8_keeps, 3, none, [], 1, 24)
def mX8_of : zM := (yX8_of, cX8_of, 3, (some .int), [], 0, 0)
def mX8_lays : zM := (yX8_lays, cX8_lays, 4, none, [], 0, 0)
def mX8_isVersion : zM := (yX8_isVersion, cX8_isVersion, 2, (some .boolean), [], 1, 22)
def mX8_isHouse : zM := (yX8_isHouse, cX8_isHouse, 1, (some .boolean), [], 1, 22)
def mX8_isLine : zM := (yX8_isLine, cX8_isLine, 1, (some .boolean), [], 1, 22)
def mX8_amountOf : zM := (yX8_amountOf, cX8_amountOf, 3, (some .int), [], 1, 22)
def mX8_has : zM := (yX8_has, cX8_has, 4, (some .boolean), [], 0, 0)
def mX8_isWithin0 : zM := (yX8_isWithin0, cX8_isWithin0, 4, (some .boolean), [], 0, 0)
def mX8_comes : zM := (yX8_comes, cX8_comes, 5, (some .int), [], 1, 23)
def mX8_write : zM := (yX8_write, cX8_write, 6, (some .int), [], 2, 47)
def mX8_areLike : zM := (yX8_areLike, cX8_areLike, 6, (some .boolean), [], 2, 44)
def mX8_graft : zM := (yX8_graft, cX8_graft, 7, (some .int), [], 3, 69)
def mX8_fork : zM := (yX8_fork, cX8_fork, 3, (some .int), [], 2, 46)
def mX8_ancestors : zM := (yX8_ancestors, cX8_ancestors, 4, (some .int), [], 1, 22)
def mX8_back : zM := (yX8_back, cX8_back, 5, (some .int), [], 2, 46)
def mX8_pass : zM := (yX8_pass, cX8_pass, 2, (some .int), [], 2, 46)
def mX8_ledger : zM := (yX8_ledger, cX8_ledger, 2, (some .int), [], 2, 42)
def mX8_amount : zM := (yX8_amount, cX8_amount, 3, (some .int), [], 2, 44)
def mX8_sumOf : zM := (yX8_sumOf, cX8_sumOf, 6, (some .int), [], 2, 44)
def mX8_areLines : zM := (yX8_areLines, cX8_areLines, 2, (some .boolean), [], 2, 42)
def mX8_sum : zM := (yX8_sum, cX8_sum, 4, (some .int), [], 3, 69)
def mX8_sumAgain : zM := (yX8_sumAgain, cX8_sumAgain, 4, (some .int), [], 4, 92)
def mX8_most : zM := (yX8_most, cX8_most, 6, (some .int), [], 3, 63)
def mX8_reached : zM := (yX8_reached, cX8_reached, 4, (some .int), [], 3, 69)
def mX8_children : zM := (yX8_children, cX8_children, 4, (some .int), [], 1, 22)
def mX8_made : zM := (yX8_made, cX8_made, 4, (some .int), [], 1, 22)
def mX8_apart0 : zM := (yX8_apart0, cX8_apart0, 5, (some .int), [], 2, 44)
def mX8_houses : zM := (yX8_houses, cX8_houses, 4, (some .int), [], 0, 0)
def mX8_versionOf : zM := (yX8_versionOf, cX8_versionOf, 3, (some .int), [], 3, 68)
def mX8_maker : zM := (yX8_maker, cX8_maker, 3, (some .int), [], 2, 43)
def mX8_had : zM := (yX8_had, cX8_had, 4, (some .int), [], 2, 42)
def mX8_since : zM := (yX8_since, cX8_since, 4, (some .int), [], 2, 44)
def mX8_areVersions : zM := (yX8_areVersions, cX8_areVersions, 3, (some .boolean), [], 2, 43)
def mX8_common : zM := (yX8_common, cX8_common, 5, (some .int), [], 3, 65)
def mX8_apart : zM := (yX8_apart, cX8_apart, 3, (some .int), [], 3, 68)
def mX8_shared : zM := (yX8_shared, cX8_shared, 5, (some .int), [], 3, 65)
def mX8_isOf : zM := (yX8_isOf, cX8_isOf, 4, (some .boolean), [], 3, 65)
def mX8_usersOf : zM := (yX8_usersOf, cX8_usersOf, 5, (some .int), [], 1, 22)
def mX8_users : zM := (yX8_users, cX8_users, 3, (some .int), [], 2, 46)
def mX8_wouldMake : zM := (yX8_wouldMake, cX8_wouldMake, 5, (some .int), [], 3, 63)
def mX8_alike : zM := (yX8_alike, cX8_alike, 4, (some .int), [], 3, 68)
def mX8_richest : zM := (yX8_richest, cX8_richest, 7, (some .int), [], 3, 69)
def mX8_lent : zM := (yX8_lent, cX8_lent, 4, (some .int), [], 2, 46)
def mX8_busiest : zM := (yX8_busiest, cX8_busiest, 3, (some .int), [], 3, 69)
def mX8_append : zM := (yX8_append, cX8_append, 2, (some .int), [], 1, 21)
def mX8_here : zM := (yX8_here, cX8_here, 1, (some .int), [], 0, 0)
def mX8_skips : zM := (yX8_skips, cX8_skips, 2, (some .boolean), [], 1, 20)
def mX8_figures : zM := (yX8_figures, cX8_figures, 4, (some .boolean), [], 1, 22)
def mX8_commandHere : zM := (yX8_commandHere, cX8_commandHere, 2, (some .boolean), [], 2, 45)
def mX8_isText : zM := (yX8_isText, cX8_isText, 1, (some .boolean), [], 3, 66)
def mX8_carries : zM := (yX8_carries, cX8_carries, 2, (some .int), [], 4, 95)
def mX8_commands : zM := (yX8_commands, cX8_commands, 3, (some .int), [], 5, 116)
def mX8_faultPosition : zM := (yX8_faultPosition, cX8_faultPosition, 1, (some .int), [], 0, 0)
def mX8_reason : zM := (yX8_reason, cX8_reason, 2, (some .int), [], 1, 22)
def mX8_writes : zM := (yX8_writes, cX8_writes, 2, none, [], 0, 0)
def mX8_writesNumber : zM := (yX8_writesNumber, cX8_writesNumber, 2, none, [], 1, 21)
def mX8_line : zM := (yX8_line, cX8_line, 3, (some .int), [], 2, 44)
def mX8_lineage : zM := (yX8_lineage, cX8_lineage, 3, (some .int), [], 2, 43)
def mX8_character : zM := (yX8_character, cX8_character, 2, (some .char), [], 1, 22)
def mX8_mean : zM := (yX8_mean, cX8_mean, 2, (some .double), [], 3, 69)
def mX8_allMade : zM := (yX8_allMade, cX8_allMade, 3, (some .int), [], 2, 45)
def mX8_spared : zM := (yX8_spared, cX8_spared, 1, (some .float), [], 3, 67)
def mX8_versionsThat : zM := (yX8_versionsThat, cX8_versionsThat, 4, (some .int), [], 2, 45)
def mX8_account : zM := (yX8_account, cX8_account, 2, (some .int), [], 3, 68)
def mX8_undo : zM := (yX8_undo, cX8_undo, 1, (some .int), [], 1, 24)
def mX8_save : zM := (yX8_save, cX8_save, 1, (some .int), [], 1, 24)
def mX8_restore : zM := (yX8_restore, cX8_restore, 1, (some .int), [], 1, 24)
def mJ0_length_8abf5 : zM := (yJ0_length_8abf5, cJ0_length_8abf5, 1, (some .int), [], 1, 20)
def mJ0_isEmpty_aae02 : zM := (yJ0_isEmpty_aae02, cJ0_isEmpty_aae02, 1, (some .boolean), [], 0, 0)
def mJ0_charAt_5068e : zM := (yJ0_charAt_5068e, cJ0_charAt_5068e, 2, (some .char), [], 3, 64)
def mJ0_coder_7d493 : zM := (yJ0_coder_7d493, cJ0_coder_7d493, 1, (some .byte), [], 0, 0)
def mJ0_isLatin1_aae02 : zM := (yJ0_isLatin1_aae02, cJ0_isLatin1_aae02, 1, (some .boolean), [], 0, 0)
def mJ0_checkIndex_df160 : zM := (yJ0_checkIndex_df160, cJ0_checkIndex_df160, 2, none, [], 1, 22)
def mJ1_charAt_3b067 : zM := (yJ1_charAt_3b067, cJ1_charAt_3b067, 2, (some .char), [], 2, 43)
def mJ3_checkIndex_8e157 : zM := (yJ3_checkIndex_8e157, cJ3_checkIndex_8e157, 3, (some .int), [], 0, 0)
def mL_write : zM := (yL_write, cL_write, 6, (some .int), [(0, 12, 15, 13)], 8, 139)
def mL_graft : zM := (yL_graft, cL_graft, 7, (some .int), [(0, 14, 17, 13)], 8, 142)
def mL_fork : zM := (yL_fork, cL_fork, 5, (some .int), [(0, 10, 13, 13)], 8, 125)
def mL_back : zM := (yL_back, cL_back, 5, (some .int), [(0, 10, 13, 13)], 8, 125)
def mL_pass : zM := (yL_pass, cL_pass, 4, (some .int), [(0, 9, 12, 13)], 8, 124)
def mL_ledger : zM := (yL_ledger, cL_ledger, 4, (some .int), [(0, 9, 12, 33)], 8, 123)
def mL_amount : zM := (yL_amount, cL_amount, 5, (some .int), [(0, 10, 13, 33), (0, 10, 17, 38)], 8, 125)
def mL_sum : zM := (yL_sum, cL_sum, 6, (some .int), [(0, 12, 15, 33), (0, 12, 19, 38)], 8, 126)
def mL_sumAgain : zM := (yL_sumAgain, cL_sumAgain, 6, (some .int), [(0, 12, 15, 33), (0, 12, 19, 38)], 8, 126)
def mL_most : zM := (yL_most, cL_most, 6, (some .int), [(0, 12, 15, 33), (0, 12, 19, 38)], 8, 126)
def mL_reached : zM := (yL_reached, cL_reached, 5, (some .int), [(0, 10, 13, 33), (0, 10, 17, 52)], 8, 126)
def mL_versionOf : zM := (yL_versionOf, cL_versionOf, 5, (some .int), [(0, 10, 13, 33), (0, 10, 17, 38)], 8, 136)
def mL_maker : zM := (yL_maker, cL_maker, 5, (some .int), [(0, 10, 13, 33), (0, 10, 17, 38)], 8, 125)
def mL_had : zM := (yL_had, cL_had, 5, (some .int), [(0, 10, 13, 33), (0, 10, 17, 38)], 8, 124)
def mL_since : zM := (yL_since, cL_since, 5, (some .int), [(0, 10, 13, 33), (0, 10, 17, 38)], 8, 125)
def mL_common : zM := (yL_common, cL_common, 5, (some .int), [(0, 10, 13, 33)], 8, 125)
def mL_apart : zM := (yL_apart, cL_apart, 5, (some .int), [(0, 10, 13, 33)], 8, 125)
def mL_shared : zM := (yL_shared, cL_shared, 5, (some .int), [(0, 10, 13, 33)], 8, 125)
def mL_isOf : zM := (yL_isOf, cL_isOf, 5, (some .int), [(0, 17, 20, 33)], 8, 125)
def mL_users : zM := (yL_users, cL_users, 5, (some .int), [(0, 10, 13, 33), (0, 10, 17, 38)], 8, 125)
def mL_wouldMake : zM := (yL_wouldMake, cL_wouldMake, 5, (some .int), [(0, 10, 13, 38)], 8, 127)
def mL_alike : zM := (yL_alike, cL_alike, 4, (some .int), [(0, 9, 12, 33)], 8, 136)
def mL_richest : zM := (yL_richest, cL_richest, 4, (some .int), [(0, 9, 12, 52)], 7, 113)
def mL_busiest : zM := (yL_busiest, cL_busiest, 3, (some .int), [(0, 8, 11, 52)], 7, 134)
def mL_append : zM := (yL_append, cL_append, 4, (some .int), [(0, 9, 12, 99)], 7, 103)
def mL_commands : zM := (yL_commands, cL_commands, 3, (some .int), [(0, 8, 11, 38), (0, 8, 14, 13)], 8, 162)
def mL_reason : zM := (yL_reason, cL_reason, 4, (some .int), [(0, 9, 12, 38), (0, 9, 15, 52)], 7, 103)
def mL_line : zM := (yL_line, cL_line, 4, (some .int), [(0, 9, 12, 33)], 8, 126)
def mL_lineage : zM := (yL_lineage, cL_lineage, 4, (some .int), [(0, 9, 12, 33)], 8, 126)
def mL_character : zM := (yL_character, cL_character, 4, (some .int), [(0, 9, 12, 33)], 7, 103)
def mL_mean : zM := (yL_mean, cL_mean, 4, (some .int), [(0, 8, 11, 33)], 8, 124)
def mL_account : zM := (yL_account, cL_account, 4, (some .int), [(0, 9, 12, 38)], 7, 109)
def mL_undo : zM := (yL_undo, cL_undo, 3, (some .int), [(0, 8, 11, 99)], 7, 102)
def mL_restore : zM := (yL_restore, cL_restore, 3, (some .int), [(0, 8, 11, 99)], 7, 102)
def mL_law : zM := (yL_law, cL_law, 10, (some .boolean), [], 9, 184)
theorem zt_objInit : Cond.instanceMethod Lib.objectInit ∈ zT ∧ Cond.code Lib.objectInit ⟨#[0xb1]⟩ 1 none ∈ zT := ⟨zT_in 70 (by decide +kernel) rfl, zT_in 71 (by decide +kernel) rfl⟩
theorem zt_copy : Cond.native arraycopyName ∈ zT ∧ Cond.static arraycopyName ∈ zT ∧ Cond.initialized "java/lang/System" ∈ zT := ⟨zT_in 289 (by decide +kernel) rfl, zT_in 288 (by decide +kernel) rfl, zT_in 51 (by decide +kernel) rfl⟩
theorem zt_arr_int : Cond.arrayClass .int ∈ zT := zT_in 106 (by decide +kernel) rfl
theorem zt_arr_char : Cond.arrayClass .char ∈ zT := zT_in 199 (by decide +kernel) rfl
theorem zt_arr_long : Cond.arrayClass .long ∈ zT := zT_in 1459 (by decide +kernel) rfl
theorem zt_arr_double : Cond.arrayClass .double ∈ zT := zT_in 1460 (by decide +kernel) rfl
theorem zcw0 : ∀ w ∈ u_ws RX0 TX0 5, w ∈ zT := fun w hw => List.mem_filter.mpr ⟨(goodIn_r (big := lw_tbl) (u_ws RX0 TX0 5) [120, 122, 124, 126, 128] (by decide +kernel) (by decide +kernel) w hw).1, List.all_eq_true.mp (by decide +kernel : (u_ws RX0 TX0 5).all goodWord = true) w hw⟩
theorem zcl0 : zClOk 0 RX0 TX0 tyX0 := ⟨rfl, zcw0, tyX0_ok, nmX0, by decide +kernel, by decide +kernel⟩
theorem zcw1 : ∀ w ∈ u_ws RX1 TX1 3, w ∈ zT := fun w hw => List.mem_filter.mpr ⟨(goodIn_r (big := lw_tbl) (u_ws RX1 TX1 3) [155, 157, 159] (by decide +kernel) (by decide +kernel) w hw).1, List.all_eq_true.mp (by decide +kernel : (u_ws RX1 TX1 3).all goodWord = true) w hw⟩
theorem zcl1 : zClOk 1 RX1 TX1 tyX1 := ⟨rfl, zcw1, tyX1_ok, nmX1, by decide +kernel, by decide +kernel⟩
theorem zcw2 : ∀ w ∈ u_ws RX2 TX2 5, w ∈ zT := fun w hw => List.mem_filter.mpr ⟨(goodIn_r (big := lw_tbl) (u_ws RX2 TX2 5) [188, 190, 192, 194, 196] (by decide +kernel) (by decide +kernel) w hw).1, List.all_eq_true.mp (by decide +kernel : (u_ws RX2 TX2 5).all goodWord = true) w hw⟩
theorem zcl2 : zClOk 2 RX2 TX2 tyX2 := ⟨rfl, zcw2, tyX2_ok, nmX2, by decide +kernel, by decide +kernel⟩
theorem zcw3 : ∀ w ∈ u_ws RX3 TX3 2, w ∈ zT := fun w hw => List.mem_filter.mpr ⟨(goodIn_r (big := lw_tbl) (u_ws RX3 TX3 2) [172, 174] (by decide +kernel) (by decide +kernel) w hw).1, List.all_eq_true.mp (by decide +kernel : (u_ws RX3 TX3 2).all goodWord = true) w hw⟩
theorem zcl3 : zClOk 3 RX3 TX3 tyX3 := ⟨rfl, zcw3, tyX3_ok, nmX3, by decide +kernel, by decide +kernel⟩
theorem zcw4 : ∀ w ∈ u_ws RX4 TX4 3, w ∈ zT := fun w hw => List.mem_filter.mpr ⟨(goodIn_r (big := lw_tbl) (u_ws RX4 TX4 3) [143, 145, 147] (by decide +kernel) (by decide +kernel) w hw).1, List.all_eq_true.mp (by decide +kernel : (u_ws RX4 TX4 3).all goodWord = true) w hw⟩
theorem zcl4 : zClOk 4 RX4 TX4 tyX4 := ⟨rfl, zcw4, tyX4_ok, nmX4, by decide +kernel, by decide +kernel⟩
theorem zcw5 : ∀ w ∈ u_ws RX5 TX5 2, w ∈ zT := fun w hw => List.mem_filter.mpr ⟨(goodIn_r (big := lw_tbl) (u_ws RX5 TX5 2) [208, 210] (by decide +kernel) (by decide +kernel) w hw).1, List.all_eq_true.mp (by decide +kernel : (u_ws RX5 TX5 2).all goodWord = true) w hw⟩
theorem zcl5 : zClOk 5 RX5 TX5 tyX5 := ⟨rfl, zcw5, tyX5_ok, nmX5, by decide +kernel, by decide +kernel⟩
theorem zcw6 : ∀ w ∈ u_ws RX6 TX6 5, w ∈ zT := fun w hw => List.mem_filter.mpr ⟨(goodIn_r (big := lw_tbl) (u_ws RX6 TX6 5) [95, 97, 99, 101, 103] (by decide +kernel) (by decide +kernel) w hw).1, List.all_eq_true.mp (by decide +kernel : (u_ws RX6 TX6 5).all goodWord = true) w hw⟩
theorem zcl6 : zClOk 6 RX6 TX6 tyX6 := ⟨rfl, zcw6, tyX6_ok, nmX6, by decide +kernel, by decide +kernel⟩
theorem zcw7 : ∀ w ∈ u_ws RX7 TX7 10, w ∈ zT := fun w hw => List.mem_filter.mpr ⟨(goodIn_r (big := lw_tbl) (u_ws RX7 TX7 10) [223, 225, 227, 229, 231, 233, 235, 237, 239, 241] (by decide +kernel) (by decide +kernel) w hw).1, List.all_eq_true.mp (by decide +kernel : (u_ws RX7 TX7 10).all goodWord = true) w hw⟩
theorem zcl7 : zClOk 7 RX7 TX7 tyX7 := ⟨rfl, zcw7, tyX7_ok, nmX7, by decide +kernel, by decide +kernel⟩
theorem zcw8 : ∀ w ∈ u_ws RX8 TX8 22, w ∈ zT := fun w hw => List.mem_filter.mpr ⟨(goodIn_r (big := lw_tbl) (u_ws RX8 TX8 22) [1120, 1122, 1124, 1126, 1128, 1130, 1132, 1134, 1136, 1138, 1140, 1142, 1144, 1146, 1148, 1150, 1152, 1154, 1156, 1158, 1160, 1162] (by decide +kernel) (by decide +kernel) w hw).1, List.all_eq_true.mp (by decide +kernel : (u_ws RX8 TX8 22).all goodWord = true) w hw⟩
theorem zcl8 : zClOk 8 RX8 TX8 tyX8 := ⟨rfl, zcw8, tyX8_ok, nmX8, by decide +kernel, by decide +kernel⟩
theorem gsJ0_9 {M : zM} (h : M.1.cls = RJ0) : Cond.fieldLink M.1.cls 9 "java/lang/String" "value" "[B" ∈ zT := by rw [h]; exact zT_in 1478 (by decide +kernel) rfl
theorem gsJ0_15 {M : zM} (h : M.1.cls = RJ0) : Cond.fieldLink M.1.cls 15 "java/lang/String" "coder" "B" ∈ zT := by rw [h]; exact zT_in 1479 (by decide +kernel) rfl
theorem gsJ0_38 {M : zM} (h : M.1.cls = RJ0) : Cond.fieldLink M.1.cls 38 "java/lang/String" "COMPACT_STRINGS" "Z" ∈ zT := by rw [h]; exact zT_in 905 (by decide +kernel) rfl
theorem gsJ0_1053 {M : zM} (h : M.1.cls = RJ0) : Cond.fieldLink M.1.cls 1053 "jdk/internal/util/Preconditions" "SIOOBE_FORMATTER" "Ljava/util/function/BiFunction;" ∈ zT := by rw [h]; exact zT_in 921 (by decide +kernel) rfl
theorem nlL_8 {M : zM} (h : M.1.cls = RL) : zNl M 8 7 := ⟨RX7, TX7, tyX7, zcl7, by rw [h]; exact zT_in 64 (by decide +kernel) rfl, zT_in 65 (by decide +kernel) rfl, zT_in 42 (by decide +kernel) rfl⟩
theorem nlL_131 {M : zM} (h : M.1.cls = RL) : zNl M 131 8 := ⟨RX8, TX8, tyX8, zcl8, by rw [h]; exact zT_in 1092 (by decide +kernel) rfl, zT_in 1093 (by decide +kernel) rfl, zT_in 50 (by decide +kernel) rfl⟩
theorem flX0_12 {M : zM} (h : M.1.cls = RX0) : zFl M 12 0 0 (tyX0 0) true := ⟨RX0, TX0, tyX0, zcl0, by decide, rfl, rfl, by rw [h]; exact Or.inl (zT_in 107 (by decide +kernel) rfl)⟩
theorem ffX0_12 {M : zM} (h : M.1.cls = RX0) (hi : M.1.name = "<init>") : zFf M 12 0 0 := ⟨RX0, TX0, tyX0, zcl0, by decide, Or.inl ⟨_, rfl⟩, rfl, by rw [h]; exact zT_in 107 (by decide +kernel) rfl, hi, h.symm⟩
theorem flX0_18 {M : zM} (h : M.1.cls = RX0) : zFl M 18 0 1 (tyX0 1) true := ⟨RX0, TX0, tyX0, zcl0, by decide, rfl, rfl, by rw [h]; exact Or.inl (zT_in 110 (by decide +kernel) rfl)⟩
theorem ffX0_18 {M : zM} (h : M.1.cls = RX0) (hi : M.1.name = "<init>") : zFf M 18 0 1 := ⟨RX0, TX0, tyX0, zcl0, by decide, Or.inr ⟨_, rfl⟩, rfl, by rw [h]; exact zT_in 110 (by decide +kernel) rfl, hi, h.symm⟩
theorem flX0_22 {M : zM} (h : M.1.cls = RX0) : zFl M 22 0 2 (.int) false := ⟨RX0, TX0, tyX0, zcl0, by decide, rfl, rfl, by rw [h]; exact Or.inl (zT_in 111 (by decide +kernel) rfl)⟩
theorem flX0_26 {M : zM} (h : M.1.cls = RX0) : zFl M 26 0 3 (.int) false := ⟨RX0, TX0, tyX0, zcl0, by decide, rfl, rfl, by rw [h]; exact Or.inl (zT_in 114 (by decide +kernel) rfl)⟩
theorem flX0_29 {M : zM} (h : M.1.cls = RX0) : zFl M 29 0 4 (.int) false := ⟨RX0, TX0, tyX0, zcl0, by decide, rfl, rfl, by rw [h]; exact Or.inl (zT_in 117 (by decide +kernel) rfl)⟩
theorem nlX0_9 {M : zM} (h : M.1.cls = RX0) : zNl M 9 6 := ⟨RX6, TX6, tyX6, zcl6, by rw [h]; exact zT_in 84 (by decide +kernel) rfl, zT_in 85 (by decide +kernel) rfl, zT_in 45 (by decide +kernel) rfl⟩
theorem flX1_12 {M : zM} (h : M.1.cls = RX1) : zFl M 12 1 0 (tyX1 0) true := ⟨RX1, TX1, tyX1, zcl1, by decide, rfl, rfl, by rw [h]; exact Or.inl (zT_in 150 (by decide +kernel) rfl)⟩
theorem ffX1_12 {M : zM} (h : M.1.cls = RX1) (hi : M.1.name = "<init>") : zFf M 12 1 0 := ⟨RX1, TX1, tyX1, zcl1, by decide, Or.inl ⟨_, rfl⟩, rfl, by rw [h]; exact zT_in 150 (by decide +kernel) rfl, hi, h.symm⟩
theorem flX1_21 {M : zM} (h : M.1.cls = RX1) : zFl M 21 1 1 (tyX1 1) true := ⟨RX1, TX1, tyX1, zcl1, by decide, rfl, rfl, by rw [h]; exact Or.inl (zT_in 153 (by decide +kernel) rfl)⟩
theorem ffX1_21 {M : zM} (h : M.1.cls = RX1) (hi : M.1.name = "<init>") : zFf M 21 1 1 := ⟨RX1, TX1, tyX1, zcl1, by decide, Or.inl ⟨_, rfl⟩, rfl, by rw [h]; exact zT_in 153 (by decide +kernel) rfl, hi, h.symm⟩
theorem flX1_25 {M : zM} (h : M.1.cls = RX1) : zFl M 25 0 0 (tyX0 0) true := ⟨RX0, TX0, tyX0, zcl0, by decide, rfl, rfl, by rw [h]; exact Or.inl (zT_in 108 (by decide +kernel) rfl)⟩
theorem flX1_29 {M : zM} (h : M.1.cls = RX1) : zFl M 29 1 2 (tyX1 2) true := ⟨RX1, TX1, tyX1, zcl1, by decide, rfl, rfl, by rw [h]; exact Or.inl (zT_in 154 (by decide +kernel) rfl)⟩
theorem ffX1_29 {M : zM} (h : M.1.cls = RX1) (hi : M.1.name = "<init>") : zFf M 29 1 2 := ⟨RX1, TX1, tyX1, zcl1, by decide, Or.inl ⟨_, rfl⟩, rfl, by rw [h]; exact zT_in 154 (by decide +kernel) rfl, hi, h.symm⟩
theorem flX1_80 {M : zM} (h : M.1.cls = RX1) : zFl M 80 0 2 (.int) false := ⟨RX0, TX0, tyX0, zcl0, by decide, rfl, rfl, by rw [h]; exact Or.inr ⟨"AbbeyLedgers", zNw_in 112 (by decide +kernel) rfl⟩⟩
theorem flX1_91 {M : zM} (h : M.1.cls = RX1) : zFl M 91 0 3 (.int) false := ⟨RX0, TX0, tyX0, zcl0, by decide, rfl, rfl, by rw [h]; exact Or.inr ⟨"AbbeyLedgers", zNw_in 115 (by decide +kernel) rfl⟩⟩
theorem flX1_108 {M : zM} (h : M.1.cls = RX1) : zFl M 108 0 4 (.int) false := ⟨RX0, TX0, tyX0, zcl0, by decide, rfl, rfl, by rw [h]; exact Or.inr ⟨"AbbeyLedgers", zNw_in 118 (by decide +kernel) rfl⟩⟩
theorem nlX1_9 {M : zM} (h : M.1.cls = RX1) : zNl M 9 0 := ⟨RX0, TX0, tyX0, zcl0, by rw [h]; exact zT_in 78 (by decide +kernel) rfl, zT_in 79 (by decide +kernel) rfl, zT_in 44 (by decide +kernel) rfl⟩
theorem nlX1_18 {M : zM} (h : M.1.cls = RX1) : zNl M 18 4 := ⟨RX4, TX4, tyX4, zcl4, by rw [h]; exact zT_in 131 (by decide +kernel) rfl, zT_in 132 (by decide +kernel) rfl, zT_in 46 (by decide +kernel) rfl⟩
theorem flX2_9 {M : zM} (h : M.1.cls = RX2) : zFl M 9 2 0 (tyX2 0) true := ⟨RX2, TX2, tyX2, zcl2, by decide, rfl, rfl, by rw [h]; exact Or.inl (zT_in 183 (by decide +kernel) rfl)⟩
theorem ffX2_9 {M : zM} (h : M.1.cls = RX2) (hi : M.1.name = "<init>") : zFf M 9 2 0 := ⟨RX2, TX2, tyX2, zcl2, by decide, Or.inr ⟨_, rfl⟩, rfl, by rw [h]; exact zT_in 183 (by decide +kernel) rfl, hi, h.symm⟩
theorem flX2_15 {M : zM} (h : M.1.cls = RX2) : zFl M 15 2 1 (.int) false := ⟨RX2, TX2, tyX2, zcl2, by decide, rfl, rfl, by rw [h]; exact Or.inl (zT_in 184 (by decide +kernel) rfl)⟩
theorem flX2_19 {M : zM} (h : M.1.cls = RX2) : zFl M 19 2 2 (.int) false := ⟨RX2, TX2, tyX2, zcl2, by decide, rfl, rfl, by rw [h]; exact Or.inl (zT_in 185 (by decide +kernel) rfl)⟩
theorem flX2_22 {M : zM} (h : M.1.cls = RX2) : zFl M 22 2 3 (.char) false := ⟨RX2, TX2, tyX2, zcl2, by decide, rfl, rfl, by rw [h]; exact Or.inl (zT_in 186 (by decide +kernel) rfl)⟩
theorem flX2_26 {M : zM} (h : M.1.cls = RX2) : zFl M 26 2 4 (tyX2 4) true := ⟨RX2, TX2, tyX2, zcl2, by decide, rfl, rfl, by rw [h]; exact Or.inl (zT_in 187 (by decide +kernel) rfl)⟩
theorem ffX2_26 {M : zM} (h : M.1.cls = RX2) (hi : M.1.name = "<init>") : zFf M 26 2 4 := ⟨RX2, TX2, tyX2, zcl2, by decide, Or.inr ⟨_, rfl⟩, rfl, by rw [h]; exact zT_in 187 (by decide +kernel) rfl, hi, h.symm⟩
theorem flX3_11 {M : zM} (h : M.1.cls = RX3) : zFl M 11 3 0 (tyX3 0) true := ⟨RX3, TX3, tyX3, zcl3, by decide, rfl, rfl, by rw [h]; exact Or.inl (zT_in 170 (by decide +kernel) rfl)⟩
theorem ffX3_11 {M : zM} (h : M.1.cls = RX3) (hi : M.1.name = "<init>") : zFf M 11 3 0 := ⟨RX3, TX3, tyX3, zcl3, by decide, Or.inr ⟨_, rfl⟩, rfl, by rw [h]; exact zT_in 170 (by decide +kernel) rfl, hi, h.symm⟩
theorem flX3_17 {M : zM} (h : M.1.cls = RX3) : zFl M 17 3 1 (.int) false := ⟨RX3, TX3, tyX3, zcl3, by decide, rfl, rfl, by rw [h]; exact Or.inl (zT_in 171 (by decide +kernel) rfl)⟩
theorem flX4_9 {M : zM} (h : M.1.cls = RX4) : zFl M 9 4 0 (.int) false := ⟨RX4, TX4, tyX4, zcl4, by decide, rfl, rfl, by rw [h]; exact Or.inl (zT_in 137 (by decide +kernel) rfl)⟩
theorem flX4_15 {M : zM} (h : M.1.cls = RX4) : zFl M 15 4 1 (.int) false := ⟨RX4, TX4, tyX4, zcl4, by decide, rfl, rfl, by rw [h]; exact Or.inl (zT_in 139 (by decide +kernel) rfl)⟩
theorem flX4_18 {M : zM} (h : M.1.cls = RX4) : zFl M 18 4 2 (.int) false := ⟨RX4, TX4, tyX4, zcl4, by decide, rfl, rfl, by rw [h]; exact Or.inl (zT_in 141 (by decide +kernel) rfl)⟩
theorem flX5_9 {M : zM} (h : M.1.cls = RX5) : zFl M 9 5 0 (tyX5 0) true := ⟨RX5, TX5, tyX5, zcl5, by decide, rfl, rfl, by rw [h]; exact Or.inl (zT_in 206 (by decide +kernel) rfl)⟩
theorem ffX5_9 {M : zM} (h : M.1.cls = RX5) (hi : M.1.name = "<init>") : zFf M 9 5 0 := ⟨RX5, TX5, tyX5, zcl5, by decide, Or.inr ⟨_, rfl⟩, rfl, by rw [h]; exact zT_in 206 (by decide +kernel) rfl, hi, h.symm⟩
theorem flX5_15 {M : zM} (h : M.1.cls = RX5) : zFl M 15 5 1 (.int) false := ⟨RX5, TX5, tyX5, zcl5, by decide, rfl, rfl, by rw [h]; exact Or.inl (zT_in 207 (by decide +kernel) rfl)⟩
theorem flX6_9 {M : zM} (h : M.1.cls = RX6) : zFl M 9 6 0 (.int) false := ⟨RX6, TX6, tyX6, zcl6, by decide, rfl, rfl, by rw [h]; exact Or.inl (zT_in 90 (by decide +kernel) rfl)⟩
theorem flX6_15 {M : zM} (h : M.1.cls = RX6) : zFl M 15 6 1 (tyX6 1) true := ⟨RX6, TX6, tyX6, zcl6, by decide, rfl, rfl, by rw [h]; exact Or.inl (zT_in 91 (by decide +kernel) rfl)⟩
theorem ffX6_15 {M : zM} (h : M.1.cls = RX6) (hi : M.1.name = "<init>") : zFf M 15 6 1 := ⟨RX6, TX6, tyX6, zcl6, by decide, Or.inr ⟨_, rfl⟩, rfl, by rw [h]; exact zT_in 91 (by decide +kernel) rfl, hi, h.symm⟩
theorem flX6_19 {M : zM} (h : M.1.cls = RX6) : zFl M 19 6 2 (tyX6 2) true := ⟨RX6, TX6, tyX6, zcl6, by decide, rfl, rfl, by rw [h]; exact Or.inl (zT_in 92 (by decide +kernel) rfl)⟩
theorem ffX6_19 {M : zM} (h : M.1.cls = RX6) (hi : M.1.name = "<init>") : zFf M 19 6 2 := ⟨RX6, TX6, tyX6, zcl6, by decide, Or.inr ⟨_, rfl⟩, rfl, by rw [h]; exact zT_in 92 (by decide +kernel) rfl, hi, h.symm⟩
theorem flX6_22 {M : zM} (h : M.1.cls = RX6) : zFl M 22 6 3 (tyX6 3) true := ⟨RX6, TX6, tyX6, zcl6, by decide, rfl, rfl, by rw [h]; exact Or.inl (zT_in 93 (by decide +kernel) rfl)⟩
theorem ffX6_22 {M : zM} (h : M.1.cls = RX6) (hi : M.1.name = "<init>") : zFf M 22 6 3 := ⟨RX6, TX6, tyX6, zcl6, by decide, Or.inr ⟨_, rfl⟩, rfl, by rw [h]; exact zT_in 93 (by decide +kernel) rfl, hi, h.symm⟩
theorem flX6_25 {M : zM} (h : M.1.cls = RX6) : zFl M 25 6 4 (tyX6 4) true := ⟨RX6, TX6, tyX6, zcl6, by decide, rfl, rfl, by rw [h]; exact Or.inl (zT_in 94 (by decide +kernel) rfl)⟩
theorem ffX6_25 {M : zM} (h : M.1.cls = RX6) (hi : M.1.name = "<init>") : zFf M 25 6 4 := ⟨RX6, TX6, tyX6, zcl6, by decide, Or.inr ⟨_, rfl⟩, rfl, by rw [h]; exact zT_in 94 (by decide +kernel) rfl, hi, h.symm⟩
theorem flX7_10 {M : zM} (h : M.1.cls = RX7) : zFl M 10 7 0 (tyX7 0) true := ⟨RX7, TX7, tyX7, zcl7, by decide, rfl, rfl, by rw [h]; exact Or.inl (zT_in 213 (by decide +kernel) rfl)⟩
theorem ffX7_10 {M : zM} (h : M.1.cls = RX7) (hi : M.1.name = "<init>") : zFf M 10 7 0 := ⟨RX7, TX7, tyX7, zcl7, by decide, Or.inl ⟨_, rfl⟩, rfl, by rw [h]; exact zT_in 213 (by decide +kernel) rfl, hi, h.symm⟩
theorem flX7_16 {M : zM} (h : M.1.cls = RX7) : zFl M 16 1 1 (tyX1 1) true := ⟨RX1, TX1, tyX1, zcl1, by decide, rfl, rfl, by rw [h]; exact Or.inl (zT_in 152 (by decide +kernel) rfl)⟩
theorem flX7_20 {M : zM} (h : M.1.cls = RX7) : zFl M 20 7 1 (tyX7 1) true := ⟨RX7, TX7, tyX7, zcl7, by decide, rfl, rfl, by rw [h]; exact Or.inl (zT_in 214 (by decide +kernel) rfl)⟩
theorem ffX7_20 {M : zM} (h : M.1.cls = RX7) (hi : M.1.name = "<init>") : zFf M 20 7 1 := ⟨RX7, TX7, tyX7, zcl7, by decide, Or.inl ⟨_, rfl⟩, rfl, by rw [h]; exact zT_in 214 (by decide +kernel) rfl, hi, h.symm⟩
theorem flX7_21 {M : zM} (h : M.1.cls = RX7) : zFl M 21 1 0 (tyX1 0) true := ⟨RX1, TX1, tyX1, zcl1, by decide, rfl, rfl, by rw [h]; exact Or.inl (zT_in 151 (by decide +kernel) rfl)⟩
theorem flX7_25 {M : zM} (h : M.1.cls = RX7) : zFl M 25 7 2 (tyX7 2) true := ⟨RX7, TX7, tyX7, zcl7, by decide, rfl, rfl, by rw [h]; exact Or.inl (zT_in 215 (by decide +kernel) rfl)⟩
theorem ffX7_25 {M : zM} (h : M.1.cls = RX7) (hi : M.1.name = "<init>") : zFf M 25 7 2 := ⟨RX7, TX7, tyX7, zcl7, by decide, Or.inl ⟨_, rfl⟩, rfl, by rw [h]; exact zT_in 215 (by decide +kernel) rfl, hi, h.symm⟩
theorem flX7_26 {M : zM} (h : M.1.cls = RX7) : zFl M 26 0 0 (tyX0 0) true := ⟨RX0, TX0, tyX0, zcl0, by decide, rfl, rfl, by rw [h]; exact Or.inl (zT_in 109 (by decide +kernel) rfl)⟩
theorem flX7_32 {M : zM} (h : M.1.cls = RX7) : zFl M 32 7 3 (tyX7 3) true := ⟨RX7, TX7, tyX7, zcl7, by decide, rfl, rfl, by rw [h]; exact Or.inl (zT_in 216 (by decide +kernel) rfl)⟩
theorem ffX7_32 {M : zM} (h : M.1.cls = RX7) (hi : M.1.name = "<init>") : zFf M 32 7 3 := ⟨RX7, TX7, tyX7, zcl7, by decide, Or.inl ⟨_, rfl⟩, rfl, by rw [h]; exact zT_in 216 (by decide +kernel) rfl, hi, h.symm⟩
theorem flX7_34 {M : zM} (h : M.1.cls = RX7) : zFl M 34 7 4 (tyX7 4) true := ⟨RX7, TX7, tyX7, zcl7, by decide, rfl, rfl, by rw [h]; exact Or.inl (zT_in 217 (by decide +kernel) rfl)⟩
theorem ffX7_34 {M : zM} (h : M.1.cls = RX7) (hi : M.1.name = "<init>") : zFf M 34 7 4 := ⟨RX7, TX7, tyX7, zcl7, by decide, Or.inl ⟨_, rfl⟩, rfl, by rw [h]; exact zT_in 217 (by decide +kernel) rfl, hi, h.symm⟩
theorem flX7_37 {M : zM} (h : M.1.cls = RX7) : zFl M 37 7 5 (.boolean) false := ⟨RX7, TX7, tyX7, zcl7, by decide, rfl, rfl, by rw [h]; exact Or.inl (zT_in 218 (by decide +kernel) rfl)⟩
theorem flX7_44 {M : zM} (h : M.1.cls = RX7) : zFl M 44 7 6 (tyX7 6) true := ⟨RX7, TX7, tyX7, zcl7, by decide, rfl, rfl, by rw [h]; exact Or.inl (zT_in 219 (by decide +kernel) rfl)⟩
theorem ffX7_44 {M : zM} (h : M.1.cls = RX7) (hi : M.1.name = "<init>") : zFf M 44 7 6 := ⟨RX7, TX7, tyX7, zcl7, by decide, Or.inl ⟨_, rfl⟩, rfl, by rw [h]; exact zT_in 219 (by decide +kernel) rfl, hi, h.symm⟩
theorem flX7_51 {M : zM} (h : M.1.cls = RX7) : zFl M 51 7 7 (tyX7 7) true := ⟨RX7, TX7, tyX7, zcl7, by decide, rfl, rfl, by rw [h]; exact Or.inl (zT_in 220 (by decide +kernel) rfl)⟩
theorem ffX7_51 {M : zM} (h : M.1.cls = RX7) (hi : M.1.name = "<init>") : zFf M 51 7 7 := ⟨RX7, TX7, tyX7, zcl7, by decide, Or.inl ⟨_, rfl⟩, rfl, by rw [h]; exact zT_in 220 (by decide +kernel) rfl, hi, h.symm⟩
theorem flX7_55 {M : zM} (h : M.1.cls = RX7) : zFl M 55 7 8 (.int) false := ⟨RX7, TX7, tyX7, zcl7, by decide, rfl, rfl, by rw [h]; exact Or.inl (zT_in 221 (by decide +kernel) rfl)⟩
theorem flX7_62 {M : zM} (h : M.1.cls = RX7) : zFl M 62 7 9 (tyX7 9) true := ⟨RX7, TX7, tyX7, zcl7, by decide, rfl, rfl, by rw [h]; exact Or.inl (zT_in 222 (by decide +kernel) rfl)⟩
theorem ffX7_62 {M : zM} (h : M.1.cls = RX7) (hi : M.1.name = "<init>") : zFf M 62 7 9 := ⟨RX7, TX7, tyX7, zcl7, by decide, Or.inl ⟨_, rfl⟩, rfl, by rw [h]; exact zT_in 222 (by decide +kernel) rfl, hi, h.symm⟩
theorem flX7_235 {M : zM} (h : M.1.cls = RX7) : zFl M 235 4 2 (.int) false := ⟨RX4, TX4, tyX4, zcl4, by decide, rfl, rfl, by rw [h]; exact Or.inr ⟨"AbbeyLedgers", zNw_in 142 (by decide +kernel) rfl⟩⟩
theorem flX7_246 {M : zM} (h : M.1.cls = RX7) : zFl M 246 4 0 (.int) false := ⟨RX4, TX4, tyX4, zcl4, by decide, rfl, rfl, by rw [h]; exact Or.inr ⟨"AbbeyLedgers", zNw_in 138 (by decide +kernel) rfl⟩⟩
theorem flX7_251 {M : zM} (h : M.1.cls = RX7) : zFl M 251 4 1 (.int) false := ⟨RX4, TX4, tyX4, zcl4, by decide, rfl, rfl, by rw [h]; exact Or.inr ⟨"AbbeyLedgers", zNw_in 140 (by decide +kernel) rfl⟩⟩
theorem flX7_280 {M : zM} (h : M.1.cls = RX7) : zFl M 280 0 2 (.int) false := ⟨RX0, TX0, tyX0, zcl0, by decide, rfl, rfl, by rw [h]; exact Or.inr ⟨"AbbeyLedgers", zNw_in 113 (by decide +kernel) rfl⟩⟩
theorem flX7_289 {M : zM} (h : M.1.cls = RX7) : zFl M 289 0 3 (.int) false := ⟨RX0, TX0, tyX0, zcl0, by decide, rfl, rfl, by rw [h]; exact Or.inr ⟨"AbbeyLedgers", zNw_in 116 (by decide +kernel) rfl⟩⟩
theorem flX7_292 {M : zM} (h : M.1.cls = RX7) : zFl M 292 0 4 (.int) false := ⟨RX0, TX0, tyX0, zcl0, by decide, rfl, rfl, by rw [h]; exact Or.inr ⟨"AbbeyLedgers", zNw_in 119 (by decide +kernel) rfl⟩⟩
theorem gsX7_343 {M : zM} (h : M.1.cls = RX7) : Cond.fieldLink M.1.cls 343 RX7 "LOWEST_LINE_OF_SPAN" "[I" ∈ zT := by rw [h]; exact zT_in 356 (by decide +kernel) rfl
theorem gsX7_347 {M : zM} (h : M.1.cls = RX7) : Cond.fieldLink M.1.cls 347 RX7 "HIGHEST_LINE_OF_SPAN" "[I" ∈ zT := by rw [h]; exact zT_in 358 (by decide +kernel) rfl
theorem cdX7_275 {M : zM} (h : M.1.cls = RX7) : Cond.constantDouble M.1.cls 275 (UInt64.ofNat 4625196817309499392) ∈ zT := by rw [h]; exact zT_in 1045 (by decide +kernel) rfl
theorem nlX7_7 {M : zM} (h : M.1.cls = RX7) : zNl M 7 1 := ⟨RX1, TX1, tyX1, zcl1, by rw [h]; exact zT_in 72 (by decide +kernel) rfl, zT_in 73 (by decide +kernel) rfl, zT_in 43 (by decide +kernel) rfl⟩
theorem nlX7_27 {M : zM} (h : M.1.cls = RX7) : zNl M 27 0 := ⟨RX0, TX0, tyX0, zcl0, by rw [h]; exact zT_in 162 (by decide +kernel) rfl, zT_in 79 (by decide +kernel) rfl, zT_in 44 (by decide +kernel) rfl⟩
theorem nlX7_41 {M : zM} (h : M.1.cls = RX7) : zNl M 41 3 := ⟨RX3, TX3, tyX3, zcl3, by rw [h]; exact zT_in 164 (by decide +kernel) rfl, zT_in 165 (by decide +kernel) rfl, zT_in 47 (by decide +kernel) rfl⟩
theorem nlX7_48 {M : zM} (h : M.1.cls = RX7) : zNl M 48 2 := ⟨RX2, TX2, tyX2, zcl2, by rw [h]; exact zT_in 177 (by decide +kernel) rfl, zT_in 178 (by decide +kernel) rfl, zT_in 48 (by decide +kernel) rfl⟩
theorem nlX7_59 {M : zM} (h : M.1.cls = RX7) : zNl M 59 5 := ⟨RX5, TX5, tyX5, zcl5, by rw [h]; exact zT_in 200 (by decide +kernel) rfl, zT_in 201 (by decide +kernel) rfl, zT_in 49 (by decide +kernel) rfl⟩
theorem flX8_7 {M : zM} (h : M.1.cls = RX8) : zFl M 7 8 0 (tyX8 0) true := ⟨RX8, TX8, tyX8, zcl8, by decide, rfl, rfl, by rw [h]; exact Or.inl (zT_in 1098 (by decide +kernel) rfl)⟩
theorem ffX8_7 {M : zM} (h : M.1.cls = RX8) (hi : M.1.name = "<init>") : zFf M 7 8 0 := ⟨RX8, TX8, tyX8, zcl8, by decide, Or.inr ⟨_, rfl⟩, rfl, by rw [h]; exact zT_in 1098 (by decide +kernel) rfl, hi, h.symm⟩
theorem flX8_13 {M : zM} (h : M.1.cls = RX8) : zFl M 13 8 1 (tyX8 1) true := ⟨RX8, TX8, tyX8, zcl8, by decide, rfl, rfl, by rw [h]; exact Or.inl (zT_in 1099 (by decide +kernel) rfl)⟩
theorem ffX8_13 {M : zM} (h : M.1.cls = RX8) (hi : M.1.name = "<init>") : zFf M 13 8 1 := ⟨RX8, TX8, tyX8, zcl8, by decide, Or.inr ⟨_, rfl⟩, rfl, by rw [h]; exact zT_in 1099 (by decide +kernel) rfl, hi, h.symm⟩
theorem flX8_16 {M : zM} (h : M.1.cls = RX8) : zFl M 16 8 2 (tyX8 2) true := ⟨RX8, TX8, tyX8, zcl8, by decide, rfl, rfl, by rw [h]; exact Or.inl (zT_in 1100 (by decide +kernel) rfl)⟩
theorem ffX8_16 {M : zM} (h : M.1.cls = RX8) (hi : M.1.name = "<init>") : zFf M 16 8 2 := ⟨RX8, TX8, tyX8, zcl8, by decide, Or.inr ⟨_, rfl⟩, rfl, by rw [h]; exact zT_in 1100 (by decide +kernel) rfl, hi, h.symm⟩
theorem flX8_19 {M : zM} (h : M.1.cls = RX8) : zFl M 19 8 3 (tyX8 3) true := ⟨RX8, TX8, tyX8, zcl8, by decide, rfl, rfl, by rw [h]; exact Or.inl (zT_in 1101 (by decide +kernel) rfl)⟩
theorem ffX8_19 {M : zM} (h : M.1.cls = RX8) (hi : M.1.name = "<init>") : zFf M 19 8 3 := ⟨RX8, TX8, tyX8, zcl8, by decide, Or.inr ⟨_, rfl⟩, rfl, by rw [h]; exact zT_in 1101 (by decide +kernel) rfl, hi, h.symm⟩
theorem flX8_22 {M : zM} (h : M.1.cls = RX8) : zFl M 22 8 12 (tyX8 12) true := ⟨RX8, TX8, tyX8, zcl8, by decide, rfl, rfl, by rw [h]; exact Or.inl (zT_in 1110 (by decide +kernel) rfl)⟩
theorem ffX8_22 {M : zM} (h : M.1.cls = RX8) (hi : M.1.name = "<init>") : zFf M 22 8 12 := ⟨RX8, TX8, tyX8, zcl8, by decide, Or.inr ⟨_, rfl⟩, rfl, by rw [h]; exact zT_in 1110 (by decide +kernel) rfl, hi, h.symm⟩
theorem flX8_25 {M : zM} (h : M.1.cls = RX8) : zFl M 25 8 14 (.int) false := ⟨RX8, TX8, tyX8, zcl8, by decide, rfl, rfl, by rw [h]; exact Or.inl (zT_in 1112 (by decide +kernel) rfl)⟩
theorem flX8_29 {M : zM} (h : M.1.cls = RX8) : zFl M 29 8 15 (tyX8 15) true := ⟨RX8, TX8, tyX8, zcl8, by decide, rfl, rfl, by rw [h]; exact Or.inl (zT_in 1113 (by decide +kernel) rfl)⟩
theorem ffX8_29 {M : zM} (h : M.1.cls = RX8) (hi : M.1.name = "<init>") : zFf M 29 8 15 := ⟨RX8, TX8, tyX8, zcl8, by decide, Or.inr ⟨_, rfl⟩, rfl, by rw [h]; exact zT_in 1113 (by decide +kernel) rfl, hi, h.symm⟩
theorem flX8_33 {M : zM} (h : M.1.cls = RX8) : zFl M 33 8 17 (tyX8 17) true := ⟨RX8, TX8, tyX8, zcl8, by decide, rfl, rfl, by rw [h]; exact Or.inl (zT_in 1115 (by decide +kernel) rfl)⟩
theorem ffX8_33 {M : zM} (h : M.1.cls = RX8) (hi : M.1.name = "<init>") : zFf M 33 8 17 := ⟨RX8, TX8, tyX8, zcl8, by decide, Or.inr ⟨_, rfl⟩, rfl, by rw [h]; exact zT_in 1115 (by decide +kernel) rfl, hi, h.symm⟩
theorem flX8_36 {M : zM} (h : M.1.cls = RX8) : zFl M 36 8 18 (tyX8 18) true := ⟨RX8, TX8, tyX8, zcl8, by decide, rfl, rfl, by rw [h]; exact Or.inl (zT_in 1116 (by decide +kernel) rfl)⟩
theorem ffX8_36 {M : zM} (h : M.1.cls = RX8) (hi : M.1.name = "<init>") : zFf M 36 8 18 := ⟨RX8, TX8, tyX8, zcl8, by decide, Or.inr ⟨_, rfl⟩, rfl, by rw [h]; exact zT_in 1116 (by decide +kernel) rfl, hi, h.symm⟩
theorem flX8_39 {M : zM} (h : M.1.cls = RX8) : zFl M 39 8 20 (tyX8 20) true := ⟨RX8, TX8, tyX8, zcl8, by decide, rfl, rfl, by rw [h]; exact Or.inl (zT_in 1118 (by decide +kernel) rfl)⟩
theorem ffX8_39 {M : zM} (h : M.1.cls = RX8) (hi : M.1.name = "<init>") : zFf M 39 8 20 := ⟨RX8, TX8, tyX8, zcl8, by decide, Or.inr ⟨_, rfl⟩, rfl, by rw [h]; exact zT_in 1118 (by decide +kernel) rfl, hi, h.symm⟩
theorem flX8_42 {M : zM} (h : M.1.cls = RX8) : zFl M 42 8 8 (.int) false := ⟨RX8, TX8, tyX8, zcl8, by decide, rfl, rfl, by rw [h]; exact Or.inl (zT_in 1106 (by decide +kernel) rfl)⟩
theorem flX8_45 {M : zM} (h : M.1.cls = RX8) : zFl M 45 8 9 (.int) false := ⟨RX8, TX8, tyX8, zcl8, by decide, rfl, rfl, by rw [h]; exact Or.inl (zT_in 1107 (by decide +kernel) rfl)⟩
theorem flX8_48 {M : zM} (h : M.1.cls = RX8) : zFl M 48 8 10 (.int) false := ⟨RX8, TX8, tyX8, zcl8, by decide, rfl, rfl, by rw [h]; exact Or.inl (zT_in 1108 (by decide +kernel) rfl)⟩
theorem flX8_51 {M : zM} (h : M.1.cls = RX8) : zFl M 51 8 6 (.boolean) false := ⟨RX8, TX8, tyX8, zcl8, by decide, rfl, rfl, by rw [h]; exact Or.inl (zT_in 1104 (by decide +kernel) rfl)⟩
theorem flX8_55 {M : zM} (h : M.1.cls = RX8) : zFl M 55 8 7 (.int) false := ⟨RX8, TX8, tyX8, zcl8, by decide, rfl, rfl, by rw [h]; exact Or.inl (zT_in 1105 (by decide +kernel) rfl)⟩
theorem flX8_58 {M : zM} (h : M.1.cls = RX8) : zFl M 58 8 11 (.int) false := ⟨RX8, TX8, tyX8, zcl8, by decide, rfl, rfl, by rw [h]; exact Or.inl (zT_in 1109 (by decide +kernel) rfl)⟩
theorem flX8_61 {M : zM} (h : M.1.cls = RX8) : zFl M 61 8 5 (.int) false := ⟨RX8, TX8, tyX8, zcl8, by decide, rfl, rfl, by rw [h]; exact Or.inl (zT_in 1103 (by decide +kernel) rfl)⟩
theorem flX8_152 {M : zM} (h : M.1.cls = RX8) : zFl M 152 8 13 (.int) false := ⟨RX8, TX8, tyX8, zcl8, by decide, rfl, rfl, by rw [h]; exact Or.inl (zT_in 1111 (by decide +kernel) rfl)⟩
theorem flX8_155 {M : zM} (h : M.1.cls = RX8) : zFl M 155 8 19 (.int) false := ⟨RX8, TX8, tyX8, zcl8, by decide, rfl, rfl, by rw [h]; exact Or.inl (zT_in 1117 (by decide +kernel) rfl)⟩
theorem flX8_162 {M : zM} (h : M.1.cls = RX8) : zFl M 162 8 21 (.int) false := ⟨RX8, TX8, tyX8, zcl8, by decide, rfl, rfl, by rw [h]; exact Or.inl (zT_in 1119 (by decide +kernel) rfl)⟩
theorem flX8_197 {M : zM} (h : M.1.cls = RX8) : zFl M 197 8 16 (.int) false := ⟨RX8, TX8, tyX8, zcl8, by decide, rfl, rfl, by rw [h]; exact Or.inl (zT_in 1114 (by decide +kernel) rfl)⟩
theorem flX8_216 {M : zM} (h : M.1.cls = RX8) : zFl M 216 8 4 (.boolean) false := ⟨RX8, TX8, tyX8, zcl8, by decide, rfl, rfl, by rw [h]; exact Or.inl (zT_in 1102 (by decide +kernel) rfl)⟩
theorem cdX8_207 {M : zM} (h : M.1.cls = RX8) : Cond.constantDouble M.1.cls 207 (UInt64.ofNat 4625196817309499392) ∈ zT := by rw [h]; exact zT_in 1430 (by decide +kernel) rfl
theorem thX7_123_127 {M : zM} (h : M.1.cls = RX7) : zThX M 123 127 13 prog_27_method_4_code "java/util/NoSuchElementException" := by
  unfold zThX
  rw [h]
  exact ⟨by decide +kernel, zT_in 643 (by decide +kernel) rfl, zT_in 58 (by decide +kernel) rfl, fun w hw => List.mem_filter.mpr ⟨(by decide +kernel : ∀ w ∈ ((zAtX RX7 127 "java/util/NoSuchElementException" 13 prog_27_method_4_code zEx).filter vx_no).filter goodWord, w ∈ lw_tbl) w hw, (List.mem_filter.mp hw).2⟩, fun w hw => List.mem_filter.mpr ⟨(by decide +kernel : ∀ w ∈ ((zAtX RX7 127 "java/util/NoSuchElementException" 13 prog_27_method_4_code zEx).filter vx_no).filter (fun w => !goodWord w), w ∈ lw_tbl) w hw, (by decide +kernel : ∀ w ∈ ((zAtX RX7 127 "java/util/NoSuchElementException" 13 prog_27_method_4_code zEx).filter vx_no).filter (fun w => !goodWord w), zNwOk w = true) w hw⟩, by decide +kernel, by decide +kernel, by decide +kernel, by decide +kernel, by decide +kernel⟩
theorem thX7_151_155 {M : zM} (h : M.1.cls = RX7) : zTh M 151 155 "java/lang/IllegalArgumentException" := by
  unfold zTh
  rw [h]
  exact ⟨by decide +kernel, zT_in 581 (by decide +kernel) rfl, zT_in 57 (by decide +kernel) rfl, fun w hw => List.mem_filter.mpr ⟨(by decide +kernel : ∀ w ∈ (vx_atS RX7 155 "java/lang/IllegalArgumentException" zEx).filter goodWord, w ∈ lw_tbl) w hw, (List.mem_filter.mp hw).2⟩, fun w hw => List.mem_filter.mpr ⟨(by decide +kernel : ∀ w ∈ (vx_atS RX7 155 "java/lang/IllegalArgumentException" zEx).filter (fun w => !goodWord w), w ∈ lw_tbl) w hw, (by decide +kernel : ∀ w ∈ (vx_atS RX7 155 "java/lang/IllegalArgumentException" zEx).filter (fun w => !goodWord w), zNwOk w = true) w hw⟩, by decide +kernel⟩
theorem thX7_207_211 {M : zM} (h : M.1.cls = RX7) : zTh M 207 211 "java/lang/IllegalStateException" := by
  unfold zTh
  rw [h]
  exact ⟨by decide +kernel, zT_in 836 (by decide +kernel) rfl, zT_in 59 (by decide +kernel) rfl, fun w hw => List.mem_filter.mpr ⟨(by decide +kernel : ∀ w ∈ (vx_atS RX7 211 "java/lang/IllegalStateException" zEx).filter goodWord, w ∈ lw_tbl) w hw, (List.mem_filter.mp hw).2⟩, fun w hw => List.mem_filter.mpr ⟨(by decide +kernel : ∀ w ∈ (vx_atS RX7 211 "java/lang/IllegalStateException" zEx).filter (fun w => !goodWord w), w ∈ lw_tbl) w hw, (by decide +kernel : ∀ w ∈ (vx_atS RX7 211 "java/lang/IllegalStateException" zEx).filter (fun w => !goodWord w), zNwOk w = true) w hw⟩, by decide +kernel⟩
theorem thX7_263_267 {M : zM} (h : M.1.cls = RX7) : zTh M 263 267 "java/lang/IndexOutOfBoundsException" := by
  unfold zTh
  rw [h]
  exact ⟨by decide +kernel, zT_in 546 (by decide +kernel) rfl, zT_in 56 (by decide +kernel) rfl, fun w hw => List.mem_filter.mpr ⟨(by decide +kernel : ∀ w ∈ (vx_atS RX7 267 "java/lang/IndexOutOfBoundsException" zEx).filter goodWord, w ∈ lw_tbl) w hw, (List.mem_filter.mp hw).2⟩, fun w hw => List.mem_filter.mpr ⟨(by decide +kernel : ∀ w ∈ (vx_atS RX7 267 "java/lang/IndexOutOfBoundsException" zEx).filter (fun w => !goodWord w), w ∈ lw_tbl) w hw, (by decide +kernel : ∀ w ∈ (vx_atS RX7 267 "java/lang/IndexOutOfBoundsException" zEx).filter (fun w => !goodWord w), zNwOk w = true) w hw⟩, by decide +kernel⟩
theorem thX7_314_318 {M : zM} (h : M.1.cls = RX7) : zTh M 314 318 "java/lang/UnsupportedOperationException" := by
  unfold zTh
  rw [h]
  exact ⟨by decide +kernel, zT_in 385 (by decide +kernel) rfl, zT_in 55 (by decide +kernel) rfl, fun w hw => List.mem_filter.mpr ⟨(by decide +kernel : ∀ w ∈ (vx_atS RX7 318 "java/lang/UnsupportedOperationException" zEx).filter goodWord, w ∈ lw_tbl) w hw, (List.mem_filter.mp hw).2⟩, fun w hw => List.mem_filter.mpr ⟨(by decide +kernel : ∀ w ∈ (vx_atS RX7 318 "java/lang/UnsupportedOperationException" zEx).filter (fun w => !goodWord w), w ∈ lw_tbl) w hw, (by decide +kernel : ∀ w ∈ (vx_atS RX7 318 "java/lang/UnsupportedOperationException" zEx).filter (fun w => !goodWord w), zNwOk w = true) w hw⟩, by decide +kernel⟩
theorem yiX0_init : Cond.initialized mX0_init.1.cls ∈ zT ∧ plainName mX0_init.1.cls = true ∧ (mX0_init.1.cls ≠ "java/lang/invoke/MethodHandle" ∧ mX0_init.1.cls ≠ "java/lang/invoke/VarHandle") ∧ (parseMethodDescriptor mX0_init.1.desc).map (fun d => d.parameters.length) = some 0 := ⟨zT_in 44 (by decide +kernel) rfl, by decide +kernel, by decide +kernel, by decide +kernel⟩
theorem ycX0_init : zLkC mX0_init := ⟨rfl, zT_in 82 (by decide +kernel) rfl⟩
theorem yvX0_init : Cond.instanceMethod mX0_init.1 ∈ zT := zT_in 81 (by decide +kernel) rfl
theorem yiX0_copyFrom : Cond.initialized mX0_copyFrom.1.cls ∈ zT ∧ plainName mX0_copyFrom.1.cls = true ∧ (mX0_copyFrom.1.cls ≠ "java/lang/invoke/MethodHandle" ∧ mX0_copyFrom.1.cls ≠ "java/lang/invoke/VarHandle") ∧ (parseMethodDescriptor mX0_copyFrom.1.desc).map (fun d => d.parameters.length) = some 1 := ⟨zT_in 44 (by decide +kernel) rfl, by decide +kernel, by decide +kernel, by decide +kernel⟩
theorem ycX0_copyFrom : zLkC mX0_copyFrom := ⟨rfl, zT_in 282 (by decide +kernel) rfl⟩
theorem yvX0_copyFrom : Cond.instanceMethod mX0_copyFrom.1 ∈ zT := zT_in 280 (by decide +kernel) rfl
theorem ywX0_copyFrom : Cond.selects mX0_copyFrom.1.cls mX0_copyFrom.1 mX0_copyFrom.1 ∈ zT := zT_in 281 (by decide +kernel) rfl
theorem yiX0_noteIn : Cond.initialized mX0_noteIn.1.cls ∈ zT ∧ plainName mX0_noteIn.1.cls = true ∧ (mX0_noteIn.1.cls ≠ "java/lang/invoke/MethodHandle" ∧ mX0_noteIn.1.cls ≠ "java/lang/invoke/VarHandle") ∧ (parseMethodDescriptor mX0_noteIn.1.desc).map (fun d => d.parameters.length) = some 2 := ⟨zT_in 44 (by decide +kernel) rfl, by decide +kernel, by decide +kernel, by decide +kernel⟩
theorem ycX0_noteIn : zLkC mX0_noteIn := ⟨rfl, zT_in 306 (by decide +kernel) rfl⟩
theorem yvX0_noteIn : Cond.instanceMethod mX0_noteIn.1 ∈ zT := zT_in 304 (by decide +kernel) rfl
theorem ywX0_noteIn : Cond.selects mX0_noteIn.1.cls mX0_noteIn.1 mX0_noteIn.1 ∈ zT := zT_in 305 (by decide +kernel) rfl
theorem yiX0_returnTo : Cond.initialized mX0_returnTo.1.cls ∈ zT ∧ plainName mX0_returnTo.1.cls = true ∧ (mX0_returnTo.1.cls ≠ "java/lang/invoke/MethodHandle" ∧ mX0_returnTo.1.cls ≠ "java/lang/invoke/VarHandle") ∧ (parseMethodDescriptor mX0_returnTo.1.desc).map (fun d => d.parameters.length) = some 2 := ⟨zT_in 44 (by decide +kernel) rfl, by decide +kernel, by decide +kernel, by decide +kernel⟩
theorem ycX0_returnTo : zLkC mX0_returnTo := ⟨rfl, zT_in 380 (by decide +kernel) rfl⟩
theorem yvX0_returnTo : Cond.instanceMethod mX0_returnTo.1 ∈ zT := zT_in 378 (by decide +kernel) rfl
theorem ywX0_returnTo : Cond.selects mX0_returnTo.1.cls mX0_returnTo.1 mX0_returnTo.1 ∈ zT := zT_in 379 (by decide +kernel) rfl
theorem yiX0_ledgerOf : Cond.initialized mX0_ledgerOf.1.cls ∈ zT ∧ plainName mX0_ledgerOf.1.cls = true ∧ (mX0_ledgerOf.1.cls ≠ "java/lang/invoke/MethodHandle" ∧ mX0_ledgerOf.1.cls ≠ "java/lang/invoke/VarHandle") ∧ (parseMethodDescriptor mX0_ledgerOf.1.desc).map (fun d => d.parameters.length) = some 1 := ⟨zT_in 44 (by decide +kernel) rfl, by decide +kernel, by decide +kernel, by decide +kernel⟩
theorem ycX0_ledgerOf : zLkC mX0_ledgerOf := ⟨rfl, zT_in 325 (by decide +kernel) rfl⟩
theorem yvX0_ledgerOf : Cond.instanceMethod mX0_ledgerOf.1 ∈ zT := zT_in 323 (by decide +kernel) rfl
theorem ywX0_ledgerOf : Cond.selects mX0_ledgerOf.1.cls mX0_ledgerOf.1 mX0_ledgerOf.1 ∈ zT := zT_in 324 (by decide +kernel) rfl
theorem yiX0_giveLedger : Cond.initialized mX0_giveLedger.1.cls ∈ zT ∧ plainName mX0_giveLedger.1.cls = true ∧ (mX0_giveLedger.1.cls ≠ "java/lang/invoke/MethodHandle" ∧ mX0_giveLedger.1.cls ≠ "java/lang/invoke/VarHandle") ∧ (parseMethodDescriptor mX0_giveLedger.1.desc).map (fun d => d.parameters.length) = some 2 := ⟨zT_in 44 (by decide +kernel) rfl, by decide +kernel, by decide +kernel, by decide +kernel⟩
theorem ycX0_giveLedger : zLkC mX0_giveLedger := ⟨rfl, zT_in 367 (by decide +kernel) rfl⟩
theorem yvX0_giveLedger : Cond.instanceMethod mX0_giveLedger.1 ∈ zT := zT_in 365 (by decide +kernel) rfl
theorem ywX0_giveLedger : Cond.selects mX0_giveLedger.1.cls mX0_giveLedger.1 mX0_giveLedger.1 ∈ zT := zT_in 366 (by decide +kernel) rfl
theorem yiX0_housesWith : Cond.initialized mX0_housesWith.1.cls ∈ zT ∧ plainName mX0_housesWith.1.cls = true ∧ (mX0_housesWith.1.cls ≠ "java/lang/invoke/MethodHandle" ∧ mX0_housesWith.1.cls ≠ "java/lang/invoke/VarHandle") ∧ (parseMethodDescriptor mX0_housesWith.1.desc).map (fun d => d.parameters.length) = some 1 := ⟨zT_in 44 (by decide +kernel) rfl, by decide +kernel, by decide +kernel, by decide +kernel⟩
theorem ycX0_housesWith : zLkC mX0_housesWith := ⟨rfl, zT_in 685 (by decide +kernel) rfl⟩
theorem yvX0_housesWith : Cond.instanceMethod mX0_housesWith.1 ∈ zT := zT_in 683 (by decide +kernel) rfl
theorem ywX0_housesWith : Cond.selects mX0_housesWith.1.cls mX0_housesWith.1 mX0_housesWith.1 ∈ zT := zT_in 684 (by decide +kernel) rfl
theorem yiX0_versionsOfHouses : Cond.initialized mX0_versionsOfHouses.1.cls ∈ zT ∧ plainName mX0_versionsOfHouses.1.cls = true ∧ (mX0_versionsOfHouses.1.cls ≠ "java/lang/invoke/MethodHandle" ∧ mX0_versionsOfHouses.1.cls ≠ "java/lang/invoke/VarHandle") ∧ (parseMethodDescriptor mX0_versionsOfHouses.1.desc).map (fun d => d.parameters.length) = some 0 := ⟨zT_in 44 (by decide +kernel) rfl, by decide +kernel, by decide +kernel, by decide +kernel⟩
theorem ycX0_versionsOfHouses : zLkC mX0_versionsOfHouses := ⟨rfl, zT_in 1056 (by decide +kernel) rfl⟩
theorem yvX0_versionsOfHouses : Cond.instanceMethod mX0_versionsOfHouses.1 ∈ zT := zT_in 1054 (by decide +kernel) rfl
theorem ywX0_versionsOfHouses : Cond.selects mX0_versionsOfHouses.1.cls mX0_versionsOfHouses.1 mX0_versionsOfHouses.1 ∈ zT := zT_in 1055 (by decide +kernel) rfl
theorem yiX1_init : Cond.initialized mX1_init.1.cls ∈ zT ∧ plainName mX1_init.1.cls = true ∧ (mX1_init.1.cls ≠ "java/lang/invoke/MethodHandle" ∧ mX1_init.1.cls ≠ "java/lang/invoke/VarHandle") ∧ (parseMethodDescriptor mX1_init.1.desc).map (fun d => d.parameters.length) = some 0 := ⟨zT_in 43 (by decide +kernel) rfl, by decide +kernel, by decide +kernel, by decide +kernel⟩
theorem ycX1_init : zLkC mX1_init := ⟨rfl, zT_in 76 (by decide +kernel) rfl⟩
theorem yvX1_init : Cond.instanceMethod mX1_init.1 ∈ zT := zT_in 75 (by decide +kernel) rfl
theorem yiX1_carryOut : Cond.initialized mX1_carryOut.1.cls ∈ zT ∧ plainName mX1_carryOut.1.cls = true ∧ (mX1_carryOut.1.cls ≠ "java/lang/invoke/MethodHandle" ∧ mX1_carryOut.1.cls ≠ "java/lang/invoke/VarHandle") ∧ (parseMethodDescriptor mX1_carryOut.1.desc).map (fun d => d.parameters.length) = some 1 := ⟨zT_in 43 (by decide +kernel) rfl, by decide +kernel, by decide +kernel, by decide +kernel⟩
theorem ycX1_carryOut : zLkC mX1_carryOut := ⟨rfl, zT_in 966 (by decide +kernel) rfl⟩
theorem yvX1_carryOut : Cond.instanceMethod mX1_carryOut.1 ∈ zT := zT_in 964 (by decide +kernel) rfl
theorem ywX1_carryOut : Cond.selects mX1_carryOut.1.cls mX1_carryOut.1 mX1_carryOut.1 ∈ zT := zT_in 965 (by decide +kernel) rfl
theorem yiX1_enter : Cond.initialized mX1_enter.1.cls ∈ zT ∧ plainName mX1_enter.1.cls = true ∧ (mX1_enter.1.cls ≠ "java/lang/invoke/MethodHandle" ∧ mX1_enter.1.cls ≠ "java/lang/invoke/VarHandle") ∧ (parseMethodDescriptor mX1_enter.1.desc).map (fun d => d.parameters.length) = some 3 := ⟨zT_in 43 (by decide +kernel) rfl, by decide +kernel, by decide +kernel, by decide +kernel⟩
theorem ycX1_enter : zLkC mX1_enter := ⟨rfl, zT_in 311 (by decide +kernel) rfl⟩
theorem yvX1_enter : Cond.instanceMethod mX1_enter.1 ∈ zT := zT_in 309 (by decide +kernel) rfl
theorem ywX1_enter : Cond.selects mX1_enter.1.cls mX1_enter.1 mX1_enter.1 ∈ zT := zT_in 310 (by decide +kernel) rfl
theorem yiX1_copyLines : Cond.initialized mX1_copyLines.1.cls ∈ zT ∧ plainName mX1_copyLines.1.cls = true ∧ (mX1_copyLines.1.cls ≠ "java/lang/invoke/MethodHandle" ∧ mX1_copyLines.1.cls ≠ "java/lang/invoke/VarHandle") ∧ (parseMethodDescriptor mX1_copyLines.1.desc).map (fun d => d.parameters.length) = some 4 := ⟨zT_in 43 (by decide +kernel) rfl, by decide +kernel, by decide +kernel, by decide +kernel⟩
theorem ycX1_copyLines : zLkC mX1_copyLines := ⟨rfl, zT_in 470 (by decide +kernel) rfl⟩
theorem yvX1_copyLines : Cond.instanceMethod mX1_copyLines.1 ∈ zT := zT_in 468 (by decide +kernel) rfl
theorem ywX1_copyLines : Cond.selects mX1_copyLines.1.cls mX1_copyLines.1 mX1_copyLines.1 ∈ zT := zT_in 469 (by decide +kernel) rfl
theorem yiX1_takeOver : Cond.initialized mX1_takeOver.1.cls ∈ zT ∧ plainName mX1_takeOver.1.cls = true ∧ (mX1_takeOver.1.cls ≠ "java/lang/invoke/MethodHandle" ∧ mX1_takeOver.1.cls ≠ "java/lang/invoke/VarHandle") ∧ (parseMethodDescriptor mX1_takeOver.1.desc).map (fun d => d.parameters.length) = some 2 := ⟨zT_in 43 (by decide +kernel) rfl, by decide +kernel, by decide +kernel, by decide +kernel⟩
theorem ycX1_takeOver : zLkC mX1_takeOver := ⟨rfl, zT_in 499 (by decide +kernel) rfl⟩
theorem yvX1_takeOver : Cond.instanceMethod mX1_takeOver.1 ∈ zT := zT_in 497 (by decide +kernel) rfl
theorem ywX1_takeOver : Cond.selects mX1_takeOver.1.cls mX1_takeOver.1 mX1_takeOver.1 ∈ zT := zT_in 498 (by decide +kernel) rfl
theorem yiX1_goBack : Cond.initialized mX1_goBack.1.cls ∈ zT ∧ plainName mX1_goBack.1.cls = true ∧ (mX1_goBack.1.cls ≠ "java/lang/invoke/MethodHandle" ∧ mX1_goBack.1.cls ≠ "java/lang/invoke/VarHandle") ∧ (parseMethodDescriptor mX1_goBack.1.desc).map (fun d => d.parameters.length) = some 2 := ⟨zT_in 43 (by decide +kernel) rfl, by decide +kernel, by decide +kernel, by decide +kernel⟩
theorem ycX1_goBack : zLkC mX1_goBack := ⟨rfl, zT_in 510 (by decide +kernel) rfl⟩
theorem yvX1_goBack : Cond.instanceMethod mX1_goBack.1 ∈ zT := zT_in 508 (by decide +kernel) rfl
theorem ywX1_goBack : Cond.selects mX1_goBack.1.cls mX1_goBack.1 mX1_goBack.1 ∈ zT := zT_in 509 (by decide +kernel) rfl
theorem yiX1_letGoBy : Cond.initialized mX1_letGoBy.1.cls ∈ zT ∧ plainName mX1_letGoBy.1.cls = true ∧ (mX1_letGoBy.1.cls ≠ "java/lang/invoke/MethodHandle" ∧ mX1_letGoBy.1.cls ≠ "java/lang/invoke/VarHandle") ∧ (parseMethodDescriptor mX1_letGoBy.1.desc).map (fun d => d.parameters.length) = some 1 := ⟨zT_in 43 (by decide +kernel) rfl, by decide +kernel, by decide +kernel, by decide +kernel⟩
theorem ycX1_letGoBy : zLkC mX1_letGoBy := ⟨rfl, zT_in 533 (by decide +kernel) rfl⟩
theorem yvX1_letGoBy : Cond.instanceMethod mX1_letGoBy.1 ∈ zT := zT_in 531 (by decide +kernel) rfl
theorem ywX1_letGoBy : Cond.selects mX1_letGoBy.1.cls mX1_letGoBy.1 mX1_letGoBy.1 ∈ zT := zT_in 532 (by decide +kernel) rfl
theorem yiX2_init : Cond.initialized mX2_init.1.cls ∈ zT ∧ plainName mX2_init.1.cls = true ∧ (mX2_init.1.cls ≠ "java/lang/invoke/MethodHandle" ∧ mX2_init.1.cls ≠ "java/lang/invoke/VarHandle") ∧ (parseMethodDescriptor mX2_init.1.desc).map (fun d => d.parameters.length) = some 0 := ⟨zT_in 48 (by decide +kernel) rfl, by decide +kernel, by decide +kernel, by decide +kernel⟩
theorem ycX2_init : zLkC mX2_init := ⟨rfl, zT_in 181 (by decide +kernel) rfl⟩
theorem yvX2_init : Cond.instanceMethod mX2_init.1 ∈ zT := zT_in 180 (by decide +kernel) rfl
theorem yiX2_size : Cond.initialized mX2_size.1.cls ∈ zT ∧ plainName mX2_size.1.cls = true ∧ (mX2_size.1.cls ≠ "java/lang/invoke/MethodHandle" ∧ mX2_size.1.cls ≠ "java/lang/invoke/VarHandle") ∧ (parseMethodDescriptor mX2_size.1.desc).map (fun d => d.parameters.length) = some 0 := ⟨zT_in 48 (by decide +kernel) rfl, by decide +kernel, by decide +kernel, by decide +kernel⟩
theorem ycX2_size : zLkC mX2_size := ⟨rfl, zT_in 860 (by decide +kernel) rfl⟩
theorem yvX2_size : Cond.instanceMethod mX2_size.1 ∈ zT := zT_in 858 (by decide +kernel) rfl
theorem ywX2_size : Cond.selects mX2_size.1.cls mX2_size.1 mX2_size.1 ∈ zT := zT_in 859 (by decide +kernel) rfl
theorem yiX2_isFull : Cond.initialized mX2_isFull.1.cls ∈ zT ∧ plainName mX2_isFull.1.cls = true ∧ (mX2_isFull.1.cls ≠ "java/lang/invoke/MethodHandle" ∧ mX2_isFull.1.cls ≠ "java/lang/invoke/VarHandle") ∧ (parseMethodDescriptor mX2_isFull.1.desc).map (fun d => d.parameters.length) = some 0 := ⟨zT_in 48 (by decide +kernel) rfl, by decide +kernel, by decide +kernel, by decide +kernel⟩
theorem ycX2_isFull : zLkC mX2_isFull := ⟨rfl, zT_in 835 (by decide +kernel) rfl⟩
theorem yvX2_isFull : Cond.instanceMethod mX2_isFull.1 ∈ zT := zT_in 833 (by decide +kernel) rfl
theorem ywX2_isFull : Cond.selects mX2_isFull.1.cls mX2_isFull.1 mX2_isFull.1 ∈ zT := zT_in 834 (by decide +kernel) rfl
theorem yiX2_put : Cond.initialized mX2_put.1.cls ∈ zT ∧ plainName mX2_put.1.cls = true ∧ (mX2_put.1.cls ≠ "java/lang/invoke/MethodHandle" ∧ mX2_put.1.cls ≠ "java/lang/invoke/VarHandle") ∧ (parseMethodDescriptor mX2_put.1.desc).map (fun d => d.parameters.length) = some 1 := ⟨zT_in 48 (by decide +kernel) rfl, by decide +kernel, by decide +kernel, by decide +kernel⟩
theorem ycX2_put : zLkC mX2_put := ⟨rfl, zT_in 855 (by decide +kernel) rfl⟩
theorem yvX2_put : Cond.instanceMethod mX2_put.1 ∈ zT := zT_in 853 (by decide +kernel) rfl
theorem ywX2_put : Cond.selects mX2_put.1.cls mX2_put.1 mX2_put.1 ∈ zT := zT_in 854 (by decide +kernel) rfl
theorem yiX2_clear : Cond.initialized mX2_clear.1.cls ∈ zT ∧ plainName mX2_clear.1.cls = true ∧ (mX2_clear.1.cls ≠ "java/lang/invoke/MethodHandle" ∧ mX2_clear.1.cls ≠ "java/lang/invoke/VarHandle") ∧ (parseMethodDescriptor mX2_clear.1.desc).map (fun d => d.parameters.length) = some 0 := ⟨zT_in 48 (by decide +kernel) rfl, by decide +kernel, by decide +kernel, by decide +kernel⟩
theorem ycX2_clear : zLkC mX2_clear := ⟨rfl, zT_in 959 (by decide +kernel) rfl⟩
theorem yvX2_clear : Cond.instanceMethod mX2_clear.1 ∈ zT := zT_in 957 (by decide +kernel) rfl
theorem ywX2_clear : Cond.selects mX2_clear.1.cls mX2_clear.1 mX2_clear.1 ∈ zT := zT_in 958 (by decide +kernel) rfl
theorem yiX2_rewind : Cond.initialized mX2_rewind.1.cls ∈ zT ∧ plainName mX2_rewind.1.cls = true ∧ (mX2_rewind.1.cls ≠ "java/lang/invoke/MethodHandle" ∧ mX2_rewind.1.cls ≠ "java/lang/invoke/VarHandle") ∧ (parseMethodDescriptor mX2_rewind.1.desc).map (fun d => d.parameters.length) = some 0 := ⟨zT_in 48 (by decide +kernel) rfl, by decide +kernel, by decide +kernel, by decide +kernel⟩
theorem ycX2_rewind : zLkC mX2_rewind := ⟨rfl, zT_in 875 (by decide +kernel) rfl⟩
theorem yvX2_rewind : Cond.instanceMethod mX2_rewind.1 ∈ zT := zT_in 873 (by decide +kernel) rfl
theorem ywX2_rewind : Cond.selects mX2_rewind.1.cls mX2_rewind.1 mX2_rewind.1 ∈ zT := zT_in 874 (by decide +kernel) rfl
theorem yiX2_kind : Cond.initialized mX2_kind.1.cls ∈ zT ∧ plainName mX2_kind.1.cls = true ∧ (mX2_kind.1.cls ≠ "java/lang/invoke/MethodHandle" ∧ mX2_kind.1.cls ≠ "java/lang/invoke/VarHandle") ∧ (parseMethodDescriptor mX2_kind.1.desc).map (fun d => d.parameters.length) = some 0 := ⟨zT_in 48 (by decide +kernel) rfl, by decide +kernel, by decide +kernel, by decide +kernel⟩
theorem ycX2_kind : zLkC mX2_kind := ⟨rfl, zT_in 974 (by decide +kernel) rfl⟩
theorem yvX2_kind : Cond.instanceMethod mX2_kind.1 ∈ zT := zT_in 972 (by decide +kernel) rfl
theorem ywX2_kind : Cond.selects mX2_kind.1.cls mX2_kind.1 mX2_kind.1 ∈ zT := zT_in 973 (by decide +kernel) rfl
theorem yiX2_number : Cond.initialized mX2_number.1.cls ∈ zT ∧ plainName mX2_number.1.cls = true ∧ (mX2_number.1.cls ≠ "java/lang/invoke/MethodHandle" ∧ mX2_number.1.cls ≠ "java/lang/invoke/VarHandle") ∧ (parseMethodDescriptor mX2_number.1.desc).map (fun d => d.parameters.length) = some 1 := ⟨zT_in 48 (by decide +kernel) rfl, by decide +kernel, by decide +kernel, by decide +kernel⟩
theorem ycX2_number : zLkC mX2_number := ⟨rfl, zT_in 970 (by decide +kernel) rfl⟩
theorem yvX2_number : Cond.instanceMethod mX2_number.1 ∈ zT := zT_in 968 (by decide +kernel) rfl
theorem ywX2_number : Cond.selects mX2_number.1.cls mX2_number.1 mX2_number.1 ∈ zT := zT_in 969 (by decide +kernel) rfl
theorem yiX2_findFault : Cond.initialized mX2_findFault.1.cls ∈ zT ∧ plainName mX2_findFault.1.cls = true ∧ (mX2_findFault.1.cls ≠ "java/lang/invoke/MethodHandle" ∧ mX2_findFault.1.cls ≠ "java/lang/invoke/VarHandle") ∧ (parseMethodDescriptor mX2_findFault.1.desc).map (fun d => d.parameters.length) = some 0 := ⟨zT_in 48 (by decide +kernel) rfl, by decide +kernel, by decide +kernel, by decide +kernel⟩
theorem ycX2_findFault : zLkC mX2_findFault := ⟨rfl, zT_in 871 (by decide +kernel) rfl⟩
theorem yvX2_findFault : Cond.instanceMethod mX2_findFault.1 ∈ zT := zT_in 869 (by decide +kernel) rfl
theorem ywX2_findFault : Cond.selects mX2_findFault.1.cls mX2_findFault.1 mX2_findFault.1 ∈ zT := zT_in 870 (by decide +kernel) rfl
theorem yiX2_readCommand : Cond.initialized mX2_readCommand.1.cls ∈ zT ∧ plainName mX2_readCommand.1.cls = true ∧ (mX2_readCommand.1.cls ≠ "java/lang/invoke/MethodHandle" ∧ mX2_readCommand.1.cls ≠ "java/lang/invoke/VarHandle") ∧ (parseMethodDescriptor mX2_readCommand.1.desc).map (fun d => d.parameters.length) = some 0 := ⟨zT_in 48 (by decide +kernel) rfl, by decide +kernel, by decide +kernel, by decide +kernel⟩
theorem ycX2_readCommand : zLkC mX2_readCommand := ⟨rfl, zT_in 879 (by decide +kernel) rfl⟩
theorem yvX2_readCommand : Cond.instanceMethod mX2_readCommand.1 ∈ zT := zT_in 877 (by decide +kernel) rfl
theorem ywX2_readCommand : Cond.selects mX2_readCommand.1.cls mX2_readCommand.1 mX2_readCommand.1 ∈ zT := zT_in 878 (by decide +kernel) rfl
theorem yiX2_readSign : Cond.initialized mX2_readSign.1.cls ∈ zT ∧ plainName mX2_readSign.1.cls = true ∧ (mX2_readSign.1.cls ≠ "java/lang/invoke/MethodHandle" ∧ mX2_readSign.1.cls ≠ "java/lang/invoke/VarHandle") ∧ (parseMethodDescriptor mX2_readSign.1.desc).map (fun d => d.parameters.length) = some 1 := ⟨zT_in 48 (by decide +kernel) rfl, by decide +kernel, by decide +kernel, by decide +kernel⟩
theorem ycX2_readSign : zLkC mX2_readSign := ⟨rfl, zT_in 955 (by decide +kernel) rfl⟩
theorem yvX2_readSign : Cond.instanceMethod mX2_readSign.1 ∈ zT := zT_in 953 (by decide +kernel) rfl
theorem ywX2_readSign : Cond.selects mX2_readSign.1.cls mX2_readSign.1 mX2_readSign.1 ∈ zT := zT_in 954 (by decide +kernel) rfl
theorem yiX2_readNumber : Cond.initialized mX2_readNumber.1.cls ∈ zT ∧ plainName mX2_readNumber.1.cls = true ∧ (mX2_readNumber.1.cls ≠ "java/lang/invoke/MethodHandle" ∧ mX2_readNumber.1.cls ≠ "java/lang/invoke/VarHandle") ∧ (parseMethodDescriptor mX2_readNumber.1.desc).map (fun d => d.parameters.length) = some 2 := ⟨zT_in 48 (by decide +kernel) rfl, by decide +kernel, by decide +kernel, by decide +kernel⟩
theorem ycX2_readNumber : zLkC mX2_readNumber := ⟨rfl, zT_in 951 (by decide +kernel) rfl⟩
theorem yvX2_readNumber : Cond.instanceMethod mX2_readNumber.1 ∈ zT := zT_in 950 (by decide +kernel) rfl
theorem ywX2_readNumber : Cond.selects mX2_readNumber.1.cls mX2_readNumber.1 mX2_readNumber.1 ∈ zT := zT_in 10 (by decide +kernel) rfl
theorem yiX2_signAhead : Cond.initialized mX2_signAhead.1.cls ∈ zT ∧ plainName mX2_signAhead.1.cls = true ∧ (mX2_signAhead.1.cls ≠ "java/lang/invoke/MethodHandle" ∧ mX2_signAhead.1.cls ≠ "java/lang/invoke/VarHandle") ∧ (parseMethodDescriptor mX2_signAhead.1.desc).map (fun d => d.parameters.length) = some 0 := ⟨zT_in 48 (by decide +kernel) rfl, by decide +kernel, by decide +kernel, by decide +kernel⟩
theorem ycX2_signAhead : zLkC mX2_signAhead := ⟨rfl, zT_in 883 (by decide +kernel) rfl⟩
theorem yvX2_signAhead : Cond.instanceMethod mX2_signAhead.1 ∈ zT := zT_in 882 (by decide +kernel) rfl
theorem ywX2_signAhead : Cond.selects mX2_signAhead.1.cls mX2_signAhead.1 mX2_signAhead.1 ∈ zT := zT_in 9 (by decide +kernel) rfl
theorem yiX2_formOf : Cond.initialized mX2_formOf.1.cls ∈ zT ∧ plainName mX2_formOf.1.cls = true ∧ (mX2_formOf.1.cls ≠ "java/lang/invoke/MethodHandle" ∧ mX2_formOf.1.cls ≠ "java/lang/invoke/VarHandle") ∧ (parseMethodDescriptor mX2_formOf.1.desc).map (fun d => d.parameters.length) = some 1 := ⟨zT_in 48 (by decide +kernel) rfl, by decide +kernel, by decide +kernel, by decide +kernel⟩
theorem ycX2_formOf : zLkC mX2_formOf := ⟨rfl, zT_in 886 (by decide +kernel) rfl⟩
theorem ysX2_formOf : Cond.static mX2_formOf.1 ∈ zT := zT_in 885 (by decide +kernel) rfl
theorem yiX3_init : Cond.initialized mX3_init.1.cls ∈ zT ∧ plainName mX3_init.1.cls = true ∧ (mX3_init.1.cls ≠ "java/lang/invoke/MethodHandle" ∧ mX3_init.1.cls ≠ "java/lang/invoke/VarHandle") ∧ (parseMethodDescriptor mX3_init.1.desc).map (fun d => d.parameters.length) = some 0 := ⟨zT_in 47 (by decide +kernel) rfl, by decide +kernel, by decide +kernel, by decide +kernel⟩
theorem ycX3_init : zLkC mX3_init := ⟨rfl, zT_in 168 (by decide +kernel) rfl⟩
theorem yvX3_init : Cond.instanceMethod mX3_init.1 ∈ zT := zT_in 167 (by decide +kernel) rfl
theorem yiX3_size : Cond.initialized mX3_size.1.cls ∈ zT ∧ plainName mX3_size.1.cls = true ∧ (mX3_size.1.cls ≠ "java/lang/invoke/MethodHandle" ∧ mX3_size.1.cls ≠ "java/lang/invoke/VarHandle") ∧ (parseMethodDescriptor mX3_size.1.desc).map (fun d => d.parameters.length) = some 0 := ⟨zT_in 47 (by decide +kernel) rfl, by decide +kernel, by decide +kernel, by decide +kernel⟩
theorem ycX3_size : zLkC mX3_size := ⟨rfl, zT_in 1066 (by decide +kernel) rfl⟩
theorem yvX3_size : Cond.instanceMethod mX3_size.1 ∈ zT := zT_in 1064 (by decide +kernel) rfl
theorem ywX3_size : Cond.selects mX3_size.1.cls mX3_size.1 mX3_size.1 ∈ zT := zT_in 1065 (by decide +kernel) rfl
theorem yiX3_note : Cond.initialized mX3_note.1.cls ∈ zT ∧ plainName mX3_note.1.cls = true ∧ (mX3_note.1.cls ≠ "java/lang/invoke/MethodHandle" ∧ mX3_note.1.cls ≠ "java/lang/invoke/VarHandle") ∧ (parseMethodDescriptor mX3_note.1.desc).map (fun d => d.parameters.length) = some 1 := ⟨zT_in 47 (by decide +kernel) rfl, by decide +kernel, by decide +kernel, by decide +kernel⟩
theorem ycX3_note : zLkC mX3_note := ⟨rfl, zT_in 302 (by decide +kernel) rfl⟩
theorem yvX3_note : Cond.instanceMethod mX3_note.1 ∈ zT := zT_in 300 (by decide +kernel) rfl
theorem ywX3_note : Cond.selects mX3_note.1.cls mX3_note.1 mX3_note.1 ∈ zT := zT_in 301 (by decide +kernel) rfl
theorem yiX3_takeBack : Cond.initialized mX3_takeBack.1.cls ∈ zT ∧ plainName mX3_takeBack.1.cls = true ∧ (mX3_takeBack.1.cls ≠ "java/lang/invoke/MethodHandle" ∧ mX3_takeBack.1.cls ≠ "java/lang/invoke/VarHandle") ∧ (parseMethodDescriptor mX3_takeBack.1.desc).map (fun d => d.parameters.length) = some 1 := ⟨zT_in 47 (by decide +kernel) rfl, by decide +kernel, by decide +kernel, by decide +kernel⟩
theorem ycX3_takeBack : zLkC mX3_takeBack := ⟨rfl, zT_in 376 (by decide +kernel) rfl⟩
theorem yvX3_takeBack : Cond.instanceMethod mX3_takeBack.1 ∈ zT := zT_in 374 (by decide +kernel) rfl
theorem ywX3_takeBack : Cond.selects mX3_takeBack.1.cls mX3_takeBack.1 mX3_takeBack.1 ∈ zT := zT_in 375 (by decide +kernel) rfl
theorem yiX3_keep : Cond.initialized mX3_keep.1.cls ∈ zT ∧ plainName mX3_keep.1.cls = true ∧ (mX3_keep.1.cls ≠ "java/lang/invoke/MethodHandle" ∧ mX3_keep.1.cls ≠ "java/lang/invoke/VarHandle") ∧ (parseMethodDescriptor mX3_keep.1.desc).map (fun d => d.parameters.length) = some 0 := ⟨zT_in 47 (by decide +kernel) rfl, by decide +kernel, by decide +kernel, by decide +kernel⟩
theorem ycX3_keep : zLkC mX3_keep := ⟨rfl, zT_in 458 (by decide +kernel) rfl⟩
theorem yvX3_keep : Cond.instanceMethod mX3_keep.1 ∈ zT := zT_in 456 (by decide +kernel) rfl
theorem ywX3_keep : Cond.selects mX3_keep.1.cls mX3_keep.1 mX3_keep.1 ∈ zT := zT_in 457 (by decide +kernel) rfl
theorem yiX3_dropLatest : Cond.initialized mX3_dropLatest.1.cls ∈ zT ∧ plainName mX3_dropLatest.1.cls = true ∧ (mX3_dropLatest.1.cls ≠ "java/lang/invoke/MethodHandle" ∧ mX3_dropLatest.1.cls ≠ "java/lang/invoke/VarHandle") ∧ (parseMethodDescriptor mX3_dropLatest.1.desc).map (fun d => d.parameters.length) = some 0 := ⟨zT_in 47 (by decide +kernel) rfl, by decide +kernel, by decide +kernel, by decide +kernel⟩
theorem ycX3_dropLatest : zLkC mX3_dropLatest := ⟨rfl, zT_in 1079 (by decide +kernel) rfl⟩
theorem yvX3_dropLatest : Cond.instanceMethod mX3_dropLatest.1 ∈ zT := zT_in 1077 (by decide +kernel) rfl
theorem ywX3_dropLatest : Cond.selects mX3_dropLatest.1.cls mX3_dropLatest.1 mX3_dropLatest.1 ∈ zT := zT_in 1078 (by decide +kernel) rfl
theorem yiX3_forget : Cond.initialized mX3_forget.1.cls ∈ zT ∧ plainName mX3_forget.1.cls = true ∧ (mX3_forget.1.cls ≠ "java/lang/invoke/MethodHandle" ∧ mX3_forget.1.cls ≠ "java/lang/invoke/VarHandle") ∧ (parseMethodDescriptor mX3_forget.1.desc).map (fun d => d.parameters.length) = some 0 := ⟨zT_in 47 (by decide +kernel) rfl, by decide +kernel, by decide +kernel, by decide +kernel⟩
theorem ycX3_forget : zLkC mX3_forget := ⟨rfl, zT_in 1091 (by decide +kernel) rfl⟩
theorem yvX3_forget : Cond.instanceMethod mX3_forget.1 ∈ zT := zT_in 1089 (by decide +kernel) rfl
theorem ywX3_forget : Cond.selects mX3_forget.1.cls mX3_forget.1 mX3_forget.1 ∈ zT := zT_in 1090 (by decide +kernel) rfl
theorem yiX4_init : Cond.initialized mX4_init.1.cls ∈ zT ∧ plainName mX4_init.1.cls = true ∧ (mX4_init.1.cls ≠ "java/lang/invoke/MethodHandle" ∧ mX4_init.1.cls ≠ "java/lang/invoke/VarHandle") ∧ (parseMethodDescriptor mX4_init.1.desc).map (fun d => d.parameters.length) = some 0 := ⟨zT_in 46 (by decide +kernel) rfl, by decide +kernel, by decide +kernel, by decide +kernel⟩
theorem ycX4_init : zLkC mX4_init := ⟨rfl, zT_in 135 (by decide +kernel) rfl⟩
theorem yvX4_init : Cond.instanceMethod mX4_init.1 ∈ zT := zT_in 134 (by decide +kernel) rfl
theorem yiX4_refuse : Cond.initialized mX4_refuse.1.cls ∈ zT ∧ plainName mX4_refuse.1.cls = true ∧ (mX4_refuse.1.cls ≠ "java/lang/invoke/MethodHandle" ∧ mX4_refuse.1.cls ≠ "java/lang/invoke/VarHandle") ∧ (parseMethodDescriptor mX4_refuse.1.desc).map (fun d => d.parameters.length) = some 2 := ⟨zT_in 46 (by decide +kernel) rfl, by decide +kernel, by decide +kernel, by decide +kernel⟩
theorem ycX4_refuse : zLkC mX4_refuse := ⟨rfl, zT_in 321 (by decide +kernel) rfl⟩
theorem yvX4_refuse : Cond.instanceMethod mX4_refuse.1 ∈ zT := zT_in 319 (by decide +kernel) rfl
theorem ywX4_refuse : Cond.selects mX4_refuse.1.cls mX4_refuse.1 mX4_refuse.1 ∈ zT := zT_in 320 (by decide +kernel) rfl
theorem yiX5_init : Cond.initialized mX5_init.1.cls ∈ zT ∧ plainName mX5_init.1.cls = true ∧ (mX5_init.1.cls ≠ "java/lang/invoke/MethodHandle" ∧ mX5_init.1.cls ≠ "java/lang/invoke/VarHandle") ∧ (parseMethodDescriptor mX5_init.1.desc).map (fun d => d.parameters.length) = some 0 := ⟨zT_in 49 (by decide +kernel) rfl, by decide +kernel, by decide +kernel, by decide +kernel⟩
theorem ycX5_init : zLkC mX5_init := ⟨rfl, zT_in 204 (by decide +kernel) rfl⟩
theorem yvX5_init : Cond.instanceMethod mX5_init.1 ∈ zT := zT_in 203 (by decide +kernel) rfl
theorem yiX5_size : Cond.initialized mX5_size.1.cls ∈ zT ∧ plainName mX5_size.1.cls = true ∧ (mX5_size.1.cls ≠ "java/lang/invoke/MethodHandle" ∧ mX5_size.1.cls ≠ "java/lang/invoke/VarHandle") ∧ (parseMethodDescriptor mX5_size.1.desc).map (fun d => d.parameters.length) = some 0 := ⟨zT_in 49 (by decide +kernel) rfl, by decide +kernel, by decide +kernel, by decide +kernel⟩
theorem ycX5_size : zLkC mX5_size := ⟨rfl, zT_in 1017 (by decide +kernel) rfl⟩
theorem yvX5_size : Cond.instanceMethod mX5_size.1 ∈ zT := zT_in 1015 (by decide +kernel) rfl
theorem ywX5_size : Cond.selects mX5_size.1.cls mX5_size.1 mX5_size.1 ∈ zT := zT_in 1016 (by decide +kernel) rfl
theorem yiX5_signAt : Cond.initialized mX5_signAt.1.cls ∈ zT ∧ plainName mX5_signAt.1.cls = true ∧ (mX5_signAt.1.cls ≠ "java/lang/invoke/MethodHandle" ∧ mX5_signAt.1.cls ≠ "java/lang/invoke/VarHandle") ∧ (parseMethodDescriptor mX5_signAt.1.desc).map (fun d => d.parameters.length) = some 1 := ⟨zT_in 49 (by decide +kernel) rfl, by decide +kernel, by decide +kernel, by decide +kernel⟩
theorem ycX5_signAt : zLkC mX5_signAt := ⟨rfl, zT_in 1036 (by decide +kernel) rfl⟩
theorem yvX5_signAt : Cond.instanceMethod mX5_signAt.1 ∈ zT := zT_in 1034 (by decide +kernel) rfl
theorem ywX5_signAt : Cond.selects mX5_signAt.1.cls mX5_signAt.1 mX5_signAt.1 ∈ zT := zT_in 1035 (by decide +kernel) rfl
theorem yiX5_clear : Cond.initialized mX5_clear.1.cls ∈ zT ∧ plainName mX5_clear.1.cls = true ∧ (mX5_clear.1.cls ≠ "java/lang/invoke/MethodHandle" ∧ mX5_clear.1.cls ≠ "java/lang/invoke/VarHandle") ∧ (parseMethodDescriptor mX5_clear.1.desc).map (fun d => d.parameters.length) = some 0 := ⟨zT_in 49 (by decide +kernel) rfl, by decide +kernel, by decide +kernel, by decide +kernel⟩
theorem ycX5_clear : zLkC mX5_clear := ⟨rfl, zT_in 1000 (by decide +kernel) rfl⟩
theorem yvX5_clear : Cond.instanceMethod mX5_clear.1 ∈ zT := zT_in 998 (by decide +kernel) rfl
theorem ywX5_clear : Cond.selects mX5_clear.1.cls mX5_clear.1 mX5_clear.1 ∈ zT := zT_in 999 (by decide +kernel) rfl
theorem yiX5_put : Cond.initialized mX5_put.1.cls ∈ zT ∧ plainName mX5_put.1.cls = true ∧ (mX5_put.1.cls ≠ "java/lang/invoke/MethodHandle" ∧ mX5_put.1.cls ≠ "java/lang/invoke/VarHandle") ∧ (parseMethodDescriptor mX5_put.1.desc).map (fun d => d.parameters.length) = some 1 := ⟨zT_in 49 (by decide +kernel) rfl, by decide +kernel, by decide +kernel, by decide +kernel⟩
theorem ycX5_put : zLkC mX5_put := ⟨rfl, zT_in 1008 (by decide +kernel) rfl⟩
theorem yvX5_put : Cond.instanceMethod mX5_put.1 ∈ zT := zT_in 1006 (by decide +kernel) rfl
theorem ywX5_put : Cond.selects mX5_put.1.cls mX5_put.1 mX5_put.1 ∈ zT := zT_in 1007 (by decide +kernel) rfl
theorem yiX5_separate : Cond.initialized mX5_separate.1.cls ∈ zT ∧ plainName mX5_separate.1.cls = true ∧ (mX5_separate.1.cls ≠ "java/lang/invoke/MethodHandle" ∧ mX5_separate.1.cls ≠ "java/lang/invoke/VarHandle") ∧ (parseMethodDescriptor mX5_separate.1.desc).map (fun d => d.parameters.length) = some 1 := ⟨zT_in 49 (by decide +kernel) rfl, by decide +kernel, by decide +kernel, by decide +kernel⟩
theorem ycX5_separate : zLkC mX5_separate := ⟨rfl, zT_in 1004 (by decide +kernel) rfl⟩
theorem yvX5_separate : Cond.instanceMethod mX5_separate.1 ∈ zT := zT_in 1002 (by decide +kernel) rfl
theorem ywX5_separate : Cond.selects mX5_separate.1.cls mX5_separate.1 mX5_separate.1 ∈ zT := zT_in 1003 (by decide +kernel) rfl
theorem yiX5_putNumber : Cond.initialized mX5_putNumber.1.cls ∈ zT ∧ plainName mX5_putNumber.1.cls = true ∧ (mX5_putNumber.1.cls ≠ "java/lang/invoke/MethodHandle" ∧ mX5_putNumber.1.cls ≠ "java/lang/invoke/VarHandle") ∧ (parseMethodDescriptor mX5_putNumber.1.desc).map (fun d => d.parameters.length) = some 1 := ⟨zT_in 49 (by decide +kernel) rfl, by decide +kernel, by decide +kernel, by decide +kernel⟩
theorem ycX5_putNumber : zLkC mX5_putNumber := ⟨rfl, zT_in 1012 (by decide +kernel) rfl⟩
theorem yvX5_putNumber : Cond.instanceMethod mX5_putNumber.1 ∈ zT := zT_in 1010 (by decide +kernel) rfl
theorem ywX5_putNumber : Cond.selects mX5_putNumber.1.cls mX5_putNumber.1 mX5_putNumber.1 ∈ zT := zT_in 1011 (by decide +kernel) rfl
theorem yiX6_init : Cond.initialized mX6_init.1.cls ∈ zT ∧ plainName mX6_init.1.cls = true ∧ (mX6_init.1.cls ≠ "java/lang/invoke/MethodHandle" ∧ mX6_init.1.cls ≠ "java/lang/invoke/VarHandle") ∧ (parseMethodDescriptor mX6_init.1.desc).map (fun d => d.parameters.length) = some 0 := ⟨zT_in 45 (by decide +kernel) rfl, by decide +kernel, by decide +kernel, by decide +kernel⟩
theorem ycX6_init : zLkC mX6_init := ⟨rfl, zT_in 88 (by decide +kernel) rfl⟩
theorem yvX6_init : Cond.instanceMethod mX6_init.1 ∈ zT := zT_in 87 (by decide +kernel) rfl
theorem yiX6_copyFrom : Cond.initialized mX6_copyFrom.1.cls ∈ zT ∧ plainName mX6_copyFrom.1.cls = true ∧ (mX6_copyFrom.1.cls ≠ "java/lang/invoke/MethodHandle" ∧ mX6_copyFrom.1.cls ≠ "java/lang/invoke/VarHandle") ∧ (parseMethodDescriptor mX6_copyFrom.1.desc).map (fun d => d.parameters.length) = some 1 := ⟨zT_in 45 (by decide +kernel) rfl, by decide +kernel, by decide +kernel, by decide +kernel⟩
theorem ycX6_copyFrom : zLkC mX6_copyFrom := ⟨rfl, zT_in 286 (by decide +kernel) rfl⟩
theorem yvX6_copyFrom : Cond.instanceMethod mX6_copyFrom.1 ∈ zT := zT_in 284 (by decide +kernel) rfl
theorem ywX6_copyFrom : Cond.selects mX6_copyFrom.1.cls mX6_copyFrom.1 mX6_copyFrom.1 ∈ zT := zT_in 285 (by decide +kernel) rfl
theorem yiX6_size : Cond.initialized mX6_size.1.cls ∈ zT ∧ plainName mX6_size.1.cls = true ∧ (mX6_size.1.cls ≠ "java/lang/invoke/MethodHandle" ∧ mX6_size.1.cls ≠ "java/lang/invoke/VarHandle") ∧ (parseMethodDescriptor mX6_size.1.desc).map (fun d => d.parameters.length) = some 0 := ⟨zT_in 45 (by decide +kernel) rfl, by decide +kernel, by decide +kernel, by decide +kernel⟩
theorem ycX6_size : zLkC mX6_size := ⟨rfl, zT_in 255 (by decide +kernel) rfl⟩
theorem yvX6_size : Cond.instanceMethod mX6_size.1 ∈ zT := zT_in 253 (by decide +kernel) rfl
theorem ywX6_size : Cond.selects mX6_size.1.cls mX6_size.1 mX6_size.1 ∈ zT := zT_in 254 (by decide +kernel) rfl
theorem yiX6_forgetFrom : Cond.initialized mX6_forgetFrom.1.cls ∈ zT ∧ plainName mX6_forgetFrom.1.cls = true ∧ (mX6_forgetFrom.1.cls ≠ "java/lang/invoke/MethodHandle" ∧ mX6_forgetFrom.1.cls ≠ "java/lang/invoke/VarHandle") ∧ (parseMethodDescriptor mX6_forgetFrom.1.desc).map (fun d => d.parameters.length) = some 1 := ⟨zT_in 45 (by decide +kernel) rfl, by decide +kernel, by decide +kernel, by decide +kernel⟩
theorem ycX6_forgetFrom : zLkC mX6_forgetFrom := ⟨rfl, zT_in 384 (by decide +kernel) rfl⟩
theorem yvX6_forgetFrom : Cond.instanceMethod mX6_forgetFrom.1 ∈ zT := zT_in 382 (by decide +kernel) rfl
theorem ywX6_forgetFrom : Cond.selects mX6_forgetFrom.1.cls mX6_forgetFrom.1 mX6_forgetFrom.1 ∈ zT := zT_in 383 (by decide +kernel) rfl
theorem yiX6_has : Cond.initialized mX6_has.1.cls ∈ zT ∧ plainName mX6_has.1.cls = true ∧ (mX6_has.1.cls ≠ "java/lang/invoke/MethodHandle" ∧ mX6_has.1.cls ≠ "java/lang/invoke/VarHandle") ∧ (parseMethodDescriptor mX6_has.1.desc).map (fun d => d.parameters.length) = some 1 := ⟨zT_in 45 (by decide +kernel) rfl, by decide +kernel, by decide +kernel, by decide +kernel⟩
theorem ycX6_has : zLkC mX6_has := ⟨rfl, zT_in 271 (by decide +kernel) rfl⟩
theorem yvX6_has : Cond.instanceMethod mX6_has.1 ∈ zT := zT_in 269 (by decide +kernel) rfl
theorem ywX6_has : Cond.selects mX6_has.1.cls mX6_has.1 mX6_has.1 ∈ zT := zT_in 270 (by decide +kernel) rfl
theorem yiX6_isFull : Cond.initialized mX6_isFull.1.cls ∈ zT ∧ plainName mX6_isFull.1.cls = true ∧ (mX6_isFull.1.cls ≠ "java/lang/invoke/MethodHandle" ∧ mX6_isFull.1.cls ≠ "java/lang/invoke/VarHandle") ∧ (parseMethodDescriptor mX6_isFull.1.desc).map (fun d => d.parameters.length) = some 0 := ⟨zT_in 45 (by decide +kernel) rfl, by decide +kernel, by decide +kernel, by decide +kernel⟩
theorem ycX6_isFull : zLkC mX6_isFull := ⟨rfl, zT_in 338 (by decide +kernel) rfl⟩
theorem yvX6_isFull : Cond.instanceMethod mX6_isFull.1 ∈ zT := zT_in 336 (by decide +kernel) rfl
theorem ywX6_isFull : Cond.selects mX6_isFull.1.cls mX6_isFull.1 mX6_isFull.1 ∈ zT := zT_in 337 (by decide +kernel) rfl
theorem yiX6_parentOf : Cond.initialized mX6_parentOf.1.cls ∈ zT ∧ plainName mX6_parentOf.1.cls = true ∧ (mX6_parentOf.1.cls ≠ "java/lang/invoke/MethodHandle" ∧ mX6_parentOf.1.cls ≠ "java/lang/invoke/VarHandle") ∧ (parseMethodDescriptor mX6_parentOf.1.desc).map (fun d => d.parameters.length) = some 1 := ⟨zT_in 45 (by decide +kernel) rfl, by decide +kernel, by decide +kernel, by decide +kernel⟩
theorem ycX6_parentOf : zLkC mX6_parentOf := ⟨rfl, zT_in 518 (by decide +kernel) rfl⟩
theorem yvX6_parentOf : Cond.instanceMethod mX6_parentOf.1 ∈ zT := zT_in 516 (by decide +kernel) rfl
theorem ywX6_parentOf : Cond.selects mX6_parentOf.1.cls mX6_parentOf.1 mX6_parentOf.1 ∈ zT := zT_in 517 (by decide +kernel) rfl
theorem yiX6_yearOf : Cond.initialized mX6_yearOf.1.cls ∈ zT ∧ plainName mX6_yearOf.1.cls = true ∧ (mX6_yearOf.1.cls ≠ "java/lang/invoke/MethodHandle" ∧ mX6_yearOf.1.cls ≠ "java/lang/invoke/VarHandle") ∧ (parseMethodDescriptor mX6_yearOf.1.desc).map (fun d => d.parameters.length) = some 1 := ⟨zT_in 45 (by decide +kernel) rfl, by decide +kernel, by decide +kernel, by decide +kernel⟩
theorem ycX6_yearOf : zLkC mX6_yearOf := ⟨rfl, zT_in 670 (by decide +kernel) rfl⟩
theorem yvX6_yearOf : Cond.instanceMethod mX6_yearOf.1 ∈ zT := zT_in 668 (by decide +kernel) rfl
theorem ywX6_yearOf : Cond.selects mX6_yearOf.1.cls mX6_yearOf.1 mX6_yearOf.1 ∈ zT := zT_in 669 (by decide +kernel) rfl
theorem yiX6_makerOf : Cond.initialized mX6_makerOf.1.cls ∈ zT ∧ plainName mX6_makerOf.1.cls = true ∧ (mX6_makerOf.1.cls ≠ "java/lang/invoke/MethodHandle" ∧ mX6_makerOf.1.cls ≠ "java/lang/invoke/VarHandle") ∧ (parseMethodDescriptor mX6_makerOf.1.desc).map (fun d => d.parameters.length) = some 2 := ⟨zT_in 45 (by decide +kernel) rfl, by decide +kernel, by decide +kernel, by decide +kernel⟩
theorem ycX6_makerOf : zLkC mX6_makerOf := ⟨rfl, zT_in 267 (by decide +kernel) rfl⟩
theorem yvX6_makerOf : Cond.instanceMethod mX6_makerOf.1 ∈ zT := zT_in 265 (by decide +kernel) rfl
theorem ywX6_makerOf : Cond.selects mX6_makerOf.1.cls mX6_makerOf.1 mX6_makerOf.1 ∈ zT := zT_in 266 (by decide +kernel) rfl
theorem yiX6_totalOf : Cond.initialized mX6_totalOf.1.cls ∈ zT ∧ plainName mX6_totalOf.1.cls = true ∧ (mX6_totalOf.1.cls ≠ "java/lang/invoke/MethodHandle" ∧ mX6_totalOf.1.cls ≠ "java/lang/invoke/VarHandle") ∧ (parseMethodDescriptor mX6_totalOf.1.desc).map (fun d => d.parameters.length) = some 2 := ⟨zT_in 45 (by decide +kernel) rfl, by decide +kernel, by decide +kernel, by decide +kernel⟩
theorem ycX6_totalOf : zLkC mX6_totalOf := ⟨rfl, zT_in 334 (by decide +kernel) rfl⟩
theorem yvX6_totalOf : Cond.instanceMethod mX6_totalOf.1 ∈ zT := zT_in 332 (by decide +kernel) rfl
theorem ywX6_totalOf : Cond.selects mX6_totalOf.1.cls mX6_totalOf.1 mX6_totalOf.1 ∈ zT := zT_in 333 (by decide +kernel) rfl
theorem yiX6_amountOn : Cond.initialized mX6_amountOn.1.cls ∈ zT ∧ plainName mX6_amountOn.1.cls = true ∧ (mX6_amountOn.1.cls ≠ "java/lang/invoke/MethodHandle" ∧ mX6_amountOn.1.cls ≠ "java/lang/invoke/VarHandle") ∧ (parseMethodDescriptor mX6_amountOn.1.desc).map (fun d => d.parameters.length) = some 2 := ⟨zT_in 45 (by decide +kernel) rfl, by decide +kernel, by decide +kernel, by decide +kernel⟩
theorem ycX6_amountOn : zLkC mX6_amountOn := ⟨rfl, zT_in 330 (by decide +kernel) rfl⟩
theorem yvX6_amountOn : Cond.instanceMethod mX6_amountOn.1 ∈ zT := zT_in 328 (by decide +kernel) rfl
theorem ywX6_amountOn : Cond.selects mX6_amountOn.1.cls mX6_amountOn.1 mX6_amountOn.1 ∈ zT := zT_in 329 (by decide +kernel) rfl
theorem yiX6_addWritten : Cond.initialized mX6_addWritten.1.cls ∈ zT ∧ plainName mX6_addWritten.1.cls = true ∧ (mX6_addWritten.1.cls ≠ "java/lang/invoke/MethodHandle" ∧ mX6_addWritten.1.cls ≠ "java/lang/invoke/VarHandle") ∧ (parseMethodDescriptor mX6_addWritten.1.desc).map (fun d => d.parameters.length) = some 4 := ⟨zT_in 45 (by decide +kernel) rfl, by decide +kernel, by decide +kernel, by decide +kernel⟩
theorem ycX6_addWritten : zLkC mX6_addWritten := ⟨rfl, zT_in 342 (by decide +kernel) rfl⟩
theorem yvX6_addWritten : Cond.instanceMethod mX6_addWritten.1 ∈ zT := zT_in 340 (by decide +kernel) rfl
theorem ywX6_addWritten : Cond.selects mX6_addWritten.1.cls mX6_addWritten.1 mX6_addWritten.1 ∈ zT := zT_in 341 (by decide +kernel) rfl
theorem yiX6_addGrafted : Cond.initialized mX6_addGrafted.1.cls ∈ zT ∧ plainName mX6_addGrafted.1.cls = true ∧ (mX6_addGrafted.1.cls ≠ "java/lang/invoke/MethodHandle" ∧ mX6_addGrafted.1.cls ≠ "java/lang/invoke/VarHandle") ∧ (parseMethodDescriptor mX6_addGrafted.1.desc).map (fun d => d.parameters.length) = some 5 := ⟨zT_in 45 (by decide +kernel) rfl, by decide +kernel, by decide +kernel, by decide +kernel⟩
theorem ycX6_addGrafted : zLkC mX6_addGrafted := ⟨rfl, zT_in 481 (by decide +kernel) rfl⟩
theorem yvX6_addGrafted : Cond.instanceMethod mX6_addGrafted.1 ∈ zT := zT_in 479 (by decide +kernel) rfl
theorem ywX6_addGrafted : Cond.selects mX6_addGrafted.1.cls mX6_addGrafted.1 mX6_addGrafted.1 ∈ zT := zT_in 480 (by decide +kernel) rfl
theorem yiX6_addChild : Cond.initialized mX6_addChild.1.cls ∈ zT ∧ plainName mX6_addChild.1.cls = true ∧ (mX6_addChild.1.cls ≠ "java/lang/invoke/MethodHandle" ∧ mX6_addChild.1.cls ≠ "java/lang/invoke/VarHandle") ∧ (parseMethodDescriptor mX6_addChild.1.desc).map (fun d => d.parameters.length) = some 2 := ⟨zT_in 45 (by decide +kernel) rfl, by decide +kernel, by decide +kernel, by decide +kernel⟩
theorem ycX6_addChild : zLkC mX6_addChild := ⟨rfl, zT_in 346 (by decide +kernel) rfl⟩
theorem yvX6_addChild : Cond.instanceMethod mX6_addChild.1 ∈ zT := zT_in 345 (by decide +kernel) rfl
theorem ywX6_addChild : Cond.selects mX6_addChild.1.cls mX6_addChild.1 mX6_addChild.1 ∈ zT := zT_in 0 (by decide +kernel) rfl
theorem yiX6_makePage : Cond.initialized mX6_makePage.1.cls ∈ zT ∧ plainName mX6_makePage.1.cls = true ∧ (mX6_makePage.1.cls ≠ "java/lang/invoke/MethodHandle" ∧ mX6_makePage.1.cls ≠ "java/lang/invoke/VarHandle") ∧ (parseMethodDescriptor mX6_makePage.1.desc).map (fun d => d.parameters.length) = some 3 := ⟨zT_in 45 (by decide +kernel) rfl, by decide +kernel, by decide +kernel, by decide +kernel⟩
theorem ycX6_makePage : zLkC mX6_makePage := ⟨rfl, zT_in 351 (by decide +kernel) rfl⟩
theorem yvX6_makePage : Cond.instanceMethod mX6_makePage.1 ∈ zT := zT_in 350 (by decide +kernel) rfl
theorem ywX6_makePage : Cond.selects mX6_makePage.1.cls mX6_makePage.1 mX6_makePage.1 ∈ zT := zT_in 1 (by decide +kernel) rfl
theorem yiX6_takePage : Cond.initialized mX6_takePage.1.cls ∈ zT ∧ plainName mX6_takePage.1.cls = true ∧ (mX6_takePage.1.cls ≠ "java/lang/invoke/MethodHandle" ∧ mX6_takePage.1.cls ≠ "java/lang/invoke/VarHandle") ∧ (parseMethodDescriptor mX6_takePage.1.desc).map (fun d => d.parameters.length) = some 3 := ⟨zT_in 45 (by decide +kernel) rfl, by decide +kernel, by decide +kernel, by decide +kernel⟩
theorem ycX6_takePage : zLkC mX6_takePage := ⟨rfl, zT_in 488 (by decide +kernel) rfl⟩
theorem yvX6_takePage : Cond.instanceMethod mX6_takePage.1 ∈ zT := zT_in 487 (by decide +kernel) rfl
theorem ywX6_takePage : Cond.selects mX6_takePage.1.cls mX6_takePage.1 mX6_takePage.1 ∈ zT := zT_in 5 (by decide +kernel) rfl
theorem yiX6_totalOfHalves : Cond.initialized mX6_totalOfHalves.1.cls ∈ zT ∧ plainName mX6_totalOfHalves.1.cls = true ∧ (mX6_totalOfHalves.1.cls ≠ "java/lang/invoke/MethodHandle" ∧ mX6_totalOfHalves.1.cls ≠ "java/lang/invoke/VarHandle") ∧ (parseMethodDescriptor mX6_totalOfHalves.1.desc).map (fun d => d.parameters.length) = some 2 := ⟨zT_in 45 (by decide +kernel) rfl, by decide +kernel, by decide +kernel, by decide +kernel⟩
theorem ycX6_totalOfHalves : zLkC mX6_totalOfHalves := ⟨rfl, zT_in 363 (by decide +kernel) rfl⟩
theorem yvX6_totalOfHalves : Cond.instanceMethod mX6_totalOfHalves.1 ∈ zT := zT_in 362 (by decide +kernel) rfl
theorem ywX6_totalOfHalves : Cond.selects mX6_totalOfHalves.1.cls mX6_totalOfHalves.1 mX6_totalOfHalves.1 ∈ zT := zT_in 2 (by decide +kernel) rfl
theorem yiX6_sumByPages : Cond.initialized mX6_sumByPages.1.cls ∈ zT ∧ plainName mX6_sumByPages.1.cls = true ∧ (mX6_sumByPages.1.cls ≠ "java/lang/invoke/MethodHandle" ∧ mX6_sumByPages.1.cls ≠ "java/lang/invoke/VarHandle") ∧ (parseMethodDescriptor mX6_sumByPages.1.desc).map (fun d => d.parameters.length) = some 3 := ⟨zT_in 45 (by decide +kernel) rfl, by decide +kernel, by decide +kernel, by decide +kernel⟩
theorem ycX6_sumByPages : zLkC mX6_sumByPages := ⟨rfl, zT_in 608 (by decide +kernel) rfl⟩
theorem yvX6_sumByPages : Cond.instanceMethod mX6_sumByPages.1 ∈ zT := zT_in 606 (by decide +kernel) rfl
theorem ywX6_sumByPages : Cond.selects mX6_sumByPages.1.cls mX6_sumByPages.1 mX6_sumByPages.1 ∈ zT := zT_in 607 (by decide +kernel) rfl
theorem yiX6_sumByLines : Cond.initialized mX6_sumByLines.1.cls ∈ zT ∧ plainName mX6_sumByLines.1.cls = true ∧ (mX6_sumByLines.1.cls ≠ "java/lang/invoke/MethodHandle" ∧ mX6_sumByLines.1.cls ≠ "java/lang/invoke/VarHandle") ∧ (parseMethodDescriptor mX6_sumByLines.1.desc).map (fun d => d.parameters.length) = some 3 := ⟨zT_in 45 (by decide +kernel) rfl, by decide +kernel, by decide +kernel, by decide +kernel⟩
theorem ycX6_sumByLines : zLkC mX6_sumByLines := ⟨rfl, zT_in 619 (by decide +kernel) rfl⟩
theorem yvX6_sumByLines : Cond.instanceMethod mX6_sumByLines.1 ∈ zT := zT_in 617 (by decide +kernel) rfl
theorem ywX6_sumByLines : Cond.selects mX6_sumByLines.1.cls mX6_sumByLines.1 mX6_sumByLines.1 ∈ zT := zT_in 618 (by decide +kernel) rfl
theorem yiX6_lineWithMost : Cond.initialized mX6_lineWithMost.1.cls ∈ zT ∧ plainName mX6_lineWithMost.1.cls = true ∧ (mX6_lineWithMost.1.cls ≠ "java/lang/invoke/MethodHandle" ∧ mX6_lineWithMost.1.cls ≠ "java/lang/invoke/VarHandle") ∧ (parseMethodDescriptor mX6_lineWithMost.1.desc).map (fun d => d.parameters.length) = some 3 := ⟨zT_in 45 (by decide +kernel) rfl, by decide +kernel, by decide +kernel, by decide +kernel⟩
theorem ycX6_lineWithMost : zLkC mX6_lineWithMost := ⟨rfl, zT_in 630 (by decide +kernel) rfl⟩
theorem yvX6_lineWithMost : Cond.instanceMethod mX6_lineWithMost.1 ∈ zT := zT_in 628 (by decide +kernel) rfl
theorem ywX6_lineWithMost : Cond.selects mX6_lineWithMost.1.cls mX6_lineWithMost.1 mX6_lineWithMost.1 ∈ zT := zT_in 629 (by decide +kernel) rfl
theorem yiX6_lineReaching : Cond.initialized mX6_lineReaching.1.cls ∈ zT ∧ plainName mX6_lineReaching.1.cls = true ∧ (mX6_lineReaching.1.cls ≠ "java/lang/invoke/MethodHandle" ∧ mX6_lineReaching.1.cls ≠ "java/lang/invoke/VarHandle") ∧ (parseMethodDescriptor mX6_lineReaching.1.desc).map (fun d => d.parameters.length) = some 2 := ⟨zT_in 45 (by decide +kernel) rfl, by decide +kernel, by decide +kernel, by decide +kernel⟩
theorem ycX6_lineReaching : zLkC mX6_lineReaching := ⟨rfl, zT_in 642 (by decide +kernel) rfl⟩
theorem yvX6_lineReaching : Cond.instanceMethod mX6_lineReaching.1 ∈ zT := zT_in 640 (by decide +kernel) rfl
theorem ywX6_lineReaching : Cond.selects mX6_lineReaching.1.cls mX6_lineReaching.1 mX6_lineReaching.1 ∈ zT := zT_in 641 (by decide +kernel) rfl
theorem yiX6_earlier : Cond.initialized mX6_earlier.1.cls ∈ zT ∧ plainName mX6_earlier.1.cls = true ∧ (mX6_earlier.1.cls ≠ "java/lang/invoke/MethodHandle" ∧ mX6_earlier.1.cls ≠ "java/lang/invoke/VarHandle") ∧ (parseMethodDescriptor mX6_earlier.1.desc).map (fun d => d.parameters.length) = some 2 := ⟨zT_in 45 (by decide +kernel) rfl, by decide +kernel, by decide +kernel, by decide +kernel⟩
theorem ycX6_earlier : zLkC mX6_earlier := ⟨rfl, zT_in 522 (by decide +kernel) rfl⟩
theorem yvX6_earlier : Cond.instanceMethod mX6_earlier.1 ∈ zT := zT_in 520 (by decide +kernel) rfl
theorem ywX6_earlier : Cond.selects mX6_earlier.1.cls mX6_earlier.1 mX6_earlier.1 ∈ zT := zT_in 521 (by decide +kernel) rfl
theorem yiX6_ancestorsOf : Cond.initialized mX6_ancestorsOf.1.cls ∈ zT ∧ plainName mX6_ancestorsOf.1.cls = true ∧ (mX6_ancestorsOf.1.cls ≠ "java/lang/invoke/MethodHandle" ∧ mX6_ancestorsOf.1.cls ≠ "java/lang/invoke/VarHandle") ∧ (parseMethodDescriptor mX6_ancestorsOf.1.desc).map (fun d => d.parameters.length) = some 1 := ⟨zT_in 45 (by decide +kernel) rfl, by decide +kernel, by decide +kernel, by decide +kernel⟩
theorem ycX6_ancestorsOf : zLkC mX6_ancestorsOf := ⟨rfl, zT_in 514 (by decide +kernel) rfl⟩
theorem yvX6_ancestorsOf : Cond.instanceMethod mX6_ancestorsOf.1 ∈ zT := zT_in 512 (by decide +kernel) rfl
theorem ywX6_ancestorsOf : Cond.selects mX6_ancestorsOf.1.cls mX6_ancestorsOf.1 mX6_ancestorsOf.1 ∈ zT := zT_in 513 (by decide +kernel) rfl
theorem yiX6_childrenOf : Cond.initialized mX6_childrenOf.1.cls ∈ zT ∧ plainName mX6_childrenOf.1.cls = true ∧ (mX6_childrenOf.1.cls ≠ "java/lang/invoke/MethodHandle" ∧ mX6_childrenOf.1.cls ≠ "java/lang/invoke/VarHandle") ∧ (parseMethodDescriptor mX6_childrenOf.1.desc).map (fun d => d.parameters.length) = some 1 := ⟨zT_in 45 (by decide +kernel) rfl, by decide +kernel, by decide +kernel, by decide +kernel⟩
theorem ycX6_childrenOf : zLkC mX6_childrenOf := ⟨rfl, zT_in 675 (by decide +kernel) rfl⟩
theorem yvX6_childrenOf : Cond.instanceMethod mX6_childrenOf.1 ∈ zT := zT_in 673 (by decide +kernel) rfl
theorem ywX6_childrenOf : Cond.selects mX6_childrenOf.1.cls mX6_childrenOf.1 mX6_childrenOf.1 ∈ zT := zT_in 674 (by decide +kernel) rfl
theorem yiX6_withoutChildren : Cond.initialized mX6_withoutChildren.1.cls ∈ zT ∧ plainName mX6_withoutChildren.1.cls = true ∧ (mX6_withoutChildren.1.cls ≠ "java/lang/invoke/MethodHandle" ∧ mX6_withoutChildren.1.cls ≠ "java/lang/invoke/VarHandle") ∧ (parseMethodDescriptor mX6_withoutChildren.1.desc).map (fun d => d.parameters.length) = some 0 := ⟨zT_in 45 (by decide +kernel) rfl, by decide +kernel, by decide +kernel, by decide +kernel⟩
theorem ycX6_withoutChildren : zLkC mX6_withoutChildren := ⟨rfl, zT_in 1061 (by decide +kernel) rfl⟩
theorem yvX6_withoutChildren : Cond.instanceMethod mX6_withoutChildren.1 ∈ zT := zT_in 1059 (by decide +kernel) rfl
theorem ywX6_withoutChildren : Cond.selects mX6_withoutChildren.1.cls mX6_withoutChildren.1 mX6_withoutChildren.1 ∈ zT := zT_in 1060 (by decide +kernel) rfl
theorem yiX6_pagesMadeBy : Cond.initialized mX6_pagesMadeBy.1.cls ∈ zT ∧ plainName mX6_pagesMadeBy.1.cls = true ∧ (mX6_pagesMadeBy.1.cls ≠ "java/lang/invoke/MethodHandle" ∧ mX6_pagesMadeBy.1.cls ≠ "java/lang/invoke/VarHandle") ∧ (parseMethodDescriptor mX6_pagesMadeBy.1.desc).map (fun d => d.parameters.length) = some 1 := ⟨zT_in 45 (by decide +kernel) rfl, by decide +kernel, by decide +kernel, by decide +kernel⟩
theorem ycX6_pagesMadeBy : zLkC mX6_pagesMadeBy := ⟨rfl, zT_in 263 (by decide +kernel) rfl⟩
theorem yvX6_pagesMadeBy : Cond.instanceMethod mX6_pagesMadeBy.1 ∈ zT := zT_in 261 (by decide +kernel) rfl
theorem ywX6_pagesMadeBy : Cond.selects mX6_pagesMadeBy.1.cls mX6_pagesMadeBy.1 mX6_pagesMadeBy.1 ∈ zT := zT_in 262 (by decide +kernel) rfl
theorem yiX6_pagesMade : Cond.initialized mX6_pagesMade.1.cls ∈ zT ∧ plainName mX6_pagesMade.1.cls = true ∧ (mX6_pagesMade.1.cls ≠ "java/lang/invoke/MethodHandle" ∧ mX6_pagesMade.1.cls ≠ "java/lang/invoke/VarHandle") ∧ (parseMethodDescriptor mX6_pagesMade.1.desc).map (fun d => d.parameters.length) = some 0 := ⟨zT_in 45 (by decide +kernel) rfl, by decide +kernel, by decide +kernel, by decide +kernel⟩
theorem ycX6_pagesMade : zLkC mX6_pagesMade := ⟨rfl, zT_in 259 (by decide +kernel) rfl⟩
theorem yvX6_pagesMade : Cond.instanceMethod mX6_pagesMade.1 ∈ zT := zT_in 257 (by decide +kernel) rfl
theorem ywX6_pagesMade : Cond.selects mX6_pagesMade.1.cls mX6_pagesMade.1 mX6_pagesMade.1 ∈ zT := zT_in 258 (by decide +kernel) rfl
theorem yiX6_linesNewIn : Cond.initialized mX6_linesNewIn.1.cls ∈ zT ∧ plainName mX6_linesNewIn.1.cls = true ∧ (mX6_linesNewIn.1.cls ≠ "java/lang/invoke/MethodHandle" ∧ mX6_linesNewIn.1.cls ≠ "java/lang/invoke/VarHandle") ∧ (parseMethodDescriptor mX6_linesNewIn.1.desc).map (fun d => d.parameters.length) = some 1 := ⟨zT_in 45 (by decide +kernel) rfl, by decide +kernel, by decide +kernel, by decide +kernel⟩
theorem ycX6_linesNewIn : zLkC mX6_linesNewIn := ⟨rfl, zT_in 680 (by decide +kernel) rfl⟩
theorem yvX6_linesNewIn : Cond.instanceMethod mX6_linesNewIn.1 ∈ zT := zT_in 678 (by decide +kernel) rfl
theorem ywX6_linesNewIn : Cond.selects mX6_linesNewIn.1.cls mX6_linesNewIn.1 mX6_linesNewIn.1 ∈ zT := zT_in 679 (by decide +kernel) rfl
theorem yiX6_linesApart : Cond.initialized mX6_linesApart.1.cls ∈ zT ∧ plainName mX6_linesApart.1.cls = true ∧ (mX6_linesApart.1.cls ≠ "java/lang/invoke/MethodHandle" ∧ mX6_linesApart.1.cls ≠ "java/lang/invoke/VarHandle") ∧ (parseMethodDescriptor mX6_linesApart.1.desc).map (fun d => d.parameters.length) = some 4 := ⟨zT_in 45 (by decide +kernel) rfl, by decide +kernel, by decide +kernel, by decide +kernel⟩
theorem ycX6_linesApart : zLkC mX6_linesApart := ⟨rfl, zT_in 476 (by decide +kernel) rfl⟩
theorem yvX6_linesApart : Cond.instanceMethod mX6_linesApart.1 ∈ zT := zT_in 474 (by decide +kernel) rfl
theorem ywX6_linesApart : Cond.selects mX6_linesApart.1.cls mX6_linesApart.1 mX6_linesApart.1 ∈ zT := zT_in 475 (by decide +kernel) rfl
theorem yiX6_othersAlike : Cond.initialized mX6_othersAlike.1.cls ∈ zT ∧ plainName mX6_othersAlike.1.cls = true ∧ (mX6_othersAlike.1.cls ≠ "java/lang/invoke/MethodHandle" ∧ mX6_othersAlike.1.cls ≠ "java/lang/invoke/VarHandle") ∧ (parseMethodDescriptor mX6_othersAlike.1.desc).map (fun d => d.parameters.length) = some 1 := ⟨zT_in 45 (by decide +kernel) rfl, by decide +kernel, by decide +kernel, by decide +kernel⟩
theorem ycX6_othersAlike : zLkC mX6_othersAlike := ⟨rfl, zT_in 790 (by decide +kernel) rfl⟩
theorem yvX6_othersAlike : Cond.instanceMethod mX6_othersAlike.1 ∈ zT := zT_in 788 (by decide +kernel) rfl
theorem ywX6_othersAlike : Cond.selects mX6_othersAlike.1.cls mX6_othersAlike.1 mX6_othersAlike.1 ∈ zT := zT_in 789 (by decide +kernel) rfl
theorem yiX6_latestByYear : Cond.initialized mX6_latestByYear.1.cls ∈ zT ∧ plainName mX6_latestByYear.1.cls = true ∧ (mX6_latestByYear.1.cls ≠ "java/lang/invoke/MethodHandle" ∧ mX6_latestByYear.1.cls ≠ "java/lang/invoke/VarHandle") ∧ (parseMethodDescriptor mX6_latestByYear.1.desc).map (fun d => d.parameters.length) = some 2 := ⟨zT_in 45 (by decide +kernel) rfl, by decide +kernel, by decide +kernel, by decide +kernel⟩
theorem ycX6_latestByYear : zLkC mX6_latestByYear := ⟨rfl, zT_in 711 (by decide +kernel) rfl⟩
theorem yvX6_latestByYear : Cond.instanceMethod mX6_latestByYear.1 ∈ zT := zT_in 709 (by decide +kernel) rfl
theorem ywX6_latestByYear : Cond.selects mX6_latestByYear.1.cls mX6_latestByYear.1 mX6_latestByYear.1 ∈ zT := zT_in 710 (by decide +kernel) rfl
theorem yiX6_earliestWithAmountOf : Cond.initialized mX6_earliestWithAmountOf.1.cls ∈ zT ∧ plainName mX6_earliestWithAmountOf.1.cls = true ∧ (mX6_earliestWithAmountOf.1.cls ≠ "java/lang/invoke/MethodHandle" ∧ mX6_earliestWithAmountOf.1.cls ≠ "java/lang/invoke/VarHandle") ∧ (parseMethodDescriptor mX6_earliestWithAmountOf.1.desc).map (fun d => d.parameters.length) = some 2 := ⟨zT_in 45 (by decide +kernel) rfl, by decide +kernel, by decide +kernel, by decide +kernel⟩
theorem ycX6_earliestWithAmountOf : zLkC mX6_earliestWithAmountOf := ⟨rfl, zT_in 723 (by decide +kernel) rfl⟩
theorem yvX6_earliestWithAmountOf : Cond.instanceMethod mX6_earliestWithAmountOf.1 ∈ zT := zT_in 721 (by decide +kernel) rfl
theorem ywX6_earliestWithAmountOf : Cond.selects mX6_earliestWithAmountOf.1.cls mX6_earliestWithAmountOf.1 mX6_earliestWithAmountOf.1 ∈ zT := zT_in 722 (by decide +kernel) rfl
theorem yiX6_latestCommon : Cond.initialized mX6_latestCommon.1.cls ∈ zT ∧ plainName mX6_latestCommon.1.cls = true ∧ (mX6_latestCommon.1.cls ≠ "java/lang/invoke/MethodHandle" ∧ mX6_latestCommon.1.cls ≠ "java/lang/invoke/VarHandle") ∧ (parseMethodDescriptor mX6_latestCommon.1.desc).map (fun d => d.parameters.length) = some 2 := ⟨zT_in 45 (by decide +kernel) rfl, by decide +kernel, by decide +kernel, by decide +kernel⟩
theorem ycX6_latestCommon : zLkC mX6_latestCommon := ⟨rfl, zT_in 734 (by decide +kernel) rfl⟩
theorem yvX6_latestCommon : Cond.instanceMethod mX6_latestCommon.1 ∈ zT := zT_in 732 (by decide +kernel) rfl
theorem ywX6_latestCommon : Cond.selects mX6_latestCommon.1.cls mX6_latestCommon.1 mX6_latestCommon.1 ∈ zT := zT_in 733 (by decide +kernel) rfl
theorem yiX6_pagesInBoth : Cond.initialized mX6_pagesInBoth.1.cls ∈ zT ∧ plainName mX6_pagesInBoth.1.cls = true ∧ (mX6_pagesInBoth.1.cls ≠ "java/lang/invoke/MethodHandle" ∧ mX6_pagesInBoth.1.cls ≠ "java/lang/invoke/VarHandle") ∧ (parseMethodDescriptor mX6_pagesInBoth.1.desc).map (fun d => d.parameters.length) = some 2 := ⟨zT_in 45 (by decide +kernel) rfl, by decide +kernel, by decide +kernel, by decide +kernel⟩
theorem ycX6_pagesInBoth : zLkC mX6_pagesInBoth := ⟨rfl, zT_in 753 (by decide +kernel) rfl⟩
theorem yvX6_pagesInBoth : Cond.instanceMethod mX6_pagesInBoth.1 ∈ zT := zT_in 751 (by decide +kernel) rfl
theorem ywX6_pagesInBoth : Cond.selects mX6_pagesInBoth.1.cls mX6_pagesInBoth.1 mX6_pagesInBoth.1 ∈ zT := zT_in 752 (by decide +kernel) rfl
theorem yiX6_usersOf : Cond.initialized mX6_usersOf.1.cls ∈ zT ∧ plainName mX6_usersOf.1.cls = true ∧ (mX6_usersOf.1.cls ≠ "java/lang/invoke/MethodHandle" ∧ mX6_usersOf.1.cls ≠ "java/lang/invoke/VarHandle") ∧ (parseMethodDescriptor mX6_usersOf.1.desc).map (fun d => d.parameters.length) = some 2 := ⟨zT_in 45 (by decide +kernel) rfl, by decide +kernel, by decide +kernel, by decide +kernel⟩
theorem ycX6_usersOf : zLkC mX6_usersOf := ⟨rfl, zT_in 771 (by decide +kernel) rfl⟩
theorem yvX6_usersOf : Cond.instanceMethod mX6_usersOf.1 ∈ zT := zT_in 769 (by decide +kernel) rfl
theorem ywX6_usersOf : Cond.selects mX6_usersOf.1.cls mX6_usersOf.1 mX6_usersOf.1 ∈ zT := zT_in 770 (by decide +kernel) rfl
theorem yiX6_atPlace : Cond.initialized mX6_atPlace.1.cls ∈ zT ∧ plainName mX6_atPlace.1.cls = true ∧ (mX6_atPlace.1.cls ≠ "java/lang/invoke/MethodHandle" ∧ mX6_atPlace.1.cls ≠ "java/lang/invoke/VarHandle") ∧ (parseMethodDescriptor mX6_atPlace.1.desc).map (fun d => d.parameters.length) = some 1 := ⟨zT_in 45 (by decide +kernel) rfl, by decide +kernel, by decide +kernel, by decide +kernel⟩
theorem ycX6_atPlace : zLkC mX6_atPlace := ⟨rfl, zT_in 801 (by decide +kernel) rfl⟩
theorem yvX6_atPlace : Cond.instanceMethod mX6_atPlace.1 ∈ zT := zT_in 799 (by decide +kernel) rfl
theorem ywX6_atPlace : Cond.selects mX6_atPlace.1.cls mX6_atPlace.1 mX6_atPlace.1 ∈ zT := zT_in 800 (by decide +kernel) rfl
theorem yiX6_versionsAheadOf : Cond.initialized mX6_versionsAheadOf.1.cls ∈ zT ∧ plainName mX6_versionsAheadOf.1.cls = true ∧ (mX6_versionsAheadOf.1.cls ≠ "java/lang/invoke/MethodHandle" ∧ mX6_versionsAheadOf.1.cls ≠ "java/lang/invoke/VarHandle") ∧ (parseMethodDescriptor mX6_versionsAheadOf.1.desc).map (fun d => d.parameters.length) = some 1 := ⟨zT_in 45 (by decide +kernel) rfl, by decide +kernel, by decide +kernel, by decide +kernel⟩
theorem ycX6_versionsAheadOf : zLkC mX6_versionsAheadOf := ⟨rfl, zT_in 805 (by decide +kernel) rfl⟩
theorem yvX6_versionsAheadOf : Cond.instanceMethod mX6_versionsAheadOf.1 ∈ zT := zT_in 804 (by decide +kernel) rfl
theorem ywX6_versionsAheadOf : Cond.selects mX6_versionsAheadOf.1.cls mX6_versionsAheadOf.1 mX6_versionsAheadOf.1 ∈ zT := zT_in 7 (by decide +kernel) rfl
theorem yiX6_withMostPagesOfOthers : Cond.initialized mX6_withMostPagesOfOthers.1.cls ∈ zT ∧ plainName mX6_withMostPagesOfOthers.1.cls = true ∧ (mX6_withMostPagesOfOthers.1.cls ≠ "java/lang/invoke/MethodHandle" ∧ mX6_withMostPagesOfOthers.1.cls ≠ "java/lang/invoke/VarHandle") ∧ (parseMethodDescriptor mX6_withMostPagesOfOthers.1.desc).map (fun d => d.parameters.length) = some 0 := ⟨zT_in 45 (by decide +kernel) rfl, by decide +kernel, by decide +kernel, by decide +kernel⟩
theorem ycX6_withMostPagesOfOthers : zLkC mX6_withMostPagesOfOthers := ⟨rfl, zT_in 818 (by decide +kernel) rfl⟩
theorem yvX6_withMostPagesOfOthers : Cond.instanceMethod mX6_withMostPagesOfOthers.1 ∈ zT := zT_in 816 (by decide +kernel) rfl
theorem ywX6_withMostPagesOfOthers : Cond.selects mX6_withMostPagesOfOthers.1.cls mX6_withMostPagesOfOthers.1 mX6_withMostPagesOfOthers.1 ∈ zT := zT_in 817 (by decide +kernel) rfl
theorem yiX6_pagesOfOthersMadeBy : Cond.initialized mX6_pagesOfOthersMadeBy.1.cls ∈ zT ∧ plainName mX6_pagesOfOthersMadeBy.1.cls = true ∧ (mX6_pagesOfOthersMadeBy.1.cls ≠ "java/lang/invoke/MethodHandle" ∧ mX6_pagesOfOthersMadeBy.1.cls ≠ "java/lang/invoke/VarHandle") ∧ (parseMethodDescriptor mX6_pagesOfOthersMadeBy.1.desc).map (fun d => d.parameters.length) = some 1 := ⟨zT_in 45 (by decide +kernel) rfl, by decide +kernel, by decide +kernel, by decide +kernel⟩
theorem ycX6_pagesOfOthersMadeBy : zLkC mX6_pagesOfOthersMadeBy := ⟨rfl, zT_in 822 (by decide +kernel) rfl⟩
theorem yvX6_pagesOfOthersMadeBy : Cond.instanceMethod mX6_pagesOfOthersMadeBy.1 ∈ zT := zT_in 821 (by decide +kernel) rfl
theorem ywX6_pagesOfOthersMadeBy : Cond.selects mX6_pagesOfOthersMadeBy.1.cls mX6_pagesOfOthersMadeBy.1 mX6_pagesOfOthersMadeBy.1 ∈ zT := zT_in 8 (by decide +kernel) rfl
theorem yiX7_init : Cond.initialized mX7_init.1.cls ∈ zT ∧ plainName mX7_init.1.cls = true ∧ (mX7_init.1.cls ≠ "java/lang/invoke/MethodHandle" ∧ mX7_init.1.cls ≠ "java/lang/invoke/VarHandle") ∧ (parseMethodDescriptor mX7_init.1.desc).map (fun d => d.parameters.length) = some 0 := ⟨zT_in 42 (by decide +kernel) rfl, by decide +kernel, by decide +kernel, by decide +kernel⟩
theorem ycX7_init : zLkC mX7_init := ⟨rfl, zT_in 68 (by decide +kernel) rfl⟩
theorem yvX7_init : Cond.instanceMethod mX7_init.1 ∈ zT := zT_in 67 (by decide +kernel) rfl
theorem yiX7_write : Cond.initialized mX7_write.1.cls ∈ zT ∧ plainName mX7_write.1.cls = true ∧ (mX7_write.1.cls ≠ "java/lang/invoke/MethodHandle" ∧ mX7_write.1.cls ≠ "java/lang/invoke/VarHandle") ∧ (parseMethodDescriptor mX7_write.1.desc).map (fun d => d.parameters.length) = some 3 := ⟨zT_in 42 (by decide +kernel) rfl, by decide +kernel, by decide +kernel, by decide +kernel⟩
theorem ycX7_write : zLkC mX7_write := ⟨rfl, zT_in 298 (by decide +kernel) rfl⟩
theorem yvX7_write : Cond.instanceMethod mX7_write.1 ∈ zT := zT_in 296 (by decide +kernel) rfl
theorem ywX7_write : Cond.selects mX7_write.1.cls mX7_write.1 mX7_write.1 ∈ zT := zT_in 297 (by decide +kernel) rfl
theorem yiX7_graft : Cond.initialized mX7_graft.1.cls ∈ zT ∧ plainName mX7_graft.1.cls = true ∧ (mX7_graft.1.cls ≠ "java/lang/invoke/MethodHandle" ∧ mX7_graft.1.cls ≠ "java/lang/invoke/VarHandle") ∧ (parseMethodDescriptor mX7_graft.1.desc).map (fun d => d.parameters.length) = some 4 := ⟨zT_in 42 (by decide +kernel) rfl, by decide +kernel, by decide +kernel, by decide +kernel⟩
theorem ycX7_graft : zLkC mX7_graft := ⟨rfl, zT_in 466 (by decide +kernel) rfl⟩
theorem yvX7_graft : Cond.instanceMethod mX7_graft.1 ∈ zT := zT_in 464 (by decide +kernel) rfl
theorem ywX7_graft : Cond.selects mX7_graft.1.cls mX7_graft.1 mX7_graft.1 ∈ zT := zT_in 465 (by decide +kernel) rfl
theorem yiX7_fork : Cond.initialized mX7_fork.1.cls ∈ zT ∧ plainName mX7_fork.1.cls = true ∧ (mX7_fork.1.cls ≠ "java/lang/invoke/MethodHandle" ∧ mX7_fork.1.cls ≠ "java/lang/invoke/VarHandle") ∧ (parseMethodDescriptor mX7_fork.1.desc).map (fun d => d.parameters.length) = some 2 := ⟨zT_in 42 (by decide +kernel) rfl, by decide +kernel, by decide +kernel, by decide +kernel⟩
theorem ycX7_fork : zLkC mX7_fork := ⟨rfl, zT_in 495 (by decide +kernel) rfl⟩
theorem yvX7_fork : Cond.instanceMethod mX7_fork.1 ∈ zT := zT_in 493 (by decide +kernel) rfl
theorem ywX7_fork : Cond.selects mX7_fork.1.cls mX7_fork.1 mX7_fork.1 ∈ zT := zT_in 494 (by decide +kernel) rfl
theorem yiX7_back : Cond.initialized mX7_back.1.cls ∈ zT ∧ plainName mX7_back.1.cls = true ∧ (mX7_back.1.cls ≠ "java/lang/invoke/MethodHandle" ∧ mX7_back.1.cls ≠ "java/lang/invoke/VarHandle") ∧ (parseMethodDescriptor mX7_back.1.desc).map (fun d => d.parameters.length) = some 2 := ⟨zT_in 42 (by decide +kernel) rfl, by decide +kernel, by decide +kernel, by decide +kernel⟩
theorem ycX7_back : zLkC mX7_back := ⟨rfl, zT_in 506 (by decide +kernel) rfl⟩
theorem yvX7_back : Cond.instanceMethod mX7_back.1 ∈ zT := zT_in 504 (by decide +kernel) rfl
theorem ywX7_back : Cond.selects mX7_back.1.cls mX7_back.1 mX7_back.1 ∈ zT := zT_in 505 (by decide +kernel) rfl
theorem yiX7_pass : Cond.initialized mX7_pass.1.cls ∈ zT ∧ plainName mX7_pass.1.cls = true ∧ (mX7_pass.1.cls ≠ "java/lang/invoke/MethodHandle" ∧ mX7_pass.1.cls ≠ "java/lang/invoke/VarHandle") ∧ (parseMethodDescriptor mX7_pass.1.desc).map (fun d => d.parameters.length) = some 1 := ⟨zT_in 42 (by decide +kernel) rfl, by decide +kernel, by decide +kernel, by decide +kernel⟩
theorem ycX7_pass : zLkC mX7_pass := ⟨rfl, zT_in 529 (by decide +kernel) rfl⟩
theorem yvX7_pass : Cond.instanceMethod mX7_pass.1 ∈ zT := zT_in 527 (by decide +kernel) rfl
theorem ywX7_pass : Cond.selects mX7_pass.1.cls mX7_pass.1 mX7_pass.1 ∈ zT := zT_in 528 (by decide +kernel) rfl
theorem yiX7_ledger : Cond.initialized mX7_ledger.1.cls ∈ zT ∧ plainName mX7_ledger.1.cls = true ∧ (mX7_ledger.1.cls ≠ "java/lang/invoke/MethodHandle" ∧ mX7_ledger.1.cls ≠ "java/lang/invoke/VarHandle") ∧ (parseMethodDescriptor mX7_ledger.1.desc).map (fun d => d.parameters.length) = some 1 := ⟨zT_in 42 (by decide +kernel) rfl, by decide +kernel, by decide +kernel, by decide +kernel⟩
theorem ycX7_ledger : zLkC mX7_ledger := ⟨rfl, zT_in 541 (by decide +kernel) rfl⟩
theorem yvX7_ledger : Cond.instanceMethod mX7_ledger.1 ∈ zT := zT_in 539 (by decide +kernel) rfl
theorem ywX7_ledger : Cond.selects mX7_ledger.1.cls mX7_ledger.1 mX7_ledger.1 ∈ zT := zT_in 540 (by decide +kernel) rfl
theorem yiX7_amount : Cond.initialized mX7_amount.1.cls ∈ zT ∧ plainName mX7_amount.1.cls = true ∧ (mX7_amount.1.cls ≠ "java/lang/invoke/MethodHandle" ∧ mX7_amount.1.cls ≠ "java/lang/invoke/VarHandle") ∧ (parseMethodDescriptor mX7_amount.1.desc).map (fun d => d.parameters.length) = some 2 := ⟨zT_in 42 (by decide +kernel) rfl, by decide +kernel, by decide +kernel, by decide +kernel⟩
theorem ycX7_amount : zLkC mX7_amount := ⟨rfl, zT_in 570 (by decide +kernel) rfl⟩
theorem yvX7_amount : Cond.instanceMethod mX7_amount.1 ∈ zT := zT_in 568 (by decide +kernel) rfl
theorem ywX7_amount : Cond.selects mX7_amount.1.cls mX7_amount.1 mX7_amount.1 ∈ zT := zT_in 569 (by decide +kernel) rfl
theorem yiX7_sum : Cond.initialized mX7_sum.1.cls ∈ zT ∧ plainName mX7_sum.1.cls = true ∧ (mX7_sum.1.cls ≠ "java/lang/invoke/MethodHandle" ∧ mX7_sum.1.cls ≠ "java/lang/invoke/VarHandle") ∧ (parseMethodDescriptor mX7_sum.1.desc).map (fun d => d.parameters.length) = some 3 := ⟨zT_in 42 (by decide +kernel) rfl, by decide +kernel, by decide +kernel, by decide +kernel⟩
theorem ycX7_sum : zLkC mX7_sum := ⟨rfl, zT_in 604 (by decide +kernel) rfl⟩
theorem yvX7_sum : Cond.instanceMethod mX7_sum.1 ∈ zT := zT_in 602 (by decide +kernel) rfl
theorem ywX7_sum : Cond.selects mX7_sum.1.cls mX7_sum.1 mX7_sum.1 ∈ zT := zT_in 603 (by decide +kernel) rfl
theorem yiX7_sumAgain : Cond.initialized mX7_sumAgain.1.cls ∈ zT ∧ plainName mX7_sumAgain.1.cls = true ∧ (mX7_sumAgain.1.cls ≠ "java/lang/invoke/MethodHandle" ∧ mX7_sumAgain.1.cls ≠ "java/lang/invoke/VarHandle") ∧ (parseMethodDescriptor mX7_sumAgain.1.desc).map (fun d => d.parameters.length) = some 3 := ⟨zT_in 42 (by decide +kernel) rfl, by decide +kernel, by decide +kernel, by decide +kernel⟩
theorem ycX7_sumAgain : zLkC mX7_sumAgain := ⟨rfl, zT_in 615 (by decide +kernel) rfl⟩
theorem yvX7_sumAgain : Cond.instanceMethod mX7_sumAgain.1 ∈ zT := zT_in 613 (by decide +kernel) rfl
theorem ywX7_sumAgain : Cond.selects mX7_sumAgain.1.cls mX7_sumAgain.1 mX7_sumAgain.1 ∈ zT := zT_in 614 (by decide +kernel) rfl
theorem yiX7_most : Cond.initialized mX7_most.1.cls ∈ zT ∧ plainName mX7_most.1.cls = true ∧ (mX7_most.1.cls ≠ "java/lang/invoke/MethodHandle" ∧ mX7_most.1.cls ≠ "java/lang/invoke/VarHandle") ∧ (parseMethodDescriptor mX7_most.1.desc).map (fun d => d.parameters.length) = some 3 := ⟨zT_in 42 (by decide +kernel) rfl, by decide +kernel, by decide +kernel, by decide +kernel⟩
theorem ycX7_most : zLkC mX7_most := ⟨rfl, zT_in 626 (by decide +kernel) rfl⟩
theorem yvX7_most : Cond.instanceMethod mX7_most.1 ∈ zT := zT_in 624 (by decide +kernel) rfl
theorem ywX7_most : Cond.selects mX7_most.1.cls mX7_most.1 mX7_most.1 ∈ zT := zT_in 625 (by decide +kernel) rfl
theorem yiX7_reached : Cond.initialized mX7_reached.1.cls ∈ zT ∧ plainName mX7_reached.1.cls = true ∧ (mX7_reached.1.cls ≠ "java/lang/invoke/MethodHandle" ∧ mX7_reached.1.cls ≠ "java/lang/invoke/VarHandle") ∧ (parseMethodDescriptor mX7_reached.1.desc).map (fun d => d.parameters.length) = some 2 := ⟨zT_in 42 (by decide +kernel) rfl, by decide +kernel, by decide +kernel, by decide +kernel⟩
theorem ycX7_reached : zLkC mX7_reached := ⟨rfl, zT_in 638 (by decide +kernel) rfl⟩
theorem yvX7_reached : Cond.instanceMethod mX7_reached.1 ∈ zT := zT_in 636 (by decide +kernel) rfl
theorem ywX7_reached : Cond.selects mX7_reached.1.cls mX7_reached.1 mX7_reached.1 ∈ zT := zT_in 637 (by decide +kernel) rfl
theorem yiX7_versionOf : Cond.initialized mX7_versionOf.1.cls ∈ zT ∧ plainName mX7_versionOf.1.cls = true ∧ (mX7_versionOf.1.cls ≠ "java/lang/invoke/MethodHandle" ∧ mX7_versionOf.1.cls ≠ "java/lang/invoke/VarHandle") ∧ (parseMethodDescriptor mX7_versionOf.1.desc).map (fun d => d.parameters.length) = some 2 := ⟨zT_in 42 (by decide +kernel) rfl, by decide +kernel, by decide +kernel, by decide +kernel⟩
theorem ycX7_versionOf : zLkC mX7_versionOf := ⟨rfl, zT_in 665 (by decide +kernel) rfl⟩
theorem yvX7_versionOf : Cond.instanceMethod mX7_versionOf.1 ∈ zT := zT_in 663 (by decide +kernel) rfl
theorem ywX7_versionOf : Cond.selects mX7_versionOf.1.cls mX7_versionOf.1 mX7_versionOf.1 ∈ zT := zT_in 664 (by decide +kernel) rfl
theorem yiX7_maker : Cond.initialized mX7_maker.1.cls ∈ zT ∧ plainName mX7_maker.1.cls = true ∧ (mX7_maker.1.cls ≠ "java/lang/invoke/MethodHandle" ∧ mX7_maker.1.cls ≠ "java/lang/invoke/VarHandle") ∧ (parseMethodDescriptor mX7_maker.1.desc).map (fun d => d.parameters.length) = some 2 := ⟨zT_in 42 (by decide +kernel) rfl, by decide +kernel, by decide +kernel, by decide +kernel⟩
theorem ycX7_maker : zLkC mX7_maker := ⟨rfl, zT_in 694 (by decide +kernel) rfl⟩
theorem yvX7_maker : Cond.instanceMethod mX7_maker.1 ∈ zT := zT_in 692 (by decide +kernel) rfl
theorem ywX7_maker : Cond.selects mX7_maker.1.cls mX7_maker.1 mX7_maker.1 ∈ zT := zT_in 693 (by decide +kernel) rfl
theorem yiX7_had : Cond.initialized mX7_had.1.cls ∈ zT ∧ plainName mX7_had.1.cls = true ∧ (mX7_had.1.cls ≠ "java/lang/invoke/MethodHandle" ∧ mX7_had.1.cls ≠ "java/lang/invoke/VarHandle") ∧ (parseMethodDescriptor mX7_had.1.desc).map (fun d => d.parameters.length) = some 2 := ⟨zT_in 42 (by decide +kernel) rfl, by decide +kernel, by decide +kernel, by decide +kernel⟩
theorem ycX7_had : zLkC mX7_had := ⟨rfl, zT_in 706 (by decide +kernel) rfl⟩
theorem yvX7_had : Cond.instanceMethod mX7_had.1 ∈ zT := zT_in 704 (by decide +kernel) rfl
theorem ywX7_had : Cond.selects mX7_had.1.cls mX7_had.1 mX7_had.1 ∈ zT := zT_in 705 (by decide +kernel) rfl
theorem yiX7_since : Cond.initialized mX7_since.1.cls ∈ zT ∧ plainName mX7_since.1.cls = true ∧ (mX7_since.1.cls ≠ "java/lang/invoke/MethodHandle" ∧ mX7_since.1.cls ≠ "java/lang/invoke/VarHandle") ∧ (parseMethodDescriptor mX7_since.1.desc).map (fun d => d.parameters.length) = some 2 := ⟨zT_in 42 (by decide +kernel) rfl, by decide +kernel, by decide +kernel, by decide +kernel⟩
theorem ycX7_since : zLkC mX7_since := ⟨rfl, zT_in 719 (by decide +kernel) rfl⟩
theorem yvX7_since : Cond.instanceMethod mX7_since.1 ∈ zT := zT_in 717 (by decide +kernel) rfl
theorem ywX7_since : Cond.selects mX7_since.1.cls mX7_since.1 mX7_since.1 ∈ zT := zT_in 718 (by decide +kernel) rfl
theorem yiX7_common : Cond.initialized mX7_common.1.cls ∈ zT ∧ plainName mX7_common.1.cls = true ∧ (mX7_common.1.cls ≠ "java/lang/invoke/MethodHandle" ∧ mX7_common.1.cls ≠ "java/lang/invoke/VarHandle") ∧ (parseMethodDescriptor mX7_common.1.desc).map (fun d => d.parameters.length) = some 2 := ⟨zT_in 42 (by decide +kernel) rfl, by decide +kernel, by decide +kernel, by decide +kernel⟩
theorem ycX7_common : zLkC mX7_common := ⟨rfl, zT_in 730 (by decide +kernel) rfl⟩
theorem yvX7_common : Cond.instanceMethod mX7_common.1 ∈ zT := zT_in 728 (by decide +kernel) rfl
theorem ywX7_common : Cond.selects mX7_common.1.cls mX7_common.1 mX7_common.1 ∈ zT := zT_in 729 (by decide +kernel) rfl
theorem yiX7_apart : Cond.initialized mX7_apart.1.cls ∈ zT ∧ plainName mX7_apart.1.cls = true ∧ (mX7_apart.1.cls ≠ "java/lang/invoke/MethodHandle" ∧ mX7_apart.1.cls ≠ "java/lang/invoke/VarHandle") ∧ (parseMethodDescriptor mX7_apart.1.desc).map (fun d => d.parameters.length) = some 2 := ⟨zT_in 42 (by decide +kernel) rfl, by decide +kernel, by decide +kernel, by decide +kernel⟩
theorem ycX7_apart : zLkC mX7_apart := ⟨rfl, zT_in 741 (by decide +kernel) rfl⟩
theorem yvX7_apart : Cond.instanceMethod mX7_apart.1 ∈ zT := zT_in 739 (by decide +kernel) rfl
theorem ywX7_apart : Cond.selects mX7_apart.1.cls mX7_apart.1 mX7_apart.1 ∈ zT := zT_in 740 (by decide +kernel) rfl
theorem yiX7_shared : Cond.initialized mX7_shared.1.cls ∈ zT ∧ plainName mX7_shared.1.cls = true ∧ (mX7_shared.1.cls ≠ "java/lang/invoke/MethodHandle" ∧ mX7_shared.1.cls ≠ "java/lang/invoke/VarHandle") ∧ (parseMethodDescriptor mX7_shared.1.desc).map (fun d => d.parameters.length) = some 2 := ⟨zT_in 42 (by decide +kernel) rfl, by decide +kernel, by decide +kernel, by decide +kernel⟩
theorem ycX7_shared : zLkC mX7_shared := ⟨rfl, zT_in 749 (by decide +kernel) rfl⟩
theorem yvX7_shared : Cond.instanceMethod mX7_shared.1 ∈ zT := zT_in 747 (by decide +kernel) rfl
theorem ywX7_shared : Cond.selects mX7_shared.1.cls mX7_shared.1 mX7_shared.1 ∈ zT := zT_in 748 (by decide +kernel) rfl
theorem yiX7_isOf : Cond.initialized mX7_isOf.1.cls ∈ zT ∧ plainName mX7_isOf.1.cls = true ∧ (mX7_isOf.1.cls ≠ "java/lang/invoke/MethodHandle" ∧ mX7_isOf.1.cls ≠ "java/lang/invoke/VarHandle") ∧ (parseMethodDescriptor mX7_isOf.1.desc).map (fun d => d.parameters.length) = some 2 := ⟨zT_in 42 (by decide +kernel) rfl, by decide +kernel, by decide +kernel, by decide +kernel⟩
theorem ycX7_isOf : zLkC mX7_isOf := ⟨rfl, zT_in 760 (by decide +kernel) rfl⟩
theorem yvX7_isOf : Cond.instanceMethod mX7_isOf.1 ∈ zT := zT_in 758 (by decide +kernel) rfl
theorem ywX7_isOf : Cond.selects mX7_isOf.1.cls mX7_isOf.1 mX7_isOf.1 ∈ zT := zT_in 759 (by decide +kernel) rfl
theorem yiX7_users : Cond.initialized mX7_users.1.cls ∈ zT ∧ plainName mX7_users.1.cls = true ∧ (mX7_users.1.cls ≠ "java/lang/invoke/MethodHandle" ∧ mX7_users.1.cls ≠ "java/lang/invoke/VarHandle") ∧ (parseMethodDescriptor mX7_users.1.desc).map (fun d => d.parameters.length) = some 2 := ⟨zT_in 42 (by decide +kernel) rfl, by decide +kernel, by decide +kernel, by decide +kernel⟩
theorem ycX7_users : zLkC mX7_users := ⟨rfl, zT_in 767 (by decide +kernel) rfl⟩
theorem yvX7_users : Cond.instanceMethod mX7_users.1 ∈ zT := zT_in 765 (by decide +kernel) rfl
theorem ywX7_users : Cond.selects mX7_users.1.cls mX7_users.1 mX7_users.1 ∈ zT := zT_in 766 (by decide +kernel) rfl
theorem yiX7_wouldMake : Cond.initialized mX7_wouldMake.1.cls ∈ zT ∧ plainName mX7_wouldMake.1.cls = true ∧ (mX7_wouldMake.1.cls ≠ "java/lang/invoke/MethodHandle" ∧ mX7_wouldMake.1.cls ≠ "java/lang/invoke/VarHandle") ∧ (parseMethodDescriptor mX7_wouldMake.1.desc).map (fun d => d.parameters.length) = some 2 := ⟨zT_in 42 (by decide +kernel) rfl, by decide +kernel, by decide +kernel, by decide +kernel⟩
theorem ycX7_wouldMake : zLkC mX7_wouldMake := ⟨rfl, zT_in 778 (by decide +kernel) rfl⟩
theorem yvX7_wouldMake : Cond.instanceMethod mX7_wouldMake.1 ∈ zT := zT_in 776 (by decide +kernel) rfl
theorem ywX7_wouldMake : Cond.selects mX7_wouldMake.1.cls mX7_wouldMake.1 mX7_wouldMake.1 ∈ zT := zT_in 777 (by decide +kernel) rfl
theorem yiX7_alike : Cond.initialized mX7_alike.1.cls ∈ zT ∧ plainName mX7_alike.1.cls = true ∧ (mX7_alike.1.cls ≠ "java/lang/invoke/MethodHandle" ∧ mX7_alike.1.cls ≠ "java/lang/invoke/VarHandle") ∧ (parseMethodDescriptor mX7_alike.1.desc).map (fun d => d.parameters.length) = some 1 := ⟨zT_in 42 (by decide +kernel) rfl, by decide +kernel, by decide +kernel, by decide +kernel⟩
theorem ycX7_alike : zLkC mX7_alike := ⟨rfl, zT_in 786 (by decide +kernel) rfl⟩
theorem yvX7_alike : Cond.instanceMethod mX7_alike.1 ∈ zT := zT_in 784 (by decide +kernel) rfl
theorem ywX7_alike : Cond.selects mX7_alike.1.cls mX7_alike.1 mX7_alike.1 ∈ zT := zT_in 785 (by decide +kernel) rfl
theorem yiX7_richest : Cond.initialized mX7_richest.1.cls ∈ zT ∧ plainName mX7_richest.1.cls = true ∧ (mX7_richest.1.cls ≠ "java/lang/invoke/MethodHandle" ∧ mX7_richest.1.cls ≠ "java/lang/invoke/VarHandle") ∧ (parseMethodDescriptor mX7_richest.1.desc).map (fun d => d.parameters.length) = some 1 := ⟨zT_in 42 (by decide +kernel) rfl, by decide +kernel, by decide +kernel, by decide +kernel⟩
theorem ycX7_richest : zLkC mX7_richest := ⟨rfl, zT_in 797 (by decide +kernel) rfl⟩
theorem yvX7_richest : Cond.instanceMethod mX7_richest.1 ∈ zT := zT_in 795 (by decide +kernel) rfl
theorem ywX7_richest : Cond.selects mX7_richest.1.cls mX7_richest.1 mX7_richest.1 ∈ zT := zT_in 796 (by decide +kernel) rfl
theorem yiX7_busiest : Cond.initialized mX7_busiest.1.cls ∈ zT ∧ plainName mX7_busiest.1.cls = true ∧ (mX7_busiest.1.cls ≠ "java/lang/invoke/MethodHandle" ∧ mX7_busiest.1.cls ≠ "java/lang/invoke/VarHandle") ∧ (parseMethodDescriptor mX7_busiest.1.desc).map (fun d => d.parameters.length) = some 0 := ⟨zT_in 42 (by decide +kernel) rfl, by decide +kernel, by decide +kernel, by decide +kernel⟩
theorem ycX7_busiest : zLkC mX7_busiest := ⟨rfl, zT_in 813 (by decide +kernel) rfl⟩
theorem yvX7_busiest : Cond.instanceMethod mX7_busiest.1 ∈ zT := zT_in 811 (by decide +kernel) rfl
theorem ywX7_busiest : Cond.selects mX7_busiest.1.cls mX7_busiest.1 mX7_busiest.1 ∈ zT := zT_in 812 (by decide +kernel) rfl
theorem yiX7_append : Cond.initialized mX7_append.1.cls ∈ zT ∧ plainName mX7_append.1.cls = true ∧ (mX7_append.1.cls ≠ "java/lang/invoke/MethodHandle" ∧ mX7_append.1.cls ≠ "java/lang/invoke/VarHandle") ∧ (parseMethodDescriptor mX7_append.1.desc).map (fun d => d.parameters.length) = some 1 := ⟨zT_in 42 (by decide +kernel) rfl, by decide +kernel, by decide +kernel, by decide +kernel⟩
theorem ycX7_append : zLkC mX7_append := ⟨rfl, zT_in 831 (by decide +kernel) rfl⟩
theorem yvX7_append : Cond.instanceMethod mX7_append.1 ∈ zT := zT_in 829 (by decide +kernel) rfl
theorem ywX7_append : Cond.selects mX7_append.1.cls mX7_append.1 mX7_append.1 ∈ zT := zT_in 830 (by decide +kernel) rfl
theorem yiX7_commands : Cond.initialized mX7_commands.1.cls ∈ zT ∧ plainName mX7_commands.1.cls = true ∧ (mX7_commands.1.cls ≠ "java/lang/invoke/MethodHandle" ∧ mX7_commands.1.cls ≠ "java/lang/invoke/VarHandle") ∧ (parseMethodDescriptor mX7_commands.1.desc).map (fun d => d.parameters.length) = some 0 := ⟨zT_in 42 (by decide +kernel) rfl, by decide +kernel, by decide +kernel, by decide +kernel⟩
theorem ycX7_commands : zLkC mX7_commands := ⟨rfl, zT_in 867 (by decide +kernel) rfl⟩
theorem yvX7_commands : Cond.instanceMethod mX7_commands.1 ∈ zT := zT_in 865 (by decide +kernel) rfl
theorem ywX7_commands : Cond.selects mX7_commands.1.cls mX7_commands.1 mX7_commands.1 ∈ zT := zT_in 866 (by decide +kernel) rfl
theorem yiX7_faultPosition : Cond.initialized mX7_faultPosition.1.cls ∈ zT ∧ plainName mX7_faultPosition.1.cls = true ∧ (mX7_faultPosition.1.cls ≠ "java/lang/invoke/MethodHandle" ∧ mX7_faultPosition.1.cls ≠ "java/lang/invoke/VarHandle") ∧ (parseMethodDescriptor mX7_faultPosition.1.desc).map (fun d => d.parameters.length) = some 0 := ⟨zT_in 42 (by decide +kernel) rfl, by decide +kernel, by decide +kernel, by decide +kernel⟩
theorem ycX7_faultPosition : zLkC mX7_faultPosition := ⟨rfl, zT_in 247 (by decide +kernel) rfl⟩
theorem yvX7_faultPosition : Cond.instanceMethod mX7_faultPosition.1 ∈ zT := zT_in 245 (by decide +kernel) rfl
theorem ywX7_faultPosition : Cond.selects mX7_faultPosition.1.cls mX7_faultPosition.1 mX7_faultPosition.1 ∈ zT := zT_in 246 (by decide +kernel) rfl
theorem yiX7_reason : Cond.initialized mX7_reason.1.cls ∈ zT ∧ plainName mX7_reason.1.cls = true ∧ (mX7_reason.1.cls ≠ "java/lang/invoke/MethodHandle" ∧ mX7_reason.1.cls ≠ "java/lang/invoke/VarHandle") ∧ (parseMethodDescriptor mX7_reason.1.desc).map (fun d => d.parameters.length) = some 1 := ⟨zT_in 42 (by decide +kernel) rfl, by decide +kernel, by decide +kernel, by decide +kernel⟩
theorem ycX7_reason : zLkC mX7_reason := ⟨rfl, zT_in 987 (by decide +kernel) rfl⟩
theorem yvX7_reason : Cond.instanceMethod mX7_reason.1 ∈ zT := zT_in 985 (by decide +kernel) rfl
theorem ywX7_reason : Cond.selects mX7_reason.1.cls mX7_reason.1 mX7_reason.1 ∈ zT := zT_in 986 (by decide +kernel) rfl
theorem yiX7_line : Cond.initialized mX7_line.1.cls ∈ zT ∧ plainName mX7_line.1.cls = true ∧ (mX7_line.1.cls ≠ "java/lang/invoke/MethodHandle" ∧ mX7_line.1.cls ≠ "java/lang/invoke/VarHandle") ∧ (parseMethodDescriptor mX7_line.1.desc).map (fun d => d.parameters.length) = some 1 := ⟨zT_in 42 (by decide +kernel) rfl, by decide +kernel, by decide +kernel, by decide +kernel⟩
theorem ycX7_line : zLkC mX7_line := ⟨rfl, zT_in 996 (by decide +kernel) rfl⟩
theorem yvX7_line : Cond.instanceMethod mX7_line.1 ∈ zT := zT_in 994 (by decide +kernel) rfl
theorem ywX7_line : Cond.selects mX7_line.1.cls mX7_line.1 mX7_line.1 ∈ zT := zT_in 995 (by decide +kernel) rfl
theorem yiX7_lineage : Cond.initialized mX7_lineage.1.cls ∈ zT ∧ plainName mX7_lineage.1.cls = true ∧ (mX7_lineage.1.cls ≠ "java/lang/invoke/MethodHandle" ∧ mX7_lineage.1.cls ≠ "java/lang/invoke/VarHandle") ∧ (parseMethodDescriptor mX7_lineage.1.desc).map (fun d => d.parameters.length) = some 1 := ⟨zT_in 42 (by decide +kernel) rfl, by decide +kernel, by decide +kernel, by decide +kernel⟩
theorem ycX7_lineage : zLkC mX7_lineage := ⟨rfl, zT_in 1024 (by decide +kernel) rfl⟩
theorem yvX7_lineage : Cond.instanceMethod mX7_lineage.1 ∈ zT := zT_in 1022 (by decide +kernel) rfl
theorem ywX7_lineage : Cond.selects mX7_lineage.1.cls mX7_lineage.1 mX7_lineage.1 ∈ zT := zT_in 1023 (by decide +kernel) rfl
theorem yiX7_character : Cond.initialized mX7_character.1.cls ∈ zT ∧ plainName mX7_character.1.cls = true ∧ (mX7_character.1.cls ≠ "java/lang/invoke/MethodHandle" ∧ mX7_character.1.cls ≠ "java/lang/invoke/VarHandle") ∧ (parseMethodDescriptor mX7_character.1.desc).map (fun d => d.parameters.length) = some 1 := ⟨zT_in 42 (by decide +kernel) rfl, by decide +kernel, by decide +kernel, by decide +kernel⟩
theorem ycX7_character : zLkC mX7_character := ⟨rfl, zT_in 1031 (by decide +kernel) rfl⟩
theorem yvX7_character : Cond.instanceMethod mX7_character.1 ∈ zT := zT_in 1029 (by decide +kernel) rfl
theorem ywX7_character : Cond.selects mX7_character.1.cls mX7_character.1 mX7_character.1 ∈ zT := zT_in 1030 (by decide +kernel) rfl
theorem yiX7_mean : Cond.initialized mX7_mean.1.cls ∈ zT ∧ plainName mX7_mean.1.cls = true ∧ (mX7_mean.1.cls ≠ "java/lang/invoke/MethodHandle" ∧ mX7_mean.1.cls ≠ "java/lang/invoke/VarHandle") ∧ (parseMethodDescriptor mX7_mean.1.desc).map (fun d => d.parameters.length) = some 1 := ⟨zT_in 42 (by decide +kernel) rfl, by decide +kernel, by decide +kernel, by decide +kernel⟩
theorem ycX7_mean : zLkC mX7_mean := ⟨rfl, zT_in 1043 (by decide +kernel) rfl⟩
theorem yvX7_mean : Cond.instanceMethod mX7_mean.1 ∈ zT := zT_in 1041 (by decide +kernel) rfl
theorem ywX7_mean : Cond.selects mX7_mean.1.cls mX7_mean.1 mX7_mean.1 ∈ zT := zT_in 1042 (by decide +kernel) rfl
theorem yiX7_spared : Cond.initialized mX7_spared.1.cls ∈ zT ∧ plainName mX7_spared.1.cls = true ∧ (mX7_spared.1.cls ≠ "java/lang/invoke/MethodHandle" ∧ mX7_spared.1.cls ≠ "java/lang/invoke/VarHandle") ∧ (parseMethodDescriptor mX7_spared.1.desc).map (fun d => d.parameters.length) = some 0 := ⟨zT_in 42 (by decide +kernel) rfl, by decide +kernel, by decide +kernel, by decide +kernel⟩
theorem ycX7_spared : zLkC mX7_spared := ⟨rfl, zT_in 251 (by decide +kernel) rfl⟩
theorem yvX7_spared : Cond.instanceMethod mX7_spared.1 ∈ zT := zT_in 249 (by decide +kernel) rfl
theorem ywX7_spared : Cond.selects mX7_spared.1.cls mX7_spared.1 mX7_spared.1 ∈ zT := zT_in 250 (by decide +kernel) rfl
theorem yiX7_account : Cond.initialized mX7_account.1.cls ∈ zT ∧ plainName mX7_account.1.cls = true ∧ (mX7_account.1.cls ≠ "java/lang/invoke/MethodHandle" ∧ mX7_account.1.cls ≠ "java/lang/invoke/VarHandle") ∧ (parseMethodDescriptor mX7_account.1.desc).map (fun d => d.parameters.length) = some 1 := ⟨zT_in 42 (by decide +kernel) rfl, by decide +kernel, by decide +kernel, by decide +kernel⟩
theorem ycX7_account : zLkC mX7_account := ⟨rfl, zT_in 1052 (by decide +kernel) rfl⟩
theorem yvX7_account : Cond.instanceMethod mX7_account.1 ∈ zT := zT_in 1050 (by decide +kernel) rfl
theorem ywX7_account : Cond.selects mX7_account.1.cls mX7_account.1 mX7_account.1 ∈ zT := zT_in 1051 (by decide +kernel) rfl
theorem yiX7_undo : Cond.initialized mX7_undo.1.cls ∈ zT ∧ plainName mX7_undo.1.cls = true ∧ (mX7_undo.1.cls ≠ "java/lang/invoke/MethodHandle" ∧ mX7_undo.1.cls ≠ "java/lang/invoke/VarHandle") ∧ (parseMethodDescriptor mX7_undo.1.desc).map (fun d => d.parameters.length) = some 0 := ⟨zT_in 42 (by decide +kernel) rfl, by decide +kernel, by decide +kernel, by decide +kernel⟩
theorem ycX7_undo : zLkC mX7_undo := ⟨rfl, zT_in 1074 (by decide +kernel) rfl⟩
theorem yvX7_undo : Cond.instanceMethod mX7_undo.1 ∈ zT := zT_in 1072 (by decide +kernel) rfl
theorem ywX7_undo : Cond.selects mX7_undo.1.cls mX7_undo.1 mX7_undo.1 ∈ zT := zT_in 1073 (by decide +kernel) rfl
theorem yiX7_save : Cond.initialized mX7_save.1.cls ∈ zT ∧ plainName mX7_save.1.cls = true ∧ (mX7_save.1.cls ≠ "java/lang/invoke/MethodHandle" ∧ mX7_save.1.cls ≠ "java/lang/invoke/VarHandle") ∧ (parseMethodDescriptor mX7_save.1.desc).map (fun d => d.parameters.length) = some 0 := ⟨zT_in 42 (by decide +kernel) rfl, by decide +kernel, by decide +kernel, by decide +kernel⟩
theorem ycX7_save : zLkC mX7_save := ⟨rfl, zT_in 278 (by decide +kernel) rfl⟩
theorem yvX7_save : Cond.instanceMethod mX7_save.1 ∈ zT := zT_in 276 (by decide +kernel) rfl
theorem ywX7_save : Cond.selects mX7_save.1.cls mX7_save.1 mX7_save.1 ∈ zT := zT_in 277 (by decide +kernel) rfl
theorem yiX7_restore : Cond.initialized mX7_restore.1.cls ∈ zT ∧ plainName mX7_restore.1.cls = true ∧ (mX7_restore.1.cls ≠ "java/lang/invoke/MethodHandle" ∧ mX7_restore.1.cls ≠ "java/lang/invoke/VarHandle") ∧ (parseMethodDescriptor mX7_restore.1.desc).map (fun d => d.parameters.length) = some 0 := ⟨zT_in 42 (by decide +kernel) rfl, by decide +kernel, by decide +kernel, by decide +kernel⟩
theorem ycX7_restore : zLkC mX7_restore := ⟨rfl, zT_in 1086 (by decide +kernel) rfl⟩
theorem yvX7_restore : Cond.instanceMethod mX7_restore.1 ∈ zT := zT_in 1084 (by decide +kernel) rfl
theorem ywX7_restore : Cond.selects mX7_restore.1.cls mX7_restore.1 mX7_restore.1 ∈ zT := zT_in 1085 (by decide +kernel) rfl
theorem yiX7_settled : Cond.initialized mX7_settled.1.cls ∈ zT ∧ plainName mX7_settled.1.cls = true ∧ (mX7_settled.1.cls ≠ "java/lang/invoke/MethodHandle" ∧ mX7_settled.1.cls ≠ "java/lang/invoke/VarHandle") ∧ (parseMethodDescriptor mX7_settled.1.desc).map (fun d => d.parameters.length) = some 1 := ⟨zT_in 42 (by decide +kernel) rfl, by decide +kernel, by decide +kernel, by decide +kernel⟩
theorem ycX7_settled : zLkC mX7_settled := ⟨rfl, zT_in 372 (by decide +kernel) rfl⟩
theorem yvX7_settled : Cond.instanceMethod mX7_settled.1 ∈ zT := zT_in 371 (by decide +kernel) rfl
theorem ywX7_settled : Cond.selects mX7_settled.1.cls mX7_settled.1 mX7_settled.1 ∈ zT := zT_in 3 (by decide +kernel) rfl
theorem yiX7_checkVersion : Cond.initialized mX7_checkVersion.1.cls ∈ zT ∧ plainName mX7_checkVersion.1.cls = true ∧ (mX7_checkVersion.1.cls ≠ "java/lang/invoke/MethodHandle" ∧ mX7_checkVersion.1.cls ≠ "java/lang/invoke/VarHandle") ∧ (parseMethodDescriptor mX7_checkVersion.1.desc).map (fun d => d.parameters.length) = some 1 := ⟨zT_in 42 (by decide +kernel) rfl, by decide +kernel, by decide +kernel, by decide +kernel⟩
theorem ycX7_checkVersion : zLkC mX7_checkVersion := ⟨rfl, zT_in 574 (by decide +kernel) rfl⟩
theorem yvX7_checkVersion : Cond.instanceMethod mX7_checkVersion.1 ∈ zT := zT_in 573 (by decide +kernel) rfl
theorem ywX7_checkVersion : Cond.selects mX7_checkVersion.1.cls mX7_checkVersion.1 mX7_checkVersion.1 ∈ zT := zT_in 6 (by decide +kernel) rfl
theorem yiX7_checkHouse : Cond.initialized mX7_checkHouse.1.cls ∈ zT ∧ plainName mX7_checkHouse.1.cls = true ∧ (mX7_checkHouse.1.cls ≠ "java/lang/invoke/MethodHandle" ∧ mX7_checkHouse.1.cls ≠ "java/lang/invoke/VarHandle") ∧ (parseMethodDescriptor mX7_checkHouse.1.desc).map (fun d => d.parameters.length) = some 1 := ⟨zT_in 42 (by decide +kernel) rfl, by decide +kernel, by decide +kernel, by decide +kernel⟩
theorem ycX7_checkHouse : zLkC mX7_checkHouse := ⟨rfl, zT_in 544 (by decide +kernel) rfl⟩
theorem ysX7_checkHouse : Cond.static mX7_checkHouse.1 ∈ zT := zT_in 543 (by decide +kernel) rfl
theorem yiX7_checkLines : Cond.initialized mX7_checkLines.1.cls ∈ zT ∧ plainName mX7_checkLines.1.cls = true ∧ (mX7_checkLines.1.cls ≠ "java/lang/invoke/MethodHandle" ∧ mX7_checkLines.1.cls ≠ "java/lang/invoke/VarHandle") ∧ (parseMethodDescriptor mX7_checkLines.1.desc).map (fun d => d.parameters.length) = some 2 := ⟨zT_in 42 (by decide +kernel) rfl, by decide +kernel, by decide +kernel, by decide +kernel⟩
theorem ycX7_checkLines : zLkC mX7_checkLines := ⟨rfl, zT_in 579 (by decide +kernel) rfl⟩
theorem ysX7_checkLines : Cond.static mX7_checkLines.1 ∈ zT := zT_in 578 (by decide +kernel) rfl
theorem yiX7_checkSpan : Cond.initialized mX7_checkSpan.1.cls ∈ zT ∧ plainName mX7_checkSpan.1.cls = true ∧ (mX7_checkSpan.1.cls ≠ "java/lang/invoke/MethodHandle" ∧ mX7_checkSpan.1.cls ≠ "java/lang/invoke/VarHandle") ∧ (parseMethodDescriptor mX7_checkSpan.1.desc).map (fun d => d.parameters.length) = some 1 := ⟨zT_in 42 (by decide +kernel) rfl, by decide +kernel, by decide +kernel, by decide +kernel⟩
theorem ycX7_checkSpan : zLkC mX7_checkSpan := ⟨rfl, zT_in 697 (by decide +kernel) rfl⟩
theorem ysX7_checkSpan : Cond.static mX7_checkSpan.1 ∈ zT := zT_in 696 (by decide +kernel) rfl
theorem yiX7_isHouse : Cond.initialized mX7_isHouse.1.cls ∈ zT ∧ plainName mX7_isHouse.1.cls = true ∧ (mX7_isHouse.1.cls ≠ "java/lang/invoke/MethodHandle" ∧ mX7_isHouse.1.cls ≠ "java/lang/invoke/VarHandle") ∧ (parseMethodDescriptor mX7_isHouse.1.desc).map (fun d => d.parameters.length) = some 1 := ⟨zT_in 42 (by decide +kernel) rfl, by decide +kernel, by decide +kernel, by decide +kernel⟩
theorem ycX7_isHouse : zLkC mX7_isHouse := ⟨rfl, zT_in 314 (by decide +kernel) rfl⟩
theorem ysX7_isHouse : Cond.static mX7_isHouse.1 ∈ zT := zT_in 313 (by decide +kernel) rfl
theorem yiX7_isLine : Cond.initialized mX7_isLine.1.cls ∈ zT ∧ plainName mX7_isLine.1.cls = true ∧ (mX7_isLine.1.cls ≠ "java/lang/invoke/MethodHandle" ∧ mX7_isLine.1.cls ≠ "java/lang/invoke/VarHandle") ∧ (parseMethodDescriptor mX7_isLine.1.desc).map (fun d => d.parameters.length) = some 1 := ⟨zT_in 42 (by decide +kernel) rfl, by decide +kernel, by decide +kernel, by decide +kernel⟩
theorem ycX7_isLine : zLkC mX7_isLine := ⟨rfl, zT_in 317 (by decide +kernel) rfl⟩
theorem ysX7_isLine : Cond.static mX7_isLine.1 ∈ zT := zT_in 316 (by decide +kernel) rfl
theorem yiX7_isSpan : Cond.initialized mX7_isSpan.1.cls ∈ zT ∧ plainName mX7_isSpan.1.cls = true ∧ (mX7_isSpan.1.cls ≠ "java/lang/invoke/MethodHandle" ∧ mX7_isSpan.1.cls ≠ "java/lang/invoke/VarHandle") ∧ (parseMethodDescriptor mX7_isSpan.1.desc).map (fun d => d.parameters.length) = some 1 := ⟨zT_in 42 (by decide +kernel) rfl, by decide +kernel, by decide +kernel, by decide +kernel⟩
theorem ycX7_isSpan : zLkC mX7_isSpan := ⟨rfl, zT_in 274 (by decide +kernel) rfl⟩
theorem ysX7_isSpan : Cond.static mX7_isSpan.1 ∈ zT := zT_in 273 (by decide +kernel) rfl
theorem yiX7_isInside : Cond.initialized mX7_isInside.1.cls ∈ zT ∧ plainName mX7_isInside.1.cls = true ∧ (mX7_isInside.1.cls ≠ "java/lang/invoke/MethodHandle" ∧ mX7_isInside.1.cls ≠ "java/lang/invoke/VarHandle") ∧ (parseMethodDescriptor mX7_isInside.1.desc).map (fun d => d.parameters.length) = some 3 := ⟨zT_in 42 (by decide +kernel) rfl, by decide +kernel, by decide +kernel, by decide +kernel⟩
theorem ycX7_isInside : zLkC mX7_isInside := ⟨rfl, zT_in 484 (by decide +kernel) rfl⟩
theorem ysX7_isInside : Cond.static mX7_isInside.1 ∈ zT := zT_in 483 (by decide +kernel) rfl
theorem yiX7_isCut : Cond.initialized mX7_isCut.1.cls ∈ zT ∧ plainName mX7_isCut.1.cls = true ∧ (mX7_isCut.1.cls ≠ "java/lang/invoke/MethodHandle" ∧ mX7_isCut.1.cls ≠ "java/lang/invoke/VarHandle") ∧ (parseMethodDescriptor mX7_isCut.1.desc).map (fun d => d.parameters.length) = some 3 := ⟨zT_in 42 (by decide +kernel) rfl, by decide +kernel, by decide +kernel, by decide +kernel⟩
theorem ycX7_isCut : zLkC mX7_isCut := ⟨rfl, zT_in 354 (by decide +kernel) rfl⟩
theorem ysX7_isCut : Cond.static mX7_isCut.1 ∈ zT := zT_in 353 (by decide +kernel) rfl
theorem yiX7_isDigit : Cond.initialized mX7_isDigit.1.cls ∈ zT ∧ plainName mX7_isDigit.1.cls = true ∧ (mX7_isDigit.1.cls ≠ "java/lang/invoke/MethodHandle" ∧ mX7_isDigit.1.cls ≠ "java/lang/invoke/VarHandle") ∧ (parseMethodDescriptor mX7_isDigit.1.desc).map (fun d => d.parameters.length) = some 1 := ⟨zT_in 42 (by decide +kernel) rfl, by decide +kernel, by decide +kernel, by decide +kernel⟩
theorem ycX7_isDigit : zLkC mX7_isDigit := ⟨rfl, zT_in 947 (by decide +kernel) rfl⟩
theorem ysX7_isDigit : Cond.static mX7_isDigit.1 ∈ zT := zT_in 946 (by decide +kernel) rfl
theorem yiX8_init : Cond.initialized mX8_init.1.cls ∈ zT ∧ plainName mX8_init.1.cls = true ∧ (mX8_init.1.cls ≠ "java/lang/invoke/MethodHandle" ∧ mX8_init.1.cls ≠ "java/lang/invoke/VarHandle") ∧ (parseMethodDescriptor mX8_init.1.desc).map (fun d => d.parameters.length) = some 0 := ⟨zT_in 50 (by decide +kernel) rfl, by decide +kernel, by decide +kernel, by decide +kernel⟩
theorem ycX8_init : zLkC mX8_init := ⟨rfl, zT_in 1096 (by decide +kernel) rfl⟩
theorem yvX8_init : Cond.instanceMethod mX8_init.1 ∈ zT := zT_in 1095 (by decide +kernel) rfl
theorem yiX8_thrown : Cond.initialized mX8_thrown.1.cls ∈ zT ∧ plainName mX8_thrown.1.cls = true ∧ (mX8_thrown.1.cls ≠ "java/lang/invoke/MethodHandle" ∧ mX8_thrown.1.cls ≠ "java/lang/invoke/VarHandle") ∧ (parseMethodDescriptor mX8_thrown.1.desc).map (fun d => d.parameters.length) = some 0 := ⟨zT_in 50 (by decide +kernel) rfl, by decide +kernel, by decide +kernel, by decide +kernel⟩
theorem ycX8_thrown : zLkC mX8_thrown := ⟨rfl, zT_in 1168 (by decide +kernel) rfl⟩
theorem yvX8_thrown : Cond.instanceMethod mX8_thrown.1 ∈ zT := zT_in 1166 (by decide +kernel) rfl
theorem ywX8_thrown : Cond.selects mX8_thrown.1.cls mX8_thrown.1 mX8_thrown.1 ∈ zT := zT_in 1167 (by decide +kernel) rfl
theorem yiX8_fails : Cond.initialized mX8_fails.1.cls ∈ zT ∧ plainName mX8_fails.1.cls = true ∧ (mX8_fails.1.cls ≠ "java/lang/invoke/MethodHandle" ∧ mX8_fails.1.cls ≠ "java/lang/invoke/VarHandle") ∧ (parseMethodDescriptor mX8_fails.1.desc).map (fun d => d.parameters.length) = some 1 := ⟨zT_in 50 (by decide +kernel) rfl, by decide +kernel, by decide +kernel, by decide +kernel⟩
theorem ycX8_fails : zLkC mX8_fails := ⟨rfl, zT_in 1252 (by decide +kernel) rfl⟩
theorem yvX8_fails : Cond.instanceMethod mX8_fails.1 ∈ zT := zT_in 1251 (by decide +kernel) rfl
theorem ywX8_fails : Cond.selects mX8_fails.1.cls mX8_fails.1 mX8_fails.1 ∈ zT := zT_in 22 (by decide +kernel) rfl
theorem yiX8_refuses : Cond.initialized mX8_refuses.1.cls ∈ zT ∧ plainName mX8_refuses.1.cls = true ∧ (mX8_refuses.1.cls ≠ "java/lang/invoke/MethodHandle" ∧ mX8_refuses.1.cls ≠ "java/lang/invoke/VarHandle") ∧ (parseMethodDescriptor mX8_refuses.1.desc).map (fun d => d.parameters.length) = some 2 := ⟨zT_in 50 (by decide +kernel) rfl, by decide +kernel, by decide +kernel, by decide +kernel⟩
theorem ycX8_refuses : zLkC mX8_refuses := ⟨rfl, zT_in 1185 (by decide +kernel) rfl⟩
theorem yvX8_refuses : Cond.instanceMethod mX8_refuses.1 ∈ zT := zT_in 1184 (by decide +kernel) rfl
theorem ywX8_refuses : Cond.selects mX8_refuses.1.cls mX8_refuses.1 mX8_refuses.1 ∈ zT := zT_in 11 (by decide +kernel) rfl
theorem yiX8_in : Cond.initialized mX8_in.1.cls ∈ zT ∧ plainName mX8_in.1.cls = true ∧ (mX8_in.1.cls ≠ "java/lang/invoke/MethodHandle" ∧ mX8_in.1.cls ≠ "java/lang/invoke/VarHandle") ∧ (parseMethodDescriptor mX8_in.1.desc).map (fun d => d.parameters.length) = some 3 := ⟨zT_in 50 (by decide +kernel) rfl, by decide +kernel, by decide +kernel, by decide +kernel⟩
theorem ycX8_in : zLkC mX8_in := ⟨rfl, zT_in 1178 (by decide +kernel) rfl⟩
theorem ysX8_in : Cond.static mX8_in.1 ∈ zT := zT_in 1177 (by decide +kernel) rfl
theorem yiX8_copies : Cond.initialized mX8_copies.1.cls ∈ zT ∧ plainName mX8_copies.1.cls = true ∧ (mX8_copies.1.cls ≠ "java/lang/invoke/MethodHandle" ∧ mX8_copies.1.cls ≠ "java/lang/invoke/VarHandle") ∧ (parseMethodDescriptor mX8_copies.1.desc).map (fun d => d.parameters.length) = some 4 := ⟨zT_in 50 (by decide +kernel) rfl, by decide +kernel, by decide +kernel, by decide +kernel⟩
theorem ycX8_copies : zLkC mX8_copies := ⟨rfl, zT_in 1200 (by decide +kernel) rfl⟩
theorem ysX8_copies : Cond.static mX8_copies.1 ∈ zT := zT_in 1199 (by decide +kernel) rfl
theorem yiX8_keeps : Cond.initialized mX8_keeps.1.cls ∈ zT ∧ plainName mX8_keeps.1.cls = true ∧ (mX8_keeps.1.cls ≠ "java/lang/invoke/MethodHandle" ∧ mX8_keeps.1.cls ≠ "java/lang/invoke/VarHandle") ∧ (parseMethodDescriptor mX8_keeps.1.desc).map (fun d => d.parameters.length) = some 1 := ⟨zT_in 50 (by decide +kernel) rfl, by decide +kernel, by decide +kernel, by decide +kernel⟩
theorem ycX8_keeps : zLkC mX8_keeps := ⟨rfl, zT_in 1197 (by decide +kernel) rfl⟩
theorem yvX8_keeps : Cond.instanceMethod mX8_keeps.1 ∈ zT := zT_in 1196 (by decide +kernel) rfl
theorem ywX8_keeps : Cond.selects mX8_keeps.1.cls mX8_keeps.1 mX8_keeps.1 ∈ zT := zT_in 14 (by decide +kernel) rfl
theorem yiX8_of : Cond.initialized mX8_of.1.cls ∈ zT ∧ plainName mX8_of.1.cls = true ∧ (mX8_of.1.cls ≠ "java/lang/invoke/MethodHandle" ∧ mX8_of.1.cls ≠ "java/lang/invoke/VarHandle") ∧ (parseMethodDescriptor mX8_of.1.desc).map (fun d => d.parameters.length) = some 2 := ⟨zT_in 50 (by decide +kernel) rfl, by decide +kernel, by decide +kernel, by decide +kernel⟩
theorem ycX8_of : zLkC mX8_of := ⟨rfl, zT_in 1193 (by decide +kernel) rfl⟩
theorem yvX8_of : Cond.instanceMethod mX8_of.1 ∈ zT := zT_in 1192 (by decide +kernel) rfl
theorem ywX8_of : Cond.selects mX8_of.1.cls mX8_of.1 mX8_of.1 ∈ zT := zT_in 13 (by decide +kernel) rfl
theorem yiX8_lays : Cond.initialized mX8_lays.1.cls ∈ zT ∧ plainName mX8_lays.1.cls = true ∧ (mX8_lays.1.cls ≠ "java/lang/invoke/MethodHandle" ∧ mX8_lays.1.cls ≠ "java/lang/invoke/VarHandle") ∧ (parseMethodDescriptor mX8_lays.1.desc).map (fun d => d.parameters.length) = some 3 := ⟨zT_in 50 (by decide +kernel) rfl, by decide +kernel, by decide +kernel, by decide +kernel⟩
theorem ycX8_lays : zLkC mX8_lays := ⟨rfl, zT_in 1208 (by decide +kernel) rfl⟩
theorem yvX8_lays : Cond.instanceMethod mX8_lays.1 ∈ zT := zT_in 1207 (by decide +kernel) rfl
theorem ywX8_lays : Cond.selects mX8_lays.1.cls mX8_lays.1 mX8_lays.1 ∈ zT := zT_in 16 (by decide +kernel) rfl
theorem yiX8_isVersion : Cond.initialized mX8_isVersion.1.cls ∈ zT ∧ plainName mX8_isVersion.1.cls = true ∧ (mX8_isVersion.1.cls ≠ "java/lang/invoke/MethodHandle" ∧ mX8_isVersion.1.cls ≠ "java/lang/invoke/VarHandle") ∧ (parseMethodDescriptor mX8_isVersion.1.desc).map (fun d => d.parameters.length) = some 1 := ⟨zT_in 50 (by decide +kernel) rfl, by decide +kernel, by decide +kernel, by decide +kernel⟩
theorem ycX8_isVersion : zLkC mX8_isVersion := ⟨rfl, zT_in 1220 (by decide +kernel) rfl⟩
theorem yvX8_isVersion : Cond.instanceMethod mX8_isVersion.1 ∈ zT := zT_in 1219 (by decide +kernel) rfl
theorem ywX8_isVersion : Cond.selects mX8_isVersion.1.cls mX8_isVersion.1 mX8_isVersion.1 ∈ zT := zT_in 18 (by decide +kernel) rfl
theorem yiX8_isHouse : Cond.initialized mX8_isHouse.1.cls ∈ zT ∧ plainName mX8_isHouse.1.cls = true ∧ (mX8_isHouse.1.cls ≠ "java/lang/invoke/MethodHandle" ∧ mX8_isHouse.1.cls ≠ "java/lang/invoke/VarHandle") ∧ (parseMethodDescriptor mX8_isHouse.1.desc).map (fun d => d.parameters.length) = some 1 := ⟨zT_in 50 (by decide +kernel) rfl, by decide +kernel, by decide +kernel, by decide +kernel⟩
theorem ycX8_isHouse : zLkC mX8_isHouse := ⟨rfl, zT_in 1175 (by decide +kernel) rfl⟩
theorem ysX8_isHouse : Cond.static mX8_isHouse.1 ∈ zT := zT_in 1174 (by decide +kernel) rfl
theorem yiX8_isLine : Cond.initialized mX8_isLine.1.cls ∈ zT ∧ plainName mX8_isLine.1.cls = true ∧ (mX8_isLine.1.cls ≠ "java/lang/invoke/MethodHandle" ∧ mX8_isLine.1.cls ≠ "java/lang/invoke/VarHandle") ∧ (parseMethodDescriptor mX8_isLine.1.desc).map (fun d => d.parameters.length) = some 1 := ⟨zT_in 50 (by decide +kernel) rfl, by decide +kernel, by decide +kernel, by decide +kernel⟩
theorem ycX8_isLine : zLkC mX8_isLine := ⟨rfl, zT_in 1181 (by decide +kernel) rfl⟩
theorem ysX8_isLine : Cond.static mX8_isLine.1 ∈ zT := zT_in 1180 (by decide +kernel) rfl
theorem yiX8_amountOf : Cond.initialized mX8_amountOf.1.cls ∈ zT ∧ plainName mX8_amountOf.1.cls = true ∧ (mX8_amountOf.1.cls ≠ "java/lang/invoke/MethodHandle" ∧ mX8_amountOf.1.cls ≠ "java/lang/invoke/VarHandle") ∧ (parseMethodDescriptor mX8_amountOf.1.desc).map (fun d => d.parameters.length) = some 2 := ⟨zT_in 50 (by decide +kernel) rfl, by decide +kernel, by decide +kernel, by decide +kernel⟩
theorem ycX8_amountOf : zLkC mX8_amountOf := ⟨rfl, zT_in 1189 (by decide +kernel) rfl⟩
theorem yvX8_amountOf : Cond.instanceMethod mX8_amountOf.1 ∈ zT := zT_in 1188 (by decide +kernel) rfl
theorem ywX8_amountOf : Cond.selects mX8_amountOf.1.cls mX8_amountOf.1 mX8_amountOf.1 ∈ zT := zT_in 12 (by decide +kernel) rfl
theorem yiX8_has : Cond.initialized mX8_has.1.cls ∈ zT ∧ plainName mX8_has.1.cls = true ∧ (mX8_has.1.cls ≠ "java/lang/invoke/MethodHandle" ∧ mX8_has.1.cls ≠ "java/lang/invoke/VarHandle") ∧ (parseMethodDescriptor mX8_has.1.desc).map (fun d => d.parameters.length) = some 3 := ⟨zT_in 50 (by decide +kernel) rfl, by decide +kernel, by decide +kernel, by decide +kernel⟩
theorem ycX8_has : zLkC mX8_has := ⟨rfl, zT_in 1212 (by decide +kernel) rfl⟩
theorem yvX8_has : Cond.instanceMethod mX8_has.1 ∈ zT := zT_in 1211 (by decide +kernel) rfl
theorem ywX8_has : Cond.selects mX8_has.1.cls mX8_has.1 mX8_has.1 ∈ zT := zT_in 17 (by decide +kernel) rfl
theorem yiX8_isWithin0 : Cond.initialized mX8_isWithin0.1.cls ∈ zT ∧ plainName mX8_isWithin0.1.cls = true ∧ (mX8_isWithin0.1.cls ≠ "java/lang/invoke/MethodHandle" ∧ mX8_isWithin0.1.cls ≠ "java/lang/invoke/VarHandle") ∧ (parseMethodDescriptor mX8_isWithin0.1.desc).map (fun d => d.parameters.length) = some 3 := ⟨zT_in 50 (by decide +kernel) rfl, by decide +kernel, by decide +kernel, by decide +kernel⟩
theorem ycX8_isWithin0 : zLkC mX8_isWithin0 := ⟨rfl, zT_in 1228 (by decide +kernel) rfl⟩
theorem yvX8_isWithin0 : Cond.instanceMethod mX8_isWithin0.1 ∈ zT := zT_in 1227 (by decide +kernel) rfl
theorem ywX8_isWithin0 : Cond.selects mX8_isWithin0.1.cls mX8_isWithin0.1 mX8_isWithin0.1 ∈ zT := zT_in 20 (by decide +kernel) rfl
theorem yiX8_comes : Cond.initialized mX8_comes.1.cls ∈ zT ∧ plainName mX8_comes.1.cls = true ∧ (mX8_comes.1.cls ≠ "java/lang/invoke/MethodHandle" ∧ mX8_comes.1.cls ≠ "java/lang/invoke/VarHandle") ∧ (parseMethodDescriptor mX8_comes.1.desc).map (fun d => d.parameters.length) = some 1 := ⟨zT_in 50 (by decide +kernel) rfl, by decide +kernel, by decide +kernel, by decide +kernel⟩
theorem ycX8_comes : zLkC mX8_comes := ⟨rfl, zT_in 1204 (by decide +kernel) rfl⟩
theorem yvX8_comes : Cond.instanceMethod mX8_comes.1 ∈ zT := zT_in 1203 (by decide +kernel) rfl
theorem ywX8_comes : Cond.selects mX8_comes.1.cls mX8_comes.1 mX8_comes.1 ∈ zT := zT_in 15 (by decide +kernel) rfl
theorem yiX8_write : Cond.initialized mX8_write.1.cls ∈ zT ∧ plainName mX8_write.1.cls = true ∧ (mX8_write.1.cls ≠ "java/lang/invoke/MethodHandle" ∧ mX8_write.1.cls ≠ "java/lang/invoke/VarHandle") ∧ (parseMethodDescriptor mX8_write.1.desc).map (fun d => d.parameters.length) = some 3 := ⟨zT_in 50 (by decide +kernel) rfl, by decide +kernel, by decide +kernel, by decide +kernel⟩
theorem ycX8_write : zLkC mX8_write := ⟨rfl, zT_in 1172 (by decide +kernel) rfl⟩
theorem yvX8_write : Cond.instanceMethod mX8_write.1 ∈ zT := zT_in 1170 (by decide +kernel) rfl
theorem ywX8_write : Cond.selects mX8_write.1.cls mX8_write.1 mX8_write.1 ∈ zT := zT_in 1171 (by decide +kernel) rfl
theorem yiX8_areLike : Cond.initialized mX8_areLike.1.cls ∈ zT ∧ plainName mX8_areLike.1.cls = true ∧ (mX8_areLike.1.cls ≠ "java/lang/invoke/MethodHandle" ∧ mX8_areLike.1.cls ≠ "java/lang/invoke/VarHandle") ∧ (parseMethodDescriptor mX8_areLike.1.desc).map (fun d => d.parameters.length) = some 4 := ⟨zT_in 50 (by decide +kernel) rfl, by decide +kernel, by decide +kernel, by decide +kernel⟩
theorem ycX8_areLike : zLkC mX8_areLike := ⟨rfl, zT_in 1224 (by decide +kernel) rfl⟩
theorem yvX8_areLike : Cond.instanceMethod mX8_areLike.1 ∈ zT := zT_in 1223 (by decide +kernel) rfl
theorem ywX8_areLike : Cond.selects mX8_areLike.1.cls mX8_areLike.1 mX8_areLike.1 ∈ zT := zT_in 19 (by decide +kernel) rfl
theorem yiX8_graft : Cond.initialized mX8_graft.1.cls ∈ zT ∧ plainName mX8_graft.1.cls = true ∧ (mX8_graft.1.cls ≠ "java/lang/invoke/MethodHandle" ∧ mX8_graft.1.cls ≠ "java/lang/invoke/VarHandle") ∧ (parseMethodDescriptor mX8_graft.1.desc).map (fun d => d.parameters.length) = some 4 := ⟨zT_in 50 (by decide +kernel) rfl, by decide +kernel, by decide +kernel, by decide +kernel⟩
theorem ycX8_graft : zLkC mX8_graft := ⟨rfl, zT_in 1216 (by decide +kernel) rfl⟩
theorem yvX8_graft : Cond.instanceMethod mX8_graft.1 ∈ zT := zT_in 1214 (by decide +kernel) rfl
theorem ywX8_graft : Cond.selects mX8_graft.1.cls mX8_graft.1 mX8_graft.1 ∈ zT := zT_in 1215 (by decide +kernel) rfl
theorem yiX8_fork : Cond.initialized mX8_fork.1.cls ∈ zT ∧ plainName mX8_fork.1.cls = true ∧ (mX8_fork.1.cls ≠ "java/lang/invoke/MethodHandle" ∧ mX8_fork.1.cls ≠ "java/lang/invoke/VarHandle") ∧ (parseMethodDescriptor mX8_fork.1.desc).map (fun d => d.parameters.length) = some 2 := ⟨zT_in 50 (by decide +kernel) rfl, by decide +kernel, by decide +kernel, by decide +kernel⟩
theorem ycX8_fork : zLkC mX8_fork := ⟨rfl, zT_in 1232 (by decide +kernel) rfl⟩
theorem yvX8_fork : Cond.instanceMethod mX8_fork.1 ∈ zT := zT_in 1230 (by decide +kernel) rfl
theorem ywX8_fork : Cond.selects mX8_fork.1.cls mX8_fork.1 mX8_fork.1 ∈ zT := zT_in 1231 (by decide +kernel) rfl
theorem yiX8_ancestors : Cond.initialized mX8_ancestors.1.cls ∈ zT ∧ plainName mX8_ancestors.1.cls = true ∧ (mX8_ancestors.1.cls ≠ "java/lang/invoke/MethodHandle" ∧ mX8_ancestors.1.cls ≠ "java/lang/invoke/VarHandle") ∧ (parseMethodDescriptor mX8_ancestors.1.desc).map (fun d => d.parameters.length) = some 1 := ⟨zT_in 50 (by decide +kernel) rfl, by decide +kernel, by decide +kernel, by decide +kernel⟩
theorem ycX8_ancestors : zLkC mX8_ancestors := ⟨rfl, zT_in 1240 (by decide +kernel) rfl⟩
theorem yvX8_ancestors : Cond.instanceMethod mX8_ancestors.1 ∈ zT := zT_in 1239 (by decide +kernel) rfl
theorem ywX8_ancestors : Cond.selects mX8_ancestors.1.cls mX8_ancestors.1 mX8_ancestors.1 ∈ zT := zT_in 21 (by decide +kernel) rfl
theorem yiX8_back : Cond.initialized mX8_back.1.cls ∈ zT ∧ plainName mX8_back.1.cls = true ∧ (mX8_back.1.cls ≠ "java/lang/invoke/MethodHandle" ∧ mX8_back.1.cls ≠ "java/lang/invoke/VarHandle") ∧ (parseMethodDescriptor mX8_back.1.desc).map (fun d => d.parameters.length) = some 2 := ⟨zT_in 50 (by decide +kernel) rfl, by decide +kernel, by decide +kernel, by decide +kernel⟩
theorem ycX8_back : zLkC mX8_back := ⟨rfl, zT_in 1236 (by decide +kernel) rfl⟩
theorem yvX8_back : Cond.instanceMethod mX8_back.1 ∈ zT := zT_in 1234 (by decide +kernel) rfl
theorem ywX8_back : Cond.selects mX8_back.1.cls mX8_back.1 mX8_back.1 ∈ zT := zT_in 1235 (by decide +kernel) rfl
theorem yiX8_pass : Cond.initialized mX8_pass.1.cls ∈ zT ∧ plainName mX8_pass.1.cls = true ∧ (mX8_pass.1.cls ≠ "java/lang/invoke/MethodHandle" ∧ mX8_pass.1.cls ≠ "java/lang/invoke/VarHandle") ∧ (parseMethodDescriptor mX8_pass.1.desc).map (fun d => d.parameters.length) = some 1 := ⟨zT_in 50 (by decide +kernel) rfl, by decide +kernel, by decide +kernel, by decide +kernel⟩
theorem ycX8_pass : zLkC mX8_pass := ⟨rfl, zT_in 1244 (by decide +kernel) rfl⟩
theorem yvX8_pass : Cond.instanceMethod mX8_pass.1 ∈ zT := zT_in 1242 (by decide +kernel) rfl
theorem ywX8_pass : Cond.selects mX8_pass.1.cls mX8_pass.1 mX8_pass.1 ∈ zT := zT_in 1243 (by decide +kernel) rfl
theorem yiX8_ledger : Cond.initialized mX8_ledger.1.cls ∈ zT ∧ plainName mX8_ledger.1.cls = true ∧ (mX8_ledger.1.cls ≠ "java/lang/invoke/MethodHandle" ∧ mX8_ledger.1.cls ≠ "java/lang/invoke/VarHandle") ∧ (parseMethodDescriptor mX8_ledger.1.desc).map (fun d => d.parameters.length) = some 1 := ⟨zT_in 50 (by decide +kernel) rfl, by decide +kernel, by decide +kernel, by decide +kernel⟩
theorem ycX8_ledger : zLkC mX8_ledger := ⟨rfl, zT_in 1248 (by decide +kernel) rfl⟩
theorem yvX8_ledger : Cond.instanceMethod mX8_ledger.1 ∈ zT := zT_in 1246 (by decide +kernel) rfl
theorem ywX8_ledger : Cond.selects mX8_ledger.1.cls mX8_ledger.1 mX8_ledger.1 ∈ zT := zT_in 1247 (by decide +kernel) rfl
theorem yiX8_amount : Cond.initialized mX8_amount.1.cls ∈ zT ∧ plainName mX8_amount.1.cls = true ∧ (mX8_amount.1.cls ≠ "java/lang/invoke/MethodHandle" ∧ mX8_amount.1.cls ≠ "java/lang/invoke/VarHandle") ∧ (parseMethodDescriptor mX8_amount.1.desc).map (fun d => d.parameters.length) = some 2 := ⟨zT_in 50 (by decide +kernel) rfl, by decide +kernel, by decide +kernel, by decide +kernel⟩
theorem ycX8_amount : zLkC mX8_amount := ⟨rfl, zT_in 1256 (by decide +kernel) rfl⟩
theorem yvX8_amount : Cond.instanceMethod mX8_amount.1 ∈ zT := zT_in 1254 (by decide +kernel) rfl
theorem ywX8_amount : Cond.selects mX8_amount.1.cls mX8_amount.1 mX8_amount.1 ∈ zT := zT_in 1255 (by decide +kernel) rfl
theorem yiX8_sumOf : Cond.initialized mX8_sumOf.1.cls ∈ zT ∧ plainName mX8_sumOf.1.cls = true ∧ (mX8_sumOf.1.cls ≠ "java/lang/invoke/MethodHandle" ∧ mX8_sumOf.1.cls ≠ "java/lang/invoke/VarHandle") ∧ (parseMethodDescriptor mX8_sumOf.1.desc).map (fun d => d.parameters.length) = some 3 := ⟨zT_in 50 (by decide +kernel) rfl, by decide +kernel, by decide +kernel, by decide +kernel⟩
theorem ycX8_sumOf : zLkC mX8_sumOf := ⟨rfl, zT_in 1267 (by decide +kernel) rfl⟩
theorem yvX8_sumOf : Cond.instanceMethod mX8_sumOf.1 ∈ zT := zT_in 1266 (by decide +kernel) rfl
theorem ywX8_sumOf : Cond.selects mX8_sumOf.1.cls mX8_sumOf.1 mX8_sumOf.1 ∈ zT := zT_in 23 (by decide +kernel) rfl
theorem yiX8_areLines : Cond.initialized mX8_areLines.1.cls ∈ zT ∧ plainName mX8_areLines.1.cls = true ∧ (mX8_areLines.1.cls ≠ "java/lang/invoke/MethodHandle" ∧ mX8_areLines.1.cls ≠ "java/lang/invoke/VarHandle") ∧ (parseMethodDescriptor mX8_areLines.1.desc).map (fun d => d.parameters.length) = some 2 := ⟨zT_in 50 (by decide +kernel) rfl, by decide +kernel, by decide +kernel, by decide +kernel⟩
theorem ycX8_areLines : zLkC mX8_areLines := ⟨rfl, zT_in 1263 (by decide +kernel) rfl⟩
theorem ysX8_areLines : Cond.static mX8_areLines.1 ∈ zT := zT_in 1262 (by decide +kernel) rfl
theorem yiX8_sum : Cond.initialized mX8_sum.1.cls ∈ zT ∧ plainName mX8_sum.1.cls = true ∧ (mX8_sum.1.cls ≠ "java/lang/invoke/MethodHandle" ∧ mX8_sum.1.cls ≠ "java/lang/invoke/VarHandle") ∧ (parseMethodDescriptor mX8_sum.1.desc).map (fun d => d.parameters.length) = some 3 := ⟨zT_in 50 (by decide +kernel) rfl, by decide +kernel, by decide +kernel, by decide +kernel⟩
theorem ycX8_sum : zLkC mX8_sum := ⟨rfl, zT_in 1260 (by decide +kernel) rfl⟩
theorem yvX8_sum : Cond.instanceMethod mX8_sum.1 ∈ zT := zT_in 1258 (by decide +kernel) rfl
theorem ywX8_sum : Cond.selects mX8_sum.1.cls mX8_sum.1 mX8_sum.1 ∈ zT := zT_in 1259 (by decide +kernel) rfl
theorem yiX8_sumAgain : Cond.initialized mX8_sumAgain.1.cls ∈ zT ∧ plainName mX8_sumAgain.1.cls = true ∧ (mX8_sumAgain.1.cls ≠ "java/lang/invoke/MethodHandle" ∧ mX8_sumAgain.1.cls ≠ "java/lang/invoke/VarHandle") ∧ (parseMethodDescriptor mX8_sumAgain.1.desc).map (fun d => d.parameters.length) = some 3 := ⟨zT_in 50 (by decide +kernel) rfl, by decide +kernel, by decide +kernel, by decide +kernel⟩
theorem ycX8_sumAgain : zLkC mX8_sumAgain := ⟨rfl, zT_in 1271 (by decide +kernel) rfl⟩
theorem yvX8_sumAgain : Cond.instanceMethod mX8_sumAgain.1 ∈ zT := zT_in 1269 (by decide +kernel) rfl
theorem ywX8_sumAgain : Cond.selects mX8_sumAgain.1.cls mX8_sumAgain.1 mX8_sumAgain.1 ∈ zT := zT_in 1270 (by decide +kernel) rfl
theorem yiX8_most : Cond.initialized mX8_most.1.cls ∈ zT ∧ plainName mX8_most.1.cls = true ∧ (mX8_most.1.cls ≠ "java/lang/invoke/MethodHandle" ∧ mX8_most.1.cls ≠ "java/lang/invoke/VarHandle") ∧ (parseMethodDescriptor mX8_most.1.desc).map (fun d => d.parameters.length) = some 3 := ⟨zT_in 50 (by decide +kernel) rfl, by decide +kernel, by decide +kernel, by decide +kernel⟩
theorem ycX8_most : zLkC mX8_most := ⟨rfl, zT_in 1276 (by decide +kernel) rfl⟩
theorem yvX8_most : Cond.instanceMethod mX8_most.1 ∈ zT := zT_in 1274 (by decide +kernel) rfl
theorem ywX8_most : Cond.selects mX8_most.1.cls mX8_most.1 mX8_most.1 ∈ zT := zT_in 1275 (by decide +kernel) rfl
theorem yiX8_reached : Cond.initialized mX8_reached.1.cls ∈ zT ∧ plainName mX8_reached.1.cls = true ∧ (mX8_reached.1.cls ≠ "java/lang/invoke/MethodHandle" ∧ mX8_reached.1.cls ≠ "java/lang/invoke/VarHandle") ∧ (parseMethodDescriptor mX8_reached.1.desc).map (fun d => d.parameters.length) = some 2 := ⟨zT_in 50 (by decide +kernel) rfl, by decide +kernel, by decide +kernel, by decide +kernel⟩
theorem ycX8_reached : zLkC mX8_reached := ⟨rfl, zT_in 1280 (by decide +kernel) rfl⟩
theorem yvX8_reached : Cond.instanceMethod mX8_reached.1 ∈ zT := zT_in 1278 (by decide +kernel) rfl
theorem ywX8_reached : Cond.selects mX8_reached.1.cls mX8_reached.1 mX8_reached.1 ∈ zT := zT_in 1279 (by decide +kernel) rfl
theorem yiX8_children : Cond.initialized mX8_children.1.cls ∈ zT ∧ plainName mX8_children.1.cls = true ∧ (mX8_children.1.cls ≠ "java/lang/invoke/MethodHandle" ∧ mX8_children.1.cls ≠ "java/lang/invoke/VarHandle") ∧ (parseMethodDescriptor mX8_children.1.desc).map (fun d => d.parameters.length) = some 1 := ⟨zT_in 50 (by decide +kernel) rfl, by decide +kernel, by decide +kernel, by decide +kernel⟩
theorem ycX8_children : zLkC mX8_children := ⟨rfl, zT_in 1288 (by decide +kernel) rfl⟩
theorem yvX8_children : Cond.instanceMethod mX8_children.1 ∈ zT := zT_in 1287 (by decide +kernel) rfl
theorem ywX8_children : Cond.selects mX8_children.1.cls mX8_children.1 mX8_children.1 ∈ zT := zT_in 24 (by decide +kernel) rfl
theorem yiX8_made : Cond.initialized mX8_made.1.cls ∈ zT ∧ plainName mX8_made.1.cls = true ∧ (mX8_made.1.cls ≠ "java/lang/invoke/MethodHandle" ∧ mX8_made.1.cls ≠ "java/lang/invoke/VarHandle") ∧ (parseMethodDescriptor mX8_made.1.desc).map (fun d => d.parameters.length) = some 1 := ⟨zT_in 50 (by decide +kernel) rfl, by decide +kernel, by decide +kernel, by decide +kernel⟩
theorem ycX8_made : zLkC mX8_made := ⟨rfl, zT_in 1292 (by decide +kernel) rfl⟩
theorem yvX8_made : Cond.instanceMethod mX8_made.1 ∈ zT := zT_in 1291 (by decide +kernel) rfl
theorem ywX8_made : Cond.selects mX8_made.1.cls mX8_made.1 mX8_made.1 ∈ zT := zT_in 25 (by decide +kernel) rfl
theorem yiX8_apart0 : Cond.initialized mX8_apart0.1.cls ∈ zT ∧ plainName mX8_apart0.1.cls = true ∧ (mX8_apart0.1.cls ≠ "java/lang/invoke/MethodHandle" ∧ mX8_apart0.1.cls ≠ "java/lang/invoke/VarHandle") ∧ (parseMethodDescriptor mX8_apart0.1.desc).map (fun d => d.parameters.length) = some 2 := ⟨zT_in 50 (by decide +kernel) rfl, by decide +kernel, by decide +kernel, by decide +kernel⟩
theorem ycX8_apart0 : zLkC mX8_apart0 := ⟨rfl, zT_in 1296 (by decide +kernel) rfl⟩
theorem yvX8_apart0 : Cond.instanceMethod mX8_apart0.1 ∈ zT := zT_in 1295 (by decide +kernel) rfl
theorem ywX8_apart0 : Cond.selects mX8_apart0.1.cls mX8_apart0.1 mX8_apart0.1 ∈ zT := zT_in 26 (by decide +kernel) rfl
theorem yiX8_houses : Cond.initialized mX8_houses.1.cls ∈ zT ∧ plainName mX8_houses.1.cls = true ∧ (mX8_houses.1.cls ≠ "java/lang/invoke/MethodHandle" ∧ mX8_houses.1.cls ≠ "java/lang/invoke/VarHandle") ∧ (parseMethodDescriptor mX8_houses.1.desc).map (fun d => d.parameters.length) = some 1 := ⟨zT_in 50 (by decide +kernel) rfl, by decide +kernel, by decide +kernel, by decide +kernel⟩
theorem ycX8_houses : zLkC mX8_houses := ⟨rfl, zT_in 1300 (by decide +kernel) rfl⟩
theorem yvX8_houses : Cond.instanceMethod mX8_houses.1 ∈ zT := zT_in 1299 (by decide +kernel) rfl
theorem ywX8_houses : Cond.selects mX8_houses.1.cls mX8_houses.1 mX8_houses.1 ∈ zT := zT_in 27 (by decide +kernel) rfl
theorem yiX8_versionOf : Cond.initialized mX8_versionOf.1.cls ∈ zT ∧ plainName mX8_versionOf.1.cls = true ∧ (mX8_versionOf.1.cls ≠ "java/lang/invoke/MethodHandle" ∧ mX8_versionOf.1.cls ≠ "java/lang/invoke/VarHandle") ∧ (parseMethodDescriptor mX8_versionOf.1.desc).map (fun d => d.parameters.length) = some 2 := ⟨zT_in 50 (by decide +kernel) rfl, by decide +kernel, by decide +kernel, by decide +kernel⟩
theorem ycX8_versionOf : zLkC mX8_versionOf := ⟨rfl, zT_in 1284 (by decide +kernel) rfl⟩
theorem yvX8_versionOf : Cond.instanceMethod mX8_versionOf.1 ∈ zT := zT_in 1282 (by decide +kernel) rfl
theorem ywX8_versionOf : Cond.selects mX8_versionOf.1.cls mX8_versionOf.1 mX8_versionOf.1 ∈ zT := zT_in 1283 (by decide +kernel) rfl
theorem yiX8_maker : Cond.initialized mX8_maker.1.cls ∈ zT ∧ plainName mX8_maker.1.cls = true ∧ (mX8_maker.1.cls ≠ "java/lang/invoke/MethodHandle" ∧ mX8_maker.1.cls ≠ "java/lang/invoke/VarHandle") ∧ (parseMethodDescriptor mX8_maker.1.desc).map (fun d => d.parameters.length) = some 2 := ⟨zT_in 50 (by decide +kernel) rfl, by decide +kernel, by decide +kernel, by decide +kernel⟩
theorem ycX8_maker : zLkC mX8_maker := ⟨rfl, zT_in 1304 (by decide +kernel) rfl⟩
theorem yvX8_maker : Cond.instanceMethod mX8_maker.1 ∈ zT := zT_in 1302 (by decide +kernel) rfl
theorem ywX8_maker : Cond.selects mX8_maker.1.cls mX8_maker.1 mX8_maker.1 ∈ zT := zT_in 1303 (by decide +kernel) rfl
theorem yiX8_had : Cond.initialized mX8_had.1.cls ∈ zT ∧ plainName mX8_had.1.cls = true ∧ (mX8_had.1.cls ≠ "java/lang/invoke/MethodHandle" ∧ mX8_had.1.cls ≠ "java/lang/invoke/VarHandle") ∧ (parseMethodDescriptor mX8_had.1.desc).map (fun d => d.parameters.length) = some 2 := ⟨zT_in 50 (by decide +kernel) rfl, by decide +kernel, by decide +kernel, by decide +kernel⟩
theorem ycX8_had : zLkC mX8_had := ⟨rfl, zT_in 1308 (by decide +kernel) rfl⟩
theorem yvX8_had : Cond.instanceMethod mX8_had.1 ∈ zT := zT_in 1306 (by decide +kernel) rfl
theorem ywX8_had : Cond.selects mX8_had.1.cls mX8_had.1 mX8_had.1 ∈ zT := zT_in 1307 (by decide +kernel) rfl
theorem yiX8_since : Cond.initialized mX8_since.1.cls ∈ zT ∧ plainName mX8_since.1.cls = true ∧ (mX8_since.1.cls ≠ "java/lang/invoke/MethodHandle" ∧ mX8_since.1.cls ≠ "java/lang/invoke/VarHandle") ∧ (parseMethodDescriptor mX8_since.1.desc).map (fun d => d.parameters.length) = some 2 := ⟨zT_in 50 (by decide +kernel) rfl, by decide +kernel, by decide +kernel, by decide +kernel⟩
theorem ycX8_since : zLkC mX8_since := ⟨rfl, zT_in 1312 (by decide +kernel) rfl⟩
theorem yvX8_since : Cond.instanceMethod mX8_since.1 ∈ zT := zT_in 1310 (by decide +kernel) rfl
theorem ywX8_since : Cond.selects mX8_since.1.cls mX8_since.1 mX8_since.1 ∈ zT := zT_in 1311 (by decide +kernel) rfl
theorem yiX8_areVersions : Cond.initialized mX8_areVersions.1.cls ∈ zT ∧ plainName mX8_areVersions.1.cls = true ∧ (mX8_areVersions.1.cls ≠ "java/lang/invoke/MethodHandle" ∧ mX8_areVersions.1.cls ≠ "java/lang/invoke/VarHandle") ∧ (parseMethodDescriptor mX8_areVersions.1.desc).map (fun d => d.parameters.length) = some 2 := ⟨zT_in 50 (by decide +kernel) rfl, by decide +kernel, by decide +kernel, by decide +kernel⟩
theorem ycX8_areVersions : zLkC mX8_areVersions := ⟨rfl, zT_in 1320 (by decide +kernel) rfl⟩
theorem yvX8_areVersions : Cond.instanceMethod mX8_areVersions.1 ∈ zT := zT_in 1319 (by decide +kernel) rfl
theorem ywX8_areVersions : Cond.selects mX8_areVersions.1.cls mX8_areVersions.1 mX8_areVersions.1 ∈ zT := zT_in 28 (by decide +kernel) rfl
theorem yiX8_common : Cond.initialized mX8_common.1.cls ∈ zT ∧ plainName mX8_common.1.cls = true ∧ (mX8_common.1.cls ≠ "java/lang/invoke/MethodHandle" ∧ mX8_common.1.cls ≠ "java/lang/invoke/VarHandle") ∧ (parseMethodDescriptor mX8_common.1.desc).map (fun d => d.parameters.length) = some 2 := ⟨zT_in 50 (by decide +kernel) rfl, by decide +kernel, by decide +kernel, by decide +kernel⟩
theorem ycX8_common : zLkC mX8_common := ⟨rfl, zT_in 1316 (by decide +kernel) rfl⟩
theorem yvX8_common : Cond.instanceMethod mX8_common.1 ∈ zT := zT_in 1314 (by decide +kernel) rfl
theorem ywX8_common : Cond.selects mX8_common.1.cls mX8_common.1 mX8_common.1 ∈ zT := zT_in 1315 (by decide +kernel) rfl
theorem yiX8_apart : Cond.initialized mX8_apart.1.cls ∈ zT ∧ plainName mX8_apart.1.cls = true ∧ (mX8_apart.1.cls ≠ "java/lang/invoke/MethodHandle" ∧ mX8_apart.1.cls ≠ "java/lang/invoke/VarHandle") ∧ (parseMethodDescriptor mX8_apart.1.desc).map (fun d => d.parameters.length) = some 2 := ⟨zT_in 50 (by decide +kernel) rfl, by decide +kernel, by decide +kernel, by decide +kernel⟩
theorem ycX8_apart : zLkC mX8_apart := ⟨rfl, zT_in 1324 (by decide +kernel) rfl⟩
theorem yvX8_apart : Cond.instanceMethod mX8_apart.1 ∈ zT := zT_in 1322 (by decide +kernel) rfl
theorem ywX8_apart : Cond.selects mX8_apart.1.cls mX8_apart.1 mX8_apart.1 ∈ zT := zT_in 1323 (by decide +kernel) rfl
theorem yiX8_shared : Cond.initialized mX8_shared.1.cls ∈ zT ∧ plainName mX8_shared.1.cls = true ∧ (mX8_shared.1.cls ≠ "java/lang/invoke/MethodHandle" ∧ mX8_shared.1.cls ≠ "java/lang/invoke/VarHandle") ∧ (parseMethodDescriptor mX8_shared.1.desc).map (fun d => d.parameters.length) = some 2 := ⟨zT_in 50 (by decide +kernel) rfl, by decide +kernel, by decide +kernel, by decide +kernel⟩
theorem ycX8_shared : zLkC mX8_shared := ⟨rfl, zT_in 1328 (by decide +kernel) rfl⟩
theorem yvX8_shared : Cond.instanceMethod mX8_shared.1 ∈ zT := zT_in 1326 (by decide +kernel) rfl
theorem ywX8_shared : Cond.selects mX8_shared.1.cls mX8_shared.1 mX8_shared.1 ∈ zT := zT_in 1327 (by decide +kernel) rfl
theorem yiX8_isOf : Cond.initialized mX8_isOf.1.cls ∈ zT ∧ plainName mX8_isOf.1.cls = true ∧ (mX8_isOf.1.cls ≠ "java/lang/invoke/MethodHandle" ∧ mX8_isOf.1.cls ≠ "java/lang/invoke/VarHandle") ∧ (parseMethodDescriptor mX8_isOf.1.desc).map (fun d => d.parameters.length) = some 2 := ⟨zT_in 50 (by decide +kernel) rfl, by decide +kernel, by decide +kernel, by decide +kernel⟩
theorem ycX8_isOf : zLkC mX8_isOf := ⟨rfl, zT_in 1332 (by decide +kernel) rfl⟩
theorem yvX8_isOf : Cond.instanceMethod mX8_isOf.1 ∈ zT := zT_in 1330 (by decide +kernel) rfl
theorem ywX8_isOf : Cond.selects mX8_isOf.1.cls mX8_isOf.1 mX8_isOf.1 ∈ zT := zT_in 1331 (by decide +kernel) rfl
theorem yiX8_usersOf : Cond.initialized mX8_usersOf.1.cls ∈ zT ∧ plainName mX8_usersOf.1.cls = true ∧ (mX8_usersOf.1.cls ≠ "java/lang/invoke/MethodHandle" ∧ mX8_usersOf.1.cls ≠ "java/lang/invoke/VarHandle") ∧ (parseMethodDescriptor mX8_usersOf.1.desc).map (fun d => d.parameters.length) = some 2 := ⟨zT_in 50 (by decide +kernel) rfl, by decide +kernel, by decide +kernel, by decide +kernel⟩
theorem ycX8_usersOf : zLkC mX8_usersOf := ⟨rfl, zT_in 1340 (by decide +kernel) rfl⟩
theorem yvX8_usersOf : Cond.instanceMethod mX8_usersOf.1 ∈ zT := zT_in 1339 (by decide +kernel) rfl
theorem ywX8_usersOf : Cond.selects mX8_usersOf.1.cls mX8_usersOf.1 mX8_usersOf.1 ∈ zT := zT_in 29 (by decide +kernel) rfl
theorem yiX8_users : Cond.initialized mX8_users.1.cls ∈ zT ∧ plainName mX8_users.1.cls = true ∧ (mX8_users.1.cls ≠ "java/lang/invoke/MethodHandle" ∧ mX8_users.1.cls ≠ "java/lang/invoke/VarHandle") ∧ (parseMethodDescriptor mX8_users.1.desc).map (fun d => d.parameters.length) = some 2 := ⟨zT_in 50 (by decide +kernel) rfl, by decide +kernel, by decide +kernel, by decide +kernel⟩
theorem ycX8_users : zLkC mX8_users := ⟨rfl, zT_in 1336 (by decide +kernel) rfl⟩
theorem yvX8_users : Cond.instanceMethod mX8_users.1 ∈ zT := zT_in 1334 (by decide +kernel) rfl
theorem ywX8_users : Cond.selects mX8_users.1.cls mX8_users.1 mX8_users.1 ∈ zT := zT_in 1335 (by decide +kernel) rfl
theorem yiX8_wouldMake : Cond.initialized mX8_wouldMake.1.cls ∈ zT ∧ plainName mX8_wouldMake.1.cls = true ∧ (mX8_wouldMake.1.cls ≠ "java/lang/invoke/MethodHandle" ∧ mX8_wouldMake.1.cls ≠ "java/lang/invoke/VarHandle") ∧ (parseMethodDescriptor mX8_wouldMake.1.desc).map (fun d => d.parameters.length) = some 2 := ⟨zT_in 50 (by decide +kernel) rfl, by decide +kernel, by decide +kernel, by decide +kernel⟩
theorem ycX8_wouldMake : zLkC mX8_wouldMake := ⟨rfl, zT_in 1344 (by decide +kernel) rfl⟩
theorem yvX8_wouldMake : Cond.instanceMethod mX8_wouldMake.1 ∈ zT := zT_in 1342 (by decide +kernel) rfl
theorem ywX8_wouldMake : Cond.selects mX8_wouldMake.1.cls mX8_wouldMake.1 mX8_wouldMake.1 ∈ zT := zT_in 1343 (by decide +kernel) rfl
theorem yiX8_alike : Cond.initialized mX8_alike.1.cls ∈ zT ∧ plainName mX8_alike.1.cls = true ∧ (mX8_alike.1.cls ≠ "java/lang/invoke/MethodHandle" ∧ mX8_alike.1.cls ≠ "java/lang/invoke/VarHandle") ∧ (parseMethodDescriptor mX8_alike.1.desc).map (fun d => d.parameters.length) = some 1 := ⟨zT_in 50 (by decide +kernel) rfl, by decide +kernel, by decide +kernel, by decide +kernel⟩
theorem ycX8_alike : zLkC mX8_alike := ⟨rfl, zT_in 1348 (by decide +kernel) rfl⟩
theorem yvX8_alike : Cond.instanceMethod mX8_alike.1 ∈ zT := zT_in 1346 (by decide +kernel) rfl
theorem ywX8_alike : Cond.selects mX8_alike.1.cls mX8_alike.1 mX8_alike.1 ∈ zT := zT_in 1347 (by decide +kernel) rfl
theorem yiX8_richest : Cond.initialized mX8_richest.1.cls ∈ zT ∧ plainName mX8_richest.1.cls = true ∧ (mX8_richest.1.cls ≠ "java/lang/invoke/MethodHandle" ∧ mX8_richest.1.cls ≠ "java/lang/invoke/VarHandle") ∧ (parseMethodDescriptor mX8_richest.1.desc).map (fun d => d.parameters.length) = some 1 := ⟨zT_in 50 (by decide +kernel) rfl, by decide +kernel, by decide +kernel, by decide +kernel⟩
theorem ycX8_richest : zLkC mX8_richest := ⟨rfl, zT_in 1352 (by decide +kernel) rfl⟩
theorem yvX8_richest : Cond.instanceMethod mX8_richest.1 ∈ zT := zT_in 1350 (by decide +kernel) rfl
theorem ywX8_richest : Cond.selects mX8_richest.1.cls mX8_richest.1 mX8_richest.1 ∈ zT := zT_in 1351 (by decide +kernel) rfl
theorem yiX8_lent : Cond.initialized mX8_lent.1.cls ∈ zT ∧ plainName mX8_lent.1.cls = true ∧ (mX8_lent.1.cls ≠ "java/lang/invoke/MethodHandle" ∧ mX8_lent.1.cls ≠ "java/lang/invoke/VarHandle") ∧ (parseMethodDescriptor mX8_lent.1.desc).map (fun d => d.parameters.length) = some 1 := ⟨zT_in 50 (by decide +kernel) rfl, by decide +kernel, by decide +kernel, by decide +kernel⟩
theorem ycX8_lent : zLkC mX8_lent := ⟨rfl, zT_in 1360 (by decide +kernel) rfl⟩
theorem yvX8_lent : Cond.instanceMethod mX8_lent.1 ∈ zT := zT_in 1359 (by decide +kernel) rfl
theorem ywX8_lent : Cond.selects mX8_lent.1.cls mX8_lent.1 mX8_lent.1 ∈ zT := zT_in 30 (by decide +kernel) rfl
theorem yiX8_busiest : Cond.initialized mX8_busiest.1.cls ∈ zT ∧ plainName mX8_busiest.1.cls = true ∧ (mX8_busiest.1.cls ≠ "java/lang/invoke/MethodHandle" ∧ mX8_busiest.1.cls ≠ "java/lang/invoke/VarHandle") ∧ (parseMethodDescriptor mX8_busiest.1.desc).map (fun d => d.parameters.length) = some 0 := ⟨zT_in 50 (by decide +kernel) rfl, by decide +kernel, by decide +kernel, by decide +kernel⟩
theorem ycX8_busiest : zLkC mX8_busiest := ⟨rfl, zT_in 1356 (by decide +kernel) rfl⟩
theorem yvX8_busiest : Cond.instanceMethod mX8_busiest.1 ∈ zT := zT_in 1354 (by decide +kernel) rfl
theorem ywX8_busiest : Cond.selects mX8_busiest.1.cls mX8_busiest.1 mX8_busiest.1 ∈ zT := zT_in 1355 (by decide +kernel) rfl
theorem yiX8_append : Cond.initialized mX8_append.1.cls ∈ zT ∧ plainName mX8_append.1.cls = true ∧ (mX8_append.1.cls ≠ "java/lang/invoke/MethodHandle" ∧ mX8_append.1.cls ≠ "java/lang/invoke/VarHandle") ∧ (parseMethodDescriptor mX8_append.1.desc).map (fun d => d.parameters.length) = some 1 := ⟨zT_in 50 (by decide +kernel) rfl, by decide +kernel, by decide +kernel, by decide +kernel⟩
theorem ycX8_append : zLkC mX8_append := ⟨rfl, zT_in 1364 (by decide +kernel) rfl⟩
theorem yvX8_append : Cond.instanceMethod mX8_append.1 ∈ zT := zT_in 1362 (by decide +kernel) rfl
theorem ywX8_append : Cond.selects mX8_append.1.cls mX8_append.1 mX8_append.1 ∈ zT := zT_in 1363 (by decide +kernel) rfl
theorem yiX8_here : Cond.initialized mX8_here.1.cls ∈ zT ∧ plainName mX8_here.1.cls = true ∧ (mX8_here.1.cls ≠ "java/lang/invoke/MethodHandle" ∧ mX8_here.1.cls ≠ "java/lang/invoke/VarHandle") ∧ (parseMethodDescriptor mX8_here.1.desc).map (fun d => d.parameters.length) = some 0 := ⟨zT_in 50 (by decide +kernel) rfl, by decide +kernel, by decide +kernel, by decide +kernel⟩
theorem ycX8_here : zLkC mX8_here := ⟨rfl, zT_in 1380 (by decide +kernel) rfl⟩
theorem yvX8_here : Cond.instanceMethod mX8_here.1 ∈ zT := zT_in 1379 (by decide +kernel) rfl
theorem ywX8_here : Cond.selects mX8_here.1.cls mX8_here.1 mX8_here.1 ∈ zT := zT_in 33 (by decide +kernel) rfl
theorem yiX8_skips : Cond.initialized mX8_skips.1.cls ∈ zT ∧ plainName mX8_skips.1.cls = true ∧ (mX8_skips.1.cls ≠ "java/lang/invoke/MethodHandle" ∧ mX8_skips.1.cls ≠ "java/lang/invoke/VarHandle") ∧ (parseMethodDescriptor mX8_skips.1.desc).map (fun d => d.parameters.length) = some 1 := ⟨zT_in 50 (by decide +kernel) rfl, by decide +kernel, by decide +kernel, by decide +kernel⟩
theorem ycX8_skips : zLkC mX8_skips := ⟨rfl, zT_in 1384 (by decide +kernel) rfl⟩
theorem yvX8_skips : Cond.instanceMethod mX8_skips.1 ∈ zT := zT_in 1383 (by decide +kernel) rfl
theorem ywX8_skips : Cond.selects mX8_skips.1.cls mX8_skips.1 mX8_skips.1 ∈ zT := zT_in 34 (by decide +kernel) rfl
theorem yiX8_figures : Cond.initialized mX8_figures.1.cls ∈ zT ∧ plainName mX8_figures.1.cls = true ∧ (mX8_figures.1.cls ≠ "java/lang/invoke/MethodHandle" ∧ mX8_figures.1.cls ≠ "java/lang/invoke/VarHandle") ∧ (parseMethodDescriptor mX8_figures.1.desc).map (fun d => d.parameters.length) = some 2 := ⟨zT_in 50 (by decide +kernel) rfl, by decide +kernel, by decide +kernel, by decide +kernel⟩
theorem ycX8_figures : zLkC mX8_figures := ⟨rfl, zT_in 1388 (by decide +kernel) rfl⟩
theorem yvX8_figures : Cond.instanceMethod mX8_figures.1 ∈ zT := zT_in 1387 (by decide +kernel) rfl
theorem ywX8_figures : Cond.selects mX8_figures.1.cls mX8_figures.1 mX8_figures.1 ∈ zT := zT_in 35 (by decide +kernel) rfl
theorem yiX8_commandHere : Cond.initialized mX8_commandHere.1.cls ∈ zT ∧ plainName mX8_commandHere.1.cls = true ∧ (mX8_commandHere.1.cls ≠ "java/lang/invoke/MethodHandle" ∧ mX8_commandHere.1.cls ≠ "java/lang/invoke/VarHandle") ∧ (parseMethodDescriptor mX8_commandHere.1.desc).map (fun d => d.parameters.length) = some 0 := ⟨zT_in 50 (by decide +kernel) rfl, by decide +kernel, by decide +kernel, by decide +kernel⟩
theorem ycX8_commandHere : zLkC mX8_commandHere := ⟨rfl, zT_in 1376 (by decide +kernel) rfl⟩
theorem yvX8_commandHere : Cond.instanceMethod mX8_commandHere.1 ∈ zT := zT_in 1375 (by decide +kernel) rfl
theorem ywX8_commandHere : Cond.selects mX8_commandHere.1.cls mX8_commandHere.1 mX8_commandHere.1 ∈ zT := zT_in 32 (by decide +kernel) rfl
theorem yiX8_isText : Cond.initialized mX8_isText.1.cls ∈ zT ∧ plainName mX8_isText.1.cls = true ∧ (mX8_isText.1.cls ≠ "java/lang/invoke/MethodHandle" ∧ mX8_isText.1.cls ≠ "java/lang/invoke/VarHandle") ∧ (parseMethodDescriptor mX8_isText.1.desc).map (fun d => d.parameters.length) = some 0 := ⟨zT_in 50 (by decide +kernel) rfl, by decide +kernel, by decide +kernel, by decide +kernel⟩
theorem ycX8_isText : zLkC mX8_isText := ⟨rfl, zT_in 1372 (by decide +kernel) rfl⟩
theorem yvX8_isText : Cond.instanceMethod mX8_isText.1 ∈ zT := zT_in 1371 (by decide +kernel) rfl
theorem ywX8_isText : Cond.selects mX8_isText.1.cls mX8_isText.1 mX8_isText.1 ∈ zT := zT_in 31 (by decide +kernel) rfl
theorem yiX8_carries : Cond.initialized mX8_carries.1.cls ∈ zT ∧ plainName mX8_carries.1.cls = true ∧ (mX8_carries.1.cls ≠ "java/lang/invoke/MethodHandle" ∧ mX8_carries.1.cls ≠ "java/lang/invoke/VarHandle") ∧ (parseMethodDescriptor mX8_carries.1.desc).map (fun d => d.parameters.length) = some 1 := ⟨zT_in 50 (by decide +kernel) rfl, by decide +kernel, by decide +kernel, by decide +kernel⟩
theorem ycX8_carries : zLkC mX8_carries := ⟨rfl, zT_in 1392 (by decide +kernel) rfl⟩
theorem yvX8_carries : Cond.instanceMethod mX8_carries.1 ∈ zT := zT_in 1391 (by decide +kernel) rfl
theorem ywX8_carries : Cond.selects mX8_carries.1.cls mX8_carries.1 mX8_carries.1 ∈ zT := zT_in 36 (by decide +kernel) rfl
theorem yiX8_commands : Cond.initialized mX8_commands.1.cls ∈ zT ∧ plainName mX8_commands.1.cls = true ∧ (mX8_commands.1.cls ≠ "java/lang/invoke/MethodHandle" ∧ mX8_commands.1.cls ≠ "java/lang/invoke/VarHandle") ∧ (parseMethodDescriptor mX8_commands.1.desc).map (fun d => d.parameters.length) = some 0 := ⟨zT_in 50 (by decide +kernel) rfl, by decide +kernel, by decide +kernel, by decide +kernel⟩
theorem ycX8_commands : zLkC mX8_commands := ⟨rfl, zT_in 1368 (by decide +kernel) rfl⟩
theorem yvX8_commands : Cond.instanceMethod mX8_commands.1 ∈ zT := zT_in 1366 (by decide +kernel) rfl
theorem ywX8_commands : Cond.selects mX8_commands.1.cls mX8_commands.1 mX8_commands.1 ∈ zT := zT_in 1367 (by decide +kernel) rfl
theorem yiX8_faultPosition : Cond.initialized mX8_faultPosition.1.cls ∈ zT ∧ plainName mX8_faultPosition.1.cls = true ∧ (mX8_faultPosition.1.cls ≠ "java/lang/invoke/MethodHandle" ∧ mX8_faultPosition.1.cls ≠ "java/lang/invoke/VarHandle") ∧ (parseMethodDescriptor mX8_faultPosition.1.desc).map (fun d => d.parameters.length) = some 0 := ⟨zT_in 50 (by decide +kernel) rfl, by decide +kernel, by decide +kernel, by decide +kernel⟩
theorem ycX8_faultPosition : zLkC mX8_faultPosition := ⟨rfl, zT_in 1401 (by decide +kernel) rfl⟩
theorem yvX8_faultPosition : Cond.instanceMethod mX8_faultPosition.1 ∈ zT := zT_in 1399 (by decide +kernel) rfl
theorem ywX8_faultPosition : Cond.selects mX8_faultPosition.1.cls mX8_faultPosition.1 mX8_faultPosition.1 ∈ zT := zT_in 1400 (by decide +kernel) rfl
theorem yiX8_reason : Cond.initialized mX8_reason.1.cls ∈ zT ∧ plainName mX8_reason.1.cls = true ∧ (mX8_reason.1.cls ≠ "java/lang/invoke/MethodHandle" ∧ mX8_reason.1.cls ≠ "java/lang/invoke/VarHandle") ∧ (parseMethodDescriptor mX8_reason.1.desc).map (fun d => d.parameters.length) = some 1 := ⟨zT_in 50 (by decide +kernel) rfl, by decide +kernel, by decide +kernel, by decide +kernel⟩
theorem ycX8_reason : zLkC mX8_reason := ⟨rfl, zT_in 1405 (by decide +kernel) rfl⟩
theorem yvX8_reason : Cond.instanceMethod mX8_reason.1 ∈ zT := zT_in 1403 (by decide +kernel) rfl
theorem ywX8_reason : Cond.selects mX8_reason.1.cls mX8_reason.1 mX8_reason.1 ∈ zT := zT_in 1404 (by decide +kernel) rfl
theorem yiX8_writes : Cond.initialized mX8_writes.1.cls ∈ zT ∧ plainName mX8_writes.1.cls = true ∧ (mX8_writes.1.cls ≠ "java/lang/invoke/MethodHandle" ∧ mX8_writes.1.cls ≠ "java/lang/invoke/VarHandle") ∧ (parseMethodDescriptor mX8_writes.1.desc).map (fun d => d.parameters.length) = some 1 := ⟨zT_in 50 (by decide +kernel) rfl, by decide +kernel, by decide +kernel, by decide +kernel⟩
theorem ycX8_writes : zLkC mX8_writes := ⟨rfl, zT_in 1413 (by decide +kernel) rfl⟩
theorem yvX8_writes : Cond.instanceMethod mX8_writes.1 ∈ zT := zT_in 1412 (by decide +kernel) rfl
theorem ywX8_writes : Cond.selects mX8_writes.1.cls mX8_writes.1 mX8_writes.1 ∈ zT := zT_in 37 (by decide +kernel) rfl
theorem yiX8_writesNumber : Cond.initialized mX8_writesNumber.1.cls ∈ zT ∧ plainName mX8_writesNumber.1.cls = true ∧ (mX8_writesNumber.1.cls ≠ "java/lang/invoke/MethodHandle" ∧ mX8_writesNumber.1.cls ≠ "java/lang/invoke/VarHandle") ∧ (parseMethodDescriptor mX8_writesNumber.1.desc).map (fun d => d.parameters.length) = some 1 := ⟨zT_in 50 (by decide +kernel) rfl, by decide +kernel, by decide +kernel, by decide +kernel⟩
theorem ycX8_writesNumber : zLkC mX8_writesNumber := ⟨rfl, zT_in 1417 (by decide +kernel) rfl⟩
theorem yvX8_writesNumber : Cond.instanceMethod mX8_writesNumber.1 ∈ zT := zT_in 1416 (by decide +kernel) rfl
theorem ywX8_writesNumber : Cond.selects mX8_writesNumber.1.cls mX8_writesNumber.1 mX8_writesNumber.1 ∈ zT := zT_in 38 (by decide +kernel) rfl
theorem yiX8_line : Cond.initialized mX8_line.1.cls ∈ zT ∧ plainName mX8_line.1.cls = true ∧ (mX8_line.1.cls ≠ "java/lang/invoke/MethodHandle" ∧ mX8_line.1.cls ≠ "java/lang/invoke/VarHandle") ∧ (parseMethodDescriptor mX8_line.1.desc).map (fun d => d.parameters.length) = some 1 := ⟨zT_in 50 (by decide +kernel) rfl, by decide +kernel, by decide +kernel, by decide +kernel⟩
theorem ycX8_line : zLkC mX8_line := ⟨rfl, zT_in 1409 (by decide +kernel) rfl⟩
theorem yvX8_line : Cond.instanceMethod mX8_line.1 ∈ zT := zT_in 1407 (by decide +kernel) rfl
theorem ywX8_line : Cond.selects mX8_line.1.cls mX8_line.1 mX8_line.1 ∈ zT := zT_in 1408 (by decide +kernel) rfl
theorem yiX8_lineage : Cond.initialized mX8_lineage.1.cls ∈ zT ∧ plainName mX8_lineage.1.cls = true ∧ (mX8_lineage.1.cls ≠ "java/lang/invoke/MethodHandle" ∧ mX8_lineage.1.cls ≠ "java/lang/invoke/VarHandle") ∧ (parseMethodDescriptor mX8_lineage.1.desc).map (fun d => d.parameters.length) = some 1 := ⟨zT_in 50 (by decide +kernel) rfl, by decide +kernel, by decide +kernel, by decide +kernel⟩
theorem ycX8_lineage : zLkC mX8_lineage := ⟨rfl, zT_in 1421 (by decide +kernel) rfl⟩
theorem yvX8_lineage : Cond.instanceMethod mX8_lineage.1 ∈ zT := zT_in 1419 (by decide +kernel) rfl
theorem ywX8_lineage : Cond.selects mX8_lineage.1.cls mX8_lineage.1 mX8_lineage.1 ∈ zT := zT_in 1420 (by decide +kernel) rfl
theorem yiX8_character : Cond.initialized mX8_character.1.cls ∈ zT ∧ plainName mX8_character.1.cls = true ∧ (mX8_character.1.cls ≠ "java/lang/invoke/MethodHandle" ∧ mX8_character.1.cls ≠ "java/lang/invoke/VarHandle") ∧ (parseMethodDescriptor mX8_character.1.desc).map (fun d => d.parameters.length) = some 1 := ⟨zT_in 50 (by decide +kernel) rfl, by decide +kernel, by decide +kernel, by decide +kernel⟩
theorem ycX8_character : zLkC mX8_character := ⟨rfl, zT_in 1425 (by decide +kernel) rfl⟩
theorem yvX8_character : Cond.instanceMethod mX8_character.1 ∈ zT := zT_in 1423 (by decide +kernel) rfl
theorem ywX8_character : Cond.selects mX8_character.1.cls mX8_character.1 mX8_character.1 ∈ zT := zT_in 1424 (by decide +kernel) rfl
theorem yiX8_mean : Cond.initialized mX8_mean.1.cls ∈ zT ∧ plainName mX8_mean.1.cls = true ∧ (mX8_mean.1.cls ≠ "java/lang/invoke/MethodHandle" ∧ mX8_mean.1.cls ≠ "java/lang/invoke/VarHandle") ∧ (parseMethodDescriptor mX8_mean.1.desc).map (fun d => d.parameters.length) = some 1 := ⟨zT_in 50 (by decide +kernel) rfl, by decide +kernel, by decide +kernel, by decide +kernel⟩
theorem ycX8_mean : zLkC mX8_mean := ⟨rfl, zT_in 1429 (by decide +kernel) rfl⟩
theorem yvX8_mean : Cond.instanceMethod mX8_mean.1 ∈ zT := zT_in 1427 (by decide +kernel) rfl
theorem ywX8_mean : Cond.selects mX8_mean.1.cls mX8_mean.1 mX8_mean.1 ∈ zT := zT_in 1428 (by decide +kernel) rfl
theorem yiX8_allMade : Cond.initialized mX8_allMade.1.cls ∈ zT ∧ plainName mX8_allMade.1.cls = true ∧ (mX8_allMade.1.cls ≠ "java/lang/invoke/MethodHandle" ∧ mX8_allMade.1.cls ≠ "java/lang/invoke/VarHandle") ∧ (parseMethodDescriptor mX8_allMade.1.desc).map (fun d => d.parameters.length) = some 0 := ⟨zT_in 50 (by decide +kernel) rfl, by decide +kernel, by decide +kernel, by decide +kernel⟩
theorem ycX8_allMade : zLkC mX8_allMade := ⟨rfl, zT_in 1438 (by decide +kernel) rfl⟩
theorem yvX8_allMade : Cond.instanceMethod mX8_allMade.1 ∈ zT := zT_in 1437 (by decide +kernel) rfl
theorem ywX8_allMade : Cond.selects mX8_allMade.1.cls mX8_allMade.1 mX8_allMade.1 ∈ zT := zT_in 39 (by decide +kernel) rfl
theorem yiX8_spared : Cond.initialized mX8_spared.1.cls ∈ zT ∧ plainName mX8_spared.1.cls = true ∧ (mX8_spared.1.cls ≠ "java/lang/invoke/MethodHandle" ∧ mX8_spared.1.cls ≠ "java/lang/invoke/VarHandle") ∧ (parseMethodDescriptor mX8_spared.1.desc).map (fun d => d.parameters.length) = some 0 := ⟨zT_in 50 (by decide +kernel) rfl, by decide +kernel, by decide +kernel, by decide +kernel⟩
theorem ycX8_spared : zLkC mX8_spared := ⟨rfl, zT_in 1434 (by decide +kernel) rfl⟩
theorem yvX8_spared : Cond.instanceMethod mX8_spared.1 ∈ zT := zT_in 1432 (by decide +kernel) rfl
theorem ywX8_spared : Cond.selects mX8_spared.1.cls mX8_spared.1 mX8_spared.1 ∈ zT := zT_in 1433 (by decide +kernel) rfl
theorem yiX8_versionsThat : Cond.initialized mX8_versionsThat.1.cls ∈ zT ∧ plainName mX8_versionsThat.1.cls = true ∧ (mX8_versionsThat.1.cls ≠ "java/lang/invoke/MethodHandle" ∧ mX8_versionsThat.1.cls ≠ "java/lang/invoke/VarHandle") ∧ (parseMethodDescriptor mX8_versionsThat.1.desc).map (fun d => d.parameters.length) = some 1 := ⟨zT_in 50 (by decide +kernel) rfl, by decide +kernel, by decide +kernel, by decide +kernel⟩
theorem ycX8_versionsThat : zLkC mX8_versionsThat := ⟨rfl, zT_in 1446 (by decide +kernel) rfl⟩
theorem yvX8_versionsThat : Cond.instanceMethod mX8_versionsThat.1 ∈ zT := zT_in 1445 (by decide +kernel) rfl
theorem ywX8_versionsThat : Cond.selects mX8_versionsThat.1.cls mX8_versionsThat.1 mX8_versionsThat.1 ∈ zT := zT_in 40 (by decide +kernel) rfl
theorem yiX8_account : Cond.initialized mX8_account.1.cls ∈ zT ∧ plainName mX8_account.1.cls = true ∧ (mX8_account.1.cls ≠ "java/lang/invoke/MethodHandle" ∧ mX8_account.1.cls ≠ "java/lang/invoke/VarHandle") ∧ (parseMethodDescriptor mX8_account.1.desc).map (fun d => d.parameters.length) = some 1 := ⟨zT_in 50 (by decide +kernel) rfl, by decide +kernel, by decide +kernel, by decide +kernel⟩
theorem ycX8_account : zLkC mX8_account := ⟨rfl, zT_in 1442 (by decide +kernel) rfl⟩
theorem yvX8_account : Cond.instanceMethod mX8_account.1 ∈ zT := zT_in 1440 (by decide +kernel) rfl
theorem ywX8_account : Cond.selects mX8_account.1.cls mX8_account.1 mX8_account.1 ∈ zT := zT_in 1441 (by decide +kernel) rfl
theorem yiX8_undo : Cond.initialized mX8_undo.1.cls ∈ zT ∧ plainName mX8_undo.1.cls = true ∧ (mX8_undo.1.cls ≠ "java/lang/invoke/MethodHandle" ∧ mX8_undo.1.cls ≠ "java/lang/invoke/VarHandle") ∧ (parseMethodDescriptor mX8_undo.1.desc).map (fun d => d.parameters.length) = some 0 := ⟨zT_in 50 (by decide +kernel) rfl, by decide +kernel, by decide +kernel, by decide +kernel⟩
theorem ycX8_undo : zLkC mX8_undo := ⟨rfl, zT_in 1450 (by decide +kernel) rfl⟩
theorem yvX8_undo : Cond.instanceMethod mX8_undo.1 ∈ zT := zT_in 1448 (by decide +kernel) rfl
theorem ywX8_undo : Cond.selects mX8_undo.1.cls mX8_undo.1 mX8_undo.1 ∈ zT := zT_in 1449 (by decide +kernel) rfl
theorem yiX8_save : Cond.initialized mX8_save.1.cls ∈ zT ∧ plainName mX8_save.1.cls = true ∧ (mX8_save.1.cls ≠ "java/lang/invoke/MethodHandle" ∧ mX8_save.1.cls ≠ "java/lang/invoke/VarHandle") ∧ (parseMethodDescriptor mX8_save.1.desc).map (fun d => d.parameters.length) = some 0 := ⟨zT_in 50 (by decide +kernel) rfl, by decide +kernel, by decide +kernel, by decide +kernel⟩
theorem ycX8_save : zLkC mX8_save := ⟨rfl, zT_in 1454 (by decide +kernel) rfl⟩
theorem yvX8_save : Cond.instanceMethod mX8_save.1 ∈ zT := zT_in 1452 (by decide +kernel) rfl
theorem ywX8_save : Cond.selects mX8_save.1.cls mX8_save.1 mX8_save.1 ∈ zT := zT_in 1453 (by decide +kernel) rfl
theorem yiX8_restore : Cond.initialized mX8_restore.1.cls ∈ zT ∧ plainName mX8_restore.1.cls = true ∧ (mX8_restore.1.cls ≠ "java/lang/invoke/MethodHandle" ∧ mX8_restore.1.cls ≠ "java/lang/invoke/VarHandle") ∧ (parseMethodDescriptor mX8_restore.1.desc).map (fun d => d.parameters.length) = some 0 := ⟨zT_in 50 (by decide +kernel) rfl, by decide +kernel, by decide +kernel, by decide +kernel⟩
theorem ycX8_restore : zLkC mX8_restore := ⟨rfl, zT_in 1458 (by decide +kernel) rfl⟩
theorem yvX8_restore : Cond.instanceMethod mX8_restore.1 ∈ zT := zT_in 1456 (by decide +kernel) rfl
theorem ywX8_restore : Cond.selects mX8_restore.1.cls mX8_restore.1 mX8_restore.1 ∈ zT := zT_in 1457 (by decide +kernel) rfl
theorem yiJ0_length_8abf5 : Cond.initialized mJ0_length_8abf5.1.cls ∈ zT ∧ plainName mJ0_length_8abf5.1.cls = true ∧ (mJ0_length_8abf5.1.cls ≠ "java/lang/invoke/MethodHandle" ∧ mJ0_length_8abf5.1.cls ≠ "java/lang/invoke/VarHandle") ∧ (parseMethodDescriptor mJ0_length_8abf5.1.desc).map (fun d => d.parameters.length) = some 0 := ⟨zT_in 60 (by decide +kernel) rfl, by decide +kernel, by decide +kernel, by decide +kernel⟩
theorem ycJ0_length_8abf5 : zLkC mJ0_length_8abf5 := ⟨rfl, zT_in 900 (by decide +kernel) rfl⟩
theorem yvJ0_length_8abf5 : Cond.instanceMethod mJ0_length_8abf5.1 ∈ zT := zT_in 898 (by decide +kernel) rfl
theorem ywJ0_length_8abf5 : Cond.selects mJ0_length_8abf5.1.cls mJ0_length_8abf5.1 mJ0_length_8abf5.1 ∈ zT := zT_in 899 (by decide +kernel) rfl
theorem yiJ0_isEmpty_aae02 : Cond.initialized mJ0_isEmpty_aae02.1.cls ∈ zT ∧ plainName mJ0_isEmpty_aae02.1.cls = true ∧ (mJ0_isEmpty_aae02.1.cls ≠ "java/lang/invoke/MethodHandle" ∧ mJ0_isEmpty_aae02.1.cls ≠ "java/lang/invoke/VarHandle") ∧ (parseMethodDescriptor mJ0_isEmpty_aae02.1.desc).map (fun d => d.parameters.length) = some 0 := ⟨zT_in 60 (by decide +kernel) rfl, by decide +kernel, by decide +kernel, by decide +kernel⟩
theorem ycJ0_isEmpty_aae02 : zLkC mJ0_isEmpty_aae02 := ⟨rfl, zT_in 896 (by decide +kernel) rfl⟩
theorem yvJ0_isEmpty_aae02 : Cond.instanceMethod mJ0_isEmpty_aae02.1 ∈ zT := zT_in 894 (by decide +kernel) rfl
theorem ywJ0_isEmpty_aae02 : Cond.selects mJ0_isEmpty_aae02.1.cls mJ0_isEmpty_aae02.1 mJ0_isEmpty_aae02.1 ∈ zT := zT_in 895 (by decide +kernel) rfl
theorem yiJ0_charAt_5068e : Cond.initialized mJ0_charAt_5068e.1.cls ∈ zT ∧ plainName mJ0_charAt_5068e.1.cls = true ∧ (mJ0_charAt_5068e.1.cls ≠ "java/lang/invoke/MethodHandle" ∧ mJ0_charAt_5068e.1.cls ≠ "java/lang/invoke/VarHandle") ∧ (parseMethodDescriptor mJ0_charAt_5068e.1.desc).map (fun d => d.parameters.length) = some 1 := ⟨zT_in 60 (by decide +kernel) rfl, by decide +kernel, by decide +kernel, by decide +kernel⟩
theorem ycJ0_charAt_5068e : zLkC mJ0_charAt_5068e := ⟨rfl, zT_in 910 (by decide +kernel) rfl⟩
theorem yvJ0_charAt_5068e : Cond.instanceMethod mJ0_charAt_5068e.1 ∈ zT := zT_in 908 (by decide +kernel) rfl
theorem ywJ0_charAt_5068e : Cond.selects mJ0_charAt_5068e.1.cls mJ0_charAt_5068e.1 mJ0_charAt_5068e.1 ∈ zT := zT_in 909 (by decide +kernel) rfl
theorem yiJ0_coder_7d493 : Cond.initialized mJ0_coder_7d493.1.cls ∈ zT ∧ plainName mJ0_coder_7d493.1.cls = true ∧ (mJ0_coder_7d493.1.cls ≠ "java/lang/invoke/MethodHandle" ∧ mJ0_coder_7d493.1.cls ≠ "java/lang/invoke/VarHandle") ∧ (parseMethodDescriptor mJ0_coder_7d493.1.desc).map (fun d => d.parameters.length) = some 0 := ⟨zT_in 60 (by decide +kernel) rfl, by decide +kernel, by decide +kernel, by decide +kernel⟩
theorem ycJ0_coder_7d493 : zLkC mJ0_coder_7d493 := ⟨rfl, zT_in 904 (by decide +kernel) rfl⟩
theorem yvJ0_coder_7d493 : Cond.instanceMethod mJ0_coder_7d493.1 ∈ zT := zT_in 902 (by decide +kernel) rfl
theorem ywJ0_coder_7d493 : Cond.selects mJ0_coder_7d493.1.cls mJ0_coder_7d493.1 mJ0_coder_7d493.1 ∈ zT := zT_in 903 (by decide +kernel) rfl
theorem yiJ0_isLatin1_aae02 : Cond.initialized mJ0_isLatin1_aae02.1.cls ∈ zT ∧ plainName mJ0_isLatin1_aae02.1.cls = true ∧ (mJ0_isLatin1_aae02.1.cls ≠ "java/lang/invoke/MethodHandle" ∧ mJ0_isLatin1_aae02.1.cls ≠ "java/lang/invoke/VarHandle") ∧ (parseMethodDescriptor mJ0_isLatin1_aae02.1.desc).map (fun d => d.parameters.length) = some 0 := ⟨zT_in 60 (by decide +kernel) rfl, by decide +kernel, by decide +kernel, by decide +kernel⟩
theorem ycJ0_isLatin1_aae02 : zLkC mJ0_isLatin1_aae02 := ⟨rfl, zT_in 914 (by decide +kernel) rfl⟩
theorem yvJ0_isLatin1_aae02 : Cond.instanceMethod mJ0_isLatin1_aae02.1 ∈ zT := zT_in 912 (by decide +kernel) rfl
theorem ywJ0_isLatin1_aae02 : Cond.selects mJ0_isLatin1_aae02.1.cls mJ0_isLatin1_aae02.1 mJ0_isLatin1_aae02.1 ∈ zT := zT_in 913 (by decide +kernel) rfl
theorem yiJ0_checkIndex_df160 : Cond.initialized mJ0_checkIndex_df160.1.cls ∈ zT ∧ plainName mJ0_checkIndex_df160.1.cls = true ∧ (mJ0_checkIndex_df160.1.cls ≠ "java/lang/invoke/MethodHandle" ∧ mJ0_checkIndex_df160.1.cls ≠ "java/lang/invoke/VarHandle") ∧ (parseMethodDescriptor mJ0_checkIndex_df160.1.desc).map (fun d => d.parameters.length) = some 2 := ⟨zT_in 60 (by decide +kernel) rfl, by decide +kernel, by decide +kernel, by decide +kernel⟩
theorem ycJ0_checkIndex_df160 : zLkC mJ0_checkIndex_df160 := ⟨rfl, zT_in 920 (by decide +kernel) rfl⟩
theorem ysJ0_checkIndex_df160 : Cond.static mJ0_checkIndex_df160.1 ∈ zT := zT_in 919 (by decide +kernel) rfl
theorem yiJ1_charAt_3b067 : Cond.initialized mJ1_charAt_3b067.1.cls ∈ zT ∧ plainName mJ1_charAt_3b067.1.cls = true ∧ (mJ1_charAt_3b067.1.cls ≠ "java/lang/invoke/MethodHandle" ∧ mJ1_charAt_3b067.1.cls ≠ "java/lang/invoke/VarHandle") ∧ (parseMethodDescriptor mJ1_charAt_3b067.1.desc).map (fun d => d.parameters.length) = some 2 := ⟨zT_in 61 (by decide +kernel) rfl, by decide +kernel, by decide +kernel, by decide +kernel⟩
theorem ycJ1_charAt_3b067 : zLkC mJ1_charAt_3b067 := ⟨rfl, zT_in 917 (by decide +kernel) rfl⟩
theorem ysJ1_charAt_3b067 : Cond.static mJ1_charAt_3b067.1 ∈ zT := zT_in 916 (by decide +kernel) rfl
theorem yiJ3_checkIndex_8e157 : Cond.initialized mJ3_checkIndex_8e157.1.cls ∈ zT ∧ plainName mJ3_checkIndex_8e157.1.cls = true ∧ (mJ3_checkIndex_8e157.1.cls ≠ "java/lang/invoke/MethodHandle" ∧ mJ3_checkIndex_8e157.1.cls ≠ "java/lang/invoke/VarHandle") ∧ (parseMethodDescriptor mJ3_checkIndex_8e157.1.desc).map (fun d => d.parameters.length) = some 3 := ⟨zT_in 62 (by decide +kernel) rfl, by decide +kernel, by decide +kernel, by decide +kernel⟩
theorem ycJ3_checkIndex_8e157 : zLkC mJ3_checkIndex_8e157 := ⟨rfl, zT_in 925 (by decide +kernel) rfl⟩
theorem ysJ3_checkIndex_8e157 : Cond.static mJ3_checkIndex_8e157.1 ∈ zT := zT_in 924 (by decide +kernel) rfl
theorem yiL_write : Cond.initialized mL_write.1.cls ∈ zT ∧ plainName mL_write.1.cls = true ∧ (mL_write.1.cls ≠ "java/lang/invoke/MethodHandle" ∧ mL_write.1.cls ≠ "java/lang/invoke/VarHandle") ∧ (parseMethodDescriptor mL_write.1.desc).map (fun d => d.parameters.length) = some 5 := ⟨zT_in 41 (by decide +kernel) rfl, by decide +kernel, by decide +kernel, by decide +kernel⟩
theorem ycL_write : Cond.codeWith mL_write.1 mL_write.2.1 mL_write.2.2.1 mL_write.2.2.2.1 mL_write.2.2.2.2.1 ∈ zT := zT_in 293 (by decide +kernel) rfl
theorem ysL_write : Cond.static mL_write.1 ∈ zT := zT_in 292 (by decide +kernel) rfl
theorem yiL_graft : Cond.initialized mL_graft.1.cls ∈ zT ∧ plainName mL_graft.1.cls = true ∧ (mL_graft.1.cls ≠ "java/lang/invoke/MethodHandle" ∧ mL_graft.1.cls ≠ "java/lang/invoke/VarHandle") ∧ (parseMethodDescriptor mL_graft.1.desc).map (fun d => d.parameters.length) = some 6 := ⟨zT_in 41 (by decide +kernel) rfl, by decide +kernel, by decide +kernel, by decide +kernel⟩
theorem ycL_graft : Cond.codeWith mL_graft.1 mL_graft.2.1 mL_graft.2.2.1 mL_graft.2.2.2.1 mL_graft.2.2.2.2.1 ∈ zT := zT_in 462 (by decide +kernel) rfl
theorem ysL_graft : Cond.static mL_graft.1 ∈ zT := zT_in 461 (by decide +kernel) rfl
theorem yiL_fork : Cond.initialized mL_fork.1.cls ∈ zT ∧ plainName mL_fork.1.cls = true ∧ (mL_fork.1.cls ≠ "java/lang/invoke/MethodHandle" ∧ mL_fork.1.cls ≠ "java/lang/invoke/VarHandle") ∧ (parseMethodDescriptor mL_fork.1.desc).map (fun d => d.parameters.length) = some 4 := ⟨zT_in 41 (by decide +kernel) rfl, by decide +kernel, by decide +kernel, by decide +kernel⟩
theorem ycL_fork : Cond.codeWith mL_fork.1 mL_fork.2.1 mL_fork.2.2.1 mL_fork.2.2.2.1 mL_fork.2.2.2.2.1 ∈ zT := zT_in 491 (by decide +kernel) rfl
theorem ysL_fork : Cond.static mL_fork.1 ∈ zT := zT_in 490 (by decide +kernel) rfl
theorem yiL_back : Cond.initialized mL_back.1.cls ∈ zT ∧ plainName mL_back.1.cls = true ∧ (mL_back.1.cls ≠ "java/lang/invoke/MethodHandle" ∧ mL_back.1.cls ≠ "java/lang/invoke/VarHandle") ∧ (parseMethodDescriptor mL_back.1.desc).map (fun d => d.parameters.length) = some 4 := ⟨zT_in 41 (by decide +kernel) rfl, by decide +kernel, by decide +kernel, by decide +kernel⟩
theorem ycL_back : Cond.codeWith mL_back.1 mL_back.2.1 mL_back.2.2.1 mL_back.2.2.2.1 mL_back.2.2.2.2.1 ∈ zT := zT_in 502 (by decide +kernel) rfl
theorem ysL_back : Cond.static mL_back.1 ∈ zT := zT_in 501 (by decide +kernel) rfl
theorem yiL_pass : Cond.initialized mL_pass.1.cls ∈ zT ∧ plainName mL_pass.1.cls = true ∧ (mL_pass.1.cls ≠ "java/lang/invoke/MethodHandle" ∧ mL_pass.1.cls ≠ "java/lang/invoke/VarHandle") ∧ (parseMethodDescriptor mL_pass.1.desc).map (fun d => d.parameters.length) = some 3 := ⟨zT_in 41 (by decide +kernel) rfl, by decide +kernel, by decide +kernel, by decide +kernel⟩
theorem ycL_pass : Cond.codeWith mL_pass.1 mL_pass.2.1 mL_pass.2.2.1 mL_pass.2.2.2.1 mL_pass.2.2.2.2.1 ∈ zT := zT_in 525 (by decide +kernel) rfl
theorem ysL_pass : Cond.static mL_pass.1 ∈ zT := zT_in 524 (by decide +kernel) rfl
theorem yiL_ledger : Cond.initialized mL_ledger.1.cls ∈ zT ∧ plainName mL_ledger.1.cls = true ∧ (mL_ledger.1.cls ≠ "java/lang/invoke/MethodHandle" ∧ mL_ledger.1.cls ≠ "java/lang/invoke/VarHandle") ∧ (parseMethodDescriptor mL_ledger.1.desc).map (fun d => d.parameters.length) = some 3 := ⟨zT_in 41 (by decide +kernel) rfl, by decide +kernel, by decide +kernel, by decide +kernel⟩
theorem ycL_ledger : Cond.codeWith mL_ledger.1 mL_ledger.2.1 mL_ledger.2.2.1 mL_ledger.2.2.2.1 mL_ledger.2.2.2.2.1 ∈ zT := zT_in 536 (by decide +kernel) rfl
theorem ysL_ledger : Cond.static mL_ledger.1 ∈ zT := zT_in 535 (by decide +kernel) rfl
theorem yiL_amount : Cond.initialized mL_amount.1.cls ∈ zT ∧ plainName mL_amount.1.cls = true ∧ (mL_amount.1.cls ≠ "java/lang/invoke/MethodHandle" ∧ mL_amount.1.cls ≠ "java/lang/invoke/VarHandle") ∧ (parseMethodDescriptor mL_amount.1.desc).map (fun d => d.parameters.length) = some 4 := ⟨zT_in 41 (by decide +kernel) rfl, by decide +kernel, by decide +kernel, by decide +kernel⟩
theorem ycL_amount : Cond.codeWith mL_amount.1 mL_amount.2.1 mL_amount.2.2.1 mL_amount.2.2.2.1 mL_amount.2.2.2.2.1 ∈ zT := zT_in 565 (by decide +kernel) rfl
theorem ysL_amount : Cond.static mL_amount.1 ∈ zT := zT_in 564 (by decide +kernel) rfl
theorem yiL_sum : Cond.initialized mL_sum.1.cls ∈ zT ∧ plainName mL_sum.1.cls = true ∧ (mL_sum.1.cls ≠ "java/lang/invoke/MethodHandle" ∧ mL_sum.1.cls ≠ "java/lang/invoke/VarHandle") ∧ (parseMethodDescriptor mL_sum.1.desc).map (fun d => d.parameters.length) = some 5 := ⟨zT_in 41 (by decide +kernel) rfl, by decide +kernel, by decide +kernel, by decide +kernel⟩
theorem ycL_sum : Cond.codeWith mL_sum.1 mL_sum.2.1 mL_sum.2.2.1 mL_sum.2.2.2.1 mL_sum.2.2.2.2.1 ∈ zT := zT_in 600 (by decide +kernel) rfl
theorem ysL_sum : Cond.static mL_sum.1 ∈ zT := zT_in 599 (by decide +kernel) rfl
theorem yiL_sumAgain : Cond.initialized mL_sumAgain.1.cls ∈ zT ∧ plainName mL_sumAgain.1.cls = true ∧ (mL_sumAgain.1.cls ≠ "java/lang/invoke/MethodHandle" ∧ mL_sumAgain.1.cls ≠ "java/lang/invoke/VarHandle") ∧ (parseMethodDescriptor mL_sumAgain.1.desc).map (fun d => d.parameters.length) = some 5 := ⟨zT_in 41 (by decide +kernel) rfl, by decide +kernel, by decide +kernel, by decide +kernel⟩
theorem ycL_sumAgain : Cond.codeWith mL_sumAgain.1 mL_sumAgain.2.1 mL_sumAgain.2.2.1 mL_sumAgain.2.2.2.1 mL_sumAgain.2.2.2.2.1 ∈ zT := zT_in 611 (by decide +kernel) rfl
theorem ysL_sumAgain : Cond.static mL_sumAgain.1 ∈ zT := zT_in 610 (by decide +kernel) rfl
theorem yiL_most : Cond.initialized mL_most.1.cls ∈ zT ∧ plainName mL_most.1.cls = true ∧ (mL_most.1.cls ≠ "java/lang/invoke/MethodHandle" ∧ mL_most.1.cls ≠ "java/lang/invoke/VarHandle") ∧ (parseMethodDescriptor mL_most.1.desc).map (fun d => d.parameters.length) = some 5 := ⟨zT_in 41 (by decide +kernel) rfl, by decide +kernel, by decide +kernel, by decide +kernel⟩
theorem ycL_most : Cond.codeWith mL_most.1 mL_most.2.1 mL_most.2.2.1 mL_most.2.2.2.1 mL_most.2.2.2.2.1 ∈ zT := zT_in 622 (by decide +kernel) rfl
theorem ysL_most : Cond.static mL_most.1 ∈ zT := zT_in 621 (by decide +kernel) rfl
theorem yiL_reached : Cond.initialized mL_reached.1.cls ∈ zT ∧ plainName mL_reached.1.cls = true ∧ (mL_reached.1.cls ≠ "java/lang/invoke/MethodHandle" ∧ mL_reached.1.cls ≠ "java/lang/invoke/VarHandle") ∧ (parseMethodDescriptor mL_reached.1.desc).map (fun d => d.parameters.length) = some 4 := ⟨zT_in 41 (by decide +kernel) rfl, by decide +kernel, by decide +kernel, by decide +kernel⟩
theorem ycL_reached : Cond.codeWith mL_reached.1 mL_reached.2.1 mL_reached.2.2.1 mL_reached.2.2.2.1 mL_reached.2.2.2.2.1 ∈ zT := zT_in 633 (by decide +kernel) rfl
theorem ysL_reached : Cond.static mL_reached.1 ∈ zT := zT_in 632 (by decide +kernel) rfl
theorem yiL_versionOf : Cond.initialized mL_versionOf.1.cls ∈ zT ∧ plainName mL_versionOf.1.cls = true ∧ (mL_versionOf.1.cls ≠ "java/lang/invoke/MethodHandle" ∧ mL_versionOf.1.cls ≠ "java/lang/invoke/VarHandle") ∧ (parseMethodDescriptor mL_versionOf.1.desc).map (fun d => d.parameters.length) = some 4 := ⟨zT_in 41 (by decide +kernel) rfl, by decide +kernel, by decide +kernel, by decide +kernel⟩
theorem ycL_versionOf : Cond.codeWith mL_versionOf.1 mL_versionOf.2.1 mL_versionOf.2.2.1 mL_versionOf.2.2.2.1 mL_versionOf.2.2.2.2.1 ∈ zT := zT_in 661 (by decide +kernel) rfl
theorem ysL_versionOf : Cond.static mL_versionOf.1 ∈ zT := zT_in 660 (by decide +kernel) rfl
theorem yiL_maker : Cond.initialized mL_maker.1.cls ∈ zT ∧ plainName mL_maker.1.cls = true ∧ (mL_maker.1.cls ≠ "java/lang/invoke/MethodHandle" ∧ mL_maker.1.cls ≠ "java/lang/invoke/VarHandle") ∧ (parseMethodDescriptor mL_maker.1.desc).map (fun d => d.parameters.length) = some 4 := ⟨zT_in 41 (by decide +kernel) rfl, by decide +kernel, by decide +kernel, by decide +kernel⟩
theorem ycL_maker : Cond.codeWith mL_maker.1 mL_maker.2.1 mL_maker.2.2.1 mL_maker.2.2.2.1 mL_maker.2.2.2.2.1 ∈ zT := zT_in 690 (by decide +kernel) rfl
theorem ysL_maker : Cond.static mL_maker.1 ∈ zT := zT_in 689 (by decide +kernel) rfl
theorem yiL_had : Cond.initialized mL_had.1.cls ∈ zT ∧ plainName mL_had.1.cls = true ∧ (mL_had.1.cls ≠ "java/lang/invoke/MethodHandle" ∧ mL_had.1.cls ≠ "java/lang/invoke/VarHandle") ∧ (parseMethodDescriptor mL_had.1.desc).map (fun d => d.parameters.length) = some 4 := ⟨zT_in 41 (by decide +kernel) rfl, by decide +kernel, by decide +kernel, by decide +kernel⟩
theorem ycL_had : Cond.codeWith mL_had.1 mL_had.2.1 mL_had.2.2.1 mL_had.2.2.2.1 mL_had.2.2.2.2.1 ∈ zT := zT_in 702 (by decide +kernel) rfl
theorem ysL_had : Cond.static mL_had.1 ∈ zT := zT_in 701 (by decide +kernel) rfl
theorem yiL_since : Cond.initialized mL_since.1.cls ∈ zT ∧ plainName mL_since.1.cls = true ∧ (mL_since.1.cls ≠ "java/lang/invoke/MethodHandle" ∧ mL_since.1.cls ≠ "java/lang/invoke/VarHandle") ∧ (parseMethodDescriptor mL_since.1.desc).map (fun d => d.parameters.length) = some 4 := ⟨zT_in 41 (by decide +kernel) rfl, by decide +kernel, by decide +kernel, by decide +kernel⟩
theorem ycL_since : Cond.codeWith mL_since.1 mL_since.2.1 mL_since.2.2.1 mL_since.2.2.2.1 mL_since.2.2.2.2.1 ∈ zT := zT_in 715 (by decide +kernel) rfl
theorem ysL_since : Cond.static mL_since.1 ∈ zT := zT_in 714 (by decide +kernel) rfl
theorem yiL_common : Cond.initialized mL_common.1.cls ∈ zT ∧ plainName mL_common.1.cls = true ∧ (mL_common.1.cls ≠ "java/lang/invoke/MethodHandle" ∧ mL_common.1.cls ≠ "java/lang/invoke/VarHandle") ∧ (parseMethodDescriptor mL_common.1.desc).map (fun d => d.parameters.length) = some 4 := ⟨zT_in 41 (by decide +kernel) rfl, by decide +kernel, by decide +kernel, by decide +kernel⟩
theorem ycL_common : Cond.codeWith mL_common.1 mL_common.2.1 mL_common.2.2.1 mL_common.2.2.2.1 mL_common.2.2.2.2.1 ∈ zT := zT_in 726 (by decide +kernel) rfl
theorem ysL_common : Cond.static mL_common.1 ∈ zT := zT_in 725 (by decide +kernel) rfl
theorem yiL_apart : Cond.initialized mL_apart.1.cls ∈ zT ∧ plainName mL_apart.1.cls = true ∧ (mL_apart.1.cls ≠ "java/lang/invoke/MethodHandle" ∧ mL_apart.1.cls ≠ "java/lang/invoke/VarHandle") ∧ (parseMethodDescriptor mL_apart.1.desc).map (fun d => d.parameters.length) = some 4 := ⟨zT_in 41 (by decide +kernel) rfl, by decide +kernel, by decide +kernel, by decide +kernel⟩
theorem ycL_apart : Cond.codeWith mL_apart.1 mL_apart.2.1 mL_apart.2.2.1 mL_apart.2.2.2.1 mL_apart.2.2.2.2.1 ∈ zT := zT_in 737 (by decide +kernel) rfl
theorem ysL_apart : Cond.static mL_apart.1 ∈ zT := zT_in 736 (by decide +kernel) rfl
theorem yiL_shared : Cond.initialized mL_shared.1.cls ∈ zT ∧ plainName mL_shared.1.cls = true ∧ (mL_shared.1.cls ≠ "java/lang/invoke/MethodHandle" ∧ mL_shared.1.cls ≠ "java/lang/invoke/VarHandle") ∧ (parseMethodDescriptor mL_shared.1.desc).map (fun d => d.parameters.length) = some 4 := ⟨zT_in 41 (by decide +kernel) rfl, by decide +kernel, by decide +kernel, by decide +kernel⟩
theorem ycL_shared : Cond.codeWith mL_shared.1 mL_shared.2.1 mL_shared.2.2.1 mL_shared.2.2.2.1 mL_shared.2.2.2.2.1 ∈ zT := zT_in 745 (by decide +kernel) rfl
theorem ysL_shared : Cond.static mL_shared.1 ∈ zT := zT_in 744 (by decide +kernel) rfl
theorem yiL_isOf : Cond.initialized mL_isOf.1.cls ∈ zT ∧ plainName mL_isOf.1.cls = true ∧ (mL_isOf.1.cls ≠ "java/lang/invoke/MethodHandle" ∧ mL_isOf.1.cls ≠ "java/lang/invoke/VarHandle") ∧ (parseMethodDescriptor mL_isOf.1.desc).map (fun d => d.parameters.length) = some 4 := ⟨zT_in 41 (by decide +kernel) rfl, by decide +kernel, by decide +kernel, by decide +kernel⟩
theorem ycL_isOf : Cond.codeWith mL_isOf.1 mL_isOf.2.1 mL_isOf.2.2.1 mL_isOf.2.2.2.1 mL_isOf.2.2.2.2.1 ∈ zT := zT_in 756 (by decide +kernel) rfl
theorem ysL_isOf : Cond.static mL_isOf.1 ∈ zT := zT_in 755 (by decide +kernel) rfl
theorem yiL_users : Cond.initialized mL_users.1.cls ∈ zT ∧ plainName mL_users.1.cls = true ∧ (mL_users.1.cls ≠ "java/lang/invoke/MethodHandle" ∧ mL_users.1.cls ≠ "java/lang/invoke/VarHandle") ∧ (parseMethodDescriptor mL_users.1.desc).map (fun d => d.parameters.length) = some 4 := ⟨zT_in 41 (by decide +kernel) rfl, by decide +kernel, by decide +kernel, by decide +kernel⟩
theorem ycL_users : Cond.codeWith mL_users.1 mL_users.2.1 mL_users.2.2.1 mL_users.2.2.2.1 mL_users.2.2.2.2.1 ∈ zT := zT_in 763 (by decide +kernel) rfl
theorem ysL_users : Cond.static mL_users.1 ∈ zT := zT_in 762 (by decide +kernel) rfl
theorem yiL_wouldMake : Cond.initialized mL_wouldMake.1.cls ∈ zT ∧ plainName mL_wouldMake.1.cls = true ∧ (mL_wouldMake.1.cls ≠ "java/lang/invoke/MethodHandle" ∧ mL_wouldMake.1.cls ≠ "java/lang/invoke/VarHandle") ∧ (parseMethodDescriptor mL_wouldMake.1.desc).map (fun d => d.parameters.length) = some 4 := ⟨zT_in 41 (by decide +kernel) rfl, by decide +kernel, by decide +kernel, by decide +kernel⟩
theorem ycL_wouldMake : Cond.codeWith mL_wouldMake.1 mL_wouldMake.2.1 mL_wouldMake.2.2.1 mL_wouldMake.2.2.2.1 mL_wouldMake.2.2.2.2.1 ∈ zT := zT_in 774 (by decide +kernel) rfl
theorem ysL_wouldMake : Cond.static mL_wouldMake.1 ∈ zT := zT_in 773 (by decide +kernel) rfl
theorem yiL_alike : Cond.initialized mL_alike.1.cls ∈ zT ∧ plainName mL_alike.1.cls = true ∧ (mL_alike.1.cls ≠ "java/lang/invoke/MethodHandle" ∧ mL_alike.1.cls ≠ "java/lang/invoke/VarHandle") ∧ (parseMethodDescriptor mL_alike.1.desc).map (fun d => d.parameters.length) = some 3 := ⟨zT_in 41 (by decide +kernel) rfl, by decide +kernel, by decide +kernel, by decide +kernel⟩
theorem ycL_alike : Cond.codeWith mL_alike.1 mL_alike.2.1 mL_alike.2.2.1 mL_alike.2.2.2.1 mL_alike.2.2.2.2.1 ∈ zT := zT_in 782 (by decide +kernel) rfl
theorem ysL_alike : Cond.static mL_alike.1 ∈ zT := zT_in 781 (by decide +kernel) rfl
theorem yiL_richest : Cond.initialized mL_richest.1.cls ∈ zT ∧ plainName mL_richest.1.cls = true ∧ (mL_richest.1.cls ≠ "java/lang/invoke/MethodHandle" ∧ mL_richest.1.cls ≠ "java/lang/invoke/VarHandle") ∧ (parseMethodDescriptor mL_richest.1.desc).map (fun d => d.parameters.length) = some 3 := ⟨zT_in 41 (by decide +kernel) rfl, by decide +kernel, by decide +kernel, by decide +kernel⟩
theorem ycL_richest : Cond.codeWith mL_richest.1 mL_richest.2.1 mL_richest.2.2.1 mL_richest.2.2.2.1 mL_richest.2.2.2.2.1 ∈ zT := zT_in 793 (by decide +kernel) rfl
theorem ysL_richest : Cond.static mL_richest.1 ∈ zT := zT_in 792 (by decide +kernel) rfl
theorem yiL_busiest : Cond.initialized mL_busiest.1.cls ∈ zT ∧ plainName mL_busiest.1.cls = true ∧ (mL_busiest.1.cls ≠ "java/lang/invoke/MethodHandle" ∧ mL_busiest.1.cls ≠ "java/lang/invoke/VarHandle") ∧ (parseMethodDescriptor mL_busiest.1.desc).map (fun d => d.parameters.length) = some 2 := ⟨zT_in 41 (by decide +kernel) rfl, by decide +kernel, by decide +kernel, by decide +kernel⟩
theorem ycL_busiest : Cond.codeWith mL_busiest.1 mL_busiest.2.1 mL_busiest.2.2.1 mL_busiest.2.2.2.1 mL_busiest.2.2.2.2.1 ∈ zT := zT_in 809 (by decide +kernel) rfl
theorem ysL_busiest : Cond.static mL_busiest.1 ∈ zT := zT_in 808 (by decide +kernel) rfl
theorem yiL_append : Cond.initialized mL_append.1.cls ∈ zT ∧ plainName mL_append.1.cls = true ∧ (mL_append.1.cls ≠ "java/lang/invoke/MethodHandle" ∧ mL_append.1.cls ≠ "java/lang/invoke/VarHandle") ∧ (parseMethodDescriptor mL_append.1.desc).map (fun d => d.parameters.length) = some 3 := ⟨zT_in 41 (by decide +kernel) rfl, by decide +kernel, by decide +kernel, by decide +kernel⟩
theorem ycL_append : Cond.codeWith mL_append.1 mL_append.2.1 mL_append.2.2.1 mL_append.2.2.2.1 mL_append.2.2.2.2.1 ∈ zT := zT_in 826 (by decide +kernel) rfl
theorem ysL_append : Cond.static mL_append.1 ∈ zT := zT_in 825 (by decide +kernel) rfl
theorem yiL_commands : Cond.initialized mL_commands.1.cls ∈ zT ∧ plainName mL_commands.1.cls = true ∧ (mL_commands.1.cls ≠ "java/lang/invoke/MethodHandle" ∧ mL_commands.1.cls ≠ "java/lang/invoke/VarHandle") ∧ (parseMethodDescriptor mL_commands.1.desc).map (fun d => d.parameters.length) = some 2 := ⟨zT_in 41 (by decide +kernel) rfl, by decide +kernel, by decide +kernel, by decide +kernel⟩
theorem ycL_commands : Cond.codeWith mL_commands.1 mL_commands.2.1 mL_commands.2.2.1 mL_commands.2.2.2.1 mL_commands.2.2.2.2.1 ∈ zT := zT_in 863 (by decide +kernel) rfl
theorem ysL_commands : Cond.static mL_commands.1 ∈ zT := zT_in 862 (by decide +kernel) rfl
theorem yiL_reason : Cond.initialized mL_reason.1.cls ∈ zT ∧ plainName mL_reason.1.cls = true ∧ (mL_reason.1.cls ≠ "java/lang/invoke/MethodHandle" ∧ mL_reason.1.cls ≠ "java/lang/invoke/VarHandle") ∧ (parseMethodDescriptor mL_reason.1.desc).map (fun d => d.parameters.length) = some 3 := ⟨zT_in 41 (by decide +kernel) rfl, by decide +kernel, by decide +kernel, by decide +kernel⟩
theorem ycL_reason : Cond.codeWith mL_reason.1 mL_reason.2.1 mL_reason.2.2.1 mL_reason.2.2.2.1 mL_reason.2.2.2.2.1 ∈ zT := zT_in 983 (by decide +kernel) rfl
theorem ysL_reason : Cond.static mL_reason.1 ∈ zT := zT_in 982 (by decide +kernel) rfl
theorem yiL_line : Cond.initialized mL_line.1.cls ∈ zT ∧ plainName mL_line.1.cls = true ∧ (mL_line.1.cls ≠ "java/lang/invoke/MethodHandle" ∧ mL_line.1.cls ≠ "java/lang/invoke/VarHandle") ∧ (parseMethodDescriptor mL_line.1.desc).map (fun d => d.parameters.length) = some 3 := ⟨zT_in 41 (by decide +kernel) rfl, by decide +kernel, by decide +kernel, by decide +kernel⟩
theorem ycL_line : Cond.codeWith mL_line.1 mL_line.2.1 mL_line.2.2.1 mL_line.2.2.2.1 mL_line.2.2.2.2.1 ∈ zT := zT_in 992 (by decide +kernel) rfl
theorem ysL_line : Cond.static mL_line.1 ∈ zT := zT_in 991 (by decide +kernel) rfl
theorem yiL_lineage : Cond.initialized mL_lineage.1.cls ∈ zT ∧ plainName mL_lineage.1.cls = true ∧ (mL_lineage.1.cls ≠ "java/lang/invoke/MethodHandle" ∧ mL_lineage.1.cls ≠ "java/lang/invoke/VarHandle") ∧ (parseMethodDescriptor mL_lineage.1.desc).map (fun d => d.parameters.length) = some 3 := ⟨zT_in 41 (by decide +kernel) rfl, by decide +kernel, by decide +kernel, by decide +kernel⟩
theorem ycL_lineage : Cond.codeWith mL_lineage.1 mL_lineage.2.1 mL_lineage.2.2.1 mL_lineage.2.2.2.1 mL_lineage.2.2.2.2.1 ∈ zT := zT_in 1020 (by decide +kernel) rfl
theorem ysL_lineage : Cond.static mL_lineage.1 ∈ zT := zT_in 1019 (by decide +kernel) rfl
theorem yiL_character : Cond.initialized mL_character.1.cls ∈ zT ∧ plainName mL_character.1.cls = true ∧ (mL_character.1.cls ≠ "java/lang/invoke/MethodHandle" ∧ mL_character.1.cls ≠ "java/lang/invoke/VarHandle") ∧ (parseMethodDescriptor mL_character.1.desc).map (fun d => d.parameters.length) = some 3 := ⟨zT_in 41 (by decide +kernel) rfl, by decide +kernel, by decide +kernel, by decide +kernel⟩
theorem ycL_character : Cond.codeWith mL_character.1 mL_character.2.1 mL_character.2.2.1 mL_character.2.2.2.1 mL_character.2.2.2.2.1 ∈ zT := zT_in 1027 (by decide +kernel) rfl
theorem ysL_character : Cond.static mL_character.1 ∈ zT := zT_in 1026 (by decide +kernel) rfl
theorem yiL_mean : Cond.initialized mL_mean.1.cls ∈ zT ∧ plainName mL_mean.1.cls = true ∧ (mL_mean.1.cls ≠ "java/lang/invoke/MethodHandle" ∧ mL_mean.1.cls ≠ "java/lang/invoke/VarHandle") ∧ (parseMethodDescriptor mL_mean.1.desc).map (fun d => d.parameters.length) = some 3 := ⟨zT_in 41 (by decide +kernel) rfl, by decide +kernel, by decide +kernel, by decide +kernel⟩
theorem ycL_mean : Cond.codeWith mL_mean.1 mL_mean.2.1 mL_mean.2.2.1 mL_mean.2.2.2.1 mL_mean.2.2.2.2.1 ∈ zT := zT_in 1039 (by decide +kernel) rfl
theorem ysL_mean : Cond.static mL_mean.1 ∈ zT := zT_in 1038 (by decide +kernel) rfl
theorem yiL_account : Cond.initialized mL_account.1.cls ∈ zT ∧ plainName mL_account.1.cls = true ∧ (mL_account.1.cls ≠ "java/lang/invoke/MethodHandle" ∧ mL_account.1.cls ≠ "java/lang/invoke/VarHandle") ∧ (parseMethodDescriptor mL_account.1.desc).map (fun d => d.parameters.length) = some 3 := ⟨zT_in 41 (by decide +kernel) rfl, by decide +kernel, by decide +kernel, by decide +kernel⟩
theorem ycL_account : Cond.codeWith mL_account.1 mL_account.2.1 mL_account.2.2.1 mL_account.2.2.2.1 mL_account.2.2.2.2.1 ∈ zT := zT_in 1048 (by decide +kernel) rfl
theorem ysL_account : Cond.static mL_account.1 ∈ zT := zT_in 1047 (by decide +kernel) rfl
theorem yiL_undo : Cond.initialized mL_undo.1.cls ∈ zT ∧ plainName mL_undo.1.cls = true ∧ (mL_undo.1.cls ≠ "java/lang/invoke/MethodHandle" ∧ mL_undo.1.cls ≠ "java/lang/invoke/VarHandle") ∧ (parseMethodDescriptor mL_undo.1.desc).map (fun d => d.parameters.length) = some 2 := ⟨zT_in 41 (by decide +kernel) rfl, by decide +kernel, by decide +kernel, by decide +kernel⟩
theorem ycL_undo : Cond.codeWith mL_undo.1 mL_undo.2.1 mL_undo.2.2.1 mL_undo.2.2.2.1 mL_undo.2.2.2.2.1 ∈ zT := zT_in 1070 (by decide +kernel) rfl
theorem ysL_undo : Cond.static mL_undo.1 ∈ zT := zT_in 1069 (by decide +kernel) rfl
theorem yiL_restore : Cond.initialized mL_restore.1.cls ∈ zT ∧ plainName mL_restore.1.cls = true ∧ (mL_restore.1.cls ≠ "java/lang/invoke/MethodHandle" ∧ mL_restore.1.cls ≠ "java/lang/invoke/VarHandle") ∧ (parseMethodDescriptor mL_restore.1.desc).map (fun d => d.parameters.length) = some 2 := ⟨zT_in 41 (by decide +kernel) rfl, by decide +kernel, by decide +kernel, by decide +kernel⟩
theorem ycL_restore : Cond.codeWith mL_restore.1 mL_restore.2.1 mL_restore.2.2.1 mL_restore.2.2.2.1 mL_restore.2.2.2.2.1 ∈ zT := zT_in 1082 (by decide +kernel) rfl
theorem ysL_restore : Cond.static mL_restore.1 ∈ zT := zT_in 1081 (by decide +kernel) rfl
theorem zlX0_3 {M : zM} (h : M.1.cls = RX0) : Cond.methodLink M.1.cls 3 Lib.objectInit ∈ zT := by rw [h]; exact zT_in 83 (by decide +kernel) rfl
theorem lkX0_init_11 : zLkI mX0_init 11 mX6_init 0 := ⟨⟨yiX6_init.1, yiX6_init.2.1, yiX6_init.2.2.1, yiX6_init.2.2.2, by decide, by decide⟩, ycX6_init, zT_in 86 (by decide +kernel) rfl, yvX6_init, rfl, rfl⟩
theorem lkX0_copyFrom_32 : zLkV mX0_copyFrom 32 mX6_copyFrom 1 := ⟨⟨yiX6_copyFrom.1, yiX6_copyFrom.2.1, yiX6_copyFrom.2.2.1, yiX6_copyFrom.2.2.2, by decide, by decide⟩, ycX6_copyFrom, zT_in 283 (by decide +kernel) rfl, yvX6_copyFrom, ywX6_copyFrom⟩
theorem zlX0_36 {M : zM} (h : M.1.cls = RX0) : Cond.methodLink M.1.cls 36 arraycopyName ∈ zT := by rw [h]; exact zT_in 290 (by decide +kernel) rfl
theorem lkX0_noteIn_42 : zLkV mX0_noteIn 42 mX6_size 0 := ⟨⟨yiX6_size.1, yiX6_size.2.1, yiX6_size.2.2.1, yiX6_size.2.2.2, by decide, by decide⟩, ycX6_size, zT_in 307 (by decide +kernel) rfl, yvX6_size, ywX6_size⟩
theorem lkX0_returnTo_46 : zLkV mX0_returnTo 46 mX6_forgetFrom 1 := ⟨⟨yiX6_forgetFrom.1, yiX6_forgetFrom.2.1, yiX6_forgetFrom.2.2.1, yiX6_forgetFrom.2.2.2, by decide, by decide⟩, ycX6_forgetFrom, zT_in 381 (by decide +kernel) rfl, yvX6_forgetFrom, ywX6_forgetFrom⟩
theorem lkX0_ledgerOf_50 : zLkSN mX0_ledgerOf 50 mX7_isHouse 1 := ⟨⟨yiX7_isHouse.1, yiX7_isHouse.2.1, yiX7_isHouse.2.2.1, yiX7_isHouse.2.2.2, by decide, by decide⟩, ycX7_isHouse, ⟨"AbbeyLedgers", zNw_in 326 (by decide +kernel) rfl⟩, ysX7_isHouse⟩
theorem lkX0_giveLedger_50 : zLkSN mX0_giveLedger 50 mX7_isHouse 1 := ⟨⟨yiX7_isHouse.1, yiX7_isHouse.2.1, yiX7_isHouse.2.2.1, yiX7_isHouse.2.2.2, by decide, by decide⟩, ycX7_isHouse, ⟨"AbbeyLedgers", zNw_in 326 (by decide +kernel) rfl⟩, ysX7_isHouse⟩
theorem lkX0_giveLedger_54 : zLkV mX0_giveLedger 54 mX6_has 1 := ⟨⟨yiX6_has.1, yiX6_has.2.1, yiX6_has.2.2.1, yiX6_has.2.2.2, by decide, by decide⟩, ycX6_has, zT_in 368 (by decide +kernel) rfl, yvX6_has, ywX6_has⟩
theorem lkX0_housesWith_57 : zLkV mX0_housesWith 57 mX0_ledgerOf 1 := ⟨⟨yiX0_ledgerOf.1, yiX0_ledgerOf.2.1, yiX0_ledgerOf.2.2.1, yiX0_ledgerOf.2.2.2, by decide, by decide⟩, ycX0_ledgerOf, zT_in 686 (by decide +kernel) rfl, yvX0_ledgerOf, ywX0_ledgerOf⟩
theorem lkX0_versionsOfHouses_42 : zLkV mX0_versionsOfHouses 42 mX6_size 0 := ⟨⟨yiX6_size.1, yiX6_size.2.1, yiX6_size.2.2.1, yiX6_size.2.2.2, by decide, by decide⟩, ycX6_size, zT_in 307 (by decide +kernel) rfl, yvX6_size, ywX6_size⟩
theorem lkX0_versionsOfHouses_61 : zLkV mX0_versionsOfHouses 61 mX0_housesWith 1 := ⟨⟨yiX0_housesWith.1, yiX0_housesWith.2.1, yiX0_housesWith.2.2.1, yiX0_housesWith.2.2.2, by decide, by decide⟩, ycX0_housesWith, zT_in 1057 (by decide +kernel) rfl, yvX0_housesWith, ywX0_housesWith⟩
theorem zlX1_3 {M : zM} (h : M.1.cls = RX1) : Cond.methodLink M.1.cls 3 Lib.objectInit ∈ zT := by rw [h]; exact zT_in 77 (by decide +kernel) rfl
theorem lkX1_init_11 : zLkIN mX1_init 11 mX0_init 0 := ⟨⟨yiX0_init.1, yiX0_init.2.1, yiX0_init.2.2.1, yiX0_init.2.2.2, by decide, by decide⟩, ycX0_init, ⟨"AbbeyLedgers", zNw_in 80 (by decide +kernel) rfl⟩, yvX0_init, rfl, rfl⟩
theorem lkX1_init_20 : zLkIN mX1_init 20 mX4_init 0 := ⟨⟨yiX4_init.1, yiX4_init.2.1, yiX4_init.2.2.1, yiX4_init.2.2.2, by decide, by decide⟩, ycX4_init, ⟨"AbbeyLedgers", zNw_in 133 (by decide +kernel) rfl⟩, yvX4_init, rfl, rfl⟩
theorem lkX1_carryOut_30 : zLkV mX1_carryOut 30 mX2_number 1 := ⟨⟨yiX2_number.1, yiX2_number.2.1, yiX2_number.2.2.1, yiX2_number.2.2.2, by decide, by decide⟩, ycX2_number, zT_in 967 (by decide +kernel) rfl, yvX2_number, ywX2_number⟩
theorem lkX1_carryOut_36 : zLkV mX1_carryOut 36 mX2_kind 0 := ⟨⟨yiX2_kind.1, yiX2_kind.2.1, yiX2_kind.2.2.1, yiX2_kind.2.2.2, by decide, by decide⟩, ycX2_kind, zT_in 971 (by decide +kernel) rfl, yvX2_kind, ywX2_kind⟩
theorem lkX1_carryOut_40 : zLkV mX1_carryOut 40 mX1_enter 3 := ⟨⟨yiX1_enter.1, yiX1_enter.2.1, yiX1_enter.2.2.1, yiX1_enter.2.2.2, by decide, by decide⟩, ycX1_enter, zT_in 975 (by decide +kernel) rfl, yvX1_enter, ywX1_enter⟩
theorem lkX1_carryOut_44 : zLkV mX1_carryOut 44 mX1_copyLines 4 := ⟨⟨yiX1_copyLines.1, yiX1_copyLines.2.1, yiX1_copyLines.2.2.1, yiX1_copyLines.2.2.2, by decide, by decide⟩, ycX1_copyLines, zT_in 976 (by decide +kernel) rfl, yvX1_copyLines, ywX1_copyLines⟩
theorem lkX1_carryOut_48 : zLkV mX1_carryOut 48 mX1_takeOver 2 := ⟨⟨yiX1_takeOver.1, yiX1_takeOver.2.1, yiX1_takeOver.2.2.1, yiX1_takeOver.2.2.2, by decide, by decide⟩, ycX1_takeOver, zT_in 977 (by decide +kernel) rfl, yvX1_takeOver, ywX1_takeOver⟩
theorem lkX1_carryOut_52 : zLkV mX1_carryOut 52 mX1_goBack 2 := ⟨⟨yiX1_goBack.1, yiX1_goBack.2.1, yiX1_goBack.2.2.1, yiX1_goBack.2.2.2, by decide, by decide⟩, ycX1_goBack, zT_in 978 (by decide +kernel) rfl, yvX1_goBack, ywX1_goBack⟩
theorem lkX1_carryOut_55 : zLkV mX1_carryOut 55 mX1_letGoBy 1 := ⟨⟨yiX1_letGoBy.1, yiX1_letGoBy.2.1, yiX1_letGoBy.2.2.1, yiX1_letGoBy.2.2.2, by decide, by decide⟩, ycX1_letGoBy, zT_in 979 (by decide +kernel) rfl, yvX1_letGoBy, ywX1_letGoBy⟩
theorem lkX1_enter_58 : zLkSN mX1_enter 58 mX7_isHouse 1 := ⟨⟨yiX7_isHouse.1, yiX7_isHouse.2.1, yiX7_isHouse.2.2.1, yiX7_isHouse.2.2.2, by decide, by decide⟩, ycX7_isHouse, ⟨"AbbeyLedgers", zNw_in 312 (by decide +kernel) rfl⟩, ysX7_isHouse⟩
theorem lkX1_enter_62 : zLkSN mX1_enter 62 mX7_isLine 1 := ⟨⟨yiX7_isLine.1, yiX7_isLine.2.1, yiX7_isLine.2.2.1, yiX7_isLine.2.2.2, by decide, by decide⟩, ycX7_isLine, ⟨"AbbeyLedgers", zNw_in 315 (by decide +kernel) rfl⟩, ysX7_isLine⟩
theorem lkX1_enter_65 : zLkV mX1_enter 65 mX4_refuse 2 := ⟨⟨yiX4_refuse.1, yiX4_refuse.2.1, yiX4_refuse.2.2.1, yiX4_refuse.2.2.2, by decide, by decide⟩, ycX4_refuse, zT_in 318 (by decide +kernel) rfl, yvX4_refuse, ywX4_refuse⟩
theorem lkX1_enter_68 : zLkV mX1_enter 68 mX0_ledgerOf 1 := ⟨⟨yiX0_ledgerOf.1, yiX0_ledgerOf.2.1, yiX0_ledgerOf.2.2.1, yiX0_ledgerOf.2.2.2, by decide, by decide⟩, ycX0_ledgerOf, zT_in 322 (by decide +kernel) rfl, yvX0_ledgerOf, ywX0_ledgerOf⟩
theorem lkX1_enter_71 : zLkV mX1_enter 71 mX6_amountOn 2 := ⟨⟨yiX6_amountOn.1, yiX6_amountOn.2.1, yiX6_amountOn.2.2.1, yiX6_amountOn.2.2.2, by decide, by decide⟩, ycX6_amountOn, zT_in 327 (by decide +kernel) rfl, yvX6_amountOn, ywX6_amountOn⟩
theorem lkX1_enter_76 : zLkV mX1_enter 76 mX6_isFull 0 := ⟨⟨yiX6_isFull.1, yiX6_isFull.2.1, yiX6_isFull.2.2.1, yiX6_isFull.2.2.2, by decide, by decide⟩, ycX6_isFull, zT_in 335 (by decide +kernel) rfl, yvX6_isFull, ywX6_isFull⟩
theorem lkX1_enter_84 : zLkV mX1_enter 84 mX6_addWritten 4 := ⟨⟨yiX6_addWritten.1, yiX6_addWritten.2.1, yiX6_addWritten.2.2.1, yiX6_addWritten.2.2.2, by decide, by decide⟩, ycX6_addWritten, zT_in 339 (by decide +kernel) rfl, yvX6_addWritten, ywX6_addWritten⟩
theorem lkX1_enter_87 : zLkV mX1_enter 87 mX0_giveLedger 2 := ⟨⟨yiX0_giveLedger.1, yiX0_giveLedger.2.1, yiX0_giveLedger.2.2.1, yiX0_giveLedger.2.2.2, by decide, by decide⟩, ycX0_giveLedger, zT_in 364 (by decide +kernel) rfl, yvX0_giveLedger, ywX0_giveLedger⟩
theorem lkX1_copyLines_58 : zLkSN mX1_copyLines 58 mX7_isHouse 1 := ⟨⟨yiX7_isHouse.1, yiX7_isHouse.2.1, yiX7_isHouse.2.2.1, yiX7_isHouse.2.2.2, by decide, by decide⟩, ycX7_isHouse, ⟨"AbbeyLedgers", zNw_in 312 (by decide +kernel) rfl⟩, ysX7_isHouse⟩
theorem lkX1_copyLines_62 : zLkSN mX1_copyLines 62 mX7_isLine 1 := ⟨⟨yiX7_isLine.1, yiX7_isLine.2.1, yiX7_isLine.2.2.1, yiX7_isLine.2.2.2, by decide, by decide⟩, ycX7_isLine, ⟨"AbbeyLedgers", zNw_in 315 (by decide +kernel) rfl⟩, ysX7_isLine⟩
theorem lkX1_copyLines_65 : zLkV mX1_copyLines 65 mX4_refuse 2 := ⟨⟨yiX4_refuse.1, yiX4_refuse.2.1, yiX4_refuse.2.2.1, yiX4_refuse.2.2.2, by decide, by decide⟩, ycX4_refuse, zT_in 318 (by decide +kernel) rfl, yvX4_refuse, ywX4_refuse⟩
theorem lkX1_copyLines_94 : zLkV mX1_copyLines 94 mX6_has 1 := ⟨⟨yiX6_has.1, yiX6_has.2.1, yiX6_has.2.2.1, yiX6_has.2.2.2, by decide, by decide⟩, ycX6_has, zT_in 471 (by decide +kernel) rfl, yvX6_has, ywX6_has⟩
theorem lkX1_copyLines_97 : zLkV mX1_copyLines 97 mX6_size 0 := ⟨⟨yiX6_size.1, yiX6_size.2.1, yiX6_size.2.2.1, yiX6_size.2.2.2, by decide, by decide⟩, ycX6_size, zT_in 472 (by decide +kernel) rfl, yvX6_size, ywX6_size⟩
theorem lkX1_copyLines_68 : zLkV mX1_copyLines 68 mX0_ledgerOf 1 := ⟨⟨yiX0_ledgerOf.1, yiX0_ledgerOf.2.1, yiX0_ledgerOf.2.2.1, yiX0_ledgerOf.2.2.2, by decide, by decide⟩, ycX0_ledgerOf, zT_in 322 (by decide +kernel) rfl, yvX0_ledgerOf, ywX0_ledgerOf⟩
theorem lkX1_copyLines_101 : zLkV mX1_copyLines 101 mX6_linesApart 4 := ⟨⟨yiX6_linesApart.1, yiX6_linesApart.2.1, yiX6_linesApart.2.2.1, yiX6_linesApart.2.2.2, by decide, by decide⟩, ycX6_linesApart, zT_in 473 (by decide +kernel) rfl, yvX6_linesApart, ywX6_linesApart⟩
theorem lkX1_copyLines_76 : zLkV mX1_copyLines 76 mX6_isFull 0 := ⟨⟨yiX6_isFull.1, yiX6_isFull.2.1, yiX6_isFull.2.2.1, yiX6_isFull.2.2.2, by decide, by decide⟩, ycX6_isFull, zT_in 335 (by decide +kernel) rfl, yvX6_isFull, ywX6_isFull⟩
theorem lkX1_copyLines_104 : zLkV mX1_copyLines 104 mX6_addGrafted 5 := ⟨⟨yiX6_addGrafted.1, yiX6_addGrafted.2.1, yiX6_addGrafted.2.2.1, yiX6_addGrafted.2.2.2, by decide, by decide⟩, ycX6_addGrafted, zT_in 478 (by decide +kernel) rfl, yvX6_addGrafted, ywX6_addGrafted⟩
theorem lkX1_copyLines_87 : zLkV mX1_copyLines 87 mX0_giveLedger 2 := ⟨⟨yiX0_giveLedger.1, yiX0_giveLedger.2.1, yiX0_giveLedger.2.2.1, yiX0_giveLedger.2.2.2, by decide, by decide⟩, ycX0_giveLedger, zT_in 364 (by decide +kernel) rfl, yvX0_giveLedger, ywX0_giveLedger⟩
theorem lkX1_takeOver_58 : zLkSN mX1_takeOver 58 mX7_isHouse 1 := ⟨⟨yiX7_isHouse.1, yiX7_isHouse.2.1, yiX7_isHouse.2.2.1, yiX7_isHouse.2.2.2, by decide, by decide⟩, ycX7_isHouse, ⟨"AbbeyLedgers", zNw_in 312 (by decide +kernel) rfl⟩, ysX7_isHouse⟩
theorem lkX1_takeOver_65 : zLkV mX1_takeOver 65 mX4_refuse 2 := ⟨⟨yiX4_refuse.1, yiX4_refuse.2.1, yiX4_refuse.2.2.1, yiX4_refuse.2.2.2, by decide, by decide⟩, ycX4_refuse, zT_in 318 (by decide +kernel) rfl, yvX4_refuse, ywX4_refuse⟩
theorem lkX1_takeOver_68 : zLkV mX1_takeOver 68 mX0_ledgerOf 1 := ⟨⟨yiX0_ledgerOf.1, yiX0_ledgerOf.2.1, yiX0_ledgerOf.2.2.1, yiX0_ledgerOf.2.2.2, by decide, by decide⟩, ycX0_ledgerOf, zT_in 322 (by decide +kernel) rfl, yvX0_ledgerOf, ywX0_ledgerOf⟩
theorem lkX1_takeOver_87 : zLkV mX1_takeOver 87 mX0_giveLedger 2 := ⟨⟨yiX0_giveLedger.1, yiX0_giveLedger.2.1, yiX0_giveLedger.2.2.1, yiX0_giveLedger.2.2.2, by decide, by decide⟩, ycX0_giveLedger, zT_in 364 (by decide +kernel) rfl, yvX0_giveLedger, ywX0_giveLedger⟩
theorem lkX1_goBack_58 : zLkSN mX1_goBack 58 mX7_isHouse 1 := ⟨⟨yiX7_isHouse.1, yiX7_isHouse.2.1, yiX7_isHouse.2.2.1, yiX7_isHouse.2.2.2, by decide, by decide⟩, ycX7_isHouse, ⟨"AbbeyLedgers", zNw_in 312 (by decide +kernel) rfl⟩, ysX7_isHouse⟩
theorem lkX1_goBack_65 : zLkV mX1_goBack 65 mX4_refuse 2 := ⟨⟨yiX4_refuse.1, yiX4_refuse.2.1, yiX4_refuse.2.2.1, yiX4_refuse.2.2.2, by decide, by decide⟩, ycX4_refuse, zT_in 318 (by decide +kernel) rfl, yvX4_refuse, ywX4_refuse⟩
theorem lkX1_goBack_68 : zLkV mX1_goBack 68 mX0_ledgerOf 1 := ⟨⟨yiX0_ledgerOf.1, yiX0_ledgerOf.2.1, yiX0_ledgerOf.2.2.1, yiX0_ledgerOf.2.2.2, by decide, by decide⟩, ycX0_ledgerOf, zT_in 322 (by decide +kernel) rfl, yvX0_ledgerOf, ywX0_ledgerOf⟩
theorem lkX1_goBack_111 : zLkV mX1_goBack 111 mX6_ancestorsOf 1 := ⟨⟨yiX6_ancestorsOf.1, yiX6_ancestorsOf.2.1, yiX6_ancestorsOf.2.2.1, yiX6_ancestorsOf.2.2.2, by decide, by decide⟩, ycX6_ancestorsOf, zT_in 511 (by decide +kernel) rfl, yvX6_ancestorsOf, ywX6_ancestorsOf⟩
theorem lkX1_goBack_114 : zLkV mX1_goBack 114 mX6_earlier 2 := ⟨⟨yiX6_earlier.1, yiX6_earlier.2.1, yiX6_earlier.2.2.1, yiX6_earlier.2.2.2, by decide, by decide⟩, ycX6_earlier, zT_in 519 (by decide +kernel) rfl, yvX6_earlier, ywX6_earlier⟩
theorem lkX1_goBack_87 : zLkV mX1_goBack 87 mX0_giveLedger 2 := ⟨⟨yiX0_giveLedger.1, yiX0_giveLedger.2.1, yiX0_giveLedger.2.2.1, yiX0_giveLedger.2.2.2, by decide, by decide⟩, ycX0_giveLedger, zT_in 364 (by decide +kernel) rfl, yvX0_giveLedger, ywX0_giveLedger⟩
theorem lkX1_letGoBy_65 : zLkV mX1_letGoBy 65 mX4_refuse 2 := ⟨⟨yiX4_refuse.1, yiX4_refuse.2.1, yiX4_refuse.2.2.1, yiX4_refuse.2.2.2, by decide, by decide⟩, ycX4_refuse, zT_in 318 (by decide +kernel) rfl, yvX4_refuse, ywX4_refuse⟩
theorem zlX2_3 {M : zM} (h : M.1.cls = RX2) : Cond.methodLink M.1.cls 3 Lib.objectInit ∈ zT := by rw [h]; exact zT_in 182 (by decide +kernel) rfl
theorem lkX2_put_30 : zLkV mX2_put 30 mX2_isFull 0 := ⟨⟨yiX2_isFull.1, yiX2_isFull.2.1, yiX2_isFull.2.2.1, yiX2_isFull.2.2.2, by decide, by decide⟩, ycX2_isFull, zT_in 856 (by decide +kernel) rfl, yvX2_isFull, ywX2_isFull⟩
theorem lkX2_findFault_34 : zLkV mX2_findFault 34 mX2_rewind 0 := ⟨⟨yiX2_rewind.1, yiX2_rewind.2.1, yiX2_rewind.2.2.1, yiX2_rewind.2.2.2, by decide, by decide⟩, ycX2_rewind, zT_in 872 (by decide +kernel) rfl, yvX2_rewind, ywX2_rewind⟩
theorem lkX2_findFault_37 : zLkV mX2_findFault 37 mX2_readCommand 0 := ⟨⟨yiX2_readCommand.1, yiX2_readCommand.2.1, yiX2_readCommand.2.2.1, yiX2_readCommand.2.2.2, by decide, by decide⟩, ycX2_readCommand, zT_in 876 (by decide +kernel) rfl, yvX2_readCommand, ywX2_readCommand⟩
theorem lkX2_findFault_40 : zLkV mX2_findFault 40 mX2_readSign 1 := ⟨⟨yiX2_readSign.1, yiX2_readSign.2.1, yiX2_readSign.2.2.1, yiX2_readSign.2.2.2, by decide, by decide⟩, ycX2_readSign, zT_in 952 (by decide +kernel) rfl, yvX2_readSign, ywX2_readSign⟩
theorem lkX2_readCommand_44 : zLkV mX2_readCommand 44 mX2_signAhead 0 := ⟨⟨yiX2_signAhead.1, yiX2_signAhead.2.1, yiX2_signAhead.2.2.1, yiX2_signAhead.2.2.2, by decide, by decide⟩, ycX2_signAhead, zT_in 880 (by decide +kernel) rfl, yvX2_signAhead, ywX2_signAhead⟩
theorem lkX2_readCommand_48 : zLkS mX2_readCommand 48 mX2_formOf 1 := ⟨⟨yiX2_formOf.1, yiX2_formOf.2.1, yiX2_formOf.2.2.1, yiX2_formOf.2.2.2, by decide, by decide⟩, ycX2_formOf, zT_in 884 (by decide +kernel) rfl, ysX2_formOf⟩
theorem lkX2_readCommand_52 : zLkV mX2_readCommand 52 mJ0_isEmpty_aae02 0 := ⟨⟨yiJ0_isEmpty_aae02.1, yiJ0_isEmpty_aae02.2.1, yiJ0_isEmpty_aae02.2.2.1, yiJ0_isEmpty_aae02.2.2.2, by decide, by decide⟩, ycJ0_isEmpty_aae02, zT_in 893 (by decide +kernel) rfl, yvJ0_isEmpty_aae02, ywJ0_isEmpty_aae02⟩
theorem lkX2_readCommand_57 : zLkV mX2_readCommand 57 mJ0_length_8abf5 0 := ⟨⟨yiJ0_length_8abf5.1, yiJ0_length_8abf5.2.1, yiJ0_length_8abf5.2.2.1, yiJ0_length_8abf5.2.2.2, by decide, by decide⟩, ycJ0_length_8abf5, zT_in 897 (by decide +kernel) rfl, yvJ0_length_8abf5, ywJ0_length_8abf5⟩
theorem lkX2_readCommand_60 : zLkV mX2_readCommand 60 mJ0_charAt_5068e 1 := ⟨⟨yiJ0_charAt_5068e.1, yiJ0_charAt_5068e.2.1, yiJ0_charAt_5068e.2.2.1, yiJ0_charAt_5068e.2.2.2, by decide, by decide⟩, ycJ0_charAt_5068e, zT_in 907 (by decide +kernel) rfl, yvJ0_charAt_5068e, ywJ0_charAt_5068e⟩
theorem lkX2_readCommand_64 : zLkSN mX2_readCommand 64 mX7_isDigit 1 := ⟨⟨yiX7_isDigit.1, yiX7_isDigit.2.1, yiX7_isDigit.2.2.1, yiX7_isDigit.2.2.2, by decide, by decide⟩, ycX7_isDigit, ⟨"AbbeyLedgers", zNw_in 945 (by decide +kernel) rfl⟩, ysX7_isDigit⟩
theorem lkX2_readCommand_67 : zLkV mX2_readCommand 67 mX2_readNumber 2 := ⟨⟨yiX2_readNumber.1, yiX2_readNumber.2.1, yiX2_readNumber.2.2.1, yiX2_readNumber.2.2.2, by decide, by decide⟩, ycX2_readNumber, zT_in 948 (by decide +kernel) rfl, yvX2_readNumber, ywX2_readNumber⟩
theorem lkX2_readCommand_40 : zLkV mX2_readCommand 40 mX2_readSign 1 := ⟨⟨yiX2_readSign.1, yiX2_readSign.2.1, yiX2_readSign.2.2.1, yiX2_readSign.2.2.2, by decide, by decide⟩, ycX2_readSign, zT_in 952 (by decide +kernel) rfl, yvX2_readSign, ywX2_readSign⟩
theorem lkX2_readSign_44 : zLkV mX2_readSign 44 mX2_signAhead 0 := ⟨⟨yiX2_signAhead.1, yiX2_signAhead.2.1, yiX2_signAhead.2.2.1, yiX2_signAhead.2.2.2, by decide, by decide⟩, ycX2_signAhead, zT_in 880 (by decide +kernel) rfl, yvX2_signAhead, ywX2_signAhead⟩
theorem lkX2_readNumber_44 : zLkV mX2_readNumber 44 mX2_signAhead 0 := ⟨⟨yiX2_signAhead.1, yiX2_signAhead.2.1, yiX2_signAhead.2.2.1, yiX2_signAhead.2.2.2, by decide, by decide⟩, ycX2_signAhead, zT_in 880 (by decide +kernel) rfl, yvX2_signAhead, ywX2_signAhead⟩
theorem lkX2_readNumber_64 : zLkSN mX2_readNumber 64 mX7_isDigit 1 := ⟨⟨yiX7_isDigit.1, yiX7_isDigit.2.1, yiX7_isDigit.2.2.1, yiX7_isDigit.2.2.2, by decide, by decide⟩, ycX7_isDigit, ⟨"AbbeyLedgers", zNw_in 945 (by decide +kernel) rfl⟩, ysX7_isDigit⟩
theorem zlX3_3 {M : zM} (h : M.1.cls = RX3) : Cond.methodLink M.1.cls 3 Lib.objectInit ∈ zT := by rw [h]; exact zT_in 169 (by decide +kernel) rfl
theorem lkX3_note_21 : zLkV mX3_note 21 mX0_noteIn 2 := ⟨⟨yiX0_noteIn.1, yiX0_noteIn.2.1, yiX0_noteIn.2.2.1, yiX0_noteIn.2.2.2, by decide, by decide⟩, ycX0_noteIn, zT_in 303 (by decide +kernel) rfl, yvX0_noteIn, ywX0_noteIn⟩
theorem lkX3_takeBack_25 : zLkV mX3_takeBack 25 mX0_returnTo 2 := ⟨⟨yiX0_returnTo.1, yiX0_returnTo.2.1, yiX0_returnTo.2.2.1, yiX0_returnTo.2.2.2, by decide, by decide⟩, ycX0_returnTo, zT_in 377 (by decide +kernel) rfl, yvX0_returnTo, ywX0_returnTo⟩
theorem zlX3_28 {M : zM} (h : M.1.cls = RX3) : Cond.methodLink M.1.cls 28 arraycopyName ∈ zT := by rw [h]; exact zT_in 459 (by decide +kernel) rfl
theorem zlX4_3 {M : zM} (h : M.1.cls = RX4) : Cond.methodLink M.1.cls 3 Lib.objectInit ∈ zT := by rw [h]; exact zT_in 136 (by decide +kernel) rfl
theorem zlX5_3 {M : zM} (h : M.1.cls = RX5) : Cond.methodLink M.1.cls 3 Lib.objectInit ∈ zT := by rw [h]; exact zT_in 205 (by decide +kernel) rfl
theorem lkX5_separate_19 : zLkV mX5_separate 19 mX5_put 1 := ⟨⟨yiX5_put.1, yiX5_put.2.1, yiX5_put.2.2.1, yiX5_put.2.2.2, by decide, by decide⟩, ycX5_put, zT_in 1005 (by decide +kernel) rfl, yvX5_put, ywX5_put⟩
theorem lkX5_putNumber_19 : zLkV mX5_putNumber 19 mX5_put 1 := ⟨⟨yiX5_put.1, yiX5_put.2.1, yiX5_put.2.2.1, yiX5_put.2.2.2, by decide, by decide⟩, ycX5_put, zT_in 1005 (by decide +kernel) rfl, yvX5_put, ywX5_put⟩
theorem zlX6_3 {M : zM} (h : M.1.cls = RX6) : Cond.methodLink M.1.cls 3 Lib.objectInit ∈ zT := by rw [h]; exact zT_in 89 (by decide +kernel) rfl
theorem zlX6_28 {M : zM} (h : M.1.cls = RX6) : Cond.methodLink M.1.cls 28 arraycopyName ∈ zT := by rw [h]; exact zT_in 287 (by decide +kernel) rfl
theorem lkX6_parentOf_34 : zLkV mX6_parentOf 34 mX6_has 1 := ⟨⟨yiX6_has.1, yiX6_has.2.1, yiX6_has.2.2.1, yiX6_has.2.2.2, by decide, by decide⟩, ycX6_has, zT_in 268 (by decide +kernel) rfl, yvX6_has, ywX6_has⟩
theorem lkX6_yearOf_34 : zLkV mX6_yearOf 34 mX6_has 1 := ⟨⟨yiX6_has.1, yiX6_has.2.1, yiX6_has.2.2.1, yiX6_has.2.2.2, by decide, by decide⟩, ycX6_has, zT_in 268 (by decide +kernel) rfl, yvX6_has, ywX6_has⟩
theorem lkX6_makerOf_34 : zLkV mX6_makerOf 34 mX6_has 1 := ⟨⟨yiX6_has.1, yiX6_has.2.1, yiX6_has.2.2.1, yiX6_has.2.2.2, by decide, by decide⟩, ycX6_has, zT_in 268 (by decide +kernel) rfl, yvX6_has, ywX6_has⟩
theorem lkX6_makerOf_38 : zLkSN mX6_makerOf 38 mX7_isSpan 1 := ⟨⟨yiX7_isSpan.1, yiX7_isSpan.2.1, yiX7_isSpan.2.2.1, yiX7_isSpan.2.2.2, by decide, by decide⟩, ycX7_isSpan, ⟨"AbbeyLedgers", zNw_in 272 (by decide +kernel) rfl⟩, ysX7_isSpan⟩
theorem lkX6_totalOf_34 : zLkV mX6_totalOf 34 mX6_has 1 := ⟨⟨yiX6_has.1, yiX6_has.2.1, yiX6_has.2.2.1, yiX6_has.2.2.2, by decide, by decide⟩, ycX6_has, zT_in 268 (by decide +kernel) rfl, yvX6_has, ywX6_has⟩
theorem lkX6_totalOf_38 : zLkSN mX6_totalOf 38 mX7_isSpan 1 := ⟨⟨yiX7_isSpan.1, yiX7_isSpan.2.1, yiX7_isSpan.2.2.1, yiX7_isSpan.2.2.2, by decide, by decide⟩, ycX7_isSpan, ⟨"AbbeyLedgers", zNw_in 272 (by decide +kernel) rfl⟩, ysX7_isSpan⟩
theorem lkX6_amountOn_41 : zLkV mX6_amountOn 41 mX6_totalOf 2 := ⟨⟨yiX6_totalOf.1, yiX6_totalOf.2.1, yiX6_totalOf.2.2.1, yiX6_totalOf.2.2.2, by decide, by decide⟩, ycX6_totalOf, zT_in 331 (by decide +kernel) rfl, yvX6_totalOf, ywX6_totalOf⟩
theorem lkX6_addWritten_45 : zLkV mX6_addWritten 45 mX6_addChild 2 := ⟨⟨yiX6_addChild.1, yiX6_addChild.2.1, yiX6_addChild.2.2.1, yiX6_addChild.2.2.2, by decide, by decide⟩, ycX6_addChild, zT_in 343 (by decide +kernel) rfl, yvX6_addChild, ywX6_addChild⟩
theorem lkX6_addWritten_48 : zLkV mX6_addWritten 48 mX6_makePage 3 := ⟨⟨yiX6_makePage.1, yiX6_makePage.2.1, yiX6_makePage.2.2.1, yiX6_makePage.2.2.2, by decide, by decide⟩, ycX6_makePage, zT_in 348 (by decide +kernel) rfl, yvX6_makePage, ywX6_makePage⟩
theorem lkX6_addWritten_52 : zLkSN mX6_addWritten 52 mX7_isCut 3 := ⟨⟨yiX7_isCut.1, yiX7_isCut.2.1, yiX7_isCut.2.2.1, yiX7_isCut.2.2.2, by decide, by decide⟩, ycX7_isCut, ⟨"AbbeyLedgers", zNw_in 352 (by decide +kernel) rfl⟩, ysX7_isCut⟩
theorem lkX6_addWritten_56 : zLkV mX6_addWritten 56 mX6_totalOfHalves 2 := ⟨⟨yiX6_totalOfHalves.1, yiX6_totalOfHalves.2.1, yiX6_totalOfHalves.2.2.1, yiX6_totalOfHalves.2.2.2, by decide, by decide⟩, ycX6_totalOfHalves, zT_in 360 (by decide +kernel) rfl, yvX6_totalOfHalves, ywX6_totalOfHalves⟩
theorem lkX6_addGrafted_45 : zLkV mX6_addGrafted 45 mX6_addChild 2 := ⟨⟨yiX6_addChild.1, yiX6_addChild.2.1, yiX6_addChild.2.2.1, yiX6_addChild.2.2.2, by decide, by decide⟩, ycX6_addChild, zT_in 343 (by decide +kernel) rfl, yvX6_addChild, ywX6_addChild⟩
theorem lkX6_addGrafted_59 : zLkSN mX6_addGrafted 59 mX7_isInside 3 := ⟨⟨yiX7_isInside.1, yiX7_isInside.2.1, yiX7_isInside.2.2.1, yiX7_isInside.2.2.2, by decide, by decide⟩, ycX7_isInside, ⟨"AbbeyLedgers", zNw_in 482 (by decide +kernel) rfl⟩, ysX7_isInside⟩
theorem lkX6_addGrafted_62 : zLkV mX6_addGrafted 62 mX6_takePage 3 := ⟨⟨yiX6_takePage.1, yiX6_takePage.2.1, yiX6_takePage.2.2.1, yiX6_takePage.2.2.2, by decide, by decide⟩, ycX6_takePage, zT_in 485 (by decide +kernel) rfl, yvX6_takePage, ywX6_takePage⟩
theorem lkX6_addGrafted_52 : zLkSN mX6_addGrafted 52 mX7_isCut 3 := ⟨⟨yiX7_isCut.1, yiX7_isCut.2.1, yiX7_isCut.2.2.1, yiX7_isCut.2.2.2, by decide, by decide⟩, ycX7_isCut, ⟨"AbbeyLedgers", zNw_in 352 (by decide +kernel) rfl⟩, ysX7_isCut⟩
theorem lkX6_addGrafted_56 : zLkV mX6_addGrafted 56 mX6_totalOfHalves 2 := ⟨⟨yiX6_totalOfHalves.1, yiX6_totalOfHalves.2.1, yiX6_totalOfHalves.2.2.1, yiX6_totalOfHalves.2.2.2, by decide, by decide⟩, ycX6_totalOfHalves, zT_in 360 (by decide +kernel) rfl, yvX6_totalOfHalves, ywX6_totalOfHalves⟩
theorem lkX6_addGrafted_48 : zLkV mX6_addGrafted 48 mX6_makePage 3 := ⟨⟨yiX6_makePage.1, yiX6_makePage.2.1, yiX6_makePage.2.2.1, yiX6_makePage.2.2.2, by decide, by decide⟩, ycX6_makePage, zT_in 348 (by decide +kernel) rfl, yvX6_makePage, ywX6_makePage⟩
theorem lkX6_addChild_65 : zLkV mX6_addChild 65 mX6_isFull 0 := ⟨⟨yiX6_isFull.1, yiX6_isFull.2.1, yiX6_isFull.2.2.1, yiX6_isFull.2.2.2, by decide, by decide⟩, ycX6_isFull, zT_in 347 (by decide +kernel) rfl, yvX6_isFull, ywX6_isFull⟩
theorem lkX6_addChild_34 : zLkV mX6_addChild 34 mX6_has 1 := ⟨⟨yiX6_has.1, yiX6_has.2.1, yiX6_has.2.2.1, yiX6_has.2.2.2, by decide, by decide⟩, ycX6_has, zT_in 268 (by decide +kernel) rfl, yvX6_has, ywX6_has⟩
theorem lkX6_makePage_34 : zLkV mX6_makePage 34 mX6_has 1 := ⟨⟨yiX6_has.1, yiX6_has.2.1, yiX6_has.2.2.1, yiX6_has.2.2.2, by decide, by decide⟩, ycX6_has, zT_in 268 (by decide +kernel) rfl, yvX6_has, ywX6_has⟩
theorem lkX6_makePage_38 : zLkSN mX6_makePage 38 mX7_isSpan 1 := ⟨⟨yiX7_isSpan.1, yiX7_isSpan.2.1, yiX7_isSpan.2.2.1, yiX7_isSpan.2.2.2, by decide, by decide⟩, ycX7_isSpan, ⟨"AbbeyLedgers", zNw_in 272 (by decide +kernel) rfl⟩, ysX7_isSpan⟩
theorem lkX6_takePage_34 : zLkV mX6_takePage 34 mX6_has 1 := ⟨⟨yiX6_has.1, yiX6_has.2.1, yiX6_has.2.2.1, yiX6_has.2.2.2, by decide, by decide⟩, ycX6_has, zT_in 268 (by decide +kernel) rfl, yvX6_has, ywX6_has⟩
theorem lkX6_takePage_38 : zLkSN mX6_takePage 38 mX7_isSpan 1 := ⟨⟨yiX7_isSpan.1, yiX7_isSpan.2.1, yiX7_isSpan.2.2.1, yiX7_isSpan.2.2.2, by decide, by decide⟩, ycX7_isSpan, ⟨"AbbeyLedgers", zNw_in 272 (by decide +kernel) rfl⟩, ysX7_isSpan⟩
theorem lkX6_totalOfHalves_41 : zLkV mX6_totalOfHalves 41 mX6_totalOf 2 := ⟨⟨yiX6_totalOf.1, yiX6_totalOf.2.1, yiX6_totalOf.2.2.1, yiX6_totalOf.2.2.2, by decide, by decide⟩, ycX6_totalOf, zT_in 331 (by decide +kernel) rfl, yvX6_totalOf, ywX6_totalOf⟩
theorem lkX6_sumByPages_59 : zLkSN mX6_sumByPages 59 mX7_isInside 3 := ⟨⟨yiX7_isInside.1, yiX7_isInside.2.1, yiX7_isInside.2.2.1, yiX7_isInside.2.2.2, by decide, by decide⟩, ycX7_isInside, ⟨"AbbeyLedgers", zNw_in 482 (by decide +kernel) rfl⟩, ysX7_isInside⟩
theorem lkX6_sumByPages_41 : zLkV mX6_sumByPages 41 mX6_totalOf 2 := ⟨⟨yiX6_totalOf.1, yiX6_totalOf.2.1, yiX6_totalOf.2.2.1, yiX6_totalOf.2.2.2, by decide, by decide⟩, ycX6_totalOf, zT_in 331 (by decide +kernel) rfl, yvX6_totalOf, ywX6_totalOf⟩
theorem lkX6_sumByLines_69 : zLkV mX6_sumByLines 69 mX6_amountOn 2 := ⟨⟨yiX6_amountOn.1, yiX6_amountOn.2.1, yiX6_amountOn.2.2.1, yiX6_amountOn.2.2.2, by decide, by decide⟩, ycX6_amountOn, zT_in 477 (by decide +kernel) rfl, yvX6_amountOn, ywX6_amountOn⟩
theorem lkX6_lineWithMost_69 : zLkV mX6_lineWithMost 69 mX6_amountOn 2 := ⟨⟨yiX6_amountOn.1, yiX6_amountOn.2.1, yiX6_amountOn.2.2.1, yiX6_amountOn.2.2.2, by decide, by decide⟩, ycX6_amountOn, zT_in 477 (by decide +kernel) rfl, yvX6_amountOn, ywX6_amountOn⟩
theorem lkX6_lineReaching_69 : zLkV mX6_lineReaching 69 mX6_amountOn 2 := ⟨⟨yiX6_amountOn.1, yiX6_amountOn.2.1, yiX6_amountOn.2.2.1, yiX6_amountOn.2.2.2, by decide, by decide⟩, ycX6_amountOn, zT_in 477 (by decide +kernel) rfl, yvX6_amountOn, ywX6_amountOn⟩
theorem lkX6_earlier_72 : zLkV mX6_earlier 72 mX6_parentOf 1 := ⟨⟨yiX6_parentOf.1, yiX6_parentOf.2.1, yiX6_parentOf.2.2.1, yiX6_parentOf.2.2.2, by decide, by decide⟩, ycX6_parentOf, zT_in 515 (by decide +kernel) rfl, yvX6_parentOf, ywX6_parentOf⟩
theorem lkX6_ancestorsOf_72 : zLkV mX6_ancestorsOf 72 mX6_parentOf 1 := ⟨⟨yiX6_parentOf.1, yiX6_parentOf.2.1, yiX6_parentOf.2.2.1, yiX6_parentOf.2.2.2, by decide, by decide⟩, ycX6_parentOf, zT_in 515 (by decide +kernel) rfl, yvX6_parentOf, ywX6_parentOf⟩
theorem lkX6_childrenOf_72 : zLkV mX6_childrenOf 72 mX6_parentOf 1 := ⟨⟨yiX6_parentOf.1, yiX6_parentOf.2.1, yiX6_parentOf.2.2.1, yiX6_parentOf.2.2.2, by decide, by decide⟩, ycX6_parentOf, zT_in 515 (by decide +kernel) rfl, yvX6_parentOf, ywX6_parentOf⟩
theorem lkX6_withoutChildren_76 : zLkV mX6_withoutChildren 76 mX6_childrenOf 1 := ⟨⟨yiX6_childrenOf.1, yiX6_childrenOf.2.1, yiX6_childrenOf.2.2.1, yiX6_childrenOf.2.2.2, by decide, by decide⟩, ycX6_childrenOf, zT_in 1062 (by decide +kernel) rfl, yvX6_childrenOf, ywX6_childrenOf⟩
theorem lkX6_pagesMadeBy_79 : zLkV mX6_pagesMadeBy 79 mX6_makerOf 2 := ⟨⟨yiX6_makerOf.1, yiX6_makerOf.2.1, yiX6_makerOf.2.2.1, yiX6_makerOf.2.2.2, by decide, by decide⟩, ycX6_makerOf, zT_in 264 (by decide +kernel) rfl, yvX6_makerOf, ywX6_makerOf⟩
theorem lkX6_pagesMade_82 : zLkV mX6_pagesMade 82 mX6_pagesMadeBy 1 := ⟨⟨yiX6_pagesMadeBy.1, yiX6_pagesMadeBy.2.1, yiX6_pagesMadeBy.2.2.1, yiX6_pagesMadeBy.2.2.2, by decide, by decide⟩, ycX6_pagesMadeBy, zT_in 260 (by decide +kernel) rfl, yvX6_pagesMadeBy, ywX6_pagesMadeBy⟩
theorem lkX6_linesNewIn_72 : zLkV mX6_linesNewIn 72 mX6_parentOf 1 := ⟨⟨yiX6_parentOf.1, yiX6_parentOf.2.1, yiX6_parentOf.2.2.1, yiX6_parentOf.2.2.2, by decide, by decide⟩, ycX6_parentOf, zT_in 515 (by decide +kernel) rfl, yvX6_parentOf, ywX6_parentOf⟩
theorem lkX6_linesNewIn_85 : zLkV mX6_linesNewIn 85 mX6_linesApart 4 := ⟨⟨yiX6_linesApart.1, yiX6_linesApart.2.1, yiX6_linesApart.2.2.1, yiX6_linesApart.2.2.2, by decide, by decide⟩, ycX6_linesApart, zT_in 681 (by decide +kernel) rfl, yvX6_linesApart, ywX6_linesApart⟩
theorem lkX6_linesApart_69 : zLkV mX6_linesApart 69 mX6_amountOn 2 := ⟨⟨yiX6_amountOn.1, yiX6_amountOn.2.1, yiX6_amountOn.2.2.1, yiX6_amountOn.2.2.2, by decide, by decide⟩, ycX6_amountOn, zT_in 477 (by decide +kernel) rfl, yvX6_amountOn, ywX6_amountOn⟩
theorem lkX6_othersAlike_85 : zLkV mX6_othersAlike 85 mX6_linesApart 4 := ⟨⟨yiX6_linesApart.1, yiX6_linesApart.2.1, yiX6_linesApart.2.2.1, yiX6_linesApart.2.2.2, by decide, by decide⟩, ycX6_linesApart, zT_in 681 (by decide +kernel) rfl, yvX6_linesApart, ywX6_linesApart⟩
theorem lkX6_latestByYear_89 : zLkV mX6_latestByYear 89 mX6_yearOf 1 := ⟨⟨yiX6_yearOf.1, yiX6_yearOf.2.1, yiX6_yearOf.2.2.1, yiX6_yearOf.2.2.2, by decide, by decide⟩, ycX6_yearOf, zT_in 712 (by decide +kernel) rfl, yvX6_yearOf, ywX6_yearOf⟩
theorem lkX6_latestByYear_72 : zLkV mX6_latestByYear 72 mX6_parentOf 1 := ⟨⟨yiX6_parentOf.1, yiX6_parentOf.2.1, yiX6_parentOf.2.2.1, yiX6_parentOf.2.2.2, by decide, by decide⟩, ycX6_parentOf, zT_in 515 (by decide +kernel) rfl, yvX6_parentOf, ywX6_parentOf⟩
theorem lkX6_earliestWithAmountOf_69 : zLkV mX6_earliestWithAmountOf 69 mX6_amountOn 2 := ⟨⟨yiX6_amountOn.1, yiX6_amountOn.2.1, yiX6_amountOn.2.2.1, yiX6_amountOn.2.2.2, by decide, by decide⟩, ycX6_amountOn, zT_in 477 (by decide +kernel) rfl, yvX6_amountOn, ywX6_amountOn⟩
theorem lkX6_earliestWithAmountOf_72 : zLkV mX6_earliestWithAmountOf 72 mX6_parentOf 1 := ⟨⟨yiX6_parentOf.1, yiX6_parentOf.2.1, yiX6_parentOf.2.2.1, yiX6_parentOf.2.2.2, by decide, by decide⟩, ycX6_parentOf, zT_in 515 (by decide +kernel) rfl, yvX6_parentOf, ywX6_parentOf⟩
theorem lkX6_latestCommon_72 : zLkV mX6_latestCommon 72 mX6_parentOf 1 := ⟨⟨yiX6_parentOf.1, yiX6_parentOf.2.1, yiX6_parentOf.2.2.1, yiX6_parentOf.2.2.2, by decide, by decide⟩, ycX6_parentOf, zT_in 515 (by decide +kernel) rfl, yvX6_parentOf, ywX6_parentOf⟩
theorem lkX6_pagesInBoth_79 : zLkV mX6_pagesInBoth 79 mX6_makerOf 2 := ⟨⟨yiX6_makerOf.1, yiX6_makerOf.2.1, yiX6_makerOf.2.2.1, yiX6_makerOf.2.2.2, by decide, by decide⟩, ycX6_makerOf, zT_in 264 (by decide +kernel) rfl, yvX6_makerOf, ywX6_makerOf⟩
theorem lkX6_usersOf_79 : zLkV mX6_usersOf 79 mX6_makerOf 2 := ⟨⟨yiX6_makerOf.1, yiX6_makerOf.2.1, yiX6_makerOf.2.2.1, yiX6_makerOf.2.2.2, by decide, by decide⟩, ycX6_makerOf, zT_in 264 (by decide +kernel) rfl, yvX6_makerOf, ywX6_makerOf⟩
theorem lkX6_atPlace_92 : zLkV mX6_atPlace 92 mX6_versionsAheadOf 1 := ⟨⟨yiX6_versionsAheadOf.1, yiX6_versionsAheadOf.2.1, yiX6_versionsAheadOf.2.2.1, yiX6_versionsAheadOf.2.2.2, by decide, by decide⟩, ycX6_versionsAheadOf, zT_in 802 (by decide +kernel) rfl, yvX6_versionsAheadOf, ywX6_versionsAheadOf⟩
theorem lkX6_versionsAheadOf_41 : zLkV mX6_versionsAheadOf 41 mX6_totalOf 2 := ⟨⟨yiX6_totalOf.1, yiX6_totalOf.2.1, yiX6_totalOf.2.2.1, yiX6_totalOf.2.2.2, by decide, by decide⟩, ycX6_totalOf, zT_in 331 (by decide +kernel) rfl, yvX6_totalOf, ywX6_totalOf⟩
theorem lkX6_withMostPagesOfOthers_95 : zLkV mX6_withMostPagesOfOthers 95 mX6_pagesOfOthersMadeBy 1 := ⟨⟨yiX6_pagesOfOthersMadeBy.1, yiX6_pagesOfOthersMadeBy.2.1, yiX6_pagesOfOthersMadeBy.2.2.1, yiX6_pagesOfOthersMadeBy.2.2.2, by decide, by decide⟩, ycX6_pagesOfOthersMadeBy, zT_in 819 (by decide +kernel) rfl, yvX6_pagesOfOthersMadeBy, ywX6_pagesOfOthersMadeBy⟩
theorem lkX6_pagesOfOthersMadeBy_79 : zLkV mX6_pagesOfOthersMadeBy 79 mX6_makerOf 2 := ⟨⟨yiX6_makerOf.1, yiX6_makerOf.2.1, yiX6_makerOf.2.2.1, yiX6_makerOf.2.2.2, by decide, by decide⟩, ycX6_makerOf, zT_in 264 (by decide +kernel) rfl, yvX6_makerOf, ywX6_makerOf⟩
theorem lkX6_pagesOfOthersMadeBy_98 : zLkV mX6_pagesOfOthersMadeBy 98 mX6_usersOf 2 := ⟨⟨yiX6_usersOf.1, yiX6_usersOf.2.1, yiX6_usersOf.2.2.1, yiX6_usersOf.2.2.2, by decide, by decide⟩, ycX6_usersOf, zT_in 823 (by decide +kernel) rfl, yvX6_usersOf, ywX6_usersOf⟩
theorem zlX7_1 {M : zM} (h : M.1.cls = RX7) : Cond.methodLink M.1.cls 1 Lib.objectInit ∈ zT := by rw [h]; exact zT_in 69 (by decide +kernel) rfl
theorem lkX7_init_9 : zLkIN mX7_init 9 mX1_init 0 := ⟨⟨yiX1_init.1, yiX1_init.2.1, yiX1_init.2.2.1, yiX1_init.2.2.2, by decide, by decide⟩, ycX1_init, ⟨"AbbeyLedgers", zNw_in 74 (by decide +kernel) rfl⟩, yvX1_init, rfl, rfl⟩
theorem lkX7_init_33 : zLkIN mX7_init 33 mX0_init 0 := ⟨⟨yiX0_init.1, yiX0_init.2.1, yiX0_init.2.2.1, yiX0_init.2.2.2, by decide, by decide⟩, ycX0_init, ⟨"AbbeyLedgers", zNw_in 163 (by decide +kernel) rfl⟩, yvX0_init, rfl, rfl⟩
theorem lkX7_init_43 : zLkIN mX7_init 43 mX3_init 0 := ⟨⟨yiX3_init.1, yiX3_init.2.1, yiX3_init.2.2.1, yiX3_init.2.2.2, by decide, by decide⟩, ycX3_init, ⟨"AbbeyLedgers", zNw_in 166 (by decide +kernel) rfl⟩, yvX3_init, rfl, rfl⟩
theorem lkX7_init_50 : zLkIN mX7_init 50 mX2_init 0 := ⟨⟨yiX2_init.1, yiX2_init.2.1, yiX2_init.2.2.1, yiX2_init.2.2.2, by decide, by decide⟩, ycX2_init, ⟨"AbbeyLedgers", zNw_in 179 (by decide +kernel) rfl⟩, yvX2_init, rfl, rfl⟩
theorem lkX7_init_61 : zLkIN mX7_init 61 mX5_init 0 := ⟨⟨yiX5_init.1, yiX5_init.2.1, yiX5_init.2.2.1, yiX5_init.2.2.2, by decide, by decide⟩, ycX5_init, ⟨"AbbeyLedgers", zNw_in 202 (by decide +kernel) rfl⟩, yvX5_init, rfl, rfl⟩
theorem lkX7_write_66 : zLkV mX7_write 66 mX3_note 1 := ⟨⟨yiX3_note.1, yiX3_note.2.1, yiX3_note.2.2.1, yiX3_note.2.2.2, by decide, by decide⟩, ycX3_note, zT_in 299 (by decide +kernel) rfl, yvX3_note, ywX3_note⟩
theorem lkX7_write_70 : zLkV mX7_write 70 mX1_enter 3 := ⟨⟨yiX1_enter.1, yiX1_enter.2.1, yiX1_enter.2.2.1, yiX1_enter.2.2.2, by decide, by decide⟩, ycX1_enter, zT_in 308 (by decide +kernel) rfl, yvX1_enter, ywX1_enter⟩
theorem lkX7_write_74 : zLkV mX7_write 74 mX7_settled 1 := ⟨⟨yiX7_settled.1, yiX7_settled.2.1, yiX7_settled.2.2.1, yiX7_settled.2.2.2, by decide, by decide⟩, ycX7_settled, zT_in 369 (by decide +kernel) rfl, yvX7_settled, ywX7_settled⟩
theorem lkX7_graft_66 : zLkV mX7_graft 66 mX3_note 1 := ⟨⟨yiX3_note.1, yiX3_note.2.1, yiX3_note.2.2.1, yiX3_note.2.2.2, by decide, by decide⟩, ycX3_note, zT_in 299 (by decide +kernel) rfl, yvX3_note, ywX3_note⟩
theorem lkX7_graft_78 : zLkV mX7_graft 78 mX1_copyLines 4 := ⟨⟨yiX1_copyLines.1, yiX1_copyLines.2.1, yiX1_copyLines.2.2.1, yiX1_copyLines.2.2.2, by decide, by decide⟩, ycX1_copyLines, zT_in 467 (by decide +kernel) rfl, yvX1_copyLines, ywX1_copyLines⟩
theorem lkX7_graft_74 : zLkV mX7_graft 74 mX7_settled 1 := ⟨⟨yiX7_settled.1, yiX7_settled.2.1, yiX7_settled.2.2.1, yiX7_settled.2.2.2, by decide, by decide⟩, ycX7_settled, zT_in 369 (by decide +kernel) rfl, yvX7_settled, ywX7_settled⟩
theorem lkX7_fork_66 : zLkV mX7_fork 66 mX3_note 1 := ⟨⟨yiX3_note.1, yiX3_note.2.1, yiX3_note.2.2.1, yiX3_note.2.2.2, by decide, by decide⟩, ycX3_note, zT_in 299 (by decide +kernel) rfl, yvX3_note, ywX3_note⟩
theorem lkX7_fork_82 : zLkV mX7_fork 82 mX1_takeOver 2 := ⟨⟨yiX1_takeOver.1, yiX1_takeOver.2.1, yiX1_takeOver.2.2.1, yiX1_takeOver.2.2.2, by decide, by decide⟩, ycX1_takeOver, zT_in 496 (by decide +kernel) rfl, yvX1_takeOver, ywX1_takeOver⟩
theorem lkX7_fork_74 : zLkV mX7_fork 74 mX7_settled 1 := ⟨⟨yiX7_settled.1, yiX7_settled.2.1, yiX7_settled.2.2.1, yiX7_settled.2.2.2, by decide, by decide⟩, ycX7_settled, zT_in 369 (by decide +kernel) rfl, yvX7_settled, ywX7_settled⟩
theorem lkX7_back_66 : zLkV mX7_back 66 mX3_note 1 := ⟨⟨yiX3_note.1, yiX3_note.2.1, yiX3_note.2.2.1, yiX3_note.2.2.2, by decide, by decide⟩, ycX3_note, zT_in 299 (by decide +kernel) rfl, yvX3_note, ywX3_note⟩
theorem lkX7_back_86 : zLkV mX7_back 86 mX1_goBack 2 := ⟨⟨yiX1_goBack.1, yiX1_goBack.2.1, yiX1_goBack.2.2.1, yiX1_goBack.2.2.2, by decide, by decide⟩, ycX1_goBack, zT_in 507 (by decide +kernel) rfl, yvX1_goBack, ywX1_goBack⟩
theorem lkX7_back_74 : zLkV mX7_back 74 mX7_settled 1 := ⟨⟨yiX7_settled.1, yiX7_settled.2.1, yiX7_settled.2.2.1, yiX7_settled.2.2.2, by decide, by decide⟩, ycX7_settled, zT_in 369 (by decide +kernel) rfl, yvX7_settled, ywX7_settled⟩
theorem lkX7_pass_66 : zLkV mX7_pass 66 mX3_note 1 := ⟨⟨yiX3_note.1, yiX3_note.2.1, yiX3_note.2.2.1, yiX3_note.2.2.2, by decide, by decide⟩, ycX3_note, zT_in 299 (by decide +kernel) rfl, yvX3_note, ywX3_note⟩
theorem lkX7_pass_89 : zLkV mX7_pass 89 mX1_letGoBy 1 := ⟨⟨yiX1_letGoBy.1, yiX1_letGoBy.2.1, yiX1_letGoBy.2.2.1, yiX1_letGoBy.2.2.2, by decide, by decide⟩, ycX1_letGoBy, zT_in 530 (by decide +kernel) rfl, yvX1_letGoBy, ywX1_letGoBy⟩
theorem lkX7_pass_74 : zLkV mX7_pass 74 mX7_settled 1 := ⟨⟨yiX7_settled.1, yiX7_settled.2.1, yiX7_settled.2.2.1, yiX7_settled.2.2.2, by decide, by decide⟩, ycX7_settled, zT_in 369 (by decide +kernel) rfl, yvX7_settled, ywX7_settled⟩
theorem lkX7_ledger_92 : zLkS mX7_ledger 92 mX7_checkHouse 1 := ⟨⟨yiX7_checkHouse.1, yiX7_checkHouse.2.1, yiX7_checkHouse.2.2.1, yiX7_checkHouse.2.2.2, by decide, by decide⟩, ycX7_checkHouse, zT_in 542 (by decide +kernel) rfl, ysX7_checkHouse⟩
theorem lkX7_ledger_96 : zLkV mX7_ledger 96 mX0_ledgerOf 1 := ⟨⟨yiX0_ledgerOf.1, yiX0_ledgerOf.2.1, yiX0_ledgerOf.2.2.1, yiX0_ledgerOf.2.2.2, by decide, by decide⟩, ycX0_ledgerOf, zT_in 562 (by decide +kernel) rfl, yvX0_ledgerOf, ywX0_ledgerOf⟩
theorem lkX7_amount_99 : zLkV mX7_amount 99 mX7_checkVersion 1 := ⟨⟨yiX7_checkVersion.1, yiX7_checkVersion.2.1, yiX7_checkVersion.2.2.1, yiX7_checkVersion.2.2.2, by decide, by decide⟩, ycX7_checkVersion, zT_in 571 (by decide +kernel) rfl, yvX7_checkVersion, ywX7_checkVersion⟩
theorem lkX7_amount_102 : zLkS mX7_amount 102 mX7_checkLines 2 := ⟨⟨yiX7_checkLines.1, yiX7_checkLines.2.1, yiX7_checkLines.2.2.1, yiX7_checkLines.2.2.2, by decide, by decide⟩, ycX7_checkLines, zT_in 577 (by decide +kernel) rfl, ysX7_checkLines⟩
theorem lkX7_amount_106 : zLkV mX7_amount 106 mX6_amountOn 2 := ⟨⟨yiX6_amountOn.1, yiX6_amountOn.2.1, yiX6_amountOn.2.2.1, yiX6_amountOn.2.2.2, by decide, by decide⟩, ycX6_amountOn, zT_in 597 (by decide +kernel) rfl, yvX6_amountOn, ywX6_amountOn⟩
theorem lkX7_sum_99 : zLkV mX7_sum 99 mX7_checkVersion 1 := ⟨⟨yiX7_checkVersion.1, yiX7_checkVersion.2.1, yiX7_checkVersion.2.2.1, yiX7_checkVersion.2.2.2, by decide, by decide⟩, ycX7_checkVersion, zT_in 571 (by decide +kernel) rfl, yvX7_checkVersion, ywX7_checkVersion⟩
theorem lkX7_sum_102 : zLkS mX7_sum 102 mX7_checkLines 2 := ⟨⟨yiX7_checkLines.1, yiX7_checkLines.2.1, yiX7_checkLines.2.2.1, yiX7_checkLines.2.2.2, by decide, by decide⟩, ycX7_checkLines, zT_in 577 (by decide +kernel) rfl, ysX7_checkLines⟩
theorem lkX7_sum_111 : zLkV mX7_sum 111 mX6_sumByPages 3 := ⟨⟨yiX6_sumByPages.1, yiX6_sumByPages.2.1, yiX6_sumByPages.2.2.1, yiX6_sumByPages.2.2.2, by decide, by decide⟩, ycX6_sumByPages, zT_in 605 (by decide +kernel) rfl, yvX6_sumByPages, ywX6_sumByPages⟩
theorem lkX7_sumAgain_99 : zLkV mX7_sumAgain 99 mX7_checkVersion 1 := ⟨⟨yiX7_checkVersion.1, yiX7_checkVersion.2.1, yiX7_checkVersion.2.2.1, yiX7_checkVersion.2.2.2, by decide, by decide⟩, ycX7_checkVersion, zT_in 571 (by decide +kernel) rfl, yvX7_checkVersion, ywX7_checkVersion⟩
theorem lkX7_sumAgain_102 : zLkS mX7_sumAgain 102 mX7_checkLines 2 := ⟨⟨yiX7_checkLines.1, yiX7_checkLines.2.1, yiX7_checkLines.2.2.1, yiX7_checkLines.2.2.2, by decide, by decide⟩, ycX7_checkLines, zT_in 577 (by decide +kernel) rfl, ysX7_checkLines⟩
theorem lkX7_sumAgain_114 : zLkV mX7_sumAgain 114 mX6_sumByLines 3 := ⟨⟨yiX6_sumByLines.1, yiX6_sumByLines.2.1, yiX6_sumByLines.2.2.1, yiX6_sumByLines.2.2.2, by decide, by decide⟩, ycX6_sumByLines, zT_in 616 (by decide +kernel) rfl, yvX6_sumByLines, ywX6_sumByLines⟩
theorem lkX7_most_99 : zLkV mX7_most 99 mX7_checkVersion 1 := ⟨⟨yiX7_checkVersion.1, yiX7_checkVersion.2.1, yiX7_checkVersion.2.2.1, yiX7_checkVersion.2.2.2, by decide, by decide⟩, ycX7_checkVersion, zT_in 571 (by decide +kernel) rfl, yvX7_checkVersion, ywX7_checkVersion⟩
theorem lkX7_most_102 : zLkS mX7_most 102 mX7_checkLines 2 := ⟨⟨yiX7_checkLines.1, yiX7_checkLines.2.1, yiX7_checkLines.2.2.1, yiX7_checkLines.2.2.2, by decide, by decide⟩, ycX7_checkLines, zT_in 577 (by decide +kernel) rfl, ysX7_checkLines⟩
theorem lkX7_most_117 : zLkV mX7_most 117 mX6_lineWithMost 3 := ⟨⟨yiX6_lineWithMost.1, yiX6_lineWithMost.2.1, yiX6_lineWithMost.2.2.1, yiX6_lineWithMost.2.2.2, by decide, by decide⟩, ycX6_lineWithMost, zT_in 627 (by decide +kernel) rfl, yvX6_lineWithMost, ywX6_lineWithMost⟩
theorem lkX7_reached_99 : zLkV mX7_reached 99 mX7_checkVersion 1 := ⟨⟨yiX7_checkVersion.1, yiX7_checkVersion.2.1, yiX7_checkVersion.2.2.1, yiX7_checkVersion.2.2.2, by decide, by decide⟩, ycX7_checkVersion, zT_in 571 (by decide +kernel) rfl, yvX7_checkVersion, ywX7_checkVersion⟩
theorem lkX7_reached_120 : zLkV mX7_reached 120 mX6_lineReaching 2 := ⟨⟨yiX6_lineReaching.1, yiX6_lineReaching.2.1, yiX6_lineReaching.2.2.1, yiX6_lineReaching.2.2.2, by decide, by decide⟩, ycX6_lineReaching, zT_in 639 (by decide +kernel) rfl, yvX6_lineReaching, ywX6_lineReaching⟩
theorem lkX7_versionOf_99 : zLkV mX7_versionOf 99 mX7_checkVersion 1 := ⟨⟨yiX7_checkVersion.1, yiX7_checkVersion.2.1, yiX7_checkVersion.2.2.1, yiX7_checkVersion.2.2.2, by decide, by decide⟩, ycX7_checkVersion, zT_in 571 (by decide +kernel) rfl, yvX7_checkVersion, ywX7_checkVersion⟩
theorem lkX7_versionOf_130 : zLkV mX7_versionOf 130 mX6_parentOf 1 := ⟨⟨yiX6_parentOf.1, yiX6_parentOf.2.1, yiX6_parentOf.2.2.1, yiX6_parentOf.2.2.2, by decide, by decide⟩, ycX6_parentOf, zT_in 666 (by decide +kernel) rfl, yvX6_parentOf, ywX6_parentOf⟩
theorem lkX7_versionOf_133 : zLkV mX7_versionOf 133 mX6_yearOf 1 := ⟨⟨yiX6_yearOf.1, yiX6_yearOf.2.1, yiX6_yearOf.2.2.1, yiX6_yearOf.2.2.2, by decide, by decide⟩, ycX6_yearOf, zT_in 667 (by decide +kernel) rfl, yvX6_yearOf, ywX6_yearOf⟩
theorem lkX7_versionOf_136 : zLkV mX7_versionOf 136 mX6_ancestorsOf 1 := ⟨⟨yiX6_ancestorsOf.1, yiX6_ancestorsOf.2.1, yiX6_ancestorsOf.2.2.1, yiX6_ancestorsOf.2.2.2, by decide, by decide⟩, ycX6_ancestorsOf, zT_in 671 (by decide +kernel) rfl, yvX6_ancestorsOf, ywX6_ancestorsOf⟩
theorem lkX7_versionOf_139 : zLkV mX7_versionOf 139 mX6_childrenOf 1 := ⟨⟨yiX6_childrenOf.1, yiX6_childrenOf.2.1, yiX6_childrenOf.2.2.1, yiX6_childrenOf.2.2.2, by decide, by decide⟩, ycX6_childrenOf, zT_in 672 (by decide +kernel) rfl, yvX6_childrenOf, ywX6_childrenOf⟩
theorem lkX7_versionOf_142 : zLkV mX7_versionOf 142 mX6_pagesMadeBy 1 := ⟨⟨yiX6_pagesMadeBy.1, yiX6_pagesMadeBy.2.1, yiX6_pagesMadeBy.2.2.1, yiX6_pagesMadeBy.2.2.2, by decide, by decide⟩, ycX6_pagesMadeBy, zT_in 676 (by decide +kernel) rfl, yvX6_pagesMadeBy, ywX6_pagesMadeBy⟩
theorem lkX7_versionOf_145 : zLkV mX7_versionOf 145 mX6_linesNewIn 1 := ⟨⟨yiX6_linesNewIn.1, yiX6_linesNewIn.2.1, yiX6_linesNewIn.2.2.1, yiX6_linesNewIn.2.2.2, by decide, by decide⟩, ycX6_linesNewIn, zT_in 677 (by decide +kernel) rfl, yvX6_linesNewIn, ywX6_linesNewIn⟩
theorem lkX7_versionOf_148 : zLkV mX7_versionOf 148 mX0_housesWith 1 := ⟨⟨yiX0_housesWith.1, yiX0_housesWith.2.1, yiX0_housesWith.2.2.1, yiX0_housesWith.2.2.2, by decide, by decide⟩, ycX0_housesWith, zT_in 682 (by decide +kernel) rfl, yvX0_housesWith, ywX0_housesWith⟩
theorem lkX7_maker_99 : zLkV mX7_maker 99 mX7_checkVersion 1 := ⟨⟨yiX7_checkVersion.1, yiX7_checkVersion.2.1, yiX7_checkVersion.2.2.1, yiX7_checkVersion.2.2.2, by decide, by decide⟩, ycX7_checkVersion, zT_in 571 (by decide +kernel) rfl, yvX7_checkVersion, ywX7_checkVersion⟩
theorem lkX7_maker_156 : zLkS mX7_maker 156 mX7_checkSpan 1 := ⟨⟨yiX7_checkSpan.1, yiX7_checkSpan.2.1, yiX7_checkSpan.2.2.1, yiX7_checkSpan.2.2.2, by decide, by decide⟩, ycX7_checkSpan, zT_in 695 (by decide +kernel) rfl, ysX7_checkSpan⟩
theorem lkX7_maker_159 : zLkV mX7_maker 159 mX6_makerOf 2 := ⟨⟨yiX6_makerOf.1, yiX6_makerOf.2.1, yiX6_makerOf.2.2.1, yiX6_makerOf.2.2.2, by decide, by decide⟩, ycX6_makerOf, zT_in 699 (by decide +kernel) rfl, yvX6_makerOf, ywX6_makerOf⟩
theorem lkX7_had_92 : zLkS mX7_had 92 mX7_checkHouse 1 := ⟨⟨yiX7_checkHouse.1, yiX7_checkHouse.2.1, yiX7_checkHouse.2.2.1, yiX7_checkHouse.2.2.2, by decide, by decide⟩, ycX7_checkHouse, zT_in 542 (by decide +kernel) rfl, ysX7_checkHouse⟩
theorem lkX7_had_96 : zLkV mX7_had 96 mX0_ledgerOf 1 := ⟨⟨yiX0_ledgerOf.1, yiX0_ledgerOf.2.1, yiX0_ledgerOf.2.2.1, yiX0_ledgerOf.2.2.2, by decide, by decide⟩, ycX0_ledgerOf, zT_in 562 (by decide +kernel) rfl, yvX0_ledgerOf, ywX0_ledgerOf⟩
theorem lkX7_had_164 : zLkV mX7_had 164 mX6_latestByYear 2 := ⟨⟨yiX6_latestByYear.1, yiX6_latestByYear.2.1, yiX6_latestByYear.2.2.1, yiX6_latestByYear.2.2.2, by decide, by decide⟩, ycX6_latestByYear, zT_in 708 (by decide +kernel) rfl, yvX6_latestByYear, ywX6_latestByYear⟩
theorem lkX7_since_99 : zLkV mX7_since 99 mX7_checkVersion 1 := ⟨⟨yiX7_checkVersion.1, yiX7_checkVersion.2.1, yiX7_checkVersion.2.2.1, yiX7_checkVersion.2.2.2, by decide, by decide⟩, ycX7_checkVersion, zT_in 571 (by decide +kernel) rfl, yvX7_checkVersion, ywX7_checkVersion⟩
theorem lkX7_since_102 : zLkS mX7_since 102 mX7_checkLines 2 := ⟨⟨yiX7_checkLines.1, yiX7_checkLines.2.1, yiX7_checkLines.2.2.1, yiX7_checkLines.2.2.2, by decide, by decide⟩, ycX7_checkLines, zT_in 577 (by decide +kernel) rfl, ysX7_checkLines⟩
theorem lkX7_since_167 : zLkV mX7_since 167 mX6_earliestWithAmountOf 2 := ⟨⟨yiX6_earliestWithAmountOf.1, yiX6_earliestWithAmountOf.2.1, yiX6_earliestWithAmountOf.2.2.1, yiX6_earliestWithAmountOf.2.2.2, by decide, by decide⟩, ycX6_earliestWithAmountOf, zT_in 720 (by decide +kernel) rfl, yvX6_earliestWithAmountOf, ywX6_earliestWithAmountOf⟩
theorem lkX7_common_99 : zLkV mX7_common 99 mX7_checkVersion 1 := ⟨⟨yiX7_checkVersion.1, yiX7_checkVersion.2.1, yiX7_checkVersion.2.2.1, yiX7_checkVersion.2.2.2, by decide, by decide⟩, ycX7_checkVersion, zT_in 571 (by decide +kernel) rfl, yvX7_checkVersion, ywX7_checkVersion⟩
theorem lkX7_common_170 : zLkV mX7_common 170 mX6_latestCommon 2 := ⟨⟨yiX6_latestCommon.1, yiX6_latestCommon.2.1, yiX6_latestCommon.2.2.1, yiX6_latestCommon.2.2.2, by decide, by decide⟩, ycX6_latestCommon, zT_in 731 (by decide +kernel) rfl, yvX6_latestCommon, ywX6_latestCommon⟩
theorem lkX7_apart_99 : zLkV mX7_apart 99 mX7_checkVersion 1 := ⟨⟨yiX7_checkVersion.1, yiX7_checkVersion.2.1, yiX7_checkVersion.2.2.1, yiX7_checkVersion.2.2.2, by decide, by decide⟩, ycX7_checkVersion, zT_in 571 (by decide +kernel) rfl, yvX7_checkVersion, ywX7_checkVersion⟩
theorem lkX7_apart_173 : zLkV mX7_apart 173 mX6_linesApart 4 := ⟨⟨yiX6_linesApart.1, yiX6_linesApart.2.1, yiX6_linesApart.2.2.1, yiX6_linesApart.2.2.2, by decide, by decide⟩, ycX6_linesApart, zT_in 742 (by decide +kernel) rfl, yvX6_linesApart, ywX6_linesApart⟩
theorem lkX7_shared_99 : zLkV mX7_shared 99 mX7_checkVersion 1 := ⟨⟨yiX7_checkVersion.1, yiX7_checkVersion.2.1, yiX7_checkVersion.2.2.1, yiX7_checkVersion.2.2.2, by decide, by decide⟩, ycX7_checkVersion, zT_in 571 (by decide +kernel) rfl, yvX7_checkVersion, ywX7_checkVersion⟩
theorem lkX7_shared_176 : zLkV mX7_shared 176 mX6_pagesInBoth 2 := ⟨⟨yiX6_pagesInBoth.1, yiX6_pagesInBoth.2.1, yiX6_pagesInBoth.2.2.1, yiX6_pagesInBoth.2.2.2, by decide, by decide⟩, ycX6_pagesInBoth, zT_in 750 (by decide +kernel) rfl, yvX6_pagesInBoth, ywX6_pagesInBoth⟩
theorem lkX7_isOf_99 : zLkV mX7_isOf 99 mX7_checkVersion 1 := ⟨⟨yiX7_checkVersion.1, yiX7_checkVersion.2.1, yiX7_checkVersion.2.2.1, yiX7_checkVersion.2.2.2, by decide, by decide⟩, ycX7_checkVersion, zT_in 571 (by decide +kernel) rfl, yvX7_checkVersion, ywX7_checkVersion⟩
theorem lkX7_isOf_170 : zLkV mX7_isOf 170 mX6_latestCommon 2 := ⟨⟨yiX6_latestCommon.1, yiX6_latestCommon.2.1, yiX6_latestCommon.2.2.1, yiX6_latestCommon.2.2.2, by decide, by decide⟩, ycX6_latestCommon, zT_in 731 (by decide +kernel) rfl, yvX6_latestCommon, ywX6_latestCommon⟩
theorem lkX7_users_99 : zLkV mX7_users 99 mX7_checkVersion 1 := ⟨⟨yiX7_checkVersion.1, yiX7_checkVersion.2.1, yiX7_checkVersion.2.2.1, yiX7_checkVersion.2.2.2, by decide, by decide⟩, ycX7_checkVersion, zT_in 571 (by decide +kernel) rfl, yvX7_checkVersion, ywX7_checkVersion⟩
theorem lkX7_users_156 : zLkS mX7_users 156 mX7_checkSpan 1 := ⟨⟨yiX7_checkSpan.1, yiX7_checkSpan.2.1, yiX7_checkSpan.2.2.1, yiX7_checkSpan.2.2.2, by decide, by decide⟩, ycX7_checkSpan, zT_in 695 (by decide +kernel) rfl, ysX7_checkSpan⟩
theorem lkX7_users_159 : zLkV mX7_users 159 mX6_makerOf 2 := ⟨⟨yiX6_makerOf.1, yiX6_makerOf.2.1, yiX6_makerOf.2.2.1, yiX6_makerOf.2.2.2, by decide, by decide⟩, ycX6_makerOf, zT_in 699 (by decide +kernel) rfl, yvX6_makerOf, ywX6_makerOf⟩
theorem lkX7_users_179 : zLkV mX7_users 179 mX6_usersOf 2 := ⟨⟨yiX6_usersOf.1, yiX6_usersOf.2.1, yiX6_usersOf.2.2.1, yiX6_usersOf.2.2.2, by decide, by decide⟩, ycX6_usersOf, zT_in 768 (by decide +kernel) rfl, yvX6_usersOf, ywX6_usersOf⟩
theorem lkX7_wouldMake_102 : zLkS mX7_wouldMake 102 mX7_checkLines 2 := ⟨⟨yiX7_checkLines.1, yiX7_checkLines.2.1, yiX7_checkLines.2.2.1, yiX7_checkLines.2.2.2, by decide, by decide⟩, ycX7_checkLines, zT_in 577 (by decide +kernel) rfl, ysX7_checkLines⟩
theorem lkX7_wouldMake_182 : zLkS mX7_wouldMake 182 mX7_isCut 3 := ⟨⟨yiX7_isCut.1, yiX7_isCut.2.1, yiX7_isCut.2.2.1, yiX7_isCut.2.2.2, by decide, by decide⟩, ycX7_isCut, zT_in 779 (by decide +kernel) rfl, ysX7_isCut⟩
theorem lkX7_alike_99 : zLkV mX7_alike 99 mX7_checkVersion 1 := ⟨⟨yiX7_checkVersion.1, yiX7_checkVersion.2.1, yiX7_checkVersion.2.2.1, yiX7_checkVersion.2.2.2, by decide, by decide⟩, ycX7_checkVersion, zT_in 571 (by decide +kernel) rfl, yvX7_checkVersion, ywX7_checkVersion⟩
theorem lkX7_alike_186 : zLkV mX7_alike 186 mX6_othersAlike 1 := ⟨⟨yiX6_othersAlike.1, yiX6_othersAlike.2.1, yiX6_othersAlike.2.2.1, yiX6_othersAlike.2.2.2, by decide, by decide⟩, ycX6_othersAlike, zT_in 787 (by decide +kernel) rfl, yvX6_othersAlike, ywX6_othersAlike⟩
theorem lkX7_richest_189 : zLkV mX7_richest 189 mX6_atPlace 1 := ⟨⟨yiX6_atPlace.1, yiX6_atPlace.2.1, yiX6_atPlace.2.2.1, yiX6_atPlace.2.2.2, by decide, by decide⟩, ycX6_atPlace, zT_in 798 (by decide +kernel) rfl, yvX6_atPlace, ywX6_atPlace⟩
theorem lkX7_busiest_194 : zLkV mX7_busiest 194 mX6_size 0 := ⟨⟨yiX6_size.1, yiX6_size.2.1, yiX6_size.2.2.1, yiX6_size.2.2.2, by decide, by decide⟩, ycX6_size, zT_in 252 (by decide +kernel) rfl, yvX6_size, ywX6_size⟩
theorem lkX7_busiest_200 : zLkV mX7_busiest 200 mX6_withMostPagesOfOthers 0 := ⟨⟨yiX6_withMostPagesOfOthers.1, yiX6_withMostPagesOfOthers.2.1, yiX6_withMostPagesOfOthers.2.2.1, yiX6_withMostPagesOfOthers.2.2.2, by decide, by decide⟩, ycX6_withMostPagesOfOthers, zT_in 815 (by decide +kernel) rfl, yvX6_withMostPagesOfOthers, ywX6_withMostPagesOfOthers⟩
theorem lkX7_append_203 : zLkV mX7_append 203 mX2_isFull 0 := ⟨⟨yiX2_isFull.1, yiX2_isFull.2.1, yiX2_isFull.2.2.1, yiX2_isFull.2.2.2, by decide, by decide⟩, ycX2_isFull, zT_in 832 (by decide +kernel) rfl, yvX2_isFull, ywX2_isFull⟩
theorem lkX7_append_212 : zLkV mX7_append 212 mX2_put 1 := ⟨⟨yiX2_put.1, yiX2_put.2.1, yiX2_put.2.2.1, yiX2_put.2.2.2, by decide, by decide⟩, ycX2_put, zT_in 852 (by decide +kernel) rfl, yvX2_put, ywX2_put⟩
theorem lkX7_append_216 : zLkV mX7_append 216 mX2_size 0 := ⟨⟨yiX2_size.1, yiX2_size.2.1, yiX2_size.2.2.1, yiX2_size.2.2.2, by decide, by decide⟩, ycX2_size, zT_in 857 (by decide +kernel) rfl, yvX2_size, ywX2_size⟩
theorem lkX7_commands_217 : zLkV mX7_commands 217 mX2_findFault 0 := ⟨⟨yiX2_findFault.1, yiX2_findFault.2.1, yiX2_findFault.2.2.1, yiX2_findFault.2.2.2, by decide, by decide⟩, ycX2_findFault, zT_in 868 (by decide +kernel) rfl, yvX2_findFault, ywX2_findFault⟩
theorem lkX7_commands_220 : zLkV mX7_commands 220 mX2_clear 0 := ⟨⟨yiX2_clear.1, yiX2_clear.2.1, yiX2_clear.2.2.1, yiX2_clear.2.2.2, by decide, by decide⟩, ycX2_clear, zT_in 956 (by decide +kernel) rfl, yvX2_clear, ywX2_clear⟩
theorem lkX7_commands_66 : zLkV mX7_commands 66 mX3_note 1 := ⟨⟨yiX3_note.1, yiX3_note.2.1, yiX3_note.2.2.1, yiX3_note.2.2.2, by decide, by decide⟩, ycX3_note, zT_in 299 (by decide +kernel) rfl, yvX3_note, ywX3_note⟩
theorem lkX7_commands_225 : zLkV mX7_commands 225 mX2_rewind 0 := ⟨⟨yiX2_rewind.1, yiX2_rewind.2.1, yiX2_rewind.2.2.1, yiX2_rewind.2.2.2, by decide, by decide⟩, ycX2_rewind, zT_in 961 (by decide +kernel) rfl, yvX2_rewind, ywX2_rewind⟩
theorem lkX7_commands_228 : zLkV mX7_commands 228 mX2_readCommand 0 := ⟨⟨yiX2_readCommand.1, yiX2_readCommand.2.1, yiX2_readCommand.2.2.1, yiX2_readCommand.2.2.2, by decide, by decide⟩, ycX2_readCommand, zT_in 962 (by decide +kernel) rfl, yvX2_readCommand, ywX2_readCommand⟩
theorem lkX7_commands_231 : zLkV mX7_commands 231 mX1_carryOut 1 := ⟨⟨yiX1_carryOut.1, yiX1_carryOut.2.1, yiX1_carryOut.2.2.1, yiX1_carryOut.2.2.2, by decide, by decide⟩, ycX1_carryOut, zT_in 963 (by decide +kernel) rfl, yvX1_carryOut, ywX1_carryOut⟩
theorem lkX7_commands_240 : zLkV mX7_commands 240 mX2_readSign 1 := ⟨⟨yiX2_readSign.1, yiX2_readSign.2.1, yiX2_readSign.2.2.1, yiX2_readSign.2.2.2, by decide, by decide⟩, ycX2_readSign, zT_in 980 (by decide +kernel) rfl, yvX2_readSign, ywX2_readSign⟩
theorem lkX7_commands_74 : zLkV mX7_commands 74 mX7_settled 1 := ⟨⟨yiX7_settled.1, yiX7_settled.2.1, yiX7_settled.2.2.1, yiX7_settled.2.2.2, by decide, by decide⟩, ycX7_settled, zT_in 369 (by decide +kernel) rfl, yvX7_settled, ywX7_settled⟩
theorem lkX7_line_99 : zLkV mX7_line 99 mX7_checkVersion 1 := ⟨⟨yiX7_checkVersion.1, yiX7_checkVersion.2.1, yiX7_checkVersion.2.2.1, yiX7_checkVersion.2.2.2, by decide, by decide⟩, ycX7_checkVersion, zT_in 571 (by decide +kernel) rfl, yvX7_checkVersion, ywX7_checkVersion⟩
theorem lkX7_line_254 : zLkV mX7_line 254 mX5_clear 0 := ⟨⟨yiX5_clear.1, yiX5_clear.2.1, yiX5_clear.2.2.1, yiX5_clear.2.2.2, by decide, by decide⟩, ycX5_clear, zT_in 997 (by decide +kernel) rfl, yvX5_clear, ywX5_clear⟩
theorem lkX7_line_106 : zLkV mX7_line 106 mX6_amountOn 2 := ⟨⟨yiX6_amountOn.1, yiX6_amountOn.2.1, yiX6_amountOn.2.2.1, yiX6_amountOn.2.2.2, by decide, by decide⟩, ycX6_amountOn, zT_in 597 (by decide +kernel) rfl, yvX6_amountOn, ywX6_amountOn⟩
theorem lkX7_line_255 : zLkV mX7_line 255 mX5_separate 1 := ⟨⟨yiX5_separate.1, yiX5_separate.2.1, yiX5_separate.2.2.1, yiX5_separate.2.2.2, by decide, by decide⟩, ycX5_separate, zT_in 1001 (by decide +kernel) rfl, yvX5_separate, ywX5_separate⟩
theorem lkX7_line_258 : zLkV mX7_line 258 mX5_putNumber 1 := ⟨⟨yiX5_putNumber.1, yiX5_putNumber.2.1, yiX5_putNumber.2.2.1, yiX5_putNumber.2.2.2, by decide, by decide⟩, ycX5_putNumber, zT_in 1009 (by decide +kernel) rfl, yvX5_putNumber, ywX5_putNumber⟩
theorem lkX7_line_261 : zLkV mX7_line 261 mX5_put 1 := ⟨⟨yiX5_put.1, yiX5_put.2.1, yiX5_put.2.2.1, yiX5_put.2.2.2, by decide, by decide⟩, ycX5_put, zT_in 1013 (by decide +kernel) rfl, yvX5_put, ywX5_put⟩
theorem lkX7_line_262 : zLkV mX7_line 262 mX5_size 0 := ⟨⟨yiX5_size.1, yiX5_size.2.1, yiX5_size.2.2.1, yiX5_size.2.2.2, by decide, by decide⟩, ycX5_size, zT_in 1014 (by decide +kernel) rfl, yvX5_size, ywX5_size⟩
theorem lkX7_lineage_99 : zLkV mX7_lineage 99 mX7_checkVersion 1 := ⟨⟨yiX7_checkVersion.1, yiX7_checkVersion.2.1, yiX7_checkVersion.2.2.1, yiX7_checkVersion.2.2.2, by decide, by decide⟩, ycX7_checkVersion, zT_in 571 (by decide +kernel) rfl, yvX7_checkVersion, ywX7_checkVersion⟩
theorem lkX7_lineage_254 : zLkV mX7_lineage 254 mX5_clear 0 := ⟨⟨yiX5_clear.1, yiX5_clear.2.1, yiX5_clear.2.2.1, yiX5_clear.2.2.2, by decide, by decide⟩, ycX5_clear, zT_in 997 (by decide +kernel) rfl, yvX5_clear, ywX5_clear⟩
theorem lkX7_lineage_255 : zLkV mX7_lineage 255 mX5_separate 1 := ⟨⟨yiX5_separate.1, yiX5_separate.2.1, yiX5_separate.2.2.1, yiX5_separate.2.2.2, by decide, by decide⟩, ycX5_separate, zT_in 1001 (by decide +kernel) rfl, yvX5_separate, ywX5_separate⟩
theorem lkX7_lineage_258 : zLkV mX7_lineage 258 mX5_putNumber 1 := ⟨⟨yiX5_putNumber.1, yiX5_putNumber.2.1, yiX5_putNumber.2.2.1, yiX5_putNumber.2.2.2, by decide, by decide⟩, ycX5_putNumber, zT_in 1009 (by decide +kernel) rfl, yvX5_putNumber, ywX5_putNumber⟩
theorem lkX7_lineage_130 : zLkV mX7_lineage 130 mX6_parentOf 1 := ⟨⟨yiX6_parentOf.1, yiX6_parentOf.2.1, yiX6_parentOf.2.2.1, yiX6_parentOf.2.2.2, by decide, by decide⟩, ycX6_parentOf, zT_in 666 (by decide +kernel) rfl, yvX6_parentOf, ywX6_parentOf⟩
theorem lkX7_lineage_262 : zLkV mX7_lineage 262 mX5_size 0 := ⟨⟨yiX5_size.1, yiX5_size.2.1, yiX5_size.2.2.1, yiX5_size.2.2.2, by decide, by decide⟩, ycX5_size, zT_in 1014 (by decide +kernel) rfl, yvX5_size, ywX5_size⟩
theorem lkX7_character_262 : zLkV mX7_character 262 mX5_size 0 := ⟨⟨yiX5_size.1, yiX5_size.2.1, yiX5_size.2.2.1, yiX5_size.2.2.2, by decide, by decide⟩, ycX5_size, zT_in 1014 (by decide +kernel) rfl, yvX5_size, ywX5_size⟩
theorem lkX7_character_268 : zLkV mX7_character 268 mX5_signAt 1 := ⟨⟨yiX5_signAt.1, yiX5_signAt.2.1, yiX5_signAt.2.2.1, yiX5_signAt.2.2.2, by decide, by decide⟩, ycX5_signAt, zT_in 1033 (by decide +kernel) rfl, yvX5_signAt, ywX5_signAt⟩
theorem lkX7_mean_99 : zLkV mX7_mean 99 mX7_checkVersion 1 := ⟨⟨yiX7_checkVersion.1, yiX7_checkVersion.2.1, yiX7_checkVersion.2.2.1, yiX7_checkVersion.2.2.2, by decide, by decide⟩, ycX7_checkVersion, zT_in 571 (by decide +kernel) rfl, yvX7_checkVersion, ywX7_checkVersion⟩
theorem lkX7_mean_272 : zLkV mX7_mean 272 mX6_totalOf 2 := ⟨⟨yiX6_totalOf.1, yiX6_totalOf.2.1, yiX6_totalOf.2.2.1, yiX6_totalOf.2.2.2, by decide, by decide⟩, ycX6_totalOf, zT_in 1044 (by decide +kernel) rfl, yvX6_totalOf, ywX6_totalOf⟩
theorem lkX7_spared_194 : zLkV mX7_spared 194 mX6_size 0 := ⟨⟨yiX6_size.1, yiX6_size.2.1, yiX6_size.2.2.1, yiX6_size.2.2.2, by decide, by decide⟩, ycX6_size, zT_in 252 (by decide +kernel) rfl, yvX6_size, ywX6_size⟩
theorem lkX7_spared_277 : zLkV mX7_spared 277 mX6_pagesMade 0 := ⟨⟨yiX6_pagesMade.1, yiX6_pagesMade.2.1, yiX6_pagesMade.2.2.1, yiX6_pagesMade.2.2.2, by decide, by decide⟩, ycX6_pagesMade, zT_in 256 (by decide +kernel) rfl, yvX6_pagesMade, ywX6_pagesMade⟩
theorem lkX7_account_194 : zLkV mX7_account 194 mX6_size 0 := ⟨⟨yiX6_size.1, yiX6_size.2.1, yiX6_size.2.2.1, yiX6_size.2.2.2, by decide, by decide⟩, ycX6_size, zT_in 252 (by decide +kernel) rfl, yvX6_size, ywX6_size⟩
theorem lkX7_account_277 : zLkV mX7_account 277 mX6_pagesMade 0 := ⟨⟨yiX6_pagesMade.1, yiX6_pagesMade.2.1, yiX6_pagesMade.2.2.1, yiX6_pagesMade.2.2.2, by decide, by decide⟩, ycX6_pagesMade, zT_in 256 (by decide +kernel) rfl, yvX6_pagesMade, ywX6_pagesMade⟩
theorem lkX7_account_283 : zLkV mX7_account 283 mX0_versionsOfHouses 0 := ⟨⟨yiX0_versionsOfHouses.1, yiX0_versionsOfHouses.2.1, yiX0_versionsOfHouses.2.2.1, yiX0_versionsOfHouses.2.2.2, by decide, by decide⟩, ycX0_versionsOfHouses, zT_in 1053 (by decide +kernel) rfl, yvX0_versionsOfHouses, ywX0_versionsOfHouses⟩
theorem lkX7_account_286 : zLkV mX7_account 286 mX6_withoutChildren 0 := ⟨⟨yiX6_withoutChildren.1, yiX6_withoutChildren.2.1, yiX6_withoutChildren.2.2.1, yiX6_withoutChildren.2.2.2, by decide, by decide⟩, ycX6_withoutChildren, zT_in 1058 (by decide +kernel) rfl, yvX6_withoutChildren, ywX6_withoutChildren⟩
theorem lkX7_account_295 : zLkV mX7_account 295 mX3_size 0 := ⟨⟨yiX3_size.1, yiX3_size.2.1, yiX3_size.2.2.1, yiX3_size.2.2.2, by decide, by decide⟩, ycX3_size, zT_in 1063 (by decide +kernel) rfl, yvX3_size, ywX3_size⟩
theorem lkX7_account_216 : zLkV mX7_account 216 mX2_size 0 := ⟨⟨yiX2_size.1, yiX2_size.2.1, yiX2_size.2.2.1, yiX2_size.2.2.2, by decide, by decide⟩, ycX2_size, zT_in 857 (by decide +kernel) rfl, yvX2_size, ywX2_size⟩
theorem lkX7_undo_295 : zLkV mX7_undo 295 mX3_size 0 := ⟨⟨yiX3_size.1, yiX3_size.2.1, yiX3_size.2.2.1, yiX3_size.2.2.2, by decide, by decide⟩, ycX3_size, zT_in 1063 (by decide +kernel) rfl, yvX3_size, ywX3_size⟩
theorem lkX7_undo_300 : zLkV mX7_undo 300 mX3_dropLatest 0 := ⟨⟨yiX3_dropLatest.1, yiX3_dropLatest.2.1, yiX3_dropLatest.2.2.1, yiX3_dropLatest.2.2.2, by decide, by decide⟩, ycX3_dropLatest, zT_in 1076 (by decide +kernel) rfl, yvX3_dropLatest, ywX3_dropLatest⟩
theorem lkX7_undo_303 : zLkV mX7_undo 303 mX3_takeBack 1 := ⟨⟨yiX3_takeBack.1, yiX3_takeBack.2.1, yiX3_takeBack.2.2.1, yiX3_takeBack.2.2.2, by decide, by decide⟩, ycX3_takeBack, zT_in 373 (by decide +kernel) rfl, yvX3_takeBack, ywX3_takeBack⟩
theorem lkX7_save_306 : zLkV mX7_save 306 mX0_copyFrom 1 := ⟨⟨yiX0_copyFrom.1, yiX0_copyFrom.2.1, yiX0_copyFrom.2.2.1, yiX0_copyFrom.2.2.2, by decide, by decide⟩, ycX0_copyFrom, zT_in 279 (by decide +kernel) rfl, yvX0_copyFrom, ywX0_copyFrom⟩
theorem lkX7_save_194 : zLkV mX7_save 194 mX6_size 0 := ⟨⟨yiX6_size.1, yiX6_size.2.1, yiX6_size.2.2.1, yiX6_size.2.2.2, by decide, by decide⟩, ycX6_size, zT_in 252 (by decide +kernel) rfl, yvX6_size, ywX6_size⟩
theorem lkX7_restore_306 : zLkV mX7_restore 306 mX0_copyFrom 1 := ⟨⟨yiX0_copyFrom.1, yiX0_copyFrom.2.1, yiX0_copyFrom.2.2.1, yiX0_copyFrom.2.2.2, by decide, by decide⟩, ycX0_copyFrom, zT_in 279 (by decide +kernel) rfl, yvX0_copyFrom, ywX0_copyFrom⟩
theorem lkX7_restore_311 : zLkV mX7_restore 311 mX3_forget 0 := ⟨⟨yiX3_forget.1, yiX3_forget.2.1, yiX3_forget.2.2.1, yiX3_forget.2.2.2, by decide, by decide⟩, ycX3_forget, zT_in 1088 (by decide +kernel) rfl, yvX3_forget, ywX3_forget⟩
theorem lkX7_restore_194 : zLkV mX7_restore 194 mX6_size 0 := ⟨⟨yiX6_size.1, yiX6_size.2.1, yiX6_size.2.2.1, yiX6_size.2.2.2, by decide, by decide⟩, ycX6_size, zT_in 252 (by decide +kernel) rfl, yvX6_size, ywX6_size⟩
theorem lkX7_settled_303 : zLkV mX7_settled 303 mX3_takeBack 1 := ⟨⟨yiX3_takeBack.1, yiX3_takeBack.2.1, yiX3_takeBack.2.2.1, yiX3_takeBack.2.2.2, by decide, by decide⟩, ycX3_takeBack, zT_in 373 (by decide +kernel) rfl, yvX3_takeBack, ywX3_takeBack⟩
theorem lkX7_settled_319 : zLkV mX7_settled 319 mX3_keep 0 := ⟨⟨yiX3_keep.1, yiX3_keep.2.1, yiX3_keep.2.2.1, yiX3_keep.2.2.2, by decide, by decide⟩, ycX3_keep, zT_in 455 (by decide +kernel) rfl, yvX3_keep, ywX3_keep⟩
theorem lkX7_checkVersion_322 : zLkV mX7_checkVersion 322 mX6_has 1 := ⟨⟨yiX6_has.1, yiX6_has.2.1, yiX6_has.2.2.1, yiX6_has.2.2.2, by decide, by decide⟩, ycX6_has, zT_in 575 (by decide +kernel) rfl, yvX6_has, ywX6_has⟩
theorem lkX7_checkHouse_328 : zLkS mX7_checkHouse 328 mX7_isHouse 1 := ⟨⟨yiX7_isHouse.1, yiX7_isHouse.2.1, yiX7_isHouse.2.2.1, yiX7_isHouse.2.2.2, by decide, by decide⟩, ycX7_isHouse, zT_in 545 (by decide +kernel) rfl, ysX7_isHouse⟩
theorem lkX7_checkLines_333 : zLkS mX7_checkLines 333 mX7_isLine 1 := ⟨⟨yiX7_isLine.1, yiX7_isLine.2.1, yiX7_isLine.2.2.1, yiX7_isLine.2.2.2, by decide, by decide⟩, ycX7_isLine, zT_in 580 (by decide +kernel) rfl, ysX7_isLine⟩
theorem lkX7_checkSpan_338 : zLkS mX7_checkSpan 338 mX7_isSpan 1 := ⟨⟨yiX7_isSpan.1, yiX7_isSpan.2.1, yiX7_isSpan.2.2.1, yiX7_isSpan.2.2.2, by decide, by decide⟩, ycX7_isSpan, zT_in 355 (by decide +kernel) rfl, ysX7_isSpan⟩
theorem lkX7_isInside_338 : zLkS mX7_isInside 338 mX7_isSpan 1 := ⟨⟨yiX7_isSpan.1, yiX7_isSpan.2.1, yiX7_isSpan.2.2.1, yiX7_isSpan.2.2.2, by decide, by decide⟩, ycX7_isSpan, zT_in 355 (by decide +kernel) rfl, ysX7_isSpan⟩
theorem lkX7_isCut_338 : zLkS mX7_isCut 338 mX7_isSpan 1 := ⟨⟨yiX7_isSpan.1, yiX7_isSpan.2.1, yiX7_isSpan.2.2.1, yiX7_isSpan.2.2.2, by decide, by decide⟩, ycX7_isSpan, zT_in 355 (by decide +kernel) rfl, ysX7_isSpan⟩
theorem zlX8_1 {M : zM} (h : M.1.cls = RX8) : Cond.methodLink M.1.cls 1 Lib.objectInit ∈ zT := by rw [h]; exact zT_in 1097 (by decide +kernel) rfl
theorem lkX8_keeps_64 : zLkS mX8_keeps 64 mX8_copies 4 := ⟨⟨yiX8_copies.1, yiX8_copies.2.1, yiX8_copies.2.2.1, yiX8_copies.2.2.2, by decide, by decide⟩, ycX8_copies, zT_in 1198 (by decide +kernel) rfl, ysX8_copies⟩
theorem lkX8_isVersion_68 : zLkS mX8_isVersion 68 mX8_in 3 := ⟨⟨yiX8_in.1, yiX8_in.2.1, yiX8_in.2.2.1, yiX8_in.2.2.2, by decide, by decide⟩, ycX8_in, zT_in 1176 (by decide +kernel) rfl, ysX8_in⟩
theorem lkX8_isHouse_68 : zLkS mX8_isHouse 68 mX8_in 3 := ⟨⟨yiX8_in.1, yiX8_in.2.1, yiX8_in.2.2.1, yiX8_in.2.2.2, by decide, by decide⟩, ycX8_in, zT_in 1176 (by decide +kernel) rfl, ysX8_in⟩
theorem lkX8_isLine_68 : zLkS mX8_isLine 68 mX8_in 3 := ⟨⟨yiX8_in.1, yiX8_in.2.1, yiX8_in.2.2.1, yiX8_in.2.2.2, by decide, by decide⟩, ycX8_in, zT_in 1176 (by decide +kernel) rfl, ysX8_in⟩
theorem lkX8_amountOf_72 : zLkV mX8_amountOf 72 mX8_of 2 := ⟨⟨yiX8_of.1, yiX8_of.2.1, yiX8_of.2.2.1, yiX8_of.2.2.2, by decide, by decide⟩, ycX8_of, zT_in 1190 (by decide +kernel) rfl, yvX8_of, ywX8_of⟩
theorem lkX8_comes_72 : zLkV mX8_comes 72 mX8_of 2 := ⟨⟨yiX8_of.1, yiX8_of.2.1, yiX8_of.2.2.1, yiX8_of.2.2.2, by decide, by decide⟩, ycX8_of, zT_in 1190 (by decide +kernel) rfl, yvX8_of, ywX8_of⟩
theorem lkX8_comes_76 : zLkV mX8_comes 76 mX8_lays 3 := ⟨⟨yiX8_lays.1, yiX8_lays.2.1, yiX8_lays.2.2.1, yiX8_lays.2.2.2, by decide, by decide⟩, ycX8_lays, zT_in 1205 (by decide +kernel) rfl, yvX8_lays, ywX8_lays⟩
theorem lkX8_write_80 : zLkS mX8_write 80 mX8_isHouse 1 := ⟨⟨yiX8_isHouse.1, yiX8_isHouse.2.1, yiX8_isHouse.2.2.1, yiX8_isHouse.2.2.2, by decide, by decide⟩, ycX8_isHouse, zT_in 1173 (by decide +kernel) rfl, ysX8_isHouse⟩
theorem lkX8_write_84 : zLkS mX8_write 84 mX8_isLine 1 := ⟨⟨yiX8_isLine.1, yiX8_isLine.2.1, yiX8_isLine.2.2.1, yiX8_isLine.2.2.2, by decide, by decide⟩, ycX8_isLine, zT_in 1179 (by decide +kernel) rfl, ysX8_isLine⟩
theorem lkX8_write_68 : zLkS mX8_write 68 mX8_in 3 := ⟨⟨yiX8_in.1, yiX8_in.2.1, yiX8_in.2.2.1, yiX8_in.2.2.2, by decide, by decide⟩, ycX8_in, zT_in 1176 (by decide +kernel) rfl, ysX8_in⟩
theorem lkX8_write_87 : zLkV mX8_write 87 mX8_refuses 2 := ⟨⟨yiX8_refuses.1, yiX8_refuses.2.1, yiX8_refuses.2.2.1, yiX8_refuses.2.2.2, by decide, by decide⟩, ycX8_refuses, zT_in 1182 (by decide +kernel) rfl, yvX8_refuses, ywX8_refuses⟩
theorem lkX8_write_90 : zLkV mX8_write 90 mX8_amountOf 2 := ⟨⟨yiX8_amountOf.1, yiX8_amountOf.2.1, yiX8_amountOf.2.2.1, yiX8_amountOf.2.2.2, by decide, by decide⟩, ycX8_amountOf, zT_in 1186 (by decide +kernel) rfl, yvX8_amountOf, ywX8_amountOf⟩
theorem lkX8_write_93 : zLkV mX8_write 93 mX8_keeps 1 := ⟨⟨yiX8_keeps.1, yiX8_keeps.2.1, yiX8_keeps.2.2.1, yiX8_keeps.2.2.2, by decide, by decide⟩, ycX8_keeps, zT_in 1194 (by decide +kernel) rfl, yvX8_keeps, ywX8_keeps⟩
theorem lkX8_write_97 : zLkV mX8_write 97 mX8_comes 1 := ⟨⟨yiX8_comes.1, yiX8_comes.2.1, yiX8_comes.2.2.1, yiX8_comes.2.2.2, by decide, by decide⟩, ycX8_comes, zT_in 1201 (by decide +kernel) rfl, yvX8_comes, ywX8_comes⟩
theorem lkX8_write_76 : zLkV mX8_write 76 mX8_lays 3 := ⟨⟨yiX8_lays.1, yiX8_lays.2.1, yiX8_lays.2.2.1, yiX8_lays.2.2.2, by decide, by decide⟩, ycX8_lays, zT_in 1205 (by decide +kernel) rfl, yvX8_lays, ywX8_lays⟩
theorem lkX8_write_101 : zLkV mX8_write 101 mX8_has 3 := ⟨⟨yiX8_has.1, yiX8_has.2.1, yiX8_has.2.2.1, yiX8_has.2.2.2, by decide, by decide⟩, ycX8_has, zT_in 1209 (by decide +kernel) rfl, yvX8_has, ywX8_has⟩
theorem lkX8_areLike_90 : zLkV mX8_areLike 90 mX8_amountOf 2 := ⟨⟨yiX8_amountOf.1, yiX8_amountOf.2.1, yiX8_amountOf.2.2.1, yiX8_amountOf.2.2.2, by decide, by decide⟩, ycX8_amountOf, zT_in 1186 (by decide +kernel) rfl, yvX8_amountOf, ywX8_amountOf⟩
theorem lkX8_graft_80 : zLkS mX8_graft 80 mX8_isHouse 1 := ⟨⟨yiX8_isHouse.1, yiX8_isHouse.2.1, yiX8_isHouse.2.2.1, yiX8_isHouse.2.2.2, by decide, by decide⟩, ycX8_isHouse, zT_in 1173 (by decide +kernel) rfl, ysX8_isHouse⟩
theorem lkX8_graft_84 : zLkS mX8_graft 84 mX8_isLine 1 := ⟨⟨yiX8_isLine.1, yiX8_isLine.2.1, yiX8_isLine.2.2.1, yiX8_isLine.2.2.2, by decide, by decide⟩, ycX8_isLine, zT_in 1179 (by decide +kernel) rfl, ysX8_isLine⟩
theorem lkX8_graft_87 : zLkV mX8_graft 87 mX8_refuses 2 := ⟨⟨yiX8_refuses.1, yiX8_refuses.2.1, yiX8_refuses.2.2.1, yiX8_refuses.2.2.2, by decide, by decide⟩, ycX8_refuses, zT_in 1182 (by decide +kernel) rfl, yvX8_refuses, ywX8_refuses⟩
theorem lkX8_graft_104 : zLkV mX8_graft 104 mX8_isVersion 1 := ⟨⟨yiX8_isVersion.1, yiX8_isVersion.2.1, yiX8_isVersion.2.2.1, yiX8_isVersion.2.2.2, by decide, by decide⟩, ycX8_isVersion, zT_in 1217 (by decide +kernel) rfl, yvX8_isVersion, ywX8_isVersion⟩
theorem lkX8_graft_107 : zLkV mX8_graft 107 mX8_areLike 4 := ⟨⟨yiX8_areLike.1, yiX8_areLike.2.1, yiX8_areLike.2.2.1, yiX8_areLike.2.2.2, by decide, by decide⟩, ycX8_areLike, zT_in 1221 (by decide +kernel) rfl, yvX8_areLike, ywX8_areLike⟩
theorem lkX8_graft_93 : zLkV mX8_graft 93 mX8_keeps 1 := ⟨⟨yiX8_keeps.1, yiX8_keeps.2.1, yiX8_keeps.2.2.1, yiX8_keeps.2.2.2, by decide, by decide⟩, ycX8_keeps, zT_in 1194 (by decide +kernel) rfl, yvX8_keeps, ywX8_keeps⟩
theorem lkX8_graft_97 : zLkV mX8_graft 97 mX8_comes 1 := ⟨⟨yiX8_comes.1, yiX8_comes.2.1, yiX8_comes.2.2.1, yiX8_comes.2.2.2, by decide, by decide⟩, ycX8_comes, zT_in 1201 (by decide +kernel) rfl, yvX8_comes, ywX8_comes⟩
theorem lkX8_graft_90 : zLkV mX8_graft 90 mX8_amountOf 2 := ⟨⟨yiX8_amountOf.1, yiX8_amountOf.2.1, yiX8_amountOf.2.2.1, yiX8_amountOf.2.2.2, by decide, by decide⟩, ycX8_amountOf, zT_in 1186 (by decide +kernel) rfl, yvX8_amountOf, ywX8_amountOf⟩
theorem lkX8_graft_76 : zLkV mX8_graft 76 mX8_lays 3 := ⟨⟨yiX8_lays.1, yiX8_lays.2.1, yiX8_lays.2.2.1, yiX8_lays.2.2.2, by decide, by decide⟩, ycX8_lays, zT_in 1205 (by decide +kernel) rfl, yvX8_lays, ywX8_lays⟩
theorem lkX8_graft_101 : zLkV mX8_graft 101 mX8_has 3 := ⟨⟨yiX8_has.1, yiX8_has.2.1, yiX8_has.2.2.1, yiX8_has.2.2.2, by decide, by decide⟩, ycX8_has, zT_in 1209 (by decide +kernel) rfl, yvX8_has, ywX8_has⟩
theorem lkX8_graft_111 : zLkV mX8_graft 111 mX8_isWithin0 3 := ⟨⟨yiX8_isWithin0.1, yiX8_isWithin0.2.1, yiX8_isWithin0.2.2.1, yiX8_isWithin0.2.2.2, by decide, by decide⟩, ycX8_isWithin0, zT_in 1225 (by decide +kernel) rfl, yvX8_isWithin0, ywX8_isWithin0⟩
theorem lkX8_graft_72 : zLkV mX8_graft 72 mX8_of 2 := ⟨⟨yiX8_of.1, yiX8_of.2.1, yiX8_of.2.2.1, yiX8_of.2.2.2, by decide, by decide⟩, ycX8_of, zT_in 1190 (by decide +kernel) rfl, yvX8_of, ywX8_of⟩
theorem lkX8_fork_80 : zLkS mX8_fork 80 mX8_isHouse 1 := ⟨⟨yiX8_isHouse.1, yiX8_isHouse.2.1, yiX8_isHouse.2.2.1, yiX8_isHouse.2.2.2, by decide, by decide⟩, ycX8_isHouse, zT_in 1173 (by decide +kernel) rfl, ysX8_isHouse⟩
theorem lkX8_fork_87 : zLkV mX8_fork 87 mX8_refuses 2 := ⟨⟨yiX8_refuses.1, yiX8_refuses.2.1, yiX8_refuses.2.2.1, yiX8_refuses.2.2.2, by decide, by decide⟩, ycX8_refuses, zT_in 1182 (by decide +kernel) rfl, yvX8_refuses, ywX8_refuses⟩
theorem lkX8_fork_93 : zLkV mX8_fork 93 mX8_keeps 1 := ⟨⟨yiX8_keeps.1, yiX8_keeps.2.1, yiX8_keeps.2.2.1, yiX8_keeps.2.2.2, by decide, by decide⟩, ycX8_keeps, zT_in 1194 (by decide +kernel) rfl, yvX8_keeps, ywX8_keeps⟩
theorem lkX8_ancestors_72 : zLkV mX8_ancestors 72 mX8_of 2 := ⟨⟨yiX8_of.1, yiX8_of.2.1, yiX8_of.2.2.1, yiX8_of.2.2.2, by decide, by decide⟩, ycX8_of, zT_in 1190 (by decide +kernel) rfl, yvX8_of, ywX8_of⟩
theorem lkX8_back_80 : zLkS mX8_back 80 mX8_isHouse 1 := ⟨⟨yiX8_isHouse.1, yiX8_isHouse.2.1, yiX8_isHouse.2.2.1, yiX8_isHouse.2.2.2, by decide, by decide⟩, ycX8_isHouse, zT_in 1173 (by decide +kernel) rfl, ysX8_isHouse⟩
theorem lkX8_back_68 : zLkS mX8_back 68 mX8_in 3 := ⟨⟨yiX8_in.1, yiX8_in.2.1, yiX8_in.2.2.1, yiX8_in.2.2.2, by decide, by decide⟩, ycX8_in, zT_in 1176 (by decide +kernel) rfl, ysX8_in⟩
theorem lkX8_back_87 : zLkV mX8_back 87 mX8_refuses 2 := ⟨⟨yiX8_refuses.1, yiX8_refuses.2.1, yiX8_refuses.2.2.1, yiX8_refuses.2.2.2, by decide, by decide⟩, ycX8_refuses, zT_in 1182 (by decide +kernel) rfl, yvX8_refuses, ywX8_refuses⟩
theorem lkX8_back_114 : zLkV mX8_back 114 mX8_ancestors 1 := ⟨⟨yiX8_ancestors.1, yiX8_ancestors.2.1, yiX8_ancestors.2.2.1, yiX8_ancestors.2.2.2, by decide, by decide⟩, ycX8_ancestors, zT_in 1237 (by decide +kernel) rfl, yvX8_ancestors, ywX8_ancestors⟩
theorem lkX8_back_93 : zLkV mX8_back 93 mX8_keeps 1 := ⟨⟨yiX8_keeps.1, yiX8_keeps.2.1, yiX8_keeps.2.2.1, yiX8_keeps.2.2.2, by decide, by decide⟩, ycX8_keeps, zT_in 1194 (by decide +kernel) rfl, yvX8_keeps, ywX8_keeps⟩
theorem lkX8_back_72 : zLkV mX8_back 72 mX8_of 2 := ⟨⟨yiX8_of.1, yiX8_of.2.1, yiX8_of.2.2.1, yiX8_of.2.2.2, by decide, by decide⟩, ycX8_of, zT_in 1190 (by decide +kernel) rfl, yvX8_of, ywX8_of⟩
theorem lkX8_pass_68 : zLkS mX8_pass 68 mX8_in 3 := ⟨⟨yiX8_in.1, yiX8_in.2.1, yiX8_in.2.2.1, yiX8_in.2.2.2, by decide, by decide⟩, ycX8_in, zT_in 1176 (by decide +kernel) rfl, ysX8_in⟩
theorem lkX8_pass_87 : zLkV mX8_pass 87 mX8_refuses 2 := ⟨⟨yiX8_refuses.1, yiX8_refuses.2.1, yiX8_refuses.2.2.1, yiX8_refuses.2.2.2, by decide, by decide⟩, ycX8_refuses, zT_in 1182 (by decide +kernel) rfl, yvX8_refuses, ywX8_refuses⟩
theorem lkX8_pass_93 : zLkV mX8_pass 93 mX8_keeps 1 := ⟨⟨yiX8_keeps.1, yiX8_keeps.2.1, yiX8_keeps.2.2.1, yiX8_keeps.2.2.2, by decide, by decide⟩, ycX8_keeps, zT_in 1194 (by decide +kernel) rfl, yvX8_keeps, ywX8_keeps⟩
theorem lkX8_ledger_80 : zLkS mX8_ledger 80 mX8_isHouse 1 := ⟨⟨yiX8_isHouse.1, yiX8_isHouse.2.1, yiX8_isHouse.2.2.1, yiX8_isHouse.2.2.2, by decide, by decide⟩, ycX8_isHouse, zT_in 1173 (by decide +kernel) rfl, ysX8_isHouse⟩
theorem lkX8_ledger_117 : zLkV mX8_ledger 117 mX8_fails 1 := ⟨⟨yiX8_fails.1, yiX8_fails.2.1, yiX8_fails.2.2.1, yiX8_fails.2.2.2, by decide, by decide⟩, ycX8_fails, zT_in 1249 (by decide +kernel) rfl, yvX8_fails, ywX8_fails⟩
theorem lkX8_amount_104 : zLkV mX8_amount 104 mX8_isVersion 1 := ⟨⟨yiX8_isVersion.1, yiX8_isVersion.2.1, yiX8_isVersion.2.2.1, yiX8_isVersion.2.2.2, by decide, by decide⟩, ycX8_isVersion, zT_in 1217 (by decide +kernel) rfl, yvX8_isVersion, ywX8_isVersion⟩
theorem lkX8_amount_84 : zLkS mX8_amount 84 mX8_isLine 1 := ⟨⟨yiX8_isLine.1, yiX8_isLine.2.1, yiX8_isLine.2.2.1, yiX8_isLine.2.2.2, by decide, by decide⟩, ycX8_isLine, zT_in 1179 (by decide +kernel) rfl, ysX8_isLine⟩
theorem lkX8_amount_117 : zLkV mX8_amount 117 mX8_fails 1 := ⟨⟨yiX8_fails.1, yiX8_fails.2.1, yiX8_fails.2.2.1, yiX8_fails.2.2.2, by decide, by decide⟩, ycX8_fails, zT_in 1249 (by decide +kernel) rfl, yvX8_fails, ywX8_fails⟩
theorem lkX8_amount_90 : zLkV mX8_amount 90 mX8_amountOf 2 := ⟨⟨yiX8_amountOf.1, yiX8_amountOf.2.1, yiX8_amountOf.2.2.1, yiX8_amountOf.2.2.2, by decide, by decide⟩, ycX8_amountOf, zT_in 1186 (by decide +kernel) rfl, yvX8_amountOf, ywX8_amountOf⟩
theorem lkX8_sumOf_90 : zLkV mX8_sumOf 90 mX8_amountOf 2 := ⟨⟨yiX8_amountOf.1, yiX8_amountOf.2.1, yiX8_amountOf.2.2.1, yiX8_amountOf.2.2.2, by decide, by decide⟩, ycX8_amountOf, zT_in 1186 (by decide +kernel) rfl, yvX8_amountOf, ywX8_amountOf⟩
theorem lkX8_areLines_84 : zLkS mX8_areLines 84 mX8_isLine 1 := ⟨⟨yiX8_isLine.1, yiX8_isLine.2.1, yiX8_isLine.2.2.1, yiX8_isLine.2.2.2, by decide, by decide⟩, ycX8_isLine, zT_in 1179 (by decide +kernel) rfl, ysX8_isLine⟩
theorem lkX8_sum_104 : zLkV mX8_sum 104 mX8_isVersion 1 := ⟨⟨yiX8_isVersion.1, yiX8_isVersion.2.1, yiX8_isVersion.2.2.1, yiX8_isVersion.2.2.2, by decide, by decide⟩, ycX8_isVersion, zT_in 1217 (by decide +kernel) rfl, yvX8_isVersion, ywX8_isVersion⟩
theorem lkX8_sum_120 : zLkS mX8_sum 120 mX8_areLines 2 := ⟨⟨yiX8_areLines.1, yiX8_areLines.2.1, yiX8_areLines.2.2.1, yiX8_areLines.2.2.2, by decide, by decide⟩, ycX8_areLines, zT_in 1261 (by decide +kernel) rfl, ysX8_areLines⟩
theorem lkX8_sum_117 : zLkV mX8_sum 117 mX8_fails 1 := ⟨⟨yiX8_fails.1, yiX8_fails.2.1, yiX8_fails.2.2.1, yiX8_fails.2.2.2, by decide, by decide⟩, ycX8_fails, zT_in 1249 (by decide +kernel) rfl, yvX8_fails, ywX8_fails⟩
theorem lkX8_sum_124 : zLkV mX8_sum 124 mX8_sumOf 3 := ⟨⟨yiX8_sumOf.1, yiX8_sumOf.2.1, yiX8_sumOf.2.2.1, yiX8_sumOf.2.2.2, by decide, by decide⟩, ycX8_sumOf, zT_in 1264 (by decide +kernel) rfl, yvX8_sumOf, ywX8_sumOf⟩
theorem lkX8_sumAgain_128 : zLkV mX8_sumAgain 128 mX8_sum 3 := ⟨⟨yiX8_sum.1, yiX8_sum.2.1, yiX8_sum.2.2.1, yiX8_sum.2.2.2, by decide, by decide⟩, ycX8_sum, zT_in 1272 (by decide +kernel) rfl, yvX8_sum, ywX8_sum⟩
theorem lkX8_most_104 : zLkV mX8_most 104 mX8_isVersion 1 := ⟨⟨yiX8_isVersion.1, yiX8_isVersion.2.1, yiX8_isVersion.2.2.1, yiX8_isVersion.2.2.2, by decide, by decide⟩, ycX8_isVersion, zT_in 1217 (by decide +kernel) rfl, yvX8_isVersion, ywX8_isVersion⟩
theorem lkX8_most_120 : zLkS mX8_most 120 mX8_areLines 2 := ⟨⟨yiX8_areLines.1, yiX8_areLines.2.1, yiX8_areLines.2.2.1, yiX8_areLines.2.2.2, by decide, by decide⟩, ycX8_areLines, zT_in 1261 (by decide +kernel) rfl, ysX8_areLines⟩
theorem lkX8_most_117 : zLkV mX8_most 117 mX8_fails 1 := ⟨⟨yiX8_fails.1, yiX8_fails.2.1, yiX8_fails.2.2.1, yiX8_fails.2.2.2, by decide, by decide⟩, ycX8_fails, zT_in 1249 (by decide +kernel) rfl, yvX8_fails, ywX8_fails⟩
theorem lkX8_most_90 : zLkV mX8_most 90 mX8_amountOf 2 := ⟨⟨yiX8_amountOf.1, yiX8_amountOf.2.1, yiX8_amountOf.2.2.1, yiX8_amountOf.2.2.2, by decide, by decide⟩, ycX8_amountOf, zT_in 1186 (by decide +kernel) rfl, yvX8_amountOf, ywX8_amountOf⟩
theorem lkX8_reached_104 : zLkV mX8_reached 104 mX8_isVersion 1 := ⟨⟨yiX8_isVersion.1, yiX8_isVersion.2.1, yiX8_isVersion.2.2.1, yiX8_isVersion.2.2.2, by decide, by decide⟩, ycX8_isVersion, zT_in 1217 (by decide +kernel) rfl, yvX8_isVersion, ywX8_isVersion⟩
theorem lkX8_reached_117 : zLkV mX8_reached 117 mX8_fails 1 := ⟨⟨yiX8_fails.1, yiX8_fails.2.1, yiX8_fails.2.2.1, yiX8_fails.2.2.2, by decide, by decide⟩, ycX8_fails, zT_in 1249 (by decide +kernel) rfl, yvX8_fails, ywX8_fails⟩
theorem lkX8_reached_124 : zLkV mX8_reached 124 mX8_sumOf 3 := ⟨⟨yiX8_sumOf.1, yiX8_sumOf.2.1, yiX8_sumOf.2.2.1, yiX8_sumOf.2.2.2, by decide, by decide⟩, ycX8_sumOf, zT_in 1264 (by decide +kernel) rfl, yvX8_sumOf, ywX8_sumOf⟩
theorem lkX8_children_72 : zLkV mX8_children 72 mX8_of 2 := ⟨⟨yiX8_of.1, yiX8_of.2.1, yiX8_of.2.2.1, yiX8_of.2.2.2, by decide, by decide⟩, ycX8_of, zT_in 1190 (by decide +kernel) rfl, yvX8_of, ywX8_of⟩
theorem lkX8_made_72 : zLkV mX8_made 72 mX8_of 2 := ⟨⟨yiX8_of.1, yiX8_of.2.1, yiX8_of.2.2.1, yiX8_of.2.2.2, by decide, by decide⟩, ycX8_of, zT_in 1190 (by decide +kernel) rfl, yvX8_of, ywX8_of⟩
theorem lkX8_apart0_90 : zLkV mX8_apart0 90 mX8_amountOf 2 := ⟨⟨yiX8_amountOf.1, yiX8_amountOf.2.1, yiX8_amountOf.2.2.1, yiX8_amountOf.2.2.2, by decide, by decide⟩, ycX8_amountOf, zT_in 1186 (by decide +kernel) rfl, yvX8_amountOf, ywX8_amountOf⟩
theorem lkX8_versionOf_104 : zLkV mX8_versionOf 104 mX8_isVersion 1 := ⟨⟨yiX8_isVersion.1, yiX8_isVersion.2.1, yiX8_isVersion.2.2.1, yiX8_isVersion.2.2.2, by decide, by decide⟩, ycX8_isVersion, zT_in 1217 (by decide +kernel) rfl, yvX8_isVersion, ywX8_isVersion⟩
theorem lkX8_versionOf_68 : zLkS mX8_versionOf 68 mX8_in 3 := ⟨⟨yiX8_in.1, yiX8_in.2.1, yiX8_in.2.2.1, yiX8_in.2.2.2, by decide, by decide⟩, ycX8_in, zT_in 1176 (by decide +kernel) rfl, ysX8_in⟩
theorem lkX8_versionOf_117 : zLkV mX8_versionOf 117 mX8_fails 1 := ⟨⟨yiX8_fails.1, yiX8_fails.2.1, yiX8_fails.2.2.1, yiX8_fails.2.2.2, by decide, by decide⟩, ycX8_fails, zT_in 1249 (by decide +kernel) rfl, yvX8_fails, ywX8_fails⟩
theorem lkX8_versionOf_72 : zLkV mX8_versionOf 72 mX8_of 2 := ⟨⟨yiX8_of.1, yiX8_of.2.1, yiX8_of.2.2.1, yiX8_of.2.2.2, by decide, by decide⟩, ycX8_of, zT_in 1190 (by decide +kernel) rfl, yvX8_of, ywX8_of⟩
theorem lkX8_versionOf_114 : zLkV mX8_versionOf 114 mX8_ancestors 1 := ⟨⟨yiX8_ancestors.1, yiX8_ancestors.2.1, yiX8_ancestors.2.2.1, yiX8_ancestors.2.2.2, by decide, by decide⟩, ycX8_ancestors, zT_in 1237 (by decide +kernel) rfl, yvX8_ancestors, ywX8_ancestors⟩
theorem lkX8_versionOf_131 : zLkV mX8_versionOf 131 mX8_children 1 := ⟨⟨yiX8_children.1, yiX8_children.2.1, yiX8_children.2.2.1, yiX8_children.2.2.2, by decide, by decide⟩, ycX8_children, zT_in 1285 (by decide +kernel) rfl, yvX8_children, ywX8_children⟩
theorem lkX8_versionOf_134 : zLkV mX8_versionOf 134 mX8_made 1 := ⟨⟨yiX8_made.1, yiX8_made.2.1, yiX8_made.2.2.1, yiX8_made.2.2.2, by decide, by decide⟩, ycX8_made, zT_in 1289 (by decide +kernel) rfl, yvX8_made, ywX8_made⟩
theorem lkX8_versionOf_137 : zLkV mX8_versionOf 137 mX8_apart0 2 := ⟨⟨yiX8_apart0.1, yiX8_apart0.2.1, yiX8_apart0.2.2.1, yiX8_apart0.2.2.2, by decide, by decide⟩, ycX8_apart0, zT_in 1293 (by decide +kernel) rfl, yvX8_apart0, ywX8_apart0⟩
theorem lkX8_versionOf_140 : zLkV mX8_versionOf 140 mX8_houses 1 := ⟨⟨yiX8_houses.1, yiX8_houses.2.1, yiX8_houses.2.2.1, yiX8_houses.2.2.2, by decide, by decide⟩, ycX8_houses, zT_in 1297 (by decide +kernel) rfl, yvX8_houses, ywX8_houses⟩
theorem lkX8_maker_104 : zLkV mX8_maker 104 mX8_isVersion 1 := ⟨⟨yiX8_isVersion.1, yiX8_isVersion.2.1, yiX8_isVersion.2.2.1, yiX8_isVersion.2.2.2, by decide, by decide⟩, ycX8_isVersion, zT_in 1217 (by decide +kernel) rfl, yvX8_isVersion, ywX8_isVersion⟩
theorem lkX8_maker_68 : zLkS mX8_maker 68 mX8_in 3 := ⟨⟨yiX8_in.1, yiX8_in.2.1, yiX8_in.2.2.1, yiX8_in.2.2.2, by decide, by decide⟩, ycX8_in, zT_in 1176 (by decide +kernel) rfl, ysX8_in⟩
theorem lkX8_maker_117 : zLkV mX8_maker 117 mX8_fails 1 := ⟨⟨yiX8_fails.1, yiX8_fails.2.1, yiX8_fails.2.2.1, yiX8_fails.2.2.2, by decide, by decide⟩, ycX8_fails, zT_in 1249 (by decide +kernel) rfl, yvX8_fails, ywX8_fails⟩
theorem lkX8_maker_72 : zLkV mX8_maker 72 mX8_of 2 := ⟨⟨yiX8_of.1, yiX8_of.2.1, yiX8_of.2.2.1, yiX8_of.2.2.2, by decide, by decide⟩, ycX8_of, zT_in 1190 (by decide +kernel) rfl, yvX8_of, ywX8_of⟩
theorem lkX8_had_80 : zLkS mX8_had 80 mX8_isHouse 1 := ⟨⟨yiX8_isHouse.1, yiX8_isHouse.2.1, yiX8_isHouse.2.2.1, yiX8_isHouse.2.2.2, by decide, by decide⟩, ycX8_isHouse, zT_in 1173 (by decide +kernel) rfl, ysX8_isHouse⟩
theorem lkX8_had_68 : zLkS mX8_had 68 mX8_in 3 := ⟨⟨yiX8_in.1, yiX8_in.2.1, yiX8_in.2.2.1, yiX8_in.2.2.2, by decide, by decide⟩, ycX8_in, zT_in 1176 (by decide +kernel) rfl, ysX8_in⟩
theorem lkX8_had_117 : zLkV mX8_had 117 mX8_fails 1 := ⟨⟨yiX8_fails.1, yiX8_fails.2.1, yiX8_fails.2.2.1, yiX8_fails.2.2.2, by decide, by decide⟩, ycX8_fails, zT_in 1249 (by decide +kernel) rfl, yvX8_fails, ywX8_fails⟩
theorem lkX8_had_72 : zLkV mX8_had 72 mX8_of 2 := ⟨⟨yiX8_of.1, yiX8_of.2.1, yiX8_of.2.2.1, yiX8_of.2.2.2, by decide, by decide⟩, ycX8_of, zT_in 1190 (by decide +kernel) rfl, yvX8_of, ywX8_of⟩
theorem lkX8_since_104 : zLkV mX8_since 104 mX8_isVersion 1 := ⟨⟨yiX8_isVersion.1, yiX8_isVersion.2.1, yiX8_isVersion.2.2.1, yiX8_isVersion.2.2.2, by decide, by decide⟩, ycX8_isVersion, zT_in 1217 (by decide +kernel) rfl, yvX8_isVersion, ywX8_isVersion⟩
theorem lkX8_since_84 : zLkS mX8_since 84 mX8_isLine 1 := ⟨⟨yiX8_isLine.1, yiX8_isLine.2.1, yiX8_isLine.2.2.1, yiX8_isLine.2.2.2, by decide, by decide⟩, ycX8_isLine, zT_in 1179 (by decide +kernel) rfl, ysX8_isLine⟩
theorem lkX8_since_117 : zLkV mX8_since 117 mX8_fails 1 := ⟨⟨yiX8_fails.1, yiX8_fails.2.1, yiX8_fails.2.2.1, yiX8_fails.2.2.2, by decide, by decide⟩, ycX8_fails, zT_in 1249 (by decide +kernel) rfl, yvX8_fails, ywX8_fails⟩
theorem lkX8_since_72 : zLkV mX8_since 72 mX8_of 2 := ⟨⟨yiX8_of.1, yiX8_of.2.1, yiX8_of.2.2.1, yiX8_of.2.2.2, by decide, by decide⟩, ycX8_of, zT_in 1190 (by decide +kernel) rfl, yvX8_of, ywX8_of⟩
theorem lkX8_since_90 : zLkV mX8_since 90 mX8_amountOf 2 := ⟨⟨yiX8_amountOf.1, yiX8_amountOf.2.1, yiX8_amountOf.2.2.1, yiX8_amountOf.2.2.2, by decide, by decide⟩, ycX8_amountOf, zT_in 1186 (by decide +kernel) rfl, yvX8_amountOf, ywX8_amountOf⟩
theorem lkX8_areVersions_104 : zLkV mX8_areVersions 104 mX8_isVersion 1 := ⟨⟨yiX8_isVersion.1, yiX8_isVersion.2.1, yiX8_isVersion.2.2.1, yiX8_isVersion.2.2.2, by decide, by decide⟩, ycX8_isVersion, zT_in 1217 (by decide +kernel) rfl, yvX8_isVersion, ywX8_isVersion⟩
theorem lkX8_areVersions_117 : zLkV mX8_areVersions 117 mX8_fails 1 := ⟨⟨yiX8_fails.1, yiX8_fails.2.1, yiX8_fails.2.2.1, yiX8_fails.2.2.2, by decide, by decide⟩, ycX8_fails, zT_in 1249 (by decide +kernel) rfl, yvX8_fails, ywX8_fails⟩
theorem lkX8_common_143 : zLkV mX8_common 143 mX8_areVersions 2 := ⟨⟨yiX8_areVersions.1, yiX8_areVersions.2.1, yiX8_areVersions.2.2.1, yiX8_areVersions.2.2.2, by decide, by decide⟩, ycX8_areVersions, zT_in 1317 (by decide +kernel) rfl, yvX8_areVersions, ywX8_areVersions⟩
theorem lkX8_common_72 : zLkV mX8_common 72 mX8_of 2 := ⟨⟨yiX8_of.1, yiX8_of.2.1, yiX8_of.2.2.1, yiX8_of.2.2.2, by decide, by decide⟩, ycX8_of, zT_in 1190 (by decide +kernel) rfl, yvX8_of, ywX8_of⟩
theorem lkX8_apart_143 : zLkV mX8_apart 143 mX8_areVersions 2 := ⟨⟨yiX8_areVersions.1, yiX8_areVersions.2.1, yiX8_areVersions.2.2.1, yiX8_areVersions.2.2.2, by decide, by decide⟩, ycX8_areVersions, zT_in 1317 (by decide +kernel) rfl, yvX8_areVersions, ywX8_areVersions⟩
theorem lkX8_apart_137 : zLkV mX8_apart 137 mX8_apart0 2 := ⟨⟨yiX8_apart0.1, yiX8_apart0.2.1, yiX8_apart0.2.2.1, yiX8_apart0.2.2.2, by decide, by decide⟩, ycX8_apart0, zT_in 1293 (by decide +kernel) rfl, yvX8_apart0, ywX8_apart0⟩
theorem lkX8_shared_143 : zLkV mX8_shared 143 mX8_areVersions 2 := ⟨⟨yiX8_areVersions.1, yiX8_areVersions.2.1, yiX8_areVersions.2.2.1, yiX8_areVersions.2.2.2, by decide, by decide⟩, ycX8_areVersions, zT_in 1317 (by decide +kernel) rfl, yvX8_areVersions, ywX8_areVersions⟩
theorem lkX8_shared_72 : zLkV mX8_shared 72 mX8_of 2 := ⟨⟨yiX8_of.1, yiX8_of.2.1, yiX8_of.2.2.1, yiX8_of.2.2.2, by decide, by decide⟩, ycX8_of, zT_in 1190 (by decide +kernel) rfl, yvX8_of, ywX8_of⟩
theorem lkX8_isOf_143 : zLkV mX8_isOf 143 mX8_areVersions 2 := ⟨⟨yiX8_areVersions.1, yiX8_areVersions.2.1, yiX8_areVersions.2.2.1, yiX8_areVersions.2.2.2, by decide, by decide⟩, ycX8_areVersions, zT_in 1317 (by decide +kernel) rfl, yvX8_areVersions, ywX8_areVersions⟩
theorem lkX8_isOf_72 : zLkV mX8_isOf 72 mX8_of 2 := ⟨⟨yiX8_of.1, yiX8_of.2.1, yiX8_of.2.2.1, yiX8_of.2.2.2, by decide, by decide⟩, ycX8_of, zT_in 1190 (by decide +kernel) rfl, yvX8_of, ywX8_of⟩
theorem lkX8_usersOf_72 : zLkV mX8_usersOf 72 mX8_of 2 := ⟨⟨yiX8_of.1, yiX8_of.2.1, yiX8_of.2.2.1, yiX8_of.2.2.2, by decide, by decide⟩, ycX8_of, zT_in 1190 (by decide +kernel) rfl, yvX8_of, ywX8_of⟩
theorem lkX8_users_104 : zLkV mX8_users 104 mX8_isVersion 1 := ⟨⟨yiX8_isVersion.1, yiX8_isVersion.2.1, yiX8_isVersion.2.2.1, yiX8_isVersion.2.2.2, by decide, by decide⟩, ycX8_isVersion, zT_in 1217 (by decide +kernel) rfl, yvX8_isVersion, ywX8_isVersion⟩
theorem lkX8_users_68 : zLkS mX8_users 68 mX8_in 3 := ⟨⟨yiX8_in.1, yiX8_in.2.1, yiX8_in.2.2.1, yiX8_in.2.2.2, by decide, by decide⟩, ycX8_in, zT_in 1176 (by decide +kernel) rfl, ysX8_in⟩
theorem lkX8_users_117 : zLkV mX8_users 117 mX8_fails 1 := ⟨⟨yiX8_fails.1, yiX8_fails.2.1, yiX8_fails.2.2.1, yiX8_fails.2.2.2, by decide, by decide⟩, ycX8_fails, zT_in 1249 (by decide +kernel) rfl, yvX8_fails, ywX8_fails⟩
theorem lkX8_users_72 : zLkV mX8_users 72 mX8_of 2 := ⟨⟨yiX8_of.1, yiX8_of.2.1, yiX8_of.2.2.1, yiX8_of.2.2.2, by decide, by decide⟩, ycX8_of, zT_in 1190 (by decide +kernel) rfl, yvX8_of, ywX8_of⟩
theorem lkX8_users_146 : zLkV mX8_users 146 mX8_usersOf 2 := ⟨⟨yiX8_usersOf.1, yiX8_usersOf.2.1, yiX8_usersOf.2.2.1, yiX8_usersOf.2.2.2, by decide, by decide⟩, ycX8_usersOf, zT_in 1337 (by decide +kernel) rfl, yvX8_usersOf, ywX8_usersOf⟩
theorem lkX8_wouldMake_120 : zLkS mX8_wouldMake 120 mX8_areLines 2 := ⟨⟨yiX8_areLines.1, yiX8_areLines.2.1, yiX8_areLines.2.2.1, yiX8_areLines.2.2.2, by decide, by decide⟩, ycX8_areLines, zT_in 1261 (by decide +kernel) rfl, ysX8_areLines⟩
theorem lkX8_wouldMake_117 : zLkV mX8_wouldMake 117 mX8_fails 1 := ⟨⟨yiX8_fails.1, yiX8_fails.2.1, yiX8_fails.2.2.1, yiX8_fails.2.2.2, by decide, by decide⟩, ycX8_fails, zT_in 1249 (by decide +kernel) rfl, yvX8_fails, ywX8_fails⟩
theorem lkX8_wouldMake_101 : zLkV mX8_wouldMake 101 mX8_has 3 := ⟨⟨yiX8_has.1, yiX8_has.2.1, yiX8_has.2.2.1, yiX8_has.2.2.2, by decide, by decide⟩, ycX8_has, zT_in 1209 (by decide +kernel) rfl, yvX8_has, ywX8_has⟩
theorem lkX8_wouldMake_111 : zLkV mX8_wouldMake 111 mX8_isWithin0 3 := ⟨⟨yiX8_isWithin0.1, yiX8_isWithin0.2.1, yiX8_isWithin0.2.2.1, yiX8_isWithin0.2.2.2, by decide, by decide⟩, ycX8_isWithin0, zT_in 1225 (by decide +kernel) rfl, yvX8_isWithin0, ywX8_isWithin0⟩
theorem lkX8_alike_104 : zLkV mX8_alike 104 mX8_isVersion 1 := ⟨⟨yiX8_isVersion.1, yiX8_isVersion.2.1, yiX8_isVersion.2.2.1, yiX8_isVersion.2.2.2, by decide, by decide⟩, ycX8_isVersion, zT_in 1217 (by decide +kernel) rfl, yvX8_isVersion, ywX8_isVersion⟩
theorem lkX8_alike_117 : zLkV mX8_alike 117 mX8_fails 1 := ⟨⟨yiX8_fails.1, yiX8_fails.2.1, yiX8_fails.2.2.1, yiX8_fails.2.2.2, by decide, by decide⟩, ycX8_fails, zT_in 1249 (by decide +kernel) rfl, yvX8_fails, ywX8_fails⟩
theorem lkX8_alike_137 : zLkV mX8_alike 137 mX8_apart0 2 := ⟨⟨yiX8_apart0.1, yiX8_apart0.2.1, yiX8_apart0.2.2.1, yiX8_apart0.2.2.2, by decide, by decide⟩, ycX8_apart0, zT_in 1293 (by decide +kernel) rfl, yvX8_apart0, ywX8_apart0⟩
theorem lkX8_richest_124 : zLkV mX8_richest 124 mX8_sumOf 3 := ⟨⟨yiX8_sumOf.1, yiX8_sumOf.2.1, yiX8_sumOf.2.2.1, yiX8_sumOf.2.2.2, by decide, by decide⟩, ycX8_sumOf, zT_in 1264 (by decide +kernel) rfl, yvX8_sumOf, ywX8_sumOf⟩
theorem lkX8_lent_72 : zLkV mX8_lent 72 mX8_of 2 := ⟨⟨yiX8_of.1, yiX8_of.2.1, yiX8_of.2.2.1, yiX8_of.2.2.2, by decide, by decide⟩, ycX8_of, zT_in 1190 (by decide +kernel) rfl, yvX8_of, ywX8_of⟩
theorem lkX8_lent_146 : zLkV mX8_lent 146 mX8_usersOf 2 := ⟨⟨yiX8_usersOf.1, yiX8_usersOf.2.1, yiX8_usersOf.2.2.1, yiX8_usersOf.2.2.2, by decide, by decide⟩, ycX8_usersOf, zT_in 1337 (by decide +kernel) rfl, yvX8_usersOf, ywX8_usersOf⟩
theorem lkX8_busiest_117 : zLkV mX8_busiest 117 mX8_fails 1 := ⟨⟨yiX8_fails.1, yiX8_fails.2.1, yiX8_fails.2.2.1, yiX8_fails.2.2.2, by decide, by decide⟩, ycX8_fails, zT_in 1249 (by decide +kernel) rfl, yvX8_fails, ywX8_fails⟩
theorem lkX8_busiest_149 : zLkV mX8_busiest 149 mX8_lent 1 := ⟨⟨yiX8_lent.1, yiX8_lent.2.1, yiX8_lent.2.2.1, yiX8_lent.2.2.2, by decide, by decide⟩, ycX8_lent, zT_in 1357 (by decide +kernel) rfl, yvX8_lent, ywX8_lent⟩
theorem lkX8_append_117 : zLkV mX8_append 117 mX8_fails 1 := ⟨⟨yiX8_fails.1, yiX8_fails.2.1, yiX8_fails.2.2.1, yiX8_fails.2.2.2, by decide, by decide⟩, ycX8_fails, zT_in 1249 (by decide +kernel) rfl, yvX8_fails, ywX8_fails⟩
theorem lkX8_skips_158 : zLkV mX8_skips 158 mX8_here 0 := ⟨⟨yiX8_here.1, yiX8_here.2.1, yiX8_here.2.2.1, yiX8_here.2.2.2, by decide, by decide⟩, ycX8_here, zT_in 1377 (by decide +kernel) rfl, yvX8_here, ywX8_here⟩
theorem lkX8_figures_158 : zLkV mX8_figures 158 mX8_here 0 := ⟨⟨yiX8_here.1, yiX8_here.2.1, yiX8_here.2.2.1, yiX8_here.2.2.2, by decide, by decide⟩, ycX8_here, zT_in 1377 (by decide +kernel) rfl, yvX8_here, ywX8_here⟩
theorem lkX8_figures_68 : zLkS mX8_figures 68 mX8_in 3 := ⟨⟨yiX8_in.1, yiX8_in.2.1, yiX8_in.2.2.1, yiX8_in.2.2.2, by decide, by decide⟩, ycX8_in, zT_in 1176 (by decide +kernel) rfl, ysX8_in⟩
theorem lkX8_commandHere_158 : zLkV mX8_commandHere 158 mX8_here 0 := ⟨⟨yiX8_here.1, yiX8_here.2.1, yiX8_here.2.2.1, yiX8_here.2.2.2, by decide, by decide⟩, ycX8_here, zT_in 1377 (by decide +kernel) rfl, yvX8_here, ywX8_here⟩
theorem lkX8_commandHere_165 : zLkV mX8_commandHere 165 mX8_skips 1 := ⟨⟨yiX8_skips.1, yiX8_skips.2.1, yiX8_skips.2.2.1, yiX8_skips.2.2.2, by decide, by decide⟩, ycX8_skips, zT_in 1381 (by decide +kernel) rfl, yvX8_skips, ywX8_skips⟩
theorem lkX8_commandHere_168 : zLkV mX8_commandHere 168 mX8_figures 2 := ⟨⟨yiX8_figures.1, yiX8_figures.2.1, yiX8_figures.2.2.1, yiX8_figures.2.2.2, by decide, by decide⟩, ycX8_figures, zT_in 1385 (by decide +kernel) rfl, yvX8_figures, ywX8_figures⟩
theorem lkX8_isText_171 : zLkV mX8_isText 171 mX8_commandHere 0 := ⟨⟨yiX8_commandHere.1, yiX8_commandHere.2.1, yiX8_commandHere.2.2.1, yiX8_commandHere.2.2.2, by decide, by decide⟩, ycX8_commandHere, zT_in 1373 (by decide +kernel) rfl, yvX8_commandHere, ywX8_commandHere⟩
theorem lkX8_isText_165 : zLkV mX8_isText 165 mX8_skips 1 := ⟨⟨yiX8_skips.1, yiX8_skips.2.1, yiX8_skips.2.2.1, yiX8_skips.2.2.2, by decide, by decide⟩, ycX8_skips, zT_in 1381 (by decide +kernel) rfl, yvX8_skips, ywX8_skips⟩
theorem lkX8_carries_175 : zLkV mX8_carries 175 mX8_write 3 := ⟨⟨yiX8_write.1, yiX8_write.2.1, yiX8_write.2.2.1, yiX8_write.2.2.2, by decide, by decide⟩, ycX8_write, zT_in 1393 (by decide +kernel) rfl, yvX8_write, ywX8_write⟩
theorem lkX8_carries_178 : zLkV mX8_carries 178 mX8_graft 4 := ⟨⟨yiX8_graft.1, yiX8_graft.2.1, yiX8_graft.2.2.1, yiX8_graft.2.2.2, by decide, by decide⟩, ycX8_graft, zT_in 1394 (by decide +kernel) rfl, yvX8_graft, ywX8_graft⟩
theorem lkX8_carries_182 : zLkV mX8_carries 182 mX8_fork 2 := ⟨⟨yiX8_fork.1, yiX8_fork.2.1, yiX8_fork.2.2.1, yiX8_fork.2.2.2, by decide, by decide⟩, ycX8_fork, zT_in 1395 (by decide +kernel) rfl, yvX8_fork, ywX8_fork⟩
theorem lkX8_carries_185 : zLkV mX8_carries 185 mX8_back 2 := ⟨⟨yiX8_back.1, yiX8_back.2.1, yiX8_back.2.2.1, yiX8_back.2.2.2, by decide, by decide⟩, ycX8_back, zT_in 1396 (by decide +kernel) rfl, yvX8_back, ywX8_back⟩
theorem lkX8_carries_188 : zLkV mX8_carries 188 mX8_pass 1 := ⟨⟨yiX8_pass.1, yiX8_pass.2.1, yiX8_pass.2.2.1, yiX8_pass.2.2.2, by decide, by decide⟩, ycX8_pass, zT_in 1397 (by decide +kernel) rfl, yvX8_pass, ywX8_pass⟩
theorem lkX8_commands_191 : zLkV mX8_commands 191 mX8_isText 0 := ⟨⟨yiX8_isText.1, yiX8_isText.2.1, yiX8_isText.2.2.1, yiX8_isText.2.2.2, by decide, by decide⟩, ycX8_isText, zT_in 1369 (by decide +kernel) rfl, yvX8_isText, ywX8_isText⟩
theorem lkX8_commands_117 : zLkV mX8_commands 117 mX8_fails 1 := ⟨⟨yiX8_fails.1, yiX8_fails.2.1, yiX8_fails.2.2.1, yiX8_fails.2.2.2, by decide, by decide⟩, ycX8_fails, zT_in 1249 (by decide +kernel) rfl, yvX8_fails, ywX8_fails⟩
theorem lkX8_commands_64 : zLkS mX8_commands 64 mX8_copies 4 := ⟨⟨yiX8_copies.1, yiX8_copies.2.1, yiX8_copies.2.2.1, yiX8_copies.2.2.2, by decide, by decide⟩, ycX8_copies, zT_in 1198 (by decide +kernel) rfl, ysX8_copies⟩
theorem lkX8_commands_194 : zLkV mX8_commands 194 mX8_carries 1 := ⟨⟨yiX8_carries.1, yiX8_carries.2.1, yiX8_carries.2.2.1, yiX8_carries.2.2.2, by decide, by decide⟩, ycX8_carries, zT_in 1389 (by decide +kernel) rfl, yvX8_carries, ywX8_carries⟩
theorem lkX8_commands_93 : zLkV mX8_commands 93 mX8_keeps 1 := ⟨⟨yiX8_keeps.1, yiX8_keeps.2.1, yiX8_keeps.2.2.1, yiX8_keeps.2.2.2, by decide, by decide⟩, ycX8_keeps, zT_in 1194 (by decide +kernel) rfl, yvX8_keeps, ywX8_keeps⟩
theorem lkX8_reason_68 : zLkS mX8_reason 68 mX8_in 3 := ⟨⟨yiX8_in.1, yiX8_in.2.1, yiX8_in.2.2.1, yiX8_in.2.2.2, by decide, by decide⟩, ycX8_in, zT_in 1176 (by decide +kernel) rfl, ysX8_in⟩
theorem lkX8_reason_117 : zLkV mX8_reason 117 mX8_fails 1 := ⟨⟨yiX8_fails.1, yiX8_fails.2.1, yiX8_fails.2.2.1, yiX8_fails.2.2.2, by decide, by decide⟩, ycX8_fails, zT_in 1249 (by decide +kernel) rfl, yvX8_fails, ywX8_fails⟩
theorem lkX8_writesNumber_200 : zLkV mX8_writesNumber 200 mX8_writes 1 := ⟨⟨yiX8_writes.1, yiX8_writes.2.1, yiX8_writes.2.2.1, yiX8_writes.2.2.2, by decide, by decide⟩, ycX8_writes, zT_in 1410 (by decide +kernel) rfl, yvX8_writes, ywX8_writes⟩
theorem lkX8_line_104 : zLkV mX8_line 104 mX8_isVersion 1 := ⟨⟨yiX8_isVersion.1, yiX8_isVersion.2.1, yiX8_isVersion.2.2.1, yiX8_isVersion.2.2.2, by decide, by decide⟩, ycX8_isVersion, zT_in 1217 (by decide +kernel) rfl, yvX8_isVersion, ywX8_isVersion⟩
theorem lkX8_line_117 : zLkV mX8_line 117 mX8_fails 1 := ⟨⟨yiX8_fails.1, yiX8_fails.2.1, yiX8_fails.2.2.1, yiX8_fails.2.2.2, by decide, by decide⟩, ycX8_fails, zT_in 1249 (by decide +kernel) rfl, yvX8_fails, ywX8_fails⟩
theorem lkX8_line_90 : zLkV mX8_line 90 mX8_amountOf 2 := ⟨⟨yiX8_amountOf.1, yiX8_amountOf.2.1, yiX8_amountOf.2.2.1, yiX8_amountOf.2.2.2, by decide, by decide⟩, ycX8_amountOf, zT_in 1186 (by decide +kernel) rfl, yvX8_amountOf, ywX8_amountOf⟩
theorem lkX8_line_200 : zLkV mX8_line 200 mX8_writes 1 := ⟨⟨yiX8_writes.1, yiX8_writes.2.1, yiX8_writes.2.2.1, yiX8_writes.2.2.2, by decide, by decide⟩, ycX8_writes, zT_in 1410 (by decide +kernel) rfl, yvX8_writes, ywX8_writes⟩
theorem lkX8_line_204 : zLkV mX8_line 204 mX8_writesNumber 1 := ⟨⟨yiX8_writesNumber.1, yiX8_writesNumber.2.1, yiX8_writesNumber.2.2.1, yiX8_writesNumber.2.2.2, by decide, by decide⟩, ycX8_writesNumber, zT_in 1414 (by decide +kernel) rfl, yvX8_writesNumber, ywX8_writesNumber⟩
theorem lkX8_lineage_104 : zLkV mX8_lineage 104 mX8_isVersion 1 := ⟨⟨yiX8_isVersion.1, yiX8_isVersion.2.1, yiX8_isVersion.2.2.1, yiX8_isVersion.2.2.2, by decide, by decide⟩, ycX8_isVersion, zT_in 1217 (by decide +kernel) rfl, yvX8_isVersion, ywX8_isVersion⟩
theorem lkX8_lineage_117 : zLkV mX8_lineage 117 mX8_fails 1 := ⟨⟨yiX8_fails.1, yiX8_fails.2.1, yiX8_fails.2.2.1, yiX8_fails.2.2.2, by decide, by decide⟩, ycX8_fails, zT_in 1249 (by decide +kernel) rfl, yvX8_fails, ywX8_fails⟩
theorem lkX8_lineage_200 : zLkV mX8_lineage 200 mX8_writes 1 := ⟨⟨yiX8_writes.1, yiX8_writes.2.1, yiX8_writes.2.2.1, yiX8_writes.2.2.2, by decide, by decide⟩, ycX8_writes, zT_in 1410 (by decide +kernel) rfl, yvX8_writes, ywX8_writes⟩
theorem lkX8_lineage_204 : zLkV mX8_lineage 204 mX8_writesNumber 1 := ⟨⟨yiX8_writesNumber.1, yiX8_writesNumber.2.1, yiX8_writesNumber.2.2.1, yiX8_writesNumber.2.2.2, by decide, by decide⟩, ycX8_writesNumber, zT_in 1414 (by decide +kernel) rfl, yvX8_writesNumber, ywX8_writesNumber⟩
theorem lkX8_lineage_72 : zLkV mX8_lineage 72 mX8_of 2 := ⟨⟨yiX8_of.1, yiX8_of.2.1, yiX8_of.2.2.1, yiX8_of.2.2.2, by decide, by decide⟩, ycX8_of, zT_in 1190 (by decide +kernel) rfl, yvX8_of, ywX8_of⟩
theorem lkX8_character_68 : zLkS mX8_character 68 mX8_in 3 := ⟨⟨yiX8_in.1, yiX8_in.2.1, yiX8_in.2.2.1, yiX8_in.2.2.2, by decide, by decide⟩, ycX8_in, zT_in 1176 (by decide +kernel) rfl, ysX8_in⟩
theorem lkX8_character_117 : zLkV mX8_character 117 mX8_fails 1 := ⟨⟨yiX8_fails.1, yiX8_fails.2.1, yiX8_fails.2.2.1, yiX8_fails.2.2.2, by decide, by decide⟩, ycX8_fails, zT_in 1249 (by decide +kernel) rfl, yvX8_fails, ywX8_fails⟩
theorem lkX8_mean_104 : zLkV mX8_mean 104 mX8_isVersion 1 := ⟨⟨yiX8_isVersion.1, yiX8_isVersion.2.1, yiX8_isVersion.2.2.1, yiX8_isVersion.2.2.2, by decide, by decide⟩, ycX8_isVersion, zT_in 1217 (by decide +kernel) rfl, yvX8_isVersion, ywX8_isVersion⟩
theorem lkX8_mean_117 : zLkV mX8_mean 117 mX8_fails 1 := ⟨⟨yiX8_fails.1, yiX8_fails.2.1, yiX8_fails.2.2.1, yiX8_fails.2.2.2, by decide, by decide⟩, ycX8_fails, zT_in 1249 (by decide +kernel) rfl, yvX8_fails, ywX8_fails⟩
theorem lkX8_mean_124 : zLkV mX8_mean 124 mX8_sumOf 3 := ⟨⟨yiX8_sumOf.1, yiX8_sumOf.2.1, yiX8_sumOf.2.2.1, yiX8_sumOf.2.2.2, by decide, by decide⟩, ycX8_sumOf, zT_in 1264 (by decide +kernel) rfl, yvX8_sumOf, ywX8_sumOf⟩
theorem lkX8_allMade_134 : zLkV mX8_allMade 134 mX8_made 1 := ⟨⟨yiX8_made.1, yiX8_made.2.1, yiX8_made.2.2.1, yiX8_made.2.2.2, by decide, by decide⟩, ycX8_made, zT_in 1289 (by decide +kernel) rfl, yvX8_made, ywX8_made⟩
theorem lkX8_spared_209 : zLkV mX8_spared 209 mX8_allMade 0 := ⟨⟨yiX8_allMade.1, yiX8_allMade.2.1, yiX8_allMade.2.2.1, yiX8_allMade.2.2.2, by decide, by decide⟩, ycX8_allMade, zT_in 1435 (by decide +kernel) rfl, yvX8_allMade, ywX8_allMade⟩
theorem lkX8_versionsThat_140 : zLkV mX8_versionsThat 140 mX8_houses 1 := ⟨⟨yiX8_houses.1, yiX8_houses.2.1, yiX8_houses.2.2.1, yiX8_houses.2.2.2, by decide, by decide⟩, ycX8_houses, zT_in 1297 (by decide +kernel) rfl, yvX8_houses, ywX8_houses⟩
theorem lkX8_versionsThat_131 : zLkV mX8_versionsThat 131 mX8_children 1 := ⟨⟨yiX8_children.1, yiX8_children.2.1, yiX8_children.2.2.1, yiX8_children.2.2.2, by decide, by decide⟩, ycX8_children, zT_in 1285 (by decide +kernel) rfl, yvX8_children, ywX8_children⟩
theorem lkX8_account_68 : zLkS mX8_account 68 mX8_in 3 := ⟨⟨yiX8_in.1, yiX8_in.2.1, yiX8_in.2.2.1, yiX8_in.2.2.2, by decide, by decide⟩, ycX8_in, zT_in 1176 (by decide +kernel) rfl, ysX8_in⟩
theorem lkX8_account_117 : zLkV mX8_account 117 mX8_fails 1 := ⟨⟨yiX8_fails.1, yiX8_fails.2.1, yiX8_fails.2.2.1, yiX8_fails.2.2.2, by decide, by decide⟩, ycX8_fails, zT_in 1249 (by decide +kernel) rfl, yvX8_fails, ywX8_fails⟩
theorem lkX8_account_209 : zLkV mX8_account 209 mX8_allMade 0 := ⟨⟨yiX8_allMade.1, yiX8_allMade.2.1, yiX8_allMade.2.2.1, yiX8_allMade.2.2.2, by decide, by decide⟩, ycX8_allMade, zT_in 1435 (by decide +kernel) rfl, yvX8_allMade, ywX8_allMade⟩
theorem lkX8_account_212 : zLkV mX8_account 212 mX8_versionsThat 1 := ⟨⟨yiX8_versionsThat.1, yiX8_versionsThat.2.1, yiX8_versionsThat.2.2.1, yiX8_versionsThat.2.2.2, by decide, by decide⟩, ycX8_versionsThat, zT_in 1443 (by decide +kernel) rfl, yvX8_versionsThat, ywX8_versionsThat⟩
theorem lkX8_undo_117 : zLkV mX8_undo 117 mX8_fails 1 := ⟨⟨yiX8_fails.1, yiX8_fails.2.1, yiX8_fails.2.2.1, yiX8_fails.2.2.2, by decide, by decide⟩, ycX8_fails, zT_in 1249 (by decide +kernel) rfl, yvX8_fails, ywX8_fails⟩
theorem lkX8_undo_64 : zLkS mX8_undo 64 mX8_copies 4 := ⟨⟨yiX8_copies.1, yiX8_copies.2.1, yiX8_copies.2.2.1, yiX8_copies.2.2.2, by decide, by decide⟩, ycX8_copies, zT_in 1198 (by decide +kernel) rfl, ysX8_copies⟩
theorem lkX8_save_64 : zLkS mX8_save 64 mX8_copies 4 := ⟨⟨yiX8_copies.1, yiX8_copies.2.1, yiX8_copies.2.2.1, yiX8_copies.2.2.2, by decide, by decide⟩, ycX8_copies, zT_in 1198 (by decide +kernel) rfl, ysX8_copies⟩
theorem lkX8_restore_117 : zLkV mX8_restore 117 mX8_fails 1 := ⟨⟨yiX8_fails.1, yiX8_fails.2.1, yiX8_fails.2.2.1, yiX8_fails.2.2.2, by decide, by decide⟩, ycX8_fails, zT_in 1249 (by decide +kernel) rfl, yvX8_fails, ywX8_fails⟩
theorem lkX8_restore_64 : zLkS mX8_restore 64 mX8_copies 4 := ⟨⟨yiX8_copies.1, yiX8_copies.2.1, yiX8_copies.2.2.1, yiX8_copies.2.2.2, by decide, by decide⟩, ycX8_copies, zT_in 1198 (by decide +kernel) rfl, ysX8_copies⟩
theorem lkJ0_length_8abf5_335 : zLkV mJ0_length_8abf5 335 mJ0_coder_7d493 0 := ⟨⟨yiJ0_coder_7d493.1, yiJ0_coder_7d493.2.1, yiJ0_coder_7d493.2.2.1, yiJ0_coder_7d493.2.2.2, by decide, by decide⟩, ycJ0_coder_7d493, zT_in 901 (by decide +kernel) rfl, yvJ0_coder_7d493, ywJ0_coder_7d493⟩
theorem lkJ0_charAt_5068e_492 : zLkV mJ0_charAt_5068e 492 mJ0_isLatin1_aae02 0 := ⟨⟨yiJ0_isLatin1_aae02.1, yiJ0_isLatin1_aae02.2.1, yiJ0_isLatin1_aae02.2.2.1, yiJ0_isLatin1_aae02.2.2.2, by decide, by decide⟩, ycJ0_isLatin1_aae02, zT_in 911 (by decide +kernel) rfl, yvJ0_isLatin1_aae02, ywJ0_isLatin1_aae02⟩
theorem lkJ0_charAt_5068e_495 : zLkS mJ0_charAt_5068e 495 mJ1_charAt_3b067 2 := ⟨⟨yiJ1_charAt_3b067.1, yiJ1_charAt_3b067.2.1, yiJ1_charAt_3b067.2.2.1, yiJ1_charAt_3b067.2.2.2, by decide, by decide⟩, ycJ1_charAt_3b067, zT_in 915 (by decide +kernel) rfl, ysJ1_charAt_3b067⟩
theorem lkJ0_checkIndex_df160_1059 : zLkS mJ0_checkIndex_df160 1059 mJ3_checkIndex_8e157 3 := ⟨⟨yiJ3_checkIndex_8e157.1, yiJ3_checkIndex_8e157.2.1, yiJ3_checkIndex_8e157.2.2.1, yiJ3_checkIndex_8e157.2.2.2, by decide, by decide⟩, ycJ3_checkIndex_8e157, zT_in 923 (by decide +kernel) rfl, ysJ3_checkIndex_8e157⟩
theorem lkJ1_charAt_3b067_9 : zLkS mJ1_charAt_3b067 9 mJ0_checkIndex_df160 2 := ⟨⟨yiJ0_checkIndex_df160.1, yiJ0_checkIndex_df160.2.1, yiJ0_checkIndex_df160.2.2.1, yiJ0_checkIndex_df160.2.2.2, by decide, by decide⟩, ycJ0_checkIndex_df160, zT_in 918 (by decide +kernel) rfl, ysJ0_checkIndex_df160⟩
theorem lkL_write_7 : zLkV mL_write 7 mX7_write 3 := ⟨⟨yiX7_write.1, yiX7_write.2.1, yiX7_write.2.2.1, yiX7_write.2.2.2, by decide, by decide⟩, ycX7_write, zT_in 295 (by decide +kernel) rfl, yvX7_write, ywX7_write⟩
theorem lkL_graft_15 : zLkV mL_graft 15 mX7_graft 4 := ⟨⟨yiX7_graft.1, yiX7_graft.2.1, yiX7_graft.2.2.1, yiX7_graft.2.2.2, by decide, by decide⟩, ycX7_graft, zT_in 463 (by decide +kernel) rfl, yvX7_graft, ywX7_graft⟩
theorem lkL_fork_19 : zLkV mL_fork 19 mX7_fork 2 := ⟨⟨yiX7_fork.1, yiX7_fork.2.1, yiX7_fork.2.2.1, yiX7_fork.2.2.2, by decide, by decide⟩, ycX7_fork, zT_in 492 (by decide +kernel) rfl, yvX7_fork, ywX7_fork⟩
theorem lkL_back_23 : zLkV mL_back 23 mX7_back 2 := ⟨⟨yiX7_back.1, yiX7_back.2.1, yiX7_back.2.2.1, yiX7_back.2.2.2, by decide, by decide⟩, ycX7_back, zT_in 503 (by decide +kernel) rfl, yvX7_back, ywX7_back⟩
theorem lkL_pass_26 : zLkV mL_pass 26 mX7_pass 1 := ⟨⟨yiX7_pass.1, yiX7_pass.2.1, yiX7_pass.2.2.1, yiX7_pass.2.2.2, by decide, by decide⟩, ycX7_pass, zT_in 526 (by decide +kernel) rfl, yvX7_pass, ywX7_pass⟩
theorem lkL_ledger_30 : zLkV mL_ledger 30 mX7_ledger 1 := ⟨⟨yiX7_ledger.1, yiX7_ledger.2.1, yiX7_ledger.2.2.1, yiX7_ledger.2.2.2, by decide, by decide⟩, ycX7_ledger, zT_in 538 (by decide +kernel) rfl, yvX7_ledger, ywX7_ledger⟩
theorem lkL_amount_35 : zLkV mL_amount 35 mX7_amount 2 := ⟨⟨yiX7_amount.1, yiX7_amount.2.1, yiX7_amount.2.2.1, yiX7_amount.2.2.2, by decide, by decide⟩, ycX7_amount, zT_in 567 (by decide +kernel) rfl, yvX7_amount, ywX7_amount⟩
theorem lkL_sum_40 : zLkV mL_sum 40 mX7_sum 3 := ⟨⟨yiX7_sum.1, yiX7_sum.2.1, yiX7_sum.2.2.1, yiX7_sum.2.2.2, by decide, by decide⟩, ycX7_sum, zT_in 601 (by decide +kernel) rfl, yvX7_sum, ywX7_sum⟩
theorem lkL_sumAgain_43 : zLkV mL_sumAgain 43 mX7_sumAgain 3 := ⟨⟨yiX7_sumAgain.1, yiX7_sumAgain.2.1, yiX7_sumAgain.2.2.1, yiX7_sumAgain.2.2.2, by decide, by decide⟩, ycX7_sumAgain, zT_in 612 (by decide +kernel) rfl, yvX7_sumAgain, ywX7_sumAgain⟩
theorem lkL_most_46 : zLkV mL_most 46 mX7_most 3 := ⟨⟨yiX7_most.1, yiX7_most.2.1, yiX7_most.2.2.1, yiX7_most.2.2.2, by decide, by decide⟩, ycX7_most, zT_in 623 (by decide +kernel) rfl, yvX7_most, ywX7_most⟩
theorem lkL_reached_49 : zLkV mL_reached 49 mX7_reached 2 := ⟨⟨yiX7_reached.1, yiX7_reached.2.1, yiX7_reached.2.2.1, yiX7_reached.2.2.2, by decide, by decide⟩, ycX7_reached, zT_in 635 (by decide +kernel) rfl, yvX7_reached, ywX7_reached⟩
theorem lkL_versionOf_54 : zLkV mL_versionOf 54 mX7_versionOf 2 := ⟨⟨yiX7_versionOf.1, yiX7_versionOf.2.1, yiX7_versionOf.2.2.1, yiX7_versionOf.2.2.2, by decide, by decide⟩, ycX7_versionOf, zT_in 662 (by decide +kernel) rfl, yvX7_versionOf, ywX7_versionOf⟩
theorem lkL_maker_57 : zLkV mL_maker 57 mX7_maker 2 := ⟨⟨yiX7_maker.1, yiX7_maker.2.1, yiX7_maker.2.2.1, yiX7_maker.2.2.2, by decide, by decide⟩, ycX7_maker, zT_in 691 (by decide +kernel) rfl, yvX7_maker, ywX7_maker⟩
theorem lkL_had_60 : zLkV mL_had 60 mX7_had 2 := ⟨⟨yiX7_had.1, yiX7_had.2.1, yiX7_had.2.2.1, yiX7_had.2.2.2, by decide, by decide⟩, ycX7_had, zT_in 703 (by decide +kernel) rfl, yvX7_had, ywX7_had⟩
theorem lkL_since_63 : zLkV mL_since 63 mX7_since 2 := ⟨⟨yiX7_since.1, yiX7_since.2.1, yiX7_since.2.2.1, yiX7_since.2.2.2, by decide, by decide⟩, ycX7_since, zT_in 716 (by decide +kernel) rfl, yvX7_since, ywX7_since⟩
theorem lkL_common_66 : zLkV mL_common 66 mX7_common 2 := ⟨⟨yiX7_common.1, yiX7_common.2.1, yiX7_common.2.2.1, yiX7_common.2.2.2, by decide, by decide⟩, ycX7_common, zT_in 727 (by decide +kernel) rfl, yvX7_common, ywX7_common⟩
theorem lkL_apart_69 : zLkV mL_apart 69 mX7_apart 2 := ⟨⟨yiX7_apart.1, yiX7_apart.2.1, yiX7_apart.2.2.1, yiX7_apart.2.2.2, by decide, by decide⟩, ycX7_apart, zT_in 738 (by decide +kernel) rfl, yvX7_apart, ywX7_apart⟩
theorem lkL_shared_72 : zLkV mL_shared 72 mX7_shared 2 := ⟨⟨yiX7_shared.1, yiX7_shared.2.1, yiX7_shared.2.2.1, yiX7_shared.2.2.2, by decide, by decide⟩, ycX7_shared, zT_in 746 (by decide +kernel) rfl, yvX7_shared, ywX7_shared⟩
theorem lkL_isOf_75 : zLkV mL_isOf 75 mX7_isOf 2 := ⟨⟨yiX7_isOf.1, yiX7_isOf.2.1, yiX7_isOf.2.2.1, yiX7_isOf.2.2.2, by decide, by decide⟩, ycX7_isOf, zT_in 757 (by decide +kernel) rfl, yvX7_isOf, ywX7_isOf⟩
theorem lkL_users_79 : zLkV mL_users 79 mX7_users 2 := ⟨⟨yiX7_users.1, yiX7_users.2.1, yiX7_users.2.2.1, yiX7_users.2.2.2, by decide, by decide⟩, ycX7_users, zT_in 764 (by decide +kernel) rfl, yvX7_users, ywX7_users⟩
theorem lkL_wouldMake_82 : zLkV mL_wouldMake 82 mX7_wouldMake 2 := ⟨⟨yiX7_wouldMake.1, yiX7_wouldMake.2.1, yiX7_wouldMake.2.2.1, yiX7_wouldMake.2.2.2, by decide, by decide⟩, ycX7_wouldMake, zT_in 775 (by decide +kernel) rfl, yvX7_wouldMake, ywX7_wouldMake⟩
theorem lkL_alike_85 : zLkV mL_alike 85 mX7_alike 1 := ⟨⟨yiX7_alike.1, yiX7_alike.2.1, yiX7_alike.2.2.1, yiX7_alike.2.2.2, by decide, by decide⟩, ycX7_alike, zT_in 783 (by decide +kernel) rfl, yvX7_alike, ywX7_alike⟩
theorem lkL_richest_88 : zLkV mL_richest 88 mX7_richest 1 := ⟨⟨yiX7_richest.1, yiX7_richest.2.1, yiX7_richest.2.2.1, yiX7_richest.2.2.2, by decide, by decide⟩, ycX7_richest, zT_in 794 (by decide +kernel) rfl, yvX7_richest, ywX7_richest⟩
theorem lkL_busiest_91 : zLkV mL_busiest 91 mX7_busiest 0 := ⟨⟨yiX7_busiest.1, yiX7_busiest.2.1, yiX7_busiest.2.2.1, yiX7_busiest.2.2.2, by decide, by decide⟩, ycX7_busiest, zT_in 810 (by decide +kernel) rfl, yvX7_busiest, ywX7_busiest⟩
theorem lkL_append_95 : zLkV mL_append 95 mX7_append 1 := ⟨⟨yiX7_append.1, yiX7_append.2.1, yiX7_append.2.2.1, yiX7_append.2.2.2, by decide, by decide⟩, ycX7_append, zT_in 828 (by decide +kernel) rfl, yvX7_append, ywX7_append⟩
theorem lkL_commands_101 : zLkV mL_commands 101 mX7_commands 0 := ⟨⟨yiX7_commands.1, yiX7_commands.2.1, yiX7_commands.2.2.1, yiX7_commands.2.2.2, by decide, by decide⟩, ycX7_commands, zT_in 864 (by decide +kernel) rfl, yvX7_commands, ywX7_commands⟩
theorem lkL_reason_104 : zLkV mL_reason 104 mX7_reason 1 := ⟨⟨yiX7_reason.1, yiX7_reason.2.1, yiX7_reason.2.2.1, yiX7_reason.2.2.2, by decide, by decide⟩, ycX7_reason, zT_in 984 (by decide +kernel) rfl, yvX7_reason, ywX7_reason⟩
theorem lkL_line_107 : zLkV mL_line 107 mX7_line 1 := ⟨⟨yiX7_line.1, yiX7_line.2.1, yiX7_line.2.2.1, yiX7_line.2.2.2, by decide, by decide⟩, ycX7_line, zT_in 993 (by decide +kernel) rfl, yvX7_line, ywX7_line⟩
theorem lkL_lineage_110 : zLkV mL_lineage 110 mX7_lineage 1 := ⟨⟨yiX7_lineage.1, yiX7_lineage.2.1, yiX7_lineage.2.2.1, yiX7_lineage.2.2.2, by decide, by decide⟩, ycX7_lineage, zT_in 1021 (by decide +kernel) rfl, yvX7_lineage, ywX7_lineage⟩
theorem lkL_character_113 : zLkV mL_character 113 mX7_character 1 := ⟨⟨yiX7_character.1, yiX7_character.2.1, yiX7_character.2.2.1, yiX7_character.2.2.2, by decide, by decide⟩, ycX7_character, zT_in 1028 (by decide +kernel) rfl, yvX7_character, ywX7_character⟩
theorem lkL_mean_117 : zLkV mL_mean 117 mX7_mean 1 := ⟨⟨yiX7_mean.1, yiX7_mean.2.1, yiX7_mean.2.2.1, yiX7_mean.2.2.2, by decide, by decide⟩, ycX7_mean, zT_in 1040 (by decide +kernel) rfl, yvX7_mean, ywX7_mean⟩
theorem lkL_account_121 : zLkV mL_account 121 mX7_account 1 := ⟨⟨yiX7_account.1, yiX7_account.2.1, yiX7_account.2.2.1, yiX7_account.2.2.2, by decide, by decide⟩, ycX7_account, zT_in 1049 (by decide +kernel) rfl, yvX7_account, ywX7_account⟩
theorem lkL_undo_124 : zLkV mL_undo 124 mX7_undo 0 := ⟨⟨yiX7_undo.1, yiX7_undo.2.1, yiX7_undo.2.2.1, yiX7_undo.2.2.2, by decide, by decide⟩, ycX7_undo, zT_in 1071 (by decide +kernel) rfl, yvX7_undo, ywX7_undo⟩
theorem lkL_restore_127 : zLkV mL_restore 127 mX7_restore 0 := ⟨⟨yiX7_restore.1, yiX7_restore.2.1, yiX7_restore.2.2.1, yiX7_restore.2.2.2, by decide, by decide⟩, ycX7_restore, zT_in 1083 (by decide +kernel) rfl, yvX7_restore, ywX7_restore⟩
theorem lkL_law_130 : zLkI mL_law 130 mX7_init 0 := ⟨⟨yiX7_init.1, yiX7_init.2.1, yiX7_init.2.2.1, yiX7_init.2.2.2, by decide, by decide⟩, ycX7_init, zT_in 66 (by decide +kernel) rfl, yvX7_init, rfl, rfl⟩
theorem lkL_law_133 : zLkI mL_law 133 mX8_init 0 := ⟨⟨yiX8_init.1, yiX8_init.2.1, yiX8_init.2.2.1, yiX8_init.2.2.2, by decide, by decide⟩, ycX8_init, zT_in 1094 (by decide +kernel) rfl, yvX8_init, rfl, rfl⟩
theorem lkL_law_134 : zLkH mL_law 134 mL_write 5 := ⟨⟨yiL_write.1, yiL_write.2.1, yiL_write.2.2.1, yiL_write.2.2.2, by decide, by decide⟩, ycL_write, zT_in 291 (by decide +kernel) rfl, ysL_write⟩
theorem lkL_law_139 : zLkV mL_law 139 mX8_write 3 := ⟨⟨yiX8_write.1, yiX8_write.2.1, yiX8_write.2.2.1, yiX8_write.2.2.2, by decide, by decide⟩, ycX8_write, zT_in 1169 (by decide +kernel) rfl, yvX8_write, ywX8_write⟩
theorem lkL_law_140 : zLkV mL_law 140 mX8_thrown 0 := ⟨⟨yiX8_thrown.1, yiX8_thrown.2.1, yiX8_thrown.2.2.1, yiX8_thrown.2.2.2, by decide, by decide⟩, ycX8_thrown, zT_in 1165 (by decide +kernel) rfl, yvX8_thrown, ywX8_thrown⟩
theorem lkL_law_143 : zLkH mL_law 143 mL_graft 6 := ⟨⟨yiL_graft.1, yiL_graft.2.1, yiL_graft.2.2.1, yiL_graft.2.2.2, by decide, by decide⟩, ycL_graft, zT_in 460 (by decide +kernel) rfl, ysL_graft⟩
theorem lkL_law_146 : zLkV mL_law 146 mX8_graft 4 := ⟨⟨yiX8_graft.1, yiX8_graft.2.1, yiX8_graft.2.2.1, yiX8_graft.2.2.2, by decide, by decide⟩, ycX8_graft, zT_in 1213 (by decide +kernel) rfl, yvX8_graft, ywX8_graft⟩
theorem lkL_law_147 : zLkH mL_law 147 mL_fork 4 := ⟨⟨yiL_fork.1, yiL_fork.2.1, yiL_fork.2.2.1, yiL_fork.2.2.2, by decide, by decide⟩, ycL_fork, zT_in 489 (by decide +kernel) rfl, ysL_fork⟩
theorem lkL_law_150 : zLkV mL_law 150 mX8_fork 2 := ⟨⟨yiX8_fork.1, yiX8_fork.2.1, yiX8_fork.2.2.1, yiX8_fork.2.2.2, by decide, by decide⟩, ycX8_fork, zT_in 1229 (by decide +kernel) rfl, yvX8_fork, ywX8_fork⟩
theorem lkL_law_151 : zLkH mL_law 151 mL_back 4 := ⟨⟨yiL_back.1, yiL_back.2.1, yiL_back.2.2.1, yiL_back.2.2.2, by decide, by decide⟩, ycL_back, zT_in 500 (by decide +kernel) rfl, ysL_back⟩
theorem lkL_law_153 : zLkV mL_law 153 mX8_back 2 := ⟨⟨yiX8_back.1, yiX8_back.2.1, yiX8_back.2.2.1, yiX8_back.2.2.2, by decide, by decide⟩, ycX8_back, zT_in 1233 (by decide +kernel) rfl, yvX8_back, ywX8_back⟩
theorem lkL_law_154 : zLkH mL_law 154 mL_pass 3 := ⟨⟨yiL_pass.1, yiL_pass.2.1, yiL_pass.2.2.1, yiL_pass.2.2.2, by decide, by decide⟩, ycL_pass, zT_in 523 (by decide +kernel) rfl, ysL_pass⟩
theorem lkL_law_157 : zLkV mL_law 157 mX8_pass 1 := ⟨⟨yiX8_pass.1, yiX8_pass.2.1, yiX8_pass.2.2.1, yiX8_pass.2.2.2, by decide, by decide⟩, ycX8_pass, zT_in 1241 (by decide +kernel) rfl, yvX8_pass, ywX8_pass⟩
theorem lkL_law_158 : zLkH mL_law 158 mL_ledger 3 := ⟨⟨yiL_ledger.1, yiL_ledger.2.1, yiL_ledger.2.2.1, yiL_ledger.2.2.2, by decide, by decide⟩, ycL_ledger, zT_in 534 (by decide +kernel) rfl, ysL_ledger⟩
theorem lkL_law_160 : zLkV mL_law 160 mX8_ledger 1 := ⟨⟨yiX8_ledger.1, yiX8_ledger.2.1, yiX8_ledger.2.2.1, yiX8_ledger.2.2.2, by decide, by decide⟩, ycX8_ledger, zT_in 1245 (by decide +kernel) rfl, yvX8_ledger, ywX8_ledger⟩
theorem lkL_law_161 : zLkH mL_law 161 mL_amount 4 := ⟨⟨yiL_amount.1, yiL_amount.2.1, yiL_amount.2.2.1, yiL_amount.2.2.2, by decide, by decide⟩, ycL_amount, zT_in 563 (by decide +kernel) rfl, ysL_amount⟩
theorem lkL_law_163 : zLkV mL_law 163 mX8_amount 2 := ⟨⟨yiX8_amount.1, yiX8_amount.2.1, yiX8_amount.2.2.1, yiX8_amount.2.2.2, by decide, by decide⟩, ycX8_amount, zT_in 1253 (by decide +kernel) rfl, yvX8_amount, ywX8_amount⟩
theorem lkL_law_164 : zLkH mL_law 164 mL_sum 5 := ⟨⟨yiL_sum.1, yiL_sum.2.1, yiL_sum.2.2.1, yiL_sum.2.2.2, by decide, by decide⟩, ycL_sum, zT_in 598 (by decide +kernel) rfl, ysL_sum⟩
theorem lkL_law_166 : zLkV mL_law 166 mX8_sum 3 := ⟨⟨yiX8_sum.1, yiX8_sum.2.1, yiX8_sum.2.2.1, yiX8_sum.2.2.2, by decide, by decide⟩, ycX8_sum, zT_in 1257 (by decide +kernel) rfl, yvX8_sum, ywX8_sum⟩
theorem lkL_law_167 : zLkH mL_law 167 mL_sumAgain 5 := ⟨⟨yiL_sumAgain.1, yiL_sumAgain.2.1, yiL_sumAgain.2.2.1, yiL_sumAgain.2.2.2, by decide, by decide⟩, ycL_sumAgain, zT_in 609 (by decide +kernel) rfl, ysL_sumAgain⟩
theorem lkL_law_169 : zLkV mL_law 169 mX8_sumAgain 3 := ⟨⟨yiX8_sumAgain.1, yiX8_sumAgain.2.1, yiX8_sumAgain.2.2.1, yiX8_sumAgain.2.2.2, by decide, by decide⟩, ycX8_sumAgain, zT_in 1268 (by decide +kernel) rfl, yvX8_sumAgain, ywX8_sumAgain⟩
theorem lkL_law_170 : zLkH mL_law 170 mL_most 5 := ⟨⟨yiL_most.1, yiL_most.2.1, yiL_most.2.2.1, yiL_most.2.2.2, by decide, by decide⟩, ycL_most, zT_in 620 (by decide +kernel) rfl, ysL_most⟩
theorem lkL_law_172 : zLkV mL_law 172 mX8_most 3 := ⟨⟨yiX8_most.1, yiX8_most.2.1, yiX8_most.2.2.1, yiX8_most.2.2.2, by decide, by decide⟩, ycX8_most, zT_in 1273 (by decide +kernel) rfl, yvX8_most, ywX8_most⟩
theorem lkL_law_173 : zLkH mL_law 173 mL_reached 4 := ⟨⟨yiL_reached.1, yiL_reached.2.1, yiL_reached.2.2.1, yiL_reached.2.2.2, by decide, by decide⟩, ycL_reached, zT_in 631 (by decide +kernel) rfl, ysL_reached⟩
theorem lkL_law_175 : zLkV mL_law 175 mX8_reached 2 := ⟨⟨yiX8_reached.1, yiX8_reached.2.1, yiX8_reached.2.2.1, yiX8_reached.2.2.2, by decide, by decide⟩, ycX8_reached, zT_in 1277 (by decide +kernel) rfl, yvX8_reached, ywX8_reached⟩
theorem lkL_law_176 : zLkH mL_law 176 mL_versionOf 4 := ⟨⟨yiL_versionOf.1, yiL_versionOf.2.1, yiL_versionOf.2.2.1, yiL_versionOf.2.2.2, by decide, by decide⟩, ycL_versionOf, zT_in 659 (by decide +kernel) rfl, ysL_versionOf⟩
theorem lkL_law_178 : zLkV mL_law 178 mX8_versionOf 2 := ⟨⟨yiX8_versionOf.1, yiX8_versionOf.2.1, yiX8_versionOf.2.2.1, yiX8_versionOf.2.2.2, by decide, by decide⟩, ycX8_versionOf, zT_in 1281 (by decide +kernel) rfl, yvX8_versionOf, ywX8_versionOf⟩
theorem lkL_law_179 : zLkH mL_law 179 mL_maker 4 := ⟨⟨yiL_maker.1, yiL_maker.2.1, yiL_maker.2.2.1, yiL_maker.2.2.2, by decide, by decide⟩, ycL_maker, zT_in 688 (by decide +kernel) rfl, ysL_maker⟩
theorem lkL_law_181 : zLkV mL_law 181 mX8_maker 2 := ⟨⟨yiX8_maker.1, yiX8_maker.2.1, yiX8_maker.2.2.1, yiX8_maker.2.2.2, by decide, by decide⟩, ycX8_maker, zT_in 1301 (by decide +kernel) rfl, yvX8_maker, ywX8_maker⟩
theorem lkL_law_182 : zLkH mL_law 182 mL_had 4 := ⟨⟨yiL_had.1, yiL_had.2.1, yiL_had.2.2.1, yiL_had.2.2.2, by decide, by decide⟩, ycL_had, zT_in 700 (by decide +kernel) rfl, ysL_had⟩
theorem lkL_law_184 : zLkV mL_law 184 mX8_had 2 := ⟨⟨yiX8_had.1, yiX8_had.2.1, yiX8_had.2.2.1, yiX8_had.2.2.2, by decide, by decide⟩, ycX8_had, zT_in 1305 (by decide +kernel) rfl, yvX8_had, ywX8_had⟩
theorem lkL_law_185 : zLkH mL_law 185 mL_since 4 := ⟨⟨yiL_since.1, yiL_since.2.1, yiL_since.2.2.1, yiL_since.2.2.2, by decide, by decide⟩, ycL_since, zT_in 713 (by decide +kernel) rfl, ysL_since⟩
theorem lkL_law_187 : zLkV mL_law 187 mX8_since 2 := ⟨⟨yiX8_since.1, yiX8_since.2.1, yiX8_since.2.2.1, yiX8_since.2.2.2, by decide, by decide⟩, ycX8_since, zT_in 1309 (by decide +kernel) rfl, yvX8_since, ywX8_since⟩
theorem lkL_law_188 : zLkH mL_law 188 mL_common 4 := ⟨⟨yiL_common.1, yiL_common.2.1, yiL_common.2.2.1, yiL_common.2.2.2, by decide, by decide⟩, ycL_common, zT_in 724 (by decide +kernel) rfl, ysL_common⟩
theorem lkL_law_190 : zLkV mL_law 190 mX8_common 2 := ⟨⟨yiX8_common.1, yiX8_common.2.1, yiX8_common.2.2.1, yiX8_common.2.2.2, by decide, by decide⟩, ycX8_common, zT_in 1313 (by decide +kernel) rfl, yvX8_common, ywX8_common⟩
theorem lkL_law_191 : zLkH mL_law 191 mL_apart 4 := ⟨⟨yiL_apart.1, yiL_apart.2.1, yiL_apart.2.2.1, yiL_apart.2.2.2, by decide, by decide⟩, ycL_apart, zT_in 735 (by decide +kernel) rfl, ysL_apart⟩
theorem lkL_law_193 : zLkV mL_law 193 mX8_apart 2 := ⟨⟨yiX8_apart.1, yiX8_apart.2.1, yiX8_apart.2.2.1, yiX8_apart.2.2.2, by decide, by decide⟩, ycX8_apart, zT_in 1321 (by decide +kernel) rfl, yvX8_apart, ywX8_apart⟩
theorem lkL_law_194 : zLkH mL_law 194 mL_shared 4 := ⟨⟨yiL_shared.1, yiL_shared.2.1, yiL_shared.2.2.1, yiL_shared.2.2.2, by decide, by decide⟩, ycL_shared, zT_in 743 (by decide +kernel) rfl, ysL_shared⟩
theorem lkL_law_196 : zLkV mL_law 196 mX8_shared 2 := ⟨⟨yiX8_shared.1, yiX8_shared.2.1, yiX8_shared.2.2.1, yiX8_shared.2.2.2, by decide, by decide⟩, ycX8_shared, zT_in 1325 (by decide +kernel) rfl, yvX8_shared, ywX8_shared⟩
theorem lkL_law_197 : zLkH mL_law 197 mL_isOf 4 := ⟨⟨yiL_isOf.1, yiL_isOf.2.1, yiL_isOf.2.2.1, yiL_isOf.2.2.2, by decide, by decide⟩, ycL_isOf, zT_in 754 (by decide +kernel) rfl, ysL_isOf⟩
theorem lkL_law_199 : zLkV mL_law 199 mX8_isOf 2 := ⟨⟨yiX8_isOf.1, yiX8_isOf.2.1, yiX8_isOf.2.2.1, yiX8_isOf.2.2.2, by decide, by decide⟩, ycX8_isOf, zT_in 1329 (by decide +kernel) rfl, yvX8_isOf, ywX8_isOf⟩
theorem lkL_law_200 : zLkH mL_law 200 mL_users 4 := ⟨⟨yiL_users.1, yiL_users.2.1, yiL_users.2.2.1, yiL_users.2.2.2, by decide, by decide⟩, ycL_users, zT_in 761 (by decide +kernel) rfl, ysL_users⟩
theorem lkL_law_202 : zLkV mL_law 202 mX8_users 2 := ⟨⟨yiX8_users.1, yiX8_users.2.1, yiX8_users.2.2.1, yiX8_users.2.2.2, by decide, by decide⟩, ycX8_users, zT_in 1333 (by decide +kernel) rfl, yvX8_users, ywX8_users⟩
theorem lkL_law_203 : zLkH mL_law 203 mL_wouldMake 4 := ⟨⟨yiL_wouldMake.1, yiL_wouldMake.2.1, yiL_wouldMake.2.2.1, yiL_wouldMake.2.2.2, by decide, by decide⟩, ycL_wouldMake, zT_in 772 (by decide +kernel) rfl, ysL_wouldMake⟩
theorem lkL_law_205 : zLkV mL_law 205 mX8_wouldMake 2 := ⟨⟨yiX8_wouldMake.1, yiX8_wouldMake.2.1, yiX8_wouldMake.2.2.1, yiX8_wouldMake.2.2.2, by decide, by decide⟩, ycX8_wouldMake, zT_in 1341 (by decide +kernel) rfl, yvX8_wouldMake, ywX8_wouldMake⟩
theorem lkL_law_206 : zLkH mL_law 206 mL_alike 3 := ⟨⟨yiL_alike.1, yiL_alike.2.1, yiL_alike.2.2.1, yiL_alike.2.2.2, by decide, by decide⟩, ycL_alike, zT_in 780 (by decide +kernel) rfl, ysL_alike⟩
theorem lkL_law_208 : zLkV mL_law 208 mX8_alike 1 := ⟨⟨yiX8_alike.1, yiX8_alike.2.1, yiX8_alike.2.2.1, yiX8_alike.2.2.2, by decide, by decide⟩, ycX8_alike, zT_in 1345 (by decide +kernel) rfl, yvX8_alike, ywX8_alike⟩
theorem lkL_law_209 : zLkH mL_law 209 mL_richest 3 := ⟨⟨yiL_richest.1, yiL_richest.2.1, yiL_richest.2.2.1, yiL_richest.2.2.2, by decide, by decide⟩, ycL_richest, zT_in 791 (by decide +kernel) rfl, ysL_richest⟩
theorem lkL_law_211 : zLkV mL_law 211 mX8_richest 1 := ⟨⟨yiX8_richest.1, yiX8_richest.2.1, yiX8_richest.2.2.1, yiX8_richest.2.2.2, by decide, by decide⟩, ycX8_richest, zT_in 1349 (by decide +kernel) rfl, yvX8_richest, ywX8_richest⟩
theorem lkL_law_212 : zLkH mL_law 212 mL_busiest 2 := ⟨⟨yiL_busiest.1, yiL_busiest.2.1, yiL_busiest.2.2.1, yiL_busiest.2.2.2, by decide, by decide⟩, ycL_busiest, zT_in 807 (by decide +kernel) rfl, ysL_busiest⟩
theorem lkL_law_215 : zLkV mL_law 215 mX8_busiest 0 := ⟨⟨yiX8_busiest.1, yiX8_busiest.2.1, yiX8_busiest.2.2.1, yiX8_busiest.2.2.2, by decide, by decide⟩, ycX8_busiest, zT_in 1353 (by decide +kernel) rfl, yvX8_busiest, ywX8_busiest⟩
theorem lkL_law_216 : zLkH mL_law 216 mL_append 3 := ⟨⟨yiL_append.1, yiL_append.2.1, yiL_append.2.2.1, yiL_append.2.2.2, by decide, by decide⟩, ycL_append, zT_in 824 (by decide +kernel) rfl, ysL_append⟩
theorem lkL_law_219 : zLkV mL_law 219 mX8_append 1 := ⟨⟨yiX8_append.1, yiX8_append.2.1, yiX8_append.2.2.1, yiX8_append.2.2.2, by decide, by decide⟩, ycX8_append, zT_in 1361 (by decide +kernel) rfl, yvX8_append, ywX8_append⟩
theorem lkL_law_220 : zLkH mL_law 220 mL_commands 2 := ⟨⟨yiL_commands.1, yiL_commands.2.1, yiL_commands.2.2.1, yiL_commands.2.2.2, by decide, by decide⟩, ycL_commands, zT_in 861 (by decide +kernel) rfl, ysL_commands⟩
theorem lkL_law_222 : zLkV mL_law 222 mX8_commands 0 := ⟨⟨yiX8_commands.1, yiX8_commands.2.1, yiX8_commands.2.2.1, yiX8_commands.2.2.2, by decide, by decide⟩, ycX8_commands, zT_in 1365 (by decide +kernel) rfl, yvX8_commands, ywX8_commands⟩
theorem lkL_law_223 : zLkV mL_law 223 mX7_faultPosition 0 := ⟨⟨yiX7_faultPosition.1, yiX7_faultPosition.2.1, yiX7_faultPosition.2.2.1, yiX7_faultPosition.2.2.2, by decide, by decide⟩, ycX7_faultPosition, zT_in 244 (by decide +kernel) rfl, yvX7_faultPosition, ywX7_faultPosition⟩
theorem lkL_law_226 : zLkV mL_law 226 mX8_faultPosition 0 := ⟨⟨yiX8_faultPosition.1, yiX8_faultPosition.2.1, yiX8_faultPosition.2.2.1, yiX8_faultPosition.2.2.2, by decide, by decide⟩, ycX8_faultPosition, zT_in 1398 (by decide +kernel) rfl, yvX8_faultPosition, ywX8_faultPosition⟩
theorem lkL_law_227 : zLkH mL_law 227 mL_reason 3 := ⟨⟨yiL_reason.1, yiL_reason.2.1, yiL_reason.2.2.1, yiL_reason.2.2.2, by decide, by decide⟩, ycL_reason, zT_in 981 (by decide +kernel) rfl, ysL_reason⟩
theorem lkL_law_229 : zLkV mL_law 229 mX8_reason 1 := ⟨⟨yiX8_reason.1, yiX8_reason.2.1, yiX8_reason.2.2.1, yiX8_reason.2.2.2, by decide, by decide⟩, ycX8_reason, zT_in 1402 (by decide +kernel) rfl, yvX8_reason, ywX8_reason⟩
theorem lkL_law_230 : zLkH mL_law 230 mL_line 3 := ⟨⟨yiL_line.1, yiL_line.2.1, yiL_line.2.2.1, yiL_line.2.2.2, by decide, by decide⟩, ycL_line, zT_in 990 (by decide +kernel) rfl, ysL_line⟩
theorem lkL_law_232 : zLkV mL_law 232 mX8_line 1 := ⟨⟨yiX8_line.1, yiX8_line.2.1, yiX8_line.2.2.1, yiX8_line.2.2.2, by decide, by decide⟩, ycX8_line, zT_in 1406 (by decide +kernel) rfl, yvX8_line, ywX8_line⟩
theorem lkL_law_233 : zLkH mL_law 233 mL_lineage 3 := ⟨⟨yiL_lineage.1, yiL_lineage.2.1, yiL_lineage.2.2.1, yiL_lineage.2.2.2, by decide, by decide⟩, ycL_lineage, zT_in 1018 (by decide +kernel) rfl, ysL_lineage⟩
theorem lkL_law_235 : zLkV mL_law 235 mX8_lineage 1 := ⟨⟨yiX8_lineage.1, yiX8_lineage.2.1, yiX8_lineage.2.2.1, yiX8_lineage.2.2.2, by decide, by decide⟩, ycX8_lineage, zT_in 1418 (by decide +kernel) rfl, yvX8_lineage, ywX8_lineage⟩
theorem lkL_law_236 : zLkH mL_law 236 mL_character 3 := ⟨⟨yiL_character.1, yiL_character.2.1, yiL_character.2.2.1, yiL_character.2.2.2, by decide, by decide⟩, ycL_character, zT_in 1025 (by decide +kernel) rfl, ysL_character⟩
theorem lkL_law_238 : zLkV mL_law 238 mX8_character 1 := ⟨⟨yiX8_character.1, yiX8_character.2.1, yiX8_character.2.2.1, yiX8_character.2.2.2, by decide, by decide⟩, ycX8_character, zT_in 1422 (by decide +kernel) rfl, yvX8_character, ywX8_character⟩
theorem lkL_law_239 : zLkH mL_law 239 mL_mean 3 := ⟨⟨yiL_mean.1, yiL_mean.2.1, yiL_mean.2.2.1, yiL_mean.2.2.2, by decide, by decide⟩, ycL_mean, zT_in 1037 (by decide +kernel) rfl, ysL_mean⟩
theorem lkL_law_242 : zLkV mL_law 242 mX8_mean 1 := ⟨⟨yiX8_mean.1, yiX8_mean.2.1, yiX8_mean.2.2.1, yiX8_mean.2.2.2, by decide, by decide⟩, ycX8_mean, zT_in 1426 (by decide +kernel) rfl, yvX8_mean, ywX8_mean⟩
theorem lkL_law_243 : zLkV mL_law 243 mX7_spared 0 := ⟨⟨yiX7_spared.1, yiX7_spared.2.1, yiX7_spared.2.2.1, yiX7_spared.2.2.2, by decide, by decide⟩, ycX7_spared, zT_in 248 (by decide +kernel) rfl, yvX7_spared, ywX7_spared⟩
theorem lkL_law_247 : zLkV mL_law 247 mX8_spared 0 := ⟨⟨yiX8_spared.1, yiX8_spared.2.1, yiX8_spared.2.2.1, yiX8_spared.2.2.2, by decide, by decide⟩, ycX8_spared, zT_in 1431 (by decide +kernel) rfl, yvX8_spared, ywX8_spared⟩
theorem lkL_law_248 : zLkH mL_law 248 mL_account 3 := ⟨⟨yiL_account.1, yiL_account.2.1, yiL_account.2.2.1, yiL_account.2.2.2, by decide, by decide⟩, ycL_account, zT_in 1046 (by decide +kernel) rfl, ysL_account⟩
theorem lkL_law_250 : zLkV mL_law 250 mX8_account 1 := ⟨⟨yiX8_account.1, yiX8_account.2.1, yiX8_account.2.2.1, yiX8_account.2.2.2, by decide, by decide⟩, ycX8_account, zT_in 1439 (by decide +kernel) rfl, yvX8_account, ywX8_account⟩
theorem lkL_law_251 : zLkH mL_law 251 mL_undo 2 := ⟨⟨yiL_undo.1, yiL_undo.2.1, yiL_undo.2.2.1, yiL_undo.2.2.2, by decide, by decide⟩, ycL_undo, zT_in 1068 (by decide +kernel) rfl, ysL_undo⟩
theorem lkL_law_253 : zLkV mL_law 253 mX8_undo 0 := ⟨⟨yiX8_undo.1, yiX8_undo.2.1, yiX8_undo.2.2.1, yiX8_undo.2.2.2, by decide, by decide⟩, ycX8_undo, zT_in 1447 (by decide +kernel) rfl, yvX8_undo, ywX8_undo⟩
theorem lkL_law_254 : zLkV mL_law 254 mX7_save 0 := ⟨⟨yiX7_save.1, yiX7_save.2.1, yiX7_save.2.2.1, yiX7_save.2.2.2, by decide, by decide⟩, ycX7_save, zT_in 275 (by decide +kernel) rfl, yvX7_save, ywX7_save⟩
theorem lkL_law_257 : zLkV mL_law 257 mX8_save 0 := ⟨⟨yiX8_save.1, yiX8_save.2.1, yiX8_save.2.2.1, yiX8_save.2.2.2, by decide, by decide⟩, ycX8_save, zT_in 1451 (by decide +kernel) rfl, yvX8_save, ywX8_save⟩
theorem lkL_law_258 : zLkH mL_law 258 mL_restore 2 := ⟨⟨yiL_restore.1, yiL_restore.2.1, yiL_restore.2.2.1, yiL_restore.2.2.2, by decide, by decide⟩, ycL_restore, zT_in 1080 (by decide +kernel) rfl, ysL_restore⟩
theorem lkL_law_260 : zLkV mL_law 260 mX8_restore 0 := ⟨⟨yiX8_restore.1, yiX8_restore.2.1, yiX8_restore.2.2.1, yiX8_restore.2.2.2, by decide, by decide⟩, ycX8_restore, zT_in 1455 (by decide +kernel) rfl, yvX8_restore, ywX8_restore⟩
